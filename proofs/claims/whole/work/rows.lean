section
-- ===== PART A: goes FIRST, ahead of the names: the tables' words, and 'selects' of the private methods out of them =====
/-- a private method of a class that the tables say can be made, by its rows of tables_1 -/
def lw_okq (q : MethodName × Nat) : Prop := (q.1.cls ≠ "java/lang/invoke/MethodHandle" ∧ q.1.cls ≠ "java/lang/invoke/VarHandle") ∧ Cond.instantiable q.1.cls q.2 ∈ tables_1 ∧ Cond.privateMethod q.1 ∈ tables_1 ∧ Cond.instanceMethod q.1 ∈ tables_1
theorem lw_p0 : lw_okq (⟨"RoomToSpare", "refuse", "(I)I"⟩, 8) := ⟨⟨by decide +kernel, by decide +kernel⟩, List.mem_of_getElem? (i := 9) (by decide +kernel), List.mem_of_getElem? (i := 139) (by decide +kernel), List.mem_of_getElem? (i := 140) (by decide +kernel)⟩
theorem lw_p1 : lw_okq (⟨"RoomToSpare", "brokenPlace", "()I"⟩, 8) := ⟨⟨by decide +kernel, by decide +kernel⟩, List.mem_of_getElem? (i := 9) (by decide +kernel), List.mem_of_getElem? (i := 155) (by decide +kernel), List.mem_of_getElem? (i := 156) (by decide +kernel)⟩
theorem lw_p2 : lw_okq (⟨"RoomToSpare", "readStatements", "()I"⟩, 8) := ⟨⟨by decide +kernel, by decide +kernel⟩, List.mem_of_getElem? (i := 9) (by decide +kernel), List.mem_of_getElem? (i := 172) (by decide +kernel), List.mem_of_getElem? (i := 173) (by decide +kernel)⟩
theorem lw_p3 : lw_okq (⟨"RoomToSpare", "comes", "(I)Z"⟩, 8) := ⟨⟨by decide +kernel, by decide +kernel⟩, List.mem_of_getElem? (i := 9) (by decide +kernel), List.mem_of_getElem? (i := 188) (by decide +kernel), List.mem_of_getElem? (i := 189) (by decide +kernel)⟩
theorem lw_p4 : lw_okq (⟨"RoomToSpare", "comesHouse", "(I)Z"⟩, 8) := ⟨⟨by decide +kernel, by decide +kernel⟩, List.mem_of_getElem? (i := 9) (by decide +kernel), List.mem_of_getElem? (i := 192) (by decide +kernel), List.mem_of_getElem? (i := 193) (by decide +kernel)⟩
theorem lw_p5 : lw_okq (⟨"RoomToSpare", "number", "(II)I"⟩, 8) := ⟨⟨by decide +kernel, by decide +kernel⟩, List.mem_of_getElem? (i := 9) (by decide +kernel), List.mem_of_getElem? (i := 196) (by decide +kernel), List.mem_of_getElem? (i := 197) (by decide +kernel)⟩
theorem lw_p6 : lw_okq (⟨"RoomToSpare", "comesPeople", "(I)Z"⟩, 8) := ⟨⟨by decide +kernel, by decide +kernel⟩, List.mem_of_getElem? (i := 9) (by decide +kernel), List.mem_of_getElem? (i := 204) (by decide +kernel), List.mem_of_getElem? (i := 205) (by decide +kernel)⟩
theorem lw_p7 : lw_okq (⟨"RoomToSpare", "comesDust", "(I)Z"⟩, 8) := ⟨⟨by decide +kernel, by decide +kernel⟩, List.mem_of_getElem? (i := 9) (by decide +kernel), List.mem_of_getElem? (i := 213) (by decide +kernel), List.mem_of_getElem? (i := 214) (by decide +kernel)⟩
theorem lw_p8 : lw_okq (⟨"RoomToSpare", "comesTurned", "(I)Z"⟩, 8) := ⟨⟨by decide +kernel, by decide +kernel⟩, List.mem_of_getElem? (i := 9) (by decide +kernel), List.mem_of_getElem? (i := 217) (by decide +kernel), List.mem_of_getElem? (i := 218) (by decide +kernel)⟩
theorem lw_p9 : lw_okq (⟨"RoomToSpare", "comesInspector", "(I)Z"⟩, 8) := ⟨⟨by decide +kernel, by decide +kernel⟩, List.mem_of_getElem? (i := 9) (by decide +kernel), List.mem_of_getElem? (i := 221) (by decide +kernel), List.mem_of_getElem? (i := 222) (by decide +kernel)⟩
theorem lw_p10 : lw_okq (⟨"RoomToSpare", "comesWeeks", "(I)Z"⟩, 8) := ⟨⟨by decide +kernel, by decide +kernel⟩, List.mem_of_getElem? (i := 9) (by decide +kernel), List.mem_of_getElem? (i := 225) (by decide +kernel), List.mem_of_getElem? (i := 226) (by decide +kernel)⟩
theorem lw_p11 : lw_okq (⟨"RoomToSpare$Town", "inspect", "()V"⟩, 6) := ⟨⟨by decide +kernel, by decide +kernel⟩, List.mem_of_getElem? (i := 17) (by decide +kernel), List.mem_of_getElem? (i := 268) (by decide +kernel), List.mem_of_getElem? (i := 269) (by decide +kernel)⟩
theorem lw_p12 : lw_okq (⟨"RoomToSpare$Town", "lose", "(LRoomToSpare$House;I)V"⟩, 6) := ⟨⟨by decide +kernel, by decide +kernel⟩, List.mem_of_getElem? (i := 17) (by decide +kernel), List.mem_of_getElem? (i := 276) (by decide +kernel), List.mem_of_getElem? (i := 277) (by decide +kernel)⟩
theorem lw_p13 : lw_okq (⟨"RoomToSpare", "firstLost", "()I"⟩, 8) := ⟨⟨by decide +kernel, by decide +kernel⟩, List.mem_of_getElem? (i := 9) (by decide +kernel), List.mem_of_getElem? (i := 353) (by decide +kernel), List.mem_of_getElem? (i := 354) (by decide +kernel)⟩
theorem lw_p14 : lw_okq (⟨"RoomToSpare", "weeksTillLost", "(I)I"⟩, 8) := ⟨⟨by decide +kernel, by decide +kernel⟩, List.mem_of_getElem? (i := 9) (by decide +kernel), List.mem_of_getElem? (i := 357) (by decide +kernel), List.mem_of_getElem? (i := 358) (by decide +kernel)⟩
theorem lw_p15 : lw_okq (⟨"RoomToSpare", "keptIfHalfMoves", "(III)I"⟩, 8) := ⟨⟨by decide +kernel, by decide +kernel⟩, List.mem_of_getElem? (i := 9) (by decide +kernel), List.mem_of_getElem? (i := 378) (by decide +kernel), List.mem_of_getElem? (i := 379) (by decide +kernel)⟩
def lw_privs_1 : List (MethodName × Nat) := [(⟨"RoomToSpare", "refuse", "(I)I"⟩, 8), (⟨"RoomToSpare", "brokenPlace", "()I"⟩, 8), (⟨"RoomToSpare", "readStatements", "()I"⟩, 8), (⟨"RoomToSpare", "comes", "(I)Z"⟩, 8), (⟨"RoomToSpare", "comesHouse", "(I)Z"⟩, 8), (⟨"RoomToSpare", "number", "(II)I"⟩, 8), (⟨"RoomToSpare", "comesPeople", "(I)Z"⟩, 8), (⟨"RoomToSpare", "comesDust", "(I)Z"⟩, 8), (⟨"RoomToSpare", "comesTurned", "(I)Z"⟩, 8), (⟨"RoomToSpare", "comesInspector", "(I)Z"⟩, 8), (⟨"RoomToSpare", "comesWeeks", "(I)Z"⟩, 8), (⟨"RoomToSpare$Town", "inspect", "()V"⟩, 6), (⟨"RoomToSpare$Town", "lose", "(LRoomToSpare$House;I)V"⟩, 6), (⟨"RoomToSpare", "firstLost", "()I"⟩, 8), (⟨"RoomToSpare", "weeksTillLost", "(I)I"⟩, 8), (⟨"RoomToSpare", "keptIfHalfMoves", "(III)I"⟩, 8)]
theorem lw_r1 : ∀ q ∈ lw_privs_1, lw_okq q := List.forall_mem_cons.mpr ⟨lw_p0, List.forall_mem_cons.mpr ⟨lw_p1, List.forall_mem_cons.mpr ⟨lw_p2, List.forall_mem_cons.mpr ⟨lw_p3, List.forall_mem_cons.mpr ⟨lw_p4, List.forall_mem_cons.mpr ⟨lw_p5, List.forall_mem_cons.mpr ⟨lw_p6, List.forall_mem_cons.mpr ⟨lw_p7, List.forall_mem_cons.mpr ⟨lw_p8, List.forall_mem_cons.mpr ⟨lw_p9, List.forall_mem_cons.mpr ⟨lw_p10, List.forall_mem_cons.mpr ⟨lw_p11, List.forall_mem_cons.mpr ⟨lw_p12, List.forall_mem_cons.mpr ⟨lw_p13, List.forall_mem_cons.mpr ⟨lw_p14, List.forall_mem_cons.mpr ⟨lw_p15, fun _ h => absurd h List.not_mem_nil⟩⟩⟩⟩⟩⟩⟩⟩⟩⟩⟩⟩⟩⟩⟩⟩
theorem lw_p16 : lw_okq (⟨"RoomToSpare", "noneLostIfAired", "(II)Z"⟩, 8) := ⟨⟨by decide +kernel, by decide +kernel⟩, List.mem_of_getElem? (i := 9) (by decide +kernel), List.mem_of_getElem? (i := 388) (by decide +kernel), List.mem_of_getElem? (i := 389) (by decide +kernel)⟩
theorem lw_p17 : lw_okq (⟨"RoomToSpare", "noneLostWithin", "(I)Z"⟩, 8) := ⟨⟨by decide +kernel, by decide +kernel⟩, List.mem_of_getElem? (i := 9) (by decide +kernel), List.mem_of_getElem? (i := 392) (by decide +kernel), List.mem_of_getElem? (i := 393) (by decide +kernel)⟩
theorem lw_p18 : lw_okq (⟨"RoomToSpare", "lasts", "()I"⟩, 8) := ⟨⟨by decide +kernel, by decide +kernel⟩, List.mem_of_getElem? (i := 9) (by decide +kernel), List.mem_of_getElem? (i := 425) (by decide +kernel), List.mem_of_getElem? (i := 426) (by decide +kernel)⟩
theorem lw_p19 : lw_okq (⟨"RoomToSpare", "worth", "(IZIZI)I"⟩, 8) := ⟨⟨by decide +kernel, by decide +kernel⟩, List.mem_of_getElem? (i := 9) (by decide +kernel), List.mem_of_getElem? (i := 456) (by decide +kernel), List.mem_of_getElem? (i := 457) (by decide +kernel)⟩
theorem lw_p20 : lw_okq (⟨"RoomToSpare", "refuseLong", "(I)J"⟩, 8) := ⟨⟨by decide +kernel, by decide +kernel⟩, List.mem_of_getElem? (i := 9) (by decide +kernel), List.mem_of_getElem? (i := 468) (by decide +kernel), List.mem_of_getElem? (i := 469) (by decide +kernel)⟩
theorem lw_p21 : lw_okq (⟨"RoomToSpare", "isKeptWithGuests", "(III)Z"⟩, 8) := ⟨⟨by decide +kernel, by decide +kernel⟩, List.mem_of_getElem? (i := 9) (by decide +kernel), List.mem_of_getElem? (i := 473) (by decide +kernel), List.mem_of_getElem? (i := 474) (by decide +kernel)⟩
theorem lw_p22 : lw_okq (⟨"RoomToSpare", "dustIsAsTold", "(I)Z"⟩, 8) := ⟨⟨by decide +kernel, by decide +kernel⟩, List.mem_of_getElem? (i := 9) (by decide +kernel), List.mem_of_getElem? (i := 500) (by decide +kernel), List.mem_of_getElem? (i := 501) (by decide +kernel)⟩
theorem lw_p23 : lw_okq (⟨"RoomToSpare", "drawPeople", "(I)I"⟩, 8) := ⟨⟨by decide +kernel, by decide +kernel⟩, List.mem_of_getElem? (i := 9) (by decide +kernel), List.mem_of_getElem? (i := 520) (by decide +kernel), List.mem_of_getElem? (i := 521) (by decide +kernel)⟩
theorem lw_p24 : lw_okq (⟨"RoomToSpare", "refused", "(I)I"⟩, 8) := ⟨⟨by decide +kernel, by decide +kernel⟩, List.mem_of_getElem? (i := 9) (by decide +kernel), List.mem_of_getElem? (i := 539) (by decide +kernel), List.mem_of_getElem? (i := 540) (by decide +kernel)⟩
theorem lw_p25 : lw_okq (⟨"RoomToSpareModel", "no", "(I)I"⟩, 13) := ⟨⟨by decide +kernel, by decide +kernel⟩, List.mem_of_getElem? (i := 543) (by decide +kernel), List.mem_of_getElem? (i := 593) (by decide +kernel), List.mem_of_getElem? (i := 594) (by decide +kernel)⟩
theorem lw_p26 : lw_okq (⟨"RoomToSpareModel", "readsStatement", "()Z"⟩, 13) := ⟨⟨by decide +kernel, by decide +kernel⟩, List.mem_of_getElem? (i := 543) (by decide +kernel), List.mem_of_getElem? (i := 601) (by decide +kernel), List.mem_of_getElem? (i := 602) (by decide +kernel)⟩
theorem lw_p27 : lw_okq (⟨"RoomToSpareModel", "here", "()I"⟩, 13) := ⟨⟨by decide +kernel, by decide +kernel⟩, List.mem_of_getElem? (i := 543) (by decide +kernel), List.mem_of_getElem? (i := 605) (by decide +kernel), List.mem_of_getElem? (i := 606) (by decide +kernel)⟩
theorem lw_p28 : lw_okq (⟨"RoomToSpareModel", "readsKind", "()Z"⟩, 13) := ⟨⟨by decide +kernel, by decide +kernel⟩, List.mem_of_getElem? (i := 543) (by decide +kernel), List.mem_of_getElem? (i := 609) (by decide +kernel), List.mem_of_getElem? (i := 610) (by decide +kernel)⟩
theorem lw_p29 : lw_okq (⟨"RoomToSpareModel", "readsNumber", "(II)Z"⟩, 13) := ⟨⟨by decide +kernel, by decide +kernel⟩, List.mem_of_getElem? (i := 543) (by decide +kernel), List.mem_of_getElem? (i := 616) (by decide +kernel), List.mem_of_getElem? (i := 617) (by decide +kernel)⟩
theorem lw_p30 : lw_okq (⟨"RoomToSpareModel", "isDone", "(I)Z"⟩, 13) := ⟨⟨by decide +kernel, by decide +kernel⟩, List.mem_of_getElem? (i := 543) (by decide +kernel), List.mem_of_getElem? (i := 626) (by decide +kernel), List.mem_of_getElem? (i := 627) (by decide +kernel)⟩
theorem lw_p31 : lw_okq (⟨"RoomToSpareModel", "addsHouse", "()Z"⟩, 13) := ⟨⟨by decide +kernel, by decide +kernel⟩, List.mem_of_getElem? (i := 543) (by decide +kernel), List.mem_of_getElem? (i := 630) (by decide +kernel), List.mem_of_getElem? (i := 631) (by decide +kernel)⟩
def lw_privs_2 : List (MethodName × Nat) := [(⟨"RoomToSpare", "noneLostIfAired", "(II)Z"⟩, 8), (⟨"RoomToSpare", "noneLostWithin", "(I)Z"⟩, 8), (⟨"RoomToSpare", "lasts", "()I"⟩, 8), (⟨"RoomToSpare", "worth", "(IZIZI)I"⟩, 8), (⟨"RoomToSpare", "refuseLong", "(I)J"⟩, 8), (⟨"RoomToSpare", "isKeptWithGuests", "(III)Z"⟩, 8), (⟨"RoomToSpare", "dustIsAsTold", "(I)Z"⟩, 8), (⟨"RoomToSpare", "drawPeople", "(I)I"⟩, 8), (⟨"RoomToSpare", "refused", "(I)I"⟩, 8), (⟨"RoomToSpareModel", "no", "(I)I"⟩, 13), (⟨"RoomToSpareModel", "readsStatement", "()Z"⟩, 13), (⟨"RoomToSpareModel", "here", "()I"⟩, 13), (⟨"RoomToSpareModel", "readsKind", "()Z"⟩, 13), (⟨"RoomToSpareModel", "readsNumber", "(II)Z"⟩, 13), (⟨"RoomToSpareModel", "isDone", "(I)Z"⟩, 13), (⟨"RoomToSpareModel", "addsHouse", "()Z"⟩, 13)]
theorem lw_r2 : ∀ q ∈ lw_privs_2, lw_okq q := List.forall_mem_cons.mpr ⟨lw_p16, List.forall_mem_cons.mpr ⟨lw_p17, List.forall_mem_cons.mpr ⟨lw_p18, List.forall_mem_cons.mpr ⟨lw_p19, List.forall_mem_cons.mpr ⟨lw_p20, List.forall_mem_cons.mpr ⟨lw_p21, List.forall_mem_cons.mpr ⟨lw_p22, List.forall_mem_cons.mpr ⟨lw_p23, List.forall_mem_cons.mpr ⟨lw_p24, List.forall_mem_cons.mpr ⟨lw_p25, List.forall_mem_cons.mpr ⟨lw_p26, List.forall_mem_cons.mpr ⟨lw_p27, List.forall_mem_cons.mpr ⟨lw_p28, List.forall_mem_cons.mpr ⟨lw_p29, List.forall_mem_cons.mpr ⟨lw_p30, List.forall_mem_cons.mpr ⟨lw_p31, fun _ h => absurd h List.not_mem_nil⟩⟩⟩⟩⟩⟩⟩⟩⟩⟩⟩⟩⟩⟩⟩⟩
theorem lw_p32 : lw_okq (⟨"RoomToSpareModel", "isHouse", "(I)Z"⟩, 13) := ⟨⟨by decide +kernel, by decide +kernel⟩, List.mem_of_getElem? (i := 543) (by decide +kernel), List.mem_of_getElem? (i := 637) (by decide +kernel), List.mem_of_getElem? (i := 638) (by decide +kernel)⟩
theorem lw_p33 : lw_okq (⟨"RoomToSpareModel", "setsOf", "(IIII)I"⟩, 13) := ⟨⟨by decide +kernel, by decide +kernel⟩, List.mem_of_getElem? (i := 543) (by decide +kernel), List.mem_of_getElem? (i := 685) (by decide +kernel), List.mem_of_getElem? (i := 686) (by decide +kernel)⟩
theorem lw_p34 : lw_okq (⟨"RoomToSpareModel", "sets", "(II)I"⟩, 13) := ⟨⟨by decide +kernel, by decide +kernel⟩, List.mem_of_getElem? (i := 543) (by decide +kernel), List.mem_of_getElem? (i := 692) (by decide +kernel), List.mem_of_getElem? (i := 693) (by decide +kernel)⟩
theorem lw_p35 : lw_okq (⟨"RoomToSpareModel", "takes", "(I)V"⟩, 13) := ⟨⟨by decide +kernel, by decide +kernel⟩, List.mem_of_getElem? (i := 543) (by decide +kernel), List.mem_of_getElem? (i := 731) (by decide +kernel), List.mem_of_getElem? (i := 732) (by decide +kernel)⟩
theorem lw_p36 : lw_okq (⟨"RoomToSpareModel", "firstLost", "()I"⟩, 13) := ⟨⟨by decide +kernel, by decide +kernel⟩, List.mem_of_getElem? (i := 543) (by decide +kernel), List.mem_of_getElem? (i := 743) (by decide +kernel), List.mem_of_getElem? (i := 744) (by decide +kernel)⟩
theorem lw_p37 : lw_okq (⟨"RoomToSpareModel", "lostOf", "(I)I"⟩, 13) := ⟨⟨by decide +kernel, by decide +kernel⟩, List.mem_of_getElem? (i := 543) (by decide +kernel), List.mem_of_getElem? (i := 748) (by decide +kernel), List.mem_of_getElem? (i := 749) (by decide +kernel)⟩
theorem lw_p38 : lw_okq (⟨"RoomToSpareModel", "whenLost", "(I)I"⟩, 13) := ⟨⟨by decide +kernel, by decide +kernel⟩, List.mem_of_getElem? (i := 543) (by decide +kernel), List.mem_of_getElem? (i := 752) (by decide +kernel), List.mem_of_getElem? (i := 753) (by decide +kernel)⟩
theorem lw_p39 : lw_okq (⟨"RoomToSpareModel", "keptThen", "(I)I"⟩, 13) := ⟨⟨by decide +kernel, by decide +kernel⟩, List.mem_of_getElem? (i := 543) (by decide +kernel), List.mem_of_getElem? (i := 767) (by decide +kernel), List.mem_of_getElem? (i := 768) (by decide +kernel)⟩
theorem lw_p40 : lw_okq (⟨"RoomToSpareModel", "isNoneLost", "(I)Z"⟩, 13) := ⟨⟨by decide +kernel, by decide +kernel⟩, List.mem_of_getElem? (i := 543) (by decide +kernel), List.mem_of_getElem? (i := 779) (by decide +kernel), List.mem_of_getElem? (i := 780) (by decide +kernel)⟩
theorem lw_p41 : lw_okq (⟨"RoomToSpareModel", "spareOnes", "()I"⟩, 13) := ⟨⟨by decide +kernel, by decide +kernel⟩, List.mem_of_getElem? (i := 543) (by decide +kernel), List.mem_of_getElem? (i := 799) (by decide +kernel), List.mem_of_getElem? (i := 800) (by decide +kernel)⟩
theorem lw_p42 : lw_okq (⟨"RoomToSpareModel", "fullest", "()I"⟩, 13) := ⟨⟨by decide +kernel, by decide +kernel⟩, List.mem_of_getElem? (i := 543) (by decide +kernel), List.mem_of_getElem? (i := 803) (by decide +kernel), List.mem_of_getElem? (i := 804) (by decide +kernel)⟩
theorem lw_p43 : lw_okq (⟨"RoomToSpareModel", "dustiest", "()I"⟩, 13) := ⟨⟨by decide +kernel, by decide +kernel⟩, List.mem_of_getElem? (i := 543) (by decide +kernel), List.mem_of_getElem? (i := 807) (by decide +kernel), List.mem_of_getElem? (i := 808) (by decide +kernel)⟩
theorem lw_p44 : lw_okq (⟨"RoomToSpareModel", "lostRun", "()I"⟩, 13) := ⟨⟨by decide +kernel, by decide +kernel⟩, List.mem_of_getElem? (i := 543) (by decide +kernel), List.mem_of_getElem? (i := 819) (by decide +kernel), List.mem_of_getElem? (i := 820) (by decide +kernel)⟩
theorem lw_p45 : lw_okq (⟨"RoomToSpareModel", "hasBy", "(IIIIII)I"⟩, 13) := ⟨⟨by decide +kernel, by decide +kernel⟩, List.mem_of_getElem? (i := 543) (by decide +kernel), List.mem_of_getElem? (i := 827) (by decide +kernel), List.mem_of_getElem? (i := 828) (by decide +kernel)⟩
theorem lw_p46 : lw_okq (⟨"RoomToSpareModel", "lets", "(I)V"⟩, 13) := ⟨⟨by decide +kernel, by decide +kernel⟩, List.mem_of_getElem? (i := 543) (by decide +kernel), List.mem_of_getElem? (i := 831) (by decide +kernel), List.mem_of_getElem? (i := 832) (by decide +kernel)⟩
theorem lw_p47 : lw_okq (⟨"RoomToSpareModel", "noWide", "(I)J"⟩, 13) := ⟨⟨by decide +kernel, by decide +kernel⟩, List.mem_of_getElem? (i := 543) (by decide +kernel), List.mem_of_getElem? (i := 839) (by decide +kernel), List.mem_of_getElem? (i := 840) (by decide +kernel)⟩
def lw_privs_3 : List (MethodName × Nat) := [(⟨"RoomToSpareModel", "isHouse", "(I)Z"⟩, 13), (⟨"RoomToSpareModel", "setsOf", "(IIII)I"⟩, 13), (⟨"RoomToSpareModel", "sets", "(II)I"⟩, 13), (⟨"RoomToSpareModel", "takes", "(I)V"⟩, 13), (⟨"RoomToSpareModel", "firstLost", "()I"⟩, 13), (⟨"RoomToSpareModel", "lostOf", "(I)I"⟩, 13), (⟨"RoomToSpareModel", "whenLost", "(I)I"⟩, 13), (⟨"RoomToSpareModel", "keptThen", "(I)I"⟩, 13), (⟨"RoomToSpareModel", "isNoneLost", "(I)Z"⟩, 13), (⟨"RoomToSpareModel", "spareOnes", "()I"⟩, 13), (⟨"RoomToSpareModel", "fullest", "()I"⟩, 13), (⟨"RoomToSpareModel", "dustiest", "()I"⟩, 13), (⟨"RoomToSpareModel", "lostRun", "()I"⟩, 13), (⟨"RoomToSpareModel", "hasBy", "(IIIIII)I"⟩, 13), (⟨"RoomToSpareModel", "lets", "(I)V"⟩, 13), (⟨"RoomToSpareModel", "noWide", "(I)J"⟩, 13)]
theorem lw_r3 : ∀ q ∈ lw_privs_3, lw_okq q := List.forall_mem_cons.mpr ⟨lw_p32, List.forall_mem_cons.mpr ⟨lw_p33, List.forall_mem_cons.mpr ⟨lw_p34, List.forall_mem_cons.mpr ⟨lw_p35, List.forall_mem_cons.mpr ⟨lw_p36, List.forall_mem_cons.mpr ⟨lw_p37, List.forall_mem_cons.mpr ⟨lw_p38, List.forall_mem_cons.mpr ⟨lw_p39, List.forall_mem_cons.mpr ⟨lw_p40, List.forall_mem_cons.mpr ⟨lw_p41, List.forall_mem_cons.mpr ⟨lw_p42, List.forall_mem_cons.mpr ⟨lw_p43, List.forall_mem_cons.mpr ⟨lw_p44, List.forall_mem_cons.mpr ⟨lw_p45, List.forall_mem_cons.mpr ⟨lw_p46, List.forall_mem_cons.mpr ⟨lw_p47, fun _ h => absurd h List.not_mem_nil⟩⟩⟩⟩⟩⟩⟩⟩⟩⟩⟩⟩⟩⟩⟩⟩
theorem lw_p48 : lw_okq (⟨"RoomToSpareModel", "drawn", "(I)I"⟩, 13) := ⟨⟨by decide +kernel, by decide +kernel⟩, List.mem_of_getElem? (i := 543) (by decide +kernel), List.mem_of_getElem? (i := 877) (by decide +kernel), List.mem_of_getElem? (i := 878) (by decide +kernel)⟩
def lw_privs_4 : List (MethodName × Nat) := [(⟨"RoomToSpareModel", "drawn", "(I)I"⟩, 13)]
theorem lw_r4 : ∀ q ∈ lw_privs_4, lw_okq q := List.forall_mem_cons.mpr ⟨lw_p48, fun _ h => absurd h List.not_mem_nil⟩
def lw_privs : List (MethodName × Nat) := lw_privs_1 ++ (lw_privs_2 ++ (lw_privs_3 ++ (lw_privs_4)))
def lw_tbl : List Cond := k2_sels lw_privs ++ tables_1
theorem lw_privs_ok : ∀ q ∈ lw_privs, lw_okq q := by
  show ∀ q ∈ lw_privs_1 ++ (lw_privs_2 ++ (lw_privs_3 ++ (lw_privs_4))), lw_okq q
  exact List.forall_mem_append.mpr ⟨lw_r1, List.forall_mem_append.mpr ⟨lw_r2, List.forall_mem_append.mpr ⟨lw_r3, lw_r4⟩⟩⟩
end
section
def RX0 : String := "RoomToSpare$House"
def TX0 : u_T := fun k => match k with
  | 0 => ("RoomToSpare$House", "kind", "I", false)
  | 1 => ("RoomToSpare$House", "figure", "I", false)
  | 2 => ("RoomToSpare$House", "rooms", "I", false)
  | 3 => ("RoomToSpare$House", "people", "I", false)
  | 4 => ("RoomToSpare$House", "dust", "I", false)
  | 5 => ("RoomToSpare$House", "dents", "I", false)
  | 6 => ("RoomToSpare$House", "kept", "Z", false)
  | _ => ("RoomToSpare$House", "lets", "Z", false)
def tyX0 : Nat → FieldType := fun k => match k with
  | 0 => .int
  | 1 => .int
  | 2 => .int
  | 3 => .int
  | 4 => .int
  | 5 => .int
  | 6 => .boolean
  | _ => .boolean
abbrev wsX00 : List Cond := u_ws RX0 TX0 8
theorem nmX0 : ∀ a, a < 8 → ∀ b, b < 8 → a ≠ b → (TX0 a).2.1 ≠ (TX0 b).2.1 := by decide +kernel
theorem tyX0_ok : ∀ k, k < 8 → parseFieldDescriptor (TX0 k).2.2.1 = some (tyX0 k) := by decide +kernel
abbrev cX0_init : ByteArray := prog_2_method_1_code
def yX0_init : MethodName := ⟨RX0, "<init>", "()V"⟩
abbrev cX0_become : ByteArray := prog_2_method_2_code
def yX0_become : MethodName := ⟨RX0, "become", "(LRoomToSpare$House;)V"⟩
abbrev cX0_crowd : ByteArray := prog_2_method_3_code
def yX0_crowd : MethodName := ⟨RX0, "crowd", "()I"⟩
abbrev cX0_dustIn : ByteArray := prog_2_method_4_code
def yX0_dustIn : MethodName := ⟨RX0, "dustIn", "(I)I"⟩
abbrev cX0_burns : ByteArray := prog_2_method_5_code
def yX0_burns : MethodName := ⟨RX0, "burns", "()I"⟩
abbrev cX0_childFrom : ByteArray := prog_2_method_6_code
def yX0_childFrom : MethodName := ⟨RX0, "childFrom", "()I"⟩
abbrev cX0_childIsFound : ByteArray := prog_2_method_7_code
def yX0_childIsFound : MethodName := ⟨RX0, "childIsFound", "()Z"⟩
abbrev cX0_addDust : ByteArray := prog_2_method_8_code
def yX0_addDust : MethodName := ⟨RX0, "addDust", "(I)V"⟩
abbrev cX0_dent : ByteArray := prog_2_method_9_code
def yX0_dent : MethodName := ⟨RX0, "dent", "()V"⟩
abbrev cX0_letTheRoom : ByteArray := prog_2_method_10_code
def yX0_letTheRoom : MethodName := ⟨RX0, "letTheRoom", "()V"⟩
abbrev cX0_spendWeek : ByteArray := prog_2_method_11_code
def yX0_spendWeek : MethodName := ⟨RX0, "spendWeek", "(II)I"⟩
def RX1 : String := "RoomToSpare$Row"
def TX1 : u_T := fun k => match k with
  | 0 => ("RoomToSpare$Row", "numbers", "[I", true)
  | _ => ("RoomToSpare$Row", "size", "I", false)
def tyX1 : Nat → FieldType := fun k => match k with
  | 0 => .array .int
  | _ => .int
abbrev wsX10 : List Cond := u_ws RX1 TX1 2
theorem nmX1 : ∀ a, a < 2 → ∀ b, b < 2 → a ≠ b → (TX1 a).2.1 ≠ (TX1 b).2.1 := by decide +kernel
theorem tyX1_ok : ∀ k, k < 2 → parseFieldDescriptor (TX1 k).2.2.1 = some (tyX1 k) := by decide +kernel
abbrev cX1_init : ByteArray := prog_3_method_1_code
def yX1_init : MethodName := ⟨RX1, "<init>", "(I)V"⟩
abbrev cX1_isFull : ByteArray := prog_3_method_2_code
def yX1_isFull : MethodName := ⟨RX1, "isFull", "()Z"⟩
abbrev cX1_add : ByteArray := prog_3_method_3_code
def yX1_add : MethodName := ⟨RX1, "add", "(I)V"⟩
abbrev cX1_at : ByteArray := prog_3_method_4_code
def yX1_at : MethodName := ⟨RX1, "at", "(I)I"⟩
abbrev cX1_drop : ByteArray := prog_3_method_5_code
def yX1_drop : MethodName := ⟨RX1, "drop", "()V"⟩
def RX2 : String := "RoomToSpare$Town"
def TX2 : u_T := fun k => match k with
  | 0 => ("RoomToSpare$Town", "houses", "[LRoomToSpare$House;", true)
  | 1 => ("RoomToSpare$Town", "nowhere", "LRoomToSpare$House;", true)
  | 2 => ("RoomToSpare$Town", "count", "I", false)
  | 3 => ("RoomToSpare$Town", "inspector", "I", false)
  | 4 => ("RoomToSpare$Town", "candles", "I", false)
  | _ => ("RoomToSpare$Town", "week", "I", false)
def tyX2 : Nat → FieldType := fun k => match k with
  | 0 => .array (.object "RoomToSpare$House")
  | 1 => .object "RoomToSpare$House"
  | 2 => .int
  | 3 => .int
  | 4 => .int
  | _ => .int
abbrev wsX20 : List Cond := u_ws RX2 TX2 6
theorem nmX2 : ∀ a, a < 6 → ∀ b, b < 6 → a ≠ b → (TX2 a).2.1 ≠ (TX2 b).2.1 := by decide +kernel
theorem tyX2_ok : ∀ k, k < 6 → parseFieldDescriptor (TX2 k).2.2.1 = some (tyX2 k) := by decide +kernel
abbrev cX2_init : ByteArray := prog_4_method_1_code
def yX2_init : MethodName := ⟨RX2, "<init>", "()V"⟩
abbrev cX2_has : ByteArray := prog_4_method_2_code
def yX2_has : MethodName := ⟨RX2, "has", "(I)Z"⟩
abbrev cX2_at : ByteArray := prog_4_method_3_code
def yX2_at : MethodName := ⟨RX2, "at", "(I)LRoomToSpare$House;"⟩
abbrev cX2_become : ByteArray := prog_4_method_4_code
def yX2_become : MethodName := ⟨RX2, "become", "(LRoomToSpare$Town;)V"⟩
abbrev cX2_build : ByteArray := prog_4_method_5_code
def yX2_build : MethodName := ⟨RX2, "build", "(IIII)V"⟩
abbrev cX2_pass : ByteArray := prog_4_method_6_code
def yX2_pass : MethodName := ⟨RX2, "pass", "(I)V"⟩
abbrev cX2_inspect : ByteArray := prog_4_method_7_code
def yX2_inspect : MethodName := ⟨RX2, "inspect", "()V"⟩
abbrev cX2_lose : ByteArray := prog_4_method_8_code
def yX2_lose : MethodName := ⟨RX2, "lose", "(LRoomToSpare$House;I)V"⟩
abbrev cX2_nextKept : ByteArray := prog_4_method_9_code
def yX2_nextKept : MethodName := ⟨RX2, "nextKept", "(I)I"⟩
abbrev cX2_keptBits : ByteArray := prog_4_method_10_code
def yX2_keptBits : MethodName := ⟨RX2, "keptBits", "()I"⟩
abbrev cX2_howManyKept : ByteArray := prog_4_method_11_code
def yX2_howManyKept : MethodName := ⟨RX2, "howManyKept", "()I"⟩
abbrev cX2_emptyBits : ByteArray := prog_4_method_12_code
def yX2_emptyBits : MethodName := ⟨RX2, "emptyBits", "()I"⟩
abbrev cX2_crowdedBits : ByteArray := prog_4_method_13_code
def yX2_crowdedBits : MethodName := ⟨RX2, "crowdedBits", "()I"⟩
abbrev cX2_allPeople : ByteArray := prog_4_method_14_code
def yX2_allPeople : MethodName := ⟨RX2, "allPeople", "()I"⟩
abbrev cX2_burnsInAWeek : ByteArray := prog_4_method_15_code
def yX2_burnsInAWeek : MethodName := ⟨RX2, "burnsInAWeek", "()I"⟩
abbrev cX2_roomForMore : ByteArray := prog_4_method_16_code
def yX2_roomForMore : MethodName := ⟨RX2, "roomForMore", "()I"⟩
abbrev cX2_fullest : ByteArray := prog_4_method_17_code
def yX2_fullest : MethodName := ⟨RX2, "fullest", "()I"⟩
abbrev cX2_dustiest : ByteArray := prog_4_method_18_code
def yX2_dustiest : MethodName := ⟨RX2, "dustiest", "()I"⟩
abbrev cX2_longestRunOfLost : ByteArray := prog_4_method_19_code
def yX2_longestRunOfLost : MethodName := ⟨RX2, "longestRunOfLost", "()I"⟩
def RX3 : String := "RoomToSpare"
def TX3 : u_T := fun k => match k with
  | 0 => ("RoomToSpare", "now", "LRoomToSpare$Town;", true)
  | 1 => ("RoomToSpare", "thought", "LRoomToSpare$Town;", true)
  | 2 => ("RoomToSpare", "taken", "LRoomToSpare$Town;", true)
  | 3 => ("RoomToSpare", "imageThere", "Z", false)
  | 4 => ("RoomToSpare", "letters", "LRoomToSpare$Row;", true)
  | 5 => ("RoomToSpare", "told", "LRoomToSpare$Row;", true)
  | 6 => ("RoomToSpare", "keptBehind", "LRoomToSpare$Row;", true)
  | _ => ("RoomToSpare", "refusals", "[I", true)
def tyX3 : Nat → FieldType := fun k => match k with
  | 0 => .object "RoomToSpare$Town"
  | 1 => .object "RoomToSpare$Town"
  | 2 => .object "RoomToSpare$Town"
  | 3 => .boolean
  | 4 => .object "RoomToSpare$Row"
  | 5 => .object "RoomToSpare$Row"
  | 6 => .object "RoomToSpare$Row"
  | _ => .array .int
abbrev wsX30 : List Cond := u_ws RX3 TX3 8
theorem nmX3 : ∀ a, a < 8 → ∀ b, b < 8 → a ≠ b → (TX3 a).2.1 ≠ (TX3 b).2.1 := by decide +kernel
theorem tyX3_ok : ∀ k, k < 8 → parseFieldDescriptor (TX3 k).2.2.1 = some (tyX3 k) := by decide +kernel
abbrev cX3_init : ByteArray := prog_1_method_1_code
def yX3_init : MethodName := ⟨RX3, "<init>", "()V"⟩
abbrev cX3_letter : ByteArray := prog_1_method_2_code
def yX3_letter : MethodName := ⟨RX3, "letter", "(I)I"⟩
abbrev cX3_town : ByteArray := prog_1_method_3_code
def yX3_town : MethodName := ⟨RX3, "town", "()I"⟩
abbrev cX3_readStatements : ByteArray := prog_1_method_4_code
def yX3_readStatements : MethodName := ⟨RX3, "readStatements", "()I"⟩
abbrev cX3_brokenPlace : ByteArray := prog_1_method_5_code
def yX3_brokenPlace : MethodName := ⟨RX3, "brokenPlace", "()I"⟩
abbrev cX3_waitsBehind : ByteArray := prog_1_method_6_code
def yX3_waitsBehind : MethodName := ⟨RX3, "waitsBehind", "(II)I"⟩
abbrev cX3_waitsBehindFirst : ByteArray := prog_1_method_7_code
def yX3_waitsBehindFirst : MethodName := ⟨RX3, "waitsBehindFirst", "(I)I"⟩
abbrev cX3_kindOf : ByteArray := prog_1_method_8_code
def yX3_kindOf : MethodName := ⟨RX3, "kindOf", "(I)I"⟩
abbrev cX3_comes : ByteArray := prog_1_method_9_code
def yX3_comes : MethodName := ⟨RX3, "comes", "(I)Z"⟩
abbrev cX3_comesHouse : ByteArray := prog_1_method_10_code
def yX3_comesHouse : MethodName := ⟨RX3, "comesHouse", "(I)Z"⟩
abbrev cX3_comesPeople : ByteArray := prog_1_method_11_code
def yX3_comesPeople : MethodName := ⟨RX3, "comesPeople", "(I)Z"⟩
abbrev cX3_comesDust : ByteArray := prog_1_method_12_code
def yX3_comesDust : MethodName := ⟨RX3, "comesDust", "(I)Z"⟩
abbrev cX3_comesTurned : ByteArray := prog_1_method_13_code
def yX3_comesTurned : MethodName := ⟨RX3, "comesTurned", "(I)Z"⟩
abbrev cX3_comesInspector : ByteArray := prog_1_method_14_code
def yX3_comesInspector : MethodName := ⟨RX3, "comesInspector", "(I)Z"⟩
abbrev cX3_comesWeeks : ByteArray := prog_1_method_15_code
def yX3_comesWeeks : MethodName := ⟨RX3, "comesWeeks", "(I)Z"⟩
abbrev cX3_number : ByteArray := prog_1_method_16_code
def yX3_number : MethodName := ⟨RX3, "number", "(II)I"⟩
abbrev cX3_house : ByteArray := prog_1_method_17_code
def yX3_house : MethodName := ⟨RX3, "house", "(II)I"⟩
abbrev cX3_peoples : ByteArray := prog_1_method_18_code
def yX3_peoples : MethodName := ⟨RX3, "peoples", "(II)I"⟩
abbrev cX3_airs : ByteArray := prog_1_method_19_code
def yX3_airs : MethodName := ⟨RX3, "airs", "(I)I"⟩
abbrev cX3_dents : ByteArray := prog_1_method_20_code
def yX3_dents : MethodName := ⟨RX3, "dents", "(II)I"⟩
abbrev cX3_keeps : ByteArray := prog_1_method_21_code
def yX3_keeps : MethodName := ⟨RX3, "keeps", "(I)I"⟩
abbrev cX3_visits : ByteArray := prog_1_method_22_code
def yX3_visits : MethodName := ⟨RX3, "visits", "(I)I"⟩
abbrev cX3_candles : ByteArray := prog_1_method_23_code
def yX3_candles : MethodName := ⟨RX3, "candles", "(I)I"⟩
abbrev cX3_turn : ByteArray := prog_1_method_24_code
def yX3_turn : MethodName := ⟨RX3, "turn", "(III)I"⟩
abbrev cX3_weeks : ByteArray := prog_1_method_25_code
def yX3_weeks : MethodName := ⟨RX3, "weeks", "(I)I"⟩
abbrev cX3_houseThen : ByteArray := prog_1_method_26_code
def yX3_houseThen : MethodName := ⟨RX3, "houseThen", "(III)I"⟩
abbrev cX3_then : ByteArray := prog_1_method_27_code
def yX3_then : MethodName := ⟨RX3, "then", "(II)I"⟩
abbrev cX3_lost : ByteArray := prog_1_method_28_code
def yX3_lost : MethodName := ⟨RX3, "lost", "(I)I"⟩
abbrev cX3_firstLost : ByteArray := prog_1_method_29_code
def yX3_firstLost : MethodName := ⟨RX3, "firstLost", "()I"⟩
abbrev cX3_weeksTillLost : ByteArray := prog_1_method_30_code
def yX3_weeksTillLost : MethodName := ⟨RX3, "weeksTillLost", "(I)I"⟩
abbrev cX3_dark : ByteArray := prog_1_method_31_code
def yX3_dark : MethodName := ⟨RX3, "dark", "()I"⟩
abbrev cX3_still : ByteArray := prog_1_method_32_code
def yX3_still : MethodName := ⟨RX3, "still", "()I"⟩
abbrev cX3_move : ByteArray := prog_1_method_33_code
def yX3_move : MethodName := ⟨RX3, "move", "(I)I"⟩
abbrev cX3_keptIfHalfMoves : ByteArray := prog_1_method_34_code
def yX3_keptIfHalfMoves : MethodName := ⟨RX3, "keptIfHalfMoves", "(III)I"⟩
abbrev cX3_air : ByteArray := prog_1_method_35_code
def yX3_air : MethodName := ⟨RX3, "air", "(I)I"⟩
abbrev cX3_noneLostIfAired : ByteArray := prog_1_method_36_code
def yX3_noneLostIfAired : MethodName := ⟨RX3, "noneLostIfAired", "(II)Z"⟩
abbrev cX3_noneLostWithin : ByteArray := prog_1_method_37_code
def yX3_noneLostWithin : MethodName := ⟨RX3, "noneLostWithin", "(I)Z"⟩
abbrev cX3_start : ByteArray := prog_1_method_38_code
def yX3_start : MethodName := ⟨RX3, "start", "(II)I"⟩
abbrev cX3_buy : ByteArray := prog_1_method_39_code
def yX3_buy : MethodName := ⟨RX3, "buy", "(I)I"⟩
abbrev cX3_bestKind : ByteArray := prog_1_method_40_code
def yX3_bestKind : MethodName := ⟨RX3, "bestKind", "(II)I"⟩
abbrev cX3_spare : ByteArray := prog_1_method_41_code
def yX3_spare : MethodName := ⟨RX3, "spare", "(I)I"⟩
abbrev cX3_lasts : ByteArray := prog_1_method_42_code
def yX3_lasts : MethodName := ⟨RX3, "lasts", "()I"⟩
abbrev cX3_next : ByteArray := prog_1_method_43_code
def yX3_next : MethodName := ⟨RX3, "next", "(I)I"⟩
abbrev cX3_run : ByteArray := prog_1_method_44_code
def yX3_run : MethodName := ⟨RX3, "run", "(I)I"⟩
abbrev cX3_two : ByteArray := prog_1_method_45_code
def yX3_two : MethodName := ⟨RX3, "two", "(III)I"⟩
abbrev cX3_worth : ByteArray := prog_1_method_46_code
def yX3_worth : MethodName := ⟨RX3, "worth", "(IZIZI)I"⟩
abbrev cX3_guest : ByteArray := prog_1_method_47_code
def yX3_guest : MethodName := ⟨RX3, "guest", "(IIII)J"⟩
abbrev cX3_isKeptWithGuests : ByteArray := prog_1_method_48_code
def yX3_isKeptWithGuests : MethodName := ⟨RX3, "isKeptWithGuests", "(III)Z"⟩
abbrev cX3_power : ByteArray := prog_1_method_49_code
def yX3_power : MethodName := ⟨RX3, "power", "(JI)J"⟩
abbrev cX3_mean : ByteArray := prog_1_method_50_code
def yX3_mean : MethodName := ⟨RX3, "mean", "(I)J"⟩
abbrev cX3_partOf : ByteArray := prog_1_method_51_code
def yX3_partOf : MethodName := ⟨RX3, "partOf", "(JJI)J"⟩
abbrev cX3_commonDivisor : ByteArray := prog_1_method_52_code
def yX3_commonDivisor : MethodName := ⟨RX3, "commonDivisor", "(JJ)J"⟩
abbrev cX3_whatIs : ByteArray := prog_1_method_53_code
def yX3_whatIs : MethodName := ⟨RX3, "whatIs", "(II)I"⟩
abbrev cX3_dustIsAsTold : ByteArray := prog_1_method_54_code
def yX3_dustIsAsTold : MethodName := ⟨RX3, "dustIsAsTold", "(I)Z"⟩
abbrev cX3_row : ByteArray := prog_1_method_55_code
def yX3_row : MethodName := ⟨RX3, "row", "(I)I"⟩
abbrev cX3_judge : ByteArray := prog_1_method_56_code
def yX3_judge : MethodName := ⟨RX3, "judge", "()I"⟩
abbrev cX3_clear : ByteArray := prog_1_method_57_code
def yX3_clear : MethodName := ⟨RX3, "clear", "()I"⟩
abbrev cX3_lots : ByteArray := prog_1_method_58_code
def yX3_lots : MethodName := ⟨RX3, "lots", "(III)I"⟩
abbrev cX3_drawPeople : ByteArray := prog_1_method_59_code
def yX3_drawPeople : MethodName := ⟨RX3, "drawPeople", "(I)I"⟩
abbrev cX3_image : ByteArray := prog_1_method_60_code
def yX3_image : MethodName := ⟨RX3, "image", "()I"⟩
abbrev cX3_on : ByteArray := prog_1_method_61_code
def yX3_on : MethodName := ⟨RX3, "on", "()I"⟩
abbrev cX3_count : ByteArray := prog_1_method_62_code
def yX3_count : MethodName := ⟨RX3, "count", "(I)I"⟩
abbrev cX3_refused : ByteArray := prog_1_method_63_code
def yX3_refused : MethodName := ⟨RX3, "refused", "(I)I"⟩
abbrev cX3_refuse : ByteArray := prog_1_method_64_code
def yX3_refuse : MethodName := ⟨RX3, "refuse", "(I)I"⟩
abbrev cX3_refuseLong : ByteArray := prog_1_method_65_code
def yX3_refuseLong : MethodName := ⟨RX3, "refuseLong", "(I)J"⟩
abbrev cX3_outOf : ByteArray := prog_1_method_66_code
def yX3_outOf : MethodName := ⟨RX3, "outOf", "(III)I"⟩
def RX4 : String := "RoomToSpareModel"
def TX4 : u_T := fun k => match k with
  | 0 => ("RoomToSpareModel", "s", "[I", true)
  | 1 => ("RoomToSpareModel", "m", "[I", true)
  | 2 => ("RoomToSpareModel", "image", "[I", true)
  | 3 => ("RoomToSpareModel", "was", "[I", true)
  | 4 => ("RoomToSpareModel", "hasImage", "Z", false)
  | 5 => ("RoomToSpareModel", "letters", "[I", true)
  | 6 => ("RoomToSpareModel", "row", "[I", true)
  | 7 => ("RoomToSpareModel", "refused", "[I", true)
  | 8 => ("RoomToSpareModel", "letterMany", "I", false)
  | 9 => ("RoomToSpareModel", "rowMany", "I", false)
  | 10 => ("RoomToSpareModel", "place", "I", false)
  | 11 => ("RoomToSpareModel", "numbers", "[I", true)
  | _ => ("RoomToSpareModel", "seed", "I", false)
def tyX4 : Nat → FieldType := fun k => match k with
  | 0 => .array .int
  | 1 => .array .int
  | 2 => .array .int
  | 3 => .array .int
  | 4 => .boolean
  | 5 => .array .int
  | 6 => .array .int
  | 7 => .array .int
  | 8 => .int
  | 9 => .int
  | 10 => .int
  | 11 => .array .int
  | _ => .int
abbrev wsX40 : List Cond := u_ws RX4 TX4 13
theorem nmX4 : ∀ a, a < 13 → ∀ b, b < 13 → a ≠ b → (TX4 a).2.1 ≠ (TX4 b).2.1 := by decide +kernel
theorem tyX4_ok : ∀ k, k < 13 → parseFieldDescriptor (TX4 k).2.2.1 = some (tyX4 k) := by decide +kernel
abbrev cX4_init : ByteArray := prog_6_method_1_code
def yX4_init : MethodName := ⟨RX4, "<init>", "()V"⟩
abbrev cX4_isIn : ByteArray := prog_6_method_2_code
def yX4_isIn : MethodName := ⟨RX4, "isIn", "(III)Z"⟩
abbrev cX4_least : ByteArray := prog_6_method_3_code
def yX4_least : MethodName := ⟨RX4, "least", "(II)I"⟩
abbrev cX4_copies : ByteArray := prog_6_method_4_code
def yX4_copies : MethodName := ⟨RX4, "copies", "([I[I)V"⟩
abbrev cX4_no : ByteArray := prog_6_method_5_code
def yX4_no : MethodName := ⟨RX4, "no", "(I)I"⟩
abbrev cX4_noWide : ByteArray := prog_6_method_6_code
def yX4_noWide : MethodName := ⟨RX4, "noWide", "(I)J"⟩
abbrev cX4_of : ByteArray := prog_6_method_7_code
def yX4_of : MethodName := ⟨RX4, "of", "(II)I"⟩
abbrev cX4_isHouse : ByteArray := prog_6_method_8_code
def yX4_isHouse : MethodName := ⟨RX4, "isHouse", "(I)Z"⟩
abbrev cX4_has : ByteArray := prog_6_method_9_code
def yX4_has : MethodName := ⟨RX4, "has", "(II)Z"⟩
abbrev cX4_bits : ByteArray := prog_6_method_10_code
def yX4_bits : MethodName := ⟨RX4, "bits", "(I)I"⟩
abbrev cX4_dustBy : ByteArray := prog_6_method_11_code
def yX4_dustBy : MethodName := ⟨RX4, "dustBy", "(III)I"⟩
abbrev cX4_burnsBy : ByteArray := prog_6_method_12_code
def yX4_burnsBy : MethodName := ⟨RX4, "burnsBy", "(I)I"⟩
abbrev cX4_foundFrom : ByteArray := prog_6_method_13_code
def yX4_foundFrom : MethodName := ⟨RX4, "foundFrom", "(II)I"⟩
abbrev cX4_crowd : ByteArray := prog_6_method_14_code
def yX4_crowd : MethodName := ⟨RX4, "crowd", "([II)I"⟩
abbrev cX4_isFound : ByteArray := prog_6_method_15_code
def yX4_isFound : MethodName := ⟨RX4, "isFound", "([II)Z"⟩
abbrev cX4_nextKept : ByteArray := prog_6_method_16_code
def yX4_nextKept : MethodName := ⟨RX4, "nextKept", "([II)I"⟩
abbrev cX4_ages : ByteArray := prog_6_method_17_code
def yX4_ages : MethodName := ⟨RX4, "ages", "([II)V"⟩
abbrev cX4_loses : ByteArray := prog_6_method_18_code
def yX4_loses : MethodName := ⟨RX4, "loses", "([II)V"⟩
abbrev cX4_week : ByteArray := prog_6_method_19_code
def yX4_week : MethodName := ⟨RX4, "week", "([I)V"⟩
abbrev cX4_weeksOn : ByteArray := prog_6_method_20_code
def yX4_weeksOn : MethodName := ⟨RX4, "weeksOn", "([II)V"⟩
abbrev cX4_burnsIn : ByteArray := prog_6_method_21_code
def yX4_burnsIn : MethodName := ⟨RX4, "burnsIn", "([I)I"⟩
abbrev cX4_allPeople : ByteArray := prog_6_method_22_code
def yX4_allPeople : MethodName := ⟨RX4, "allPeople", "([I)I"⟩
abbrev cX4_letter : ByteArray := prog_6_method_23_code
def yX4_letter : MethodName := ⟨RX4, "letter", "(I)I"⟩
abbrev cX4_here : ByteArray := prog_6_method_24_code
def yX4_here : MethodName := ⟨RX4, "here", "()I"⟩
abbrev cX4_readsNumber : ByteArray := prog_6_method_25_code
def yX4_readsNumber : MethodName := ⟨RX4, "readsNumber", "(II)Z"⟩
abbrev cX4_kindBy : ByteArray := prog_6_method_26_code
def yX4_kindBy : MethodName := ⟨RX4, "kindBy", "(I)I"⟩
abbrev cX4_readsKind : ByteArray := prog_6_method_27_code
def yX4_readsKind : MethodName := ⟨RX4, "readsKind", "()Z"⟩
abbrev cX4_readsStatement : ByteArray := prog_6_method_28_code
def yX4_readsStatement : MethodName := ⟨RX4, "readsStatement", "()Z"⟩
abbrev cX4_addsHouse : ByteArray := prog_6_method_29_code
def yX4_addsHouse : MethodName := ⟨RX4, "addsHouse", "()Z"⟩
abbrev cX4_isDone : ByteArray := prog_6_method_30_code
def yX4_isDone : MethodName := ⟨RX4, "isDone", "(I)Z"⟩
abbrev cX4_town : ByteArray := prog_6_method_31_code
def yX4_town : MethodName := ⟨RX4, "town", "()I"⟩
abbrev cX4_house : ByteArray := prog_6_method_32_code
def yX4_house : MethodName := ⟨RX4, "house", "(II)I"⟩
abbrev cX4_wrongBy : ByteArray := prog_6_method_33_code
def yX4_wrongBy : MethodName := ⟨RX4, "wrongBy", "(III)I"⟩
abbrev cX4_sets : ByteArray := prog_6_method_34_code
def yX4_sets : MethodName := ⟨RX4, "sets", "(II)I"⟩
abbrev cX4_setsOf : ByteArray := prog_6_method_35_code
def yX4_setsOf : MethodName := ⟨RX4, "setsOf", "(IIII)I"⟩
abbrev cX4_peoples : ByteArray := prog_6_method_36_code
def yX4_peoples : MethodName := ⟨RX4, "peoples", "(II)I"⟩
abbrev cX4_airs : ByteArray := prog_6_method_37_code
def yX4_airs : MethodName := ⟨RX4, "airs", "(I)I"⟩
abbrev cX4_dents : ByteArray := prog_6_method_38_code
def yX4_dents : MethodName := ⟨RX4, "dents", "(II)I"⟩
abbrev cX4_keeps : ByteArray := prog_6_method_39_code
def yX4_keeps : MethodName := ⟨RX4, "keeps", "(I)I"⟩
abbrev cX4_visits : ByteArray := prog_6_method_40_code
def yX4_visits : MethodName := ⟨RX4, "visits", "(I)I"⟩
abbrev cX4_candles : ByteArray := prog_6_method_41_code
def yX4_candles : MethodName := ⟨RX4, "candles", "(I)I"⟩
abbrev cX4_turn : ByteArray := prog_6_method_42_code
def yX4_turn : MethodName := ⟨RX4, "turn", "(III)I"⟩
abbrev cX4_weeks : ByteArray := prog_6_method_43_code
def yX4_weeks : MethodName := ⟨RX4, "weeks", "(I)I"⟩
abbrev cX4_takes : ByteArray := prog_6_method_44_code
def yX4_takes : MethodName := ⟨RX4, "takes", "(I)V"⟩
abbrev cX4_houseThen : ByteArray := prog_6_method_45_code
def yX4_houseThen : MethodName := ⟨RX4, "houseThen", "(III)I"⟩
abbrev cX4_then : ByteArray := prog_6_method_46_code
def yX4_then : MethodName := ⟨RX4, "then", "(II)I"⟩
abbrev cX4_whenLost : ByteArray := prog_6_method_47_code
def yX4_whenLost : MethodName := ⟨RX4, "whenLost", "(I)I"⟩
abbrev cX4_lostOf : ByteArray := prog_6_method_48_code
def yX4_lostOf : MethodName := ⟨RX4, "lostOf", "(I)I"⟩
abbrev cX4_firstLost : ByteArray := prog_6_method_49_code
def yX4_firstLost : MethodName := ⟨RX4, "firstLost", "()I"⟩
abbrev cX4_lost : ByteArray := prog_6_method_50_code
def yX4_lost : MethodName := ⟨RX4, "lost", "(I)I"⟩
abbrev cX4_dark : ByteArray := prog_6_method_51_code
def yX4_dark : MethodName := ⟨RX4, "dark", "()I"⟩
abbrev cX4_keptThen : ByteArray := prog_6_method_52_code
def yX4_keptThen : MethodName := ⟨RX4, "keptThen", "(I)I"⟩
abbrev cX4_still : ByteArray := prog_6_method_53_code
def yX4_still : MethodName := ⟨RX4, "still", "()I"⟩
abbrev cX4_move : ByteArray := prog_6_method_54_code
def yX4_move : MethodName := ⟨RX4, "move", "(I)I"⟩
abbrev cX4_isNoneLost : ByteArray := prog_6_method_55_code
def yX4_isNoneLost : MethodName := ⟨RX4, "isNoneLost", "(I)Z"⟩
abbrev cX4_air : ByteArray := prog_6_method_56_code
def yX4_air : MethodName := ⟨RX4, "air", "(I)I"⟩
abbrev cX4_start : ByteArray := prog_6_method_57_code
def yX4_start : MethodName := ⟨RX4, "start", "(II)I"⟩
abbrev cX4_buy : ByteArray := prog_6_method_58_code
def yX4_buy : MethodName := ⟨RX4, "buy", "(I)I"⟩
abbrev cX4_bestKind : ByteArray := prog_6_method_59_code
def yX4_bestKind : MethodName := ⟨RX4, "bestKind", "(II)I"⟩
abbrev cX4_spareOnes : ByteArray := prog_6_method_60_code
def yX4_spareOnes : MethodName := ⟨RX4, "spareOnes", "()I"⟩
abbrev cX4_fullest : ByteArray := prog_6_method_61_code
def yX4_fullest : MethodName := ⟨RX4, "fullest", "()I"⟩
abbrev cX4_dustiest : ByteArray := prog_6_method_62_code
def yX4_dustiest : MethodName := ⟨RX4, "dustiest", "()I"⟩
abbrev cX4_spare : ByteArray := prog_6_method_63_code
def yX4_spare : MethodName := ⟨RX4, "spare", "(I)I"⟩
abbrev cX4_next : ByteArray := prog_6_method_64_code
def yX4_next : MethodName := ⟨RX4, "next", "(I)I"⟩
abbrev cX4_lostRun : ByteArray := prog_6_method_65_code
def yX4_lostRun : MethodName := ⟨RX4, "lostRun", "()I"⟩
abbrev cX4_run : ByteArray := prog_6_method_66_code
def yX4_run : MethodName := ⟨RX4, "run", "(I)I"⟩
abbrev cX4_lets : ByteArray := prog_6_method_67_code
def yX4_lets : MethodName := ⟨RX4, "lets", "(I)V"⟩
abbrev cX4_hasBy : ByteArray := prog_6_method_68_code
def yX4_hasBy : MethodName := ⟨RX4, "hasBy", "(IIIIII)I"⟩
abbrev cX4_two : ByteArray := prog_6_method_69_code
def yX4_two : MethodName := ⟨RX4, "two", "(III)I"⟩
abbrev cX4_gcd : ByteArray := prog_6_method_70_code
def yX4_gcd : MethodName := ⟨RX4, "gcd", "(JJ)J"⟩
abbrev cX4_partOf : ByteArray := prog_6_method_71_code
def yX4_partOf : MethodName := ⟨RX4, "partOf", "(JJI)J"⟩
abbrev cX4_guest : ByteArray := prog_6_method_72_code
def yX4_guest : MethodName := ⟨RX4, "guest", "(IIII)J"⟩
abbrev cX4_mean : ByteArray := prog_6_method_73_code
def yX4_mean : MethodName := ⟨RX4, "mean", "(I)J"⟩
abbrev cX4_whatIs : ByteArray := prog_6_method_74_code
def yX4_whatIs : MethodName := ⟨RX4, "whatIs", "(II)I"⟩
abbrev cX4_row : ByteArray := prog_6_method_75_code
def yX4_row : MethodName := ⟨RX4, "row", "(I)I"⟩
abbrev cX4_judge : ByteArray := prog_6_method_76_code
def yX4_judge : MethodName := ⟨RX4, "judge", "()I"⟩
abbrev cX4_clear : ByteArray := prog_6_method_77_code
def yX4_clear : MethodName := ⟨RX4, "clear", "()I"⟩
abbrev cX4_drawn : ByteArray := prog_6_method_78_code
def yX4_drawn : MethodName := ⟨RX4, "drawn", "(I)I"⟩
abbrev cX4_lots : ByteArray := prog_6_method_79_code
def yX4_lots : MethodName := ⟨RX4, "lots", "(III)I"⟩
abbrev cX4_image : ByteArray := prog_6_method_80_code
def yX4_image : MethodName := ⟨RX4, "image", "()I"⟩
abbrev cX4_on : ByteArray := prog_6_method_81_code
def yX4_on : MethodName := ⟨RX4, "on", "()I"⟩
abbrev cX4_count : ByteArray := prog_6_method_82_code
def yX4_count : MethodName := ⟨RX4, "count", "(I)I"⟩
def RJ6 : String := "java/lang/Integer"
def TJ6 : u_T := fun k => match k with
  | _ => ("", "", "", false)
def tyJ6 : Nat → FieldType := fun k => match k with
  | _ => .int
abbrev wsJ60 : List Cond := u_ws RJ6 TJ6 0
theorem nmJ6 : ∀ a, a < 0 → ∀ b, b < 0 → a ≠ b → (TJ6 a).2.1 ≠ (TJ6 b).2.1 := by decide +kernel
theorem tyJ6_ok : ∀ k, k < 0 → parseFieldDescriptor (TJ6 k).2.2.1 = some (tyJ6 k) := by decide +kernel
abbrev cJ6_bitCount_0f7a4 : ByteArray := prog_7_method_49_code
def yJ6_bitCount_0f7a4 : MethodName := ⟨RJ6, "bitCount", "(I)I"⟩
def RJ9 : String := "java/lang/Math"
def TJ9 : u_T := fun k => match k with
  | _ => ("", "", "", false)
def tyJ9 : Nat → FieldType := fun k => match k with
  | _ => .int
abbrev wsJ90 : List Cond := u_ws RJ9 TJ9 0
theorem nmJ9 : ∀ a, a < 0 → ∀ b, b < 0 → a ≠ b → (TJ9 a).2.1 ≠ (TJ9 b).2.1 := by decide +kernel
theorem tyJ9_ok : ∀ k, k < 0 → parseFieldDescriptor (TJ9 k).2.2.1 = some (tyJ9 k) := by decide +kernel
abbrev cJ9_max_7cf53 : ByteArray := prog_8_method_65_code
def yJ9_max_7cf53 : MethodName := ⟨RJ9, "max", "(II)I"⟩
abbrev cJ9_min_7cf53 : ByteArray := prog_8_method_69_code
def yJ9_min_7cf53 : MethodName := ⟨RJ9, "min", "(II)I"⟩
def RL : String := "RoomToSpareLaw"
abbrev cL_law : ByteArray := code
def yL_law : MethodName := ⟨RL, "law", "([I)Z"⟩
end
section
/-! ===== THE MEMORY LAYER: after the constructors no cell is made any more; 44 cells, numbered 0 .. 43, hold numbers alone that change. A memory: cell, place -> number. MX: a frame of a method over a memory; MM: a method's contract over memories. ===== -/
abbrev Mem : Type := Nat → Nat → Int32
abbrev mx_E : Type := va_G × (Nat → Nat) × ClassId × ClassId
def mx_cl : List vw_C := [(RX0, TX0, 8), (RX1, TX1, 2), (RX2, TX2, 6), (RX3, TX3, 8), (RX4, TX4, 13)]
abbrev mx_rf (E : mx_E) (k : Nat) : Value := .ref (E.2.1 k)
def mx_n (k : Nat) : Nat := if k = 31 then 96 else if k = 32 then 16 else if k = 33 then 81 else if k = 34 then 7 else if k < 40 then 42 else if k = 40 then 96 else if k = 41 then 16 else if k = 42 then 7 else 4
def mx_cell (E : mx_E) (σ : Mem) (k : Nat) : va_E :=
  if k = 0 then .inr (3, [mx_rf E 1, mx_rf E 2, mx_rf E 3, .int (σ k 3), mx_rf E 28, mx_rf E 29, mx_rf E 30, mx_rf E 34])
  else if k < 4 then .inr (2, [mx_rf E (k + 3), mx_rf E (k + 6), .int (σ k 2), .int (σ k 3), .int (σ k 4), .int (σ k 5)])
  else if k < 7 then .inl (E.2.2.2, 6, .inr (.inr (.inr (.inr (fun i => some (E.2.1 (6 * k - 14 + i)))))))
  else if k < 28 then .inr (0, [.int (σ k 0), .int (σ k 1), .int (σ k 2), .int (σ k 3), .int (σ k 4), .int (σ k 5), .int (σ k 6), .int (σ k 7)])
  else if k < 31 then .inr (1, [mx_rf E (k + 3), .int (σ k 1)])
  else if k = 35 then .inr (4, [mx_rf E 36, mx_rf E 37, mx_rf E 38, mx_rf E 39, .int (σ k 4), mx_rf E 40, mx_rf E 41, mx_rf E 42, .int (σ k 8), .int (σ k 9), .int (σ k 10), mx_rf E 43, .int (σ k 12)])
  else .inl (E.2.2.1, mx_n k, .inl (σ k))
def mx_w (E : mx_E) (σ : Mem) : va_W := (List.range 44).map fun k => (E.2.1 k, mx_cell E σ k)
def mx_ty (E : mx_E) : List (ClassId × FieldType) := [(E.2.2.1, .int), (E.2.2.2, .object RX0)]
def mx_A (E : mx_E) : Nat → Prop := fun q => ∃ k, k < 44 ∧ q = E.2.1 k
def mx_inj (E : mx_E) : Prop := ∀ i j, i < 44 → j < 44 → E.2.1 i = E.2.1 j → i = j
def mx_tbl : List Cond := lw_tbl.filter goodWord
theorem mx_in {w : Cond} (i : Nat) (h : lw_tbl[i]? = some w) (g : goodWord w = true) : w ∈ mx_tbl := List.mem_filter.mpr ⟨List.mem_of_getElem? h, g⟩
theorem mx_good : GoodIn mx_tbl mx_tbl := fun w h => ⟨h, good_of_word (List.mem_filter.mp h).2⟩
theorem mx_goodc {w : Cond} {ws : List Cond} (h : w ∈ mx_tbl) (hw : GoodIn mx_tbl ws) : GoodIn mx_tbl (w :: ws) := fun x hx => (List.mem_cons.mp hx).elim (fun e => e ▸ mx_good w h) (hw x)
def mx_R (K : Nat) : Room := { frames := K, cells := 0, slots := 0, locals := 36 * K }
theorem mx_get {E : mx_E} {σ : Mem} {k : Nat} (h : k < 44) : (mx_w E σ)[k]? = some (E.2.1 k, mx_cell E σ k) := by
  simp [mx_w, List.getElem?_map, List.getElem?_range h]
theorem mx_some {E : mx_E} {σ : Mem} {k : Nat} {q : Nat × va_E} (h : (mx_w E σ)[k]? = some q) : k < 44 ∧ q = (E.2.1 k, mx_cell E σ k) := by
  have hk : k < 44 := by
    have h1 := (List.getElem?_eq_some_iff.mp h).1
    simpa [mx_w] using h1
  exact ⟨hk, Option.some.inj (h.symm.trans (mx_get hk))⟩
theorem mx_D {E : mx_E} {σ : Mem} (h : mx_inj E) : va_D (mx_A E) (mx_w E σ) := by
  refine ⟨fun i j p q hp hq e => ?_, fun k q hq => ?_⟩
  · obtain ⟨h1, rfl⟩ := mx_some hp
    obtain ⟨h2, rfl⟩ := mx_some hq
    exact h i j h1 h2 e
  · obtain ⟨h1, rfl⟩ := mx_some hq
    exact ⟨k, h1, rfl⟩
theorem mx_set {E : mx_E} {σ τ : Mem} {k : Nat} {e : va_E} (hk : k < 44) (he : mx_cell E τ k = e) (ho : ∀ j, j ≠ k → mx_cell E τ j = mx_cell E σ j) : (mx_w E σ).set k (E.2.1 k, e) = mx_w E τ := by
  refine List.ext_getElem? fun j => ?_
  by_cases hj : j < 44
  · rw [mx_get hj]
    by_cases e1 : j = k
    · subst e1
      rw [List.getElem?_set_self (by simpa [mx_w] using hj), he]
    · rw [List.getElem?_set_ne (fun q => e1 q.symm), mx_get hj, ho j e1]
  · rw [List.getElem?_eq_none (by simpa [mx_w] using hj), List.getElem?_eq_none (by simpa [mx_w] using hj)]
theorem mx_cellc {E : mx_E} {σ τ : Mem} {k : Nat} (h : τ k = σ k) : mx_cell E τ k = mx_cell E σ k := by
  unfold mx_cell
  rw [h]
/-- one number put -/
def mx_up (σ : Mem) (k j : Nat) (v : Int32) : Mem := fun a => if a = k then upd (σ a) j v else σ a
theorem mx_up_eq (σ : Mem) (k j : Nat) (v : Int32) (a b : Nat) : mx_up σ k j v a b = if a = k ∧ b = j then v else σ a b := by
  unfold mx_up
  by_cases h : a = k
  · by_cases h2 : b = j <;> simp [h, h2, upd]
  · simp [h]
theorem mx_up_o {σ : Mem} {k j a : Nat} {v : Int32} (h : a ≠ k) : mx_up σ k j v a = σ a := by unfold mx_up; rw [if_neg h]
theorem mx_up_s {σ : Mem} {k j : Nat} {v : Int32} : mx_up σ k j v k = upd (σ k) j v := by unfold mx_up; rw [if_pos rfl]
theorem mx_upw {E : mx_E} {σ : Mem} {k j : Nat} {v : Int32} {e : va_E} (hk : k < 44) (he : mx_cell E (mx_up σ k j v) k = e) : (mx_w E σ).set k (E.2.1 k, e) = mx_w E (mx_up σ k j v) := mx_set hk he (fun _ h => mx_cellc (mx_up_o h))
/-- a whole row put -/
def mx_row (σ : Mem) (k : Nat) (f : Nat → Int32) : Mem := fun a => if a = k then f else σ a
theorem mx_row_o {σ : Mem} {k a : Nat} {f : Nat → Int32} (h : a ≠ k) : mx_row σ k f a = σ a := by unfold mx_row; rw [if_neg h]
theorem mx_row_s {σ : Mem} {k : Nat} {f : Nat → Int32} : mx_row σ k f k = f := by unfold mx_row; rw [if_pos rfl]
theorem mx_up_row (σ : Mem) (k j : Nat) (v : Int32) : mx_up σ k j v = mx_row σ k (upd (σ k) j v) := by
  funext a
  by_cases h : a = k
  · subst h; rw [mx_up_s, mx_row_s]
  · rw [mx_up_o h, mx_row_o h]
theorem mx_row_row (σ : Mem) (k : Nat) (f g : Nat → Int32) : mx_row (mx_row σ k f) k g = mx_row σ k g := by
  funext a
  by_cases h : a = k
  · subst h; rw [mx_row_s, mx_row_s]
  · rw [mx_row_o h, mx_row_o h, mx_row_o h]
theorem mx_row_self (σ : Mem) (k : Nat) : mx_row σ k (σ k) = σ := by
  funext a
  by_cases h : a = k
  · subst h; rw [mx_row_s]
  · rw [mx_row_o h]
/-- decoded: at pc stands this instruction, the next at n -/
def mx_at (cc : ByteArray) (pc : Nat) (i : Instr) (len n : Nat) : Prop := decode cc pc = .ok (i, len) ∧ pc + len = n
def mx_br (cc : ByteArray) (pc : Nat) (i : Instr) (off : Int) (len n tgt : Nat) : Prop := decode cc pc = .ok (i, len) ∧ pc + len = n ∧ (pc : Int) + off = (tgt : Int)
def mx_C (E : mx_E) (own : String) (cc : ByteArray) (nL : Nat) (ret : Option FieldType) (p : Program) (s : State) (m : MethodId) (args : Array Value) (meth : Method) (c : Code) : Prop :=
  p.tables.exec = Jvm.exec ∧ c.code = cc ∧ meth.sig.returnType = ret ∧ c.maxLocals = nL ∧ (∀ w ∈ mx_tbl, w.before args s = true) ∧ s.vm.findClass own = some m.cls ∧ meth.locks = false ∧ va_K E.1 mx_cl (mx_ty E) s ∧ mx_inj E
/-- A FRAME OVER A MEMORY -/
def MX (E : mx_E) (K : Nat) (own : String) (cc : ByteArray) (nL : Nat) (ret : Option FieldType) (pc : Nat) (lv : List (Nat × Value)) (st : List Value) (σ : Mem) (post : Option Value → Mem → Prop) : Prop :=
  ∀ (p : Program) (l : Launch) (e : Env) (s : State) (m : MethodId) (args : Array Value) (below : List Frame) (meth : Method) (c : Code) (H : Heap) (locs : List Loc) (ls : Array Slot) (Qc : Array Value → State → Outcome → State → Prop),
    mx_C E own cc nL ret p s m args meth c → va_P E.1 mx_cl (mx_w E σ) H → va_S (mx_A E) s.heap H locs → lv_has ls nL lv →
    (∀ (v : Option Value) (τ : Mem) (t : State), post v τ → va_P E.1 mx_cl (mx_w E τ) t.heap → va_F (mx_A E) s t → Qc args s (.returned v) t) →
    W p l e (mx_R K) s m args below meth c H locs 0 0 (MQ below Qc args s 0 0 (mx_A E)) (F0 m pc ls st)
def mx_Pc (E : mx_E) (args : List Value) (σ : Mem) : Array Value → State → Prop := va_Pc args (fun U => va_P E.1 mx_cl (mx_w E σ) U.heap ∧ va_K E.1 mx_cl (mx_ty E) U ∧ mx_inj E)
def mx_Qc (E : mx_E) (post : Option Value → Mem → Prop) : Array Value → State → Outcome → State → Prop := fun _ st oc t => (∃ (v : Option Value) (τ : Mem), oc = .returned v ∧ post v τ ∧ va_P E.1 mx_cl (mx_w E τ) t.heap) ∧ va_F (mx_A E) st t
/-- A METHOD OVER MEMORIES -/
def MM (E : mx_E) (K : Nat) (y : MethodName) (cc : ByteArray) (nL : Nat) (ret : Option FieldType) (args : List Value) (σ : Mem) (post : Option Value → Mem → Prop) : Prop :=
  ∀ l : Launch, Met l y (Cond.code y cc nL ret :: mx_tbl) (mx_R K) (mx_Pc E args σ) (mx_Qc E post) 0 0 (mx_A E)
theorem MM.of {E : mx_E} {K : Nat} {y : MethodName} {cc : ByteArray} {nL : Nat} {ret : Option FieldType} {args : List Value} {σ : Mem} {post : Option Value → Mem → Prop} (hy : plainName y.cls = true) (hn : (lg_sl args).length ≤ nL) {lv : List (Nat × Value)} (hlv : lv_args 0 args = lv)
    (h : MX E K y.cls cc nL ret 0 lv [] σ post) : MM E K y cc nL ret args σ post := by
  intro l
  refine Met.ofW (cc := cc) (maxL := nL) (ret := ret) hy rfl ?_
  intro p e s m args' below meth c s₁ B hml hv
  obtain ⟨rfl, hP, hK, hD⟩ := hv
  have hts := atoms_spec B.pre
  have hl := lv_entry args (n := nL) hn
  rw [lg_entry_eq]
  rw [hlv] at hl
  exact h p l e s m args.toArray below meth c s.heap [] _ _ ⟨B.exec, B.bytes, B.returns, hml, fun w hw => hts w (List.mem_cons_of_mem _ hw), findClass_of_methodNamed B.named, B.notSynchronized, hK, hD⟩ hP va_S.rf hl (fun v τ t h1 h2 h3 => ⟨⟨v, τ, rfl, h1, h2⟩, h3⟩)
section MXR
variable {E : mx_E} {K : Nat} {own : String} {cc : ByteArray} {nL : Nat} {ret : Option FieldType} {pc n tgt : Nat} {lv lv' : List (Nat × Value)} {st : List Value} {σ : Mem} {post : Option Value → Mem → Prop}
theorem x_iconst {z : Int} {v : Int32} (hd : mx_at cc pc (.iconst z) 1 n) (hv : Int32.ofInt z = v) (k : MX E K own cc nL ret n lv (.int v :: st) σ post) : MX E K own cc nL ret pc lv st σ post := by
  intro p l e s m args below meth c H locs ls Qc C P S L hq
  obtain ⟨hd, rfl⟩ := hd
  exact lv_iconst C.1 C.2.1 hd hv (k p l e s m args below meth c H locs ls Qc C P S L hq)
theorem x_bipush {z : Int} {v : Int32} (hd : mx_at cc pc (.bipush z) 2 n) (hv : (Int8.ofInt z).toInt32 = v) (k : MX E K own cc nL ret n lv (.int v :: st) σ post) : MX E K own cc nL ret pc lv st σ post := by
  intro p l e s m args below meth c H locs ls Qc C P S L hq
  obtain ⟨hd, rfl⟩ := hd
  exact lv_bipush C.1 C.2.1 hd hv (k p l e s m args below meth c H locs ls Qc C P S L hq)
theorem x_sipush {z : Int} {v : Int32} (hd : mx_at cc pc (.sipush z) 3 n) (hv : (Int16.ofInt z).toInt32 = v) (k : MX E K own cc nL ret n lv (.int v :: st) σ post) : MX E K own cc nL ret pc lv st σ post := by
  intro p l e s m args below meth c H locs ls Qc C P S L hq
  obtain ⟨hd, rfl⟩ := hd
  exact lv_sipush C.1 C.2.1 hd hv (k p l e s m args below meth c H locs ls Qc C P S L hq)
theorem x_lconst {z : Fin 2} {v : Int64} (hd : mx_at cc pc (.lconst z) 1 n) (hv : Int64.ofNat (z : Nat) = v) (k : MX E K own cc nL ret n lv (.long v :: st) σ post) : MX E K own cc nL ret pc lv st σ post := by
  intro p l e s m args below meth c H locs ls Qc C P S L hq
  obtain ⟨hd, rfl⟩ := hd
  exact lv_lconst C.1 C.2.1 hd hv (k p l e s m args below meth c H locs ls Qc C P S L hq)
theorem x_iload_n (q : Nat) {j : Fin 4} {x : Int32} (hd : mx_at cc pc (.iload_n j) 1 n) (hl : lv[q]? = some ((j : Nat), .int x)) (k : MX E K own cc nL ret n lv (.int x :: st) σ post) : MX E K own cc nL ret pc lv st σ post := by
  intro p l e s m args below meth c H locs ls Qc C P S L hq
  obtain ⟨hd, rfl⟩ := hd
  exact lv_iload_n C.1 C.2.1 hd rfl (lv_at L q hl) (k p l e s m args below meth c H locs ls Qc C P S L hq)
theorem x_iload (q : Nat) {j : Nat} {x : Int32} (hd : mx_at cc pc (.iload j) 2 n) (hl : lv[q]? = some (j, .int x)) (k : MX E K own cc nL ret n lv (.int x :: st) σ post) : MX E K own cc nL ret pc lv st σ post := by
  intro p l e s m args below meth c H locs ls Qc C P S L hq
  obtain ⟨hd, rfl⟩ := hd
  exact lv_iload C.1 C.2.1 hd (lv_at L q hl) (k p l e s m args below meth c H locs ls Qc C P S L hq)
theorem x_lload_n (q : Nat) {j : Fin 4} {x : Int64} (hd : mx_at cc pc (.lload_n j) 1 n) (hl : lv[q]? = some ((j : Nat), .long x)) (k : MX E K own cc nL ret n lv (.long x :: st) σ post) : MX E K own cc nL ret pc lv st σ post := by
  intro p l e s m args below meth c H locs ls Qc C P S L hq
  obtain ⟨hd, rfl⟩ := hd
  exact lv_lload_n C.1 C.2.1 hd rfl (lv_at L q hl) (k p l e s m args below meth c H locs ls Qc C P S L hq)
theorem x_lload (q : Nat) {j : Nat} {x : Int64} (hd : mx_at cc pc (.lload j) 2 n) (hl : lv[q]? = some (j, .long x)) (k : MX E K own cc nL ret n lv (.long x :: st) σ post) : MX E K own cc nL ret pc lv st σ post := by
  intro p l e s m args below meth c H locs ls Qc C P S L hq
  obtain ⟨hd, rfl⟩ := hd
  exact lv_lload C.1 C.2.1 hd (lv_at L q hl) (k p l e s m args below meth c H locs ls Qc C P S L hq)
theorem x_aload_n (q : Nat) {j : Fin 4} {x : Nat} (hd : mx_at cc pc (.aload_n j) 1 n) (hl : lv[q]? = some ((j : Nat), .ref x)) (k : MX E K own cc nL ret n lv (.ref x :: st) σ post) : MX E K own cc nL ret pc lv st σ post := by
  intro p l e s m args below meth c H locs ls Qc C P S L hq
  obtain ⟨hd, rfl⟩ := hd
  exact lv_aload_n C.1 C.2.1 hd rfl (lv_at L q hl) (k p l e s m args below meth c H locs ls Qc C P S L hq)
theorem x_aload (q : Nat) {j : Nat} {x : Nat} (hd : mx_at cc pc (.aload j) 2 n) (hl : lv[q]? = some (j, .ref x)) (k : MX E K own cc nL ret n lv (.ref x :: st) σ post) : MX E K own cc nL ret pc lv st σ post := by
  intro p l e s m args below meth c H locs ls Qc C P S L hq
  obtain ⟨hd, rfl⟩ := hd
  exact lv_aload C.1 C.2.1 hd (lv_at L q hl) (k p l e s m args below meth c H locs ls Qc C P S L hq)
theorem x_istore_n {i : Fin 4} {j : Nat} {x : Int32} (hd : mx_at cc pc (.istore_n i) 1 n) (hi : (i : Nat) = j) (hj : j < nL) (hl : (j, Value.int x) :: lv.filter (fun q => !(q.1 == j) && !(q.1 + 1 == j && q.2.category == 2)) = lv') (k : MX E K own cc nL ret n lv' st σ post) : MX E K own cc nL ret pc lv (Value.int x :: st) σ post := by
  intro p l e s m args below meth c H locs ls Qc C P S L hq
  obtain ⟨hd, rfl⟩ := hd
  subst hi
  exact lv_istore_n C.1 C.2.1 hd rfl L hj hl (fun ls' L' => k p l e s m args below meth c H locs ls' Qc C P S L' hq)
theorem x_istore {i : Nat} {j : Nat} {x : Int32} (hd : mx_at cc pc (.istore i) 2 n) (hi : (i : Nat) = j) (hj : j < nL) (hl : (j, Value.int x) :: lv.filter (fun q => !(q.1 == j) && !(q.1 + 1 == j && q.2.category == 2)) = lv') (k : MX E K own cc nL ret n lv' st σ post) : MX E K own cc nL ret pc lv (Value.int x :: st) σ post := by
  intro p l e s m args below meth c H locs ls Qc C P S L hq
  obtain ⟨hd, rfl⟩ := hd
  subst hi
  exact lv_istore C.1 C.2.1 hd L hj hl (fun ls' L' => k p l e s m args below meth c H locs ls' Qc C P S L' hq)
theorem x_lstore_n {i : Fin 4} {j : Nat} {x : Int64} (hd : mx_at cc pc (.lstore_n i) 1 n) (hi : (i : Nat) = j) (hj : j + 1 < nL) (hl : (j, Value.long x) :: lv.filter (fun q => !(q.1 == j) && (!(q.1 == j + 1) && !(q.1 + 1 == j && q.2.category == 2))) = lv') (k : MX E K own cc nL ret n lv' st σ post) : MX E K own cc nL ret pc lv (Value.long x :: st) σ post := by
  intro p l e s m args below meth c H locs ls Qc C P S L hq
  obtain ⟨hd, rfl⟩ := hd
  subst hi
  exact lv_lstore_n C.1 C.2.1 hd rfl L hj hl (fun ls' L' => k p l e s m args below meth c H locs ls' Qc C P S L' hq)
theorem x_lstore {i : Nat} {j : Nat} {x : Int64} (hd : mx_at cc pc (.lstore i) 2 n) (hi : (i : Nat) = j) (hj : j + 1 < nL) (hl : (j, Value.long x) :: lv.filter (fun q => !(q.1 == j) && (!(q.1 == j + 1) && !(q.1 + 1 == j && q.2.category == 2))) = lv') (k : MX E K own cc nL ret n lv' st σ post) : MX E K own cc nL ret pc lv (Value.long x :: st) σ post := by
  intro p l e s m args below meth c H locs ls Qc C P S L hq
  obtain ⟨hd, rfl⟩ := hd
  subst hi
  exact lv_lstore C.1 C.2.1 hd L hj hl (fun ls' L' => k p l e s m args below meth c H locs ls' Qc C P S L' hq)
theorem x_astore_n {i : Fin 4} {j : Nat} {x : Nat} (hd : mx_at cc pc (.astore_n i) 1 n) (hi : (i : Nat) = j) (hj : j < nL) (hl : (j, Value.ref x) :: lv.filter (fun q => !(q.1 == j) && !(q.1 + 1 == j && q.2.category == 2)) = lv') (k : MX E K own cc nL ret n lv' st σ post) : MX E K own cc nL ret pc lv (Value.ref x :: st) σ post := by
  intro p l e s m args below meth c H locs ls Qc C P S L hq
  obtain ⟨hd, rfl⟩ := hd
  subst hi
  exact lv_astore_n C.1 C.2.1 hd rfl L hj hl (fun ls' L' => k p l e s m args below meth c H locs ls' Qc C P S L' hq)
theorem x_astore {i : Nat} {j : Nat} {x : Nat} (hd : mx_at cc pc (.astore i) 2 n) (hi : (i : Nat) = j) (hj : j < nL) (hl : (j, Value.ref x) :: lv.filter (fun q => !(q.1 == j) && !(q.1 + 1 == j && q.2.category == 2)) = lv') (k : MX E K own cc nL ret n lv' st σ post) : MX E K own cc nL ret pc lv (Value.ref x :: st) σ post := by
  intro p l e s m args below meth c H locs ls Qc C P S L hq
  obtain ⟨hd, rfl⟩ := hd
  subst hi
  exact lv_astore C.1 C.2.1 hd L hj hl (fun ls' L' => k p l e s m args below meth c H locs ls' Qc C P S L' hq)
theorem x_iinc {j : Nat} {z : Int} {x v : Int32} (q : Nat) (hd : mx_at cc pc (.iinc j z) 3 n) (hk : lv[q]? = some (j, .int x)) (hv : x + Int32.ofInt z = v) (hj : j < nL) (hl : (j, Value.int v) :: lv.filter (fun q => !(q.1 == j) && !(q.1 + 1 == j && q.2.category == 2)) = lv') (k : MX E K own cc nL ret n lv' st σ post) : MX E K own cc nL ret pc lv st σ post := by
  intro p l e s m args below meth c H locs ls Qc C P S L hq
  obtain ⟨hd, rfl⟩ := hd
  exact lv_iinc C.1 C.2.1 hd L hk hv hj hl (fun ls' L' => k p l e s m args below meth c H locs ls' Qc C P S L' hq)
theorem x_iadd {x y : Int32} (hd : mx_at cc pc .iadd 1 n) (k : MX E K own cc nL ret n lv (.int (x + y) :: st) σ post) : MX E K own cc nL ret pc lv (.int y :: .int x :: st) σ post := by
  intro p l e s m args below meth c H locs ls Qc C P S L hq
  obtain ⟨hd, rfl⟩ := hd
  exact lv_iadd C.1 C.2.1 hd (k p l e s m args below meth c H locs ls Qc C P S L hq)
theorem x_isub {x y : Int32} (hd : mx_at cc pc .isub 1 n) (k : MX E K own cc nL ret n lv (.int (x - y) :: st) σ post) : MX E K own cc nL ret pc lv (.int y :: .int x :: st) σ post := by
  intro p l e s m args below meth c H locs ls Qc C P S L hq
  obtain ⟨hd, rfl⟩ := hd
  exact lv_isub C.1 C.2.1 hd (k p l e s m args below meth c H locs ls Qc C P S L hq)
theorem x_imul {x y : Int32} (hd : mx_at cc pc .imul 1 n) (k : MX E K own cc nL ret n lv (.int (x * y) :: st) σ post) : MX E K own cc nL ret pc lv (.int y :: .int x :: st) σ post := by
  intro p l e s m args below meth c H locs ls Qc C P S L hq
  obtain ⟨hd, rfl⟩ := hd
  exact lv_imul C.1 C.2.1 hd (k p l e s m args below meth c H locs ls Qc C P S L hq)
theorem x_iand {x y : Int32} (hd : mx_at cc pc .iand 1 n) (k : MX E K own cc nL ret n lv (.int (x &&& y) :: st) σ post) : MX E K own cc nL ret pc lv (.int y :: .int x :: st) σ post := by
  intro p l e s m args below meth c H locs ls Qc C P S L hq
  obtain ⟨hd, rfl⟩ := hd
  exact lv_iand C.1 C.2.1 hd (k p l e s m args below meth c H locs ls Qc C P S L hq)
theorem x_ior {x y : Int32} (hd : mx_at cc pc .ior 1 n) (k : MX E K own cc nL ret n lv (.int (x ||| y) :: st) σ post) : MX E K own cc nL ret pc lv (.int y :: .int x :: st) σ post := by
  intro p l e s m args below meth c H locs ls Qc C P S L hq
  obtain ⟨hd, rfl⟩ := hd
  exact lv_ior C.1 C.2.1 hd (k p l e s m args below meth c H locs ls Qc C P S L hq)
theorem x_ixor {x y : Int32} (hd : mx_at cc pc .ixor 1 n) (k : MX E K own cc nL ret n lv (.int (x ^^^ y) :: st) σ post) : MX E K own cc nL ret pc lv (.int y :: .int x :: st) σ post := by
  intro p l e s m args below meth c H locs ls Qc C P S L hq
  obtain ⟨hd, rfl⟩ := hd
  exact lv_ixor C.1 C.2.1 hd (k p l e s m args below meth c H locs ls Qc C P S L hq)
theorem x_ishl {x y : Int32} (hd : mx_at cc pc .ishl 1 n) (k : MX E K own cc nL ret n lv (.int (x <<< (y &&& 31)) :: st) σ post) : MX E K own cc nL ret pc lv (.int y :: .int x :: st) σ post := by
  intro p l e s m args below meth c H locs ls Qc C P S L hq
  obtain ⟨hd, rfl⟩ := hd
  exact lv_ishl C.1 C.2.1 hd (k p l e s m args below meth c H locs ls Qc C P S L hq)
theorem x_ishr {x y : Int32} (hd : mx_at cc pc .ishr 1 n) (k : MX E K own cc nL ret n lv (.int (x >>> (y &&& 31)) :: st) σ post) : MX E K own cc nL ret pc lv (.int y :: .int x :: st) σ post := by
  intro p l e s m args below meth c H locs ls Qc C P S L hq
  obtain ⟨hd, rfl⟩ := hd
  exact lv_ishr C.1 C.2.1 hd (k p l e s m args below meth c H locs ls Qc C P S L hq)
theorem x_ladd {x y : Int64} (hd : mx_at cc pc .ladd 1 n) (k : MX E K own cc nL ret n lv (.long (x + y) :: st) σ post) : MX E K own cc nL ret pc lv (.long y :: .long x :: st) σ post := by
  intro p l e s m args below meth c H locs ls Qc C P S L hq
  obtain ⟨hd, rfl⟩ := hd
  exact lv_ladd C.1 C.2.1 hd (k p l e s m args below meth c H locs ls Qc C P S L hq)
theorem x_lsub {x y : Int64} (hd : mx_at cc pc .lsub 1 n) (k : MX E K own cc nL ret n lv (.long (x - y) :: st) σ post) : MX E K own cc nL ret pc lv (.long y :: .long x :: st) σ post := by
  intro p l e s m args below meth c H locs ls Qc C P S L hq
  obtain ⟨hd, rfl⟩ := hd
  exact lv_lsub C.1 C.2.1 hd (k p l e s m args below meth c H locs ls Qc C P S L hq)
theorem x_lmul {x y : Int64} (hd : mx_at cc pc .lmul 1 n) (k : MX E K own cc nL ret n lv (.long (x * y) :: st) σ post) : MX E K own cc nL ret pc lv (.long y :: .long x :: st) σ post := by
  intro p l e s m args below meth c H locs ls Qc C P S L hq
  obtain ⟨hd, rfl⟩ := hd
  exact lv_lmul C.1 C.2.1 hd (k p l e s m args below meth c H locs ls Qc C P S L hq)
theorem x_idiv {x y : Int32} (hd : mx_at cc pc .idiv 1 n) (hne : ¬ y = 0) (k : MX E K own cc nL ret n lv (.int (x / y) :: st) σ post) : MX E K own cc nL ret pc lv (.int y :: .int x :: st) σ post := by
  intro p l e s m args below meth c H locs ls Qc C P S L hq
  obtain ⟨hd, rfl⟩ := hd
  exact lv_idiv C.1 C.2.1 hd hne (k p l e s m args below meth c H locs ls Qc C P S L hq)
theorem x_ldiv {x y : Int64} (hd : mx_at cc pc .ldiv 1 n) (hne : ¬ y = 0) (k : MX E K own cc nL ret n lv (.long (x / y) :: st) σ post) : MX E K own cc nL ret pc lv (.long y :: .long x :: st) σ post := by
  intro p l e s m args below meth c H locs ls Qc C P S L hq
  obtain ⟨hd, rfl⟩ := hd
  exact lv_ldiv C.1 C.2.1 hd hne (k p l e s m args below meth c H locs ls Qc C P S L hq)
theorem x_irem {x y : Int32} (hd : mx_at cc pc .irem 1 n) (hne : ¬ y = 0) (k : MX E K own cc nL ret n lv (.int (x % y) :: st) σ post) : MX E K own cc nL ret pc lv (.int y :: .int x :: st) σ post := by
  intro p l e s m args below meth c H locs ls Qc C P S L hq
  obtain ⟨hd, rfl⟩ := hd
  exact lv_irem C.1 C.2.1 hd hne (irem_eq_mod x y ▸ (k p l e s m args below meth c H locs ls Qc C P S L hq))
theorem x_lmod (x y : Int64) : x - (x / y) * y = x % y := by
  apply Int64.toInt_inj.mp
  have h1 := Int64.le_toInt (x % y)
  have h2 := Int64.toInt_lt (x % y)
  rw [Int64.toInt_sub, Int64.toInt_mul, Int64.toInt_div, Int.bmod_mul_bmod, Int.sub_bmod_bmod, Int.mul_comm (x.toInt.tdiv y.toInt), ← Int.tmod_def, ← Int64.toInt_mod]
  exact Int.bmod_eq_of_le_mul_two (by omega) (by omega)
theorem x_lrem {x y : Int64} (hd : mx_at cc pc .lrem 1 n) (hne : ¬ y = 0) (k : MX E K own cc nL ret n lv (.long (x % y) :: st) σ post) : MX E K own cc nL ret pc lv (.long y :: .long x :: st) σ post := by
  intro p l e s m args below meth c H locs ls Qc C P S L hq
  obtain ⟨hd, rfl⟩ := hd
  exact lv_lrem C.1 C.2.1 hd hne (x_lmod x y ▸ (k p l e s m args below meth c H locs ls Qc C P S L hq))
theorem x_ineg {x : Int32} (hd : mx_at cc pc .ineg 1 n) (k : MX E K own cc nL ret n lv (.int (-x) :: st) σ post) : MX E K own cc nL ret pc lv (.int x :: st) σ post := by
  intro p l e s m args below meth c H locs ls Qc C P S L hq
  obtain ⟨hd, rfl⟩ := hd
  exact lv_ineg C.1 C.2.1 hd (k p l e s m args below meth c H locs ls Qc C P S L hq)
theorem x_i2l {x : Int32} (hd : mx_at cc pc .i2l 1 n) (k : MX E K own cc nL ret n lv (.long x.toInt64 :: st) σ post) : MX E K own cc nL ret pc lv (.int x :: st) σ post := by
  intro p l e s m args below meth c H locs ls Qc C P S L hq
  obtain ⟨hd, rfl⟩ := hd
  exact lv_i2l C.1 C.2.1 hd rfl (k p l e s m args below meth c H locs ls Qc C P S L hq)
theorem x_l2i {x : Int64} (hd : mx_at cc pc .l2i 1 n) (k : MX E K own cc nL ret n lv (.int x.toInt32 :: st) σ post) : MX E K own cc nL ret pc lv (.long x :: st) σ post := by
  intro p l e s m args below meth c H locs ls Qc C P S L hq
  obtain ⟨hd, rfl⟩ := hd
  exact lv_l2i C.1 C.2.1 hd rfl (k p l e s m args below meth c H locs ls Qc C P S L hq)
theorem x_iushr {x y : Int32} (hd : mx_at cc pc .iushr 1 n) (k : MX E K own cc nL ret n lv (.int (x.toUInt32 >>> (y.toUInt32 &&& Int32.toUInt32 31)).toInt32 :: st) σ post) : MX E K own cc nL ret pc lv (.int y :: .int x :: st) σ post := by
  intro p l e s m args below meth c H locs ls Qc C P S L hq
  obtain ⟨hd, rfl⟩ := hd
  exact lv_iushr C.1 C.2.1 hd rfl (k p l e s m args below meth c H locs ls Qc C P S L hq)
theorem x_lcmp {x y : Int64} (hd : mx_at cc pc .lcmp 1 n) (k : MX E K own cc nL ret n lv (.int (lg_cmp x y) :: st) σ post) : MX E K own cc nL ret pc lv (.long y :: .long x :: st) σ post := by
  intro p l e s m args below meth c H locs ls Qc C P S L hq
  obtain ⟨hd, rfl⟩ := hd
  exact W.lcmp C.1 C.2.1 hd (k p l e s m args below meth c H locs ls Qc C P S L hq)
theorem x_dup {v : Value} (hd : mx_at cc pc .dup 1 n) (hc : v.category = 1) (k : MX E K own cc nL ret n lv (v :: v :: st) σ post) : MX E K own cc nL ret pc lv (v :: st) σ post := by
  intro p l e s m args below meth c H locs ls Qc C P S L hq
  obtain ⟨hd, rfl⟩ := hd
  exact lv_dup C.1 C.2.1 hd hc (k p l e s m args below meth c H locs ls Qc C P S L hq)
theorem x_pop {v : Value} (hd : mx_at cc pc .pop 1 n) (hc : v.category = 1) (k : MX E K own cc nL ret n lv st σ post) : MX E K own cc nL ret pc lv (v :: st) σ post := by
  intro p l e s m args below meth c H locs ls Qc C P S L hq
  obtain ⟨hd, rfl⟩ := hd
  exact lv_pop C.1 C.2.1 hd hc (k p l e s m args below meth c H locs ls Qc C P S L hq)
theorem x_dup2 {u v : Value} (hd : mx_at cc pc .dup2 1 n) (hc : u.category = 1) (hc2 : v.category = 1) (k : MX E K own cc nL ret n lv (u :: v :: u :: v :: st) σ post) : MX E K own cc nL ret pc lv (u :: v :: st) σ post := by
  intro p l e s m args below meth c H locs ls Qc C P S L hq
  obtain ⟨hd, rfl⟩ := hd
  exact lv_dup2_11 C.1 C.2.1 hd hc hc2 (k p l e s m args below meth c H locs ls Qc C P S L hq)
theorem x_goto {off : Int} (hd : mx_br cc pc (.goto off) off 3 n tgt) (k : MX E K own cc nL ret tgt lv st σ post) : MX E K own cc nL ret pc lv st σ post := by
  intro p l e s m args below meth c H locs ls Qc C P S L hq
  exact lv_goto C.1 C.2.1 hd.1 hd.2.2 (k p l e s m args below meth c H locs ls Qc C P S L hq)
theorem x_ifnonnull {off : Int} {x : Nat} (hd : mx_br cc pc (.ifnonnull off) off 3 n tgt) (k : MX E K own cc nL ret tgt lv st σ post) : MX E K own cc nL ret pc lv (.ref x :: st) σ post := by
  intro p l e s m args below meth c H locs ls Qc C P S L hq
  exact lv_ifnonnull C.1 C.2.1 hd.1 hd.2.2 (k p l e s m args below meth c H locs ls Qc C P S L hq)
theorem x_if_eq {off : Int} {x : Int32} (hd : mx_br cc pc (.ifCond .eq off) off 3 n tgt) (kt : x = 0 → MX E K own cc nL ret tgt lv st σ post) (kf : ¬ x = 0 → MX E K own cc nL ret n lv st σ post) : MX E K own cc nL ret pc lv (.int x :: st) σ post := by
  intro p l e s m args below meth c H locs ls Qc C P S L hq
  obtain ⟨hd, rfl, ht⟩ := hd
  exact lv_if_eq C.1 C.2.1 hd ht (fun h => kt h p l e s m args below meth c H locs ls Qc C P S L hq) (fun h => kf h p l e s m args below meth c H locs ls Qc C P S L hq)
theorem x_icmp_eq {off : Int} {x y : Int32} (hd : mx_br cc pc (.if_icmp .eq off) off 3 n tgt) (kt : x = y → MX E K own cc nL ret tgt lv st σ post) (kf : ¬ x = y → MX E K own cc nL ret n lv st σ post) : MX E K own cc nL ret pc lv (.int y :: .int x :: st) σ post := by
  intro p l e s m args below meth c H locs ls Qc C P S L hq
  obtain ⟨hd, rfl, ht⟩ := hd
  exact lv_icmp_eq C.1 C.2.1 hd ht (fun h => kt h p l e s m args below meth c H locs ls Qc C P S L hq) (fun h => kf h p l e s m args below meth c H locs ls Qc C P S L hq)
theorem x_if_ne {off : Int} {x : Int32} (hd : mx_br cc pc (.ifCond .ne off) off 3 n tgt) (kt : ¬ x = 0 → MX E K own cc nL ret tgt lv st σ post) (kf : x = 0 → MX E K own cc nL ret n lv st σ post) : MX E K own cc nL ret pc lv (.int x :: st) σ post := by
  intro p l e s m args below meth c H locs ls Qc C P S L hq
  obtain ⟨hd, rfl, ht⟩ := hd
  exact lv_if_ne C.1 C.2.1 hd ht (fun h => kt h p l e s m args below meth c H locs ls Qc C P S L hq) (fun h => kf h p l e s m args below meth c H locs ls Qc C P S L hq)
theorem x_icmp_ne {off : Int} {x y : Int32} (hd : mx_br cc pc (.if_icmp .ne off) off 3 n tgt) (kt : ¬ x = y → MX E K own cc nL ret tgt lv st σ post) (kf : x = y → MX E K own cc nL ret n lv st σ post) : MX E K own cc nL ret pc lv (.int y :: .int x :: st) σ post := by
  intro p l e s m args below meth c H locs ls Qc C P S L hq
  obtain ⟨hd, rfl, ht⟩ := hd
  exact lv_icmp_ne C.1 C.2.1 hd ht (fun h => kt h p l e s m args below meth c H locs ls Qc C P S L hq) (fun h => kf h p l e s m args below meth c H locs ls Qc C P S L hq)
theorem x_if_lt {off : Int} {x : Int32} (hd : mx_br cc pc (.ifCond .lt off) off 3 n tgt) (kt : x < 0 → MX E K own cc nL ret tgt lv st σ post) (kf : ¬ x < 0 → MX E K own cc nL ret n lv st σ post) : MX E K own cc nL ret pc lv (.int x :: st) σ post := by
  intro p l e s m args below meth c H locs ls Qc C P S L hq
  obtain ⟨hd, rfl, ht⟩ := hd
  exact lv_if_lt C.1 C.2.1 hd ht (fun h => kt h p l e s m args below meth c H locs ls Qc C P S L hq) (fun h => kf h p l e s m args below meth c H locs ls Qc C P S L hq)
theorem x_icmp_lt {off : Int} {x y : Int32} (hd : mx_br cc pc (.if_icmp .lt off) off 3 n tgt) (kt : x < y → MX E K own cc nL ret tgt lv st σ post) (kf : ¬ x < y → MX E K own cc nL ret n lv st σ post) : MX E K own cc nL ret pc lv (.int y :: .int x :: st) σ post := by
  intro p l e s m args below meth c H locs ls Qc C P S L hq
  obtain ⟨hd, rfl, ht⟩ := hd
  exact lv_icmp_lt C.1 C.2.1 hd ht (fun h => kt h p l e s m args below meth c H locs ls Qc C P S L hq) (fun h => kf h p l e s m args below meth c H locs ls Qc C P S L hq)
theorem x_if_ge {off : Int} {x : Int32} (hd : mx_br cc pc (.ifCond .ge off) off 3 n tgt) (kt : 0 ≤ x → MX E K own cc nL ret tgt lv st σ post) (kf : ¬ 0 ≤ x → MX E K own cc nL ret n lv st σ post) : MX E K own cc nL ret pc lv (.int x :: st) σ post := by
  intro p l e s m args below meth c H locs ls Qc C P S L hq
  obtain ⟨hd, rfl, ht⟩ := hd
  exact lv_if_ge C.1 C.2.1 hd ht (fun h => kt h p l e s m args below meth c H locs ls Qc C P S L hq) (fun h => kf h p l e s m args below meth c H locs ls Qc C P S L hq)
theorem x_icmp_ge {off : Int} {x y : Int32} (hd : mx_br cc pc (.if_icmp .ge off) off 3 n tgt) (kt : y ≤ x → MX E K own cc nL ret tgt lv st σ post) (kf : ¬ y ≤ x → MX E K own cc nL ret n lv st σ post) : MX E K own cc nL ret pc lv (.int y :: .int x :: st) σ post := by
  intro p l e s m args below meth c H locs ls Qc C P S L hq
  obtain ⟨hd, rfl, ht⟩ := hd
  exact lv_icmp_ge C.1 C.2.1 hd ht (fun h => kt h p l e s m args below meth c H locs ls Qc C P S L hq) (fun h => kf h p l e s m args below meth c H locs ls Qc C P S L hq)
theorem x_if_gt {off : Int} {x : Int32} (hd : mx_br cc pc (.ifCond .gt off) off 3 n tgt) (kt : 0 < x → MX E K own cc nL ret tgt lv st σ post) (kf : ¬ 0 < x → MX E K own cc nL ret n lv st σ post) : MX E K own cc nL ret pc lv (.int x :: st) σ post := by
  intro p l e s m args below meth c H locs ls Qc C P S L hq
  obtain ⟨hd, rfl, ht⟩ := hd
  exact lv_if_gt C.1 C.2.1 hd ht (fun h => kt h p l e s m args below meth c H locs ls Qc C P S L hq) (fun h => kf h p l e s m args below meth c H locs ls Qc C P S L hq)
theorem x_icmp_gt {off : Int} {x y : Int32} (hd : mx_br cc pc (.if_icmp .gt off) off 3 n tgt) (kt : y < x → MX E K own cc nL ret tgt lv st σ post) (kf : ¬ y < x → MX E K own cc nL ret n lv st σ post) : MX E K own cc nL ret pc lv (.int y :: .int x :: st) σ post := by
  intro p l e s m args below meth c H locs ls Qc C P S L hq
  obtain ⟨hd, rfl, ht⟩ := hd
  exact lv_icmp_gt C.1 C.2.1 hd ht (fun h => kt h p l e s m args below meth c H locs ls Qc C P S L hq) (fun h => kf h p l e s m args below meth c H locs ls Qc C P S L hq)
theorem x_if_le {off : Int} {x : Int32} (hd : mx_br cc pc (.ifCond .le off) off 3 n tgt) (kt : x ≤ 0 → MX E K own cc nL ret tgt lv st σ post) (kf : ¬ x ≤ 0 → MX E K own cc nL ret n lv st σ post) : MX E K own cc nL ret pc lv (.int x :: st) σ post := by
  intro p l e s m args below meth c H locs ls Qc C P S L hq
  obtain ⟨hd, rfl, ht⟩ := hd
  exact lv_if_le C.1 C.2.1 hd ht (fun h => kt h p l e s m args below meth c H locs ls Qc C P S L hq) (fun h => kf h p l e s m args below meth c H locs ls Qc C P S L hq)
theorem x_icmp_le {off : Int} {x y : Int32} (hd : mx_br cc pc (.if_icmp .le off) off 3 n tgt) (kt : x ≤ y → MX E K own cc nL ret tgt lv st σ post) (kf : ¬ x ≤ y → MX E K own cc nL ret n lv st σ post) : MX E K own cc nL ret pc lv (.int y :: .int x :: st) σ post := by
  intro p l e s m args below meth c H locs ls Qc C P S L hq
  obtain ⟨hd, rfl, ht⟩ := hd
  exact lv_icmp_le C.1 C.2.1 hd ht (fun h => kt h p l e s m args below meth c H locs ls Qc C P S L hq) (fun h => kf h p l e s m args below meth c H locs ls Qc C P S L hq)
theorem x_tableIn {dflt lo hi : Int} {offs : Array Int} {len : Nat} {x : Int32} {off : Int} (hd : decode cc pc = .ok (.tableswitch dflt lo hi offs, len)) (h1 : ¬ x.toInt < lo) (h2 : ¬ hi < x.toInt) (ho : offs[(x.toInt - lo).toNat]? = some off) (ht : (pc : Int) + off = (tgt : Int)) (k : MX E K own cc nL ret tgt lv st σ post) : MX E K own cc nL ret pc lv (.int x :: st) σ post := by
  intro p l e s m args below meth c H locs ls Qc C P S L hq
  exact lv_tableIn C.1 C.2.1 hd h1 h2 ho ht (k p l e s m args below meth c H locs ls Qc C P S L hq)
theorem x_tableOut {dflt lo hi : Int} {offs : Array Int} {len : Nat} {x : Int32} (hd : decode cc pc = .ok (.tableswitch dflt lo hi offs, len)) (h : x.toInt < lo ∨ hi < x.toInt) (ht : (pc : Int) + dflt = (tgt : Int)) (k : MX E K own cc nL ret tgt lv st σ post) : MX E K own cc nL ret pc lv (.int x :: st) σ post := by
  intro p l e s m args below meth c H locs ls Qc C P S L hq
  exact lv_tableOut C.1 C.2.1 hd h ht (k p l e s m args below meth c H locs ls Qc C P S L hq)
theorem x_lookup {dflt : Int} {ps : Array (Int × Int)} {len : Nat} {x : Int32} {off : Int} (hd : decode cc pc = .ok (.lookupswitch dflt ps, len)) (hp : (ps.toList.zip (ps.toList.drop 1)).all (fun (a, next) => a.1 < next.1) = true) (ho : Op.lookupswitch.offset ps.toList dflt x.toInt = off) (ht : (pc : Int) + off = (tgt : Int)) (k : MX E K own cc nL ret tgt lv st σ post) : MX E K own cc nL ret pc lv (.int x :: st) σ post := by
  intro p l e s m args below meth c H locs ls Qc C P S L hq
  exact lv_lookup C.1 C.2.1 hd hp ho ht (k p l e s m args below meth c H locs ls Qc C P S L hq)
theorem x_ldc {i : Nat} {v : Int32} (hd : mx_at cc pc (.ldc i) 2 n) (hw : Cond.constant own i v ∈ mx_tbl) (k : MX E K own cc nL ret n lv (.int v :: st) σ post) : MX E K own cc nL ret pc lv st σ post := by
  intro p l e s m args below meth c H locs ls Qc C P S L hq
  obtain ⟨hd, rfl⟩ := hd
  exact lv_ldc C.1 C.2.1 C.2.2.2.2.2.1 (C.2.2.2.2.1 _ hw) hd (k p l e s m args below meth c H locs ls Qc C P S L hq)
theorem x_ldc2 {i : Nat} {v : Int64} (hd : mx_at cc pc (.ldc2_w i) 3 n) (hw : Cond.constantLong own i v ∈ mx_tbl) (k : MX E K own cc nL ret n lv (.long v :: st) σ post) : MX E K own cc nL ret pc lv st σ post := by
  intro p l e s m args below meth c H locs ls Qc C P S L hq
  obtain ⟨hd, rfl⟩ := hd
  exact lv_ldc2 C.1 C.2.1 C.2.2.2.2.2.1 (C.2.2.2.2.1 _ hw) hd (k p l e s m args below meth c H locs ls Qc C P S L hq)
theorem x_ldcw {i : Nat} {v : Int32} (hd : mx_at cc pc (.ldc_w i) 3 n) (hw : Cond.constant own i v ∈ mx_tbl) (k : MX E K own cc nL ret n lv (.int v :: st) σ post) : MX E K own cc nL ret pc lv st σ post := by
  intro p l e s m args below meth c H locs ls Qc C P S L hq
  obtain ⟨hd, rfl⟩ := hd
  exact lv_ldcw C.1 C.2.1 C.2.2.2.2.2.1 (C.2.2.2.2.1 _ hw) hd (k p l e s m args below meth c H locs ls Qc C P S L hq)
theorem mx_fs {x : ClassId × Class × Nat × Field} : True := trivial
theorem mx_cH {E : mx_E} {σ : Mem} {k : Nat} (h1 : 7 ≤ k) (h2 : k < 28) : mx_cell E σ k = .inr (0, [.int (σ k 0), .int (σ k 1), .int (σ k 2), .int (σ k 3), .int (σ k 4), .int (σ k 5), .int (σ k 6), .int (σ k 7)]) := by
  unfold mx_cell
  rw [if_neg (by omega), if_neg (by omega), if_neg (by omega), if_pos h2]
theorem mx_cT {E : mx_E} {σ : Mem} {k : Nat} (h1 : 1 ≤ k) (h2 : k < 4) : mx_cell E σ k = .inr (2, [mx_rf E (k + 3), mx_rf E (k + 6), .int (σ k 2), .int (σ k 3), .int (σ k 4), .int (σ k 5)]) := by
  unfold mx_cell
  rw [if_neg (by omega), if_pos h2]
theorem mx_cQ {E : mx_E} {σ : Mem} {k : Nat} (h1 : 4 ≤ k) (h2 : k < 7) : mx_cell E σ k = .inl (E.2.2.2, 6, .inr (.inr (.inr (.inr (fun i => some (E.2.1 (6 * k - 14 + i))))))) := by
  unfold mx_cell
  rw [if_neg (by omega), if_neg (by omega), if_pos h2]
theorem mx_cR {E : mx_E} {σ : Mem} {k : Nat} (h1 : 28 ≤ k) (h2 : k < 31) : mx_cell E σ k = .inr (1, [mx_rf E (k + 3), .int (σ k 1)]) := by
  unfold mx_cell
  rw [if_neg (by omega), if_neg (by omega), if_neg (by omega), if_neg (by omega), if_pos h2]
theorem mx_cI {E : mx_E} {σ : Mem} {k : Nat} (h1 : 31 ≤ k) (h2 : k ≠ 35) : mx_cell E σ k = .inl (E.2.2.1, mx_n k, .inl (σ k)) := by
  unfold mx_cell
  rw [if_neg (by omega), if_neg (by omega), if_neg (by omega), if_neg (by omega), if_neg (by omega), if_neg h2]
theorem mx_hin {C : String} {T : u_T} {N : Nat} (h : ∀ w ∈ u_ws C T N, w ∈ lw_tbl) (g : (u_ws C T N).all goodWord = true) : ∀ w ∈ u_ws C T N, w ∈ mx_tbl := fun w hw => List.mem_filter.mpr ⟨h w hw, List.all_eq_true.mp g w hw⟩
/-- a field read, of any cell of the world -/
theorem x_getf {Cn ref : String} {T : u_T} {N ci i id j : Nat} {fs : List Value} {v : Value} (hin : ∀ w ∈ u_ws Cn T N, w ∈ mx_tbl) (hc : mx_cl[ci]? = some (Cn, T, N)) (hT : (T j).1 = ref) (hlink : Cond.fieldLink own i ref (T j).2.1 (T j).2.2.1 ∈ mx_tbl) (hj : j < N) (hid : id < 44) (he : mx_cell E σ id = .inr (ci, fs)) (hv : fs[j]? = some v)
    (hd : mx_at cc pc (.getfield i) 3 n) (k : MX E K own cc nL ret n lv (v :: st) σ post) : MX E K own cc nL ret pc lv (mx_rf E id :: st) σ post := by
  intro p l e s m args below meth c H locs ls Qc C P S L hq
  obtain ⟨hd, rfl⟩ := hd
  exact va_get (C := Cn) (T := T) (N := N) C.1 C.2.1 C.2.2.2.2.1 hin C.2.2.2.2.2.1 C.2.2.2.2.2.2.2.1 P id (by rw [mx_get hid, he]) hc j hj (C.2.2.2.2.1 _ hlink) (fun x h9 => by rw [← hT]; exact h9) hv hd (k p l e s m args below meth c H locs ls Qc C P S L hq)
/-- a number put into a field -/
theorem x_putf {Cn ref : String} {T : u_T} {N ci i id j : Nat} {fs : List Value} {v : Int32} {ty : FieldType} {ty0 : Nat → FieldType} (hty : ∀ k, k < N → parseFieldDescriptor (T k).2.2.1 = some (ty0 k)) (hnm : ∀ a, a < N → ∀ b, b < N → a ≠ b → (T a).2.1 ≠ (T b).2.1) (hin : ∀ w ∈ u_ws Cn T N, w ∈ mx_tbl) (hc : mx_cl[ci]? = some (Cn, T, N)) (hT : (T j).1 = ref) (hlink : Cond.fieldLink own i ref (T j).2.1 (T j).2.2.1 ∈ mx_tbl) (hj : j < N) (hfin : (T j).2.2.2 = false) (hid : id < 44) (he : mx_cell E σ id = .inr (ci, fs)) (hl : j < fs.length) (he2 : mx_cell E (mx_up σ id j v) id = .inr (ci, fs.set j (.int v)))
    (hdsc : parseFieldDescriptor (T j).2.2.1 = some ty) (hn : narrow ty (.int v) = .int v) (hfit : fits ty (.int v) = true)
    (hd : mx_at cc pc (.putfield i) 3 n) (k : MX E K own cc nL ret n lv st (mx_up σ id j v) post) : MX E K own cc nL ret pc lv (.int v :: mx_rf E id :: st) σ post := by
  intro p l e s m args below meth c H locs ls Qc C P S L hq
  obtain ⟨hd, rfl⟩ := hd
  refine va_put (C := Cn) (T := T) (N := N) (ty := ty) C.1 C.2.1 C.2.2.2.2.1 hin ty0 hty hnm C.2.2.2.2.2.1 C.2.2.2.2.2.2.2.1 P (mx_D C.2.2.2.2.2.2.2.2) S id (by rw [mx_get hid, he]) hc j hj (C.2.2.2.2.1 _ hlink) (fun x h9 => by rw [← hT]; exact h9) hfin hdsc hn hfit hl hd (fun H1 locs1 P1 _ S1 => ?_)
  rw [mx_upw hid he2] at P1
  exact k p l e s m args below meth c H1 locs1 ls Qc C P1 S1 L hq
/-- a number of a row read -/
theorem x_iaload {id : Nat} {i : Int32} (h1 : 31 ≤ id) (h2 : id ≠ 35) (h3 : id < 44) (hi : vp_in i (mx_n id)) (hd : mx_at cc pc .iaload 1 n) (k : MX E K own cc nL ret n lv (.int (σ id i.toNatClampNeg) :: st) σ post) : MX E K own cc nL ret pc lv (.int i :: mx_rf E id :: st) σ post := by
  intro p l e s m args below meth c H locs ls Qc C P S L hq
  obtain ⟨hd, rfl⟩ := hd
  exact va_iald C.1 C.2.1 C.2.2.2.2.2.2.2.1 P id 0 (by rw [mx_get h3, mx_cI h1 h2]) rfl hi hd (k p l e s m args below meth c H locs ls Qc C P S L hq)
theorem x_iastore {id : Nat} {i v : Int32} (h1 : 31 ≤ id) (h2 : id ≠ 35) (h3 : id < 44) (hi : vp_in i (mx_n id)) (hd : mx_at cc pc .iastore 1 n) (k : MX E K own cc nL ret n lv st (mx_up σ id i.toNatClampNeg v) post) : MX E K own cc nL ret pc lv (.int v :: .int i :: mx_rf E id :: st) σ post := by
  intro p l e s m args below meth c H locs ls Qc C P S L hq
  obtain ⟨hd, rfl⟩ := hd
  refine va_iast C.1 C.2.1 C.2.2.2.2.2.2.2.1 P (mx_D C.2.2.2.2.2.2.2.2) S id 0 (by rw [mx_get h3, mx_cI h1 h2]) rfl hi hd (fun H1 locs1 P1 _ S1 => ?_)
  rw [mx_upw h3 (by rw [mx_cI h1 h2, mx_up_s])] at P1
  exact k p l e s m args below meth c H1 locs1 ls Qc C P1 S1 L hq
theorem x_alen {id : Nat} (h1 : 31 ≤ id) (h2 : id ≠ 35) (h3 : id < 44) (hd : mx_at cc pc .arraylength 1 n) (k : MX E K own cc nL ret n lv (.int (Int32.ofNat (mx_n id)) :: st) σ post) : MX E K own cc nL ret pc lv (mx_rf E id :: st) σ post := by
  intro p l e s m args below meth c H locs ls Qc C P S L hq
  obtain ⟨hd, rfl⟩ := hd
  exact va_alen C.1 C.2.1 C.2.2.2.2.2.2.2.1 P id 0 (by rw [mx_get h3, mx_cI h1 h2]) rfl rfl hd (k p l e s m args below meth c H locs ls Qc C P S L hq)
theorem x_alenQ {id : Nat} (h1 : 4 ≤ id) (h2 : id < 7) (hd : mx_at cc pc .arraylength 1 n) (k : MX E K own cc nL ret n lv (.int 6 :: st) σ post) : MX E K own cc nL ret pc lv (mx_rf E id :: st) σ post := by
  intro p l e s m args below meth c H locs ls Qc C P S L hq
  obtain ⟨hd, rfl⟩ := hd
  exact va_alen C.1 C.2.1 C.2.2.2.2.2.2.2.1 P id 1 (by rw [mx_get (by omega), mx_cQ h1 h2]) rfl rfl hd (k p l e s m args below meth c H locs ls Qc C P S L hq)
theorem x_aaload {id : Nat} {i : Int32} (h1 : 4 ≤ id) (h2 : id < 7) (hi : vp_in i 6) (hd : mx_at cc pc .aaload 1 n) (k : MX E K own cc nL ret n lv (mx_rf E (6 * id - 14 + i.toNatClampNeg) :: st) σ post) : MX E K own cc nL ret pc lv (.int i :: mx_rf E id :: st) σ post := by
  intro p l e s m args below meth c H locs ls Qc C P S L hq
  obtain ⟨hd, rfl⟩ := hd
  exact va_aldq (f := fun i => some (E.2.1 (6 * id - 14 + i))) C.1 C.2.1 C.2.2.2.2.2.2.2.1 P id 1 (by rw [mx_get (by omega), mx_cQ h1 h2]) rfl hi hd (k p l e s m args below meth c H locs ls Qc C P S L hq)
/-- the ends -/
def mx_i (R : Int32 → Mem → Prop) : Option Value → Mem → Prop := fun v τ => ∃ r : Int32, v = some (.int r) ∧ R r τ
def mx_l (R : Int64 → Mem → Prop) : Option Value → Mem → Prop := fun v τ => ∃ r : Int64, v = some (.long r) ∧ R r τ
def mx_v (R : Mem → Prop) : Option Value → Mem → Prop := fun v τ => v = none ∧ R τ
def mx_r (E : mx_E) (R : Nat → Mem → Prop) : Option Value → Mem → Prop := fun v τ => ∃ k : Nat, v = some (mx_rf E k) ∧ R k τ
theorem x_iret {v : Int32} {R : Int32 → Mem → Prop} (hd : mx_at cc pc .ireturn 1 n) (h : R v σ) : MX E K own cc nL (some .int) pc lv [.int v] σ (mx_i R) := by
  intro p l e s m args below meth c H locs ls Qc C P S L hq
  exact W.iret C.1 C.2.1 C.2.2.1 (fun t ht _ => hq _ σ t ⟨v, rfl, h⟩ (by rw [ht]; exact P) (S.F ht)) S.2.2 hd.1 (hlocks := C.2.2.2.2.2.2.1)
theorem x_zret {v : Int32} {R : Int32 → Mem → Prop} (hd : mx_at cc pc .ireturn 1 n) (hb : v = 0 ∨ v = 1) (h : R v σ) : MX E K own cc nL (some .boolean) pc lv [.int v] σ (mx_i R) := by
  intro p l e s m args below meth c H locs ls Qc C P S L hq
  exact W.zret C.1 C.2.1 C.2.2.1 (by rcases hb with rfl | rfl <;> rfl) (fun t ht _ => hq _ σ t ⟨v, rfl, h⟩ (by rw [ht]; exact P) (S.F ht)) S.2.2 hd.1 (hlocks := C.2.2.2.2.2.2.1)
theorem x_lret {v : Int64} {R : Int64 → Mem → Prop} (hd : mx_at cc pc .lreturn 1 n) (h : R v σ) : MX E K own cc nL (some .long) pc lv [.long v] σ (mx_l R) := by
  intro p l e s m args below meth c H locs ls Qc C P S L hq
  exact W.lret C.1 C.2.1 C.2.2.1 (fun t ht _ => hq _ σ t ⟨v, rfl, h⟩ (by rw [ht]; exact P) (S.F ht)) S.2.2 hd.1 (hlocks := C.2.2.2.2.2.2.1)
theorem x_vret {R : Mem → Prop} (hd : mx_at cc pc .return_ 1 n) (h : R σ) : MX E K own cc nL none pc lv [] σ (mx_v R) := by
  intro p l e s m args below meth c H locs ls Qc C P S L hq
  exact W.vret C.1 C.2.1 C.2.2.1 (fun t ht _ => hq _ σ t ⟨rfl, h⟩ (by rw [ht]; exact P) (S.F ht)) S.2.2 hd.1 (hlocks := C.2.2.2.2.2.2.1)
theorem x_aret {id : Nat} {Cn : String} {R : Nat → Mem → Prop} (hd : mx_at cc pc .areturn 1 n) (h : R id σ) : MX E K own cc nL (some (.object Cn)) pc lv [mx_rf E id] σ (mx_r E R) := by
  intro p l e s m args below meth c H locs ls Qc C P S L hq
  exact W.aret C.1 C.2.1 C.2.2.1 (Or.inl ⟨_, rfl⟩) (Or.inr ⟨_, rfl⟩) (fun t ht _ => hq _ σ t ⟨id, rfl, h⟩ (by rw [ht]; exact P) (S.F ht)) S.2.2 hd.1 (hlocks := C.2.2.2.2.2.2.1)
/-- a weaker end -/
theorem MX.weak {post' : Option Value → Mem → Prop} (h : MX E K own cc nL ret pc lv st σ post) (hp : ∀ v τ, post v τ → post' v τ) : MX E K own cc nL ret pc lv st σ post' := by
  intro p l e s m args below meth c H locs ls Qc C P S L hq
  exact h p l e s m args below meth c H locs ls Qc C P S L (fun v τ t h1 => hq v τ t (hp v τ h1))
/-- calls -/
theorem mx_after {p : Program} {l : Launch} {e : Env} {R : Room} {s : State} {m : MethodId} {args : Array Value} {below : List Frame} {meth : Method} {c : Code} {H : Heap} {locs : List Loc} {Q : State → Prop} {pc' : Nat} {ls : Array Slot} {st0 rest : List Value} {a : Array Value} {post' : Option Value → Mem → Prop}
    (hr : va_Run p l e R s m args below meth c H locs 0 0 0 0 (F0 m pc' ls st0) rest (mx_Qc E post' a) (mx_A E)) (hS : va_S (mx_A E) s.heap H locs)
    (kk : ∀ (v : Option Value) (τ : Mem) (H1 : Heap) (locs1 : List Loc), post' v τ → va_P E.1 mx_cl (mx_w E τ) H1 → va_S (mx_A E) s.heap H1 locs1 → W p l e R s m args below meth c H1 locs1 0 0 Q (F0 m (pc' + 3) ls (v.toList ++ rest))) : W p l e R s m args below meth c H locs 0 0 Q (F0 m pc' ls st0) := by
  intro T hT X
  obtain ⟨v, st₀, t, T', L, h0, X', hL, e1, e2, ⟨⟨v', τ, hv, hp, hP⟩, hz, hk⟩, st⟩ := hr T hT X
  cases hv
  rw [h0] at hz hk
  obtain ⟨t2, a1, b1⟩ := kk v τ T'.heap (locs ++ L) hp (by rw [e1]; exact hP)
    ⟨Nat.le_trans hS.1 (by rw [e1]; exact hz), fun q h1 h2 => by rw [e1, hk q (Nat.lt_of_lt_of_le h1 hS.1) h2]; exact hS.2.1 q h1 h2, fun q hq => by
      rcases List.mem_append.mp hq with h | h
      · exact hS.2.2 q h
      · exact hL q h⟩ T' rfl X'
  exact ⟨t2, st t2 a1, b1⟩
theorem mx_blind {args : List Value} : FrameBlind (mx_Pc E args σ) := fun a U g mk q => by
  obtain ⟨q0, qP, qK, qD⟩ := q
  exact ⟨q0, qP, va_K.moved (u := U) (U := U.calling g mk a) (Vm.Alike.refl U.vm) qK, qD⟩
theorem x_callV {y : MethodName} {cc' : ByteArray} {nL' k' i na id ci : Nat} {ret' : Option FieldType} {As rest : List Value} {post' : Option Value → Mem → Prop} {r : vw_C} {fs : List Value} (hM : MM E k' y cc' nL' ret' (mx_rf E id :: As) σ post') (hk : k' + 1 ≤ K) (hL : nL' ≤ 17)
    (hw1 : Cond.code y cc' nL' ret' ∈ mx_tbl) (hw2 : Cond.methodLink own i y ∈ mx_tbl) (hw3 : Cond.instanceMethod y ∈ mx_tbl) (hw4 : Cond.selects y.cls y y ∈ mx_tbl) (hw5 : Cond.initialized y.cls ∈ mx_tbl)
    (hy : y.cls ≠ "java/lang/invoke/MethodHandle" ∧ y.cls ≠ "java/lang/invoke/VarHandle" ∧ (parseMethodDescriptor y.desc).map (fun d => d.parameters.length) = some na) (hn : As.length = na)
    (hid : id < 44) (he : mx_cell E σ id = .inr (ci, fs)) (hc : mx_cl[ci]? = some r) (hr : r.1 = y.cls) (hst : st = As.reverse ++ mx_rf E id :: rest) (hsm : (rest.map fun v => v.category).sum ≤ 8) (hd : mx_at cc pc (.invokevirtual i) 3 n)
    (k : ∀ (v : Option Value) (τ : Mem), post' v τ → MX E K own cc nL ret n lv (v.toList ++ rest) τ post) : MX E K own cc nL ret pc lv st σ post := by
  intro p l e s m args below meth c H locs ls Qc C P S L hq
  obtain ⟨hd, rfl⟩ := hd
  subst hst
  refine mx_after (post' := post') (va_runV (As := As) (rest := rest) (n := na) (nL := nL) (Ts := mx_tbl) (C := y.cls) ⟨C.1, C.2.1, C.2.2.2.1, C.2.2.2.2.2.1, C.2.2.2.2.1⟩ (hM l) (cwV na C.2.2.2.2.1 ?_ rfl rfl rfl ⟨rfl, hy⟩ ⟨hk, ?_⟩) ⟨mx_blind, ?_, ?_⟩ rfl hn L.1 rfl (lv_room hsm) hd ⟨Nat.le_refl _, Nat.le_refl _⟩) S ?_
  · exact mx_goodc hw2 (mx_goodc hw3 (mx_goodc hw4 (mx_goodc hw5 (mx_goodc hw1 mx_good))))
  · show 8 + (nL' + 11) + 36 * k' ≤ 36 * K
    omega
  · rw [← hr]
    exact va_recv C.2.2.2.2.2.2.2.1 P hc (q0 := id) (by rw [mx_get hid, he])
  · intro U hU hW
    exact ⟨rfl, by rw [hU]; exact P, va_K.moved hW.alike C.2.2.2.2.2.2.2.1, C.2.2.2.2.2.2.2.2⟩
  · intro v τ H1 locs1 hp P1 S1
    exact k v τ hp p l e s m args below meth c H1 locs1 ls Qc C P1 S1 L hq
theorem x_callS {y : MethodName} {cc' : ByteArray} {nL' k' i na : Nat} {ret' : Option FieldType} {As rest : List Value} {post' : Option Value → Mem → Prop} (hM : MM E k' y cc' nL' ret' As σ post') (hk : k' + 1 ≤ K) (hL : nL' ≤ 17)
    (hw1 : Cond.code y cc' nL' ret' ∈ mx_tbl) (hw2 : Cond.methodLink own i y ∈ mx_tbl) (hw3 : Cond.static y ∈ mx_tbl) (hw5 : Cond.initialized y.cls ∈ mx_tbl)
    (hy : y.cls ≠ "java/lang/invoke/MethodHandle" ∧ y.cls ≠ "java/lang/invoke/VarHandle" ∧ (parseMethodDescriptor y.desc).map (fun d => d.parameters.length) = some na) (hn : As.length = na)
    (hst : st = As.reverse ++ rest) (hsm : (rest.map fun v => v.category).sum ≤ 8) (hd : mx_at cc pc (.invokestatic i) 3 n)
    (k : ∀ (v : Option Value) (τ : Mem), post' v τ → MX E K own cc nL ret n lv (v.toList ++ rest) τ post) : MX E K own cc nL ret pc lv st σ post := by
  intro p l e s m args below meth c H locs ls Qc C P S L hq
  obtain ⟨hd, rfl⟩ := hd
  subst hst
  refine mx_after (post' := post') (va_runS (As := As) (rest := rest) (n := na) (nL := nL) (Ts := mx_tbl) (own := own) ⟨C.1, C.2.1, C.2.2.2.1, C.2.2.2.2.2.1, C.2.2.2.2.1⟩ (hM l) ⟨callB_of na C.2.2.2.2.1 (mx_goodc hw1 mx_good) rfl rfl rfl (C.2.2.2.2.1 _ hw5) (C.2.2.2.2.1 _ hw2) hy ⟨hk, ?_⟩, C.2.2.2.2.1 _ hw3⟩ ⟨mx_blind, ?_⟩ rfl hn L.1 rfl (lv_room hsm) hd ⟨Nat.le_refl _, Nat.le_refl _⟩) S ?_
  · show 8 + (nL' + 11) + 36 * k' ≤ 36 * K
    omega
  · intro U hU hW
    exact ⟨rfl, by rw [hU]; exact P, va_K.moved hW.alike C.2.2.2.2.2.2.2.1, C.2.2.2.2.2.2.2.2⟩
  · intro v τ H1 locs1 hp P1 S1
    exact k v τ hp p l e s m args below meth c H1 locs1 ls Qc C P1 S1 L hq
theorem x_min {i : Nat} {x y : Int32} (hw : Cond.methodLink own i Lib.Math.min.name ∈ mx_tbl) (hw2 : Cond.static Lib.Math.min.name ∈ mx_tbl) (hw3 : Cond.initialized "java/lang/Math" ∈ mx_tbl) (hw4 : Cond.code Lib.Math.min.name Lib.Math.min.code 2 (some .int) ∈ mx_tbl) (hk : 1 ≤ K) (hsm : (st.map fun v => v.category).sum + 13 ≤ 36) (hd : mx_at cc pc (.invokestatic i) 3 n) (k : MX E K own cc nL ret n lv (.int (if y < x then y else x) :: st) σ post) : MX E K own cc nL ret pc lv (.int y :: .int x :: st) σ post := by
  intro p l e s m args below meth c H locs ls Qc C P S L hq
  obtain ⟨hd, rfl⟩ := hd
  exact va_mmin C.1 C.2.1 (by rw [C.2.2.2.1]; exact L.1.symm) C.2.2.2.2.2.1 (C.2.2.2.2.1 _ hw) (C.2.2.2.2.1 _ hw2) (C.2.2.2.2.1 _ hw3) (C.2.2.2.2.1 _ hw4) hk (by show _ ≤ 36 * K; omega) (Nat.le_refl _) (Nat.le_refl _) hd (k p l e s m args below meth c H locs ls Qc C P S L hq)
theorem x_max {i : Nat} {x y : Int32} (hw : Cond.methodLink own i Lib.Math.max.name ∈ mx_tbl) (hw2 : Cond.static Lib.Math.max.name ∈ mx_tbl) (hw3 : Cond.initialized "java/lang/Math" ∈ mx_tbl) (hw4 : Cond.code Lib.Math.max.name Lib.Math.max.code 2 (some .int) ∈ mx_tbl) (hk : 1 ≤ K) (hsm : (st.map fun v => v.category).sum + 13 ≤ 36) (hd : mx_at cc pc (.invokestatic i) 3 n) (k : MX E K own cc nL ret n lv (.int (if x < y then y else x) :: st) σ post) : MX E K own cc nL ret pc lv (.int y :: .int x :: st) σ post := by
  intro p l e s m args below meth c H locs ls Qc C P S L hq
  obtain ⟨hd, rfl⟩ := hd
  exact va_mmax C.1 C.2.1 (by rw [C.2.2.2.1]; exact L.1.symm) C.2.2.2.2.2.1 (C.2.2.2.2.1 _ hw) (C.2.2.2.2.1 _ hw2) (C.2.2.2.2.1 _ hw3) (C.2.2.2.2.1 _ hw4) hk (by show _ ≤ 36 * K; omega) (Nat.le_refl _) (Nat.le_refl _) hd (k p l e s m args below meth c H locs ls Qc C P S L hq)
end MXR
/-- a loop upward: what holds at every i up to N, from what holds behind i -/
theorem mx_ind {P : Nat → Prop} (N : Nat) (h : ∀ i, i ≤ N → (∀ j, i < j → j ≤ N → P j) → P i) : ∀ i, i ≤ N → P i := by
  have key : ∀ d i, i ≤ N → N - i ≤ d → P i := by
    intro d
    induction d with
    | zero => intro i hi hd; exact h i hi (fun j h1 h2 => by omega)
    | succ d ih => intro i hi hd; exact h i hi (fun j h1 h2 => ih j h2 (by omega))
  exact fun i hi => key (N - i) i hi (Nat.le_refl _)
end
section
theorem dX0_init_0 : mx_at cX0_init 0 (.aload_n 0) 1 1 := ⟨by decide +kernel, rfl⟩
theorem dX0_init_1 : mx_at cX0_init 1 (.invokespecial 3) 3 4 := ⟨by decide +kernel, rfl⟩
theorem dX0_init_4 : mx_at cX0_init 4 (.aload_n 0) 1 5 := ⟨by decide +kernel, rfl⟩
theorem dX0_init_5 : mx_at cX0_init 5 (.iconst 0) 1 6 := ⟨by decide +kernel, rfl⟩
theorem dX0_init_6 : mx_at cX0_init 6 (.putfield 9) 3 9 := ⟨by decide +kernel, rfl⟩
theorem dX0_init_9 : mx_at cX0_init 9 (.aload_n 0) 1 10 := ⟨by decide +kernel, rfl⟩
theorem dX0_init_10 : mx_at cX0_init 10 (.iconst 0) 1 11 := ⟨by decide +kernel, rfl⟩
theorem dX0_init_11 : mx_at cX0_init 11 (.putfield 15) 3 14 := ⟨by decide +kernel, rfl⟩
theorem dX0_init_14 : mx_at cX0_init 14 (.aload_n 0) 1 15 := ⟨by decide +kernel, rfl⟩
theorem dX0_init_15 : mx_at cX0_init 15 (.iconst 1) 1 16 := ⟨by decide +kernel, rfl⟩
theorem dX0_init_16 : mx_at cX0_init 16 (.putfield 18) 3 19 := ⟨by decide +kernel, rfl⟩
theorem dX0_init_19 : mx_at cX0_init 19 (.aload_n 0) 1 20 := ⟨by decide +kernel, rfl⟩
theorem dX0_init_20 : mx_at cX0_init 20 (.iconst 0) 1 21 := ⟨by decide +kernel, rfl⟩
theorem dX0_init_21 : mx_at cX0_init 21 (.putfield 21) 3 24 := ⟨by decide +kernel, rfl⟩
theorem dX0_init_24 : mx_at cX0_init 24 (.aload_n 0) 1 25 := ⟨by decide +kernel, rfl⟩
theorem dX0_init_25 : mx_at cX0_init 25 (.iconst 0) 1 26 := ⟨by decide +kernel, rfl⟩
theorem dX0_init_26 : mx_at cX0_init 26 (.putfield 24) 3 29 := ⟨by decide +kernel, rfl⟩
theorem dX0_init_29 : mx_at cX0_init 29 (.aload_n 0) 1 30 := ⟨by decide +kernel, rfl⟩
theorem dX0_init_30 : mx_at cX0_init 30 (.iconst 0) 1 31 := ⟨by decide +kernel, rfl⟩
theorem dX0_init_31 : mx_at cX0_init 31 (.putfield 27) 3 34 := ⟨by decide +kernel, rfl⟩
theorem dX0_init_34 : mx_at cX0_init 34 (.aload_n 0) 1 35 := ⟨by decide +kernel, rfl⟩
theorem dX0_init_35 : mx_at cX0_init 35 (.iconst 0) 1 36 := ⟨by decide +kernel, rfl⟩
theorem dX0_init_36 : mx_at cX0_init 36 (.putfield 30) 3 39 := ⟨by decide +kernel, rfl⟩
theorem dX0_init_39 : mx_at cX0_init 39 (.aload_n 0) 1 40 := ⟨by decide +kernel, rfl⟩
theorem dX0_init_40 : mx_at cX0_init 40 (.iconst 0) 1 41 := ⟨by decide +kernel, rfl⟩
theorem dX0_init_41 : mx_at cX0_init 41 (.putfield 34) 3 44 := ⟨by decide +kernel, rfl⟩
theorem dX0_init_44 : mx_at cX0_init 44 (.return_) 1 45 := ⟨by decide +kernel, rfl⟩
theorem dX0_become_0 : mx_at cX0_become 0 (.aload_n 0) 1 1 := ⟨by decide +kernel, rfl⟩
theorem dX0_become_1 : mx_at cX0_become 1 (.aload_n 1) 1 2 := ⟨by decide +kernel, rfl⟩
theorem dX0_become_2 : mx_at cX0_become 2 (.getfield 9) 3 5 := ⟨by decide +kernel, rfl⟩
theorem dX0_become_5 : mx_at cX0_become 5 (.putfield 9) 3 8 := ⟨by decide +kernel, rfl⟩
theorem dX0_become_8 : mx_at cX0_become 8 (.aload_n 0) 1 9 := ⟨by decide +kernel, rfl⟩
theorem dX0_become_9 : mx_at cX0_become 9 (.aload_n 1) 1 10 := ⟨by decide +kernel, rfl⟩
theorem dX0_become_10 : mx_at cX0_become 10 (.getfield 15) 3 13 := ⟨by decide +kernel, rfl⟩
theorem dX0_become_13 : mx_at cX0_become 13 (.putfield 15) 3 16 := ⟨by decide +kernel, rfl⟩
theorem dX0_become_16 : mx_at cX0_become 16 (.aload_n 0) 1 17 := ⟨by decide +kernel, rfl⟩
theorem dX0_become_17 : mx_at cX0_become 17 (.aload_n 1) 1 18 := ⟨by decide +kernel, rfl⟩
theorem dX0_become_18 : mx_at cX0_become 18 (.getfield 18) 3 21 := ⟨by decide +kernel, rfl⟩
theorem dX0_become_21 : mx_at cX0_become 21 (.putfield 18) 3 24 := ⟨by decide +kernel, rfl⟩
theorem dX0_become_24 : mx_at cX0_become 24 (.aload_n 0) 1 25 := ⟨by decide +kernel, rfl⟩
theorem dX0_become_25 : mx_at cX0_become 25 (.aload_n 1) 1 26 := ⟨by decide +kernel, rfl⟩
theorem dX0_become_26 : mx_at cX0_become 26 (.getfield 21) 3 29 := ⟨by decide +kernel, rfl⟩
theorem dX0_become_29 : mx_at cX0_become 29 (.putfield 21) 3 32 := ⟨by decide +kernel, rfl⟩
theorem dX0_become_32 : mx_at cX0_become 32 (.aload_n 0) 1 33 := ⟨by decide +kernel, rfl⟩
theorem dX0_become_33 : mx_at cX0_become 33 (.aload_n 1) 1 34 := ⟨by decide +kernel, rfl⟩
theorem dX0_become_34 : mx_at cX0_become 34 (.getfield 24) 3 37 := ⟨by decide +kernel, rfl⟩
theorem dX0_become_37 : mx_at cX0_become 37 (.putfield 24) 3 40 := ⟨by decide +kernel, rfl⟩
theorem dX0_become_40 : mx_at cX0_become 40 (.aload_n 0) 1 41 := ⟨by decide +kernel, rfl⟩
theorem dX0_become_41 : mx_at cX0_become 41 (.aload_n 1) 1 42 := ⟨by decide +kernel, rfl⟩
theorem dX0_become_42 : mx_at cX0_become 42 (.getfield 27) 3 45 := ⟨by decide +kernel, rfl⟩
theorem dX0_become_45 : mx_at cX0_become 45 (.putfield 27) 3 48 := ⟨by decide +kernel, rfl⟩
theorem dX0_become_48 : mx_at cX0_become 48 (.aload_n 0) 1 49 := ⟨by decide +kernel, rfl⟩
theorem dX0_become_49 : mx_at cX0_become 49 (.aload_n 1) 1 50 := ⟨by decide +kernel, rfl⟩
theorem dX0_become_50 : mx_at cX0_become 50 (.getfield 30) 3 53 := ⟨by decide +kernel, rfl⟩
theorem dX0_become_53 : mx_at cX0_become 53 (.putfield 30) 3 56 := ⟨by decide +kernel, rfl⟩
theorem dX0_become_56 : mx_at cX0_become 56 (.aload_n 0) 1 57 := ⟨by decide +kernel, rfl⟩
theorem dX0_become_57 : mx_at cX0_become 57 (.aload_n 1) 1 58 := ⟨by decide +kernel, rfl⟩
theorem dX0_become_58 : mx_at cX0_become 58 (.getfield 34) 3 61 := ⟨by decide +kernel, rfl⟩
theorem dX0_become_61 : mx_at cX0_become 61 (.putfield 34) 3 64 := ⟨by decide +kernel, rfl⟩
theorem dX0_become_64 : mx_at cX0_become 64 (.return_) 1 65 := ⟨by decide +kernel, rfl⟩
theorem dX0_crowd_0 : mx_at cX0_crowd 0 (.aload_n 0) 1 1 := ⟨by decide +kernel, rfl⟩
theorem dX0_crowd_1 : mx_at cX0_crowd 1 (.getfield 34) 3 4 := ⟨by decide +kernel, rfl⟩
theorem dX0_crowd_4 : mx_br cX0_crowd 4 (.ifCond .eq 10) (10) 3 7 14 := ⟨by decide +kernel, rfl, by decide⟩
theorem dX0_crowd_7 : mx_at cX0_crowd 7 (.aload_n 0) 1 8 := ⟨by decide +kernel, rfl⟩
theorem dX0_crowd_8 : mx_at cX0_crowd 8 (.getfield 18) 3 11 := ⟨by decide +kernel, rfl⟩
theorem dX0_crowd_11 : mx_br cX0_crowd 11 (.goto 9) (9) 3 14 20 := ⟨by decide +kernel, rfl, by decide⟩
theorem dX0_crowd_14 : mx_at cX0_crowd 14 (.aload_n 0) 1 15 := ⟨by decide +kernel, rfl⟩
theorem dX0_crowd_15 : mx_at cX0_crowd 15 (.getfield 18) 3 18 := ⟨by decide +kernel, rfl⟩
theorem dX0_crowd_18 : mx_at cX0_crowd 18 (.iconst 1) 1 19 := ⟨by decide +kernel, rfl⟩
theorem dX0_crowd_19 : mx_at cX0_crowd 19 (.isub) 1 20 := ⟨by decide +kernel, rfl⟩
theorem dX0_crowd_20 : mx_at cX0_crowd 20 (.istore_n 1) 1 21 := ⟨by decide +kernel, rfl⟩
theorem dX0_crowd_21 : mx_at cX0_crowd 21 (.iload_n 1) 1 22 := ⟨by decide +kernel, rfl⟩
theorem dX0_crowd_22 : mx_at cX0_crowd 22 (.iconst 1) 1 23 := ⟨by decide +kernel, rfl⟩
theorem dX0_crowd_23 : mx_br cX0_crowd 23 (.if_icmp .ge 5) (5) 3 26 28 := ⟨by decide +kernel, rfl, by decide⟩
theorem dX0_crowd_26 : mx_at cX0_crowd 26 (.iconst 1) 1 27 := ⟨by decide +kernel, rfl⟩
theorem dX0_crowd_27 : mx_at cX0_crowd 27 (.istore_n 1) 1 28 := ⟨by decide +kernel, rfl⟩
theorem dX0_crowd_28 : mx_at cX0_crowd 28 (.aload_n 0) 1 29 := ⟨by decide +kernel, rfl⟩
theorem dX0_crowd_29 : mx_at cX0_crowd 29 (.getfield 21) 3 32 := ⟨by decide +kernel, rfl⟩
theorem dX0_crowd_32 : mx_at cX0_crowd 32 (.iload_n 1) 1 33 := ⟨by decide +kernel, rfl⟩
theorem dX0_crowd_33 : mx_at cX0_crowd 33 (.iadd) 1 34 := ⟨by decide +kernel, rfl⟩
theorem dX0_crowd_34 : mx_at cX0_crowd 34 (.iconst 1) 1 35 := ⟨by decide +kernel, rfl⟩
theorem dX0_crowd_35 : mx_at cX0_crowd 35 (.isub) 1 36 := ⟨by decide +kernel, rfl⟩
theorem dX0_crowd_36 : mx_at cX0_crowd 36 (.iload_n 1) 1 37 := ⟨by decide +kernel, rfl⟩
theorem dX0_crowd_37 : mx_at cX0_crowd 37 (.idiv) 1 38 := ⟨by decide +kernel, rfl⟩
theorem dX0_crowd_38 : mx_at cX0_crowd 38 (.ireturn) 1 39 := ⟨by decide +kernel, rfl⟩
theorem dX0_dustIn_0 : mx_at cX0_dustIn 0 (.aload_n 0) 1 1 := ⟨by decide +kernel, rfl⟩
theorem dX0_dustIn_1 : mx_at cX0_dustIn 1 (.getfield 9) 3 4 := ⟨by decide +kernel, rfl⟩
theorem dX0_dustIn_4 : decode cX0_dustIn 4 = .ok (.tableswitch 65 0 4 #[36, 38, 40, 40, 42], 36) := by decide +kernel
theorem dX0_dustIn_40 : mx_at cX0_dustIn 40 (.iconst 1) 1 41 := ⟨by decide +kernel, rfl⟩
theorem dX0_dustIn_41 : mx_at cX0_dustIn 41 (.ireturn) 1 42 := ⟨by decide +kernel, rfl⟩
theorem dX0_dustIn_42 : mx_at cX0_dustIn 42 (.iconst 2) 1 43 := ⟨by decide +kernel, rfl⟩
theorem dX0_dustIn_43 : mx_at cX0_dustIn 43 (.ireturn) 1 44 := ⟨by decide +kernel, rfl⟩
theorem dX0_dustIn_44 : mx_at cX0_dustIn 44 (.iconst 3) 1 45 := ⟨by decide +kernel, rfl⟩
theorem dX0_dustIn_45 : mx_at cX0_dustIn 45 (.ireturn) 1 46 := ⟨by decide +kernel, rfl⟩
theorem dX0_dustIn_46 : mx_at cX0_dustIn 46 (.aload_n 0) 1 47 := ⟨by decide +kernel, rfl⟩
theorem dX0_dustIn_47 : mx_at cX0_dustIn 47 (.getfield 15) 3 50 := ⟨by decide +kernel, rfl⟩
theorem dX0_dustIn_50 : mx_at cX0_dustIn 50 (.iconst 2) 1 51 := ⟨by decide +kernel, rfl⟩
theorem dX0_dustIn_51 : mx_at cX0_dustIn 51 (.iadd) 1 52 := ⟨by decide +kernel, rfl⟩
theorem dX0_dustIn_52 : mx_at cX0_dustIn 52 (.istore_n 2) 1 53 := ⟨by decide +kernel, rfl⟩
theorem dX0_dustIn_53 : mx_at cX0_dustIn 53 (.iload_n 2) 1 54 := ⟨by decide +kernel, rfl⟩
theorem dX0_dustIn_54 : mx_br cX0_dustIn 54 (.ifCond .le 13) (13) 3 57 67 := ⟨by decide +kernel, rfl, by decide⟩
theorem dX0_dustIn_57 : mx_at cX0_dustIn 57 (.iload_n 1) 1 58 := ⟨by decide +kernel, rfl⟩
theorem dX0_dustIn_58 : mx_at cX0_dustIn 58 (.iload_n 2) 1 59 := ⟨by decide +kernel, rfl⟩
theorem dX0_dustIn_59 : mx_at cX0_dustIn 59 (.irem) 1 60 := ⟨by decide +kernel, rfl⟩
theorem dX0_dustIn_60 : mx_br cX0_dustIn 60 (.ifCond .ne 7) (7) 3 63 67 := ⟨by decide +kernel, rfl, by decide⟩
theorem dX0_dustIn_63 : mx_at cX0_dustIn 63 (.iconst 0) 1 64 := ⟨by decide +kernel, rfl⟩
theorem dX0_dustIn_64 : mx_br cX0_dustIn 64 (.goto 4) (4) 3 67 68 := ⟨by decide +kernel, rfl, by decide⟩
theorem dX0_dustIn_67 : mx_at cX0_dustIn 67 (.iconst 2) 1 68 := ⟨by decide +kernel, rfl⟩
theorem dX0_dustIn_68 : mx_at cX0_dustIn 68 (.ireturn) 1 69 := ⟨by decide +kernel, rfl⟩
theorem dX0_dustIn_69 : mx_at cX0_dustIn 69 (.iconst 0) 1 70 := ⟨by decide +kernel, rfl⟩
theorem dX0_dustIn_70 : mx_at cX0_dustIn 70 (.ireturn) 1 71 := ⟨by decide +kernel, rfl⟩
theorem dX0_burns_0 : mx_at cX0_burns 0 (.aload_n 0) 1 1 := ⟨by decide +kernel, rfl⟩
theorem dX0_burns_1 : mx_at cX0_burns 1 (.getfield 9) 3 4 := ⟨by decide +kernel, rfl⟩
theorem dX0_burns_4 : decode cX0_burns 4 = .ok (.tableswitch 34 1 3 #[28, 30, 32], 28) := by decide +kernel
theorem dX0_burns_32 : mx_at cX0_burns 32 (.iconst 0) 1 33 := ⟨by decide +kernel, rfl⟩
theorem dX0_burns_33 : mx_at cX0_burns 33 (.ireturn) 1 34 := ⟨by decide +kernel, rfl⟩
theorem dX0_burns_34 : mx_at cX0_burns 34 (.iconst 2) 1 35 := ⟨by decide +kernel, rfl⟩
theorem dX0_burns_35 : mx_at cX0_burns 35 (.ireturn) 1 36 := ⟨by decide +kernel, rfl⟩
theorem dX0_burns_36 : mx_at cX0_burns 36 (.iconst 3) 1 37 := ⟨by decide +kernel, rfl⟩
theorem dX0_burns_37 : mx_at cX0_burns 37 (.ireturn) 1 38 := ⟨by decide +kernel, rfl⟩
theorem dX0_burns_38 : mx_at cX0_burns 38 (.iconst 1) 1 39 := ⟨by decide +kernel, rfl⟩
theorem dX0_burns_39 : mx_at cX0_burns 39 (.ireturn) 1 40 := ⟨by decide +kernel, rfl⟩
theorem dX0_childFrom_0 : mx_at cX0_childFrom 0 (.aload_n 0) 1 1 := ⟨by decide +kernel, rfl⟩
theorem dX0_childFrom_1 : mx_at cX0_childFrom 1 (.getfield 15) 3 4 := ⟨by decide +kernel, rfl⟩
theorem dX0_childFrom_4 : mx_at cX0_childFrom 4 (.iconst 2) 1 5 := ⟨by decide +kernel, rfl⟩
theorem dX0_childFrom_5 : mx_at cX0_childFrom 5 (.idiv) 1 6 := ⟨by decide +kernel, rfl⟩
theorem dX0_childFrom_6 : mx_at cX0_childFrom 6 (.iconst 3) 1 7 := ⟨by decide +kernel, rfl⟩
theorem dX0_childFrom_7 : mx_at cX0_childFrom 7 (.iadd) 1 8 := ⟨by decide +kernel, rfl⟩
theorem dX0_childFrom_8 : mx_at cX0_childFrom 8 (.istore_n 1) 1 9 := ⟨by decide +kernel, rfl⟩
theorem dX0_childFrom_9 : mx_at cX0_childFrom 9 (.iload_n 1) 1 10 := ⟨by decide +kernel, rfl⟩
theorem dX0_childFrom_10 : mx_at cX0_childFrom 10 (.iconst 2) 1 11 := ⟨by decide +kernel, rfl⟩
theorem dX0_childFrom_11 : mx_at cX0_childFrom 11 (.iadd) 1 12 := ⟨by decide +kernel, rfl⟩
theorem dX0_childFrom_12 : mx_at cX0_childFrom 12 (.istore_n 2) 1 13 := ⟨by decide +kernel, rfl⟩
theorem dX0_childFrom_13 : mx_at cX0_childFrom 13 (.aload_n 0) 1 14 := ⟨by decide +kernel, rfl⟩
theorem dX0_childFrom_14 : mx_at cX0_childFrom 14 (.getfield 9) 3 17 := ⟨by decide +kernel, rfl⟩
theorem dX0_childFrom_17 : decode cX0_childFrom 17 = .ok (.tableswitch 46 0 4 #[35, 46, 37, 39, 43], 35) := by decide +kernel
theorem dX0_childFrom_52 : mx_at cX0_childFrom 52 (.iload_n 1) 1 53 := ⟨by decide +kernel, rfl⟩
theorem dX0_childFrom_53 : mx_at cX0_childFrom 53 (.ireturn) 1 54 := ⟨by decide +kernel, rfl⟩
theorem dX0_childFrom_54 : mx_at cX0_childFrom 54 (.iload_n 2) 1 55 := ⟨by decide +kernel, rfl⟩
theorem dX0_childFrom_55 : mx_at cX0_childFrom 55 (.ireturn) 1 56 := ⟨by decide +kernel, rfl⟩
theorem dX0_childFrom_56 : mx_at cX0_childFrom 56 (.iconst 2) 1 57 := ⟨by decide +kernel, rfl⟩
theorem dX0_childFrom_57 : mx_at cX0_childFrom 57 (.iload_n 2) 1 58 := ⟨by decide +kernel, rfl⟩
theorem dX0_childFrom_58 : mx_at cX0_childFrom 58 (.imul) 1 59 := ⟨by decide +kernel, rfl⟩
theorem dX0_childFrom_59 : mx_at cX0_childFrom 59 (.ireturn) 1 60 := ⟨by decide +kernel, rfl⟩
theorem dX0_childFrom_60 : mx_at cX0_childFrom 60 (.bipush 99) 2 62 := ⟨by decide +kernel, rfl⟩
theorem dX0_childFrom_62 : mx_at cX0_childFrom 62 (.ireturn) 1 63 := ⟨by decide +kernel, rfl⟩
theorem dX0_childFrom_63 : mx_at cX0_childFrom 63 (.iload_n 1) 1 64 := ⟨by decide +kernel, rfl⟩
theorem dX0_childFrom_64 : mx_at cX0_childFrom 64 (.iconst 1) 1 65 := ⟨by decide +kernel, rfl⟩
theorem dX0_childFrom_65 : mx_at cX0_childFrom 65 (.isub) 1 66 := ⟨by decide +kernel, rfl⟩
theorem dX0_childFrom_66 : mx_at cX0_childFrom 66 (.ireturn) 1 67 := ⟨by decide +kernel, rfl⟩
theorem dX0_childIsFound_0 : mx_at cX0_childIsFound 0 (.aload_n 0) 1 1 := ⟨by decide +kernel, rfl⟩
theorem dX0_childIsFound_1 : mx_at cX0_childIsFound 1 (.getfield 30) 3 4 := ⟨by decide +kernel, rfl⟩
theorem dX0_childIsFound_4 : mx_br cX0_childIsFound 4 (.ifCond .eq 18) (18) 3 7 22 := ⟨by decide +kernel, rfl, by decide⟩
theorem dX0_childIsFound_7 : mx_at cX0_childIsFound 7 (.aload_n 0) 1 8 := ⟨by decide +kernel, rfl⟩
theorem dX0_childIsFound_8 : mx_at cX0_childIsFound 8 (.invokevirtual 37) 3 11 := ⟨by decide +kernel, rfl⟩
theorem dX0_childIsFound_11 : mx_at cX0_childIsFound 11 (.aload_n 0) 1 12 := ⟨by decide +kernel, rfl⟩
theorem dX0_childIsFound_12 : mx_at cX0_childIsFound 12 (.invokevirtual 41) 3 15 := ⟨by decide +kernel, rfl⟩
theorem dX0_childIsFound_15 : mx_br cX0_childIsFound 15 (.if_icmp .lt 7) (7) 3 18 22 := ⟨by decide +kernel, rfl, by decide⟩
theorem dX0_childIsFound_18 : mx_at cX0_childIsFound 18 (.iconst 1) 1 19 := ⟨by decide +kernel, rfl⟩
theorem dX0_childIsFound_19 : mx_br cX0_childIsFound 19 (.goto 4) (4) 3 22 23 := ⟨by decide +kernel, rfl, by decide⟩
theorem dX0_childIsFound_22 : mx_at cX0_childIsFound 22 (.iconst 0) 1 23 := ⟨by decide +kernel, rfl⟩
theorem dX0_childIsFound_23 : mx_at cX0_childIsFound 23 (.ireturn) 1 24 := ⟨by decide +kernel, rfl⟩
theorem dX0_addDust_0 : mx_at cX0_addDust 0 (.aload_n 0) 1 1 := ⟨by decide +kernel, rfl⟩
theorem dX0_addDust_1 : mx_at cX0_addDust 1 (.bipush 20) 2 3 := ⟨by decide +kernel, rfl⟩
theorem dX0_addDust_3 : mx_at cX0_addDust 3 (.aload_n 0) 1 4 := ⟨by decide +kernel, rfl⟩
theorem dX0_addDust_4 : mx_at cX0_addDust 4 (.getfield 24) 3 7 := ⟨by decide +kernel, rfl⟩
theorem dX0_addDust_7 : mx_at cX0_addDust 7 (.iload_n 1) 1 8 := ⟨by decide +kernel, rfl⟩
theorem dX0_addDust_8 : mx_at cX0_addDust 8 (.iadd) 1 9 := ⟨by decide +kernel, rfl⟩
theorem dX0_addDust_9 : mx_at cX0_addDust 9 (.invokestatic 44) 3 12 := ⟨by decide +kernel, rfl⟩
theorem dX0_addDust_12 : mx_at cX0_addDust 12 (.putfield 24) 3 15 := ⟨by decide +kernel, rfl⟩
theorem dX0_addDust_15 : mx_at cX0_addDust 15 (.return_) 1 16 := ⟨by decide +kernel, rfl⟩
theorem dX0_dent_0 : mx_at cX0_dent 0 (.aload_n 0) 1 1 := ⟨by decide +kernel, rfl⟩
theorem dX0_dent_1 : mx_at cX0_dent 1 (.bipush 9) 2 3 := ⟨by decide +kernel, rfl⟩
theorem dX0_dent_3 : mx_at cX0_dent 3 (.aload_n 0) 1 4 := ⟨by decide +kernel, rfl⟩
theorem dX0_dent_4 : mx_at cX0_dent 4 (.getfield 27) 3 7 := ⟨by decide +kernel, rfl⟩
theorem dX0_dent_7 : mx_at cX0_dent 7 (.iconst 1) 1 8 := ⟨by decide +kernel, rfl⟩
theorem dX0_dent_8 : mx_at cX0_dent 8 (.iadd) 1 9 := ⟨by decide +kernel, rfl⟩
theorem dX0_dent_9 : mx_at cX0_dent 9 (.invokestatic 44) 3 12 := ⟨by decide +kernel, rfl⟩
theorem dX0_dent_12 : mx_at cX0_dent 12 (.putfield 27) 3 15 := ⟨by decide +kernel, rfl⟩
theorem dX0_dent_15 : mx_at cX0_dent 15 (.return_) 1 16 := ⟨by decide +kernel, rfl⟩
theorem dX0_letTheRoom_0 : mx_at cX0_letTheRoom 0 (.aload_n 0) 1 1 := ⟨by decide +kernel, rfl⟩
theorem dX0_letTheRoom_1 : mx_at cX0_letTheRoom 1 (.iconst 1) 1 2 := ⟨by decide +kernel, rfl⟩
theorem dX0_letTheRoom_2 : mx_at cX0_letTheRoom 2 (.putfield 34) 3 5 := ⟨by decide +kernel, rfl⟩
theorem dX0_letTheRoom_5 : mx_at cX0_letTheRoom 5 (.aload_n 0) 1 6 := ⟨by decide +kernel, rfl⟩
theorem dX0_letTheRoom_6 : mx_at cX0_letTheRoom 6 (.iconst 3) 1 7 := ⟨by decide +kernel, rfl⟩
theorem dX0_letTheRoom_7 : mx_at cX0_letTheRoom 7 (.invokevirtual 50) 3 10 := ⟨by decide +kernel, rfl⟩
theorem dX0_letTheRoom_10 : mx_at cX0_letTheRoom 10 (.return_) 1 11 := ⟨by decide +kernel, rfl⟩
theorem dX0_spendWeek_0 : mx_at cX0_spendWeek 0 (.iload_n 2) 1 1 := ⟨by decide +kernel, rfl⟩
theorem dX0_spendWeek_1 : mx_at cX0_spendWeek 1 (.aload_n 0) 1 2 := ⟨by decide +kernel, rfl⟩
theorem dX0_spendWeek_2 : mx_at cX0_spendWeek 2 (.invokevirtual 54) 3 5 := ⟨by decide +kernel, rfl⟩
theorem dX0_spendWeek_5 : mx_br cX0_spendWeek 5 (.if_icmp .lt 7) (7) 3 8 12 := ⟨by decide +kernel, rfl, by decide⟩
theorem dX0_spendWeek_8 : mx_at cX0_spendWeek 8 (.iconst 1) 1 9 := ⟨by decide +kernel, rfl⟩
theorem dX0_spendWeek_9 : mx_br cX0_spendWeek 9 (.goto 4) (4) 3 12 13 := ⟨by decide +kernel, rfl, by decide⟩
theorem dX0_spendWeek_12 : mx_at cX0_spendWeek 12 (.iconst 0) 1 13 := ⟨by decide +kernel, rfl⟩
theorem dX0_spendWeek_13 : mx_at cX0_spendWeek 13 (.istore_n 3) 1 14 := ⟨by decide +kernel, rfl⟩
theorem dX0_spendWeek_14 : mx_at cX0_spendWeek 14 (.aload_n 0) 1 15 := ⟨by decide +kernel, rfl⟩
theorem dX0_spendWeek_15 : mx_at cX0_spendWeek 15 (.iload_n 1) 1 16 := ⟨by decide +kernel, rfl⟩
theorem dX0_spendWeek_16 : mx_at cX0_spendWeek 16 (.invokevirtual 57) 3 19 := ⟨by decide +kernel, rfl⟩
theorem dX0_spendWeek_19 : mx_at cX0_spendWeek 19 (.istore 4) 2 21 := ⟨by decide +kernel, rfl⟩
theorem dX0_spendWeek_21 : mx_at cX0_spendWeek 21 (.aload_n 0) 1 22 := ⟨by decide +kernel, rfl⟩
theorem dX0_spendWeek_22 : mx_at cX0_spendWeek 22 (.iload_n 3) 1 23 := ⟨by decide +kernel, rfl⟩
theorem dX0_spendWeek_23 : mx_br cX0_spendWeek 23 (.ifCond .eq 8) (8) 3 26 31 := ⟨by decide +kernel, rfl, by decide⟩
theorem dX0_spendWeek_26 : mx_at cX0_spendWeek 26 (.iload 4) 2 28 := ⟨by decide +kernel, rfl⟩
theorem dX0_spendWeek_28 : mx_br cX0_spendWeek 28 (.goto 9) (9) 3 31 37 := ⟨by decide +kernel, rfl, by decide⟩
theorem dX0_spendWeek_31 : mx_at cX0_spendWeek 31 (.iconst 2) 1 32 := ⟨by decide +kernel, rfl⟩
theorem dX0_spendWeek_32 : mx_at cX0_spendWeek 32 (.iload 4) 2 34 := ⟨by decide +kernel, rfl⟩
theorem dX0_spendWeek_34 : mx_at cX0_spendWeek 34 (.imul) 1 35 := ⟨by decide +kernel, rfl⟩
theorem dX0_spendWeek_35 : mx_at cX0_spendWeek 35 (.iconst 1) 1 36 := ⟨by decide +kernel, rfl⟩
theorem dX0_spendWeek_36 : mx_at cX0_spendWeek 36 (.iadd) 1 37 := ⟨by decide +kernel, rfl⟩
theorem dX0_spendWeek_37 : mx_at cX0_spendWeek 37 (.invokevirtual 50) 3 40 := ⟨by decide +kernel, rfl⟩
theorem dX0_spendWeek_40 : mx_at cX0_spendWeek 40 (.aload_n 0) 1 41 := ⟨by decide +kernel, rfl⟩
theorem dX0_spendWeek_41 : mx_at cX0_spendWeek 41 (.invokevirtual 61) 3 44 := ⟨by decide +kernel, rfl⟩
theorem dX0_spendWeek_44 : mx_br cX0_spendWeek 44 (.ifCond .eq 7) (7) 3 47 51 := ⟨by decide +kernel, rfl, by decide⟩
theorem dX0_spendWeek_47 : mx_at cX0_spendWeek 47 (.aload_n 0) 1 48 := ⟨by decide +kernel, rfl⟩
theorem dX0_spendWeek_48 : mx_at cX0_spendWeek 48 (.invokevirtual 65) 3 51 := ⟨by decide +kernel, rfl⟩
theorem dX0_spendWeek_51 : mx_at cX0_spendWeek 51 (.iload_n 3) 1 52 := ⟨by decide +kernel, rfl⟩
theorem dX0_spendWeek_52 : mx_br cX0_spendWeek 52 (.ifCond .eq 10) (10) 3 55 62 := ⟨by decide +kernel, rfl, by decide⟩
theorem dX0_spendWeek_55 : mx_at cX0_spendWeek 55 (.aload_n 0) 1 56 := ⟨by decide +kernel, rfl⟩
theorem dX0_spendWeek_56 : mx_at cX0_spendWeek 56 (.invokevirtual 54) 3 59 := ⟨by decide +kernel, rfl⟩
theorem dX0_spendWeek_59 : mx_br cX0_spendWeek 59 (.goto 4) (4) 3 62 63 := ⟨by decide +kernel, rfl, by decide⟩
theorem dX0_spendWeek_62 : mx_at cX0_spendWeek 62 (.iconst 0) 1 63 := ⟨by decide +kernel, rfl⟩
theorem dX0_spendWeek_63 : mx_at cX0_spendWeek 63 (.ireturn) 1 64 := ⟨by decide +kernel, rfl⟩
theorem dX1_init_0 : mx_at cX1_init 0 (.aload_n 0) 1 1 := ⟨by decide +kernel, rfl⟩
theorem dX1_init_1 : mx_at cX1_init 1 (.invokespecial 3) 3 4 := ⟨by decide +kernel, rfl⟩
theorem dX1_init_4 : mx_at cX1_init 4 (.aload_n 0) 1 5 := ⟨by decide +kernel, rfl⟩
theorem dX1_init_5 : mx_at cX1_init 5 (.iconst 0) 1 6 := ⟨by decide +kernel, rfl⟩
theorem dX1_init_6 : mx_at cX1_init 6 (.putfield 9) 3 9 := ⟨by decide +kernel, rfl⟩
theorem dX1_init_9 : mx_at cX1_init 9 (.aload_n 0) 1 10 := ⟨by decide +kernel, rfl⟩
theorem dX1_init_10 : mx_at cX1_init 10 (.iconst 0) 1 11 := ⟨by decide +kernel, rfl⟩
theorem dX1_init_11 : mx_at cX1_init 11 (.iload_n 1) 1 12 := ⟨by decide +kernel, rfl⟩
theorem dX1_init_12 : mx_at cX1_init 12 (.invokestatic 15) 3 15 := ⟨by decide +kernel, rfl⟩
theorem dX1_init_15 : mx_at cX1_init 15 (.newarray .int) 2 17 := ⟨by decide +kernel, rfl⟩
theorem dX1_init_17 : mx_at cX1_init 17 (.putfield 21) 3 20 := ⟨by decide +kernel, rfl⟩
theorem dX1_init_20 : mx_at cX1_init 20 (.return_) 1 21 := ⟨by decide +kernel, rfl⟩
theorem dX1_isFull_0 : mx_at cX1_isFull 0 (.aload_n 0) 1 1 := ⟨by decide +kernel, rfl⟩
theorem dX1_isFull_1 : mx_at cX1_isFull 1 (.getfield 9) 3 4 := ⟨by decide +kernel, rfl⟩
theorem dX1_isFull_4 : mx_at cX1_isFull 4 (.aload_n 0) 1 5 := ⟨by decide +kernel, rfl⟩
theorem dX1_isFull_5 : mx_at cX1_isFull 5 (.getfield 21) 3 8 := ⟨by decide +kernel, rfl⟩
theorem dX1_isFull_8 : mx_at cX1_isFull 8 (.arraylength) 1 9 := ⟨by decide +kernel, rfl⟩
theorem dX1_isFull_9 : mx_br cX1_isFull 9 (.if_icmp .lt 7) (7) 3 12 16 := ⟨by decide +kernel, rfl, by decide⟩
theorem dX1_isFull_12 : mx_at cX1_isFull 12 (.iconst 1) 1 13 := ⟨by decide +kernel, rfl⟩
theorem dX1_isFull_13 : mx_br cX1_isFull 13 (.goto 4) (4) 3 16 17 := ⟨by decide +kernel, rfl, by decide⟩
theorem dX1_isFull_16 : mx_at cX1_isFull 16 (.iconst 0) 1 17 := ⟨by decide +kernel, rfl⟩
theorem dX1_isFull_17 : mx_at cX1_isFull 17 (.ireturn) 1 18 := ⟨by decide +kernel, rfl⟩
theorem dX1_add_0 : mx_at cX1_add 0 (.aload_n 0) 1 1 := ⟨by decide +kernel, rfl⟩
theorem dX1_add_1 : mx_at cX1_add 1 (.getfield 9) 3 4 := ⟨by decide +kernel, rfl⟩
theorem dX1_add_4 : mx_br cX1_add 4 (.ifCond .lt 35) (35) 3 7 39 := ⟨by decide +kernel, rfl, by decide⟩
theorem dX1_add_7 : mx_at cX1_add 7 (.aload_n 0) 1 8 := ⟨by decide +kernel, rfl⟩
theorem dX1_add_8 : mx_at cX1_add 8 (.getfield 9) 3 11 := ⟨by decide +kernel, rfl⟩
theorem dX1_add_11 : mx_at cX1_add 11 (.aload_n 0) 1 12 := ⟨by decide +kernel, rfl⟩
theorem dX1_add_12 : mx_at cX1_add 12 (.getfield 21) 3 15 := ⟨by decide +kernel, rfl⟩
theorem dX1_add_15 : mx_at cX1_add 15 (.arraylength) 1 16 := ⟨by decide +kernel, rfl⟩
theorem dX1_add_16 : mx_br cX1_add 16 (.if_icmp .ge 23) (23) 3 19 39 := ⟨by decide +kernel, rfl, by decide⟩
theorem dX1_add_19 : mx_at cX1_add 19 (.aload_n 0) 1 20 := ⟨by decide +kernel, rfl⟩
theorem dX1_add_20 : mx_at cX1_add 20 (.getfield 21) 3 23 := ⟨by decide +kernel, rfl⟩
theorem dX1_add_23 : mx_at cX1_add 23 (.aload_n 0) 1 24 := ⟨by decide +kernel, rfl⟩
theorem dX1_add_24 : mx_at cX1_add 24 (.getfield 9) 3 27 := ⟨by decide +kernel, rfl⟩
theorem dX1_add_27 : mx_at cX1_add 27 (.iload_n 1) 1 28 := ⟨by decide +kernel, rfl⟩
theorem dX1_add_28 : mx_at cX1_add 28 (.iastore) 1 29 := ⟨by decide +kernel, rfl⟩
theorem dX1_add_29 : mx_at cX1_add 29 (.aload_n 0) 1 30 := ⟨by decide +kernel, rfl⟩
theorem dX1_add_30 : mx_at cX1_add 30 (.dup) 1 31 := ⟨by decide +kernel, rfl⟩
theorem dX1_add_31 : mx_at cX1_add 31 (.getfield 9) 3 34 := ⟨by decide +kernel, rfl⟩
theorem dX1_add_34 : mx_at cX1_add 34 (.iconst 1) 1 35 := ⟨by decide +kernel, rfl⟩
theorem dX1_add_35 : mx_at cX1_add 35 (.iadd) 1 36 := ⟨by decide +kernel, rfl⟩
theorem dX1_add_36 : mx_at cX1_add 36 (.putfield 9) 3 39 := ⟨by decide +kernel, rfl⟩
theorem dX1_add_39 : mx_at cX1_add 39 (.return_) 1 40 := ⟨by decide +kernel, rfl⟩
theorem dX1_at_0 : mx_at cX1_at 0 (.iload_n 1) 1 1 := ⟨by decide +kernel, rfl⟩
theorem dX1_at_1 : mx_br cX1_at 1 (.ifCond .lt 29) (29) 3 4 30 := ⟨by decide +kernel, rfl, by decide⟩
theorem dX1_at_4 : mx_at cX1_at 4 (.iload_n 1) 1 5 := ⟨by decide +kernel, rfl⟩
theorem dX1_at_5 : mx_at cX1_at 5 (.aload_n 0) 1 6 := ⟨by decide +kernel, rfl⟩
theorem dX1_at_6 : mx_at cX1_at 6 (.getfield 9) 3 9 := ⟨by decide +kernel, rfl⟩
theorem dX1_at_9 : mx_br cX1_at 9 (.if_icmp .ge 21) (21) 3 12 30 := ⟨by decide +kernel, rfl, by decide⟩
theorem dX1_at_12 : mx_at cX1_at 12 (.iload_n 1) 1 13 := ⟨by decide +kernel, rfl⟩
theorem dX1_at_13 : mx_at cX1_at 13 (.aload_n 0) 1 14 := ⟨by decide +kernel, rfl⟩
theorem dX1_at_14 : mx_at cX1_at 14 (.getfield 21) 3 17 := ⟨by decide +kernel, rfl⟩
theorem dX1_at_17 : mx_at cX1_at 17 (.arraylength) 1 18 := ⟨by decide +kernel, rfl⟩
theorem dX1_at_18 : mx_br cX1_at 18 (.if_icmp .ge 12) (12) 3 21 30 := ⟨by decide +kernel, rfl, by decide⟩
theorem dX1_at_21 : mx_at cX1_at 21 (.aload_n 0) 1 22 := ⟨by decide +kernel, rfl⟩
theorem dX1_at_22 : mx_at cX1_at 22 (.getfield 21) 3 25 := ⟨by decide +kernel, rfl⟩
theorem dX1_at_25 : mx_at cX1_at 25 (.iload_n 1) 1 26 := ⟨by decide +kernel, rfl⟩
theorem dX1_at_26 : mx_at cX1_at 26 (.iaload) 1 27 := ⟨by decide +kernel, rfl⟩
theorem dX1_at_27 : mx_br cX1_at 27 (.goto 5) (5) 3 30 32 := ⟨by decide +kernel, rfl, by decide⟩
theorem dX1_at_30 : mx_at cX1_at 30 (.bipush (-9)) 2 32 := ⟨by decide +kernel, rfl⟩
theorem dX1_at_32 : mx_at cX1_at 32 (.ireturn) 1 33 := ⟨by decide +kernel, rfl⟩
theorem dX1_drop_0 : mx_at cX1_drop 0 (.aload_n 0) 1 1 := ⟨by decide +kernel, rfl⟩
theorem dX1_drop_1 : mx_at cX1_drop 1 (.iconst 0) 1 2 := ⟨by decide +kernel, rfl⟩
theorem dX1_drop_2 : mx_at cX1_drop 2 (.putfield 9) 3 5 := ⟨by decide +kernel, rfl⟩
theorem dX1_drop_5 : mx_at cX1_drop 5 (.return_) 1 6 := ⟨by decide +kernel, rfl⟩
theorem dX2_init_0 : mx_at cX2_init 0 (.aload_n 0) 1 1 := ⟨by decide +kernel, rfl⟩
theorem dX2_init_1 : mx_at cX2_init 1 (.invokespecial 3) 3 4 := ⟨by decide +kernel, rfl⟩
theorem dX2_init_4 : mx_at cX2_init 4 (.aload_n 0) 1 5 := ⟨by decide +kernel, rfl⟩
theorem dX2_init_5 : mx_at cX2_init 5 (.bipush 6) 2 7 := ⟨by decide +kernel, rfl⟩
theorem dX2_init_7 : mx_at cX2_init 7 (.anewarray 9) 3 10 := ⟨by decide +kernel, rfl⟩
theorem dX2_init_10 : mx_at cX2_init 10 (.putfield 11) 3 13 := ⟨by decide +kernel, rfl⟩
theorem dX2_init_13 : mx_at cX2_init 13 (.aload_n 0) 1 14 := ⟨by decide +kernel, rfl⟩
theorem dX2_init_14 : mx_at cX2_init 14 (.new 9) 3 17 := ⟨by decide +kernel, rfl⟩
theorem dX2_init_17 : mx_at cX2_init 17 (.dup) 1 18 := ⟨by decide +kernel, rfl⟩
theorem dX2_init_18 : mx_at cX2_init 18 (.invokespecial 17) 3 21 := ⟨by decide +kernel, rfl⟩
theorem dX2_init_21 : mx_at cX2_init 21 (.putfield 18) 3 24 := ⟨by decide +kernel, rfl⟩
theorem dX2_init_24 : mx_at cX2_init 24 (.aload_n 0) 1 25 := ⟨by decide +kernel, rfl⟩
theorem dX2_init_25 : mx_at cX2_init 25 (.iconst 0) 1 26 := ⟨by decide +kernel, rfl⟩
theorem dX2_init_26 : mx_at cX2_init 26 (.putfield 22) 3 29 := ⟨by decide +kernel, rfl⟩
theorem dX2_init_29 : mx_at cX2_init 29 (.aload_n 0) 1 30 := ⟨by decide +kernel, rfl⟩
theorem dX2_init_30 : mx_at cX2_init 30 (.iconst 0) 1 31 := ⟨by decide +kernel, rfl⟩
theorem dX2_init_31 : mx_at cX2_init 31 (.putfield 26) 3 34 := ⟨by decide +kernel, rfl⟩
theorem dX2_init_34 : mx_at cX2_init 34 (.aload_n 0) 1 35 := ⟨by decide +kernel, rfl⟩
theorem dX2_init_35 : mx_at cX2_init 35 (.iconst 0) 1 36 := ⟨by decide +kernel, rfl⟩
theorem dX2_init_36 : mx_at cX2_init 36 (.putfield 29) 3 39 := ⟨by decide +kernel, rfl⟩
theorem dX2_init_39 : mx_at cX2_init 39 (.aload_n 0) 1 40 := ⟨by decide +kernel, rfl⟩
theorem dX2_init_40 : mx_at cX2_init 40 (.iconst 0) 1 41 := ⟨by decide +kernel, rfl⟩
theorem dX2_init_41 : mx_at cX2_init 41 (.putfield 32) 3 44 := ⟨by decide +kernel, rfl⟩
theorem dX2_init_44 : mx_at cX2_init 44 (.iconst 0) 1 45 := ⟨by decide +kernel, rfl⟩
theorem dX2_init_45 : mx_at cX2_init 45 (.istore_n 1) 1 46 := ⟨by decide +kernel, rfl⟩
theorem dX2_init_46 : mx_at cX2_init 46 (.iload_n 1) 1 47 := ⟨by decide +kernel, rfl⟩
theorem dX2_init_47 : mx_at cX2_init 47 (.aload_n 0) 1 48 := ⟨by decide +kernel, rfl⟩
theorem dX2_init_48 : mx_at cX2_init 48 (.getfield 11) 3 51 := ⟨by decide +kernel, rfl⟩
theorem dX2_init_51 : mx_at cX2_init 51 (.arraylength) 1 52 := ⟨by decide +kernel, rfl⟩
theorem dX2_init_52 : mx_br cX2_init 52 (.if_icmp .ge 22) (22) 3 55 74 := ⟨by decide +kernel, rfl, by decide⟩
theorem dX2_init_55 : mx_at cX2_init 55 (.aload_n 0) 1 56 := ⟨by decide +kernel, rfl⟩
theorem dX2_init_56 : mx_at cX2_init 56 (.getfield 11) 3 59 := ⟨by decide +kernel, rfl⟩
theorem dX2_init_59 : mx_at cX2_init 59 (.iload_n 1) 1 60 := ⟨by decide +kernel, rfl⟩
theorem dX2_init_60 : mx_at cX2_init 60 (.new 9) 3 63 := ⟨by decide +kernel, rfl⟩
theorem dX2_init_63 : mx_at cX2_init 63 (.dup) 1 64 := ⟨by decide +kernel, rfl⟩
theorem dX2_init_64 : mx_at cX2_init 64 (.invokespecial 17) 3 67 := ⟨by decide +kernel, rfl⟩
theorem dX2_init_67 : mx_at cX2_init 67 (.aastore) 1 68 := ⟨by decide +kernel, rfl⟩
theorem dX2_init_68 : mx_at cX2_init 68 (.iinc 1 1) 3 71 := ⟨by decide +kernel, rfl⟩
theorem dX2_init_71 : mx_br cX2_init 71 (.goto (-25)) (-25) 3 74 46 := ⟨by decide +kernel, rfl, by decide⟩
theorem dX2_init_74 : mx_at cX2_init 74 (.return_) 1 75 := ⟨by decide +kernel, rfl⟩
theorem dX2_has_0 : mx_at cX2_has 0 (.iload_n 1) 1 1 := ⟨by decide +kernel, rfl⟩
theorem dX2_has_1 : mx_br cX2_has 1 (.ifCond .lt 15) (15) 3 4 16 := ⟨by decide +kernel, rfl, by decide⟩
theorem dX2_has_4 : mx_at cX2_has 4 (.iload_n 1) 1 5 := ⟨by decide +kernel, rfl⟩
theorem dX2_has_5 : mx_at cX2_has 5 (.aload_n 0) 1 6 := ⟨by decide +kernel, rfl⟩
theorem dX2_has_6 : mx_at cX2_has 6 (.getfield 22) 3 9 := ⟨by decide +kernel, rfl⟩
theorem dX2_has_9 : mx_br cX2_has 9 (.if_icmp .ge 7) (7) 3 12 16 := ⟨by decide +kernel, rfl, by decide⟩
theorem dX2_has_12 : mx_at cX2_has 12 (.iconst 1) 1 13 := ⟨by decide +kernel, rfl⟩
theorem dX2_has_13 : mx_br cX2_has 13 (.goto 4) (4) 3 16 17 := ⟨by decide +kernel, rfl, by decide⟩
theorem dX2_has_16 : mx_at cX2_has 16 (.iconst 0) 1 17 := ⟨by decide +kernel, rfl⟩
theorem dX2_has_17 : mx_at cX2_has 17 (.ireturn) 1 18 := ⟨by decide +kernel, rfl⟩
theorem dX2_at_0 : mx_at cX2_at 0 (.iload_n 1) 1 1 := ⟨by decide +kernel, rfl⟩
theorem dX2_at_1 : mx_br cX2_at 1 (.ifCond .lt 29) (29) 3 4 30 := ⟨by decide +kernel, rfl, by decide⟩
theorem dX2_at_4 : mx_at cX2_at 4 (.iload_n 1) 1 5 := ⟨by decide +kernel, rfl⟩
theorem dX2_at_5 : mx_at cX2_at 5 (.aload_n 0) 1 6 := ⟨by decide +kernel, rfl⟩
theorem dX2_at_6 : mx_at cX2_at 6 (.getfield 22) 3 9 := ⟨by decide +kernel, rfl⟩
theorem dX2_at_9 : mx_br cX2_at 9 (.if_icmp .ge 21) (21) 3 12 30 := ⟨by decide +kernel, rfl, by decide⟩
theorem dX2_at_12 : mx_at cX2_at 12 (.iload_n 1) 1 13 := ⟨by decide +kernel, rfl⟩
theorem dX2_at_13 : mx_at cX2_at 13 (.aload_n 0) 1 14 := ⟨by decide +kernel, rfl⟩
theorem dX2_at_14 : mx_at cX2_at 14 (.getfield 11) 3 17 := ⟨by decide +kernel, rfl⟩
theorem dX2_at_17 : mx_at cX2_at 17 (.arraylength) 1 18 := ⟨by decide +kernel, rfl⟩
theorem dX2_at_18 : mx_br cX2_at 18 (.if_icmp .ge 12) (12) 3 21 30 := ⟨by decide +kernel, rfl, by decide⟩
theorem dX2_at_21 : mx_at cX2_at 21 (.aload_n 0) 1 22 := ⟨by decide +kernel, rfl⟩
theorem dX2_at_22 : mx_at cX2_at 22 (.getfield 11) 3 25 := ⟨by decide +kernel, rfl⟩
theorem dX2_at_25 : mx_at cX2_at 25 (.iload_n 1) 1 26 := ⟨by decide +kernel, rfl⟩
theorem dX2_at_26 : mx_at cX2_at 26 (.aaload) 1 27 := ⟨by decide +kernel, rfl⟩
theorem dX2_at_27 : mx_br cX2_at 27 (.ifnonnull 8) (8) 3 30 35 := ⟨by decide +kernel, rfl, by decide⟩
theorem dX2_at_30 : mx_at cX2_at 30 (.aload_n 0) 1 31 := ⟨by decide +kernel, rfl⟩
theorem dX2_at_31 : mx_at cX2_at 31 (.getfield 18) 3 34 := ⟨by decide +kernel, rfl⟩
theorem dX2_at_34 : mx_at cX2_at 34 (.areturn) 1 35 := ⟨by decide +kernel, rfl⟩
theorem dX2_at_35 : mx_at cX2_at 35 (.aload_n 0) 1 36 := ⟨by decide +kernel, rfl⟩
theorem dX2_at_36 : mx_at cX2_at 36 (.getfield 11) 3 39 := ⟨by decide +kernel, rfl⟩
theorem dX2_at_39 : mx_at cX2_at 39 (.iload_n 1) 1 40 := ⟨by decide +kernel, rfl⟩
theorem dX2_at_40 : mx_at cX2_at 40 (.aaload) 1 41 := ⟨by decide +kernel, rfl⟩
theorem dX2_at_41 : mx_at cX2_at 41 (.areturn) 1 42 := ⟨by decide +kernel, rfl⟩
theorem dX2_become_0 : mx_at cX2_become 0 (.aload_n 0) 1 1 := ⟨by decide +kernel, rfl⟩
theorem dX2_become_1 : mx_at cX2_become 1 (.aload_n 1) 1 2 := ⟨by decide +kernel, rfl⟩
theorem dX2_become_2 : mx_at cX2_become 2 (.getfield 22) 3 5 := ⟨by decide +kernel, rfl⟩
theorem dX2_become_5 : mx_at cX2_become 5 (.putfield 22) 3 8 := ⟨by decide +kernel, rfl⟩
theorem dX2_become_8 : mx_at cX2_become 8 (.aload_n 0) 1 9 := ⟨by decide +kernel, rfl⟩
theorem dX2_become_9 : mx_at cX2_become 9 (.aload_n 1) 1 10 := ⟨by decide +kernel, rfl⟩
theorem dX2_become_10 : mx_at cX2_become 10 (.getfield 26) 3 13 := ⟨by decide +kernel, rfl⟩
theorem dX2_become_13 : mx_at cX2_become 13 (.putfield 26) 3 16 := ⟨by decide +kernel, rfl⟩
theorem dX2_become_16 : mx_at cX2_become 16 (.aload_n 0) 1 17 := ⟨by decide +kernel, rfl⟩
theorem dX2_become_17 : mx_at cX2_become 17 (.aload_n 1) 1 18 := ⟨by decide +kernel, rfl⟩
theorem dX2_become_18 : mx_at cX2_become 18 (.getfield 29) 3 21 := ⟨by decide +kernel, rfl⟩
theorem dX2_become_21 : mx_at cX2_become 21 (.putfield 29) 3 24 := ⟨by decide +kernel, rfl⟩
theorem dX2_become_24 : mx_at cX2_become 24 (.aload_n 0) 1 25 := ⟨by decide +kernel, rfl⟩
theorem dX2_become_25 : mx_at cX2_become 25 (.aload_n 1) 1 26 := ⟨by decide +kernel, rfl⟩
theorem dX2_become_26 : mx_at cX2_become 26 (.getfield 32) 3 29 := ⟨by decide +kernel, rfl⟩
theorem dX2_become_29 : mx_at cX2_become 29 (.putfield 32) 3 32 := ⟨by decide +kernel, rfl⟩
theorem dX2_become_32 : mx_at cX2_become 32 (.iconst 0) 1 33 := ⟨by decide +kernel, rfl⟩
theorem dX2_become_33 : mx_at cX2_become 33 (.istore_n 2) 1 34 := ⟨by decide +kernel, rfl⟩
theorem dX2_become_34 : mx_at cX2_become 34 (.iload_n 2) 1 35 := ⟨by decide +kernel, rfl⟩
theorem dX2_become_35 : mx_at cX2_become 35 (.aload_n 0) 1 36 := ⟨by decide +kernel, rfl⟩
theorem dX2_become_36 : mx_at cX2_become 36 (.getfield 22) 3 39 := ⟨by decide +kernel, rfl⟩
theorem dX2_become_39 : mx_br cX2_become 39 (.if_icmp .ge 22) (22) 3 42 61 := ⟨by decide +kernel, rfl, by decide⟩
theorem dX2_become_42 : mx_at cX2_become 42 (.aload_n 0) 1 43 := ⟨by decide +kernel, rfl⟩
theorem dX2_become_43 : mx_at cX2_become 43 (.iload_n 2) 1 44 := ⟨by decide +kernel, rfl⟩
theorem dX2_become_44 : mx_at cX2_become 44 (.invokevirtual 35) 3 47 := ⟨by decide +kernel, rfl⟩
theorem dX2_become_47 : mx_at cX2_become 47 (.aload_n 1) 1 48 := ⟨by decide +kernel, rfl⟩
theorem dX2_become_48 : mx_at cX2_become 48 (.iload_n 2) 1 49 := ⟨by decide +kernel, rfl⟩
theorem dX2_become_49 : mx_at cX2_become 49 (.invokevirtual 35) 3 52 := ⟨by decide +kernel, rfl⟩
theorem dX2_become_52 : mx_at cX2_become 52 (.invokevirtual 39) 3 55 := ⟨by decide +kernel, rfl⟩
theorem dX2_become_55 : mx_at cX2_become 55 (.iinc 2 1) 3 58 := ⟨by decide +kernel, rfl⟩
theorem dX2_become_58 : mx_br cX2_become 58 (.goto (-24)) (-24) 3 61 34 := ⟨by decide +kernel, rfl, by decide⟩
theorem dX2_become_61 : mx_at cX2_become 61 (.return_) 1 62 := ⟨by decide +kernel, rfl⟩
theorem dX2_build_0 : mx_at cX2_build 0 (.aload_n 0) 1 1 := ⟨by decide +kernel, rfl⟩
theorem dX2_build_1 : mx_at cX2_build 1 (.getfield 22) 3 4 := ⟨by decide +kernel, rfl⟩
theorem dX2_build_4 : mx_at cX2_build 4 (.bipush 6) 2 6 := ⟨by decide +kernel, rfl⟩
theorem dX2_build_6 : mx_br cX2_build 6 (.if_icmp .lt 4) (4) 3 9 10 := ⟨by decide +kernel, rfl, by decide⟩
theorem dX2_build_9 : mx_at cX2_build 9 (.return_) 1 10 := ⟨by decide +kernel, rfl⟩
theorem dX2_build_10 : mx_at cX2_build 10 (.aload_n 0) 1 11 := ⟨by decide +kernel, rfl⟩
theorem dX2_build_11 : mx_at cX2_build 11 (.dup) 1 12 := ⟨by decide +kernel, rfl⟩
theorem dX2_build_12 : mx_at cX2_build 12 (.getfield 22) 3 15 := ⟨by decide +kernel, rfl⟩
theorem dX2_build_15 : mx_at cX2_build 15 (.iconst 1) 1 16 := ⟨by decide +kernel, rfl⟩
theorem dX2_build_16 : mx_at cX2_build 16 (.iadd) 1 17 := ⟨by decide +kernel, rfl⟩
theorem dX2_build_17 : mx_at cX2_build 17 (.putfield 22) 3 20 := ⟨by decide +kernel, rfl⟩
theorem dX2_build_20 : mx_at cX2_build 20 (.aload_n 0) 1 21 := ⟨by decide +kernel, rfl⟩
theorem dX2_build_21 : mx_at cX2_build 21 (.aload_n 0) 1 22 := ⟨by decide +kernel, rfl⟩
theorem dX2_build_22 : mx_at cX2_build 22 (.getfield 22) 3 25 := ⟨by decide +kernel, rfl⟩
theorem dX2_build_25 : mx_at cX2_build 25 (.iconst 1) 1 26 := ⟨by decide +kernel, rfl⟩
theorem dX2_build_26 : mx_at cX2_build 26 (.isub) 1 27 := ⟨by decide +kernel, rfl⟩
theorem dX2_build_27 : mx_at cX2_build 27 (.invokevirtual 35) 3 30 := ⟨by decide +kernel, rfl⟩
theorem dX2_build_30 : mx_at cX2_build 30 (.astore 5) 2 32 := ⟨by decide +kernel, rfl⟩
theorem dX2_build_32 : mx_at cX2_build 32 (.aload 5) 2 34 := ⟨by decide +kernel, rfl⟩
theorem dX2_build_34 : mx_at cX2_build 34 (.aload_n 0) 1 35 := ⟨by decide +kernel, rfl⟩
theorem dX2_build_35 : mx_at cX2_build 35 (.getfield 18) 3 38 := ⟨by decide +kernel, rfl⟩
theorem dX2_build_38 : mx_at cX2_build 38 (.invokevirtual 39) 3 41 := ⟨by decide +kernel, rfl⟩
theorem dX2_build_41 : mx_at cX2_build 41 (.aload 5) 2 43 := ⟨by decide +kernel, rfl⟩
theorem dX2_build_43 : mx_at cX2_build 43 (.iload_n 1) 1 44 := ⟨by decide +kernel, rfl⟩
theorem dX2_build_44 : mx_at cX2_build 44 (.putfield 43) 3 47 := ⟨by decide +kernel, rfl⟩
theorem dX2_build_47 : mx_at cX2_build 47 (.aload 5) 2 49 := ⟨by decide +kernel, rfl⟩
theorem dX2_build_49 : mx_at cX2_build 49 (.iload_n 2) 1 50 := ⟨by decide +kernel, rfl⟩
theorem dX2_build_50 : mx_at cX2_build 50 (.putfield 46) 3 53 := ⟨by decide +kernel, rfl⟩
theorem dX2_build_53 : mx_at cX2_build 53 (.aload 5) 2 55 := ⟨by decide +kernel, rfl⟩
theorem dX2_build_55 : mx_at cX2_build 55 (.iload_n 3) 1 56 := ⟨by decide +kernel, rfl⟩
theorem dX2_build_56 : mx_at cX2_build 56 (.putfield 49) 3 59 := ⟨by decide +kernel, rfl⟩
theorem dX2_build_59 : mx_at cX2_build 59 (.aload 5) 2 61 := ⟨by decide +kernel, rfl⟩
theorem dX2_build_61 : mx_at cX2_build 61 (.iload 4) 2 63 := ⟨by decide +kernel, rfl⟩
theorem dX2_build_63 : mx_at cX2_build 63 (.putfield 52) 3 66 := ⟨by decide +kernel, rfl⟩
theorem dX2_build_66 : mx_at cX2_build 66 (.aload 5) 2 68 := ⟨by decide +kernel, rfl⟩
theorem dX2_build_68 : mx_at cX2_build 68 (.iconst 1) 1 69 := ⟨by decide +kernel, rfl⟩
theorem dX2_build_69 : mx_at cX2_build 69 (.putfield 55) 3 72 := ⟨by decide +kernel, rfl⟩
theorem dX2_build_72 : mx_at cX2_build 72 (.return_) 1 73 := ⟨by decide +kernel, rfl⟩
theorem dX2_pass_0 : mx_at cX2_pass 0 (.iconst 0) 1 1 := ⟨by decide +kernel, rfl⟩
theorem dX2_pass_1 : mx_at cX2_pass 1 (.istore_n 2) 1 2 := ⟨by decide +kernel, rfl⟩
theorem dX2_pass_2 : mx_at cX2_pass 2 (.iload_n 2) 1 3 := ⟨by decide +kernel, rfl⟩
theorem dX2_pass_3 : mx_at cX2_pass 3 (.iload_n 1) 1 4 := ⟨by decide +kernel, rfl⟩
theorem dX2_pass_4 : mx_br cX2_pass 4 (.if_icmp .ge 76) (76) 3 7 80 := ⟨by decide +kernel, rfl, by decide⟩
theorem dX2_pass_7 : mx_at cX2_pass 7 (.aload_n 0) 1 8 := ⟨by decide +kernel, rfl⟩
theorem dX2_pass_8 : mx_at cX2_pass 8 (.dup) 1 9 := ⟨by decide +kernel, rfl⟩
theorem dX2_pass_9 : mx_at cX2_pass 9 (.getfield 32) 3 12 := ⟨by decide +kernel, rfl⟩
theorem dX2_pass_12 : mx_at cX2_pass 12 (.iconst 1) 1 13 := ⟨by decide +kernel, rfl⟩
theorem dX2_pass_13 : mx_at cX2_pass 13 (.iadd) 1 14 := ⟨by decide +kernel, rfl⟩
theorem dX2_pass_14 : mx_at cX2_pass 14 (.putfield 32) 3 17 := ⟨by decide +kernel, rfl⟩
theorem dX2_pass_17 : mx_at cX2_pass 17 (.iconst 0) 1 18 := ⟨by decide +kernel, rfl⟩
theorem dX2_pass_18 : mx_at cX2_pass 18 (.istore_n 3) 1 19 := ⟨by decide +kernel, rfl⟩
theorem dX2_pass_19 : mx_at cX2_pass 19 (.iload_n 3) 1 20 := ⟨by decide +kernel, rfl⟩
theorem dX2_pass_20 : mx_at cX2_pass 20 (.aload_n 0) 1 21 := ⟨by decide +kernel, rfl⟩
theorem dX2_pass_21 : mx_at cX2_pass 21 (.getfield 22) 3 24 := ⟨by decide +kernel, rfl⟩
theorem dX2_pass_24 : mx_br cX2_pass 24 (.if_icmp .ge 46) (46) 3 27 70 := ⟨by decide +kernel, rfl, by decide⟩
theorem dX2_pass_27 : mx_at cX2_pass 27 (.aload_n 0) 1 28 := ⟨by decide +kernel, rfl⟩
theorem dX2_pass_28 : mx_at cX2_pass 28 (.iload_n 3) 1 29 := ⟨by decide +kernel, rfl⟩
theorem dX2_pass_29 : mx_at cX2_pass 29 (.invokevirtual 35) 3 32 := ⟨by decide +kernel, rfl⟩
theorem dX2_pass_32 : mx_at cX2_pass 32 (.astore 4) 2 34 := ⟨by decide +kernel, rfl⟩
theorem dX2_pass_34 : mx_at cX2_pass 34 (.aload 4) 2 36 := ⟨by decide +kernel, rfl⟩
theorem dX2_pass_36 : mx_at cX2_pass 36 (.getfield 55) 3 39 := ⟨by decide +kernel, rfl⟩
theorem dX2_pass_39 : mx_br cX2_pass 39 (.ifCond .eq 25) (25) 3 42 64 := ⟨by decide +kernel, rfl, by decide⟩
theorem dX2_pass_42 : mx_at cX2_pass 42 (.aload_n 0) 1 43 := ⟨by decide +kernel, rfl⟩
theorem dX2_pass_43 : mx_at cX2_pass 43 (.dup) 1 44 := ⟨by decide +kernel, rfl⟩
theorem dX2_pass_44 : mx_at cX2_pass 44 (.getfield 29) 3 47 := ⟨by decide +kernel, rfl⟩
theorem dX2_pass_47 : mx_at cX2_pass 47 (.aload 4) 2 49 := ⟨by decide +kernel, rfl⟩
theorem dX2_pass_49 : mx_at cX2_pass 49 (.aload_n 0) 1 50 := ⟨by decide +kernel, rfl⟩
theorem dX2_pass_50 : mx_at cX2_pass 50 (.getfield 32) 3 53 := ⟨by decide +kernel, rfl⟩
theorem dX2_pass_53 : mx_at cX2_pass 53 (.aload_n 0) 1 54 := ⟨by decide +kernel, rfl⟩
theorem dX2_pass_54 : mx_at cX2_pass 54 (.getfield 29) 3 57 := ⟨by decide +kernel, rfl⟩
theorem dX2_pass_57 : mx_at cX2_pass 57 (.invokevirtual 59) 3 60 := ⟨by decide +kernel, rfl⟩
theorem dX2_pass_60 : mx_at cX2_pass 60 (.isub) 1 61 := ⟨by decide +kernel, rfl⟩
theorem dX2_pass_61 : mx_at cX2_pass 61 (.putfield 29) 3 64 := ⟨by decide +kernel, rfl⟩
theorem dX2_pass_64 : mx_at cX2_pass 64 (.iinc 3 1) 3 67 := ⟨by decide +kernel, rfl⟩
theorem dX2_pass_67 : mx_br cX2_pass 67 (.goto (-48)) (-48) 3 70 19 := ⟨by decide +kernel, rfl, by decide⟩
theorem dX2_pass_70 : mx_at cX2_pass 70 (.aload_n 0) 1 71 := ⟨by decide +kernel, rfl⟩
theorem dX2_pass_71 : mx_at cX2_pass 71 (.invokevirtual 63) 3 74 := ⟨by decide +kernel, rfl⟩
theorem dX2_pass_74 : mx_at cX2_pass 74 (.iinc 2 1) 3 77 := ⟨by decide +kernel, rfl⟩
theorem dX2_pass_77 : mx_br cX2_pass 77 (.goto (-75)) (-75) 3 80 2 := ⟨by decide +kernel, rfl, by decide⟩
theorem dX2_pass_80 : mx_at cX2_pass 80 (.return_) 1 81 := ⟨by decide +kernel, rfl⟩
theorem dX2_inspect_0 : mx_at cX2_inspect 0 (.aload_n 0) 1 1 := ⟨by decide +kernel, rfl⟩
theorem dX2_inspect_1 : mx_at cX2_inspect 1 (.aload_n 0) 1 2 := ⟨by decide +kernel, rfl⟩
theorem dX2_inspect_2 : mx_at cX2_inspect 2 (.getfield 26) 3 5 := ⟨by decide +kernel, rfl⟩
theorem dX2_inspect_5 : mx_at cX2_inspect 5 (.invokevirtual 35) 3 8 := ⟨by decide +kernel, rfl⟩
theorem dX2_inspect_8 : mx_at cX2_inspect 8 (.astore_n 1) 1 9 := ⟨by decide +kernel, rfl⟩
theorem dX2_inspect_9 : mx_at cX2_inspect 9 (.aload_n 1) 1 10 := ⟨by decide +kernel, rfl⟩
theorem dX2_inspect_10 : mx_at cX2_inspect 10 (.getfield 55) 3 13 := ⟨by decide +kernel, rfl⟩
theorem dX2_inspect_13 : mx_br cX2_inspect 13 (.ifCond .eq 36) (36) 3 16 49 := ⟨by decide +kernel, rfl, by decide⟩
theorem dX2_inspect_16 : mx_at cX2_inspect 16 (.aload_n 1) 1 17 := ⟨by decide +kernel, rfl⟩
theorem dX2_inspect_17 : mx_at cX2_inspect 17 (.getfield 66) 3 20 := ⟨by decide +kernel, rfl⟩
theorem dX2_inspect_20 : mx_at cX2_inspect 20 (.bipush 10) 2 22 := ⟨by decide +kernel, rfl⟩
theorem dX2_inspect_22 : mx_br cX2_inspect 22 (.if_icmp .ge 11) (11) 3 25 33 := ⟨by decide +kernel, rfl, by decide⟩
theorem dX2_inspect_25 : mx_at cX2_inspect 25 (.aload_n 1) 1 26 := ⟨by decide +kernel, rfl⟩
theorem dX2_inspect_26 : mx_at cX2_inspect 26 (.getfield 69) 3 29 := ⟨by decide +kernel, rfl⟩
theorem dX2_inspect_29 : mx_at cX2_inspect 29 (.iconst 3) 1 30 := ⟨by decide +kernel, rfl⟩
theorem dX2_inspect_30 : mx_br cX2_inspect 30 (.if_icmp .lt 19) (19) 3 33 49 := ⟨by decide +kernel, rfl, by decide⟩
theorem dX2_inspect_33 : mx_at cX2_inspect 33 (.aload_n 0) 1 34 := ⟨by decide +kernel, rfl⟩
theorem dX2_inspect_34 : mx_at cX2_inspect 34 (.aload_n 1) 1 35 := ⟨by decide +kernel, rfl⟩
theorem dX2_inspect_35 : mx_at cX2_inspect 35 (.aload_n 0) 1 36 := ⟨by decide +kernel, rfl⟩
theorem dX2_inspect_36 : mx_at cX2_inspect 36 (.aload_n 0) 1 37 := ⟨by decide +kernel, rfl⟩
theorem dX2_inspect_37 : mx_at cX2_inspect 37 (.getfield 26) 3 40 := ⟨by decide +kernel, rfl⟩
theorem dX2_inspect_40 : mx_at cX2_inspect 40 (.invokevirtual 72) 3 43 := ⟨by decide +kernel, rfl⟩
theorem dX2_inspect_43 : mx_at cX2_inspect 43 (.invokevirtual 76) 3 46 := ⟨by decide +kernel, rfl⟩
theorem dX2_inspect_46 : mx_br cX2_inspect 46 (.goto 15) (15) 3 49 61 := ⟨by decide +kernel, rfl, by decide⟩
theorem dX2_inspect_49 : mx_at cX2_inspect 49 (.aload_n 1) 1 50 := ⟨by decide +kernel, rfl⟩
theorem dX2_inspect_50 : mx_at cX2_inspect 50 (.getfield 55) 3 53 := ⟨by decide +kernel, rfl⟩
theorem dX2_inspect_53 : mx_br cX2_inspect 53 (.ifCond .eq 8) (8) 3 56 61 := ⟨by decide +kernel, rfl, by decide⟩
theorem dX2_inspect_56 : mx_at cX2_inspect 56 (.aload_n 1) 1 57 := ⟨by decide +kernel, rfl⟩
theorem dX2_inspect_57 : mx_at cX2_inspect 57 (.iconst 0) 1 58 := ⟨by decide +kernel, rfl⟩
theorem dX2_inspect_58 : mx_at cX2_inspect 58 (.putfield 66) 3 61 := ⟨by decide +kernel, rfl⟩
theorem dX2_inspect_61 : mx_at cX2_inspect 61 (.aload_n 0) 1 62 := ⟨by decide +kernel, rfl⟩
theorem dX2_inspect_62 : mx_at cX2_inspect 62 (.getfield 22) 3 65 := ⟨by decide +kernel, rfl⟩
theorem dX2_inspect_65 : mx_br cX2_inspect 65 (.ifCond .le 18) (18) 3 68 83 := ⟨by decide +kernel, rfl, by decide⟩
theorem dX2_inspect_68 : mx_at cX2_inspect 68 (.aload_n 0) 1 69 := ⟨by decide +kernel, rfl⟩
theorem dX2_inspect_69 : mx_at cX2_inspect 69 (.aload_n 0) 1 70 := ⟨by decide +kernel, rfl⟩
theorem dX2_inspect_70 : mx_at cX2_inspect 70 (.getfield 26) 3 73 := ⟨by decide +kernel, rfl⟩
theorem dX2_inspect_73 : mx_at cX2_inspect 73 (.iconst 1) 1 74 := ⟨by decide +kernel, rfl⟩
theorem dX2_inspect_74 : mx_at cX2_inspect 74 (.iadd) 1 75 := ⟨by decide +kernel, rfl⟩
theorem dX2_inspect_75 : mx_at cX2_inspect 75 (.aload_n 0) 1 76 := ⟨by decide +kernel, rfl⟩
theorem dX2_inspect_76 : mx_at cX2_inspect 76 (.getfield 22) 3 79 := ⟨by decide +kernel, rfl⟩
theorem dX2_inspect_79 : mx_at cX2_inspect 79 (.irem) 1 80 := ⟨by decide +kernel, rfl⟩
theorem dX2_inspect_80 : mx_at cX2_inspect 80 (.putfield 26) 3 83 := ⟨by decide +kernel, rfl⟩
theorem dX2_inspect_83 : mx_at cX2_inspect 83 (.return_) 1 84 := ⟨by decide +kernel, rfl⟩
theorem dX2_lose_0 : mx_at cX2_lose 0 (.iload_n 2) 1 1 := ⟨by decide +kernel, rfl⟩
theorem dX2_lose_1 : mx_at cX2_lose 1 (.bipush (-9)) 2 3 := ⟨by decide +kernel, rfl⟩
theorem dX2_lose_3 : mx_br cX2_lose 3 (.if_icmp .eq 27) (27) 3 6 30 := ⟨by decide +kernel, rfl, by decide⟩
theorem dX2_lose_6 : mx_at cX2_lose 6 (.aload_n 0) 1 7 := ⟨by decide +kernel, rfl⟩
theorem dX2_lose_7 : mx_at cX2_lose 7 (.iload_n 2) 1 8 := ⟨by decide +kernel, rfl⟩
theorem dX2_lose_8 : mx_at cX2_lose 8 (.invokevirtual 35) 3 11 := ⟨by decide +kernel, rfl⟩
theorem dX2_lose_11 : mx_at cX2_lose 11 (.astore_n 3) 1 12 := ⟨by decide +kernel, rfl⟩
theorem dX2_lose_12 : mx_at cX2_lose 12 (.aload_n 3) 1 13 := ⟨by decide +kernel, rfl⟩
theorem dX2_lose_13 : mx_at cX2_lose 13 (.bipush 30) 2 15 := ⟨by decide +kernel, rfl⟩
theorem dX2_lose_15 : mx_at cX2_lose 15 (.aload_n 3) 1 16 := ⟨by decide +kernel, rfl⟩
theorem dX2_lose_16 : mx_at cX2_lose 16 (.getfield 52) 3 19 := ⟨by decide +kernel, rfl⟩
theorem dX2_lose_19 : mx_at cX2_lose 19 (.aload_n 1) 1 20 := ⟨by decide +kernel, rfl⟩
theorem dX2_lose_20 : mx_at cX2_lose 20 (.getfield 52) 3 23 := ⟨by decide +kernel, rfl⟩
theorem dX2_lose_23 : mx_at cX2_lose 23 (.iadd) 1 24 := ⟨by decide +kernel, rfl⟩
theorem dX2_lose_24 : mx_at cX2_lose 24 (.invokestatic 80) 3 27 := ⟨by decide +kernel, rfl⟩
theorem dX2_lose_27 : mx_at cX2_lose 27 (.putfield 52) 3 30 := ⟨by decide +kernel, rfl⟩
theorem dX2_lose_30 : mx_at cX2_lose 30 (.aload_n 1) 1 31 := ⟨by decide +kernel, rfl⟩
theorem dX2_lose_31 : mx_at cX2_lose 31 (.iconst 0) 1 32 := ⟨by decide +kernel, rfl⟩
theorem dX2_lose_32 : mx_at cX2_lose 32 (.putfield 52) 3 35 := ⟨by decide +kernel, rfl⟩
theorem dX2_lose_35 : mx_at cX2_lose 35 (.aload_n 1) 1 36 := ⟨by decide +kernel, rfl⟩
theorem dX2_lose_36 : mx_at cX2_lose 36 (.iconst 0) 1 37 := ⟨by decide +kernel, rfl⟩
theorem dX2_lose_37 : mx_at cX2_lose 37 (.putfield 55) 3 40 := ⟨by decide +kernel, rfl⟩
theorem dX2_lose_40 : mx_at cX2_lose 40 (.return_) 1 41 := ⟨by decide +kernel, rfl⟩
theorem dX2_nextKept_0 : mx_at cX2_nextKept 0 (.iconst 1) 1 1 := ⟨by decide +kernel, rfl⟩
theorem dX2_nextKept_1 : mx_at cX2_nextKept 1 (.istore_n 2) 1 2 := ⟨by decide +kernel, rfl⟩
theorem dX2_nextKept_2 : mx_at cX2_nextKept 2 (.iload_n 2) 1 3 := ⟨by decide +kernel, rfl⟩
theorem dX2_nextKept_3 : mx_at cX2_nextKept 3 (.aload_n 0) 1 4 := ⟨by decide +kernel, rfl⟩
theorem dX2_nextKept_4 : mx_at cX2_nextKept 4 (.getfield 22) 3 7 := ⟨by decide +kernel, rfl⟩
theorem dX2_nextKept_7 : mx_br cX2_nextKept 7 (.if_icmp .ge 31) (31) 3 10 38 := ⟨by decide +kernel, rfl, by decide⟩
theorem dX2_nextKept_10 : mx_at cX2_nextKept 10 (.iload_n 1) 1 11 := ⟨by decide +kernel, rfl⟩
theorem dX2_nextKept_11 : mx_at cX2_nextKept 11 (.iload_n 2) 1 12 := ⟨by decide +kernel, rfl⟩
theorem dX2_nextKept_12 : mx_at cX2_nextKept 12 (.iadd) 1 13 := ⟨by decide +kernel, rfl⟩
theorem dX2_nextKept_13 : mx_at cX2_nextKept 13 (.aload_n 0) 1 14 := ⟨by decide +kernel, rfl⟩
theorem dX2_nextKept_14 : mx_at cX2_nextKept 14 (.getfield 22) 3 17 := ⟨by decide +kernel, rfl⟩
theorem dX2_nextKept_17 : mx_at cX2_nextKept 17 (.irem) 1 18 := ⟨by decide +kernel, rfl⟩
theorem dX2_nextKept_18 : mx_at cX2_nextKept 18 (.istore_n 3) 1 19 := ⟨by decide +kernel, rfl⟩
theorem dX2_nextKept_19 : mx_at cX2_nextKept 19 (.aload_n 0) 1 20 := ⟨by decide +kernel, rfl⟩
theorem dX2_nextKept_20 : mx_at cX2_nextKept 20 (.iload_n 3) 1 21 := ⟨by decide +kernel, rfl⟩
theorem dX2_nextKept_21 : mx_at cX2_nextKept 21 (.invokevirtual 35) 3 24 := ⟨by decide +kernel, rfl⟩
theorem dX2_nextKept_24 : mx_at cX2_nextKept 24 (.getfield 55) 3 27 := ⟨by decide +kernel, rfl⟩
theorem dX2_nextKept_27 : mx_br cX2_nextKept 27 (.ifCond .eq 5) (5) 3 30 32 := ⟨by decide +kernel, rfl, by decide⟩
theorem dX2_nextKept_30 : mx_at cX2_nextKept 30 (.iload_n 3) 1 31 := ⟨by decide +kernel, rfl⟩
theorem dX2_nextKept_31 : mx_at cX2_nextKept 31 (.ireturn) 1 32 := ⟨by decide +kernel, rfl⟩
theorem dX2_nextKept_32 : mx_at cX2_nextKept 32 (.iinc 2 1) 3 35 := ⟨by decide +kernel, rfl⟩
theorem dX2_nextKept_35 : mx_br cX2_nextKept 35 (.goto (-33)) (-33) 3 38 2 := ⟨by decide +kernel, rfl, by decide⟩
theorem dX2_nextKept_38 : mx_at cX2_nextKept 38 (.bipush (-9)) 2 40 := ⟨by decide +kernel, rfl⟩
theorem dX2_nextKept_40 : mx_at cX2_nextKept 40 (.ireturn) 1 41 := ⟨by decide +kernel, rfl⟩
theorem dX2_keptBits_0 : mx_at cX2_keptBits 0 (.iconst 0) 1 1 := ⟨by decide +kernel, rfl⟩
theorem dX2_keptBits_1 : mx_at cX2_keptBits 1 (.istore_n 1) 1 2 := ⟨by decide +kernel, rfl⟩
theorem dX2_keptBits_2 : mx_at cX2_keptBits 2 (.iconst 0) 1 3 := ⟨by decide +kernel, rfl⟩
theorem dX2_keptBits_3 : mx_at cX2_keptBits 3 (.istore_n 2) 1 4 := ⟨by decide +kernel, rfl⟩
theorem dX2_keptBits_4 : mx_at cX2_keptBits 4 (.iload_n 2) 1 5 := ⟨by decide +kernel, rfl⟩
theorem dX2_keptBits_5 : mx_at cX2_keptBits 5 (.aload_n 0) 1 6 := ⟨by decide +kernel, rfl⟩
theorem dX2_keptBits_6 : mx_at cX2_keptBits 6 (.getfield 22) 3 9 := ⟨by decide +kernel, rfl⟩
theorem dX2_keptBits_9 : mx_br cX2_keptBits 9 (.if_icmp .ge 26) (26) 3 12 35 := ⟨by decide +kernel, rfl, by decide⟩
theorem dX2_keptBits_12 : mx_at cX2_keptBits 12 (.aload_n 0) 1 13 := ⟨by decide +kernel, rfl⟩
theorem dX2_keptBits_13 : mx_at cX2_keptBits 13 (.iload_n 2) 1 14 := ⟨by decide +kernel, rfl⟩
theorem dX2_keptBits_14 : mx_at cX2_keptBits 14 (.invokevirtual 35) 3 17 := ⟨by decide +kernel, rfl⟩
theorem dX2_keptBits_17 : mx_at cX2_keptBits 17 (.getfield 55) 3 20 := ⟨by decide +kernel, rfl⟩
theorem dX2_keptBits_20 : mx_br cX2_keptBits 20 (.ifCond .eq 9) (9) 3 23 29 := ⟨by decide +kernel, rfl, by decide⟩
theorem dX2_keptBits_23 : mx_at cX2_keptBits 23 (.iload_n 1) 1 24 := ⟨by decide +kernel, rfl⟩
theorem dX2_keptBits_24 : mx_at cX2_keptBits 24 (.iconst 1) 1 25 := ⟨by decide +kernel, rfl⟩
theorem dX2_keptBits_25 : mx_at cX2_keptBits 25 (.iload_n 2) 1 26 := ⟨by decide +kernel, rfl⟩
theorem dX2_keptBits_26 : mx_at cX2_keptBits 26 (.ishl) 1 27 := ⟨by decide +kernel, rfl⟩
theorem dX2_keptBits_27 : mx_at cX2_keptBits 27 (.ior) 1 28 := ⟨by decide +kernel, rfl⟩
theorem dX2_keptBits_28 : mx_at cX2_keptBits 28 (.istore_n 1) 1 29 := ⟨by decide +kernel, rfl⟩
theorem dX2_keptBits_29 : mx_at cX2_keptBits 29 (.iinc 2 1) 3 32 := ⟨by decide +kernel, rfl⟩
theorem dX2_keptBits_32 : mx_br cX2_keptBits 32 (.goto (-28)) (-28) 3 35 4 := ⟨by decide +kernel, rfl, by decide⟩
theorem dX2_keptBits_35 : mx_at cX2_keptBits 35 (.iload_n 1) 1 36 := ⟨by decide +kernel, rfl⟩
theorem dX2_keptBits_36 : mx_at cX2_keptBits 36 (.ireturn) 1 37 := ⟨by decide +kernel, rfl⟩
theorem dX2_howManyKept_0 : mx_at cX2_howManyKept 0 (.aload_n 0) 1 1 := ⟨by decide +kernel, rfl⟩
theorem dX2_howManyKept_1 : mx_at cX2_howManyKept 1 (.invokevirtual 85) 3 4 := ⟨by decide +kernel, rfl⟩
theorem dX2_howManyKept_4 : mx_at cX2_howManyKept 4 (.invokestatic 89) 3 7 := ⟨by decide +kernel, rfl⟩
theorem dX2_howManyKept_7 : mx_at cX2_howManyKept 7 (.ireturn) 1 8 := ⟨by decide +kernel, rfl⟩
theorem dX2_emptyBits_0 : mx_at cX2_emptyBits 0 (.iconst 0) 1 1 := ⟨by decide +kernel, rfl⟩
theorem dX2_emptyBits_1 : mx_at cX2_emptyBits 1 (.istore_n 1) 1 2 := ⟨by decide +kernel, rfl⟩
theorem dX2_emptyBits_2 : mx_at cX2_emptyBits 2 (.iconst 0) 1 3 := ⟨by decide +kernel, rfl⟩
theorem dX2_emptyBits_3 : mx_at cX2_emptyBits 3 (.istore_n 2) 1 4 := ⟨by decide +kernel, rfl⟩
theorem dX2_emptyBits_4 : mx_at cX2_emptyBits 4 (.iload_n 2) 1 5 := ⟨by decide +kernel, rfl⟩
theorem dX2_emptyBits_5 : mx_at cX2_emptyBits 5 (.aload_n 0) 1 6 := ⟨by decide +kernel, rfl⟩
theorem dX2_emptyBits_6 : mx_at cX2_emptyBits 6 (.getfield 22) 3 9 := ⟨by decide +kernel, rfl⟩
theorem dX2_emptyBits_9 : mx_br cX2_emptyBits 9 (.if_icmp .ge 26) (26) 3 12 35 := ⟨by decide +kernel, rfl, by decide⟩
theorem dX2_emptyBits_12 : mx_at cX2_emptyBits 12 (.aload_n 0) 1 13 := ⟨by decide +kernel, rfl⟩
theorem dX2_emptyBits_13 : mx_at cX2_emptyBits 13 (.iload_n 2) 1 14 := ⟨by decide +kernel, rfl⟩
theorem dX2_emptyBits_14 : mx_at cX2_emptyBits 14 (.invokevirtual 35) 3 17 := ⟨by decide +kernel, rfl⟩
theorem dX2_emptyBits_17 : mx_at cX2_emptyBits 17 (.getfield 52) 3 20 := ⟨by decide +kernel, rfl⟩
theorem dX2_emptyBits_20 : mx_br cX2_emptyBits 20 (.ifCond .ne 9) (9) 3 23 29 := ⟨by decide +kernel, rfl, by decide⟩
theorem dX2_emptyBits_23 : mx_at cX2_emptyBits 23 (.iload_n 1) 1 24 := ⟨by decide +kernel, rfl⟩
theorem dX2_emptyBits_24 : mx_at cX2_emptyBits 24 (.iconst 1) 1 25 := ⟨by decide +kernel, rfl⟩
theorem dX2_emptyBits_25 : mx_at cX2_emptyBits 25 (.iload_n 2) 1 26 := ⟨by decide +kernel, rfl⟩
theorem dX2_emptyBits_26 : mx_at cX2_emptyBits 26 (.ishl) 1 27 := ⟨by decide +kernel, rfl⟩
theorem dX2_emptyBits_27 : mx_at cX2_emptyBits 27 (.ior) 1 28 := ⟨by decide +kernel, rfl⟩
theorem dX2_emptyBits_28 : mx_at cX2_emptyBits 28 (.istore_n 1) 1 29 := ⟨by decide +kernel, rfl⟩
theorem dX2_emptyBits_29 : mx_at cX2_emptyBits 29 (.iinc 2 1) 3 32 := ⟨by decide +kernel, rfl⟩
theorem dX2_emptyBits_32 : mx_br cX2_emptyBits 32 (.goto (-28)) (-28) 3 35 4 := ⟨by decide +kernel, rfl, by decide⟩
theorem dX2_emptyBits_35 : mx_at cX2_emptyBits 35 (.iload_n 1) 1 36 := ⟨by decide +kernel, rfl⟩
theorem dX2_emptyBits_36 : mx_at cX2_emptyBits 36 (.ireturn) 1 37 := ⟨by decide +kernel, rfl⟩
theorem dX2_crowdedBits_0 : mx_at cX2_crowdedBits 0 (.iconst 0) 1 1 := ⟨by decide +kernel, rfl⟩
theorem dX2_crowdedBits_1 : mx_at cX2_crowdedBits 1 (.istore_n 1) 1 2 := ⟨by decide +kernel, rfl⟩
theorem dX2_crowdedBits_2 : mx_at cX2_crowdedBits 2 (.iconst 0) 1 3 := ⟨by decide +kernel, rfl⟩
theorem dX2_crowdedBits_3 : mx_at cX2_crowdedBits 3 (.istore_n 2) 1 4 := ⟨by decide +kernel, rfl⟩
theorem dX2_crowdedBits_4 : mx_at cX2_crowdedBits 4 (.iload_n 2) 1 5 := ⟨by decide +kernel, rfl⟩
theorem dX2_crowdedBits_5 : mx_at cX2_crowdedBits 5 (.aload_n 0) 1 6 := ⟨by decide +kernel, rfl⟩
theorem dX2_crowdedBits_6 : mx_at cX2_crowdedBits 6 (.getfield 22) 3 9 := ⟨by decide +kernel, rfl⟩
theorem dX2_crowdedBits_9 : mx_br cX2_crowdedBits 9 (.if_icmp .ge 26) (26) 3 12 35 := ⟨by decide +kernel, rfl, by decide⟩
theorem dX2_crowdedBits_12 : mx_at cX2_crowdedBits 12 (.aload_n 0) 1 13 := ⟨by decide +kernel, rfl⟩
theorem dX2_crowdedBits_13 : mx_at cX2_crowdedBits 13 (.iload_n 2) 1 14 := ⟨by decide +kernel, rfl⟩
theorem dX2_crowdedBits_14 : mx_at cX2_crowdedBits 14 (.invokevirtual 35) 3 17 := ⟨by decide +kernel, rfl⟩
theorem dX2_crowdedBits_17 : mx_at cX2_crowdedBits 17 (.invokevirtual 94) 3 20 := ⟨by decide +kernel, rfl⟩
theorem dX2_crowdedBits_20 : mx_br cX2_crowdedBits 20 (.ifCond .eq 9) (9) 3 23 29 := ⟨by decide +kernel, rfl, by decide⟩
theorem dX2_crowdedBits_23 : mx_at cX2_crowdedBits 23 (.iload_n 1) 1 24 := ⟨by decide +kernel, rfl⟩
theorem dX2_crowdedBits_24 : mx_at cX2_crowdedBits 24 (.iconst 1) 1 25 := ⟨by decide +kernel, rfl⟩
theorem dX2_crowdedBits_25 : mx_at cX2_crowdedBits 25 (.iload_n 2) 1 26 := ⟨by decide +kernel, rfl⟩
theorem dX2_crowdedBits_26 : mx_at cX2_crowdedBits 26 (.ishl) 1 27 := ⟨by decide +kernel, rfl⟩
theorem dX2_crowdedBits_27 : mx_at cX2_crowdedBits 27 (.ior) 1 28 := ⟨by decide +kernel, rfl⟩
theorem dX2_crowdedBits_28 : mx_at cX2_crowdedBits 28 (.istore_n 1) 1 29 := ⟨by decide +kernel, rfl⟩
theorem dX2_crowdedBits_29 : mx_at cX2_crowdedBits 29 (.iinc 2 1) 3 32 := ⟨by decide +kernel, rfl⟩
theorem dX2_crowdedBits_32 : mx_br cX2_crowdedBits 32 (.goto (-28)) (-28) 3 35 4 := ⟨by decide +kernel, rfl, by decide⟩
theorem dX2_crowdedBits_35 : mx_at cX2_crowdedBits 35 (.iload_n 1) 1 36 := ⟨by decide +kernel, rfl⟩
theorem dX2_crowdedBits_36 : mx_at cX2_crowdedBits 36 (.ireturn) 1 37 := ⟨by decide +kernel, rfl⟩
theorem dX2_allPeople_0 : mx_at cX2_allPeople 0 (.iconst 0) 1 1 := ⟨by decide +kernel, rfl⟩
theorem dX2_allPeople_1 : mx_at cX2_allPeople 1 (.istore_n 1) 1 2 := ⟨by decide +kernel, rfl⟩
theorem dX2_allPeople_2 : mx_at cX2_allPeople 2 (.iconst 0) 1 3 := ⟨by decide +kernel, rfl⟩
theorem dX2_allPeople_3 : mx_at cX2_allPeople 3 (.istore_n 2) 1 4 := ⟨by decide +kernel, rfl⟩
theorem dX2_allPeople_4 : mx_at cX2_allPeople 4 (.iload_n 2) 1 5 := ⟨by decide +kernel, rfl⟩
theorem dX2_allPeople_5 : mx_at cX2_allPeople 5 (.aload_n 0) 1 6 := ⟨by decide +kernel, rfl⟩
theorem dX2_allPeople_6 : mx_at cX2_allPeople 6 (.getfield 22) 3 9 := ⟨by decide +kernel, rfl⟩
theorem dX2_allPeople_9 : mx_br cX2_allPeople 9 (.if_icmp .ge 20) (20) 3 12 29 := ⟨by decide +kernel, rfl, by decide⟩
theorem dX2_allPeople_12 : mx_at cX2_allPeople 12 (.iload_n 1) 1 13 := ⟨by decide +kernel, rfl⟩
theorem dX2_allPeople_13 : mx_at cX2_allPeople 13 (.aload_n 0) 1 14 := ⟨by decide +kernel, rfl⟩
theorem dX2_allPeople_14 : mx_at cX2_allPeople 14 (.iload_n 2) 1 15 := ⟨by decide +kernel, rfl⟩
theorem dX2_allPeople_15 : mx_at cX2_allPeople 15 (.invokevirtual 35) 3 18 := ⟨by decide +kernel, rfl⟩
theorem dX2_allPeople_18 : mx_at cX2_allPeople 18 (.getfield 52) 3 21 := ⟨by decide +kernel, rfl⟩
theorem dX2_allPeople_21 : mx_at cX2_allPeople 21 (.iadd) 1 22 := ⟨by decide +kernel, rfl⟩
theorem dX2_allPeople_22 : mx_at cX2_allPeople 22 (.istore_n 1) 1 23 := ⟨by decide +kernel, rfl⟩
theorem dX2_allPeople_23 : mx_at cX2_allPeople 23 (.iinc 2 1) 3 26 := ⟨by decide +kernel, rfl⟩
theorem dX2_allPeople_26 : mx_br cX2_allPeople 26 (.goto (-22)) (-22) 3 29 4 := ⟨by decide +kernel, rfl, by decide⟩
theorem dX2_allPeople_29 : mx_at cX2_allPeople 29 (.iload_n 1) 1 30 := ⟨by decide +kernel, rfl⟩
theorem dX2_allPeople_30 : mx_at cX2_allPeople 30 (.ireturn) 1 31 := ⟨by decide +kernel, rfl⟩
theorem dX2_burnsInAWeek_0 : mx_at cX2_burnsInAWeek 0 (.iconst 0) 1 1 := ⟨by decide +kernel, rfl⟩
theorem dX2_burnsInAWeek_1 : mx_at cX2_burnsInAWeek 1 (.istore_n 1) 1 2 := ⟨by decide +kernel, rfl⟩
theorem dX2_burnsInAWeek_2 : mx_at cX2_burnsInAWeek 2 (.iconst 0) 1 3 := ⟨by decide +kernel, rfl⟩
theorem dX2_burnsInAWeek_3 : mx_at cX2_burnsInAWeek 3 (.istore_n 2) 1 4 := ⟨by decide +kernel, rfl⟩
theorem dX2_burnsInAWeek_4 : mx_at cX2_burnsInAWeek 4 (.iload_n 2) 1 5 := ⟨by decide +kernel, rfl⟩
theorem dX2_burnsInAWeek_5 : mx_at cX2_burnsInAWeek 5 (.aload_n 0) 1 6 := ⟨by decide +kernel, rfl⟩
theorem dX2_burnsInAWeek_6 : mx_at cX2_burnsInAWeek 6 (.getfield 22) 3 9 := ⟨by decide +kernel, rfl⟩
theorem dX2_burnsInAWeek_9 : mx_br cX2_burnsInAWeek 9 (.if_icmp .ge 31) (31) 3 12 40 := ⟨by decide +kernel, rfl, by decide⟩
theorem dX2_burnsInAWeek_12 : mx_at cX2_burnsInAWeek 12 (.aload_n 0) 1 13 := ⟨by decide +kernel, rfl⟩
theorem dX2_burnsInAWeek_13 : mx_at cX2_burnsInAWeek 13 (.iload_n 2) 1 14 := ⟨by decide +kernel, rfl⟩
theorem dX2_burnsInAWeek_14 : mx_at cX2_burnsInAWeek 14 (.invokevirtual 35) 3 17 := ⟨by decide +kernel, rfl⟩
theorem dX2_burnsInAWeek_17 : mx_at cX2_burnsInAWeek 17 (.getfield 55) 3 20 := ⟨by decide +kernel, rfl⟩
theorem dX2_burnsInAWeek_20 : mx_br cX2_burnsInAWeek 20 (.ifCond .eq 14) (14) 3 23 34 := ⟨by decide +kernel, rfl, by decide⟩
theorem dX2_burnsInAWeek_23 : mx_at cX2_burnsInAWeek 23 (.iload_n 1) 1 24 := ⟨by decide +kernel, rfl⟩
theorem dX2_burnsInAWeek_24 : mx_at cX2_burnsInAWeek 24 (.aload_n 0) 1 25 := ⟨by decide +kernel, rfl⟩
theorem dX2_burnsInAWeek_25 : mx_at cX2_burnsInAWeek 25 (.iload_n 2) 1 26 := ⟨by decide +kernel, rfl⟩
theorem dX2_burnsInAWeek_26 : mx_at cX2_burnsInAWeek 26 (.invokevirtual 35) 3 29 := ⟨by decide +kernel, rfl⟩
theorem dX2_burnsInAWeek_29 : mx_at cX2_burnsInAWeek 29 (.invokevirtual 98) 3 32 := ⟨by decide +kernel, rfl⟩
theorem dX2_burnsInAWeek_32 : mx_at cX2_burnsInAWeek 32 (.iadd) 1 33 := ⟨by decide +kernel, rfl⟩
theorem dX2_burnsInAWeek_33 : mx_at cX2_burnsInAWeek 33 (.istore_n 1) 1 34 := ⟨by decide +kernel, rfl⟩
theorem dX2_burnsInAWeek_34 : mx_at cX2_burnsInAWeek 34 (.iinc 2 1) 3 37 := ⟨by decide +kernel, rfl⟩
theorem dX2_burnsInAWeek_37 : mx_br cX2_burnsInAWeek 37 (.goto (-33)) (-33) 3 40 4 := ⟨by decide +kernel, rfl, by decide⟩
theorem dX2_burnsInAWeek_40 : mx_at cX2_burnsInAWeek 40 (.iload_n 1) 1 41 := ⟨by decide +kernel, rfl⟩
theorem dX2_burnsInAWeek_41 : mx_at cX2_burnsInAWeek 41 (.ireturn) 1 42 := ⟨by decide +kernel, rfl⟩
theorem dX2_roomForMore_0 : mx_at cX2_roomForMore 0 (.iconst 0) 1 1 := ⟨by decide +kernel, rfl⟩
theorem dX2_roomForMore_1 : mx_at cX2_roomForMore 1 (.istore_n 1) 1 2 := ⟨by decide +kernel, rfl⟩
theorem dX2_roomForMore_2 : mx_at cX2_roomForMore 2 (.iconst 0) 1 3 := ⟨by decide +kernel, rfl⟩
theorem dX2_roomForMore_3 : mx_at cX2_roomForMore 3 (.istore_n 2) 1 4 := ⟨by decide +kernel, rfl⟩
theorem dX2_roomForMore_4 : mx_at cX2_roomForMore 4 (.iload_n 2) 1 5 := ⟨by decide +kernel, rfl⟩
theorem dX2_roomForMore_5 : mx_at cX2_roomForMore 5 (.aload_n 0) 1 6 := ⟨by decide +kernel, rfl⟩
theorem dX2_roomForMore_6 : mx_at cX2_roomForMore 6 (.getfield 22) 3 9 := ⟨by decide +kernel, rfl⟩
theorem dX2_roomForMore_9 : mx_br cX2_roomForMore 9 (.if_icmp .ge 39) (39) 3 12 48 := ⟨by decide +kernel, rfl, by decide⟩
theorem dX2_roomForMore_12 : mx_at cX2_roomForMore 12 (.aload_n 0) 1 13 := ⟨by decide +kernel, rfl⟩
theorem dX2_roomForMore_13 : mx_at cX2_roomForMore 13 (.iload_n 2) 1 14 := ⟨by decide +kernel, rfl⟩
theorem dX2_roomForMore_14 : mx_at cX2_roomForMore 14 (.invokevirtual 35) 3 17 := ⟨by decide +kernel, rfl⟩
theorem dX2_roomForMore_17 : mx_at cX2_roomForMore 17 (.astore_n 3) 1 18 := ⟨by decide +kernel, rfl⟩
theorem dX2_roomForMore_18 : mx_at cX2_roomForMore 18 (.aload_n 3) 1 19 := ⟨by decide +kernel, rfl⟩
theorem dX2_roomForMore_19 : mx_at cX2_roomForMore 19 (.getfield 55) 3 22 := ⟨by decide +kernel, rfl⟩
theorem dX2_roomForMore_22 : mx_br cX2_roomForMore 22 (.ifCond .eq 20) (20) 3 25 42 := ⟨by decide +kernel, rfl, by decide⟩
theorem dX2_roomForMore_25 : mx_at cX2_roomForMore 25 (.iload_n 1) 1 26 := ⟨by decide +kernel, rfl⟩
theorem dX2_roomForMore_26 : mx_at cX2_roomForMore 26 (.aload_n 3) 1 27 := ⟨by decide +kernel, rfl⟩
theorem dX2_roomForMore_27 : mx_at cX2_roomForMore 27 (.getfield 49) 3 30 := ⟨by decide +kernel, rfl⟩
theorem dX2_roomForMore_30 : mx_at cX2_roomForMore 30 (.aload_n 3) 1 31 := ⟨by decide +kernel, rfl⟩
theorem dX2_roomForMore_31 : mx_at cX2_roomForMore 31 (.invokevirtual 101) 3 34 := ⟨by decide +kernel, rfl⟩
theorem dX2_roomForMore_34 : mx_at cX2_roomForMore 34 (.imul) 1 35 := ⟨by decide +kernel, rfl⟩
theorem dX2_roomForMore_35 : mx_at cX2_roomForMore 35 (.aload_n 3) 1 36 := ⟨by decide +kernel, rfl⟩
theorem dX2_roomForMore_36 : mx_at cX2_roomForMore 36 (.getfield 52) 3 39 := ⟨by decide +kernel, rfl⟩
theorem dX2_roomForMore_39 : mx_at cX2_roomForMore 39 (.isub) 1 40 := ⟨by decide +kernel, rfl⟩
theorem dX2_roomForMore_40 : mx_at cX2_roomForMore 40 (.iadd) 1 41 := ⟨by decide +kernel, rfl⟩
theorem dX2_roomForMore_41 : mx_at cX2_roomForMore 41 (.istore_n 1) 1 42 := ⟨by decide +kernel, rfl⟩
theorem dX2_roomForMore_42 : mx_at cX2_roomForMore 42 (.iinc 2 1) 3 45 := ⟨by decide +kernel, rfl⟩
theorem dX2_roomForMore_45 : mx_br cX2_roomForMore 45 (.goto (-41)) (-41) 3 48 4 := ⟨by decide +kernel, rfl, by decide⟩
theorem dX2_roomForMore_48 : mx_at cX2_roomForMore 48 (.iload_n 1) 1 49 := ⟨by decide +kernel, rfl⟩
theorem dX2_roomForMore_49 : mx_at cX2_roomForMore 49 (.ireturn) 1 50 := ⟨by decide +kernel, rfl⟩
theorem dX2_fullest_0 : mx_at cX2_fullest 0 (.bipush (-9)) 2 2 := ⟨by decide +kernel, rfl⟩
theorem dX2_fullest_2 : mx_at cX2_fullest 2 (.istore_n 1) 1 3 := ⟨by decide +kernel, rfl⟩
theorem dX2_fullest_3 : mx_at cX2_fullest 3 (.iconst 0) 1 4 := ⟨by decide +kernel, rfl⟩
theorem dX2_fullest_4 : mx_at cX2_fullest 4 (.istore_n 2) 1 5 := ⟨by decide +kernel, rfl⟩
theorem dX2_fullest_5 : mx_at cX2_fullest 5 (.iload_n 2) 1 6 := ⟨by decide +kernel, rfl⟩
theorem dX2_fullest_6 : mx_at cX2_fullest 6 (.aload_n 0) 1 7 := ⟨by decide +kernel, rfl⟩
theorem dX2_fullest_7 : mx_at cX2_fullest 7 (.getfield 22) 3 10 := ⟨by decide +kernel, rfl⟩
theorem dX2_fullest_10 : mx_br cX2_fullest 10 (.if_icmp .ge 47) (47) 3 13 57 := ⟨by decide +kernel, rfl, by decide⟩
theorem dX2_fullest_13 : mx_at cX2_fullest 13 (.aload_n 0) 1 14 := ⟨by decide +kernel, rfl⟩
theorem dX2_fullest_14 : mx_at cX2_fullest 14 (.iload_n 2) 1 15 := ⟨by decide +kernel, rfl⟩
theorem dX2_fullest_15 : mx_at cX2_fullest 15 (.invokevirtual 35) 3 18 := ⟨by decide +kernel, rfl⟩
theorem dX2_fullest_18 : mx_at cX2_fullest 18 (.getfield 55) 3 21 := ⟨by decide +kernel, rfl⟩
theorem dX2_fullest_21 : mx_br cX2_fullest 21 (.ifCond .eq 30) (30) 3 24 51 := ⟨by decide +kernel, rfl, by decide⟩
theorem dX2_fullest_24 : mx_at cX2_fullest 24 (.iload_n 1) 1 25 := ⟨by decide +kernel, rfl⟩
theorem dX2_fullest_25 : mx_at cX2_fullest 25 (.bipush (-9)) 2 27 := ⟨by decide +kernel, rfl⟩
theorem dX2_fullest_27 : mx_br cX2_fullest 27 (.if_icmp .eq 22) (22) 3 30 49 := ⟨by decide +kernel, rfl, by decide⟩
theorem dX2_fullest_30 : mx_at cX2_fullest 30 (.aload_n 0) 1 31 := ⟨by decide +kernel, rfl⟩
theorem dX2_fullest_31 : mx_at cX2_fullest 31 (.iload_n 2) 1 32 := ⟨by decide +kernel, rfl⟩
theorem dX2_fullest_32 : mx_at cX2_fullest 32 (.invokevirtual 35) 3 35 := ⟨by decide +kernel, rfl⟩
theorem dX2_fullest_35 : mx_at cX2_fullest 35 (.invokevirtual 101) 3 38 := ⟨by decide +kernel, rfl⟩
theorem dX2_fullest_38 : mx_at cX2_fullest 38 (.aload_n 0) 1 39 := ⟨by decide +kernel, rfl⟩
theorem dX2_fullest_39 : mx_at cX2_fullest 39 (.iload_n 1) 1 40 := ⟨by decide +kernel, rfl⟩
theorem dX2_fullest_40 : mx_at cX2_fullest 40 (.invokevirtual 35) 3 43 := ⟨by decide +kernel, rfl⟩
theorem dX2_fullest_43 : mx_at cX2_fullest 43 (.invokevirtual 101) 3 46 := ⟨by decide +kernel, rfl⟩
theorem dX2_fullest_46 : mx_br cX2_fullest 46 (.if_icmp .le 5) (5) 3 49 51 := ⟨by decide +kernel, rfl, by decide⟩
theorem dX2_fullest_49 : mx_at cX2_fullest 49 (.iload_n 2) 1 50 := ⟨by decide +kernel, rfl⟩
theorem dX2_fullest_50 : mx_at cX2_fullest 50 (.istore_n 1) 1 51 := ⟨by decide +kernel, rfl⟩
theorem dX2_fullest_51 : mx_at cX2_fullest 51 (.iinc 2 1) 3 54 := ⟨by decide +kernel, rfl⟩
theorem dX2_fullest_54 : mx_br cX2_fullest 54 (.goto (-49)) (-49) 3 57 5 := ⟨by decide +kernel, rfl, by decide⟩
theorem dX2_fullest_57 : mx_at cX2_fullest 57 (.iload_n 1) 1 58 := ⟨by decide +kernel, rfl⟩
theorem dX2_fullest_58 : mx_at cX2_fullest 58 (.ireturn) 1 59 := ⟨by decide +kernel, rfl⟩
theorem dX2_dustiest_0 : mx_at cX2_dustiest 0 (.bipush (-9)) 2 2 := ⟨by decide +kernel, rfl⟩
theorem dX2_dustiest_2 : mx_at cX2_dustiest 2 (.istore_n 1) 1 3 := ⟨by decide +kernel, rfl⟩
theorem dX2_dustiest_3 : mx_at cX2_dustiest 3 (.iconst 0) 1 4 := ⟨by decide +kernel, rfl⟩
theorem dX2_dustiest_4 : mx_at cX2_dustiest 4 (.istore_n 2) 1 5 := ⟨by decide +kernel, rfl⟩
theorem dX2_dustiest_5 : mx_at cX2_dustiest 5 (.iload_n 2) 1 6 := ⟨by decide +kernel, rfl⟩
theorem dX2_dustiest_6 : mx_at cX2_dustiest 6 (.aload_n 0) 1 7 := ⟨by decide +kernel, rfl⟩
theorem dX2_dustiest_7 : mx_at cX2_dustiest 7 (.getfield 22) 3 10 := ⟨by decide +kernel, rfl⟩
theorem dX2_dustiest_10 : mx_br cX2_dustiest 10 (.if_icmp .ge 47) (47) 3 13 57 := ⟨by decide +kernel, rfl, by decide⟩
theorem dX2_dustiest_13 : mx_at cX2_dustiest 13 (.aload_n 0) 1 14 := ⟨by decide +kernel, rfl⟩
theorem dX2_dustiest_14 : mx_at cX2_dustiest 14 (.iload_n 2) 1 15 := ⟨by decide +kernel, rfl⟩
theorem dX2_dustiest_15 : mx_at cX2_dustiest 15 (.invokevirtual 35) 3 18 := ⟨by decide +kernel, rfl⟩
theorem dX2_dustiest_18 : mx_at cX2_dustiest 18 (.getfield 55) 3 21 := ⟨by decide +kernel, rfl⟩
theorem dX2_dustiest_21 : mx_br cX2_dustiest 21 (.ifCond .eq 30) (30) 3 24 51 := ⟨by decide +kernel, rfl, by decide⟩
theorem dX2_dustiest_24 : mx_at cX2_dustiest 24 (.iload_n 1) 1 25 := ⟨by decide +kernel, rfl⟩
theorem dX2_dustiest_25 : mx_at cX2_dustiest 25 (.bipush (-9)) 2 27 := ⟨by decide +kernel, rfl⟩
theorem dX2_dustiest_27 : mx_br cX2_dustiest 27 (.if_icmp .eq 22) (22) 3 30 49 := ⟨by decide +kernel, rfl, by decide⟩
theorem dX2_dustiest_30 : mx_at cX2_dustiest 30 (.aload_n 0) 1 31 := ⟨by decide +kernel, rfl⟩
theorem dX2_dustiest_31 : mx_at cX2_dustiest 31 (.iload_n 2) 1 32 := ⟨by decide +kernel, rfl⟩
theorem dX2_dustiest_32 : mx_at cX2_dustiest 32 (.invokevirtual 35) 3 35 := ⟨by decide +kernel, rfl⟩
theorem dX2_dustiest_35 : mx_at cX2_dustiest 35 (.getfield 66) 3 38 := ⟨by decide +kernel, rfl⟩
theorem dX2_dustiest_38 : mx_at cX2_dustiest 38 (.aload_n 0) 1 39 := ⟨by decide +kernel, rfl⟩
theorem dX2_dustiest_39 : mx_at cX2_dustiest 39 (.iload_n 1) 1 40 := ⟨by decide +kernel, rfl⟩
theorem dX2_dustiest_40 : mx_at cX2_dustiest 40 (.invokevirtual 35) 3 43 := ⟨by decide +kernel, rfl⟩
theorem dX2_dustiest_43 : mx_at cX2_dustiest 43 (.getfield 66) 3 46 := ⟨by decide +kernel, rfl⟩
theorem dX2_dustiest_46 : mx_br cX2_dustiest 46 (.if_icmp .le 5) (5) 3 49 51 := ⟨by decide +kernel, rfl, by decide⟩
theorem dX2_dustiest_49 : mx_at cX2_dustiest 49 (.iload_n 2) 1 50 := ⟨by decide +kernel, rfl⟩
theorem dX2_dustiest_50 : mx_at cX2_dustiest 50 (.istore_n 1) 1 51 := ⟨by decide +kernel, rfl⟩
theorem dX2_dustiest_51 : mx_at cX2_dustiest 51 (.iinc 2 1) 3 54 := ⟨by decide +kernel, rfl⟩
theorem dX2_dustiest_54 : mx_br cX2_dustiest 54 (.goto (-49)) (-49) 3 57 5 := ⟨by decide +kernel, rfl, by decide⟩
theorem dX2_dustiest_57 : mx_at cX2_dustiest 57 (.iload_n 1) 1 58 := ⟨by decide +kernel, rfl⟩
theorem dX2_dustiest_58 : mx_at cX2_dustiest 58 (.ireturn) 1 59 := ⟨by decide +kernel, rfl⟩
theorem dX2_longestRunOfLost_0 : mx_at cX2_longestRunOfLost 0 (.iconst 0) 1 1 := ⟨by decide +kernel, rfl⟩
theorem dX2_longestRunOfLost_1 : mx_at cX2_longestRunOfLost 1 (.istore_n 1) 1 2 := ⟨by decide +kernel, rfl⟩
theorem dX2_longestRunOfLost_2 : mx_at cX2_longestRunOfLost 2 (.iconst 0) 1 3 := ⟨by decide +kernel, rfl⟩
theorem dX2_longestRunOfLost_3 : mx_at cX2_longestRunOfLost 3 (.istore_n 2) 1 4 := ⟨by decide +kernel, rfl⟩
theorem dX2_longestRunOfLost_4 : mx_at cX2_longestRunOfLost 4 (.iload_n 2) 1 5 := ⟨by decide +kernel, rfl⟩
theorem dX2_longestRunOfLost_5 : mx_at cX2_longestRunOfLost 5 (.aload_n 0) 1 6 := ⟨by decide +kernel, rfl⟩
theorem dX2_longestRunOfLost_6 : mx_at cX2_longestRunOfLost 6 (.getfield 22) 3 9 := ⟨by decide +kernel, rfl⟩
theorem dX2_longestRunOfLost_9 : mx_br cX2_longestRunOfLost 9 (.if_icmp .ge 49) (49) 3 12 58 := ⟨by decide +kernel, rfl, by decide⟩
theorem dX2_longestRunOfLost_12 : mx_at cX2_longestRunOfLost 12 (.iconst 0) 1 13 := ⟨by decide +kernel, rfl⟩
theorem dX2_longestRunOfLost_13 : mx_at cX2_longestRunOfLost 13 (.istore_n 3) 1 14 := ⟨by decide +kernel, rfl⟩
theorem dX2_longestRunOfLost_14 : mx_at cX2_longestRunOfLost 14 (.iload_n 3) 1 15 := ⟨by decide +kernel, rfl⟩
theorem dX2_longestRunOfLost_15 : mx_at cX2_longestRunOfLost 15 (.aload_n 0) 1 16 := ⟨by decide +kernel, rfl⟩
theorem dX2_longestRunOfLost_16 : mx_at cX2_longestRunOfLost 16 (.getfield 22) 3 19 := ⟨by decide +kernel, rfl⟩
theorem dX2_longestRunOfLost_19 : mx_br cX2_longestRunOfLost 19 (.if_icmp .ge 27) (27) 3 22 46 := ⟨by decide +kernel, rfl, by decide⟩
theorem dX2_longestRunOfLost_22 : mx_at cX2_longestRunOfLost 22 (.aload_n 0) 1 23 := ⟨by decide +kernel, rfl⟩
theorem dX2_longestRunOfLost_23 : mx_at cX2_longestRunOfLost 23 (.iload_n 2) 1 24 := ⟨by decide +kernel, rfl⟩
theorem dX2_longestRunOfLost_24 : mx_at cX2_longestRunOfLost 24 (.iload_n 3) 1 25 := ⟨by decide +kernel, rfl⟩
theorem dX2_longestRunOfLost_25 : mx_at cX2_longestRunOfLost 25 (.iadd) 1 26 := ⟨by decide +kernel, rfl⟩
theorem dX2_longestRunOfLost_26 : mx_at cX2_longestRunOfLost 26 (.aload_n 0) 1 27 := ⟨by decide +kernel, rfl⟩
theorem dX2_longestRunOfLost_27 : mx_at cX2_longestRunOfLost 27 (.getfield 22) 3 30 := ⟨by decide +kernel, rfl⟩
theorem dX2_longestRunOfLost_30 : mx_at cX2_longestRunOfLost 30 (.irem) 1 31 := ⟨by decide +kernel, rfl⟩
theorem dX2_longestRunOfLost_31 : mx_at cX2_longestRunOfLost 31 (.invokevirtual 35) 3 34 := ⟨by decide +kernel, rfl⟩
theorem dX2_longestRunOfLost_34 : mx_at cX2_longestRunOfLost 34 (.getfield 55) 3 37 := ⟨by decide +kernel, rfl⟩
theorem dX2_longestRunOfLost_37 : mx_br cX2_longestRunOfLost 37 (.ifCond .ne 9) (9) 3 40 46 := ⟨by decide +kernel, rfl, by decide⟩
theorem dX2_longestRunOfLost_40 : mx_at cX2_longestRunOfLost 40 (.iinc 3 1) 3 43 := ⟨by decide +kernel, rfl⟩
theorem dX2_longestRunOfLost_43 : mx_br cX2_longestRunOfLost 43 (.goto (-29)) (-29) 3 46 14 := ⟨by decide +kernel, rfl, by decide⟩
theorem dX2_longestRunOfLost_46 : mx_at cX2_longestRunOfLost 46 (.iload_n 1) 1 47 := ⟨by decide +kernel, rfl⟩
theorem dX2_longestRunOfLost_47 : mx_at cX2_longestRunOfLost 47 (.iload_n 3) 1 48 := ⟨by decide +kernel, rfl⟩
theorem dX2_longestRunOfLost_48 : mx_at cX2_longestRunOfLost 48 (.invokestatic 104) 3 51 := ⟨by decide +kernel, rfl⟩
theorem dX2_longestRunOfLost_51 : mx_at cX2_longestRunOfLost 51 (.istore_n 1) 1 52 := ⟨by decide +kernel, rfl⟩
theorem dX2_longestRunOfLost_52 : mx_at cX2_longestRunOfLost 52 (.iinc 2 1) 3 55 := ⟨by decide +kernel, rfl⟩
theorem dX2_longestRunOfLost_55 : mx_br cX2_longestRunOfLost 55 (.goto (-51)) (-51) 3 58 4 := ⟨by decide +kernel, rfl, by decide⟩
theorem dX2_longestRunOfLost_58 : mx_at cX2_longestRunOfLost 58 (.iload_n 1) 1 59 := ⟨by decide +kernel, rfl⟩
theorem dX2_longestRunOfLost_59 : mx_at cX2_longestRunOfLost 59 (.ireturn) 1 60 := ⟨by decide +kernel, rfl⟩
theorem dJ6_bitCount_0f7a4_0 : mx_at cJ6_bitCount_0f7a4 0 (.iload_n 0) 1 1 := ⟨by decide +kernel, rfl⟩
theorem dJ6_bitCount_0f7a4_1 : mx_at cJ6_bitCount_0f7a4 1 (.iload_n 0) 1 2 := ⟨by decide +kernel, rfl⟩
theorem dJ6_bitCount_0f7a4_2 : mx_at cJ6_bitCount_0f7a4 2 (.iconst 1) 1 3 := ⟨by decide +kernel, rfl⟩
theorem dJ6_bitCount_0f7a4_3 : mx_at cJ6_bitCount_0f7a4 3 (.iushr) 1 4 := ⟨by decide +kernel, rfl⟩
theorem dJ6_bitCount_0f7a4_4 : mx_at cJ6_bitCount_0f7a4 4 (.ldc_w 265) 3 7 := ⟨by decide +kernel, rfl⟩
theorem dJ6_bitCount_0f7a4_7 : mx_at cJ6_bitCount_0f7a4 7 (.iand) 1 8 := ⟨by decide +kernel, rfl⟩
theorem dJ6_bitCount_0f7a4_8 : mx_at cJ6_bitCount_0f7a4 8 (.isub) 1 9 := ⟨by decide +kernel, rfl⟩
theorem dJ6_bitCount_0f7a4_9 : mx_at cJ6_bitCount_0f7a4 9 (.istore_n 0) 1 10 := ⟨by decide +kernel, rfl⟩
theorem dJ6_bitCount_0f7a4_10 : mx_at cJ6_bitCount_0f7a4 10 (.iload_n 0) 1 11 := ⟨by decide +kernel, rfl⟩
theorem dJ6_bitCount_0f7a4_11 : mx_at cJ6_bitCount_0f7a4 11 (.ldc_w 266) 3 14 := ⟨by decide +kernel, rfl⟩
theorem dJ6_bitCount_0f7a4_14 : mx_at cJ6_bitCount_0f7a4 14 (.iand) 1 15 := ⟨by decide +kernel, rfl⟩
theorem dJ6_bitCount_0f7a4_15 : mx_at cJ6_bitCount_0f7a4 15 (.iload_n 0) 1 16 := ⟨by decide +kernel, rfl⟩
theorem dJ6_bitCount_0f7a4_16 : mx_at cJ6_bitCount_0f7a4 16 (.iconst 2) 1 17 := ⟨by decide +kernel, rfl⟩
theorem dJ6_bitCount_0f7a4_17 : mx_at cJ6_bitCount_0f7a4 17 (.iushr) 1 18 := ⟨by decide +kernel, rfl⟩
theorem dJ6_bitCount_0f7a4_18 : mx_at cJ6_bitCount_0f7a4 18 (.ldc_w 266) 3 21 := ⟨by decide +kernel, rfl⟩
theorem dJ6_bitCount_0f7a4_21 : mx_at cJ6_bitCount_0f7a4 21 (.iand) 1 22 := ⟨by decide +kernel, rfl⟩
theorem dJ6_bitCount_0f7a4_22 : mx_at cJ6_bitCount_0f7a4 22 (.iadd) 1 23 := ⟨by decide +kernel, rfl⟩
theorem dJ6_bitCount_0f7a4_23 : mx_at cJ6_bitCount_0f7a4 23 (.istore_n 0) 1 24 := ⟨by decide +kernel, rfl⟩
theorem dJ6_bitCount_0f7a4_24 : mx_at cJ6_bitCount_0f7a4 24 (.iload_n 0) 1 25 := ⟨by decide +kernel, rfl⟩
theorem dJ6_bitCount_0f7a4_25 : mx_at cJ6_bitCount_0f7a4 25 (.iload_n 0) 1 26 := ⟨by decide +kernel, rfl⟩
theorem dJ6_bitCount_0f7a4_26 : mx_at cJ6_bitCount_0f7a4 26 (.iconst 4) 1 27 := ⟨by decide +kernel, rfl⟩
theorem dJ6_bitCount_0f7a4_27 : mx_at cJ6_bitCount_0f7a4 27 (.iushr) 1 28 := ⟨by decide +kernel, rfl⟩
theorem dJ6_bitCount_0f7a4_28 : mx_at cJ6_bitCount_0f7a4 28 (.iadd) 1 29 := ⟨by decide +kernel, rfl⟩
theorem dJ6_bitCount_0f7a4_29 : mx_at cJ6_bitCount_0f7a4 29 (.ldc_w 267) 3 32 := ⟨by decide +kernel, rfl⟩
theorem dJ6_bitCount_0f7a4_32 : mx_at cJ6_bitCount_0f7a4 32 (.iand) 1 33 := ⟨by decide +kernel, rfl⟩
theorem dJ6_bitCount_0f7a4_33 : mx_at cJ6_bitCount_0f7a4 33 (.istore_n 0) 1 34 := ⟨by decide +kernel, rfl⟩
theorem dJ6_bitCount_0f7a4_34 : mx_at cJ6_bitCount_0f7a4 34 (.iload_n 0) 1 35 := ⟨by decide +kernel, rfl⟩
theorem dJ6_bitCount_0f7a4_35 : mx_at cJ6_bitCount_0f7a4 35 (.iload_n 0) 1 36 := ⟨by decide +kernel, rfl⟩
theorem dJ6_bitCount_0f7a4_36 : mx_at cJ6_bitCount_0f7a4 36 (.bipush 8) 2 38 := ⟨by decide +kernel, rfl⟩
theorem dJ6_bitCount_0f7a4_38 : mx_at cJ6_bitCount_0f7a4 38 (.iushr) 1 39 := ⟨by decide +kernel, rfl⟩
theorem dJ6_bitCount_0f7a4_39 : mx_at cJ6_bitCount_0f7a4 39 (.iadd) 1 40 := ⟨by decide +kernel, rfl⟩
theorem dJ6_bitCount_0f7a4_40 : mx_at cJ6_bitCount_0f7a4 40 (.istore_n 0) 1 41 := ⟨by decide +kernel, rfl⟩
theorem dJ6_bitCount_0f7a4_41 : mx_at cJ6_bitCount_0f7a4 41 (.iload_n 0) 1 42 := ⟨by decide +kernel, rfl⟩
theorem dJ6_bitCount_0f7a4_42 : mx_at cJ6_bitCount_0f7a4 42 (.iload_n 0) 1 43 := ⟨by decide +kernel, rfl⟩
theorem dJ6_bitCount_0f7a4_43 : mx_at cJ6_bitCount_0f7a4 43 (.bipush 16) 2 45 := ⟨by decide +kernel, rfl⟩
theorem dJ6_bitCount_0f7a4_45 : mx_at cJ6_bitCount_0f7a4 45 (.iushr) 1 46 := ⟨by decide +kernel, rfl⟩
theorem dJ6_bitCount_0f7a4_46 : mx_at cJ6_bitCount_0f7a4 46 (.iadd) 1 47 := ⟨by decide +kernel, rfl⟩
theorem dJ6_bitCount_0f7a4_47 : mx_at cJ6_bitCount_0f7a4 47 (.istore_n 0) 1 48 := ⟨by decide +kernel, rfl⟩
theorem dJ6_bitCount_0f7a4_48 : mx_at cJ6_bitCount_0f7a4 48 (.iload_n 0) 1 49 := ⟨by decide +kernel, rfl⟩
theorem dJ6_bitCount_0f7a4_49 : mx_at cJ6_bitCount_0f7a4 49 (.bipush 63) 2 51 := ⟨by decide +kernel, rfl⟩
theorem dJ6_bitCount_0f7a4_51 : mx_at cJ6_bitCount_0f7a4 51 (.iand) 1 52 := ⟨by decide +kernel, rfl⟩
theorem dJ6_bitCount_0f7a4_52 : mx_at cJ6_bitCount_0f7a4 52 (.ireturn) 1 53 := ⟨by decide +kernel, rfl⟩
end
section
theorem dX3_init_0 : mx_at cX3_init 0 (.aload_n 0) 1 1 := ⟨by decide +kernel, rfl⟩
theorem dX3_init_1 : mx_at cX3_init 1 (.invokespecial 1) 3 4 := ⟨by decide +kernel, rfl⟩
theorem dX3_init_4 : mx_at cX3_init 4 (.aload_n 0) 1 5 := ⟨by decide +kernel, rfl⟩
theorem dX3_init_5 : mx_at cX3_init 5 (.new 7) 3 8 := ⟨by decide +kernel, rfl⟩
theorem dX3_init_8 : mx_at cX3_init 8 (.dup) 1 9 := ⟨by decide +kernel, rfl⟩
theorem dX3_init_9 : mx_at cX3_init 9 (.invokespecial 9) 3 12 := ⟨by decide +kernel, rfl⟩
theorem dX3_init_12 : mx_at cX3_init 12 (.putfield 10) 3 15 := ⟨by decide +kernel, rfl⟩
theorem dX3_init_15 : mx_at cX3_init 15 (.aload_n 0) 1 16 := ⟨by decide +kernel, rfl⟩
theorem dX3_init_16 : mx_at cX3_init 16 (.new 7) 3 19 := ⟨by decide +kernel, rfl⟩
theorem dX3_init_19 : mx_at cX3_init 19 (.dup) 1 20 := ⟨by decide +kernel, rfl⟩
theorem dX3_init_20 : mx_at cX3_init 20 (.invokespecial 9) 3 23 := ⟨by decide +kernel, rfl⟩
theorem dX3_init_23 : mx_at cX3_init 23 (.putfield 16) 3 26 := ⟨by decide +kernel, rfl⟩
theorem dX3_init_26 : mx_at cX3_init 26 (.aload_n 0) 1 27 := ⟨by decide +kernel, rfl⟩
theorem dX3_init_27 : mx_at cX3_init 27 (.new 7) 3 30 := ⟨by decide +kernel, rfl⟩
theorem dX3_init_30 : mx_at cX3_init 30 (.dup) 1 31 := ⟨by decide +kernel, rfl⟩
theorem dX3_init_31 : mx_at cX3_init 31 (.invokespecial 9) 3 34 := ⟨by decide +kernel, rfl⟩
theorem dX3_init_34 : mx_at cX3_init 34 (.putfield 19) 3 37 := ⟨by decide +kernel, rfl⟩
theorem dX3_init_37 : mx_at cX3_init 37 (.aload_n 0) 1 38 := ⟨by decide +kernel, rfl⟩
theorem dX3_init_38 : mx_at cX3_init 38 (.iconst 0) 1 39 := ⟨by decide +kernel, rfl⟩
theorem dX3_init_39 : mx_at cX3_init 39 (.putfield 22) 3 42 := ⟨by decide +kernel, rfl⟩
theorem dX3_init_42 : mx_at cX3_init 42 (.aload_n 0) 1 43 := ⟨by decide +kernel, rfl⟩
theorem dX3_init_43 : mx_at cX3_init 43 (.new 26) 3 46 := ⟨by decide +kernel, rfl⟩
theorem dX3_init_46 : mx_at cX3_init 46 (.dup) 1 47 := ⟨by decide +kernel, rfl⟩
theorem dX3_init_47 : mx_at cX3_init 47 (.bipush 96) 2 49 := ⟨by decide +kernel, rfl⟩
theorem dX3_init_49 : mx_at cX3_init 49 (.invokespecial 28) 3 52 := ⟨by decide +kernel, rfl⟩
theorem dX3_init_52 : mx_at cX3_init 52 (.putfield 31) 3 55 := ⟨by decide +kernel, rfl⟩
theorem dX3_init_55 : mx_at cX3_init 55 (.aload_n 0) 1 56 := ⟨by decide +kernel, rfl⟩
theorem dX3_init_56 : mx_at cX3_init 56 (.new 26) 3 59 := ⟨by decide +kernel, rfl⟩
theorem dX3_init_59 : mx_at cX3_init 59 (.dup) 1 60 := ⟨by decide +kernel, rfl⟩
theorem dX3_init_60 : mx_at cX3_init 60 (.bipush 16) 2 62 := ⟨by decide +kernel, rfl⟩
theorem dX3_init_62 : mx_at cX3_init 62 (.invokespecial 28) 3 65 := ⟨by decide +kernel, rfl⟩
theorem dX3_init_65 : mx_at cX3_init 65 (.putfield 35) 3 68 := ⟨by decide +kernel, rfl⟩
theorem dX3_init_68 : mx_at cX3_init 68 (.aload_n 0) 1 69 := ⟨by decide +kernel, rfl⟩
theorem dX3_init_69 : mx_at cX3_init 69 (.new 26) 3 72 := ⟨by decide +kernel, rfl⟩
theorem dX3_init_72 : mx_at cX3_init 72 (.dup) 1 73 := ⟨by decide +kernel, rfl⟩
theorem dX3_init_73 : mx_at cX3_init 73 (.bipush 81) 2 75 := ⟨by decide +kernel, rfl⟩
theorem dX3_init_75 : mx_at cX3_init 75 (.invokespecial 28) 3 78 := ⟨by decide +kernel, rfl⟩
theorem dX3_init_78 : mx_at cX3_init 78 (.putfield 38) 3 81 := ⟨by decide +kernel, rfl⟩
theorem dX3_init_81 : mx_at cX3_init 81 (.aload_n 0) 1 82 := ⟨by decide +kernel, rfl⟩
theorem dX3_init_82 : mx_at cX3_init 82 (.bipush 7) 2 84 := ⟨by decide +kernel, rfl⟩
theorem dX3_init_84 : mx_at cX3_init 84 (.newarray .int) 2 86 := ⟨by decide +kernel, rfl⟩
theorem dX3_init_86 : mx_at cX3_init 86 (.putfield 41) 3 89 := ⟨by decide +kernel, rfl⟩
theorem dX3_init_89 : mx_at cX3_init 89 (.aload_n 0) 1 90 := ⟨by decide +kernel, rfl⟩
theorem dX3_init_90 : mx_at cX3_init 90 (.getfield 10) 3 93 := ⟨by decide +kernel, rfl⟩
theorem dX3_init_93 : mx_at cX3_init 93 (.bipush 50) 2 95 := ⟨by decide +kernel, rfl⟩
theorem dX3_init_95 : mx_at cX3_init 95 (.putfield 45) 3 98 := ⟨by decide +kernel, rfl⟩
theorem dX3_init_98 : mx_at cX3_init 98 (.return_) 1 99 := ⟨by decide +kernel, rfl⟩
theorem dX3_letter_0 : mx_at cX3_letter 0 (.iload_n 1) 1 1 := ⟨by decide +kernel, rfl⟩
theorem dX3_letter_1 : mx_br cX3_letter 1 (.ifCond .ge 10) (10) 3 4 11 := ⟨by decide +kernel, rfl, by decide⟩
theorem dX3_letter_4 : mx_at cX3_letter 4 (.aload_n 0) 1 5 := ⟨by decide +kernel, rfl⟩
theorem dX3_letter_5 : mx_at cX3_letter 5 (.bipush (-4)) 2 7 := ⟨by decide +kernel, rfl⟩
theorem dX3_letter_7 : mx_at cX3_letter 7 (.invokevirtual 49) 3 10 := ⟨by decide +kernel, rfl⟩
theorem dX3_letter_10 : mx_at cX3_letter 10 (.ireturn) 1 11 := ⟨by decide +kernel, rfl⟩
theorem dX3_letter_11 : mx_at cX3_letter 11 (.iload_n 1) 1 12 := ⟨by decide +kernel, rfl⟩
theorem dX3_letter_12 : mx_at cX3_letter 12 (.sipush 255) 3 15 := ⟨by decide +kernel, rfl⟩
theorem dX3_letter_15 : mx_br cX3_letter 15 (.if_icmp .gt 13) (13) 3 18 28 := ⟨by decide +kernel, rfl, by decide⟩
theorem dX3_letter_18 : mx_at cX3_letter 18 (.aload_n 0) 1 19 := ⟨by decide +kernel, rfl⟩
theorem dX3_letter_19 : mx_at cX3_letter 19 (.getfield 31) 3 22 := ⟨by decide +kernel, rfl⟩
theorem dX3_letter_22 : mx_at cX3_letter 22 (.invokevirtual 53) 3 25 := ⟨by decide +kernel, rfl⟩
theorem dX3_letter_25 : mx_br cX3_letter 25 (.ifCond .eq 10) (10) 3 28 35 := ⟨by decide +kernel, rfl, by decide⟩
theorem dX3_letter_28 : mx_at cX3_letter 28 (.aload_n 0) 1 29 := ⟨by decide +kernel, rfl⟩
theorem dX3_letter_29 : mx_at cX3_letter 29 (.bipush (-6)) 2 31 := ⟨by decide +kernel, rfl⟩
theorem dX3_letter_31 : mx_at cX3_letter 31 (.invokevirtual 49) 3 34 := ⟨by decide +kernel, rfl⟩
theorem dX3_letter_34 : mx_at cX3_letter 34 (.ireturn) 1 35 := ⟨by decide +kernel, rfl⟩
theorem dX3_letter_35 : mx_at cX3_letter 35 (.aload_n 0) 1 36 := ⟨by decide +kernel, rfl⟩
theorem dX3_letter_36 : mx_at cX3_letter 36 (.getfield 31) 3 39 := ⟨by decide +kernel, rfl⟩
theorem dX3_letter_39 : mx_at cX3_letter 39 (.iload_n 1) 1 40 := ⟨by decide +kernel, rfl⟩
theorem dX3_letter_40 : mx_at cX3_letter 40 (.invokevirtual 57) 3 43 := ⟨by decide +kernel, rfl⟩
theorem dX3_letter_43 : mx_at cX3_letter 43 (.aload_n 0) 1 44 := ⟨by decide +kernel, rfl⟩
theorem dX3_letter_44 : mx_at cX3_letter 44 (.getfield 31) 3 47 := ⟨by decide +kernel, rfl⟩
theorem dX3_letter_47 : mx_at cX3_letter 47 (.getfield 60) 3 50 := ⟨by decide +kernel, rfl⟩
theorem dX3_letter_50 : mx_at cX3_letter 50 (.ireturn) 1 51 := ⟨by decide +kernel, rfl⟩
theorem dX3_town_0 : mx_at cX3_town 0 (.aload_n 0) 1 1 := ⟨by decide +kernel, rfl⟩
theorem dX3_town_1 : mx_at cX3_town 1 (.invokevirtual 63) 3 4 := ⟨by decide +kernel, rfl⟩
theorem dX3_town_4 : mx_at cX3_town 4 (.istore_n 1) 1 5 := ⟨by decide +kernel, rfl⟩
theorem dX3_town_5 : mx_at cX3_town 5 (.iload_n 1) 1 6 := ⟨by decide +kernel, rfl⟩
theorem dX3_town_6 : mx_at cX3_town 6 (.bipush (-9)) 2 8 := ⟨by decide +kernel, rfl⟩
theorem dX3_town_8 : mx_br cX3_town 8 (.if_icmp .ne 10) (10) 3 11 18 := ⟨by decide +kernel, rfl, by decide⟩
theorem dX3_town_11 : mx_at cX3_town 11 (.aload_n 0) 1 12 := ⟨by decide +kernel, rfl⟩
theorem dX3_town_12 : mx_at cX3_town 12 (.invokevirtual 67) 3 15 := ⟨by decide +kernel, rfl⟩
theorem dX3_town_15 : mx_br cX3_town 15 (.goto 8) (8) 3 18 23 := ⟨by decide +kernel, rfl, by decide⟩
theorem dX3_town_18 : mx_at cX3_town 18 (.sipush (-1000)) 3 21 := ⟨by decide +kernel, rfl⟩
theorem dX3_town_21 : mx_at cX3_town 21 (.iload_n 1) 1 22 := ⟨by decide +kernel, rfl⟩
theorem dX3_town_22 : mx_at cX3_town 22 (.isub) 1 23 := ⟨by decide +kernel, rfl⟩
theorem dX3_town_23 : mx_at cX3_town 23 (.istore_n 2) 1 24 := ⟨by decide +kernel, rfl⟩
theorem dX3_town_24 : mx_at cX3_town 24 (.aload_n 0) 1 25 := ⟨by decide +kernel, rfl⟩
theorem dX3_town_25 : mx_at cX3_town 25 (.getfield 31) 3 28 := ⟨by decide +kernel, rfl⟩
theorem dX3_town_28 : mx_at cX3_town 28 (.invokevirtual 70) 3 31 := ⟨by decide +kernel, rfl⟩
theorem dX3_town_31 : mx_at cX3_town 31 (.iload_n 2) 1 32 := ⟨by decide +kernel, rfl⟩
theorem dX3_town_32 : mx_at cX3_town 32 (.ireturn) 1 33 := ⟨by decide +kernel, rfl⟩
theorem dX3_readStatements_0 : mx_at cX3_readStatements 0 (.aload_n 0) 1 1 := ⟨by decide +kernel, rfl⟩
theorem dX3_readStatements_1 : mx_at cX3_readStatements 1 (.getfield 16) 3 4 := ⟨by decide +kernel, rfl⟩
theorem dX3_readStatements_4 : mx_at cX3_readStatements 4 (.aload_n 0) 1 5 := ⟨by decide +kernel, rfl⟩
theorem dX3_readStatements_5 : mx_at cX3_readStatements 5 (.getfield 10) 3 8 := ⟨by decide +kernel, rfl⟩
theorem dX3_readStatements_8 : mx_at cX3_readStatements 8 (.invokevirtual 73) 3 11 := ⟨by decide +kernel, rfl⟩
theorem dX3_readStatements_11 : mx_at cX3_readStatements 11 (.iconst 0) 1 12 := ⟨by decide +kernel, rfl⟩
theorem dX3_readStatements_12 : mx_at cX3_readStatements 12 (.istore_n 1) 1 13 := ⟨by decide +kernel, rfl⟩
theorem dX3_readStatements_13 : mx_at cX3_readStatements 13 (.iconst 0) 1 14 := ⟨by decide +kernel, rfl⟩
theorem dX3_readStatements_14 : mx_at cX3_readStatements 14 (.istore_n 2) 1 15 := ⟨by decide +kernel, rfl⟩
theorem dX3_readStatements_15 : mx_at cX3_readStatements 15 (.iload_n 2) 1 16 := ⟨by decide +kernel, rfl⟩
theorem dX3_readStatements_16 : mx_at cX3_readStatements 16 (.aload_n 0) 1 17 := ⟨by decide +kernel, rfl⟩
theorem dX3_readStatements_17 : mx_at cX3_readStatements 17 (.getfield 31) 3 20 := ⟨by decide +kernel, rfl⟩
theorem dX3_readStatements_20 : mx_at cX3_readStatements 20 (.getfield 60) 3 23 := ⟨by decide +kernel, rfl⟩
theorem dX3_readStatements_23 : mx_br cX3_readStatements 23 (.if_icmp .ge 45) (45) 3 26 68 := ⟨by decide +kernel, rfl, by decide⟩
theorem dX3_readStatements_26 : mx_at cX3_readStatements 26 (.iload_n 2) 1 27 := ⟨by decide +kernel, rfl⟩
theorem dX3_readStatements_27 : mx_br cX3_readStatements 27 (.ifCond .eq 18) (18) 3 30 45 := ⟨by decide +kernel, rfl, by decide⟩
theorem dX3_readStatements_30 : mx_at cX3_readStatements 30 (.aload_n 0) 1 31 := ⟨by decide +kernel, rfl⟩
theorem dX3_readStatements_31 : mx_at cX3_readStatements 31 (.getfield 31) 3 34 := ⟨by decide +kernel, rfl⟩
theorem dX3_readStatements_34 : mx_at cX3_readStatements 34 (.iload_n 2) 1 35 := ⟨by decide +kernel, rfl⟩
theorem dX3_readStatements_35 : mx_at cX3_readStatements 35 (.iconst 1) 1 36 := ⟨by decide +kernel, rfl⟩
theorem dX3_readStatements_36 : mx_at cX3_readStatements 36 (.isub) 1 37 := ⟨by decide +kernel, rfl⟩
theorem dX3_readStatements_37 : mx_at cX3_readStatements 37 (.invokevirtual 77) 3 40 := ⟨by decide +kernel, rfl⟩
theorem dX3_readStatements_40 : mx_at cX3_readStatements 40 (.bipush 59) 2 42 := ⟨by decide +kernel, rfl⟩
theorem dX3_readStatements_42 : mx_br cX3_readStatements 42 (.if_icmp .ne 20) (20) 3 45 62 := ⟨by decide +kernel, rfl, by decide⟩
theorem dX3_readStatements_45 : mx_at cX3_readStatements 45 (.aload_n 0) 1 46 := ⟨by decide +kernel, rfl⟩
theorem dX3_readStatements_46 : mx_at cX3_readStatements 46 (.iload_n 2) 1 47 := ⟨by decide +kernel, rfl⟩
theorem dX3_readStatements_47 : mx_at cX3_readStatements 47 (.invokevirtual 80) 3 50 := ⟨by decide +kernel, rfl⟩
theorem dX3_readStatements_50 : mx_br cX3_readStatements 50 (.ifCond .ne 9) (9) 3 53 59 := ⟨by decide +kernel, rfl, by decide⟩
theorem dX3_readStatements_53 : mx_at cX3_readStatements 53 (.sipush (-2000)) 3 56 := ⟨by decide +kernel, rfl⟩
theorem dX3_readStatements_56 : mx_at cX3_readStatements 56 (.iload_n 2) 1 57 := ⟨by decide +kernel, rfl⟩
theorem dX3_readStatements_57 : mx_at cX3_readStatements 57 (.isub) 1 58 := ⟨by decide +kernel, rfl⟩
theorem dX3_readStatements_58 : mx_at cX3_readStatements 58 (.ireturn) 1 59 := ⟨by decide +kernel, rfl⟩
theorem dX3_readStatements_59 : mx_at cX3_readStatements 59 (.iinc 1 1) 3 62 := ⟨by decide +kernel, rfl⟩
theorem dX3_readStatements_62 : mx_at cX3_readStatements 62 (.iinc 2 1) 3 65 := ⟨by decide +kernel, rfl⟩
theorem dX3_readStatements_65 : mx_br cX3_readStatements 65 (.goto (-50)) (-50) 3 68 15 := ⟨by decide +kernel, rfl, by decide⟩
theorem dX3_readStatements_68 : mx_at cX3_readStatements 68 (.aload_n 0) 1 69 := ⟨by decide +kernel, rfl⟩
theorem dX3_readStatements_69 : mx_at cX3_readStatements 69 (.getfield 10) 3 72 := ⟨by decide +kernel, rfl⟩
theorem dX3_readStatements_72 : mx_at cX3_readStatements 72 (.aload_n 0) 1 73 := ⟨by decide +kernel, rfl⟩
theorem dX3_readStatements_73 : mx_at cX3_readStatements 73 (.getfield 16) 3 76 := ⟨by decide +kernel, rfl⟩
theorem dX3_readStatements_76 : mx_at cX3_readStatements 76 (.invokevirtual 73) 3 79 := ⟨by decide +kernel, rfl⟩
theorem dX3_readStatements_79 : mx_at cX3_readStatements 79 (.iload_n 1) 1 80 := ⟨by decide +kernel, rfl⟩
theorem dX3_readStatements_80 : mx_at cX3_readStatements 80 (.ireturn) 1 81 := ⟨by decide +kernel, rfl⟩
theorem dX3_brokenPlace_0 : mx_at cX3_brokenPlace 0 (.iconst (-1)) 1 1 := ⟨by decide +kernel, rfl⟩
theorem dX3_brokenPlace_1 : mx_at cX3_brokenPlace 1 (.istore_n 1) 1 2 := ⟨by decide +kernel, rfl⟩
theorem dX3_brokenPlace_2 : mx_at cX3_brokenPlace 2 (.iconst 0) 1 3 := ⟨by decide +kernel, rfl⟩
theorem dX3_brokenPlace_3 : mx_at cX3_brokenPlace 3 (.istore_n 2) 1 4 := ⟨by decide +kernel, rfl⟩
theorem dX3_brokenPlace_4 : mx_at cX3_brokenPlace 4 (.iload_n 2) 1 5 := ⟨by decide +kernel, rfl⟩
theorem dX3_brokenPlace_5 : mx_at cX3_brokenPlace 5 (.aload_n 0) 1 6 := ⟨by decide +kernel, rfl⟩
theorem dX3_brokenPlace_6 : mx_at cX3_brokenPlace 6 (.getfield 31) 3 9 := ⟨by decide +kernel, rfl⟩
theorem dX3_brokenPlace_9 : mx_at cX3_brokenPlace 9 (.getfield 60) 3 12 := ⟨by decide +kernel, rfl⟩
theorem dX3_brokenPlace_12 : mx_br cX3_brokenPlace 12 (.if_icmp .ge 30) (30) 3 15 42 := ⟨by decide +kernel, rfl, by decide⟩
theorem dX3_brokenPlace_15 : mx_at cX3_brokenPlace 15 (.iload_n 1) 1 16 := ⟨by decide +kernel, rfl⟩
theorem dX3_brokenPlace_16 : mx_at cX3_brokenPlace 16 (.aload_n 0) 1 17 := ⟨by decide +kernel, rfl⟩
theorem dX3_brokenPlace_17 : mx_at cX3_brokenPlace 17 (.getfield 31) 3 20 := ⟨by decide +kernel, rfl⟩
theorem dX3_brokenPlace_20 : mx_at cX3_brokenPlace 20 (.iload_n 2) 1 21 := ⟨by decide +kernel, rfl⟩
theorem dX3_brokenPlace_21 : mx_at cX3_brokenPlace 21 (.invokevirtual 77) 3 24 := ⟨by decide +kernel, rfl⟩
theorem dX3_brokenPlace_24 : mx_at cX3_brokenPlace 24 (.invokestatic 84) 3 27 := ⟨by decide +kernel, rfl⟩
theorem dX3_brokenPlace_27 : mx_at cX3_brokenPlace 27 (.istore_n 1) 1 28 := ⟨by decide +kernel, rfl⟩
theorem dX3_brokenPlace_28 : mx_at cX3_brokenPlace 28 (.iload_n 1) 1 29 := ⟨by decide +kernel, rfl⟩
theorem dX3_brokenPlace_29 : mx_at cX3_brokenPlace 29 (.bipush (-3)) 2 31 := ⟨by decide +kernel, rfl⟩
theorem dX3_brokenPlace_31 : mx_br cX3_brokenPlace 31 (.if_icmp .ne 5) (5) 3 34 36 := ⟨by decide +kernel, rfl, by decide⟩
theorem dX3_brokenPlace_34 : mx_at cX3_brokenPlace 34 (.iload_n 2) 1 35 := ⟨by decide +kernel, rfl⟩
theorem dX3_brokenPlace_35 : mx_at cX3_brokenPlace 35 (.ireturn) 1 36 := ⟨by decide +kernel, rfl⟩
theorem dX3_brokenPlace_36 : mx_at cX3_brokenPlace 36 (.iinc 2 1) 3 39 := ⟨by decide +kernel, rfl⟩
theorem dX3_brokenPlace_39 : mx_br cX3_brokenPlace 39 (.goto (-35)) (-35) 3 42 4 := ⟨by decide +kernel, rfl, by decide⟩
theorem dX3_brokenPlace_42 : mx_at cX3_brokenPlace 42 (.iload_n 1) 1 43 := ⟨by decide +kernel, rfl⟩
theorem dX3_brokenPlace_43 : mx_at cX3_brokenPlace 43 (.iconst (-1)) 1 44 := ⟨by decide +kernel, rfl⟩
theorem dX3_brokenPlace_44 : mx_br cX3_brokenPlace 44 (.if_icmp .ne 17) (17) 3 47 61 := ⟨by decide +kernel, rfl, by decide⟩
theorem dX3_brokenPlace_47 : mx_at cX3_brokenPlace 47 (.aload_n 0) 1 48 := ⟨by decide +kernel, rfl⟩
theorem dX3_brokenPlace_48 : mx_at cX3_brokenPlace 48 (.getfield 31) 3 51 := ⟨by decide +kernel, rfl⟩
theorem dX3_brokenPlace_51 : mx_at cX3_brokenPlace 51 (.getfield 60) 3 54 := ⟨by decide +kernel, rfl⟩
theorem dX3_brokenPlace_54 : mx_br cX3_brokenPlace 54 (.ifCond .le 7) (7) 3 57 61 := ⟨by decide +kernel, rfl, by decide⟩
theorem dX3_brokenPlace_57 : mx_at cX3_brokenPlace 57 (.iconst 1) 1 58 := ⟨by decide +kernel, rfl⟩
theorem dX3_brokenPlace_58 : mx_br cX3_brokenPlace 58 (.goto 4) (4) 3 61 62 := ⟨by decide +kernel, rfl, by decide⟩
theorem dX3_brokenPlace_61 : mx_at cX3_brokenPlace 61 (.iconst 0) 1 62 := ⟨by decide +kernel, rfl⟩
theorem dX3_brokenPlace_62 : mx_at cX3_brokenPlace 62 (.istore_n 2) 1 63 := ⟨by decide +kernel, rfl⟩
theorem dX3_brokenPlace_63 : mx_at cX3_brokenPlace 63 (.iload_n 2) 1 64 := ⟨by decide +kernel, rfl⟩
theorem dX3_brokenPlace_64 : mx_br cX3_brokenPlace 64 (.ifCond .eq 8) (8) 3 67 72 := ⟨by decide +kernel, rfl, by decide⟩
theorem dX3_brokenPlace_67 : mx_at cX3_brokenPlace 67 (.bipush (-9)) 2 69 := ⟨by decide +kernel, rfl⟩
theorem dX3_brokenPlace_69 : mx_br cX3_brokenPlace 69 (.goto 10) (10) 3 72 79 := ⟨by decide +kernel, rfl, by decide⟩
theorem dX3_brokenPlace_72 : mx_at cX3_brokenPlace 72 (.aload_n 0) 1 73 := ⟨by decide +kernel, rfl⟩
theorem dX3_brokenPlace_73 : mx_at cX3_brokenPlace 73 (.getfield 31) 3 76 := ⟨by decide +kernel, rfl⟩
theorem dX3_brokenPlace_76 : mx_at cX3_brokenPlace 76 (.getfield 60) 3 79 := ⟨by decide +kernel, rfl⟩
theorem dX3_brokenPlace_79 : mx_at cX3_brokenPlace 79 (.ireturn) 1 80 := ⟨by decide +kernel, rfl⟩
theorem dX3_waitsBehind_0 : mx_at cX3_waitsBehind 0 (.iload_n 0) 1 1 := ⟨by decide +kernel, rfl⟩
theorem dX3_waitsBehind_1 : mx_at cX3_waitsBehind 1 (.iconst (-1)) 1 2 := ⟨by decide +kernel, rfl⟩
theorem dX3_waitsBehind_2 : mx_br cX3_waitsBehind 2 (.if_icmp .ne 8) (8) 3 5 10 := ⟨by decide +kernel, rfl, by decide⟩
theorem dX3_waitsBehind_5 : mx_at cX3_waitsBehind 5 (.iload_n 1) 1 6 := ⟨by decide +kernel, rfl⟩
theorem dX3_waitsBehind_6 : mx_at cX3_waitsBehind 6 (.invokestatic 88) 3 9 := ⟨by decide +kernel, rfl⟩
theorem dX3_waitsBehind_9 : mx_at cX3_waitsBehind 9 (.ireturn) 1 10 := ⟨by decide +kernel, rfl⟩
theorem dX3_waitsBehind_10 : mx_at cX3_waitsBehind 10 (.iload_n 0) 1 11 := ⟨by decide +kernel, rfl⟩
theorem dX3_waitsBehind_11 : mx_at cX3_waitsBehind 11 (.bipush (-2)) 2 13 := ⟨by decide +kernel, rfl⟩
theorem dX3_waitsBehind_13 : mx_br cX3_waitsBehind 13 (.if_icmp .ne 19) (19) 3 16 32 := ⟨by decide +kernel, rfl, by decide⟩
theorem dX3_waitsBehind_16 : mx_at cX3_waitsBehind 16 (.iload_n 1) 1 17 := ⟨by decide +kernel, rfl⟩
theorem dX3_waitsBehind_17 : mx_at cX3_waitsBehind 17 (.invokestatic 91) 3 20 := ⟨by decide +kernel, rfl⟩
theorem dX3_waitsBehind_20 : mx_at cX3_waitsBehind 20 (.bipush (-9)) 2 22 := ⟨by decide +kernel, rfl⟩
theorem dX3_waitsBehind_22 : mx_br cX3_waitsBehind 22 (.if_icmp .ne 8) (8) 3 25 30 := ⟨by decide +kernel, rfl, by decide⟩
theorem dX3_waitsBehind_25 : mx_at cX3_waitsBehind 25 (.bipush (-3)) 2 27 := ⟨by decide +kernel, rfl⟩
theorem dX3_waitsBehind_27 : mx_br cX3_waitsBehind 27 (.goto 4) (4) 3 30 31 := ⟨by decide +kernel, rfl, by decide⟩
theorem dX3_waitsBehind_30 : mx_at cX3_waitsBehind 30 (.iconst 4) 1 31 := ⟨by decide +kernel, rfl⟩
theorem dX3_waitsBehind_31 : mx_at cX3_waitsBehind 31 (.ireturn) 1 32 := ⟨by decide +kernel, rfl⟩
theorem dX3_waitsBehind_32 : mx_at cX3_waitsBehind 32 (.iload_n 0) 1 33 := ⟨by decide +kernel, rfl⟩
theorem dX3_waitsBehind_33 : mx_br cX3_waitsBehind 33 (.ifCond .ne 16) (16) 3 36 49 := ⟨by decide +kernel, rfl, by decide⟩
theorem dX3_waitsBehind_36 : mx_at cX3_waitsBehind 36 (.iload_n 1) 1 37 := ⟨by decide +kernel, rfl⟩
theorem dX3_waitsBehind_37 : mx_at cX3_waitsBehind 37 (.bipush 59) 2 39 := ⟨by decide +kernel, rfl⟩
theorem dX3_waitsBehind_39 : mx_br cX3_waitsBehind 39 (.if_icmp .ne 7) (7) 3 42 46 := ⟨by decide +kernel, rfl, by decide⟩
theorem dX3_waitsBehind_42 : mx_at cX3_waitsBehind 42 (.iconst (-1)) 1 43 := ⟨by decide +kernel, rfl⟩
theorem dX3_waitsBehind_43 : mx_br cX3_waitsBehind 43 (.goto 5) (5) 3 46 48 := ⟨by decide +kernel, rfl, by decide⟩
theorem dX3_waitsBehind_46 : mx_at cX3_waitsBehind 46 (.bipush (-3)) 2 48 := ⟨by decide +kernel, rfl⟩
theorem dX3_waitsBehind_48 : mx_at cX3_waitsBehind 48 (.ireturn) 1 49 := ⟨by decide +kernel, rfl⟩
theorem dX3_waitsBehind_49 : mx_at cX3_waitsBehind 49 (.iload_n 1) 1 50 := ⟨by decide +kernel, rfl⟩
theorem dX3_waitsBehind_50 : mx_at cX3_waitsBehind 50 (.bipush 48) 2 52 := ⟨by decide +kernel, rfl⟩
theorem dX3_waitsBehind_52 : mx_br cX3_waitsBehind 52 (.if_icmp .lt 15) (15) 3 55 67 := ⟨by decide +kernel, rfl, by decide⟩
theorem dX3_waitsBehind_55 : mx_at cX3_waitsBehind 55 (.iload_n 1) 1 56 := ⟨by decide +kernel, rfl⟩
theorem dX3_waitsBehind_56 : mx_at cX3_waitsBehind 56 (.bipush 57) 2 58 := ⟨by decide +kernel, rfl⟩
theorem dX3_waitsBehind_58 : mx_br cX3_waitsBehind 58 (.if_icmp .gt 9) (9) 3 61 67 := ⟨by decide +kernel, rfl, by decide⟩
theorem dX3_waitsBehind_61 : mx_at cX3_waitsBehind 61 (.iload_n 0) 1 62 := ⟨by decide +kernel, rfl⟩
theorem dX3_waitsBehind_62 : mx_at cX3_waitsBehind 62 (.iconst 1) 1 63 := ⟨by decide +kernel, rfl⟩
theorem dX3_waitsBehind_63 : mx_at cX3_waitsBehind 63 (.isub) 1 64 := ⟨by decide +kernel, rfl⟩
theorem dX3_waitsBehind_64 : mx_br cX3_waitsBehind 64 (.goto 5) (5) 3 67 69 := ⟨by decide +kernel, rfl, by decide⟩
theorem dX3_waitsBehind_67 : mx_at cX3_waitsBehind 67 (.bipush (-3)) 2 69 := ⟨by decide +kernel, rfl⟩
theorem dX3_waitsBehind_69 : mx_at cX3_waitsBehind 69 (.ireturn) 1 70 := ⟨by decide +kernel, rfl⟩
theorem dX3_waitsBehindFirst_0 : mx_at cX3_waitsBehindFirst 0 (.iload_n 0) 1 1 := ⟨by decide +kernel, rfl⟩
theorem dX3_waitsBehindFirst_1 : decode cX3_waitsBehindFirst 1 = .ok (.tableswitch 112 99 120 #[106, 106, 112, 112, 112, 103, 110, 112, 112, 112, 112, 112, 112, 106, 112, 112, 112, 112, 112, 112, 108, 110], 103) := by decide +kernel
theorem dX3_waitsBehindFirst_104 : mx_at cX3_waitsBehindFirst 104 (.bipush (-2)) 2 106 := ⟨by decide +kernel, rfl⟩
theorem dX3_waitsBehindFirst_106 : mx_at cX3_waitsBehindFirst 106 (.ireturn) 1 107 := ⟨by decide +kernel, rfl⟩
theorem dX3_waitsBehindFirst_107 : mx_at cX3_waitsBehindFirst 107 (.iconst 3) 1 108 := ⟨by decide +kernel, rfl⟩
theorem dX3_waitsBehindFirst_108 : mx_at cX3_waitsBehindFirst 108 (.ireturn) 1 109 := ⟨by decide +kernel, rfl⟩
theorem dX3_waitsBehindFirst_109 : mx_at cX3_waitsBehindFirst 109 (.iconst 2) 1 110 := ⟨by decide +kernel, rfl⟩
theorem dX3_waitsBehindFirst_110 : mx_at cX3_waitsBehindFirst 110 (.ireturn) 1 111 := ⟨by decide +kernel, rfl⟩
theorem dX3_waitsBehindFirst_111 : mx_at cX3_waitsBehindFirst 111 (.iconst 1) 1 112 := ⟨by decide +kernel, rfl⟩
theorem dX3_waitsBehindFirst_112 : mx_at cX3_waitsBehindFirst 112 (.ireturn) 1 113 := ⟨by decide +kernel, rfl⟩
theorem dX3_waitsBehindFirst_113 : mx_at cX3_waitsBehindFirst 113 (.bipush (-3)) 2 115 := ⟨by decide +kernel, rfl⟩
theorem dX3_waitsBehindFirst_115 : mx_at cX3_waitsBehindFirst 115 (.ireturn) 1 116 := ⟨by decide +kernel, rfl⟩
theorem dX3_kindOf_0 : mx_at cX3_kindOf 0 (.iload_n 0) 1 1 := ⟨by decide +kernel, rfl⟩
theorem dX3_kindOf_1 : decode cX3_kindOf 1 = .ok (.tableswitch 83 99 112 #[81, 83, 83, 83, 79, 71, 77, 83, 83, 83, 75, 83, 83, 73], 71) := by decide +kernel
theorem dX3_kindOf_72 : mx_at cX3_kindOf 72 (.iconst 0) 1 73 := ⟨by decide +kernel, rfl⟩
theorem dX3_kindOf_73 : mx_at cX3_kindOf 73 (.ireturn) 1 74 := ⟨by decide +kernel, rfl⟩
theorem dX3_kindOf_74 : mx_at cX3_kindOf 74 (.iconst 1) 1 75 := ⟨by decide +kernel, rfl⟩
theorem dX3_kindOf_75 : mx_at cX3_kindOf 75 (.ireturn) 1 76 := ⟨by decide +kernel, rfl⟩
theorem dX3_kindOf_76 : mx_at cX3_kindOf 76 (.iconst 2) 1 77 := ⟨by decide +kernel, rfl⟩
theorem dX3_kindOf_77 : mx_at cX3_kindOf 77 (.ireturn) 1 78 := ⟨by decide +kernel, rfl⟩
theorem dX3_kindOf_78 : mx_at cX3_kindOf 78 (.iconst 3) 1 79 := ⟨by decide +kernel, rfl⟩
theorem dX3_kindOf_79 : mx_at cX3_kindOf 79 (.ireturn) 1 80 := ⟨by decide +kernel, rfl⟩
theorem dX3_kindOf_80 : mx_at cX3_kindOf 80 (.iconst 4) 1 81 := ⟨by decide +kernel, rfl⟩
theorem dX3_kindOf_81 : mx_at cX3_kindOf 81 (.ireturn) 1 82 := ⟨by decide +kernel, rfl⟩
theorem dX3_kindOf_82 : mx_at cX3_kindOf 82 (.iconst 5) 1 83 := ⟨by decide +kernel, rfl⟩
theorem dX3_kindOf_83 : mx_at cX3_kindOf 83 (.ireturn) 1 84 := ⟨by decide +kernel, rfl⟩
theorem dX3_kindOf_84 : mx_at cX3_kindOf 84 (.bipush (-9)) 2 86 := ⟨by decide +kernel, rfl⟩
theorem dX3_kindOf_86 : mx_at cX3_kindOf 86 (.ireturn) 1 87 := ⟨by decide +kernel, rfl⟩
theorem dX3_comes_0 : mx_at cX3_comes 0 (.aload_n 0) 1 1 := ⟨by decide +kernel, rfl⟩
theorem dX3_comes_1 : mx_at cX3_comes 1 (.getfield 31) 3 4 := ⟨by decide +kernel, rfl⟩
theorem dX3_comes_4 : mx_at cX3_comes 4 (.iload_n 1) 1 5 := ⟨by decide +kernel, rfl⟩
theorem dX3_comes_5 : mx_at cX3_comes 5 (.invokevirtual 77) 3 8 := ⟨by decide +kernel, rfl⟩
theorem dX3_comes_8 : decode cX3_comes 8 = .ok (.tableswitch 157 99 120 #[134, 116, 157, 157, 157, 104, 128, 157, 157, 157, 157, 157, 157, 110, 157, 157, 157, 157, 157, 157, 151, 122], 104) := by decide +kernel
theorem dX3_comes_112 : mx_at cX3_comes 112 (.aload_n 0) 1 113 := ⟨by decide +kernel, rfl⟩
theorem dX3_comes_113 : mx_at cX3_comes 113 (.iload_n 1) 1 114 := ⟨by decide +kernel, rfl⟩
theorem dX3_comes_114 : mx_at cX3_comes 114 (.invokevirtual 94) 3 117 := ⟨by decide +kernel, rfl⟩
theorem dX3_comes_117 : mx_at cX3_comes 117 (.ireturn) 1 118 := ⟨by decide +kernel, rfl⟩
theorem dX3_comes_118 : mx_at cX3_comes 118 (.aload_n 0) 1 119 := ⟨by decide +kernel, rfl⟩
theorem dX3_comes_119 : mx_at cX3_comes 119 (.iload_n 1) 1 120 := ⟨by decide +kernel, rfl⟩
theorem dX3_comes_120 : mx_at cX3_comes 120 (.invokevirtual 97) 3 123 := ⟨by decide +kernel, rfl⟩
theorem dX3_comes_123 : mx_at cX3_comes 123 (.ireturn) 1 124 := ⟨by decide +kernel, rfl⟩
theorem dX3_comes_124 : mx_at cX3_comes 124 (.aload_n 0) 1 125 := ⟨by decide +kernel, rfl⟩
theorem dX3_comes_125 : mx_at cX3_comes 125 (.iload_n 1) 1 126 := ⟨by decide +kernel, rfl⟩
theorem dX3_comes_126 : mx_at cX3_comes 126 (.invokevirtual 100) 3 129 := ⟨by decide +kernel, rfl⟩
theorem dX3_comes_129 : mx_at cX3_comes 129 (.ireturn) 1 130 := ⟨by decide +kernel, rfl⟩
theorem dX3_comes_130 : mx_at cX3_comes 130 (.aload_n 0) 1 131 := ⟨by decide +kernel, rfl⟩
theorem dX3_comes_131 : mx_at cX3_comes 131 (.iload_n 1) 1 132 := ⟨by decide +kernel, rfl⟩
theorem dX3_comes_132 : mx_at cX3_comes 132 (.invokevirtual 103) 3 135 := ⟨by decide +kernel, rfl⟩
theorem dX3_comes_135 : mx_at cX3_comes 135 (.ireturn) 1 136 := ⟨by decide +kernel, rfl⟩
theorem dX3_comes_136 : mx_at cX3_comes 136 (.aload_n 0) 1 137 := ⟨by decide +kernel, rfl⟩
theorem dX3_comes_137 : mx_at cX3_comes 137 (.iload_n 1) 1 138 := ⟨by decide +kernel, rfl⟩
theorem dX3_comes_138 : mx_at cX3_comes 138 (.invokevirtual 106) 3 141 := ⟨by decide +kernel, rfl⟩
theorem dX3_comes_141 : mx_at cX3_comes 141 (.ireturn) 1 142 := ⟨by decide +kernel, rfl⟩
theorem dX3_comes_142 : mx_at cX3_comes 142 (.aload_n 0) 1 143 := ⟨by decide +kernel, rfl⟩
theorem dX3_comes_143 : mx_at cX3_comes 143 (.getfield 16) 3 146 := ⟨by decide +kernel, rfl⟩
theorem dX3_comes_146 : mx_at cX3_comes 146 (.aload_n 0) 1 147 := ⟨by decide +kernel, rfl⟩
theorem dX3_comes_147 : mx_at cX3_comes 147 (.iload_n 1) 1 148 := ⟨by decide +kernel, rfl⟩
theorem dX3_comes_148 : mx_at cX3_comes 148 (.iconst 1) 1 149 := ⟨by decide +kernel, rfl⟩
theorem dX3_comes_149 : mx_at cX3_comes 149 (.iadd) 1 150 := ⟨by decide +kernel, rfl⟩
theorem dX3_comes_150 : mx_at cX3_comes 150 (.iconst 3) 1 151 := ⟨by decide +kernel, rfl⟩
theorem dX3_comes_151 : mx_at cX3_comes 151 (.invokevirtual 109) 3 154 := ⟨by decide +kernel, rfl⟩
theorem dX3_comes_154 : mx_at cX3_comes 154 (.putfield 45) 3 157 := ⟨by decide +kernel, rfl⟩
theorem dX3_comes_157 : mx_at cX3_comes 157 (.iconst 1) 1 158 := ⟨by decide +kernel, rfl⟩
theorem dX3_comes_158 : mx_at cX3_comes 158 (.ireturn) 1 159 := ⟨by decide +kernel, rfl⟩
theorem dX3_comes_159 : mx_at cX3_comes 159 (.aload_n 0) 1 160 := ⟨by decide +kernel, rfl⟩
theorem dX3_comes_160 : mx_at cX3_comes 160 (.iload_n 1) 1 161 := ⟨by decide +kernel, rfl⟩
theorem dX3_comes_161 : mx_at cX3_comes 161 (.invokevirtual 112) 3 164 := ⟨by decide +kernel, rfl⟩
theorem dX3_comes_164 : mx_at cX3_comes 164 (.ireturn) 1 165 := ⟨by decide +kernel, rfl⟩
theorem dX3_comes_165 : mx_at cX3_comes 165 (.iconst 0) 1 166 := ⟨by decide +kernel, rfl⟩
theorem dX3_comes_166 : mx_at cX3_comes 166 (.ireturn) 1 167 := ⟨by decide +kernel, rfl⟩
theorem dX3_comesHouse_0 : mx_at cX3_comesHouse 0 (.aload_n 0) 1 1 := ⟨by decide +kernel, rfl⟩
theorem dX3_comesHouse_1 : mx_at cX3_comesHouse 1 (.iload_n 1) 1 2 := ⟨by decide +kernel, rfl⟩
theorem dX3_comesHouse_2 : mx_at cX3_comesHouse 2 (.iconst 3) 1 3 := ⟨by decide +kernel, rfl⟩
theorem dX3_comesHouse_3 : mx_at cX3_comesHouse 3 (.iadd) 1 4 := ⟨by decide +kernel, rfl⟩
theorem dX3_comesHouse_4 : mx_at cX3_comesHouse 4 (.iconst 1) 1 5 := ⟨by decide +kernel, rfl⟩
theorem dX3_comesHouse_5 : mx_at cX3_comesHouse 5 (.invokevirtual 109) 3 8 := ⟨by decide +kernel, rfl⟩
theorem dX3_comesHouse_8 : mx_at cX3_comesHouse 8 (.istore_n 2) 1 9 := ⟨by decide +kernel, rfl⟩
theorem dX3_comesHouse_9 : mx_at cX3_comesHouse 9 (.aload_n 0) 1 10 := ⟨by decide +kernel, rfl⟩
theorem dX3_comesHouse_10 : mx_at cX3_comesHouse 10 (.iload_n 1) 1 11 := ⟨by decide +kernel, rfl⟩
theorem dX3_comesHouse_11 : mx_at cX3_comesHouse 11 (.iconst 4) 1 12 := ⟨by decide +kernel, rfl⟩
theorem dX3_comesHouse_12 : mx_at cX3_comesHouse 12 (.iadd) 1 13 := ⟨by decide +kernel, rfl⟩
theorem dX3_comesHouse_13 : mx_at cX3_comesHouse 13 (.iconst 2) 1 14 := ⟨by decide +kernel, rfl⟩
theorem dX3_comesHouse_14 : mx_at cX3_comesHouse 14 (.invokevirtual 109) 3 17 := ⟨by decide +kernel, rfl⟩
theorem dX3_comesHouse_17 : mx_at cX3_comesHouse 17 (.istore_n 3) 1 18 := ⟨by decide +kernel, rfl⟩
theorem dX3_comesHouse_18 : mx_at cX3_comesHouse 18 (.aload_n 0) 1 19 := ⟨by decide +kernel, rfl⟩
theorem dX3_comesHouse_19 : mx_at cX3_comesHouse 19 (.getfield 16) 3 22 := ⟨by decide +kernel, rfl⟩
theorem dX3_comesHouse_22 : mx_at cX3_comesHouse 22 (.getfield 115) 3 25 := ⟨by decide +kernel, rfl⟩
theorem dX3_comesHouse_25 : mx_at cX3_comesHouse 25 (.bipush 6) 2 27 := ⟨by decide +kernel, rfl⟩
theorem dX3_comesHouse_27 : mx_br cX3_comesHouse 27 (.if_icmp .ge 14) (14) 3 30 41 := ⟨by decide +kernel, rfl, by decide⟩
theorem dX3_comesHouse_30 : mx_at cX3_comesHouse 30 (.iload_n 2) 1 31 := ⟨by decide +kernel, rfl⟩
theorem dX3_comesHouse_31 : mx_at cX3_comesHouse 31 (.iconst 1) 1 32 := ⟨by decide +kernel, rfl⟩
theorem dX3_comesHouse_32 : mx_br cX3_comesHouse 32 (.if_icmp .lt 9) (9) 3 35 41 := ⟨by decide +kernel, rfl, by decide⟩
theorem dX3_comesHouse_35 : mx_at cX3_comesHouse 35 (.iload_n 3) 1 36 := ⟨by decide +kernel, rfl⟩
theorem dX3_comesHouse_36 : mx_at cX3_comesHouse 36 (.bipush 30) 2 38 := ⟨by decide +kernel, rfl⟩
theorem dX3_comesHouse_38 : mx_br cX3_comesHouse 38 (.if_icmp .le 5) (5) 3 41 43 := ⟨by decide +kernel, rfl, by decide⟩
theorem dX3_comesHouse_41 : mx_at cX3_comesHouse 41 (.iconst 0) 1 42 := ⟨by decide +kernel, rfl⟩
theorem dX3_comesHouse_42 : mx_at cX3_comesHouse 42 (.ireturn) 1 43 := ⟨by decide +kernel, rfl⟩
theorem dX3_comesHouse_43 : mx_at cX3_comesHouse 43 (.aload_n 0) 1 44 := ⟨by decide +kernel, rfl⟩
theorem dX3_comesHouse_44 : mx_at cX3_comesHouse 44 (.getfield 16) 3 47 := ⟨by decide +kernel, rfl⟩
theorem dX3_comesHouse_47 : mx_at cX3_comesHouse 47 (.aload_n 0) 1 48 := ⟨by decide +kernel, rfl⟩
theorem dX3_comesHouse_48 : mx_at cX3_comesHouse 48 (.getfield 31) 3 51 := ⟨by decide +kernel, rfl⟩
theorem dX3_comesHouse_51 : mx_at cX3_comesHouse 51 (.iload_n 1) 1 52 := ⟨by decide +kernel, rfl⟩
theorem dX3_comesHouse_52 : mx_at cX3_comesHouse 52 (.iconst 1) 1 53 := ⟨by decide +kernel, rfl⟩
theorem dX3_comesHouse_53 : mx_at cX3_comesHouse 53 (.iadd) 1 54 := ⟨by decide +kernel, rfl⟩
theorem dX3_comesHouse_54 : mx_at cX3_comesHouse 54 (.invokevirtual 77) 3 57 := ⟨by decide +kernel, rfl⟩
theorem dX3_comesHouse_57 : mx_at cX3_comesHouse 57 (.invokestatic 91) 3 60 := ⟨by decide +kernel, rfl⟩
theorem dX3_comesHouse_60 : mx_at cX3_comesHouse 60 (.aload_n 0) 1 61 := ⟨by decide +kernel, rfl⟩
theorem dX3_comesHouse_61 : mx_at cX3_comesHouse 61 (.iload_n 1) 1 62 := ⟨by decide +kernel, rfl⟩
theorem dX3_comesHouse_62 : mx_at cX3_comesHouse 62 (.iconst 2) 1 63 := ⟨by decide +kernel, rfl⟩
theorem dX3_comesHouse_63 : mx_at cX3_comesHouse 63 (.iadd) 1 64 := ⟨by decide +kernel, rfl⟩
theorem dX3_comesHouse_64 : mx_at cX3_comesHouse 64 (.iconst 1) 1 65 := ⟨by decide +kernel, rfl⟩
theorem dX3_comesHouse_65 : mx_at cX3_comesHouse 65 (.invokevirtual 109) 3 68 := ⟨by decide +kernel, rfl⟩
theorem dX3_comesHouse_68 : mx_at cX3_comesHouse 68 (.iload_n 2) 1 69 := ⟨by decide +kernel, rfl⟩
theorem dX3_comesHouse_69 : mx_at cX3_comesHouse 69 (.iload_n 3) 1 70 := ⟨by decide +kernel, rfl⟩
theorem dX3_comesHouse_70 : mx_at cX3_comesHouse 70 (.invokevirtual 118) 3 73 := ⟨by decide +kernel, rfl⟩
theorem dX3_comesHouse_73 : mx_at cX3_comesHouse 73 (.iconst 1) 1 74 := ⟨by decide +kernel, rfl⟩
theorem dX3_comesHouse_74 : mx_at cX3_comesHouse 74 (.ireturn) 1 75 := ⟨by decide +kernel, rfl⟩
theorem dX3_comesPeople_0 : mx_at cX3_comesPeople 0 (.aload_n 0) 1 1 := ⟨by decide +kernel, rfl⟩
theorem dX3_comesPeople_1 : mx_at cX3_comesPeople 1 (.iload_n 1) 1 2 := ⟨by decide +kernel, rfl⟩
theorem dX3_comesPeople_2 : mx_at cX3_comesPeople 2 (.iconst 1) 1 3 := ⟨by decide +kernel, rfl⟩
theorem dX3_comesPeople_3 : mx_at cX3_comesPeople 3 (.iadd) 1 4 := ⟨by decide +kernel, rfl⟩
theorem dX3_comesPeople_4 : mx_at cX3_comesPeople 4 (.iconst 1) 1 5 := ⟨by decide +kernel, rfl⟩
theorem dX3_comesPeople_5 : mx_at cX3_comesPeople 5 (.invokevirtual 109) 3 8 := ⟨by decide +kernel, rfl⟩
theorem dX3_comesPeople_8 : mx_at cX3_comesPeople 8 (.istore_n 2) 1 9 := ⟨by decide +kernel, rfl⟩
theorem dX3_comesPeople_9 : mx_at cX3_comesPeople 9 (.aload_n 0) 1 10 := ⟨by decide +kernel, rfl⟩
theorem dX3_comesPeople_10 : mx_at cX3_comesPeople 10 (.iload_n 1) 1 11 := ⟨by decide +kernel, rfl⟩
theorem dX3_comesPeople_11 : mx_at cX3_comesPeople 11 (.iconst 2) 1 12 := ⟨by decide +kernel, rfl⟩
theorem dX3_comesPeople_12 : mx_at cX3_comesPeople 12 (.iadd) 1 13 := ⟨by decide +kernel, rfl⟩
theorem dX3_comesPeople_13 : mx_at cX3_comesPeople 13 (.iconst 2) 1 14 := ⟨by decide +kernel, rfl⟩
theorem dX3_comesPeople_14 : mx_at cX3_comesPeople 14 (.invokevirtual 109) 3 17 := ⟨by decide +kernel, rfl⟩
theorem dX3_comesPeople_17 : mx_at cX3_comesPeople 17 (.istore_n 3) 1 18 := ⟨by decide +kernel, rfl⟩
theorem dX3_comesPeople_18 : mx_at cX3_comesPeople 18 (.aload_n 0) 1 19 := ⟨by decide +kernel, rfl⟩
theorem dX3_comesPeople_19 : mx_at cX3_comesPeople 19 (.getfield 16) 3 22 := ⟨by decide +kernel, rfl⟩
theorem dX3_comesPeople_22 : mx_at cX3_comesPeople 22 (.iload_n 2) 1 23 := ⟨by decide +kernel, rfl⟩
theorem dX3_comesPeople_23 : mx_at cX3_comesPeople 23 (.invokevirtual 122) 3 26 := ⟨by decide +kernel, rfl⟩
theorem dX3_comesPeople_26 : mx_br cX3_comesPeople 26 (.ifCond .eq 9) (9) 3 29 35 := ⟨by decide +kernel, rfl, by decide⟩
theorem dX3_comesPeople_29 : mx_at cX3_comesPeople 29 (.iload_n 3) 1 30 := ⟨by decide +kernel, rfl⟩
theorem dX3_comesPeople_30 : mx_at cX3_comesPeople 30 (.bipush 30) 2 32 := ⟨by decide +kernel, rfl⟩
theorem dX3_comesPeople_32 : mx_br cX3_comesPeople 32 (.if_icmp .le 5) (5) 3 35 37 := ⟨by decide +kernel, rfl, by decide⟩
theorem dX3_comesPeople_35 : mx_at cX3_comesPeople 35 (.iconst 0) 1 36 := ⟨by decide +kernel, rfl⟩
theorem dX3_comesPeople_36 : mx_at cX3_comesPeople 36 (.ireturn) 1 37 := ⟨by decide +kernel, rfl⟩
theorem dX3_comesPeople_37 : mx_at cX3_comesPeople 37 (.aload_n 0) 1 38 := ⟨by decide +kernel, rfl⟩
theorem dX3_comesPeople_38 : mx_at cX3_comesPeople 38 (.getfield 16) 3 41 := ⟨by decide +kernel, rfl⟩
theorem dX3_comesPeople_41 : mx_at cX3_comesPeople 41 (.iload_n 2) 1 42 := ⟨by decide +kernel, rfl⟩
theorem dX3_comesPeople_42 : mx_at cX3_comesPeople 42 (.invokevirtual 125) 3 45 := ⟨by decide +kernel, rfl⟩
theorem dX3_comesPeople_45 : mx_at cX3_comesPeople 45 (.iload_n 3) 1 46 := ⟨by decide +kernel, rfl⟩
theorem dX3_comesPeople_46 : mx_at cX3_comesPeople 46 (.putfield 128) 3 49 := ⟨by decide +kernel, rfl⟩
theorem dX3_comesPeople_49 : mx_at cX3_comesPeople 49 (.iconst 1) 1 50 := ⟨by decide +kernel, rfl⟩
theorem dX3_comesPeople_50 : mx_at cX3_comesPeople 50 (.ireturn) 1 51 := ⟨by decide +kernel, rfl⟩
theorem dX3_comesDust_0 : mx_at cX3_comesDust 0 (.aload_n 0) 1 1 := ⟨by decide +kernel, rfl⟩
theorem dX3_comesDust_1 : mx_at cX3_comesDust 1 (.iload_n 1) 1 2 := ⟨by decide +kernel, rfl⟩
theorem dX3_comesDust_2 : mx_at cX3_comesDust 2 (.iconst 1) 1 3 := ⟨by decide +kernel, rfl⟩
theorem dX3_comesDust_3 : mx_at cX3_comesDust 3 (.iadd) 1 4 := ⟨by decide +kernel, rfl⟩
theorem dX3_comesDust_4 : mx_at cX3_comesDust 4 (.iconst 1) 1 5 := ⟨by decide +kernel, rfl⟩
theorem dX3_comesDust_5 : mx_at cX3_comesDust 5 (.invokevirtual 109) 3 8 := ⟨by decide +kernel, rfl⟩
theorem dX3_comesDust_8 : mx_at cX3_comesDust 8 (.istore_n 2) 1 9 := ⟨by decide +kernel, rfl⟩
theorem dX3_comesDust_9 : mx_at cX3_comesDust 9 (.aload_n 0) 1 10 := ⟨by decide +kernel, rfl⟩
theorem dX3_comesDust_10 : mx_at cX3_comesDust 10 (.iload_n 1) 1 11 := ⟨by decide +kernel, rfl⟩
theorem dX3_comesDust_11 : mx_at cX3_comesDust 11 (.iconst 2) 1 12 := ⟨by decide +kernel, rfl⟩
theorem dX3_comesDust_12 : mx_at cX3_comesDust 12 (.iadd) 1 13 := ⟨by decide +kernel, rfl⟩
theorem dX3_comesDust_13 : mx_at cX3_comesDust 13 (.iconst 2) 1 14 := ⟨by decide +kernel, rfl⟩
theorem dX3_comesDust_14 : mx_at cX3_comesDust 14 (.invokevirtual 109) 3 17 := ⟨by decide +kernel, rfl⟩
theorem dX3_comesDust_17 : mx_at cX3_comesDust 17 (.istore_n 3) 1 18 := ⟨by decide +kernel, rfl⟩
theorem dX3_comesDust_18 : mx_at cX3_comesDust 18 (.aload_n 0) 1 19 := ⟨by decide +kernel, rfl⟩
theorem dX3_comesDust_19 : mx_at cX3_comesDust 19 (.getfield 16) 3 22 := ⟨by decide +kernel, rfl⟩
theorem dX3_comesDust_22 : mx_at cX3_comesDust 22 (.iload_n 2) 1 23 := ⟨by decide +kernel, rfl⟩
theorem dX3_comesDust_23 : mx_at cX3_comesDust 23 (.invokevirtual 122) 3 26 := ⟨by decide +kernel, rfl⟩
theorem dX3_comesDust_26 : mx_br cX3_comesDust 26 (.ifCond .eq 9) (9) 3 29 35 := ⟨by decide +kernel, rfl, by decide⟩
theorem dX3_comesDust_29 : mx_at cX3_comesDust 29 (.iload_n 3) 1 30 := ⟨by decide +kernel, rfl⟩
theorem dX3_comesDust_30 : mx_at cX3_comesDust 30 (.bipush 20) 2 32 := ⟨by decide +kernel, rfl⟩
theorem dX3_comesDust_32 : mx_br cX3_comesDust 32 (.if_icmp .le 5) (5) 3 35 37 := ⟨by decide +kernel, rfl, by decide⟩
theorem dX3_comesDust_35 : mx_at cX3_comesDust 35 (.iconst 0) 1 36 := ⟨by decide +kernel, rfl⟩
theorem dX3_comesDust_36 : mx_at cX3_comesDust 36 (.ireturn) 1 37 := ⟨by decide +kernel, rfl⟩
theorem dX3_comesDust_37 : mx_at cX3_comesDust 37 (.aload_n 0) 1 38 := ⟨by decide +kernel, rfl⟩
theorem dX3_comesDust_38 : mx_at cX3_comesDust 38 (.getfield 16) 3 41 := ⟨by decide +kernel, rfl⟩
theorem dX3_comesDust_41 : mx_at cX3_comesDust 41 (.iload_n 2) 1 42 := ⟨by decide +kernel, rfl⟩
theorem dX3_comesDust_42 : mx_at cX3_comesDust 42 (.invokevirtual 125) 3 45 := ⟨by decide +kernel, rfl⟩
theorem dX3_comesDust_45 : mx_at cX3_comesDust 45 (.iload_n 3) 1 46 := ⟨by decide +kernel, rfl⟩
theorem dX3_comesDust_46 : mx_at cX3_comesDust 46 (.putfield 133) 3 49 := ⟨by decide +kernel, rfl⟩
theorem dX3_comesDust_49 : mx_at cX3_comesDust 49 (.iconst 1) 1 50 := ⟨by decide +kernel, rfl⟩
theorem dX3_comesDust_50 : mx_at cX3_comesDust 50 (.ireturn) 1 51 := ⟨by decide +kernel, rfl⟩
theorem dX3_comesTurned_0 : mx_at cX3_comesTurned 0 (.aload_n 0) 1 1 := ⟨by decide +kernel, rfl⟩
theorem dX3_comesTurned_1 : mx_at cX3_comesTurned 1 (.iload_n 1) 1 2 := ⟨by decide +kernel, rfl⟩
theorem dX3_comesTurned_2 : mx_at cX3_comesTurned 2 (.iconst 1) 1 3 := ⟨by decide +kernel, rfl⟩
theorem dX3_comesTurned_3 : mx_at cX3_comesTurned 3 (.iadd) 1 4 := ⟨by decide +kernel, rfl⟩
theorem dX3_comesTurned_4 : mx_at cX3_comesTurned 4 (.iconst 1) 1 5 := ⟨by decide +kernel, rfl⟩
theorem dX3_comesTurned_5 : mx_at cX3_comesTurned 5 (.invokevirtual 109) 3 8 := ⟨by decide +kernel, rfl⟩
theorem dX3_comesTurned_8 : mx_at cX3_comesTurned 8 (.istore_n 2) 1 9 := ⟨by decide +kernel, rfl⟩
theorem dX3_comesTurned_9 : mx_at cX3_comesTurned 9 (.aload_n 0) 1 10 := ⟨by decide +kernel, rfl⟩
theorem dX3_comesTurned_10 : mx_at cX3_comesTurned 10 (.getfield 16) 3 13 := ⟨by decide +kernel, rfl⟩
theorem dX3_comesTurned_13 : mx_at cX3_comesTurned 13 (.iload_n 2) 1 14 := ⟨by decide +kernel, rfl⟩
theorem dX3_comesTurned_14 : mx_at cX3_comesTurned 14 (.invokevirtual 122) 3 17 := ⟨by decide +kernel, rfl⟩
theorem dX3_comesTurned_17 : mx_br cX3_comesTurned 17 (.ifCond .ne 5) (5) 3 20 22 := ⟨by decide +kernel, rfl, by decide⟩
theorem dX3_comesTurned_20 : mx_at cX3_comesTurned 20 (.iconst 0) 1 21 := ⟨by decide +kernel, rfl⟩
theorem dX3_comesTurned_21 : mx_at cX3_comesTurned 21 (.ireturn) 1 22 := ⟨by decide +kernel, rfl⟩
theorem dX3_comesTurned_22 : mx_at cX3_comesTurned 22 (.aload_n 0) 1 23 := ⟨by decide +kernel, rfl⟩
theorem dX3_comesTurned_23 : mx_at cX3_comesTurned 23 (.getfield 16) 3 26 := ⟨by decide +kernel, rfl⟩
theorem dX3_comesTurned_26 : mx_at cX3_comesTurned 26 (.iload_n 2) 1 27 := ⟨by decide +kernel, rfl⟩
theorem dX3_comesTurned_27 : mx_at cX3_comesTurned 27 (.invokevirtual 125) 3 30 := ⟨by decide +kernel, rfl⟩
theorem dX3_comesTurned_30 : mx_at cX3_comesTurned 30 (.aload_n 0) 1 31 := ⟨by decide +kernel, rfl⟩
theorem dX3_comesTurned_31 : mx_at cX3_comesTurned 31 (.getfield 16) 3 34 := ⟨by decide +kernel, rfl⟩
theorem dX3_comesTurned_34 : mx_at cX3_comesTurned 34 (.iload_n 2) 1 35 := ⟨by decide +kernel, rfl⟩
theorem dX3_comesTurned_35 : mx_at cX3_comesTurned 35 (.invokevirtual 125) 3 38 := ⟨by decide +kernel, rfl⟩
theorem dX3_comesTurned_38 : mx_at cX3_comesTurned 38 (.getfield 136) 3 41 := ⟨by decide +kernel, rfl⟩
theorem dX3_comesTurned_41 : mx_br cX3_comesTurned 41 (.ifCond .ne 7) (7) 3 44 48 := ⟨by decide +kernel, rfl, by decide⟩
theorem dX3_comesTurned_44 : mx_at cX3_comesTurned 44 (.iconst 1) 1 45 := ⟨by decide +kernel, rfl⟩
theorem dX3_comesTurned_45 : mx_br cX3_comesTurned 45 (.goto 4) (4) 3 48 49 := ⟨by decide +kernel, rfl, by decide⟩
theorem dX3_comesTurned_48 : mx_at cX3_comesTurned 48 (.iconst 0) 1 49 := ⟨by decide +kernel, rfl⟩
theorem dX3_comesTurned_49 : mx_at cX3_comesTurned 49 (.putfield 136) 3 52 := ⟨by decide +kernel, rfl⟩
theorem dX3_comesTurned_52 : mx_at cX3_comesTurned 52 (.iconst 1) 1 53 := ⟨by decide +kernel, rfl⟩
theorem dX3_comesTurned_53 : mx_at cX3_comesTurned 53 (.ireturn) 1 54 := ⟨by decide +kernel, rfl⟩
theorem dX3_comesInspector_0 : mx_at cX3_comesInspector 0 (.aload_n 0) 1 1 := ⟨by decide +kernel, rfl⟩
theorem dX3_comesInspector_1 : mx_at cX3_comesInspector 1 (.iload_n 1) 1 2 := ⟨by decide +kernel, rfl⟩
theorem dX3_comesInspector_2 : mx_at cX3_comesInspector 2 (.iconst 1) 1 3 := ⟨by decide +kernel, rfl⟩
theorem dX3_comesInspector_3 : mx_at cX3_comesInspector 3 (.iadd) 1 4 := ⟨by decide +kernel, rfl⟩
theorem dX3_comesInspector_4 : mx_at cX3_comesInspector 4 (.iconst 1) 1 5 := ⟨by decide +kernel, rfl⟩
theorem dX3_comesInspector_5 : mx_at cX3_comesInspector 5 (.invokevirtual 109) 3 8 := ⟨by decide +kernel, rfl⟩
theorem dX3_comesInspector_8 : mx_at cX3_comesInspector 8 (.istore_n 2) 1 9 := ⟨by decide +kernel, rfl⟩
theorem dX3_comesInspector_9 : mx_at cX3_comesInspector 9 (.aload_n 0) 1 10 := ⟨by decide +kernel, rfl⟩
theorem dX3_comesInspector_10 : mx_at cX3_comesInspector 10 (.getfield 16) 3 13 := ⟨by decide +kernel, rfl⟩
theorem dX3_comesInspector_13 : mx_at cX3_comesInspector 13 (.iload_n 2) 1 14 := ⟨by decide +kernel, rfl⟩
theorem dX3_comesInspector_14 : mx_at cX3_comesInspector 14 (.invokevirtual 122) 3 17 := ⟨by decide +kernel, rfl⟩
theorem dX3_comesInspector_17 : mx_br cX3_comesInspector 17 (.ifCond .ne 5) (5) 3 20 22 := ⟨by decide +kernel, rfl, by decide⟩
theorem dX3_comesInspector_20 : mx_at cX3_comesInspector 20 (.iconst 0) 1 21 := ⟨by decide +kernel, rfl⟩
theorem dX3_comesInspector_21 : mx_at cX3_comesInspector 21 (.ireturn) 1 22 := ⟨by decide +kernel, rfl⟩
theorem dX3_comesInspector_22 : mx_at cX3_comesInspector 22 (.aload_n 0) 1 23 := ⟨by decide +kernel, rfl⟩
theorem dX3_comesInspector_23 : mx_at cX3_comesInspector 23 (.getfield 16) 3 26 := ⟨by decide +kernel, rfl⟩
theorem dX3_comesInspector_26 : mx_at cX3_comesInspector 26 (.iload_n 2) 1 27 := ⟨by decide +kernel, rfl⟩
theorem dX3_comesInspector_27 : mx_at cX3_comesInspector 27 (.putfield 139) 3 30 := ⟨by decide +kernel, rfl⟩
theorem dX3_comesInspector_30 : mx_at cX3_comesInspector 30 (.iconst 1) 1 31 := ⟨by decide +kernel, rfl⟩
theorem dX3_comesInspector_31 : mx_at cX3_comesInspector 31 (.ireturn) 1 32 := ⟨by decide +kernel, rfl⟩
theorem dX3_comesWeeks_0 : mx_at cX3_comesWeeks 0 (.aload_n 0) 1 1 := ⟨by decide +kernel, rfl⟩
theorem dX3_comesWeeks_1 : mx_at cX3_comesWeeks 1 (.iload_n 1) 1 2 := ⟨by decide +kernel, rfl⟩
theorem dX3_comesWeeks_2 : mx_at cX3_comesWeeks 2 (.iconst 1) 1 3 := ⟨by decide +kernel, rfl⟩
theorem dX3_comesWeeks_3 : mx_at cX3_comesWeeks 3 (.iadd) 1 4 := ⟨by decide +kernel, rfl⟩
theorem dX3_comesWeeks_4 : mx_at cX3_comesWeeks 4 (.iconst 2) 1 5 := ⟨by decide +kernel, rfl⟩
theorem dX3_comesWeeks_5 : mx_at cX3_comesWeeks 5 (.invokevirtual 109) 3 8 := ⟨by decide +kernel, rfl⟩
theorem dX3_comesWeeks_8 : mx_at cX3_comesWeeks 8 (.istore_n 2) 1 9 := ⟨by decide +kernel, rfl⟩
theorem dX3_comesWeeks_9 : mx_at cX3_comesWeeks 9 (.iload_n 2) 1 10 := ⟨by decide +kernel, rfl⟩
theorem dX3_comesWeeks_10 : mx_at cX3_comesWeeks 10 (.iconst 1) 1 11 := ⟨by decide +kernel, rfl⟩
theorem dX3_comesWeeks_11 : mx_br cX3_comesWeeks 11 (.if_icmp .lt 24) (24) 3 14 35 := ⟨by decide +kernel, rfl, by decide⟩
theorem dX3_comesWeeks_14 : mx_at cX3_comesWeeks 14 (.iload_n 2) 1 15 := ⟨by decide +kernel, rfl⟩
theorem dX3_comesWeeks_15 : mx_at cX3_comesWeeks 15 (.bipush 60) 2 17 := ⟨by decide +kernel, rfl⟩
theorem dX3_comesWeeks_17 : mx_br cX3_comesWeeks 17 (.if_icmp .gt 18) (18) 3 20 35 := ⟨by decide +kernel, rfl, by decide⟩
theorem dX3_comesWeeks_20 : mx_at cX3_comesWeeks 20 (.aload_n 0) 1 21 := ⟨by decide +kernel, rfl⟩
theorem dX3_comesWeeks_21 : mx_at cX3_comesWeeks 21 (.getfield 16) 3 24 := ⟨by decide +kernel, rfl⟩
theorem dX3_comesWeeks_24 : mx_at cX3_comesWeeks 24 (.getfield 142) 3 27 := ⟨by decide +kernel, rfl⟩
theorem dX3_comesWeeks_27 : mx_at cX3_comesWeeks 27 (.iload_n 2) 1 28 := ⟨by decide +kernel, rfl⟩
theorem dX3_comesWeeks_28 : mx_at cX3_comesWeeks 28 (.iadd) 1 29 := ⟨by decide +kernel, rfl⟩
theorem dX3_comesWeeks_29 : mx_at cX3_comesWeeks 29 (.sipush 999) 3 32 := ⟨by decide +kernel, rfl⟩
theorem dX3_comesWeeks_32 : mx_br cX3_comesWeeks 32 (.if_icmp .le 5) (5) 3 35 37 := ⟨by decide +kernel, rfl, by decide⟩
theorem dX3_comesWeeks_35 : mx_at cX3_comesWeeks 35 (.iconst 0) 1 36 := ⟨by decide +kernel, rfl⟩
theorem dX3_comesWeeks_36 : mx_at cX3_comesWeeks 36 (.ireturn) 1 37 := ⟨by decide +kernel, rfl⟩
theorem dX3_comesWeeks_37 : mx_at cX3_comesWeeks 37 (.aload_n 0) 1 38 := ⟨by decide +kernel, rfl⟩
theorem dX3_comesWeeks_38 : mx_at cX3_comesWeeks 38 (.getfield 16) 3 41 := ⟨by decide +kernel, rfl⟩
theorem dX3_comesWeeks_41 : mx_at cX3_comesWeeks 41 (.iload_n 2) 1 42 := ⟨by decide +kernel, rfl⟩
theorem dX3_comesWeeks_42 : mx_at cX3_comesWeeks 42 (.invokevirtual 145) 3 45 := ⟨by decide +kernel, rfl⟩
theorem dX3_comesWeeks_45 : mx_at cX3_comesWeeks 45 (.iconst 1) 1 46 := ⟨by decide +kernel, rfl⟩
theorem dX3_comesWeeks_46 : mx_at cX3_comesWeeks 46 (.ireturn) 1 47 := ⟨by decide +kernel, rfl⟩
theorem dX3_number_0 : mx_at cX3_number 0 (.iconst 0) 1 1 := ⟨by decide +kernel, rfl⟩
theorem dX3_number_1 : mx_at cX3_number 1 (.istore_n 3) 1 2 := ⟨by decide +kernel, rfl⟩
theorem dX3_number_2 : mx_at cX3_number 2 (.iconst 0) 1 3 := ⟨by decide +kernel, rfl⟩
theorem dX3_number_3 : mx_at cX3_number 3 (.istore 4) 2 5 := ⟨by decide +kernel, rfl⟩
theorem dX3_number_5 : mx_at cX3_number 5 (.iload 4) 2 7 := ⟨by decide +kernel, rfl⟩
theorem dX3_number_7 : mx_at cX3_number 7 (.iload_n 2) 1 8 := ⟨by decide +kernel, rfl⟩
theorem dX3_number_8 : mx_br cX3_number 8 (.if_icmp .ge 29) (29) 3 11 37 := ⟨by decide +kernel, rfl, by decide⟩
theorem dX3_number_11 : mx_at cX3_number 11 (.iload_n 3) 1 12 := ⟨by decide +kernel, rfl⟩
theorem dX3_number_12 : mx_at cX3_number 12 (.bipush 10) 2 14 := ⟨by decide +kernel, rfl⟩
theorem dX3_number_14 : mx_at cX3_number 14 (.imul) 1 15 := ⟨by decide +kernel, rfl⟩
theorem dX3_number_15 : mx_at cX3_number 15 (.aload_n 0) 1 16 := ⟨by decide +kernel, rfl⟩
theorem dX3_number_16 : mx_at cX3_number 16 (.getfield 31) 3 19 := ⟨by decide +kernel, rfl⟩
theorem dX3_number_19 : mx_at cX3_number 19 (.iload_n 1) 1 20 := ⟨by decide +kernel, rfl⟩
theorem dX3_number_20 : mx_at cX3_number 20 (.iload 4) 2 22 := ⟨by decide +kernel, rfl⟩
theorem dX3_number_22 : mx_at cX3_number 22 (.iadd) 1 23 := ⟨by decide +kernel, rfl⟩
theorem dX3_number_23 : mx_at cX3_number 23 (.invokevirtual 77) 3 26 := ⟨by decide +kernel, rfl⟩
theorem dX3_number_26 : mx_at cX3_number 26 (.iadd) 1 27 := ⟨by decide +kernel, rfl⟩
theorem dX3_number_27 : mx_at cX3_number 27 (.bipush 48) 2 29 := ⟨by decide +kernel, rfl⟩
theorem dX3_number_29 : mx_at cX3_number 29 (.isub) 1 30 := ⟨by decide +kernel, rfl⟩
theorem dX3_number_30 : mx_at cX3_number 30 (.istore_n 3) 1 31 := ⟨by decide +kernel, rfl⟩
theorem dX3_number_31 : mx_at cX3_number 31 (.iinc 4 1) 3 34 := ⟨by decide +kernel, rfl⟩
theorem dX3_number_34 : mx_br cX3_number 34 (.goto (-29)) (-29) 3 37 5 := ⟨by decide +kernel, rfl, by decide⟩
theorem dX3_number_37 : mx_at cX3_number 37 (.iload_n 3) 1 38 := ⟨by decide +kernel, rfl⟩
theorem dX3_number_38 : mx_at cX3_number 38 (.ireturn) 1 39 := ⟨by decide +kernel, rfl⟩
theorem dX3_house_0 : mx_at cX3_house 0 (.aload_n 0) 1 1 := ⟨by decide +kernel, rfl⟩
theorem dX3_house_1 : mx_at cX3_house 1 (.getfield 10) 3 4 := ⟨by decide +kernel, rfl⟩
theorem dX3_house_4 : mx_at cX3_house 4 (.iload_n 1) 1 5 := ⟨by decide +kernel, rfl⟩
theorem dX3_house_5 : mx_at cX3_house 5 (.invokevirtual 122) 3 8 := ⟨by decide +kernel, rfl⟩
theorem dX3_house_8 : mx_br cX3_house 8 (.ifCond .ne 9) (9) 3 11 17 := ⟨by decide +kernel, rfl, by decide⟩
theorem dX3_house_11 : mx_at cX3_house 11 (.aload_n 0) 1 12 := ⟨by decide +kernel, rfl⟩
theorem dX3_house_12 : mx_at cX3_house 12 (.iconst (-1)) 1 13 := ⟨by decide +kernel, rfl⟩
theorem dX3_house_13 : mx_at cX3_house 13 (.invokevirtual 49) 3 16 := ⟨by decide +kernel, rfl⟩
theorem dX3_house_16 : mx_at cX3_house 16 (.ireturn) 1 17 := ⟨by decide +kernel, rfl⟩
theorem dX3_house_17 : mx_at cX3_house 17 (.aload_n 0) 1 18 := ⟨by decide +kernel, rfl⟩
theorem dX3_house_18 : mx_at cX3_house 18 (.getfield 10) 3 21 := ⟨by decide +kernel, rfl⟩
theorem dX3_house_21 : mx_at cX3_house 21 (.iload_n 1) 1 22 := ⟨by decide +kernel, rfl⟩
theorem dX3_house_22 : mx_at cX3_house 22 (.invokevirtual 125) 3 25 := ⟨by decide +kernel, rfl⟩
theorem dX3_house_25 : mx_at cX3_house 25 (.astore_n 3) 1 26 := ⟨by decide +kernel, rfl⟩
theorem dX3_house_26 : mx_at cX3_house 26 (.iload_n 2) 1 27 := ⟨by decide +kernel, rfl⟩
theorem dX3_house_27 : decode cX3_house 27 = .ok (.tableswitch 110 0 8 #[49, 54, 59, 64, 69, 74, 79, 92, 97], 49) := by decide +kernel
theorem dX3_house_76 : mx_at cX3_house 76 (.aload_n 3) 1 77 := ⟨by decide +kernel, rfl⟩
theorem dX3_house_77 : mx_at cX3_house 77 (.getfield 148) 3 80 := ⟨by decide +kernel, rfl⟩
theorem dX3_house_80 : mx_at cX3_house 80 (.ireturn) 1 81 := ⟨by decide +kernel, rfl⟩
theorem dX3_house_81 : mx_at cX3_house 81 (.aload_n 3) 1 82 := ⟨by decide +kernel, rfl⟩
theorem dX3_house_82 : mx_at cX3_house 82 (.getfield 151) 3 85 := ⟨by decide +kernel, rfl⟩
theorem dX3_house_85 : mx_at cX3_house 85 (.ireturn) 1 86 := ⟨by decide +kernel, rfl⟩
theorem dX3_house_86 : mx_at cX3_house 86 (.aload_n 3) 1 87 := ⟨by decide +kernel, rfl⟩
theorem dX3_house_87 : mx_at cX3_house 87 (.getfield 154) 3 90 := ⟨by decide +kernel, rfl⟩
theorem dX3_house_90 : mx_at cX3_house 90 (.ireturn) 1 91 := ⟨by decide +kernel, rfl⟩
theorem dX3_house_91 : mx_at cX3_house 91 (.aload_n 3) 1 92 := ⟨by decide +kernel, rfl⟩
theorem dX3_house_92 : mx_at cX3_house 92 (.getfield 128) 3 95 := ⟨by decide +kernel, rfl⟩
theorem dX3_house_95 : mx_at cX3_house 95 (.ireturn) 1 96 := ⟨by decide +kernel, rfl⟩
theorem dX3_house_96 : mx_at cX3_house 96 (.aload_n 3) 1 97 := ⟨by decide +kernel, rfl⟩
theorem dX3_house_97 : mx_at cX3_house 97 (.getfield 133) 3 100 := ⟨by decide +kernel, rfl⟩
theorem dX3_house_100 : mx_at cX3_house 100 (.ireturn) 1 101 := ⟨by decide +kernel, rfl⟩
theorem dX3_house_101 : mx_at cX3_house 101 (.aload_n 3) 1 102 := ⟨by decide +kernel, rfl⟩
theorem dX3_house_102 : mx_at cX3_house 102 (.getfield 157) 3 105 := ⟨by decide +kernel, rfl⟩
theorem dX3_house_105 : mx_at cX3_house 105 (.ireturn) 1 106 := ⟨by decide +kernel, rfl⟩
theorem dX3_house_106 : mx_at cX3_house 106 (.aload_n 3) 1 107 := ⟨by decide +kernel, rfl⟩
theorem dX3_house_107 : mx_at cX3_house 107 (.getfield 136) 3 110 := ⟨by decide +kernel, rfl⟩
theorem dX3_house_110 : mx_br cX3_house 110 (.ifCond .eq 7) (7) 3 113 117 := ⟨by decide +kernel, rfl, by decide⟩
theorem dX3_house_113 : mx_at cX3_house 113 (.iconst 1) 1 114 := ⟨by decide +kernel, rfl⟩
theorem dX3_house_114 : mx_br cX3_house 114 (.goto 4) (4) 3 117 118 := ⟨by decide +kernel, rfl, by decide⟩
theorem dX3_house_117 : mx_at cX3_house 117 (.iconst 0) 1 118 := ⟨by decide +kernel, rfl⟩
theorem dX3_house_118 : mx_at cX3_house 118 (.ireturn) 1 119 := ⟨by decide +kernel, rfl⟩
theorem dX3_house_119 : mx_at cX3_house 119 (.aload_n 3) 1 120 := ⟨by decide +kernel, rfl⟩
theorem dX3_house_120 : mx_at cX3_house 120 (.invokevirtual 160) 3 123 := ⟨by decide +kernel, rfl⟩
theorem dX3_house_123 : mx_at cX3_house 123 (.ireturn) 1 124 := ⟨by decide +kernel, rfl⟩
theorem dX3_house_124 : mx_at cX3_house 124 (.aload_n 3) 1 125 := ⟨by decide +kernel, rfl⟩
theorem dX3_house_125 : mx_at cX3_house 125 (.invokevirtual 163) 3 128 := ⟨by decide +kernel, rfl⟩
theorem dX3_house_128 : mx_br cX3_house 128 (.ifCond .eq 7) (7) 3 131 135 := ⟨by decide +kernel, rfl, by decide⟩
theorem dX3_house_131 : mx_at cX3_house 131 (.iconst 1) 1 132 := ⟨by decide +kernel, rfl⟩
theorem dX3_house_132 : mx_br cX3_house 132 (.goto 4) (4) 3 135 136 := ⟨by decide +kernel, rfl, by decide⟩
theorem dX3_house_135 : mx_at cX3_house 135 (.iconst 0) 1 136 := ⟨by decide +kernel, rfl⟩
theorem dX3_house_136 : mx_at cX3_house 136 (.ireturn) 1 137 := ⟨by decide +kernel, rfl⟩
theorem dX3_house_137 : mx_at cX3_house 137 (.aload_n 0) 1 138 := ⟨by decide +kernel, rfl⟩
theorem dX3_house_138 : mx_at cX3_house 138 (.bipush (-2)) 2 140 := ⟨by decide +kernel, rfl⟩
theorem dX3_house_140 : mx_at cX3_house 140 (.invokevirtual 49) 3 143 := ⟨by decide +kernel, rfl⟩
theorem dX3_house_143 : mx_at cX3_house 143 (.ireturn) 1 144 := ⟨by decide +kernel, rfl⟩
theorem dX3_peoples_0 : mx_at cX3_peoples 0 (.aload_n 0) 1 1 := ⟨by decide +kernel, rfl⟩
theorem dX3_peoples_1 : mx_at cX3_peoples 1 (.getfield 10) 3 4 := ⟨by decide +kernel, rfl⟩
theorem dX3_peoples_4 : mx_at cX3_peoples 4 (.iload_n 1) 1 5 := ⟨by decide +kernel, rfl⟩
theorem dX3_peoples_5 : mx_at cX3_peoples 5 (.invokevirtual 122) 3 8 := ⟨by decide +kernel, rfl⟩
theorem dX3_peoples_8 : mx_br cX3_peoples 8 (.ifCond .ne 9) (9) 3 11 17 := ⟨by decide +kernel, rfl, by decide⟩
theorem dX3_peoples_11 : mx_at cX3_peoples 11 (.aload_n 0) 1 12 := ⟨by decide +kernel, rfl⟩
theorem dX3_peoples_12 : mx_at cX3_peoples 12 (.iconst (-1)) 1 13 := ⟨by decide +kernel, rfl⟩
theorem dX3_peoples_13 : mx_at cX3_peoples 13 (.invokevirtual 49) 3 16 := ⟨by decide +kernel, rfl⟩
theorem dX3_peoples_16 : mx_at cX3_peoples 16 (.ireturn) 1 17 := ⟨by decide +kernel, rfl⟩
theorem dX3_peoples_17 : mx_at cX3_peoples 17 (.iload_n 2) 1 18 := ⟨by decide +kernel, rfl⟩
theorem dX3_peoples_18 : mx_br cX3_peoples 18 (.ifCond .ge 10) (10) 3 21 28 := ⟨by decide +kernel, rfl, by decide⟩
theorem dX3_peoples_21 : mx_at cX3_peoples 21 (.aload_n 0) 1 22 := ⟨by decide +kernel, rfl⟩
theorem dX3_peoples_22 : mx_at cX3_peoples 22 (.bipush (-4)) 2 24 := ⟨by decide +kernel, rfl⟩
theorem dX3_peoples_24 : mx_at cX3_peoples 24 (.invokevirtual 49) 3 27 := ⟨by decide +kernel, rfl⟩
theorem dX3_peoples_27 : mx_at cX3_peoples 27 (.ireturn) 1 28 := ⟨by decide +kernel, rfl⟩
theorem dX3_peoples_28 : mx_at cX3_peoples 28 (.iload_n 2) 1 29 := ⟨by decide +kernel, rfl⟩
theorem dX3_peoples_29 : mx_at cX3_peoples 29 (.bipush 30) 2 31 := ⟨by decide +kernel, rfl⟩
theorem dX3_peoples_31 : mx_br cX3_peoples 31 (.if_icmp .le 10) (10) 3 34 41 := ⟨by decide +kernel, rfl, by decide⟩
theorem dX3_peoples_34 : mx_at cX3_peoples 34 (.aload_n 0) 1 35 := ⟨by decide +kernel, rfl⟩
theorem dX3_peoples_35 : mx_at cX3_peoples 35 (.bipush (-6)) 2 37 := ⟨by decide +kernel, rfl⟩
theorem dX3_peoples_37 : mx_at cX3_peoples 37 (.invokevirtual 49) 3 40 := ⟨by decide +kernel, rfl⟩
theorem dX3_peoples_40 : mx_at cX3_peoples 40 (.ireturn) 1 41 := ⟨by decide +kernel, rfl⟩
theorem dX3_peoples_41 : mx_at cX3_peoples 41 (.aload_n 0) 1 42 := ⟨by decide +kernel, rfl⟩
theorem dX3_peoples_42 : mx_at cX3_peoples 42 (.getfield 10) 3 45 := ⟨by decide +kernel, rfl⟩
theorem dX3_peoples_45 : mx_at cX3_peoples 45 (.iload_n 1) 1 46 := ⟨by decide +kernel, rfl⟩
theorem dX3_peoples_46 : mx_at cX3_peoples 46 (.invokevirtual 125) 3 49 := ⟨by decide +kernel, rfl⟩
theorem dX3_peoples_49 : mx_at cX3_peoples 49 (.astore_n 3) 1 50 := ⟨by decide +kernel, rfl⟩
theorem dX3_peoples_50 : mx_at cX3_peoples 50 (.aload_n 3) 1 51 := ⟨by decide +kernel, rfl⟩
theorem dX3_peoples_51 : mx_at cX3_peoples 51 (.getfield 128) 3 54 := ⟨by decide +kernel, rfl⟩
theorem dX3_peoples_54 : mx_at cX3_peoples 54 (.istore 4) 2 56 := ⟨by decide +kernel, rfl⟩
theorem dX3_peoples_56 : mx_at cX3_peoples 56 (.aload_n 3) 1 57 := ⟨by decide +kernel, rfl⟩
theorem dX3_peoples_57 : mx_at cX3_peoples 57 (.iload_n 2) 1 58 := ⟨by decide +kernel, rfl⟩
theorem dX3_peoples_58 : mx_at cX3_peoples 58 (.putfield 128) 3 61 := ⟨by decide +kernel, rfl⟩
theorem dX3_peoples_61 : mx_at cX3_peoples 61 (.iload 4) 2 63 := ⟨by decide +kernel, rfl⟩
theorem dX3_peoples_63 : mx_at cX3_peoples 63 (.ireturn) 1 64 := ⟨by decide +kernel, rfl⟩
theorem dX3_airs_0 : mx_at cX3_airs 0 (.aload_n 0) 1 1 := ⟨by decide +kernel, rfl⟩
theorem dX3_airs_1 : mx_at cX3_airs 1 (.getfield 10) 3 4 := ⟨by decide +kernel, rfl⟩
theorem dX3_airs_4 : mx_at cX3_airs 4 (.iload_n 1) 1 5 := ⟨by decide +kernel, rfl⟩
theorem dX3_airs_5 : mx_at cX3_airs 5 (.invokevirtual 122) 3 8 := ⟨by decide +kernel, rfl⟩
theorem dX3_airs_8 : mx_br cX3_airs 8 (.ifCond .ne 9) (9) 3 11 17 := ⟨by decide +kernel, rfl, by decide⟩
theorem dX3_airs_11 : mx_at cX3_airs 11 (.aload_n 0) 1 12 := ⟨by decide +kernel, rfl⟩
theorem dX3_airs_12 : mx_at cX3_airs 12 (.iconst (-1)) 1 13 := ⟨by decide +kernel, rfl⟩
theorem dX3_airs_13 : mx_at cX3_airs 13 (.invokevirtual 49) 3 16 := ⟨by decide +kernel, rfl⟩
theorem dX3_airs_16 : mx_at cX3_airs 16 (.ireturn) 1 17 := ⟨by decide +kernel, rfl⟩
theorem dX3_airs_17 : mx_at cX3_airs 17 (.aload_n 0) 1 18 := ⟨by decide +kernel, rfl⟩
theorem dX3_airs_18 : mx_at cX3_airs 18 (.getfield 10) 3 21 := ⟨by decide +kernel, rfl⟩
theorem dX3_airs_21 : mx_at cX3_airs 21 (.iload_n 1) 1 22 := ⟨by decide +kernel, rfl⟩
theorem dX3_airs_22 : mx_at cX3_airs 22 (.invokevirtual 125) 3 25 := ⟨by decide +kernel, rfl⟩
theorem dX3_airs_25 : mx_at cX3_airs 25 (.astore_n 2) 1 26 := ⟨by decide +kernel, rfl⟩
theorem dX3_airs_26 : mx_at cX3_airs 26 (.aload_n 2) 1 27 := ⟨by decide +kernel, rfl⟩
theorem dX3_airs_27 : mx_at cX3_airs 27 (.getfield 136) 3 30 := ⟨by decide +kernel, rfl⟩
theorem dX3_airs_30 : mx_br cX3_airs 30 (.ifCond .ne 10) (10) 3 33 40 := ⟨by decide +kernel, rfl, by decide⟩
theorem dX3_airs_33 : mx_at cX3_airs 33 (.aload_n 0) 1 34 := ⟨by decide +kernel, rfl⟩
theorem dX3_airs_34 : mx_at cX3_airs 34 (.bipush (-3)) 2 36 := ⟨by decide +kernel, rfl⟩
theorem dX3_airs_36 : mx_at cX3_airs 36 (.invokevirtual 49) 3 39 := ⟨by decide +kernel, rfl⟩
theorem dX3_airs_39 : mx_at cX3_airs 39 (.ireturn) 1 40 := ⟨by decide +kernel, rfl⟩
theorem dX3_airs_40 : mx_at cX3_airs 40 (.aload_n 2) 1 41 := ⟨by decide +kernel, rfl⟩
theorem dX3_airs_41 : mx_at cX3_airs 41 (.getfield 133) 3 44 := ⟨by decide +kernel, rfl⟩
theorem dX3_airs_44 : mx_at cX3_airs 44 (.istore_n 3) 1 45 := ⟨by decide +kernel, rfl⟩
theorem dX3_airs_45 : mx_at cX3_airs 45 (.aload_n 2) 1 46 := ⟨by decide +kernel, rfl⟩
theorem dX3_airs_46 : mx_at cX3_airs 46 (.iconst 0) 1 47 := ⟨by decide +kernel, rfl⟩
theorem dX3_airs_47 : mx_at cX3_airs 47 (.putfield 133) 3 50 := ⟨by decide +kernel, rfl⟩
theorem dX3_airs_50 : mx_at cX3_airs 50 (.iload_n 3) 1 51 := ⟨by decide +kernel, rfl⟩
theorem dX3_airs_51 : mx_at cX3_airs 51 (.ireturn) 1 52 := ⟨by decide +kernel, rfl⟩
theorem dX3_dents_0 : mx_at cX3_dents 0 (.aload_n 0) 1 1 := ⟨by decide +kernel, rfl⟩
theorem dX3_dents_1 : mx_at cX3_dents 1 (.getfield 10) 3 4 := ⟨by decide +kernel, rfl⟩
theorem dX3_dents_4 : mx_at cX3_dents 4 (.iload_n 1) 1 5 := ⟨by decide +kernel, rfl⟩
theorem dX3_dents_5 : mx_at cX3_dents 5 (.invokevirtual 122) 3 8 := ⟨by decide +kernel, rfl⟩
theorem dX3_dents_8 : mx_br cX3_dents 8 (.ifCond .ne 9) (9) 3 11 17 := ⟨by decide +kernel, rfl, by decide⟩
theorem dX3_dents_11 : mx_at cX3_dents 11 (.aload_n 0) 1 12 := ⟨by decide +kernel, rfl⟩
theorem dX3_dents_12 : mx_at cX3_dents 12 (.iconst (-1)) 1 13 := ⟨by decide +kernel, rfl⟩
theorem dX3_dents_13 : mx_at cX3_dents 13 (.invokevirtual 49) 3 16 := ⟨by decide +kernel, rfl⟩
theorem dX3_dents_16 : mx_at cX3_dents 16 (.ireturn) 1 17 := ⟨by decide +kernel, rfl⟩
theorem dX3_dents_17 : mx_at cX3_dents 17 (.iload_n 2) 1 18 := ⟨by decide +kernel, rfl⟩
theorem dX3_dents_18 : mx_br cX3_dents 18 (.ifCond .ge 10) (10) 3 21 28 := ⟨by decide +kernel, rfl, by decide⟩
theorem dX3_dents_21 : mx_at cX3_dents 21 (.aload_n 0) 1 22 := ⟨by decide +kernel, rfl⟩
theorem dX3_dents_22 : mx_at cX3_dents 22 (.bipush (-4)) 2 24 := ⟨by decide +kernel, rfl⟩
theorem dX3_dents_24 : mx_at cX3_dents 24 (.invokevirtual 49) 3 27 := ⟨by decide +kernel, rfl⟩
theorem dX3_dents_27 : mx_at cX3_dents 27 (.ireturn) 1 28 := ⟨by decide +kernel, rfl⟩
theorem dX3_dents_28 : mx_at cX3_dents 28 (.iload_n 2) 1 29 := ⟨by decide +kernel, rfl⟩
theorem dX3_dents_29 : mx_at cX3_dents 29 (.bipush 9) 2 31 := ⟨by decide +kernel, rfl⟩
theorem dX3_dents_31 : mx_br cX3_dents 31 (.if_icmp .le 10) (10) 3 34 41 := ⟨by decide +kernel, rfl, by decide⟩
theorem dX3_dents_34 : mx_at cX3_dents 34 (.aload_n 0) 1 35 := ⟨by decide +kernel, rfl⟩
theorem dX3_dents_35 : mx_at cX3_dents 35 (.bipush (-6)) 2 37 := ⟨by decide +kernel, rfl⟩
theorem dX3_dents_37 : mx_at cX3_dents 37 (.invokevirtual 49) 3 40 := ⟨by decide +kernel, rfl⟩
theorem dX3_dents_40 : mx_at cX3_dents 40 (.ireturn) 1 41 := ⟨by decide +kernel, rfl⟩
theorem dX3_dents_41 : mx_at cX3_dents 41 (.aload_n 0) 1 42 := ⟨by decide +kernel, rfl⟩
theorem dX3_dents_42 : mx_at cX3_dents 42 (.getfield 10) 3 45 := ⟨by decide +kernel, rfl⟩
theorem dX3_dents_45 : mx_at cX3_dents 45 (.iload_n 1) 1 46 := ⟨by decide +kernel, rfl⟩
theorem dX3_dents_46 : mx_at cX3_dents 46 (.invokevirtual 125) 3 49 := ⟨by decide +kernel, rfl⟩
theorem dX3_dents_49 : mx_at cX3_dents 49 (.astore_n 3) 1 50 := ⟨by decide +kernel, rfl⟩
theorem dX3_dents_50 : mx_at cX3_dents 50 (.aload_n 3) 1 51 := ⟨by decide +kernel, rfl⟩
theorem dX3_dents_51 : mx_at cX3_dents 51 (.getfield 157) 3 54 := ⟨by decide +kernel, rfl⟩
theorem dX3_dents_54 : mx_at cX3_dents 54 (.istore 4) 2 56 := ⟨by decide +kernel, rfl⟩
theorem dX3_dents_56 : mx_at cX3_dents 56 (.aload_n 3) 1 57 := ⟨by decide +kernel, rfl⟩
theorem dX3_dents_57 : mx_at cX3_dents 57 (.iload_n 2) 1 58 := ⟨by decide +kernel, rfl⟩
theorem dX3_dents_58 : mx_at cX3_dents 58 (.putfield 157) 3 61 := ⟨by decide +kernel, rfl⟩
theorem dX3_dents_61 : mx_at cX3_dents 61 (.iload 4) 2 63 := ⟨by decide +kernel, rfl⟩
theorem dX3_dents_63 : mx_at cX3_dents 63 (.ireturn) 1 64 := ⟨by decide +kernel, rfl⟩
theorem dX3_keeps_0 : mx_at cX3_keeps 0 (.aload_n 0) 1 1 := ⟨by decide +kernel, rfl⟩
theorem dX3_keeps_1 : mx_at cX3_keeps 1 (.getfield 10) 3 4 := ⟨by decide +kernel, rfl⟩
theorem dX3_keeps_4 : mx_at cX3_keeps 4 (.iload_n 1) 1 5 := ⟨by decide +kernel, rfl⟩
theorem dX3_keeps_5 : mx_at cX3_keeps 5 (.invokevirtual 122) 3 8 := ⟨by decide +kernel, rfl⟩
theorem dX3_keeps_8 : mx_br cX3_keeps 8 (.ifCond .ne 9) (9) 3 11 17 := ⟨by decide +kernel, rfl, by decide⟩
theorem dX3_keeps_11 : mx_at cX3_keeps 11 (.aload_n 0) 1 12 := ⟨by decide +kernel, rfl⟩
theorem dX3_keeps_12 : mx_at cX3_keeps 12 (.iconst (-1)) 1 13 := ⟨by decide +kernel, rfl⟩
theorem dX3_keeps_13 : mx_at cX3_keeps 13 (.invokevirtual 49) 3 16 := ⟨by decide +kernel, rfl⟩
theorem dX3_keeps_16 : mx_at cX3_keeps 16 (.ireturn) 1 17 := ⟨by decide +kernel, rfl⟩
theorem dX3_keeps_17 : mx_at cX3_keeps 17 (.aload_n 0) 1 18 := ⟨by decide +kernel, rfl⟩
theorem dX3_keeps_18 : mx_at cX3_keeps 18 (.getfield 10) 3 21 := ⟨by decide +kernel, rfl⟩
theorem dX3_keeps_21 : mx_at cX3_keeps 21 (.iload_n 1) 1 22 := ⟨by decide +kernel, rfl⟩
theorem dX3_keeps_22 : mx_at cX3_keeps 22 (.invokevirtual 125) 3 25 := ⟨by decide +kernel, rfl⟩
theorem dX3_keeps_25 : mx_at cX3_keeps 25 (.astore_n 2) 1 26 := ⟨by decide +kernel, rfl⟩
theorem dX3_keeps_26 : mx_at cX3_keeps 26 (.aload_n 2) 1 27 := ⟨by decide +kernel, rfl⟩
theorem dX3_keeps_27 : mx_at cX3_keeps 27 (.aload_n 2) 1 28 := ⟨by decide +kernel, rfl⟩
theorem dX3_keeps_28 : mx_at cX3_keeps 28 (.getfield 136) 3 31 := ⟨by decide +kernel, rfl⟩
theorem dX3_keeps_31 : mx_br cX3_keeps 31 (.ifCond .ne 7) (7) 3 34 38 := ⟨by decide +kernel, rfl, by decide⟩
theorem dX3_keeps_34 : mx_at cX3_keeps 34 (.iconst 1) 1 35 := ⟨by decide +kernel, rfl⟩
theorem dX3_keeps_35 : mx_br cX3_keeps 35 (.goto 4) (4) 3 38 39 := ⟨by decide +kernel, rfl, by decide⟩
theorem dX3_keeps_38 : mx_at cX3_keeps 38 (.iconst 0) 1 39 := ⟨by decide +kernel, rfl⟩
theorem dX3_keeps_39 : mx_at cX3_keeps 39 (.putfield 136) 3 42 := ⟨by decide +kernel, rfl⟩
theorem dX3_keeps_42 : mx_at cX3_keeps 42 (.aload_n 2) 1 43 := ⟨by decide +kernel, rfl⟩
theorem dX3_keeps_43 : mx_at cX3_keeps 43 (.getfield 136) 3 46 := ⟨by decide +kernel, rfl⟩
theorem dX3_keeps_46 : mx_br cX3_keeps 46 (.ifCond .eq 7) (7) 3 49 53 := ⟨by decide +kernel, rfl, by decide⟩
theorem dX3_keeps_49 : mx_at cX3_keeps 49 (.iconst 1) 1 50 := ⟨by decide +kernel, rfl⟩
theorem dX3_keeps_50 : mx_br cX3_keeps 50 (.goto 4) (4) 3 53 54 := ⟨by decide +kernel, rfl, by decide⟩
theorem dX3_keeps_53 : mx_at cX3_keeps 53 (.iconst 0) 1 54 := ⟨by decide +kernel, rfl⟩
theorem dX3_keeps_54 : mx_at cX3_keeps 54 (.ireturn) 1 55 := ⟨by decide +kernel, rfl⟩
theorem dX3_visits_0 : mx_at cX3_visits 0 (.aload_n 0) 1 1 := ⟨by decide +kernel, rfl⟩
theorem dX3_visits_1 : mx_at cX3_visits 1 (.getfield 10) 3 4 := ⟨by decide +kernel, rfl⟩
theorem dX3_visits_4 : mx_at cX3_visits 4 (.iload_n 1) 1 5 := ⟨by decide +kernel, rfl⟩
theorem dX3_visits_5 : mx_at cX3_visits 5 (.invokevirtual 122) 3 8 := ⟨by decide +kernel, rfl⟩
theorem dX3_visits_8 : mx_br cX3_visits 8 (.ifCond .ne 9) (9) 3 11 17 := ⟨by decide +kernel, rfl, by decide⟩
theorem dX3_visits_11 : mx_at cX3_visits 11 (.aload_n 0) 1 12 := ⟨by decide +kernel, rfl⟩
theorem dX3_visits_12 : mx_at cX3_visits 12 (.iconst (-1)) 1 13 := ⟨by decide +kernel, rfl⟩
theorem dX3_visits_13 : mx_at cX3_visits 13 (.invokevirtual 49) 3 16 := ⟨by decide +kernel, rfl⟩
theorem dX3_visits_16 : mx_at cX3_visits 16 (.ireturn) 1 17 := ⟨by decide +kernel, rfl⟩
theorem dX3_visits_17 : mx_at cX3_visits 17 (.aload_n 0) 1 18 := ⟨by decide +kernel, rfl⟩
theorem dX3_visits_18 : mx_at cX3_visits 18 (.getfield 10) 3 21 := ⟨by decide +kernel, rfl⟩
theorem dX3_visits_21 : mx_at cX3_visits 21 (.getfield 139) 3 24 := ⟨by decide +kernel, rfl⟩
theorem dX3_visits_24 : mx_at cX3_visits 24 (.istore_n 2) 1 25 := ⟨by decide +kernel, rfl⟩
theorem dX3_visits_25 : mx_at cX3_visits 25 (.aload_n 0) 1 26 := ⟨by decide +kernel, rfl⟩
theorem dX3_visits_26 : mx_at cX3_visits 26 (.getfield 10) 3 29 := ⟨by decide +kernel, rfl⟩
theorem dX3_visits_29 : mx_at cX3_visits 29 (.iload_n 1) 1 30 := ⟨by decide +kernel, rfl⟩
theorem dX3_visits_30 : mx_at cX3_visits 30 (.putfield 139) 3 33 := ⟨by decide +kernel, rfl⟩
theorem dX3_visits_33 : mx_at cX3_visits 33 (.iload_n 2) 1 34 := ⟨by decide +kernel, rfl⟩
theorem dX3_visits_34 : mx_at cX3_visits 34 (.ireturn) 1 35 := ⟨by decide +kernel, rfl⟩
theorem dX3_candles_0 : mx_at cX3_candles 0 (.iload_n 1) 1 1 := ⟨by decide +kernel, rfl⟩
theorem dX3_candles_1 : mx_br cX3_candles 1 (.ifCond .ge 10) (10) 3 4 11 := ⟨by decide +kernel, rfl, by decide⟩
theorem dX3_candles_4 : mx_at cX3_candles 4 (.aload_n 0) 1 5 := ⟨by decide +kernel, rfl⟩
theorem dX3_candles_5 : mx_at cX3_candles 5 (.bipush (-4)) 2 7 := ⟨by decide +kernel, rfl⟩
theorem dX3_candles_7 : mx_at cX3_candles 7 (.invokevirtual 49) 3 10 := ⟨by decide +kernel, rfl⟩
theorem dX3_candles_10 : mx_at cX3_candles 10 (.ireturn) 1 11 := ⟨by decide +kernel, rfl⟩
theorem dX3_candles_11 : mx_at cX3_candles 11 (.iload_n 1) 1 12 := ⟨by decide +kernel, rfl⟩
theorem dX3_candles_12 : mx_at cX3_candles 12 (.sipush 999) 3 15 := ⟨by decide +kernel, rfl⟩
theorem dX3_candles_15 : mx_br cX3_candles 15 (.if_icmp .le 10) (10) 3 18 25 := ⟨by decide +kernel, rfl, by decide⟩
theorem dX3_candles_18 : mx_at cX3_candles 18 (.aload_n 0) 1 19 := ⟨by decide +kernel, rfl⟩
theorem dX3_candles_19 : mx_at cX3_candles 19 (.bipush (-6)) 2 21 := ⟨by decide +kernel, rfl⟩
theorem dX3_candles_21 : mx_at cX3_candles 21 (.invokevirtual 49) 3 24 := ⟨by decide +kernel, rfl⟩
theorem dX3_candles_24 : mx_at cX3_candles 24 (.ireturn) 1 25 := ⟨by decide +kernel, rfl⟩
theorem dX3_candles_25 : mx_at cX3_candles 25 (.aload_n 0) 1 26 := ⟨by decide +kernel, rfl⟩
theorem dX3_candles_26 : mx_at cX3_candles 26 (.getfield 10) 3 29 := ⟨by decide +kernel, rfl⟩
theorem dX3_candles_29 : mx_at cX3_candles 29 (.getfield 45) 3 32 := ⟨by decide +kernel, rfl⟩
theorem dX3_candles_32 : mx_at cX3_candles 32 (.istore_n 2) 1 33 := ⟨by decide +kernel, rfl⟩
theorem dX3_candles_33 : mx_at cX3_candles 33 (.aload_n 0) 1 34 := ⟨by decide +kernel, rfl⟩
theorem dX3_candles_34 : mx_at cX3_candles 34 (.getfield 10) 3 37 := ⟨by decide +kernel, rfl⟩
theorem dX3_candles_37 : mx_at cX3_candles 37 (.iload_n 1) 1 38 := ⟨by decide +kernel, rfl⟩
theorem dX3_candles_38 : mx_at cX3_candles 38 (.putfield 45) 3 41 := ⟨by decide +kernel, rfl⟩
theorem dX3_candles_41 : mx_at cX3_candles 41 (.iload_n 2) 1 42 := ⟨by decide +kernel, rfl⟩
theorem dX3_candles_42 : mx_at cX3_candles 42 (.ireturn) 1 43 := ⟨by decide +kernel, rfl⟩
theorem dX3_turn_0 : mx_at cX3_turn 0 (.aload_n 0) 1 1 := ⟨by decide +kernel, rfl⟩
theorem dX3_turn_1 : mx_at cX3_turn 1 (.getfield 10) 3 4 := ⟨by decide +kernel, rfl⟩
theorem dX3_turn_4 : mx_at cX3_turn 4 (.iload_n 1) 1 5 := ⟨by decide +kernel, rfl⟩
theorem dX3_turn_5 : mx_at cX3_turn 5 (.invokevirtual 122) 3 8 := ⟨by decide +kernel, rfl⟩
theorem dX3_turn_8 : mx_br cX3_turn 8 (.ifCond .ne 9) (9) 3 11 17 := ⟨by decide +kernel, rfl, by decide⟩
theorem dX3_turn_11 : mx_at cX3_turn 11 (.aload_n 0) 1 12 := ⟨by decide +kernel, rfl⟩
theorem dX3_turn_12 : mx_at cX3_turn 12 (.iconst (-1)) 1 13 := ⟨by decide +kernel, rfl⟩
theorem dX3_turn_13 : mx_at cX3_turn 13 (.invokevirtual 49) 3 16 := ⟨by decide +kernel, rfl⟩
theorem dX3_turn_16 : mx_at cX3_turn 16 (.ireturn) 1 17 := ⟨by decide +kernel, rfl⟩
theorem dX3_turn_17 : mx_at cX3_turn 17 (.iload_n 2) 1 18 := ⟨by decide +kernel, rfl⟩
theorem dX3_turn_18 : mx_br cX3_turn 18 (.ifCond .lt 9) (9) 3 21 27 := ⟨by decide +kernel, rfl, by decide⟩
theorem dX3_turn_21 : mx_at cX3_turn 21 (.iload_n 2) 1 22 := ⟨by decide +kernel, rfl⟩
theorem dX3_turn_22 : mx_at cX3_turn 22 (.bipush 6) 2 24 := ⟨by decide +kernel, rfl⟩
theorem dX3_turn_24 : mx_br cX3_turn 24 (.if_icmp .lt 10) (10) 3 27 34 := ⟨by decide +kernel, rfl, by decide⟩
theorem dX3_turn_27 : mx_at cX3_turn 27 (.aload_n 0) 1 28 := ⟨by decide +kernel, rfl⟩
theorem dX3_turn_28 : mx_at cX3_turn 28 (.bipush (-2)) 2 30 := ⟨by decide +kernel, rfl⟩
theorem dX3_turn_30 : mx_at cX3_turn 30 (.invokevirtual 49) 3 33 := ⟨by decide +kernel, rfl⟩
theorem dX3_turn_33 : mx_at cX3_turn 33 (.ireturn) 1 34 := ⟨by decide +kernel, rfl⟩
theorem dX3_turn_34 : mx_at cX3_turn 34 (.iload_n 3) 1 35 := ⟨by decide +kernel, rfl⟩
theorem dX3_turn_35 : mx_br cX3_turn 35 (.ifCond .ge 10) (10) 3 38 45 := ⟨by decide +kernel, rfl, by decide⟩
theorem dX3_turn_38 : mx_at cX3_turn 38 (.aload_n 0) 1 39 := ⟨by decide +kernel, rfl⟩
theorem dX3_turn_39 : mx_at cX3_turn 39 (.bipush (-4)) 2 41 := ⟨by decide +kernel, rfl⟩
theorem dX3_turn_41 : mx_at cX3_turn 41 (.invokevirtual 49) 3 44 := ⟨by decide +kernel, rfl⟩
theorem dX3_turn_44 : mx_at cX3_turn 44 (.ireturn) 1 45 := ⟨by decide +kernel, rfl⟩
theorem dX3_turn_45 : mx_at cX3_turn 45 (.iload_n 3) 1 46 := ⟨by decide +kernel, rfl⟩
theorem dX3_turn_46 : mx_at cX3_turn 46 (.bipush 9) 2 48 := ⟨by decide +kernel, rfl⟩
theorem dX3_turn_48 : mx_br cX3_turn 48 (.if_icmp .le 10) (10) 3 51 58 := ⟨by decide +kernel, rfl, by decide⟩
theorem dX3_turn_51 : mx_at cX3_turn 51 (.aload_n 0) 1 52 := ⟨by decide +kernel, rfl⟩
theorem dX3_turn_52 : mx_at cX3_turn 52 (.bipush (-6)) 2 54 := ⟨by decide +kernel, rfl⟩
theorem dX3_turn_54 : mx_at cX3_turn 54 (.invokevirtual 49) 3 57 := ⟨by decide +kernel, rfl⟩
theorem dX3_turn_57 : mx_at cX3_turn 57 (.ireturn) 1 58 := ⟨by decide +kernel, rfl⟩
theorem dX3_turn_58 : mx_at cX3_turn 58 (.aload_n 0) 1 59 := ⟨by decide +kernel, rfl⟩
theorem dX3_turn_59 : mx_at cX3_turn 59 (.getfield 10) 3 62 := ⟨by decide +kernel, rfl⟩
theorem dX3_turn_62 : mx_at cX3_turn 62 (.iload_n 1) 1 63 := ⟨by decide +kernel, rfl⟩
theorem dX3_turn_63 : mx_at cX3_turn 63 (.invokevirtual 125) 3 66 := ⟨by decide +kernel, rfl⟩
theorem dX3_turn_66 : mx_at cX3_turn 66 (.astore 4) 2 68 := ⟨by decide +kernel, rfl⟩
theorem dX3_turn_68 : mx_at cX3_turn 68 (.bipush 10) 2 70 := ⟨by decide +kernel, rfl⟩
theorem dX3_turn_70 : mx_at cX3_turn 70 (.aload 4) 2 72 := ⟨by decide +kernel, rfl⟩
theorem dX3_turn_72 : mx_at cX3_turn 72 (.getfield 148) 3 75 := ⟨by decide +kernel, rfl⟩
theorem dX3_turn_75 : mx_at cX3_turn 75 (.imul) 1 76 := ⟨by decide +kernel, rfl⟩
theorem dX3_turn_76 : mx_at cX3_turn 76 (.aload 4) 2 78 := ⟨by decide +kernel, rfl⟩
theorem dX3_turn_78 : mx_at cX3_turn 78 (.getfield 151) 3 81 := ⟨by decide +kernel, rfl⟩
theorem dX3_turn_81 : mx_at cX3_turn 81 (.iadd) 1 82 := ⟨by decide +kernel, rfl⟩
theorem dX3_turn_82 : mx_at cX3_turn 82 (.istore 5) 2 84 := ⟨by decide +kernel, rfl⟩
theorem dX3_turn_84 : mx_at cX3_turn 84 (.aload 4) 2 86 := ⟨by decide +kernel, rfl⟩
theorem dX3_turn_86 : mx_at cX3_turn 86 (.iload_n 2) 1 87 := ⟨by decide +kernel, rfl⟩
theorem dX3_turn_87 : mx_at cX3_turn 87 (.putfield 148) 3 90 := ⟨by decide +kernel, rfl⟩
theorem dX3_turn_90 : mx_at cX3_turn 90 (.aload 4) 2 92 := ⟨by decide +kernel, rfl⟩
theorem dX3_turn_92 : mx_at cX3_turn 92 (.iload_n 3) 1 93 := ⟨by decide +kernel, rfl⟩
theorem dX3_turn_93 : mx_at cX3_turn 93 (.putfield 151) 3 96 := ⟨by decide +kernel, rfl⟩
theorem dX3_turn_96 : mx_at cX3_turn 96 (.iload 5) 2 98 := ⟨by decide +kernel, rfl⟩
theorem dX3_turn_98 : mx_at cX3_turn 98 (.ireturn) 1 99 := ⟨by decide +kernel, rfl⟩
theorem dX3_weeks_0 : mx_at cX3_weeks 0 (.iload_n 1) 1 1 := ⟨by decide +kernel, rfl⟩
theorem dX3_weeks_1 : mx_at cX3_weeks 1 (.iconst 1) 1 2 := ⟨by decide +kernel, rfl⟩
theorem dX3_weeks_2 : mx_br cX3_weeks 2 (.if_icmp .ge 10) (10) 3 5 12 := ⟨by decide +kernel, rfl, by decide⟩
theorem dX3_weeks_5 : mx_at cX3_weeks 5 (.aload_n 0) 1 6 := ⟨by decide +kernel, rfl⟩
theorem dX3_weeks_6 : mx_at cX3_weeks 6 (.bipush (-4)) 2 8 := ⟨by decide +kernel, rfl⟩
theorem dX3_weeks_8 : mx_at cX3_weeks 8 (.invokevirtual 49) 3 11 := ⟨by decide +kernel, rfl⟩
theorem dX3_weeks_11 : mx_at cX3_weeks 11 (.ireturn) 1 12 := ⟨by decide +kernel, rfl⟩
theorem dX3_weeks_12 : mx_at cX3_weeks 12 (.iload_n 1) 1 13 := ⟨by decide +kernel, rfl⟩
theorem dX3_weeks_13 : mx_at cX3_weeks 13 (.bipush 60) 2 15 := ⟨by decide +kernel, rfl⟩
theorem dX3_weeks_15 : mx_br cX3_weeks 15 (.if_icmp .gt 18) (18) 3 18 33 := ⟨by decide +kernel, rfl, by decide⟩
theorem dX3_weeks_18 : mx_at cX3_weeks 18 (.aload_n 0) 1 19 := ⟨by decide +kernel, rfl⟩
theorem dX3_weeks_19 : mx_at cX3_weeks 19 (.getfield 10) 3 22 := ⟨by decide +kernel, rfl⟩
theorem dX3_weeks_22 : mx_at cX3_weeks 22 (.getfield 142) 3 25 := ⟨by decide +kernel, rfl⟩
theorem dX3_weeks_25 : mx_at cX3_weeks 25 (.iload_n 1) 1 26 := ⟨by decide +kernel, rfl⟩
theorem dX3_weeks_26 : mx_at cX3_weeks 26 (.iadd) 1 27 := ⟨by decide +kernel, rfl⟩
theorem dX3_weeks_27 : mx_at cX3_weeks 27 (.sipush 999) 3 30 := ⟨by decide +kernel, rfl⟩
theorem dX3_weeks_30 : mx_br cX3_weeks 30 (.if_icmp .le 10) (10) 3 33 40 := ⟨by decide +kernel, rfl, by decide⟩
theorem dX3_weeks_33 : mx_at cX3_weeks 33 (.aload_n 0) 1 34 := ⟨by decide +kernel, rfl⟩
theorem dX3_weeks_34 : mx_at cX3_weeks 34 (.bipush (-6)) 2 36 := ⟨by decide +kernel, rfl⟩
theorem dX3_weeks_36 : mx_at cX3_weeks 36 (.invokevirtual 49) 3 39 := ⟨by decide +kernel, rfl⟩
theorem dX3_weeks_39 : mx_at cX3_weeks 39 (.ireturn) 1 40 := ⟨by decide +kernel, rfl⟩
theorem dX3_weeks_40 : mx_at cX3_weeks 40 (.aload_n 0) 1 41 := ⟨by decide +kernel, rfl⟩
theorem dX3_weeks_41 : mx_at cX3_weeks 41 (.getfield 10) 3 44 := ⟨by decide +kernel, rfl⟩
theorem dX3_weeks_44 : mx_at cX3_weeks 44 (.iload_n 1) 1 45 := ⟨by decide +kernel, rfl⟩
theorem dX3_weeks_45 : mx_at cX3_weeks 45 (.invokevirtual 145) 3 48 := ⟨by decide +kernel, rfl⟩
theorem dX3_weeks_48 : mx_at cX3_weeks 48 (.aload_n 0) 1 49 := ⟨by decide +kernel, rfl⟩
theorem dX3_weeks_49 : mx_at cX3_weeks 49 (.getfield 10) 3 52 := ⟨by decide +kernel, rfl⟩
theorem dX3_weeks_52 : mx_at cX3_weeks 52 (.invokevirtual 166) 3 55 := ⟨by decide +kernel, rfl⟩
theorem dX3_weeks_55 : mx_at cX3_weeks 55 (.ireturn) 1 56 := ⟨by decide +kernel, rfl⟩
theorem dX3_houseThen_0 : mx_at cX3_houseThen 0 (.aload_n 0) 1 1 := ⟨by decide +kernel, rfl⟩
theorem dX3_houseThen_1 : mx_at cX3_houseThen 1 (.getfield 10) 3 4 := ⟨by decide +kernel, rfl⟩
theorem dX3_houseThen_4 : mx_at cX3_houseThen 4 (.iload_n 1) 1 5 := ⟨by decide +kernel, rfl⟩
theorem dX3_houseThen_5 : mx_at cX3_houseThen 5 (.invokevirtual 122) 3 8 := ⟨by decide +kernel, rfl⟩
theorem dX3_houseThen_8 : mx_br cX3_houseThen 8 (.ifCond .ne 9) (9) 3 11 17 := ⟨by decide +kernel, rfl, by decide⟩
theorem dX3_houseThen_11 : mx_at cX3_houseThen 11 (.aload_n 0) 1 12 := ⟨by decide +kernel, rfl⟩
theorem dX3_houseThen_12 : mx_at cX3_houseThen 12 (.iconst (-1)) 1 13 := ⟨by decide +kernel, rfl⟩
theorem dX3_houseThen_13 : mx_at cX3_houseThen 13 (.invokevirtual 49) 3 16 := ⟨by decide +kernel, rfl⟩
theorem dX3_houseThen_16 : mx_at cX3_houseThen 16 (.ireturn) 1 17 := ⟨by decide +kernel, rfl⟩
theorem dX3_houseThen_17 : mx_at cX3_houseThen 17 (.iload_n 2) 1 18 := ⟨by decide +kernel, rfl⟩
theorem dX3_houseThen_18 : mx_at cX3_houseThen 18 (.iconst 0) 1 19 := ⟨by decide +kernel, rfl⟩
theorem dX3_houseThen_19 : mx_at cX3_houseThen 19 (.bipush 60) 2 21 := ⟨by decide +kernel, rfl⟩
theorem dX3_houseThen_21 : mx_at cX3_houseThen 21 (.invokestatic 169) 3 24 := ⟨by decide +kernel, rfl⟩
theorem dX3_houseThen_24 : mx_at cX3_houseThen 24 (.istore 4) 2 26 := ⟨by decide +kernel, rfl⟩
theorem dX3_houseThen_26 : mx_at cX3_houseThen 26 (.iload 4) 2 28 := ⟨by decide +kernel, rfl⟩
theorem dX3_houseThen_28 : mx_br cX3_houseThen 28 (.ifCond .eq 10) (10) 3 31 38 := ⟨by decide +kernel, rfl, by decide⟩
theorem dX3_houseThen_31 : mx_at cX3_houseThen 31 (.aload_n 0) 1 32 := ⟨by decide +kernel, rfl⟩
theorem dX3_houseThen_32 : mx_at cX3_houseThen 32 (.iload 4) 2 34 := ⟨by decide +kernel, rfl⟩
theorem dX3_houseThen_34 : mx_at cX3_houseThen 34 (.invokevirtual 49) 3 37 := ⟨by decide +kernel, rfl⟩
theorem dX3_houseThen_37 : mx_at cX3_houseThen 37 (.ireturn) 1 38 := ⟨by decide +kernel, rfl⟩
theorem dX3_houseThen_38 : mx_at cX3_houseThen 38 (.iload_n 3) 1 39 := ⟨by decide +kernel, rfl⟩
theorem dX3_houseThen_39 : mx_br cX3_houseThen 39 (.ifCond .lt 8) (8) 3 42 47 := ⟨by decide +kernel, rfl, by decide⟩
theorem dX3_houseThen_42 : mx_at cX3_houseThen 42 (.iload_n 3) 1 43 := ⟨by decide +kernel, rfl⟩
theorem dX3_houseThen_43 : mx_at cX3_houseThen 43 (.iconst 2) 1 44 := ⟨by decide +kernel, rfl⟩
theorem dX3_houseThen_44 : mx_br cX3_houseThen 44 (.if_icmp .le 10) (10) 3 47 54 := ⟨by decide +kernel, rfl, by decide⟩
theorem dX3_houseThen_47 : mx_at cX3_houseThen 47 (.aload_n 0) 1 48 := ⟨by decide +kernel, rfl⟩
theorem dX3_houseThen_48 : mx_at cX3_houseThen 48 (.bipush (-2)) 2 50 := ⟨by decide +kernel, rfl⟩
theorem dX3_houseThen_50 : mx_at cX3_houseThen 50 (.invokevirtual 49) 3 53 := ⟨by decide +kernel, rfl⟩
theorem dX3_houseThen_53 : mx_at cX3_houseThen 53 (.ireturn) 1 54 := ⟨by decide +kernel, rfl⟩
theorem dX3_houseThen_54 : mx_at cX3_houseThen 54 (.aload_n 0) 1 55 := ⟨by decide +kernel, rfl⟩
theorem dX3_houseThen_55 : mx_at cX3_houseThen 55 (.getfield 16) 3 58 := ⟨by decide +kernel, rfl⟩
theorem dX3_houseThen_58 : mx_at cX3_houseThen 58 (.aload_n 0) 1 59 := ⟨by decide +kernel, rfl⟩
theorem dX3_houseThen_59 : mx_at cX3_houseThen 59 (.getfield 10) 3 62 := ⟨by decide +kernel, rfl⟩
theorem dX3_houseThen_62 : mx_at cX3_houseThen 62 (.invokevirtual 73) 3 65 := ⟨by decide +kernel, rfl⟩
theorem dX3_houseThen_65 : mx_at cX3_houseThen 65 (.aload_n 0) 1 66 := ⟨by decide +kernel, rfl⟩
theorem dX3_houseThen_66 : mx_at cX3_houseThen 66 (.getfield 16) 3 69 := ⟨by decide +kernel, rfl⟩
theorem dX3_houseThen_69 : mx_at cX3_houseThen 69 (.iload_n 2) 1 70 := ⟨by decide +kernel, rfl⟩
theorem dX3_houseThen_70 : mx_at cX3_houseThen 70 (.invokevirtual 145) 3 73 := ⟨by decide +kernel, rfl⟩
theorem dX3_houseThen_73 : mx_at cX3_houseThen 73 (.aload_n 0) 1 74 := ⟨by decide +kernel, rfl⟩
theorem dX3_houseThen_74 : mx_at cX3_houseThen 74 (.getfield 16) 3 77 := ⟨by decide +kernel, rfl⟩
theorem dX3_houseThen_77 : mx_at cX3_houseThen 77 (.iload_n 1) 1 78 := ⟨by decide +kernel, rfl⟩
theorem dX3_houseThen_78 : mx_at cX3_houseThen 78 (.invokevirtual 125) 3 81 := ⟨by decide +kernel, rfl⟩
theorem dX3_houseThen_81 : mx_at cX3_houseThen 81 (.astore 5) 2 83 := ⟨by decide +kernel, rfl⟩
theorem dX3_houseThen_83 : mx_at cX3_houseThen 83 (.iload_n 3) 1 84 := ⟨by decide +kernel, rfl⟩
theorem dX3_houseThen_84 : mx_br cX3_houseThen 84 (.ifCond .ne 9) (9) 3 87 93 := ⟨by decide +kernel, rfl, by decide⟩
theorem dX3_houseThen_87 : mx_at cX3_houseThen 87 (.aload 5) 2 89 := ⟨by decide +kernel, rfl⟩
theorem dX3_houseThen_89 : mx_at cX3_houseThen 89 (.getfield 133) 3 92 := ⟨by decide +kernel, rfl⟩
theorem dX3_houseThen_92 : mx_at cX3_houseThen 92 (.ireturn) 1 93 := ⟨by decide +kernel, rfl⟩
theorem dX3_houseThen_93 : mx_at cX3_houseThen 93 (.iload_n 3) 1 94 := ⟨by decide +kernel, rfl⟩
theorem dX3_houseThen_94 : mx_at cX3_houseThen 94 (.iconst 1) 1 95 := ⟨by decide +kernel, rfl⟩
theorem dX3_houseThen_95 : mx_br cX3_houseThen 95 (.if_icmp .ne 11) (11) 3 98 106 := ⟨by decide +kernel, rfl, by decide⟩
theorem dX3_houseThen_98 : mx_at cX3_houseThen 98 (.aload 5) 2 100 := ⟨by decide +kernel, rfl⟩
theorem dX3_houseThen_100 : mx_at cX3_houseThen 100 (.getfield 157) 3 103 := ⟨by decide +kernel, rfl⟩
theorem dX3_houseThen_103 : mx_br cX3_houseThen 103 (.goto 8) (8) 3 106 111 := ⟨by decide +kernel, rfl, by decide⟩
theorem dX3_houseThen_106 : mx_at cX3_houseThen 106 (.aload 5) 2 108 := ⟨by decide +kernel, rfl⟩
theorem dX3_houseThen_108 : mx_at cX3_houseThen 108 (.getfield 128) 3 111 := ⟨by decide +kernel, rfl⟩
theorem dX3_houseThen_111 : mx_at cX3_houseThen 111 (.ireturn) 1 112 := ⟨by decide +kernel, rfl⟩
theorem dX3_then_0 : mx_at cX3_then 0 (.iload_n 1) 1 1 := ⟨by decide +kernel, rfl⟩
theorem dX3_then_1 : mx_at cX3_then 1 (.iconst 0) 1 2 := ⟨by decide +kernel, rfl⟩
theorem dX3_then_2 : mx_at cX3_then 2 (.bipush 60) 2 4 := ⟨by decide +kernel, rfl⟩
theorem dX3_then_4 : mx_at cX3_then 4 (.invokestatic 169) 3 7 := ⟨by decide +kernel, rfl⟩
theorem dX3_then_7 : mx_at cX3_then 7 (.istore_n 3) 1 8 := ⟨by decide +kernel, rfl⟩
theorem dX3_then_8 : mx_at cX3_then 8 (.iload_n 3) 1 9 := ⟨by decide +kernel, rfl⟩
theorem dX3_then_9 : mx_br cX3_then 9 (.ifCond .eq 9) (9) 3 12 18 := ⟨by decide +kernel, rfl, by decide⟩
theorem dX3_then_12 : mx_at cX3_then 12 (.aload_n 0) 1 13 := ⟨by decide +kernel, rfl⟩
theorem dX3_then_13 : mx_at cX3_then 13 (.iload_n 3) 1 14 := ⟨by decide +kernel, rfl⟩
theorem dX3_then_14 : mx_at cX3_then 14 (.invokevirtual 49) 3 17 := ⟨by decide +kernel, rfl⟩
theorem dX3_then_17 : mx_at cX3_then 17 (.ireturn) 1 18 := ⟨by decide +kernel, rfl⟩
theorem dX3_then_18 : mx_at cX3_then 18 (.iload_n 2) 1 19 := ⟨by decide +kernel, rfl⟩
theorem dX3_then_19 : mx_br cX3_then 19 (.ifCond .lt 8) (8) 3 22 27 := ⟨by decide +kernel, rfl, by decide⟩
theorem dX3_then_22 : mx_at cX3_then 22 (.iload_n 2) 1 23 := ⟨by decide +kernel, rfl⟩
theorem dX3_then_23 : mx_at cX3_then 23 (.iconst 2) 1 24 := ⟨by decide +kernel, rfl⟩
theorem dX3_then_24 : mx_br cX3_then 24 (.if_icmp .le 10) (10) 3 27 34 := ⟨by decide +kernel, rfl, by decide⟩
theorem dX3_then_27 : mx_at cX3_then 27 (.aload_n 0) 1 28 := ⟨by decide +kernel, rfl⟩
theorem dX3_then_28 : mx_at cX3_then 28 (.bipush (-2)) 2 30 := ⟨by decide +kernel, rfl⟩
theorem dX3_then_30 : mx_at cX3_then 30 (.invokevirtual 49) 3 33 := ⟨by decide +kernel, rfl⟩
theorem dX3_then_33 : mx_at cX3_then 33 (.ireturn) 1 34 := ⟨by decide +kernel, rfl⟩
theorem dX3_then_34 : mx_at cX3_then 34 (.aload_n 0) 1 35 := ⟨by decide +kernel, rfl⟩
theorem dX3_then_35 : mx_at cX3_then 35 (.getfield 16) 3 38 := ⟨by decide +kernel, rfl⟩
theorem dX3_then_38 : mx_at cX3_then 38 (.aload_n 0) 1 39 := ⟨by decide +kernel, rfl⟩
theorem dX3_then_39 : mx_at cX3_then 39 (.getfield 10) 3 42 := ⟨by decide +kernel, rfl⟩
theorem dX3_then_42 : mx_at cX3_then 42 (.invokevirtual 73) 3 45 := ⟨by decide +kernel, rfl⟩
theorem dX3_then_45 : mx_at cX3_then 45 (.aload_n 0) 1 46 := ⟨by decide +kernel, rfl⟩
theorem dX3_then_46 : mx_at cX3_then 46 (.getfield 16) 3 49 := ⟨by decide +kernel, rfl⟩
theorem dX3_then_49 : mx_at cX3_then 49 (.iload_n 1) 1 50 := ⟨by decide +kernel, rfl⟩
theorem dX3_then_50 : mx_at cX3_then 50 (.invokevirtual 145) 3 53 := ⟨by decide +kernel, rfl⟩
theorem dX3_then_53 : mx_at cX3_then 53 (.iload_n 2) 1 54 := ⟨by decide +kernel, rfl⟩
theorem dX3_then_54 : mx_br cX3_then 54 (.ifCond .ne 11) (11) 3 57 65 := ⟨by decide +kernel, rfl, by decide⟩
theorem dX3_then_57 : mx_at cX3_then 57 (.aload_n 0) 1 58 := ⟨by decide +kernel, rfl⟩
theorem dX3_then_58 : mx_at cX3_then 58 (.getfield 16) 3 61 := ⟨by decide +kernel, rfl⟩
theorem dX3_then_61 : mx_at cX3_then 61 (.invokevirtual 173) 3 64 := ⟨by decide +kernel, rfl⟩
theorem dX3_then_64 : mx_at cX3_then 64 (.ireturn) 1 65 := ⟨by decide +kernel, rfl⟩
theorem dX3_then_65 : mx_at cX3_then 65 (.iload_n 2) 1 66 := ⟨by decide +kernel, rfl⟩
theorem dX3_then_66 : mx_at cX3_then 66 (.iconst 1) 1 67 := ⟨by decide +kernel, rfl⟩
theorem dX3_then_67 : mx_br cX3_then 67 (.if_icmp .ne 11) (11) 3 70 78 := ⟨by decide +kernel, rfl, by decide⟩
theorem dX3_then_70 : mx_at cX3_then 70 (.aload_n 0) 1 71 := ⟨by decide +kernel, rfl⟩
theorem dX3_then_71 : mx_at cX3_then 71 (.getfield 16) 3 74 := ⟨by decide +kernel, rfl⟩
theorem dX3_then_74 : mx_at cX3_then 74 (.getfield 45) 3 77 := ⟨by decide +kernel, rfl⟩
theorem dX3_then_77 : mx_at cX3_then 77 (.ireturn) 1 78 := ⟨by decide +kernel, rfl⟩
theorem dX3_then_78 : mx_at cX3_then 78 (.aload_n 0) 1 79 := ⟨by decide +kernel, rfl⟩
theorem dX3_then_79 : mx_at cX3_then 79 (.getfield 16) 3 82 := ⟨by decide +kernel, rfl⟩
theorem dX3_then_82 : mx_at cX3_then 82 (.getfield 115) 3 85 := ⟨by decide +kernel, rfl⟩
theorem dX3_then_85 : mx_br cX3_then 85 (.ifCond .ne 8) (8) 3 88 93 := ⟨by decide +kernel, rfl, by decide⟩
theorem dX3_then_88 : mx_at cX3_then 88 (.bipush (-9)) 2 90 := ⟨by decide +kernel, rfl⟩
theorem dX3_then_90 : mx_br cX3_then 90 (.goto 10) (10) 3 93 100 := ⟨by decide +kernel, rfl, by decide⟩
theorem dX3_then_93 : mx_at cX3_then 93 (.aload_n 0) 1 94 := ⟨by decide +kernel, rfl⟩
theorem dX3_then_94 : mx_at cX3_then 94 (.getfield 16) 3 97 := ⟨by decide +kernel, rfl⟩
theorem dX3_then_97 : mx_at cX3_then 97 (.getfield 139) 3 100 := ⟨by decide +kernel, rfl⟩
theorem dX3_then_100 : mx_at cX3_then 100 (.ireturn) 1 101 := ⟨by decide +kernel, rfl⟩
theorem dX3_lost_0 : mx_at cX3_lost 0 (.iload_n 1) 1 1 := ⟨by decide +kernel, rfl⟩
theorem dX3_lost_1 : mx_at cX3_lost 1 (.iconst (-1)) 1 2 := ⟨by decide +kernel, rfl⟩
theorem dX3_lost_2 : mx_br cX3_lost 2 (.if_icmp .ne 8) (8) 3 5 10 := ⟨by decide +kernel, rfl, by decide⟩
theorem dX3_lost_5 : mx_at cX3_lost 5 (.aload_n 0) 1 6 := ⟨by decide +kernel, rfl⟩
theorem dX3_lost_6 : mx_at cX3_lost 6 (.invokevirtual 176) 3 9 := ⟨by decide +kernel, rfl⟩
theorem dX3_lost_9 : mx_at cX3_lost 9 (.ireturn) 1 10 := ⟨by decide +kernel, rfl⟩
theorem dX3_lost_10 : mx_at cX3_lost 10 (.aload_n 0) 1 11 := ⟨by decide +kernel, rfl⟩
theorem dX3_lost_11 : mx_at cX3_lost 11 (.getfield 10) 3 14 := ⟨by decide +kernel, rfl⟩
theorem dX3_lost_14 : mx_at cX3_lost 14 (.iload_n 1) 1 15 := ⟨by decide +kernel, rfl⟩
theorem dX3_lost_15 : mx_at cX3_lost 15 (.invokevirtual 122) 3 18 := ⟨by decide +kernel, rfl⟩
theorem dX3_lost_18 : mx_br cX3_lost 18 (.ifCond .ne 9) (9) 3 21 27 := ⟨by decide +kernel, rfl, by decide⟩
theorem dX3_lost_21 : mx_at cX3_lost 21 (.aload_n 0) 1 22 := ⟨by decide +kernel, rfl⟩
theorem dX3_lost_22 : mx_at cX3_lost 22 (.iconst (-1)) 1 23 := ⟨by decide +kernel, rfl⟩
theorem dX3_lost_23 : mx_at cX3_lost 23 (.invokevirtual 49) 3 26 := ⟨by decide +kernel, rfl⟩
theorem dX3_lost_26 : mx_at cX3_lost 26 (.ireturn) 1 27 := ⟨by decide +kernel, rfl⟩
theorem dX3_lost_27 : mx_at cX3_lost 27 (.aload_n 0) 1 28 := ⟨by decide +kernel, rfl⟩
theorem dX3_lost_28 : mx_at cX3_lost 28 (.getfield 16) 3 31 := ⟨by decide +kernel, rfl⟩
theorem dX3_lost_31 : mx_at cX3_lost 31 (.aload_n 0) 1 32 := ⟨by decide +kernel, rfl⟩
theorem dX3_lost_32 : mx_at cX3_lost 32 (.getfield 10) 3 35 := ⟨by decide +kernel, rfl⟩
theorem dX3_lost_35 : mx_at cX3_lost 35 (.invokevirtual 73) 3 38 := ⟨by decide +kernel, rfl⟩
theorem dX3_lost_38 : mx_at cX3_lost 38 (.aload_n 0) 1 39 := ⟨by decide +kernel, rfl⟩
theorem dX3_lost_39 : mx_at cX3_lost 39 (.iload_n 1) 1 40 := ⟨by decide +kernel, rfl⟩
theorem dX3_lost_40 : mx_at cX3_lost 40 (.invokevirtual 179) 3 43 := ⟨by decide +kernel, rfl⟩
theorem dX3_lost_43 : mx_at cX3_lost 43 (.ireturn) 1 44 := ⟨by decide +kernel, rfl⟩
theorem dX3_firstLost_0 : mx_at cX3_firstLost 0 (.aload_n 0) 1 1 := ⟨by decide +kernel, rfl⟩
theorem dX3_firstLost_1 : mx_at cX3_firstLost 1 (.getfield 16) 3 4 := ⟨by decide +kernel, rfl⟩
theorem dX3_firstLost_4 : mx_at cX3_firstLost 4 (.aload_n 0) 1 5 := ⟨by decide +kernel, rfl⟩
theorem dX3_firstLost_5 : mx_at cX3_firstLost 5 (.getfield 10) 3 8 := ⟨by decide +kernel, rfl⟩
theorem dX3_firstLost_8 : mx_at cX3_firstLost 8 (.invokevirtual 73) 3 11 := ⟨by decide +kernel, rfl⟩
theorem dX3_firstLost_11 : mx_at cX3_firstLost 11 (.iconst 1) 1 12 := ⟨by decide +kernel, rfl⟩
theorem dX3_firstLost_12 : mx_at cX3_firstLost 12 (.istore_n 1) 1 13 := ⟨by decide +kernel, rfl⟩
theorem dX3_firstLost_13 : mx_at cX3_firstLost 13 (.iload_n 1) 1 14 := ⟨by decide +kernel, rfl⟩
theorem dX3_firstLost_14 : mx_at cX3_firstLost 14 (.bipush 60) 2 16 := ⟨by decide +kernel, rfl⟩
theorem dX3_firstLost_16 : mx_br cX3_firstLost 16 (.if_icmp .gt 66) (66) 3 19 82 := ⟨by decide +kernel, rfl, by decide⟩
theorem dX3_firstLost_19 : mx_at cX3_firstLost 19 (.aload_n 0) 1 20 := ⟨by decide +kernel, rfl⟩
theorem dX3_firstLost_20 : mx_at cX3_firstLost 20 (.getfield 16) 3 23 := ⟨by decide +kernel, rfl⟩
theorem dX3_firstLost_23 : mx_at cX3_firstLost 23 (.iconst 1) 1 24 := ⟨by decide +kernel, rfl⟩
theorem dX3_firstLost_24 : mx_at cX3_firstLost 24 (.invokevirtual 145) 3 27 := ⟨by decide +kernel, rfl⟩
theorem dX3_firstLost_27 : mx_at cX3_firstLost 27 (.iconst 0) 1 28 := ⟨by decide +kernel, rfl⟩
theorem dX3_firstLost_28 : mx_at cX3_firstLost 28 (.istore_n 2) 1 29 := ⟨by decide +kernel, rfl⟩
theorem dX3_firstLost_29 : mx_at cX3_firstLost 29 (.iload_n 2) 1 30 := ⟨by decide +kernel, rfl⟩
theorem dX3_firstLost_30 : mx_at cX3_firstLost 30 (.aload_n 0) 1 31 := ⟨by decide +kernel, rfl⟩
theorem dX3_firstLost_31 : mx_at cX3_firstLost 31 (.getfield 10) 3 34 := ⟨by decide +kernel, rfl⟩
theorem dX3_firstLost_34 : mx_at cX3_firstLost 34 (.getfield 115) 3 37 := ⟨by decide +kernel, rfl⟩
theorem dX3_firstLost_37 : mx_br cX3_firstLost 37 (.if_icmp .ge 39) (39) 3 40 76 := ⟨by decide +kernel, rfl, by decide⟩
theorem dX3_firstLost_40 : mx_at cX3_firstLost 40 (.aload_n 0) 1 41 := ⟨by decide +kernel, rfl⟩
theorem dX3_firstLost_41 : mx_at cX3_firstLost 41 (.getfield 10) 3 44 := ⟨by decide +kernel, rfl⟩
theorem dX3_firstLost_44 : mx_at cX3_firstLost 44 (.iload_n 2) 1 45 := ⟨by decide +kernel, rfl⟩
theorem dX3_firstLost_45 : mx_at cX3_firstLost 45 (.invokevirtual 125) 3 48 := ⟨by decide +kernel, rfl⟩
theorem dX3_firstLost_48 : mx_at cX3_firstLost 48 (.getfield 136) 3 51 := ⟨by decide +kernel, rfl⟩
theorem dX3_firstLost_51 : mx_br cX3_firstLost 51 (.ifCond .eq 19) (19) 3 54 70 := ⟨by decide +kernel, rfl, by decide⟩
theorem dX3_firstLost_54 : mx_at cX3_firstLost 54 (.aload_n 0) 1 55 := ⟨by decide +kernel, rfl⟩
theorem dX3_firstLost_55 : mx_at cX3_firstLost 55 (.getfield 16) 3 58 := ⟨by decide +kernel, rfl⟩
theorem dX3_firstLost_58 : mx_at cX3_firstLost 58 (.iload_n 2) 1 59 := ⟨by decide +kernel, rfl⟩
theorem dX3_firstLost_59 : mx_at cX3_firstLost 59 (.invokevirtual 125) 3 62 := ⟨by decide +kernel, rfl⟩
theorem dX3_firstLost_62 : mx_at cX3_firstLost 62 (.getfield 136) 3 65 := ⟨by decide +kernel, rfl⟩
theorem dX3_firstLost_65 : mx_br cX3_firstLost 65 (.ifCond .ne 5) (5) 3 68 70 := ⟨by decide +kernel, rfl, by decide⟩
theorem dX3_firstLost_68 : mx_at cX3_firstLost 68 (.iload_n 2) 1 69 := ⟨by decide +kernel, rfl⟩
theorem dX3_firstLost_69 : mx_at cX3_firstLost 69 (.ireturn) 1 70 := ⟨by decide +kernel, rfl⟩
theorem dX3_firstLost_70 : mx_at cX3_firstLost 70 (.iinc 2 1) 3 73 := ⟨by decide +kernel, rfl⟩
theorem dX3_firstLost_73 : mx_br cX3_firstLost 73 (.goto (-44)) (-44) 3 76 29 := ⟨by decide +kernel, rfl, by decide⟩
theorem dX3_firstLost_76 : mx_at cX3_firstLost 76 (.iinc 1 1) 3 79 := ⟨by decide +kernel, rfl⟩
theorem dX3_firstLost_79 : mx_br cX3_firstLost 79 (.goto (-66)) (-66) 3 82 13 := ⟨by decide +kernel, rfl, by decide⟩
theorem dX3_firstLost_82 : mx_at cX3_firstLost 82 (.bipush (-9)) 2 84 := ⟨by decide +kernel, rfl⟩
theorem dX3_firstLost_84 : mx_at cX3_firstLost 84 (.ireturn) 1 85 := ⟨by decide +kernel, rfl⟩
theorem dX3_weeksTillLost_0 : mx_at cX3_weeksTillLost 0 (.iconst 0) 1 1 := ⟨by decide +kernel, rfl⟩
theorem dX3_weeksTillLost_1 : mx_at cX3_weeksTillLost 1 (.istore_n 2) 1 2 := ⟨by decide +kernel, rfl⟩
theorem dX3_weeksTillLost_2 : mx_at cX3_weeksTillLost 2 (.iload_n 2) 1 3 := ⟨by decide +kernel, rfl⟩
theorem dX3_weeksTillLost_3 : mx_at cX3_weeksTillLost 3 (.bipush 60) 2 5 := ⟨by decide +kernel, rfl⟩
theorem dX3_weeksTillLost_5 : mx_br cX3_weeksTillLost 5 (.if_icmp .gt 33) (33) 3 8 38 := ⟨by decide +kernel, rfl, by decide⟩
theorem dX3_weeksTillLost_8 : mx_at cX3_weeksTillLost 8 (.aload_n 0) 1 9 := ⟨by decide +kernel, rfl⟩
theorem dX3_weeksTillLost_9 : mx_at cX3_weeksTillLost 9 (.getfield 16) 3 12 := ⟨by decide +kernel, rfl⟩
theorem dX3_weeksTillLost_12 : mx_at cX3_weeksTillLost 12 (.iload_n 1) 1 13 := ⟨by decide +kernel, rfl⟩
theorem dX3_weeksTillLost_13 : mx_at cX3_weeksTillLost 13 (.invokevirtual 125) 3 16 := ⟨by decide +kernel, rfl⟩
theorem dX3_weeksTillLost_16 : mx_at cX3_weeksTillLost 16 (.getfield 136) 3 19 := ⟨by decide +kernel, rfl⟩
theorem dX3_weeksTillLost_19 : mx_br cX3_weeksTillLost 19 (.ifCond .ne 5) (5) 3 22 24 := ⟨by decide +kernel, rfl, by decide⟩
theorem dX3_weeksTillLost_22 : mx_at cX3_weeksTillLost 22 (.iload_n 2) 1 23 := ⟨by decide +kernel, rfl⟩
theorem dX3_weeksTillLost_23 : mx_at cX3_weeksTillLost 23 (.ireturn) 1 24 := ⟨by decide +kernel, rfl⟩
theorem dX3_weeksTillLost_24 : mx_at cX3_weeksTillLost 24 (.aload_n 0) 1 25 := ⟨by decide +kernel, rfl⟩
theorem dX3_weeksTillLost_25 : mx_at cX3_weeksTillLost 25 (.getfield 16) 3 28 := ⟨by decide +kernel, rfl⟩
theorem dX3_weeksTillLost_28 : mx_at cX3_weeksTillLost 28 (.iconst 1) 1 29 := ⟨by decide +kernel, rfl⟩
theorem dX3_weeksTillLost_29 : mx_at cX3_weeksTillLost 29 (.invokevirtual 145) 3 32 := ⟨by decide +kernel, rfl⟩
theorem dX3_weeksTillLost_32 : mx_at cX3_weeksTillLost 32 (.iinc 2 1) 3 35 := ⟨by decide +kernel, rfl⟩
theorem dX3_weeksTillLost_35 : mx_br cX3_weeksTillLost 35 (.goto (-33)) (-33) 3 38 2 := ⟨by decide +kernel, rfl, by decide⟩
theorem dX3_weeksTillLost_38 : mx_at cX3_weeksTillLost 38 (.bipush (-9)) 2 40 := ⟨by decide +kernel, rfl⟩
theorem dX3_weeksTillLost_40 : mx_at cX3_weeksTillLost 40 (.ireturn) 1 41 := ⟨by decide +kernel, rfl⟩
theorem dX3_dark_0 : mx_at cX3_dark 0 (.aload_n 0) 1 1 := ⟨by decide +kernel, rfl⟩
theorem dX3_dark_1 : mx_at cX3_dark 1 (.getfield 16) 3 4 := ⟨by decide +kernel, rfl⟩
theorem dX3_dark_4 : mx_at cX3_dark 4 (.aload_n 0) 1 5 := ⟨by decide +kernel, rfl⟩
theorem dX3_dark_5 : mx_at cX3_dark 5 (.getfield 10) 3 8 := ⟨by decide +kernel, rfl⟩
theorem dX3_dark_8 : mx_at cX3_dark 8 (.invokevirtual 73) 3 11 := ⟨by decide +kernel, rfl⟩
theorem dX3_dark_11 : mx_at cX3_dark 11 (.iconst 0) 1 12 := ⟨by decide +kernel, rfl⟩
theorem dX3_dark_12 : mx_at cX3_dark 12 (.istore_n 1) 1 13 := ⟨by decide +kernel, rfl⟩
theorem dX3_dark_13 : mx_at cX3_dark 13 (.iload_n 1) 1 14 := ⟨by decide +kernel, rfl⟩
theorem dX3_dark_14 : mx_at cX3_dark 14 (.bipush 60) 2 16 := ⟨by decide +kernel, rfl⟩
theorem dX3_dark_16 : mx_br cX3_dark 16 (.if_icmp .gt 36) (36) 3 19 52 := ⟨by decide +kernel, rfl, by decide⟩
theorem dX3_dark_19 : mx_at cX3_dark 19 (.aload_n 0) 1 20 := ⟨by decide +kernel, rfl⟩
theorem dX3_dark_20 : mx_at cX3_dark 20 (.getfield 16) 3 23 := ⟨by decide +kernel, rfl⟩
theorem dX3_dark_23 : mx_at cX3_dark 23 (.getfield 45) 3 26 := ⟨by decide +kernel, rfl⟩
theorem dX3_dark_26 : mx_at cX3_dark 26 (.aload_n 0) 1 27 := ⟨by decide +kernel, rfl⟩
theorem dX3_dark_27 : mx_at cX3_dark 27 (.getfield 16) 3 30 := ⟨by decide +kernel, rfl⟩
theorem dX3_dark_30 : mx_at cX3_dark 30 (.invokevirtual 182) 3 33 := ⟨by decide +kernel, rfl⟩
theorem dX3_dark_33 : mx_br cX3_dark 33 (.if_icmp .ge 5) (5) 3 36 38 := ⟨by decide +kernel, rfl, by decide⟩
theorem dX3_dark_36 : mx_at cX3_dark 36 (.iload_n 1) 1 37 := ⟨by decide +kernel, rfl⟩
theorem dX3_dark_37 : mx_at cX3_dark 37 (.ireturn) 1 38 := ⟨by decide +kernel, rfl⟩
theorem dX3_dark_38 : mx_at cX3_dark 38 (.aload_n 0) 1 39 := ⟨by decide +kernel, rfl⟩
theorem dX3_dark_39 : mx_at cX3_dark 39 (.getfield 16) 3 42 := ⟨by decide +kernel, rfl⟩
theorem dX3_dark_42 : mx_at cX3_dark 42 (.iconst 1) 1 43 := ⟨by decide +kernel, rfl⟩
theorem dX3_dark_43 : mx_at cX3_dark 43 (.invokevirtual 145) 3 46 := ⟨by decide +kernel, rfl⟩
theorem dX3_dark_46 : mx_at cX3_dark 46 (.iinc 1 1) 3 49 := ⟨by decide +kernel, rfl⟩
theorem dX3_dark_49 : mx_br cX3_dark 49 (.goto (-36)) (-36) 3 52 13 := ⟨by decide +kernel, rfl, by decide⟩
theorem dX3_dark_52 : mx_at cX3_dark 52 (.bipush (-9)) 2 54 := ⟨by decide +kernel, rfl⟩
theorem dX3_dark_54 : mx_at cX3_dark 54 (.ireturn) 1 55 := ⟨by decide +kernel, rfl⟩
theorem dX3_still_0 : mx_at cX3_still 0 (.aload_n 0) 1 1 := ⟨by decide +kernel, rfl⟩
theorem dX3_still_1 : mx_at cX3_still 1 (.getfield 16) 3 4 := ⟨by decide +kernel, rfl⟩
theorem dX3_still_4 : mx_at cX3_still 4 (.aload_n 0) 1 5 := ⟨by decide +kernel, rfl⟩
theorem dX3_still_5 : mx_at cX3_still 5 (.getfield 10) 3 8 := ⟨by decide +kernel, rfl⟩
theorem dX3_still_8 : mx_at cX3_still 8 (.invokevirtual 73) 3 11 := ⟨by decide +kernel, rfl⟩
theorem dX3_still_11 : mx_at cX3_still 11 (.aload_n 0) 1 12 := ⟨by decide +kernel, rfl⟩
theorem dX3_still_12 : mx_at cX3_still 12 (.getfield 38) 3 15 := ⟨by decide +kernel, rfl⟩
theorem dX3_still_15 : mx_at cX3_still 15 (.invokevirtual 70) 3 18 := ⟨by decide +kernel, rfl⟩
theorem dX3_still_18 : mx_at cX3_still 18 (.iconst 0) 1 19 := ⟨by decide +kernel, rfl⟩
theorem dX3_still_19 : mx_at cX3_still 19 (.istore_n 1) 1 20 := ⟨by decide +kernel, rfl⟩
theorem dX3_still_20 : mx_at cX3_still 20 (.iload_n 1) 1 21 := ⟨by decide +kernel, rfl⟩
theorem dX3_still_21 : mx_at cX3_still 21 (.bipush 80) 2 23 := ⟨by decide +kernel, rfl⟩
theorem dX3_still_23 : mx_br cX3_still 23 (.if_icmp .gt 31) (31) 3 26 54 := ⟨by decide +kernel, rfl, by decide⟩
theorem dX3_still_26 : mx_at cX3_still 26 (.aload_n 0) 1 27 := ⟨by decide +kernel, rfl⟩
theorem dX3_still_27 : mx_at cX3_still 27 (.getfield 38) 3 30 := ⟨by decide +kernel, rfl⟩
theorem dX3_still_30 : mx_at cX3_still 30 (.aload_n 0) 1 31 := ⟨by decide +kernel, rfl⟩
theorem dX3_still_31 : mx_at cX3_still 31 (.getfield 16) 3 34 := ⟨by decide +kernel, rfl⟩
theorem dX3_still_34 : mx_at cX3_still 34 (.invokevirtual 166) 3 37 := ⟨by decide +kernel, rfl⟩
theorem dX3_still_37 : mx_at cX3_still 37 (.invokevirtual 57) 3 40 := ⟨by decide +kernel, rfl⟩
theorem dX3_still_40 : mx_at cX3_still 40 (.aload_n 0) 1 41 := ⟨by decide +kernel, rfl⟩
theorem dX3_still_41 : mx_at cX3_still 41 (.getfield 16) 3 44 := ⟨by decide +kernel, rfl⟩
theorem dX3_still_44 : mx_at cX3_still 44 (.iconst 1) 1 45 := ⟨by decide +kernel, rfl⟩
theorem dX3_still_45 : mx_at cX3_still 45 (.invokevirtual 145) 3 48 := ⟨by decide +kernel, rfl⟩
theorem dX3_still_48 : mx_at cX3_still 48 (.iinc 1 1) 3 51 := ⟨by decide +kernel, rfl⟩
theorem dX3_still_51 : mx_br cX3_still 51 (.goto (-31)) (-31) 3 54 20 := ⟨by decide +kernel, rfl, by decide⟩
theorem dX3_still_54 : mx_at cX3_still 54 (.iconst 0) 1 55 := ⟨by decide +kernel, rfl⟩
theorem dX3_still_55 : mx_at cX3_still 55 (.istore_n 1) 1 56 := ⟨by decide +kernel, rfl⟩
theorem dX3_still_56 : mx_at cX3_still 56 (.iload_n 1) 1 57 := ⟨by decide +kernel, rfl⟩
theorem dX3_still_57 : mx_at cX3_still 57 (.bipush 60) 2 59 := ⟨by decide +kernel, rfl⟩
theorem dX3_still_59 : mx_br cX3_still 59 (.if_icmp .gt 33) (33) 3 62 92 := ⟨by decide +kernel, rfl, by decide⟩
theorem dX3_still_62 : mx_at cX3_still 62 (.aload_n 0) 1 63 := ⟨by decide +kernel, rfl⟩
theorem dX3_still_63 : mx_at cX3_still 63 (.getfield 38) 3 66 := ⟨by decide +kernel, rfl⟩
theorem dX3_still_66 : mx_at cX3_still 66 (.iload_n 1) 1 67 := ⟨by decide +kernel, rfl⟩
theorem dX3_still_67 : mx_at cX3_still 67 (.invokevirtual 77) 3 70 := ⟨by decide +kernel, rfl⟩
theorem dX3_still_70 : mx_at cX3_still 70 (.aload_n 0) 1 71 := ⟨by decide +kernel, rfl⟩
theorem dX3_still_71 : mx_at cX3_still 71 (.getfield 38) 3 74 := ⟨by decide +kernel, rfl⟩
theorem dX3_still_74 : mx_at cX3_still 74 (.iload_n 1) 1 75 := ⟨by decide +kernel, rfl⟩
theorem dX3_still_75 : mx_at cX3_still 75 (.bipush 20) 2 77 := ⟨by decide +kernel, rfl⟩
theorem dX3_still_77 : mx_at cX3_still 77 (.iadd) 1 78 := ⟨by decide +kernel, rfl⟩
theorem dX3_still_78 : mx_at cX3_still 78 (.invokevirtual 77) 3 81 := ⟨by decide +kernel, rfl⟩
theorem dX3_still_81 : mx_br cX3_still 81 (.if_icmp .ne 5) (5) 3 84 86 := ⟨by decide +kernel, rfl, by decide⟩
theorem dX3_still_84 : mx_at cX3_still 84 (.iload_n 1) 1 85 := ⟨by decide +kernel, rfl⟩
theorem dX3_still_85 : mx_at cX3_still 85 (.ireturn) 1 86 := ⟨by decide +kernel, rfl⟩
theorem dX3_still_86 : mx_at cX3_still 86 (.iinc 1 1) 3 89 := ⟨by decide +kernel, rfl⟩
theorem dX3_still_89 : mx_br cX3_still 89 (.goto (-33)) (-33) 3 92 56 := ⟨by decide +kernel, rfl, by decide⟩
theorem dX3_still_92 : mx_at cX3_still 92 (.bipush (-9)) 2 94 := ⟨by decide +kernel, rfl⟩
theorem dX3_still_94 : mx_at cX3_still 94 (.ireturn) 1 95 := ⟨by decide +kernel, rfl⟩
theorem dX3_move_0 : mx_at cX3_move 0 (.iload_n 1) 1 1 := ⟨by decide +kernel, rfl⟩
theorem dX3_move_1 : mx_at cX3_move 1 (.iconst 0) 1 2 := ⟨by decide +kernel, rfl⟩
theorem dX3_move_2 : mx_at cX3_move 2 (.bipush 30) 2 4 := ⟨by decide +kernel, rfl⟩
theorem dX3_move_4 : mx_at cX3_move 4 (.invokestatic 169) 3 7 := ⟨by decide +kernel, rfl⟩
theorem dX3_move_7 : mx_at cX3_move 7 (.istore_n 2) 1 8 := ⟨by decide +kernel, rfl⟩
theorem dX3_move_8 : mx_at cX3_move 8 (.iload_n 2) 1 9 := ⟨by decide +kernel, rfl⟩
theorem dX3_move_9 : mx_br cX3_move 9 (.ifCond .eq 9) (9) 3 12 18 := ⟨by decide +kernel, rfl, by decide⟩
theorem dX3_move_12 : mx_at cX3_move 12 (.aload_n 0) 1 13 := ⟨by decide +kernel, rfl⟩
theorem dX3_move_13 : mx_at cX3_move 13 (.iload_n 2) 1 14 := ⟨by decide +kernel, rfl⟩
theorem dX3_move_14 : mx_at cX3_move 14 (.invokevirtual 49) 3 17 := ⟨by decide +kernel, rfl⟩
theorem dX3_move_17 : mx_at cX3_move 17 (.ireturn) 1 18 := ⟨by decide +kernel, rfl⟩
theorem dX3_move_18 : mx_at cX3_move 18 (.aload_n 0) 1 19 := ⟨by decide +kernel, rfl⟩
theorem dX3_move_19 : mx_at cX3_move 19 (.getfield 16) 3 22 := ⟨by decide +kernel, rfl⟩
theorem dX3_move_22 : mx_at cX3_move 22 (.aload_n 0) 1 23 := ⟨by decide +kernel, rfl⟩
theorem dX3_move_23 : mx_at cX3_move 23 (.getfield 10) 3 26 := ⟨by decide +kernel, rfl⟩
theorem dX3_move_26 : mx_at cX3_move 26 (.invokevirtual 73) 3 29 := ⟨by decide +kernel, rfl⟩
theorem dX3_move_29 : mx_at cX3_move 29 (.aload_n 0) 1 30 := ⟨by decide +kernel, rfl⟩
theorem dX3_move_30 : mx_at cX3_move 30 (.getfield 16) 3 33 := ⟨by decide +kernel, rfl⟩
theorem dX3_move_33 : mx_at cX3_move 33 (.iload_n 1) 1 34 := ⟨by decide +kernel, rfl⟩
theorem dX3_move_34 : mx_at cX3_move 34 (.invokevirtual 145) 3 37 := ⟨by decide +kernel, rfl⟩
theorem dX3_move_37 : mx_at cX3_move 37 (.aload_n 0) 1 38 := ⟨by decide +kernel, rfl⟩
theorem dX3_move_38 : mx_at cX3_move 38 (.getfield 16) 3 41 := ⟨by decide +kernel, rfl⟩
theorem dX3_move_41 : mx_at cX3_move 41 (.invokevirtual 166) 3 44 := ⟨by decide +kernel, rfl⟩
theorem dX3_move_44 : mx_at cX3_move 44 (.istore_n 3) 1 45 := ⟨by decide +kernel, rfl⟩
theorem dX3_move_45 : mx_at cX3_move 45 (.bipush (-9)) 2 47 := ⟨by decide +kernel, rfl⟩
theorem dX3_move_47 : mx_at cX3_move 47 (.istore 4) 2 49 := ⟨by decide +kernel, rfl⟩
theorem dX3_move_49 : mx_at cX3_move 49 (.iconst 0) 1 50 := ⟨by decide +kernel, rfl⟩
theorem dX3_move_50 : mx_at cX3_move 50 (.istore 5) 2 52 := ⟨by decide +kernel, rfl⟩
theorem dX3_move_52 : mx_at cX3_move 52 (.iload 5) 2 54 := ⟨by decide +kernel, rfl⟩
theorem dX3_move_54 : mx_at cX3_move 54 (.aload_n 0) 1 55 := ⟨by decide +kernel, rfl⟩
theorem dX3_move_55 : mx_at cX3_move 55 (.getfield 10) 3 58 := ⟨by decide +kernel, rfl⟩
theorem dX3_move_58 : mx_at cX3_move 58 (.getfield 115) 3 61 := ⟨by decide +kernel, rfl⟩
theorem dX3_move_61 : mx_br cX3_move 61 (.if_icmp .ge 97) (97) 3 64 158 := ⟨by decide +kernel, rfl, by decide⟩
theorem dX3_move_64 : mx_at cX3_move 64 (.iconst 0) 1 65 := ⟨by decide +kernel, rfl⟩
theorem dX3_move_65 : mx_at cX3_move 65 (.istore 6) 2 67 := ⟨by decide +kernel, rfl⟩
theorem dX3_move_67 : mx_at cX3_move 67 (.iload 6) 2 69 := ⟨by decide +kernel, rfl⟩
theorem dX3_move_69 : mx_at cX3_move 69 (.aload_n 0) 1 70 := ⟨by decide +kernel, rfl⟩
theorem dX3_move_70 : mx_at cX3_move 70 (.getfield 10) 3 73 := ⟨by decide +kernel, rfl⟩
theorem dX3_move_73 : mx_at cX3_move 73 (.getfield 115) 3 76 := ⟨by decide +kernel, rfl⟩
theorem dX3_move_76 : mx_br cX3_move 76 (.if_icmp .ge 76) (76) 3 79 152 := ⟨by decide +kernel, rfl, by decide⟩
theorem dX3_move_79 : mx_at cX3_move 79 (.iload 5) 2 81 := ⟨by decide +kernel, rfl⟩
theorem dX3_move_81 : mx_at cX3_move 81 (.iload 6) 2 83 := ⟨by decide +kernel, rfl⟩
theorem dX3_move_83 : mx_br cX3_move 83 (.if_icmp .eq 63) (63) 3 86 146 := ⟨by decide +kernel, rfl, by decide⟩
theorem dX3_move_86 : mx_at cX3_move 86 (.aload_n 0) 1 87 := ⟨by decide +kernel, rfl⟩
theorem dX3_move_87 : mx_at cX3_move 87 (.getfield 10) 3 90 := ⟨by decide +kernel, rfl⟩
theorem dX3_move_90 : mx_at cX3_move 90 (.iload 5) 2 92 := ⟨by decide +kernel, rfl⟩
theorem dX3_move_92 : mx_at cX3_move 92 (.invokevirtual 125) 3 95 := ⟨by decide +kernel, rfl⟩
theorem dX3_move_95 : mx_at cX3_move 95 (.getfield 136) 3 98 := ⟨by decide +kernel, rfl⟩
theorem dX3_move_98 : mx_br cX3_move 98 (.ifCond .eq 48) (48) 3 101 146 := ⟨by decide +kernel, rfl, by decide⟩
theorem dX3_move_101 : mx_at cX3_move 101 (.aload_n 0) 1 102 := ⟨by decide +kernel, rfl⟩
theorem dX3_move_102 : mx_at cX3_move 102 (.getfield 10) 3 105 := ⟨by decide +kernel, rfl⟩
theorem dX3_move_105 : mx_at cX3_move 105 (.iload 6) 2 107 := ⟨by decide +kernel, rfl⟩
theorem dX3_move_107 : mx_at cX3_move 107 (.invokevirtual 125) 3 110 := ⟨by decide +kernel, rfl⟩
theorem dX3_move_110 : mx_at cX3_move 110 (.getfield 136) 3 113 := ⟨by decide +kernel, rfl⟩
theorem dX3_move_113 : mx_br cX3_move 113 (.ifCond .eq 33) (33) 3 116 146 := ⟨by decide +kernel, rfl, by decide⟩
theorem dX3_move_116 : mx_at cX3_move 116 (.aload_n 0) 1 117 := ⟨by decide +kernel, rfl⟩
theorem dX3_move_117 : mx_at cX3_move 117 (.iload 5) 2 119 := ⟨by decide +kernel, rfl⟩
theorem dX3_move_119 : mx_at cX3_move 119 (.iload 6) 2 121 := ⟨by decide +kernel, rfl⟩
theorem dX3_move_121 : mx_at cX3_move 121 (.iload_n 1) 1 122 := ⟨by decide +kernel, rfl⟩
theorem dX3_move_122 : mx_at cX3_move 122 (.invokevirtual 185) 3 125 := ⟨by decide +kernel, rfl⟩
theorem dX3_move_125 : mx_at cX3_move 125 (.istore 7) 2 127 := ⟨by decide +kernel, rfl⟩
theorem dX3_move_127 : mx_at cX3_move 127 (.iload 7) 2 129 := ⟨by decide +kernel, rfl⟩
theorem dX3_move_129 : mx_at cX3_move 129 (.iload_n 3) 1 130 := ⟨by decide +kernel, rfl⟩
theorem dX3_move_130 : mx_br cX3_move 130 (.if_icmp .le 16) (16) 3 133 146 := ⟨by decide +kernel, rfl, by decide⟩
theorem dX3_move_133 : mx_at cX3_move 133 (.iload 7) 2 135 := ⟨by decide +kernel, rfl⟩
theorem dX3_move_135 : mx_at cX3_move 135 (.istore_n 3) 1 136 := ⟨by decide +kernel, rfl⟩
theorem dX3_move_136 : mx_at cX3_move 136 (.bipush 10) 2 138 := ⟨by decide +kernel, rfl⟩
theorem dX3_move_138 : mx_at cX3_move 138 (.iload 5) 2 140 := ⟨by decide +kernel, rfl⟩
theorem dX3_move_140 : mx_at cX3_move 140 (.imul) 1 141 := ⟨by decide +kernel, rfl⟩
theorem dX3_move_141 : mx_at cX3_move 141 (.iload 6) 2 143 := ⟨by decide +kernel, rfl⟩
theorem dX3_move_143 : mx_at cX3_move 143 (.iadd) 1 144 := ⟨by decide +kernel, rfl⟩
theorem dX3_move_144 : mx_at cX3_move 144 (.istore 4) 2 146 := ⟨by decide +kernel, rfl⟩
theorem dX3_move_146 : mx_at cX3_move 146 (.iinc 6 1) 3 149 := ⟨by decide +kernel, rfl⟩
theorem dX3_move_149 : mx_br cX3_move 149 (.goto (-82)) (-82) 3 152 67 := ⟨by decide +kernel, rfl, by decide⟩
theorem dX3_move_152 : mx_at cX3_move 152 (.iinc 5 1) 3 155 := ⟨by decide +kernel, rfl⟩
theorem dX3_move_155 : mx_br cX3_move 155 (.goto (-103)) (-103) 3 158 52 := ⟨by decide +kernel, rfl, by decide⟩
theorem dX3_move_158 : mx_at cX3_move 158 (.iload 4) 2 160 := ⟨by decide +kernel, rfl⟩
theorem dX3_move_160 : mx_at cX3_move 160 (.ireturn) 1 161 := ⟨by decide +kernel, rfl⟩
theorem dX3_keptIfHalfMoves_0 : mx_at cX3_keptIfHalfMoves 0 (.aload_n 0) 1 1 := ⟨by decide +kernel, rfl⟩
theorem dX3_keptIfHalfMoves_1 : mx_at cX3_keptIfHalfMoves 1 (.getfield 16) 3 4 := ⟨by decide +kernel, rfl⟩
theorem dX3_keptIfHalfMoves_4 : mx_at cX3_keptIfHalfMoves 4 (.aload_n 0) 1 5 := ⟨by decide +kernel, rfl⟩
theorem dX3_keptIfHalfMoves_5 : mx_at cX3_keptIfHalfMoves 5 (.getfield 10) 3 8 := ⟨by decide +kernel, rfl⟩
theorem dX3_keptIfHalfMoves_8 : mx_at cX3_keptIfHalfMoves 8 (.invokevirtual 73) 3 11 := ⟨by decide +kernel, rfl⟩
theorem dX3_keptIfHalfMoves_11 : mx_at cX3_keptIfHalfMoves 11 (.aload_n 0) 1 12 := ⟨by decide +kernel, rfl⟩
theorem dX3_keptIfHalfMoves_12 : mx_at cX3_keptIfHalfMoves 12 (.getfield 16) 3 15 := ⟨by decide +kernel, rfl⟩
theorem dX3_keptIfHalfMoves_15 : mx_at cX3_keptIfHalfMoves 15 (.iload_n 1) 1 16 := ⟨by decide +kernel, rfl⟩
theorem dX3_keptIfHalfMoves_16 : mx_at cX3_keptIfHalfMoves 16 (.invokevirtual 125) 3 19 := ⟨by decide +kernel, rfl⟩
theorem dX3_keptIfHalfMoves_19 : mx_at cX3_keptIfHalfMoves 19 (.astore 4) 2 21 := ⟨by decide +kernel, rfl⟩
theorem dX3_keptIfHalfMoves_21 : mx_at cX3_keptIfHalfMoves 21 (.aload_n 0) 1 22 := ⟨by decide +kernel, rfl⟩
theorem dX3_keptIfHalfMoves_22 : mx_at cX3_keptIfHalfMoves 22 (.getfield 16) 3 25 := ⟨by decide +kernel, rfl⟩
theorem dX3_keptIfHalfMoves_25 : mx_at cX3_keptIfHalfMoves 25 (.iload_n 2) 1 26 := ⟨by decide +kernel, rfl⟩
theorem dX3_keptIfHalfMoves_26 : mx_at cX3_keptIfHalfMoves 26 (.invokevirtual 125) 3 29 := ⟨by decide +kernel, rfl⟩
theorem dX3_keptIfHalfMoves_29 : mx_at cX3_keptIfHalfMoves 29 (.astore 5) 2 31 := ⟨by decide +kernel, rfl⟩
theorem dX3_keptIfHalfMoves_31 : mx_at cX3_keptIfHalfMoves 31 (.aload 4) 2 33 := ⟨by decide +kernel, rfl⟩
theorem dX3_keptIfHalfMoves_33 : mx_at cX3_keptIfHalfMoves 33 (.getfield 128) 3 36 := ⟨by decide +kernel, rfl⟩
theorem dX3_keptIfHalfMoves_36 : mx_at cX3_keptIfHalfMoves 36 (.iconst 2) 1 37 := ⟨by decide +kernel, rfl⟩
theorem dX3_keptIfHalfMoves_37 : mx_at cX3_keptIfHalfMoves 37 (.idiv) 1 38 := ⟨by decide +kernel, rfl⟩
theorem dX3_keptIfHalfMoves_38 : mx_at cX3_keptIfHalfMoves 38 (.bipush 30) 2 40 := ⟨by decide +kernel, rfl⟩
theorem dX3_keptIfHalfMoves_40 : mx_at cX3_keptIfHalfMoves 40 (.aload 5) 2 42 := ⟨by decide +kernel, rfl⟩
theorem dX3_keptIfHalfMoves_42 : mx_at cX3_keptIfHalfMoves 42 (.getfield 128) 3 45 := ⟨by decide +kernel, rfl⟩
theorem dX3_keptIfHalfMoves_45 : mx_at cX3_keptIfHalfMoves 45 (.isub) 1 46 := ⟨by decide +kernel, rfl⟩
theorem dX3_keptIfHalfMoves_46 : mx_at cX3_keptIfHalfMoves 46 (.invokestatic 188) 3 49 := ⟨by decide +kernel, rfl⟩
theorem dX3_keptIfHalfMoves_49 : mx_at cX3_keptIfHalfMoves 49 (.istore 6) 2 51 := ⟨by decide +kernel, rfl⟩
theorem dX3_keptIfHalfMoves_51 : mx_at cX3_keptIfHalfMoves 51 (.aload 4) 2 53 := ⟨by decide +kernel, rfl⟩
theorem dX3_keptIfHalfMoves_53 : mx_at cX3_keptIfHalfMoves 53 (.dup) 1 54 := ⟨by decide +kernel, rfl⟩
theorem dX3_keptIfHalfMoves_54 : mx_at cX3_keptIfHalfMoves 54 (.getfield 128) 3 57 := ⟨by decide +kernel, rfl⟩
theorem dX3_keptIfHalfMoves_57 : mx_at cX3_keptIfHalfMoves 57 (.iload 6) 2 59 := ⟨by decide +kernel, rfl⟩
theorem dX3_keptIfHalfMoves_59 : mx_at cX3_keptIfHalfMoves 59 (.isub) 1 60 := ⟨by decide +kernel, rfl⟩
theorem dX3_keptIfHalfMoves_60 : mx_at cX3_keptIfHalfMoves 60 (.putfield 128) 3 63 := ⟨by decide +kernel, rfl⟩
theorem dX3_keptIfHalfMoves_63 : mx_at cX3_keptIfHalfMoves 63 (.aload 5) 2 65 := ⟨by decide +kernel, rfl⟩
theorem dX3_keptIfHalfMoves_65 : mx_at cX3_keptIfHalfMoves 65 (.dup) 1 66 := ⟨by decide +kernel, rfl⟩
theorem dX3_keptIfHalfMoves_66 : mx_at cX3_keptIfHalfMoves 66 (.getfield 128) 3 69 := ⟨by decide +kernel, rfl⟩
theorem dX3_keptIfHalfMoves_69 : mx_at cX3_keptIfHalfMoves 69 (.iload 6) 2 71 := ⟨by decide +kernel, rfl⟩
theorem dX3_keptIfHalfMoves_71 : mx_at cX3_keptIfHalfMoves 71 (.iadd) 1 72 := ⟨by decide +kernel, rfl⟩
theorem dX3_keptIfHalfMoves_72 : mx_at cX3_keptIfHalfMoves 72 (.putfield 128) 3 75 := ⟨by decide +kernel, rfl⟩
theorem dX3_keptIfHalfMoves_75 : mx_at cX3_keptIfHalfMoves 75 (.aload_n 0) 1 76 := ⟨by decide +kernel, rfl⟩
theorem dX3_keptIfHalfMoves_76 : mx_at cX3_keptIfHalfMoves 76 (.getfield 16) 3 79 := ⟨by decide +kernel, rfl⟩
theorem dX3_keptIfHalfMoves_79 : mx_at cX3_keptIfHalfMoves 79 (.iload_n 3) 1 80 := ⟨by decide +kernel, rfl⟩
theorem dX3_keptIfHalfMoves_80 : mx_at cX3_keptIfHalfMoves 80 (.invokevirtual 145) 3 83 := ⟨by decide +kernel, rfl⟩
theorem dX3_keptIfHalfMoves_83 : mx_at cX3_keptIfHalfMoves 83 (.aload_n 0) 1 84 := ⟨by decide +kernel, rfl⟩
theorem dX3_keptIfHalfMoves_84 : mx_at cX3_keptIfHalfMoves 84 (.getfield 16) 3 87 := ⟨by decide +kernel, rfl⟩
theorem dX3_keptIfHalfMoves_87 : mx_at cX3_keptIfHalfMoves 87 (.invokevirtual 166) 3 90 := ⟨by decide +kernel, rfl⟩
theorem dX3_keptIfHalfMoves_90 : mx_at cX3_keptIfHalfMoves 90 (.ireturn) 1 91 := ⟨by decide +kernel, rfl⟩
theorem dX3_air_0 : mx_at cX3_air 0 (.iload_n 1) 1 1 := ⟨by decide +kernel, rfl⟩
theorem dX3_air_1 : mx_at cX3_air 1 (.iconst 0) 1 2 := ⟨by decide +kernel, rfl⟩
theorem dX3_air_2 : mx_at cX3_air 2 (.bipush 30) 2 4 := ⟨by decide +kernel, rfl⟩
theorem dX3_air_4 : mx_at cX3_air 4 (.invokestatic 169) 3 7 := ⟨by decide +kernel, rfl⟩
theorem dX3_air_7 : mx_at cX3_air 7 (.istore_n 2) 1 8 := ⟨by decide +kernel, rfl⟩
theorem dX3_air_8 : mx_at cX3_air 8 (.iload_n 2) 1 9 := ⟨by decide +kernel, rfl⟩
theorem dX3_air_9 : mx_br cX3_air 9 (.ifCond .eq 9) (9) 3 12 18 := ⟨by decide +kernel, rfl, by decide⟩
theorem dX3_air_12 : mx_at cX3_air 12 (.aload_n 0) 1 13 := ⟨by decide +kernel, rfl⟩
theorem dX3_air_13 : mx_at cX3_air 13 (.iload_n 2) 1 14 := ⟨by decide +kernel, rfl⟩
theorem dX3_air_14 : mx_at cX3_air 14 (.invokevirtual 49) 3 17 := ⟨by decide +kernel, rfl⟩
theorem dX3_air_17 : mx_at cX3_air 17 (.ireturn) 1 18 := ⟨by decide +kernel, rfl⟩
theorem dX3_air_18 : mx_at cX3_air 18 (.bipush (-9)) 2 20 := ⟨by decide +kernel, rfl⟩
theorem dX3_air_20 : mx_at cX3_air 20 (.istore_n 3) 1 21 := ⟨by decide +kernel, rfl⟩
theorem dX3_air_21 : mx_at cX3_air 21 (.bipush 7) 2 23 := ⟨by decide +kernel, rfl⟩
theorem dX3_air_23 : mx_at cX3_air 23 (.istore 4) 2 25 := ⟨by decide +kernel, rfl⟩
theorem dX3_air_25 : mx_at cX3_air 25 (.iconst 0) 1 26 := ⟨by decide +kernel, rfl⟩
theorem dX3_air_26 : mx_at cX3_air 26 (.istore 5) 2 28 := ⟨by decide +kernel, rfl⟩
theorem dX3_air_28 : mx_at cX3_air 28 (.iload 5) 2 30 := ⟨by decide +kernel, rfl⟩
theorem dX3_air_30 : mx_at cX3_air 30 (.iconst 1) 1 31 := ⟨by decide +kernel, rfl⟩
theorem dX3_air_31 : mx_at cX3_air 31 (.aload_n 0) 1 32 := ⟨by decide +kernel, rfl⟩
theorem dX3_air_32 : mx_at cX3_air 32 (.getfield 10) 3 35 := ⟨by decide +kernel, rfl⟩
theorem dX3_air_35 : mx_at cX3_air 35 (.getfield 115) 3 38 := ⟨by decide +kernel, rfl⟩
theorem dX3_air_38 : mx_at cX3_air 38 (.ishl) 1 39 := ⟨by decide +kernel, rfl⟩
theorem dX3_air_39 : mx_br cX3_air 39 (.if_icmp .ge 40) (40) 3 42 79 := ⟨by decide +kernel, rfl, by decide⟩
theorem dX3_air_42 : mx_at cX3_air 42 (.iload 5) 2 44 := ⟨by decide +kernel, rfl⟩
theorem dX3_air_44 : mx_at cX3_air 44 (.invokestatic 193) 3 47 := ⟨by decide +kernel, rfl⟩
theorem dX3_air_47 : mx_at cX3_air 47 (.istore 6) 2 49 := ⟨by decide +kernel, rfl⟩
theorem dX3_air_49 : mx_at cX3_air 49 (.iload 6) 2 51 := ⟨by decide +kernel, rfl⟩
theorem dX3_air_51 : mx_at cX3_air 51 (.iload 4) 2 53 := ⟨by decide +kernel, rfl⟩
theorem dX3_air_53 : mx_br cX3_air 53 (.if_icmp .ge 20) (20) 3 56 73 := ⟨by decide +kernel, rfl, by decide⟩
theorem dX3_air_56 : mx_at cX3_air 56 (.aload_n 0) 1 57 := ⟨by decide +kernel, rfl⟩
theorem dX3_air_57 : mx_at cX3_air 57 (.iload 5) 2 59 := ⟨by decide +kernel, rfl⟩
theorem dX3_air_59 : mx_at cX3_air 59 (.iload_n 1) 1 60 := ⟨by decide +kernel, rfl⟩
theorem dX3_air_60 : mx_at cX3_air 60 (.invokevirtual 198) 3 63 := ⟨by decide +kernel, rfl⟩
theorem dX3_air_63 : mx_br cX3_air 63 (.ifCond .eq 10) (10) 3 66 73 := ⟨by decide +kernel, rfl, by decide⟩
theorem dX3_air_66 : mx_at cX3_air 66 (.iload 6) 2 68 := ⟨by decide +kernel, rfl⟩
theorem dX3_air_68 : mx_at cX3_air 68 (.istore 4) 2 70 := ⟨by decide +kernel, rfl⟩
theorem dX3_air_70 : mx_at cX3_air 70 (.iload 5) 2 72 := ⟨by decide +kernel, rfl⟩
theorem dX3_air_72 : mx_at cX3_air 72 (.istore_n 3) 1 73 := ⟨by decide +kernel, rfl⟩
theorem dX3_air_73 : mx_at cX3_air 73 (.iinc 5 1) 3 76 := ⟨by decide +kernel, rfl⟩
theorem dX3_air_76 : mx_br cX3_air 76 (.goto (-48)) (-48) 3 79 28 := ⟨by decide +kernel, rfl, by decide⟩
theorem dX3_air_79 : mx_at cX3_air 79 (.iload_n 3) 1 80 := ⟨by decide +kernel, rfl⟩
theorem dX3_air_80 : mx_at cX3_air 80 (.ireturn) 1 81 := ⟨by decide +kernel, rfl⟩
theorem dX3_noneLostIfAired_0 : mx_at cX3_noneLostIfAired 0 (.aload_n 0) 1 1 := ⟨by decide +kernel, rfl⟩
theorem dX3_noneLostIfAired_1 : mx_at cX3_noneLostIfAired 1 (.getfield 16) 3 4 := ⟨by decide +kernel, rfl⟩
theorem dX3_noneLostIfAired_4 : mx_at cX3_noneLostIfAired 4 (.aload_n 0) 1 5 := ⟨by decide +kernel, rfl⟩
theorem dX3_noneLostIfAired_5 : mx_at cX3_noneLostIfAired 5 (.getfield 10) 3 8 := ⟨by decide +kernel, rfl⟩
theorem dX3_noneLostIfAired_8 : mx_at cX3_noneLostIfAired 8 (.invokevirtual 73) 3 11 := ⟨by decide +kernel, rfl⟩
theorem dX3_noneLostIfAired_11 : mx_at cX3_noneLostIfAired 11 (.iconst 0) 1 12 := ⟨by decide +kernel, rfl⟩
theorem dX3_noneLostIfAired_12 : mx_at cX3_noneLostIfAired 12 (.istore_n 3) 1 13 := ⟨by decide +kernel, rfl⟩
theorem dX3_noneLostIfAired_13 : mx_at cX3_noneLostIfAired 13 (.iload_n 3) 1 14 := ⟨by decide +kernel, rfl⟩
theorem dX3_noneLostIfAired_14 : mx_at cX3_noneLostIfAired 14 (.aload_n 0) 1 15 := ⟨by decide +kernel, rfl⟩
theorem dX3_noneLostIfAired_15 : mx_at cX3_noneLostIfAired 15 (.getfield 16) 3 18 := ⟨by decide +kernel, rfl⟩
theorem dX3_noneLostIfAired_18 : mx_at cX3_noneLostIfAired 18 (.getfield 115) 3 21 := ⟨by decide +kernel, rfl⟩
theorem dX3_noneLostIfAired_21 : mx_br cX3_noneLostIfAired 21 (.if_icmp .ge 30) (30) 3 24 51 := ⟨by decide +kernel, rfl, by decide⟩
theorem dX3_noneLostIfAired_24 : mx_at cX3_noneLostIfAired 24 (.iload_n 1) 1 25 := ⟨by decide +kernel, rfl⟩
theorem dX3_noneLostIfAired_25 : mx_at cX3_noneLostIfAired 25 (.iload_n 3) 1 26 := ⟨by decide +kernel, rfl⟩
theorem dX3_noneLostIfAired_26 : mx_at cX3_noneLostIfAired 26 (.ishr) 1 27 := ⟨by decide +kernel, rfl⟩
theorem dX3_noneLostIfAired_27 : mx_at cX3_noneLostIfAired 27 (.iconst 1) 1 28 := ⟨by decide +kernel, rfl⟩
theorem dX3_noneLostIfAired_28 : mx_at cX3_noneLostIfAired 28 (.iand) 1 29 := ⟨by decide +kernel, rfl⟩
theorem dX3_noneLostIfAired_29 : mx_at cX3_noneLostIfAired 29 (.iconst 1) 1 30 := ⟨by decide +kernel, rfl⟩
theorem dX3_noneLostIfAired_30 : mx_br cX3_noneLostIfAired 30 (.if_icmp .ne 15) (15) 3 33 45 := ⟨by decide +kernel, rfl, by decide⟩
theorem dX3_noneLostIfAired_33 : mx_at cX3_noneLostIfAired 33 (.aload_n 0) 1 34 := ⟨by decide +kernel, rfl⟩
theorem dX3_noneLostIfAired_34 : mx_at cX3_noneLostIfAired 34 (.getfield 16) 3 37 := ⟨by decide +kernel, rfl⟩
theorem dX3_noneLostIfAired_37 : mx_at cX3_noneLostIfAired 37 (.iload_n 3) 1 38 := ⟨by decide +kernel, rfl⟩
theorem dX3_noneLostIfAired_38 : mx_at cX3_noneLostIfAired 38 (.invokevirtual 125) 3 41 := ⟨by decide +kernel, rfl⟩
theorem dX3_noneLostIfAired_41 : mx_at cX3_noneLostIfAired 41 (.iconst 0) 1 42 := ⟨by decide +kernel, rfl⟩
theorem dX3_noneLostIfAired_42 : mx_at cX3_noneLostIfAired 42 (.putfield 133) 3 45 := ⟨by decide +kernel, rfl⟩
theorem dX3_noneLostIfAired_45 : mx_at cX3_noneLostIfAired 45 (.iinc 3 1) 3 48 := ⟨by decide +kernel, rfl⟩
theorem dX3_noneLostIfAired_48 : mx_br cX3_noneLostIfAired 48 (.goto (-35)) (-35) 3 51 13 := ⟨by decide +kernel, rfl, by decide⟩
theorem dX3_noneLostIfAired_51 : mx_at cX3_noneLostIfAired 51 (.aload_n 0) 1 52 := ⟨by decide +kernel, rfl⟩
theorem dX3_noneLostIfAired_52 : mx_at cX3_noneLostIfAired 52 (.iload_n 2) 1 53 := ⟨by decide +kernel, rfl⟩
theorem dX3_noneLostIfAired_53 : mx_at cX3_noneLostIfAired 53 (.invokevirtual 202) 3 56 := ⟨by decide +kernel, rfl⟩
theorem dX3_noneLostIfAired_56 : mx_at cX3_noneLostIfAired 56 (.ireturn) 1 57 := ⟨by decide +kernel, rfl⟩
theorem dX3_noneLostWithin_0 : mx_at cX3_noneLostWithin 0 (.aload_n 0) 1 1 := ⟨by decide +kernel, rfl⟩
theorem dX3_noneLostWithin_1 : mx_at cX3_noneLostWithin 1 (.getfield 10) 3 4 := ⟨by decide +kernel, rfl⟩
theorem dX3_noneLostWithin_4 : mx_at cX3_noneLostWithin 4 (.invokevirtual 173) 3 7 := ⟨by decide +kernel, rfl⟩
theorem dX3_noneLostWithin_7 : mx_at cX3_noneLostWithin 7 (.istore_n 2) 1 8 := ⟨by decide +kernel, rfl⟩
theorem dX3_noneLostWithin_8 : mx_at cX3_noneLostWithin 8 (.iconst 0) 1 9 := ⟨by decide +kernel, rfl⟩
theorem dX3_noneLostWithin_9 : mx_at cX3_noneLostWithin 9 (.istore_n 3) 1 10 := ⟨by decide +kernel, rfl⟩
theorem dX3_noneLostWithin_10 : mx_at cX3_noneLostWithin 10 (.iload_n 3) 1 11 := ⟨by decide +kernel, rfl⟩
theorem dX3_noneLostWithin_11 : mx_at cX3_noneLostWithin 11 (.iload_n 1) 1 12 := ⟨by decide +kernel, rfl⟩
theorem dX3_noneLostWithin_12 : mx_br cX3_noneLostWithin 12 (.if_icmp .ge 30) (30) 3 15 42 := ⟨by decide +kernel, rfl, by decide⟩
theorem dX3_noneLostWithin_15 : mx_at cX3_noneLostWithin 15 (.aload_n 0) 1 16 := ⟨by decide +kernel, rfl⟩
theorem dX3_noneLostWithin_16 : mx_at cX3_noneLostWithin 16 (.getfield 16) 3 19 := ⟨by decide +kernel, rfl⟩
theorem dX3_noneLostWithin_19 : mx_at cX3_noneLostWithin 19 (.iconst 1) 1 20 := ⟨by decide +kernel, rfl⟩
theorem dX3_noneLostWithin_20 : mx_at cX3_noneLostWithin 20 (.invokevirtual 145) 3 23 := ⟨by decide +kernel, rfl⟩
theorem dX3_noneLostWithin_23 : mx_at cX3_noneLostWithin 23 (.aload_n 0) 1 24 := ⟨by decide +kernel, rfl⟩
theorem dX3_noneLostWithin_24 : mx_at cX3_noneLostWithin 24 (.getfield 16) 3 27 := ⟨by decide +kernel, rfl⟩
theorem dX3_noneLostWithin_27 : mx_at cX3_noneLostWithin 27 (.invokevirtual 173) 3 30 := ⟨by decide +kernel, rfl⟩
theorem dX3_noneLostWithin_30 : mx_at cX3_noneLostWithin 30 (.iload_n 2) 1 31 := ⟨by decide +kernel, rfl⟩
theorem dX3_noneLostWithin_31 : mx_br cX3_noneLostWithin 31 (.if_icmp .eq 5) (5) 3 34 36 := ⟨by decide +kernel, rfl, by decide⟩
theorem dX3_noneLostWithin_34 : mx_at cX3_noneLostWithin 34 (.iconst 0) 1 35 := ⟨by decide +kernel, rfl⟩
theorem dX3_noneLostWithin_35 : mx_at cX3_noneLostWithin 35 (.ireturn) 1 36 := ⟨by decide +kernel, rfl⟩
theorem dX3_noneLostWithin_36 : mx_at cX3_noneLostWithin 36 (.iinc 3 1) 3 39 := ⟨by decide +kernel, rfl⟩
theorem dX3_noneLostWithin_39 : mx_br cX3_noneLostWithin 39 (.goto (-29)) (-29) 3 42 10 := ⟨by decide +kernel, rfl, by decide⟩
theorem dX3_noneLostWithin_42 : mx_at cX3_noneLostWithin 42 (.iconst 1) 1 43 := ⟨by decide +kernel, rfl⟩
theorem dX3_noneLostWithin_43 : mx_at cX3_noneLostWithin 43 (.ireturn) 1 44 := ⟨by decide +kernel, rfl⟩
theorem dX3_start_0 : mx_at cX3_start 0 (.iload_n 1) 1 1 := ⟨by decide +kernel, rfl⟩
theorem dX3_start_1 : mx_at cX3_start 1 (.iconst 0) 1 2 := ⟨by decide +kernel, rfl⟩
theorem dX3_start_2 : mx_at cX3_start 2 (.bipush 30) 2 4 := ⟨by decide +kernel, rfl⟩
theorem dX3_start_4 : mx_at cX3_start 4 (.invokestatic 169) 3 7 := ⟨by decide +kernel, rfl⟩
theorem dX3_start_7 : mx_at cX3_start 7 (.istore_n 3) 1 8 := ⟨by decide +kernel, rfl⟩
theorem dX3_start_8 : mx_at cX3_start 8 (.iload_n 3) 1 9 := ⟨by decide +kernel, rfl⟩
theorem dX3_start_9 : mx_br cX3_start 9 (.ifCond .eq 9) (9) 3 12 18 := ⟨by decide +kernel, rfl, by decide⟩
theorem dX3_start_12 : mx_at cX3_start 12 (.aload_n 0) 1 13 := ⟨by decide +kernel, rfl⟩
theorem dX3_start_13 : mx_at cX3_start 13 (.iload_n 3) 1 14 := ⟨by decide +kernel, rfl⟩
theorem dX3_start_14 : mx_at cX3_start 14 (.invokevirtual 49) 3 17 := ⟨by decide +kernel, rfl⟩
theorem dX3_start_17 : mx_at cX3_start 17 (.ireturn) 1 18 := ⟨by decide +kernel, rfl⟩
theorem dX3_start_18 : mx_at cX3_start 18 (.iload_n 2) 1 19 := ⟨by decide +kernel, rfl⟩
theorem dX3_start_19 : mx_br cX3_start 19 (.ifCond .lt 8) (8) 3 22 27 := ⟨by decide +kernel, rfl, by decide⟩
theorem dX3_start_22 : mx_at cX3_start 22 (.iload_n 2) 1 23 := ⟨by decide +kernel, rfl⟩
theorem dX3_start_23 : mx_at cX3_start 23 (.iconst 1) 1 24 := ⟨by decide +kernel, rfl⟩
theorem dX3_start_24 : mx_br cX3_start 24 (.if_icmp .le 10) (10) 3 27 34 := ⟨by decide +kernel, rfl, by decide⟩
theorem dX3_start_27 : mx_at cX3_start 27 (.aload_n 0) 1 28 := ⟨by decide +kernel, rfl⟩
theorem dX3_start_28 : mx_at cX3_start 28 (.bipush (-2)) 2 30 := ⟨by decide +kernel, rfl⟩
theorem dX3_start_30 : mx_at cX3_start 30 (.invokevirtual 49) 3 33 := ⟨by decide +kernel, rfl⟩
theorem dX3_start_33 : mx_at cX3_start 33 (.ireturn) 1 34 := ⟨by decide +kernel, rfl⟩
theorem dX3_start_34 : mx_at cX3_start 34 (.bipush (-9)) 2 36 := ⟨by decide +kernel, rfl⟩
theorem dX3_start_36 : mx_at cX3_start 36 (.istore 4) 2 38 := ⟨by decide +kernel, rfl⟩
theorem dX3_start_38 : mx_at cX3_start 38 (.bipush (-9)) 2 40 := ⟨by decide +kernel, rfl⟩
theorem dX3_start_40 : mx_at cX3_start 40 (.istore 5) 2 42 := ⟨by decide +kernel, rfl⟩
theorem dX3_start_42 : mx_at cX3_start 42 (.iconst 0) 1 43 := ⟨by decide +kernel, rfl⟩
theorem dX3_start_43 : mx_at cX3_start 43 (.istore 6) 2 45 := ⟨by decide +kernel, rfl⟩
theorem dX3_start_45 : mx_at cX3_start 45 (.iload 6) 2 47 := ⟨by decide +kernel, rfl⟩
theorem dX3_start_47 : mx_at cX3_start 47 (.aload_n 0) 1 48 := ⟨by decide +kernel, rfl⟩
theorem dX3_start_48 : mx_at cX3_start 48 (.getfield 10) 3 51 := ⟨by decide +kernel, rfl⟩
theorem dX3_start_51 : mx_at cX3_start 51 (.getfield 115) 3 54 := ⟨by decide +kernel, rfl⟩
theorem dX3_start_54 : mx_br cX3_start 54 (.if_icmp .ge 61) (61) 3 57 115 := ⟨by decide +kernel, rfl, by decide⟩
theorem dX3_start_57 : mx_at cX3_start 57 (.aload_n 0) 1 58 := ⟨by decide +kernel, rfl⟩
theorem dX3_start_58 : mx_at cX3_start 58 (.getfield 16) 3 61 := ⟨by decide +kernel, rfl⟩
theorem dX3_start_61 : mx_at cX3_start 61 (.aload_n 0) 1 62 := ⟨by decide +kernel, rfl⟩
theorem dX3_start_62 : mx_at cX3_start 62 (.getfield 10) 3 65 := ⟨by decide +kernel, rfl⟩
theorem dX3_start_65 : mx_at cX3_start 65 (.invokevirtual 73) 3 68 := ⟨by decide +kernel, rfl⟩
theorem dX3_start_68 : mx_at cX3_start 68 (.aload_n 0) 1 69 := ⟨by decide +kernel, rfl⟩
theorem dX3_start_69 : mx_at cX3_start 69 (.getfield 16) 3 72 := ⟨by decide +kernel, rfl⟩
theorem dX3_start_72 : mx_at cX3_start 72 (.iload 6) 2 74 := ⟨by decide +kernel, rfl⟩
theorem dX3_start_74 : mx_at cX3_start 74 (.putfield 139) 3 77 := ⟨by decide +kernel, rfl⟩
theorem dX3_start_77 : mx_at cX3_start 77 (.aload_n 0) 1 78 := ⟨by decide +kernel, rfl⟩
theorem dX3_start_78 : mx_at cX3_start 78 (.getfield 16) 3 81 := ⟨by decide +kernel, rfl⟩
theorem dX3_start_81 : mx_at cX3_start 81 (.iload_n 1) 1 82 := ⟨by decide +kernel, rfl⟩
theorem dX3_start_82 : mx_at cX3_start 82 (.invokevirtual 145) 3 85 := ⟨by decide +kernel, rfl⟩
theorem dX3_start_85 : mx_at cX3_start 85 (.aload_n 0) 1 86 := ⟨by decide +kernel, rfl⟩
theorem dX3_start_86 : mx_at cX3_start 86 (.getfield 16) 3 89 := ⟨by decide +kernel, rfl⟩
theorem dX3_start_89 : mx_at cX3_start 89 (.invokevirtual 166) 3 92 := ⟨by decide +kernel, rfl⟩
theorem dX3_start_92 : mx_at cX3_start 92 (.istore 7) 2 94 := ⟨by decide +kernel, rfl⟩
theorem dX3_start_94 : mx_at cX3_start 94 (.iload 7) 2 96 := ⟨by decide +kernel, rfl⟩
theorem dX3_start_96 : mx_at cX3_start 96 (.iload 5) 2 98 := ⟨by decide +kernel, rfl⟩
theorem dX3_start_98 : mx_br cX3_start 98 (.if_icmp .le 11) (11) 3 101 109 := ⟨by decide +kernel, rfl, by decide⟩
theorem dX3_start_101 : mx_at cX3_start 101 (.iload 7) 2 103 := ⟨by decide +kernel, rfl⟩
theorem dX3_start_103 : mx_at cX3_start 103 (.istore 5) 2 105 := ⟨by decide +kernel, rfl⟩
theorem dX3_start_105 : mx_at cX3_start 105 (.iload 6) 2 107 := ⟨by decide +kernel, rfl⟩
theorem dX3_start_107 : mx_at cX3_start 107 (.istore 4) 2 109 := ⟨by decide +kernel, rfl⟩
theorem dX3_start_109 : mx_at cX3_start 109 (.iinc 6 1) 3 112 := ⟨by decide +kernel, rfl⟩
theorem dX3_start_112 : mx_br cX3_start 112 (.goto (-67)) (-67) 3 115 45 := ⟨by decide +kernel, rfl, by decide⟩
theorem dX3_start_115 : mx_at cX3_start 115 (.iload_n 2) 1 116 := ⟨by decide +kernel, rfl⟩
theorem dX3_start_116 : mx_br cX3_start 116 (.ifCond .ne 8) (8) 3 119 124 := ⟨by decide +kernel, rfl, by decide⟩
theorem dX3_start_119 : mx_at cX3_start 119 (.iload 4) 2 121 := ⟨by decide +kernel, rfl⟩
theorem dX3_start_121 : mx_br cX3_start 121 (.goto 5) (5) 3 124 126 := ⟨by decide +kernel, rfl, by decide⟩
theorem dX3_start_124 : mx_at cX3_start 124 (.iload 5) 2 126 := ⟨by decide +kernel, rfl⟩
theorem dX3_start_126 : mx_at cX3_start 126 (.ireturn) 1 127 := ⟨by decide +kernel, rfl⟩
theorem dX3_buy_0 : mx_at cX3_buy 0 (.iload_n 1) 1 1 := ⟨by decide +kernel, rfl⟩
theorem dX3_buy_1 : mx_at cX3_buy 1 (.iconst 0) 1 2 := ⟨by decide +kernel, rfl⟩
theorem dX3_buy_2 : mx_at cX3_buy 2 (.bipush 30) 2 4 := ⟨by decide +kernel, rfl⟩
theorem dX3_buy_4 : mx_at cX3_buy 4 (.invokestatic 169) 3 7 := ⟨by decide +kernel, rfl⟩
theorem dX3_buy_7 : mx_at cX3_buy 7 (.istore_n 2) 1 8 := ⟨by decide +kernel, rfl⟩
theorem dX3_buy_8 : mx_at cX3_buy 8 (.iload_n 2) 1 9 := ⟨by decide +kernel, rfl⟩
theorem dX3_buy_9 : mx_br cX3_buy 9 (.ifCond .eq 9) (9) 3 12 18 := ⟨by decide +kernel, rfl, by decide⟩
theorem dX3_buy_12 : mx_at cX3_buy 12 (.aload_n 0) 1 13 := ⟨by decide +kernel, rfl⟩
theorem dX3_buy_13 : mx_at cX3_buy 13 (.iload_n 2) 1 14 := ⟨by decide +kernel, rfl⟩
theorem dX3_buy_14 : mx_at cX3_buy 14 (.invokevirtual 49) 3 17 := ⟨by decide +kernel, rfl⟩
theorem dX3_buy_17 : mx_at cX3_buy 17 (.ireturn) 1 18 := ⟨by decide +kernel, rfl⟩
theorem dX3_buy_18 : mx_at cX3_buy 18 (.iconst 0) 1 19 := ⟨by decide +kernel, rfl⟩
theorem dX3_buy_19 : mx_at cX3_buy 19 (.istore_n 3) 1 20 := ⟨by decide +kernel, rfl⟩
theorem dX3_buy_20 : mx_at cX3_buy 20 (.iload_n 3) 1 21 := ⟨by decide +kernel, rfl⟩
theorem dX3_buy_21 : mx_at cX3_buy 21 (.sipush 300) 3 24 := ⟨by decide +kernel, rfl⟩
theorem dX3_buy_24 : mx_br cX3_buy 24 (.if_icmp .gt 38) (38) 3 27 62 := ⟨by decide +kernel, rfl, by decide⟩
theorem dX3_buy_27 : mx_at cX3_buy 27 (.aload_n 0) 1 28 := ⟨by decide +kernel, rfl⟩
theorem dX3_buy_28 : mx_at cX3_buy 28 (.getfield 16) 3 31 := ⟨by decide +kernel, rfl⟩
theorem dX3_buy_31 : mx_at cX3_buy 31 (.aload_n 0) 1 32 := ⟨by decide +kernel, rfl⟩
theorem dX3_buy_32 : mx_at cX3_buy 32 (.getfield 10) 3 35 := ⟨by decide +kernel, rfl⟩
theorem dX3_buy_35 : mx_at cX3_buy 35 (.invokevirtual 73) 3 38 := ⟨by decide +kernel, rfl⟩
theorem dX3_buy_38 : mx_at cX3_buy 38 (.aload_n 0) 1 39 := ⟨by decide +kernel, rfl⟩
theorem dX3_buy_39 : mx_at cX3_buy 39 (.getfield 16) 3 42 := ⟨by decide +kernel, rfl⟩
theorem dX3_buy_42 : mx_at cX3_buy 42 (.iload_n 3) 1 43 := ⟨by decide +kernel, rfl⟩
theorem dX3_buy_43 : mx_at cX3_buy 43 (.putfield 45) 3 46 := ⟨by decide +kernel, rfl⟩
theorem dX3_buy_46 : mx_at cX3_buy 46 (.aload_n 0) 1 47 := ⟨by decide +kernel, rfl⟩
theorem dX3_buy_47 : mx_at cX3_buy 47 (.iload_n 1) 1 48 := ⟨by decide +kernel, rfl⟩
theorem dX3_buy_48 : mx_at cX3_buy 48 (.invokevirtual 202) 3 51 := ⟨by decide +kernel, rfl⟩
theorem dX3_buy_51 : mx_br cX3_buy 51 (.ifCond .eq 5) (5) 3 54 56 := ⟨by decide +kernel, rfl, by decide⟩
theorem dX3_buy_54 : mx_at cX3_buy 54 (.iload_n 3) 1 55 := ⟨by decide +kernel, rfl⟩
theorem dX3_buy_55 : mx_at cX3_buy 55 (.ireturn) 1 56 := ⟨by decide +kernel, rfl⟩
theorem dX3_buy_56 : mx_at cX3_buy 56 (.iinc 3 1) 3 59 := ⟨by decide +kernel, rfl⟩
theorem dX3_buy_59 : mx_br cX3_buy 59 (.goto (-39)) (-39) 3 62 20 := ⟨by decide +kernel, rfl, by decide⟩
theorem dX3_buy_62 : mx_at cX3_buy 62 (.bipush (-9)) 2 64 := ⟨by decide +kernel, rfl⟩
theorem dX3_buy_64 : mx_at cX3_buy 64 (.ireturn) 1 65 := ⟨by decide +kernel, rfl⟩
theorem dX3_bestKind_0 : mx_at cX3_bestKind 0 (.aload_n 0) 1 1 := ⟨by decide +kernel, rfl⟩
theorem dX3_bestKind_1 : mx_at cX3_bestKind 1 (.getfield 10) 3 4 := ⟨by decide +kernel, rfl⟩
theorem dX3_bestKind_4 : mx_at cX3_bestKind 4 (.iload_n 1) 1 5 := ⟨by decide +kernel, rfl⟩
theorem dX3_bestKind_5 : mx_at cX3_bestKind 5 (.invokevirtual 122) 3 8 := ⟨by decide +kernel, rfl⟩
theorem dX3_bestKind_8 : mx_br cX3_bestKind 8 (.ifCond .ne 9) (9) 3 11 17 := ⟨by decide +kernel, rfl, by decide⟩
theorem dX3_bestKind_11 : mx_at cX3_bestKind 11 (.aload_n 0) 1 12 := ⟨by decide +kernel, rfl⟩
theorem dX3_bestKind_12 : mx_at cX3_bestKind 12 (.iconst (-1)) 1 13 := ⟨by decide +kernel, rfl⟩
theorem dX3_bestKind_13 : mx_at cX3_bestKind 13 (.invokevirtual 49) 3 16 := ⟨by decide +kernel, rfl⟩
theorem dX3_bestKind_16 : mx_at cX3_bestKind 16 (.ireturn) 1 17 := ⟨by decide +kernel, rfl⟩
theorem dX3_bestKind_17 : mx_at cX3_bestKind 17 (.iload_n 2) 1 18 := ⟨by decide +kernel, rfl⟩
theorem dX3_bestKind_18 : mx_br cX3_bestKind 18 (.ifCond .lt 8) (8) 3 21 26 := ⟨by decide +kernel, rfl, by decide⟩
theorem dX3_bestKind_21 : mx_at cX3_bestKind 21 (.iload_n 2) 1 22 := ⟨by decide +kernel, rfl⟩
theorem dX3_bestKind_22 : mx_at cX3_bestKind 22 (.iconst 1) 1 23 := ⟨by decide +kernel, rfl⟩
theorem dX3_bestKind_23 : mx_br cX3_bestKind 23 (.if_icmp .le 10) (10) 3 26 33 := ⟨by decide +kernel, rfl, by decide⟩
theorem dX3_bestKind_26 : mx_at cX3_bestKind 26 (.aload_n 0) 1 27 := ⟨by decide +kernel, rfl⟩
theorem dX3_bestKind_27 : mx_at cX3_bestKind 27 (.bipush (-2)) 2 29 := ⟨by decide +kernel, rfl⟩
theorem dX3_bestKind_29 : mx_at cX3_bestKind 29 (.invokevirtual 49) 3 32 := ⟨by decide +kernel, rfl⟩
theorem dX3_bestKind_32 : mx_at cX3_bestKind 32 (.ireturn) 1 33 := ⟨by decide +kernel, rfl⟩
theorem dX3_bestKind_33 : mx_at cX3_bestKind 33 (.bipush (-9)) 2 35 := ⟨by decide +kernel, rfl⟩
theorem dX3_bestKind_35 : mx_at cX3_bestKind 35 (.istore_n 3) 1 36 := ⟨by decide +kernel, rfl⟩
theorem dX3_bestKind_36 : mx_at cX3_bestKind 36 (.iconst (-1)) 1 37 := ⟨by decide +kernel, rfl⟩
theorem dX3_bestKind_37 : mx_at cX3_bestKind 37 (.istore 4) 2 39 := ⟨by decide +kernel, rfl⟩
theorem dX3_bestKind_39 : mx_at cX3_bestKind 39 (.iconst 0) 1 40 := ⟨by decide +kernel, rfl⟩
theorem dX3_bestKind_40 : mx_at cX3_bestKind 40 (.istore 5) 2 42 := ⟨by decide +kernel, rfl⟩
theorem dX3_bestKind_42 : mx_at cX3_bestKind 42 (.iload 5) 2 44 := ⟨by decide +kernel, rfl⟩
theorem dX3_bestKind_44 : mx_at cX3_bestKind 44 (.bipush 6) 2 46 := ⟨by decide +kernel, rfl⟩
theorem dX3_bestKind_46 : mx_br cX3_bestKind 46 (.if_icmp .ge 70) (70) 3 49 116 := ⟨by decide +kernel, rfl, by decide⟩
theorem dX3_bestKind_49 : mx_at cX3_bestKind 49 (.aload_n 0) 1 50 := ⟨by decide +kernel, rfl⟩
theorem dX3_bestKind_50 : mx_at cX3_bestKind 50 (.getfield 16) 3 53 := ⟨by decide +kernel, rfl⟩
theorem dX3_bestKind_53 : mx_at cX3_bestKind 53 (.aload_n 0) 1 54 := ⟨by decide +kernel, rfl⟩
theorem dX3_bestKind_54 : mx_at cX3_bestKind 54 (.getfield 10) 3 57 := ⟨by decide +kernel, rfl⟩
theorem dX3_bestKind_57 : mx_at cX3_bestKind 57 (.invokevirtual 73) 3 60 := ⟨by decide +kernel, rfl⟩
theorem dX3_bestKind_60 : mx_at cX3_bestKind 60 (.aload_n 0) 1 61 := ⟨by decide +kernel, rfl⟩
theorem dX3_bestKind_61 : mx_at cX3_bestKind 61 (.getfield 16) 3 64 := ⟨by decide +kernel, rfl⟩
theorem dX3_bestKind_64 : mx_at cX3_bestKind 64 (.iload_n 1) 1 65 := ⟨by decide +kernel, rfl⟩
theorem dX3_bestKind_65 : mx_at cX3_bestKind 65 (.invokevirtual 125) 3 68 := ⟨by decide +kernel, rfl⟩
theorem dX3_bestKind_68 : mx_at cX3_bestKind 68 (.iload 5) 2 70 := ⟨by decide +kernel, rfl⟩
theorem dX3_bestKind_70 : mx_at cX3_bestKind 70 (.putfield 148) 3 73 := ⟨by decide +kernel, rfl⟩
theorem dX3_bestKind_73 : mx_at cX3_bestKind 73 (.aload_n 0) 1 74 := ⟨by decide +kernel, rfl⟩
theorem dX3_bestKind_74 : mx_at cX3_bestKind 74 (.iload_n 1) 1 75 := ⟨by decide +kernel, rfl⟩
theorem dX3_bestKind_75 : mx_at cX3_bestKind 75 (.invokevirtual 179) 3 78 := ⟨by decide +kernel, rfl⟩
theorem dX3_bestKind_78 : mx_at cX3_bestKind 78 (.istore 6) 2 80 := ⟨by decide +kernel, rfl⟩
theorem dX3_bestKind_80 : mx_at cX3_bestKind 80 (.iload 6) 2 82 := ⟨by decide +kernel, rfl⟩
theorem dX3_bestKind_82 : mx_at cX3_bestKind 82 (.bipush (-9)) 2 84 := ⟨by decide +kernel, rfl⟩
theorem dX3_bestKind_84 : mx_br cX3_bestKind 84 (.if_icmp .ne 8) (8) 3 87 92 := ⟨by decide +kernel, rfl, by decide⟩
theorem dX3_bestKind_87 : mx_at cX3_bestKind 87 (.bipush 61) 2 89 := ⟨by decide +kernel, rfl⟩
theorem dX3_bestKind_89 : mx_br cX3_bestKind 89 (.goto 5) (5) 3 92 94 := ⟨by decide +kernel, rfl, by decide⟩
theorem dX3_bestKind_92 : mx_at cX3_bestKind 92 (.iload 6) 2 94 := ⟨by decide +kernel, rfl⟩
theorem dX3_bestKind_94 : mx_at cX3_bestKind 94 (.istore 7) 2 96 := ⟨by decide +kernel, rfl⟩
theorem dX3_bestKind_96 : mx_at cX3_bestKind 96 (.iload 7) 2 98 := ⟨by decide +kernel, rfl⟩
theorem dX3_bestKind_98 : mx_at cX3_bestKind 98 (.iload 4) 2 100 := ⟨by decide +kernel, rfl⟩
theorem dX3_bestKind_100 : mx_br cX3_bestKind 100 (.if_icmp .le 10) (10) 3 103 110 := ⟨by decide +kernel, rfl, by decide⟩
theorem dX3_bestKind_103 : mx_at cX3_bestKind 103 (.iload 7) 2 105 := ⟨by decide +kernel, rfl⟩
theorem dX3_bestKind_105 : mx_at cX3_bestKind 105 (.istore 4) 2 107 := ⟨by decide +kernel, rfl⟩
theorem dX3_bestKind_107 : mx_at cX3_bestKind 107 (.iload 5) 2 109 := ⟨by decide +kernel, rfl⟩
theorem dX3_bestKind_109 : mx_at cX3_bestKind 109 (.istore_n 3) 1 110 := ⟨by decide +kernel, rfl⟩
theorem dX3_bestKind_110 : mx_at cX3_bestKind 110 (.iinc 5 1) 3 113 := ⟨by decide +kernel, rfl⟩
theorem dX3_bestKind_113 : mx_br cX3_bestKind 113 (.goto (-71)) (-71) 3 116 42 := ⟨by decide +kernel, rfl, by decide⟩
theorem dX3_bestKind_116 : mx_at cX3_bestKind 116 (.iload_n 2) 1 117 := ⟨by decide +kernel, rfl⟩
theorem dX3_bestKind_117 : mx_br cX3_bestKind 117 (.ifCond .ne 5) (5) 3 120 122 := ⟨by decide +kernel, rfl, by decide⟩
theorem dX3_bestKind_120 : mx_at cX3_bestKind 120 (.iload_n 3) 1 121 := ⟨by decide +kernel, rfl⟩
theorem dX3_bestKind_121 : mx_at cX3_bestKind 121 (.ireturn) 1 122 := ⟨by decide +kernel, rfl⟩
theorem dX3_bestKind_122 : mx_at cX3_bestKind 122 (.iload 4) 2 124 := ⟨by decide +kernel, rfl⟩
theorem dX3_bestKind_124 : mx_at cX3_bestKind 124 (.bipush 60) 2 126 := ⟨by decide +kernel, rfl⟩
theorem dX3_bestKind_126 : mx_br cX3_bestKind 126 (.if_icmp .le 8) (8) 3 129 134 := ⟨by decide +kernel, rfl, by decide⟩
theorem dX3_bestKind_129 : mx_at cX3_bestKind 129 (.bipush (-9)) 2 131 := ⟨by decide +kernel, rfl⟩
theorem dX3_bestKind_131 : mx_br cX3_bestKind 131 (.goto 5) (5) 3 134 136 := ⟨by decide +kernel, rfl, by decide⟩
theorem dX3_bestKind_134 : mx_at cX3_bestKind 134 (.iload 4) 2 136 := ⟨by decide +kernel, rfl⟩
theorem dX3_bestKind_136 : mx_at cX3_bestKind 136 (.ireturn) 1 137 := ⟨by decide +kernel, rfl⟩
theorem dX3_spare_0 : mx_at cX3_spare 0 (.iload_n 1) 1 1 := ⟨by decide +kernel, rfl⟩
theorem dX3_spare_1 : decode cX3_spare 1 = .ok (.tableswitch 72 0 4 #[35, 43, 51, 59, 67], 35) := by decide +kernel
theorem dX3_spare_36 : mx_at cX3_spare 36 (.aload_n 0) 1 37 := ⟨by decide +kernel, rfl⟩
theorem dX3_spare_37 : mx_at cX3_spare 37 (.getfield 10) 3 40 := ⟨by decide +kernel, rfl⟩
theorem dX3_spare_40 : mx_at cX3_spare 40 (.invokevirtual 205) 3 43 := ⟨by decide +kernel, rfl⟩
theorem dX3_spare_43 : mx_at cX3_spare 43 (.ireturn) 1 44 := ⟨by decide +kernel, rfl⟩
theorem dX3_spare_44 : mx_at cX3_spare 44 (.aload_n 0) 1 45 := ⟨by decide +kernel, rfl⟩
theorem dX3_spare_45 : mx_at cX3_spare 45 (.getfield 10) 3 48 := ⟨by decide +kernel, rfl⟩
theorem dX3_spare_48 : mx_at cX3_spare 48 (.invokevirtual 208) 3 51 := ⟨by decide +kernel, rfl⟩
theorem dX3_spare_51 : mx_at cX3_spare 51 (.ireturn) 1 52 := ⟨by decide +kernel, rfl⟩
theorem dX3_spare_52 : mx_at cX3_spare 52 (.aload_n 0) 1 53 := ⟨by decide +kernel, rfl⟩
theorem dX3_spare_53 : mx_at cX3_spare 53 (.getfield 10) 3 56 := ⟨by decide +kernel, rfl⟩
theorem dX3_spare_56 : mx_at cX3_spare 56 (.invokevirtual 211) 3 59 := ⟨by decide +kernel, rfl⟩
theorem dX3_spare_59 : mx_at cX3_spare 59 (.ireturn) 1 60 := ⟨by decide +kernel, rfl⟩
theorem dX3_spare_60 : mx_at cX3_spare 60 (.aload_n 0) 1 61 := ⟨by decide +kernel, rfl⟩
theorem dX3_spare_61 : mx_at cX3_spare 61 (.getfield 10) 3 64 := ⟨by decide +kernel, rfl⟩
theorem dX3_spare_64 : mx_at cX3_spare 64 (.invokevirtual 182) 3 67 := ⟨by decide +kernel, rfl⟩
theorem dX3_spare_67 : mx_at cX3_spare 67 (.ireturn) 1 68 := ⟨by decide +kernel, rfl⟩
theorem dX3_spare_68 : mx_at cX3_spare 68 (.aload_n 0) 1 69 := ⟨by decide +kernel, rfl⟩
theorem dX3_spare_69 : mx_at cX3_spare 69 (.invokevirtual 214) 3 72 := ⟨by decide +kernel, rfl⟩
theorem dX3_spare_72 : mx_at cX3_spare 72 (.ireturn) 1 73 := ⟨by decide +kernel, rfl⟩
theorem dX3_spare_73 : mx_at cX3_spare 73 (.aload_n 0) 1 74 := ⟨by decide +kernel, rfl⟩
theorem dX3_spare_74 : mx_at cX3_spare 74 (.bipush (-2)) 2 76 := ⟨by decide +kernel, rfl⟩
theorem dX3_spare_76 : mx_at cX3_spare 76 (.invokevirtual 49) 3 79 := ⟨by decide +kernel, rfl⟩
theorem dX3_spare_79 : mx_at cX3_spare 79 (.ireturn) 1 80 := ⟨by decide +kernel, rfl⟩
theorem dX3_lasts_0 : mx_at cX3_lasts 0 (.aload_n 0) 1 1 := ⟨by decide +kernel, rfl⟩
theorem dX3_lasts_1 : mx_at cX3_lasts 1 (.getfield 10) 3 4 := ⟨by decide +kernel, rfl⟩
theorem dX3_lasts_4 : mx_at cX3_lasts 4 (.invokevirtual 182) 3 7 := ⟨by decide +kernel, rfl⟩
theorem dX3_lasts_7 : mx_at cX3_lasts 7 (.istore_n 1) 1 8 := ⟨by decide +kernel, rfl⟩
theorem dX3_lasts_8 : mx_at cX3_lasts 8 (.iload_n 1) 1 9 := ⟨by decide +kernel, rfl⟩
theorem dX3_lasts_9 : mx_at cX3_lasts 9 (.iconst 1) 1 10 := ⟨by decide +kernel, rfl⟩
theorem dX3_lasts_10 : mx_br cX3_lasts 10 (.if_icmp .ge 8) (8) 3 13 18 := ⟨by decide +kernel, rfl, by decide⟩
theorem dX3_lasts_13 : mx_at cX3_lasts 13 (.bipush 99) 2 15 := ⟨by decide +kernel, rfl⟩
theorem dX3_lasts_15 : mx_br cX3_lasts 15 (.goto 12) (12) 3 18 27 := ⟨by decide +kernel, rfl, by decide⟩
theorem dX3_lasts_18 : mx_at cX3_lasts 18 (.aload_n 0) 1 19 := ⟨by decide +kernel, rfl⟩
theorem dX3_lasts_19 : mx_at cX3_lasts 19 (.getfield 10) 3 22 := ⟨by decide +kernel, rfl⟩
theorem dX3_lasts_22 : mx_at cX3_lasts 22 (.getfield 45) 3 25 := ⟨by decide +kernel, rfl⟩
theorem dX3_lasts_25 : mx_at cX3_lasts 25 (.iload_n 1) 1 26 := ⟨by decide +kernel, rfl⟩
theorem dX3_lasts_26 : mx_at cX3_lasts 26 (.idiv) 1 27 := ⟨by decide +kernel, rfl⟩
theorem dX3_lasts_27 : mx_at cX3_lasts 27 (.ireturn) 1 28 := ⟨by decide +kernel, rfl⟩
theorem dX3_next_0 : mx_at cX3_next 0 (.aload_n 0) 1 1 := ⟨by decide +kernel, rfl⟩
theorem dX3_next_1 : mx_at cX3_next 1 (.getfield 10) 3 4 := ⟨by decide +kernel, rfl⟩
theorem dX3_next_4 : mx_at cX3_next 4 (.iload_n 1) 1 5 := ⟨by decide +kernel, rfl⟩
theorem dX3_next_5 : mx_at cX3_next 5 (.invokevirtual 122) 3 8 := ⟨by decide +kernel, rfl⟩
theorem dX3_next_8 : mx_br cX3_next 8 (.ifCond .eq 14) (14) 3 11 22 := ⟨by decide +kernel, rfl, by decide⟩
theorem dX3_next_11 : mx_at cX3_next 11 (.aload_n 0) 1 12 := ⟨by decide +kernel, rfl⟩
theorem dX3_next_12 : mx_at cX3_next 12 (.getfield 10) 3 15 := ⟨by decide +kernel, rfl⟩
theorem dX3_next_15 : mx_at cX3_next 15 (.iload_n 1) 1 16 := ⟨by decide +kernel, rfl⟩
theorem dX3_next_16 : mx_at cX3_next 16 (.invokevirtual 217) 3 19 := ⟨by decide +kernel, rfl⟩
theorem dX3_next_19 : mx_br cX3_next 19 (.goto 8) (8) 3 22 27 := ⟨by decide +kernel, rfl, by decide⟩
theorem dX3_next_22 : mx_at cX3_next 22 (.aload_n 0) 1 23 := ⟨by decide +kernel, rfl⟩
theorem dX3_next_23 : mx_at cX3_next 23 (.iconst (-1)) 1 24 := ⟨by decide +kernel, rfl⟩
theorem dX3_next_24 : mx_at cX3_next 24 (.invokevirtual 49) 3 27 := ⟨by decide +kernel, rfl⟩
theorem dX3_next_27 : mx_at cX3_next 27 (.ireturn) 1 28 := ⟨by decide +kernel, rfl⟩
theorem dX3_run_0 : mx_at cX3_run 0 (.iload_n 1) 1 1 := ⟨by decide +kernel, rfl⟩
theorem dX3_run_1 : decode cX3_run 1 = .ok (.tableswitch 51 0 2 #[27, 35, 43], 27) := by decide +kernel
theorem dX3_run_28 : mx_at cX3_run 28 (.aload_n 0) 1 29 := ⟨by decide +kernel, rfl⟩
theorem dX3_run_29 : mx_at cX3_run 29 (.getfield 10) 3 32 := ⟨by decide +kernel, rfl⟩
theorem dX3_run_32 : mx_at cX3_run 32 (.invokevirtual 220) 3 35 := ⟨by decide +kernel, rfl⟩
theorem dX3_run_35 : mx_at cX3_run 35 (.ireturn) 1 36 := ⟨by decide +kernel, rfl⟩
theorem dX3_run_36 : mx_at cX3_run 36 (.aload_n 0) 1 37 := ⟨by decide +kernel, rfl⟩
theorem dX3_run_37 : mx_at cX3_run 37 (.getfield 10) 3 40 := ⟨by decide +kernel, rfl⟩
theorem dX3_run_40 : mx_at cX3_run 40 (.invokevirtual 223) 3 43 := ⟨by decide +kernel, rfl⟩
theorem dX3_run_43 : mx_at cX3_run 43 (.ireturn) 1 44 := ⟨by decide +kernel, rfl⟩
theorem dX3_run_44 : mx_at cX3_run 44 (.aload_n 0) 1 45 := ⟨by decide +kernel, rfl⟩
theorem dX3_run_45 : mx_at cX3_run 45 (.getfield 10) 3 48 := ⟨by decide +kernel, rfl⟩
theorem dX3_run_48 : mx_at cX3_run 48 (.invokevirtual 226) 3 51 := ⟨by decide +kernel, rfl⟩
theorem dX3_run_51 : mx_at cX3_run 51 (.ireturn) 1 52 := ⟨by decide +kernel, rfl⟩
theorem dX3_run_52 : mx_at cX3_run 52 (.aload_n 0) 1 53 := ⟨by decide +kernel, rfl⟩
theorem dX3_run_53 : mx_at cX3_run 53 (.bipush (-2)) 2 55 := ⟨by decide +kernel, rfl⟩
theorem dX3_run_55 : mx_at cX3_run 55 (.invokevirtual 49) 3 58 := ⟨by decide +kernel, rfl⟩
theorem dX3_run_58 : mx_at cX3_run 58 (.ireturn) 1 59 := ⟨by decide +kernel, rfl⟩
theorem dX3_two_0 : mx_at cX3_two 0 (.aload_n 0) 1 1 := ⟨by decide +kernel, rfl⟩
theorem dX3_two_1 : mx_at cX3_two 1 (.getfield 10) 3 4 := ⟨by decide +kernel, rfl⟩
theorem dX3_two_4 : mx_at cX3_two 4 (.iload_n 1) 1 5 := ⟨by decide +kernel, rfl⟩
theorem dX3_two_5 : mx_at cX3_two 5 (.invokevirtual 122) 3 8 := ⟨by decide +kernel, rfl⟩
theorem dX3_two_8 : mx_br cX3_two 8 (.ifCond .eq 19) (19) 3 11 27 := ⟨by decide +kernel, rfl, by decide⟩
theorem dX3_two_11 : mx_at cX3_two 11 (.aload_n 0) 1 12 := ⟨by decide +kernel, rfl⟩
theorem dX3_two_12 : mx_at cX3_two 12 (.getfield 10) 3 15 := ⟨by decide +kernel, rfl⟩
theorem dX3_two_15 : mx_at cX3_two 15 (.iload_n 2) 1 16 := ⟨by decide +kernel, rfl⟩
theorem dX3_two_16 : mx_at cX3_two 16 (.invokevirtual 122) 3 19 := ⟨by decide +kernel, rfl⟩
theorem dX3_two_19 : mx_br cX3_two 19 (.ifCond .eq 8) (8) 3 22 27 := ⟨by decide +kernel, rfl, by decide⟩
theorem dX3_two_22 : mx_at cX3_two 22 (.iload_n 1) 1 23 := ⟨by decide +kernel, rfl⟩
theorem dX3_two_23 : mx_at cX3_two 23 (.iload_n 2) 1 24 := ⟨by decide +kernel, rfl⟩
theorem dX3_two_24 : mx_br cX3_two 24 (.if_icmp .ne 9) (9) 3 27 33 := ⟨by decide +kernel, rfl, by decide⟩
theorem dX3_two_27 : mx_at cX3_two 27 (.aload_n 0) 1 28 := ⟨by decide +kernel, rfl⟩
theorem dX3_two_28 : mx_at cX3_two 28 (.iconst (-1)) 1 29 := ⟨by decide +kernel, rfl⟩
theorem dX3_two_29 : mx_at cX3_two 29 (.invokevirtual 49) 3 32 := ⟨by decide +kernel, rfl⟩
theorem dX3_two_32 : mx_at cX3_two 32 (.ireturn) 1 33 := ⟨by decide +kernel, rfl⟩
theorem dX3_two_33 : mx_at cX3_two 33 (.iload_n 3) 1 34 := ⟨by decide +kernel, rfl⟩
theorem dX3_two_34 : mx_at cX3_two 34 (.iconst 0) 1 35 := ⟨by decide +kernel, rfl⟩
theorem dX3_two_35 : mx_at cX3_two 35 (.bipush 30) 2 37 := ⟨by decide +kernel, rfl⟩
theorem dX3_two_37 : mx_at cX3_two 37 (.invokestatic 169) 3 40 := ⟨by decide +kernel, rfl⟩
theorem dX3_two_40 : mx_at cX3_two 40 (.istore 4) 2 42 := ⟨by decide +kernel, rfl⟩
theorem dX3_two_42 : mx_at cX3_two 42 (.iload 4) 2 44 := ⟨by decide +kernel, rfl⟩
theorem dX3_two_44 : mx_br cX3_two 44 (.ifCond .eq 10) (10) 3 47 54 := ⟨by decide +kernel, rfl, by decide⟩
theorem dX3_two_47 : mx_at cX3_two 47 (.aload_n 0) 1 48 := ⟨by decide +kernel, rfl⟩
theorem dX3_two_48 : mx_at cX3_two 48 (.iload 4) 2 50 := ⟨by decide +kernel, rfl⟩
theorem dX3_two_50 : mx_at cX3_two 50 (.invokevirtual 49) 3 53 := ⟨by decide +kernel, rfl⟩
theorem dX3_two_53 : mx_at cX3_two 53 (.ireturn) 1 54 := ⟨by decide +kernel, rfl⟩
theorem dX3_two_54 : mx_at cX3_two 54 (.iconst 0) 1 55 := ⟨by decide +kernel, rfl⟩
theorem dX3_two_55 : mx_at cX3_two 55 (.istore 5) 2 57 := ⟨by decide +kernel, rfl⟩
theorem dX3_two_57 : mx_at cX3_two 57 (.iload 5) 2 59 := ⟨by decide +kernel, rfl⟩
theorem dX3_two_59 : mx_at cX3_two 59 (.iconst 4) 1 60 := ⟨by decide +kernel, rfl⟩
theorem dX3_two_60 : mx_br cX3_two 60 (.if_icmp .ge 138) (138) 3 63 198 := ⟨by decide +kernel, rfl, by decide⟩
theorem dX3_two_63 : mx_at cX3_two 63 (.iload 5) 2 65 := ⟨by decide +kernel, rfl⟩
theorem dX3_two_65 : mx_at cX3_two 65 (.iconst 2) 1 66 := ⟨by decide +kernel, rfl⟩
theorem dX3_two_66 : mx_br cX3_two 66 (.if_icmp .lt 7) (7) 3 69 73 := ⟨by decide +kernel, rfl, by decide⟩
theorem dX3_two_69 : mx_at cX3_two 69 (.iconst 1) 1 70 := ⟨by decide +kernel, rfl⟩
theorem dX3_two_70 : mx_br cX3_two 70 (.goto 4) (4) 3 73 74 := ⟨by decide +kernel, rfl, by decide⟩
theorem dX3_two_73 : mx_at cX3_two 73 (.iconst 0) 1 74 := ⟨by decide +kernel, rfl⟩
theorem dX3_two_74 : mx_at cX3_two 74 (.istore 6) 2 76 := ⟨by decide +kernel, rfl⟩
theorem dX3_two_76 : mx_at cX3_two 76 (.iload 5) 2 78 := ⟨by decide +kernel, rfl⟩
theorem dX3_two_78 : mx_at cX3_two 78 (.iconst 2) 1 79 := ⟨by decide +kernel, rfl⟩
theorem dX3_two_79 : mx_at cX3_two 79 (.irem) 1 80 := ⟨by decide +kernel, rfl⟩
theorem dX3_two_80 : mx_at cX3_two 80 (.iconst 1) 1 81 := ⟨by decide +kernel, rfl⟩
theorem dX3_two_81 : mx_br cX3_two 81 (.if_icmp .ne 7) (7) 3 84 88 := ⟨by decide +kernel, rfl, by decide⟩
theorem dX3_two_84 : mx_at cX3_two 84 (.iconst 1) 1 85 := ⟨by decide +kernel, rfl⟩
theorem dX3_two_85 : mx_br cX3_two 85 (.goto 4) (4) 3 88 89 := ⟨by decide +kernel, rfl, by decide⟩
theorem dX3_two_88 : mx_at cX3_two 88 (.iconst 0) 1 89 := ⟨by decide +kernel, rfl⟩
theorem dX3_two_89 : mx_at cX3_two 89 (.istore 7) 2 91 := ⟨by decide +kernel, rfl⟩
theorem dX3_two_91 : mx_at cX3_two 91 (.aload_n 0) 1 92 := ⟨by decide +kernel, rfl⟩
theorem dX3_two_92 : mx_at cX3_two 92 (.iload_n 1) 1 93 := ⟨by decide +kernel, rfl⟩
theorem dX3_two_93 : mx_at cX3_two 93 (.iload 6) 2 95 := ⟨by decide +kernel, rfl⟩
theorem dX3_two_95 : mx_at cX3_two 95 (.iload_n 2) 1 96 := ⟨by decide +kernel, rfl⟩
theorem dX3_two_96 : mx_at cX3_two 96 (.iload 7) 2 98 := ⟨by decide +kernel, rfl⟩
theorem dX3_two_98 : mx_at cX3_two 98 (.iload_n 3) 1 99 := ⟨by decide +kernel, rfl⟩
theorem dX3_two_99 : mx_at cX3_two 99 (.invokevirtual 229) 3 102 := ⟨by decide +kernel, rfl⟩
theorem dX3_two_102 : mx_at cX3_two 102 (.aload_n 0) 1 103 := ⟨by decide +kernel, rfl⟩
theorem dX3_two_103 : mx_at cX3_two 103 (.iload_n 1) 1 104 := ⟨by decide +kernel, rfl⟩
theorem dX3_two_104 : mx_at cX3_two 104 (.iload 6) 2 106 := ⟨by decide +kernel, rfl⟩
theorem dX3_two_106 : mx_br cX3_two 106 (.ifCond .ne 7) (7) 3 109 113 := ⟨by decide +kernel, rfl, by decide⟩
theorem dX3_two_109 : mx_at cX3_two 109 (.iconst 1) 1 110 := ⟨by decide +kernel, rfl⟩
theorem dX3_two_110 : mx_br cX3_two 110 (.goto 4) (4) 3 113 114 := ⟨by decide +kernel, rfl, by decide⟩
theorem dX3_two_113 : mx_at cX3_two 113 (.iconst 0) 1 114 := ⟨by decide +kernel, rfl⟩
theorem dX3_two_114 : mx_at cX3_two 114 (.iload_n 2) 1 115 := ⟨by decide +kernel, rfl⟩
theorem dX3_two_115 : mx_at cX3_two 115 (.iload 7) 2 117 := ⟨by decide +kernel, rfl⟩
theorem dX3_two_117 : mx_at cX3_two 117 (.iload_n 3) 1 118 := ⟨by decide +kernel, rfl⟩
theorem dX3_two_118 : mx_at cX3_two 118 (.invokevirtual 229) 3 121 := ⟨by decide +kernel, rfl⟩
theorem dX3_two_121 : mx_br cX3_two 121 (.if_icmp .lt 7) (7) 3 124 128 := ⟨by decide +kernel, rfl, by decide⟩
theorem dX3_two_124 : mx_at cX3_two 124 (.iconst 1) 1 125 := ⟨by decide +kernel, rfl⟩
theorem dX3_two_125 : mx_br cX3_two 125 (.goto 4) (4) 3 128 129 := ⟨by decide +kernel, rfl, by decide⟩
theorem dX3_two_128 : mx_at cX3_two 128 (.iconst 0) 1 129 := ⟨by decide +kernel, rfl⟩
theorem dX3_two_129 : mx_at cX3_two 129 (.istore 8) 2 131 := ⟨by decide +kernel, rfl⟩
theorem dX3_two_131 : mx_at cX3_two 131 (.iload 8) 2 133 := ⟨by decide +kernel, rfl⟩
theorem dX3_two_133 : mx_br cX3_two 133 (.ifCond .eq 59) (59) 3 136 192 := ⟨by decide +kernel, rfl, by decide⟩
theorem dX3_two_136 : mx_at cX3_two 136 (.aload_n 0) 1 137 := ⟨by decide +kernel, rfl⟩
theorem dX3_two_137 : mx_at cX3_two 137 (.iload_n 2) 1 138 := ⟨by decide +kernel, rfl⟩
theorem dX3_two_138 : mx_at cX3_two 138 (.iload 7) 2 140 := ⟨by decide +kernel, rfl⟩
theorem dX3_two_140 : mx_at cX3_two 140 (.iload_n 1) 1 141 := ⟨by decide +kernel, rfl⟩
theorem dX3_two_141 : mx_at cX3_two 141 (.iload 6) 2 143 := ⟨by decide +kernel, rfl⟩
theorem dX3_two_143 : mx_at cX3_two 143 (.iload_n 3) 1 144 := ⟨by decide +kernel, rfl⟩
theorem dX3_two_144 : mx_at cX3_two 144 (.invokevirtual 229) 3 147 := ⟨by decide +kernel, rfl⟩
theorem dX3_two_147 : mx_at cX3_two 147 (.aload_n 0) 1 148 := ⟨by decide +kernel, rfl⟩
theorem dX3_two_148 : mx_at cX3_two 148 (.iload_n 2) 1 149 := ⟨by decide +kernel, rfl⟩
theorem dX3_two_149 : mx_at cX3_two 149 (.iload 7) 2 151 := ⟨by decide +kernel, rfl⟩
theorem dX3_two_151 : mx_br cX3_two 151 (.ifCond .ne 7) (7) 3 154 158 := ⟨by decide +kernel, rfl, by decide⟩
theorem dX3_two_154 : mx_at cX3_two 154 (.iconst 1) 1 155 := ⟨by decide +kernel, rfl⟩
theorem dX3_two_155 : mx_br cX3_two 155 (.goto 4) (4) 3 158 159 := ⟨by decide +kernel, rfl, by decide⟩
theorem dX3_two_158 : mx_at cX3_two 158 (.iconst 0) 1 159 := ⟨by decide +kernel, rfl⟩
theorem dX3_two_159 : mx_at cX3_two 159 (.iload_n 1) 1 160 := ⟨by decide +kernel, rfl⟩
theorem dX3_two_160 : mx_at cX3_two 160 (.iload 6) 2 162 := ⟨by decide +kernel, rfl⟩
theorem dX3_two_162 : mx_at cX3_two 162 (.iload_n 3) 1 163 := ⟨by decide +kernel, rfl⟩
theorem dX3_two_163 : mx_at cX3_two 163 (.invokevirtual 229) 3 166 := ⟨by decide +kernel, rfl⟩
theorem dX3_two_166 : mx_br cX3_two 166 (.if_icmp .lt 26) (26) 3 169 192 := ⟨by decide +kernel, rfl, by decide⟩
theorem dX3_two_169 : mx_at cX3_two 169 (.iload 6) 2 171 := ⟨by decide +kernel, rfl⟩
theorem dX3_two_171 : mx_br cX3_two 171 (.ifCond .eq 8) (8) 3 174 179 := ⟨by decide +kernel, rfl, by decide⟩
theorem dX3_two_174 : mx_at cX3_two 174 (.bipush 10) 2 176 := ⟨by decide +kernel, rfl⟩
theorem dX3_two_176 : mx_br cX3_two 176 (.goto 4) (4) 3 179 180 := ⟨by decide +kernel, rfl, by decide⟩
theorem dX3_two_179 : mx_at cX3_two 179 (.iconst 0) 1 180 := ⟨by decide +kernel, rfl⟩
theorem dX3_two_180 : mx_at cX3_two 180 (.iload 7) 2 182 := ⟨by decide +kernel, rfl⟩
theorem dX3_two_182 : mx_br cX3_two 182 (.ifCond .eq 7) (7) 3 185 189 := ⟨by decide +kernel, rfl, by decide⟩
theorem dX3_two_185 : mx_at cX3_two 185 (.iconst 1) 1 186 := ⟨by decide +kernel, rfl⟩
theorem dX3_two_186 : mx_br cX3_two 186 (.goto 4) (4) 3 189 190 := ⟨by decide +kernel, rfl, by decide⟩
theorem dX3_two_189 : mx_at cX3_two 189 (.iconst 0) 1 190 := ⟨by decide +kernel, rfl⟩
theorem dX3_two_190 : mx_at cX3_two 190 (.iadd) 1 191 := ⟨by decide +kernel, rfl⟩
theorem dX3_two_191 : mx_at cX3_two 191 (.ireturn) 1 192 := ⟨by decide +kernel, rfl⟩
theorem dX3_two_192 : mx_at cX3_two 192 (.iinc 5 1) 3 195 := ⟨by decide +kernel, rfl⟩
theorem dX3_two_195 : mx_br cX3_two 195 (.goto (-138)) (-138) 3 198 57 := ⟨by decide +kernel, rfl, by decide⟩
theorem dX3_two_198 : mx_at cX3_two 198 (.bipush (-9)) 2 200 := ⟨by decide +kernel, rfl⟩
theorem dX3_two_200 : mx_at cX3_two 200 (.ireturn) 1 201 := ⟨by decide +kernel, rfl⟩
theorem dX3_worth_0 : mx_at cX3_worth 0 (.aload_n 0) 1 1 := ⟨by decide +kernel, rfl⟩
theorem dX3_worth_1 : mx_at cX3_worth 1 (.getfield 16) 3 4 := ⟨by decide +kernel, rfl⟩
theorem dX3_worth_4 : mx_at cX3_worth 4 (.aload_n 0) 1 5 := ⟨by decide +kernel, rfl⟩
theorem dX3_worth_5 : mx_at cX3_worth 5 (.getfield 10) 3 8 := ⟨by decide +kernel, rfl⟩
theorem dX3_worth_8 : mx_at cX3_worth 8 (.invokevirtual 73) 3 11 := ⟨by decide +kernel, rfl⟩
theorem dX3_worth_11 : mx_at cX3_worth 11 (.iload_n 2) 1 12 := ⟨by decide +kernel, rfl⟩
theorem dX3_worth_12 : mx_br cX3_worth 12 (.ifCond .eq 14) (14) 3 15 26 := ⟨by decide +kernel, rfl, by decide⟩
theorem dX3_worth_15 : mx_at cX3_worth 15 (.aload_n 0) 1 16 := ⟨by decide +kernel, rfl⟩
theorem dX3_worth_16 : mx_at cX3_worth 16 (.getfield 16) 3 19 := ⟨by decide +kernel, rfl⟩
theorem dX3_worth_19 : mx_at cX3_worth 19 (.iload_n 1) 1 20 := ⟨by decide +kernel, rfl⟩
theorem dX3_worth_20 : mx_at cX3_worth 20 (.invokevirtual 125) 3 23 := ⟨by decide +kernel, rfl⟩
theorem dX3_worth_23 : mx_at cX3_worth 23 (.invokevirtual 233) 3 26 := ⟨by decide +kernel, rfl⟩
theorem dX3_worth_26 : mx_at cX3_worth 26 (.iload 4) 2 28 := ⟨by decide +kernel, rfl⟩
theorem dX3_worth_28 : mx_br cX3_worth 28 (.ifCond .eq 14) (14) 3 31 42 := ⟨by decide +kernel, rfl, by decide⟩
theorem dX3_worth_31 : mx_at cX3_worth 31 (.aload_n 0) 1 32 := ⟨by decide +kernel, rfl⟩
theorem dX3_worth_32 : mx_at cX3_worth 32 (.getfield 16) 3 35 := ⟨by decide +kernel, rfl⟩
theorem dX3_worth_35 : mx_at cX3_worth 35 (.iload_n 3) 1 36 := ⟨by decide +kernel, rfl⟩
theorem dX3_worth_36 : mx_at cX3_worth 36 (.invokevirtual 125) 3 39 := ⟨by decide +kernel, rfl⟩
theorem dX3_worth_39 : mx_at cX3_worth 39 (.invokevirtual 233) 3 42 := ⟨by decide +kernel, rfl⟩
theorem dX3_worth_42 : mx_at cX3_worth 42 (.aload_n 0) 1 43 := ⟨by decide +kernel, rfl⟩
theorem dX3_worth_43 : mx_at cX3_worth 43 (.getfield 16) 3 46 := ⟨by decide +kernel, rfl⟩
theorem dX3_worth_46 : mx_at cX3_worth 46 (.iload 5) 2 48 := ⟨by decide +kernel, rfl⟩
theorem dX3_worth_48 : mx_at cX3_worth 48 (.invokevirtual 145) 3 51 := ⟨by decide +kernel, rfl⟩
theorem dX3_worth_51 : mx_at cX3_worth 51 (.aload_n 0) 1 52 := ⟨by decide +kernel, rfl⟩
theorem dX3_worth_52 : mx_at cX3_worth 52 (.getfield 16) 3 55 := ⟨by decide +kernel, rfl⟩
theorem dX3_worth_55 : mx_at cX3_worth 55 (.iload_n 1) 1 56 := ⟨by decide +kernel, rfl⟩
theorem dX3_worth_56 : mx_at cX3_worth 56 (.invokevirtual 125) 3 59 := ⟨by decide +kernel, rfl⟩
theorem dX3_worth_59 : mx_at cX3_worth 59 (.astore 6) 2 61 := ⟨by decide +kernel, rfl⟩
theorem dX3_worth_61 : mx_at cX3_worth 61 (.aload 6) 2 63 := ⟨by decide +kernel, rfl⟩
theorem dX3_worth_63 : mx_at cX3_worth 63 (.getfield 136) 3 66 := ⟨by decide +kernel, rfl⟩
theorem dX3_worth_66 : mx_br cX3_worth 66 (.ifCond .eq 7) (7) 3 69 73 := ⟨by decide +kernel, rfl, by decide⟩
theorem dX3_worth_69 : mx_at cX3_worth 69 (.iconst 5) 1 70 := ⟨by decide +kernel, rfl⟩
theorem dX3_worth_70 : mx_br cX3_worth 70 (.goto 4) (4) 3 73 74 := ⟨by decide +kernel, rfl, by decide⟩
theorem dX3_worth_73 : mx_at cX3_worth 73 (.iconst 0) 1 74 := ⟨by decide +kernel, rfl⟩
theorem dX3_worth_74 : mx_at cX3_worth 74 (.aload 6) 2 76 := ⟨by decide +kernel, rfl⟩
theorem dX3_worth_76 : mx_at cX3_worth 76 (.getfield 157) 3 79 := ⟨by decide +kernel, rfl⟩
theorem dX3_worth_79 : mx_at cX3_worth 79 (.isub) 1 80 := ⟨by decide +kernel, rfl⟩
theorem dX3_worth_80 : mx_at cX3_worth 80 (.iload_n 2) 1 81 := ⟨by decide +kernel, rfl⟩
theorem dX3_worth_81 : mx_br cX3_worth 81 (.ifCond .eq 7) (7) 3 84 88 := ⟨by decide +kernel, rfl, by decide⟩
theorem dX3_worth_84 : mx_at cX3_worth 84 (.iconst 2) 1 85 := ⟨by decide +kernel, rfl⟩
theorem dX3_worth_85 : mx_br cX3_worth 85 (.goto 4) (4) 3 88 89 := ⟨by decide +kernel, rfl, by decide⟩
theorem dX3_worth_88 : mx_at cX3_worth 88 (.iconst 0) 1 89 := ⟨by decide +kernel, rfl⟩
theorem dX3_worth_89 : mx_at cX3_worth 89 (.iadd) 1 90 := ⟨by decide +kernel, rfl⟩
theorem dX3_worth_90 : mx_at cX3_worth 90 (.ireturn) 1 91 := ⟨by decide +kernel, rfl⟩
theorem dX3_guest_0 : mx_at cX3_guest 0 (.aload_n 0) 1 1 := ⟨by decide +kernel, rfl⟩
theorem dX3_guest_1 : mx_at cX3_guest 1 (.getfield 10) 3 4 := ⟨by decide +kernel, rfl⟩
theorem dX3_guest_4 : mx_at cX3_guest 4 (.iload_n 1) 1 5 := ⟨by decide +kernel, rfl⟩
theorem dX3_guest_5 : mx_at cX3_guest 5 (.invokevirtual 122) 3 8 := ⟨by decide +kernel, rfl⟩
theorem dX3_guest_8 : mx_br cX3_guest 8 (.ifCond .ne 9) (9) 3 11 17 := ⟨by decide +kernel, rfl, by decide⟩
theorem dX3_guest_11 : mx_at cX3_guest 11 (.aload_n 0) 1 12 := ⟨by decide +kernel, rfl⟩
theorem dX3_guest_12 : mx_at cX3_guest 12 (.iconst (-1)) 1 13 := ⟨by decide +kernel, rfl⟩
theorem dX3_guest_13 : mx_at cX3_guest 13 (.invokevirtual 236) 3 16 := ⟨by decide +kernel, rfl⟩
theorem dX3_guest_16 : mx_at cX3_guest 16 (.lreturn) 1 17 := ⟨by decide +kernel, rfl⟩
theorem dX3_guest_17 : mx_at cX3_guest 17 (.iload_n 2) 1 18 := ⟨by decide +kernel, rfl⟩
theorem dX3_guest_18 : mx_br cX3_guest 18 (.ifCond .lt 8) (8) 3 21 26 := ⟨by decide +kernel, rfl, by decide⟩
theorem dX3_guest_21 : mx_at cX3_guest 21 (.iload_n 3) 1 22 := ⟨by decide +kernel, rfl⟩
theorem dX3_guest_22 : mx_at cX3_guest 22 (.iconst 2) 1 23 := ⟨by decide +kernel, rfl⟩
theorem dX3_guest_23 : mx_br cX3_guest 23 (.if_icmp .ge 10) (10) 3 26 33 := ⟨by decide +kernel, rfl, by decide⟩
theorem dX3_guest_26 : mx_at cX3_guest 26 (.aload_n 0) 1 27 := ⟨by decide +kernel, rfl⟩
theorem dX3_guest_27 : mx_at cX3_guest 27 (.bipush (-4)) 2 29 := ⟨by decide +kernel, rfl⟩
theorem dX3_guest_29 : mx_at cX3_guest 29 (.invokevirtual 236) 3 32 := ⟨by decide +kernel, rfl⟩
theorem dX3_guest_32 : mx_at cX3_guest 32 (.lreturn) 1 33 := ⟨by decide +kernel, rfl⟩
theorem dX3_guest_33 : mx_at cX3_guest 33 (.iload_n 2) 1 34 := ⟨by decide +kernel, rfl⟩
theorem dX3_guest_34 : mx_at cX3_guest 34 (.bipush 7) 2 36 := ⟨by decide +kernel, rfl⟩
theorem dX3_guest_36 : mx_br cX3_guest 36 (.if_icmp .gt 9) (9) 3 39 45 := ⟨by decide +kernel, rfl, by decide⟩
theorem dX3_guest_39 : mx_at cX3_guest 39 (.iload_n 3) 1 40 := ⟨by decide +kernel, rfl⟩
theorem dX3_guest_40 : mx_at cX3_guest 40 (.bipush 20) 2 42 := ⟨by decide +kernel, rfl⟩
theorem dX3_guest_42 : mx_br cX3_guest 42 (.if_icmp .le 10) (10) 3 45 52 := ⟨by decide +kernel, rfl, by decide⟩
theorem dX3_guest_45 : mx_at cX3_guest 45 (.aload_n 0) 1 46 := ⟨by decide +kernel, rfl⟩
theorem dX3_guest_46 : mx_at cX3_guest 46 (.bipush (-6)) 2 48 := ⟨by decide +kernel, rfl⟩
theorem dX3_guest_48 : mx_at cX3_guest 48 (.invokevirtual 236) 3 51 := ⟨by decide +kernel, rfl⟩
theorem dX3_guest_51 : mx_at cX3_guest 51 (.lreturn) 1 52 := ⟨by decide +kernel, rfl⟩
theorem dX3_guest_52 : mx_at cX3_guest 52 (.iload 4) 2 54 := ⟨by decide +kernel, rfl⟩
theorem dX3_guest_54 : mx_br cX3_guest 54 (.ifCond .lt 9) (9) 3 57 63 := ⟨by decide +kernel, rfl, by decide⟩
theorem dX3_guest_57 : mx_at cX3_guest 57 (.iload 4) 2 59 := ⟨by decide +kernel, rfl⟩
theorem dX3_guest_59 : mx_at cX3_guest 59 (.iconst 1) 1 60 := ⟨by decide +kernel, rfl⟩
theorem dX3_guest_60 : mx_br cX3_guest 60 (.if_icmp .le 10) (10) 3 63 70 := ⟨by decide +kernel, rfl, by decide⟩
theorem dX3_guest_63 : mx_at cX3_guest 63 (.aload_n 0) 1 64 := ⟨by decide +kernel, rfl⟩
theorem dX3_guest_64 : mx_at cX3_guest 64 (.bipush (-2)) 2 66 := ⟨by decide +kernel, rfl⟩
theorem dX3_guest_66 : mx_at cX3_guest 66 (.invokevirtual 236) 3 69 := ⟨by decide +kernel, rfl⟩
theorem dX3_guest_69 : mx_at cX3_guest 69 (.lreturn) 1 70 := ⟨by decide +kernel, rfl⟩
theorem dX3_guest_70 : mx_at cX3_guest 70 (.lconst 0) 1 71 := ⟨by decide +kernel, rfl⟩
theorem dX3_guest_71 : mx_at cX3_guest 71 (.lstore 5) 2 73 := ⟨by decide +kernel, rfl⟩
theorem dX3_guest_73 : mx_at cX3_guest 73 (.iconst 0) 1 74 := ⟨by decide +kernel, rfl⟩
theorem dX3_guest_74 : mx_at cX3_guest 74 (.istore 7) 2 76 := ⟨by decide +kernel, rfl⟩
theorem dX3_guest_76 : mx_at cX3_guest 76 (.iload 7) 2 78 := ⟨by decide +kernel, rfl⟩
theorem dX3_guest_78 : mx_at cX3_guest 78 (.iconst 1) 1 79 := ⟨by decide +kernel, rfl⟩
theorem dX3_guest_79 : mx_at cX3_guest 79 (.iload_n 2) 1 80 := ⟨by decide +kernel, rfl⟩
theorem dX3_guest_80 : mx_at cX3_guest 80 (.ishl) 1 81 := ⟨by decide +kernel, rfl⟩
theorem dX3_guest_81 : mx_br cX3_guest 81 (.if_icmp .ge 39) (39) 3 84 120 := ⟨by decide +kernel, rfl, by decide⟩
theorem dX3_guest_84 : mx_at cX3_guest 84 (.aload_n 0) 1 85 := ⟨by decide +kernel, rfl⟩
theorem dX3_guest_85 : mx_at cX3_guest 85 (.iload_n 1) 1 86 := ⟨by decide +kernel, rfl⟩
theorem dX3_guest_86 : mx_at cX3_guest 86 (.iload_n 2) 1 87 := ⟨by decide +kernel, rfl⟩
theorem dX3_guest_87 : mx_at cX3_guest 87 (.iload 7) 2 89 := ⟨by decide +kernel, rfl⟩
theorem dX3_guest_89 : mx_at cX3_guest 89 (.invokevirtual 240) 3 92 := ⟨by decide +kernel, rfl⟩
theorem dX3_guest_92 : mx_br cX3_guest 92 (.ifCond .eq 22) (22) 3 95 114 := ⟨by decide +kernel, rfl, by decide⟩
theorem dX3_guest_95 : mx_at cX3_guest 95 (.lload 5) 2 97 := ⟨by decide +kernel, rfl⟩
theorem dX3_guest_97 : mx_at cX3_guest 97 (.iload_n 3) 1 98 := ⟨by decide +kernel, rfl⟩
theorem dX3_guest_98 : mx_at cX3_guest 98 (.iconst 1) 1 99 := ⟨by decide +kernel, rfl⟩
theorem dX3_guest_99 : mx_at cX3_guest 99 (.isub) 1 100 := ⟨by decide +kernel, rfl⟩
theorem dX3_guest_100 : mx_at cX3_guest 100 (.i2l) 1 101 := ⟨by decide +kernel, rfl⟩
theorem dX3_guest_101 : mx_at cX3_guest 101 (.iload_n 2) 1 102 := ⟨by decide +kernel, rfl⟩
theorem dX3_guest_102 : mx_at cX3_guest 102 (.iload 7) 2 104 := ⟨by decide +kernel, rfl⟩
theorem dX3_guest_104 : mx_at cX3_guest 104 (.invokestatic 193) 3 107 := ⟨by decide +kernel, rfl⟩
theorem dX3_guest_107 : mx_at cX3_guest 107 (.isub) 1 108 := ⟨by decide +kernel, rfl⟩
theorem dX3_guest_108 : mx_at cX3_guest 108 (.invokestatic 244) 3 111 := ⟨by decide +kernel, rfl⟩
theorem dX3_guest_111 : mx_at cX3_guest 111 (.ladd) 1 112 := ⟨by decide +kernel, rfl⟩
theorem dX3_guest_112 : mx_at cX3_guest 112 (.lstore 5) 2 114 := ⟨by decide +kernel, rfl⟩
theorem dX3_guest_114 : mx_at cX3_guest 114 (.iinc 7 1) 3 117 := ⟨by decide +kernel, rfl⟩
theorem dX3_guest_117 : mx_br cX3_guest 117 (.goto (-41)) (-41) 3 120 76 := ⟨by decide +kernel, rfl, by decide⟩
theorem dX3_guest_120 : mx_at cX3_guest 120 (.lload 5) 2 122 := ⟨by decide +kernel, rfl⟩
theorem dX3_guest_122 : mx_at cX3_guest 122 (.iload_n 3) 1 123 := ⟨by decide +kernel, rfl⟩
theorem dX3_guest_123 : mx_at cX3_guest 123 (.i2l) 1 124 := ⟨by decide +kernel, rfl⟩
theorem dX3_guest_124 : mx_at cX3_guest 124 (.iload_n 2) 1 125 := ⟨by decide +kernel, rfl⟩
theorem dX3_guest_125 : mx_at cX3_guest 125 (.invokestatic 244) 3 128 := ⟨by decide +kernel, rfl⟩
theorem dX3_guest_128 : mx_at cX3_guest 128 (.iload 4) 2 130 := ⟨by decide +kernel, rfl⟩
theorem dX3_guest_130 : mx_at cX3_guest 130 (.invokestatic 248) 3 133 := ⟨by decide +kernel, rfl⟩
theorem dX3_guest_133 : mx_at cX3_guest 133 (.lreturn) 1 134 := ⟨by decide +kernel, rfl⟩
theorem dX3_isKeptWithGuests_0 : mx_at cX3_isKeptWithGuests 0 (.aload_n 0) 1 1 := ⟨by decide +kernel, rfl⟩
theorem dX3_isKeptWithGuests_1 : mx_at cX3_isKeptWithGuests 1 (.getfield 16) 3 4 := ⟨by decide +kernel, rfl⟩
theorem dX3_isKeptWithGuests_4 : mx_at cX3_isKeptWithGuests 4 (.aload_n 0) 1 5 := ⟨by decide +kernel, rfl⟩
theorem dX3_isKeptWithGuests_5 : mx_at cX3_isKeptWithGuests 5 (.getfield 10) 3 8 := ⟨by decide +kernel, rfl⟩
theorem dX3_isKeptWithGuests_8 : mx_at cX3_isKeptWithGuests 8 (.invokevirtual 73) 3 11 := ⟨by decide +kernel, rfl⟩
theorem dX3_isKeptWithGuests_11 : mx_at cX3_isKeptWithGuests 11 (.iconst 0) 1 12 := ⟨by decide +kernel, rfl⟩
theorem dX3_isKeptWithGuests_12 : mx_at cX3_isKeptWithGuests 12 (.istore 4) 2 14 := ⟨by decide +kernel, rfl⟩
theorem dX3_isKeptWithGuests_14 : mx_at cX3_isKeptWithGuests 14 (.iload 4) 2 16 := ⟨by decide +kernel, rfl⟩
theorem dX3_isKeptWithGuests_16 : mx_at cX3_isKeptWithGuests 16 (.iload_n 2) 1 17 := ⟨by decide +kernel, rfl⟩
theorem dX3_isKeptWithGuests_17 : mx_br cX3_isKeptWithGuests 17 (.if_icmp .ge 50) (50) 3 20 67 := ⟨by decide +kernel, rfl, by decide⟩
theorem dX3_isKeptWithGuests_20 : mx_at cX3_isKeptWithGuests 20 (.aload_n 0) 1 21 := ⟨by decide +kernel, rfl⟩
theorem dX3_isKeptWithGuests_21 : mx_at cX3_isKeptWithGuests 21 (.getfield 16) 3 24 := ⟨by decide +kernel, rfl⟩
theorem dX3_isKeptWithGuests_24 : mx_at cX3_isKeptWithGuests 24 (.iload_n 1) 1 25 := ⟨by decide +kernel, rfl⟩
theorem dX3_isKeptWithGuests_25 : mx_at cX3_isKeptWithGuests 25 (.invokevirtual 125) 3 28 := ⟨by decide +kernel, rfl⟩
theorem dX3_isKeptWithGuests_28 : mx_at cX3_isKeptWithGuests 28 (.astore 5) 2 30 := ⟨by decide +kernel, rfl⟩
theorem dX3_isKeptWithGuests_30 : mx_at cX3_isKeptWithGuests 30 (.aload 5) 2 32 := ⟨by decide +kernel, rfl⟩
theorem dX3_isKeptWithGuests_32 : mx_at cX3_isKeptWithGuests 32 (.getfield 136) 3 35 := ⟨by decide +kernel, rfl⟩
theorem dX3_isKeptWithGuests_35 : mx_br cX3_isKeptWithGuests 35 (.ifCond .eq 18) (18) 3 38 53 := ⟨by decide +kernel, rfl, by decide⟩
theorem dX3_isKeptWithGuests_38 : mx_at cX3_isKeptWithGuests 38 (.iload_n 3) 1 39 := ⟨by decide +kernel, rfl⟩
theorem dX3_isKeptWithGuests_39 : mx_at cX3_isKeptWithGuests 39 (.iload 4) 2 41 := ⟨by decide +kernel, rfl⟩
theorem dX3_isKeptWithGuests_41 : mx_at cX3_isKeptWithGuests 41 (.ishr) 1 42 := ⟨by decide +kernel, rfl⟩
theorem dX3_isKeptWithGuests_42 : mx_at cX3_isKeptWithGuests 42 (.iconst 1) 1 43 := ⟨by decide +kernel, rfl⟩
theorem dX3_isKeptWithGuests_43 : mx_at cX3_isKeptWithGuests 43 (.iand) 1 44 := ⟨by decide +kernel, rfl⟩
theorem dX3_isKeptWithGuests_44 : mx_at cX3_isKeptWithGuests 44 (.iconst 1) 1 45 := ⟨by decide +kernel, rfl⟩
theorem dX3_isKeptWithGuests_45 : mx_br cX3_isKeptWithGuests 45 (.if_icmp .ne 8) (8) 3 48 53 := ⟨by decide +kernel, rfl, by decide⟩
theorem dX3_isKeptWithGuests_48 : mx_at cX3_isKeptWithGuests 48 (.aload 5) 2 50 := ⟨by decide +kernel, rfl⟩
theorem dX3_isKeptWithGuests_50 : mx_at cX3_isKeptWithGuests 50 (.invokevirtual 252) 3 53 := ⟨by decide +kernel, rfl⟩
theorem dX3_isKeptWithGuests_53 : mx_at cX3_isKeptWithGuests 53 (.aload_n 0) 1 54 := ⟨by decide +kernel, rfl⟩
theorem dX3_isKeptWithGuests_54 : mx_at cX3_isKeptWithGuests 54 (.getfield 16) 3 57 := ⟨by decide +kernel, rfl⟩
theorem dX3_isKeptWithGuests_57 : mx_at cX3_isKeptWithGuests 57 (.iconst 1) 1 58 := ⟨by decide +kernel, rfl⟩
theorem dX3_isKeptWithGuests_58 : mx_at cX3_isKeptWithGuests 58 (.invokevirtual 145) 3 61 := ⟨by decide +kernel, rfl⟩
theorem dX3_isKeptWithGuests_61 : mx_at cX3_isKeptWithGuests 61 (.iinc 4 1) 3 64 := ⟨by decide +kernel, rfl⟩
theorem dX3_isKeptWithGuests_64 : mx_br cX3_isKeptWithGuests 64 (.goto (-50)) (-50) 3 67 14 := ⟨by decide +kernel, rfl, by decide⟩
theorem dX3_isKeptWithGuests_67 : mx_at cX3_isKeptWithGuests 67 (.aload_n 0) 1 68 := ⟨by decide +kernel, rfl⟩
theorem dX3_isKeptWithGuests_68 : mx_at cX3_isKeptWithGuests 68 (.getfield 16) 3 71 := ⟨by decide +kernel, rfl⟩
theorem dX3_isKeptWithGuests_71 : mx_at cX3_isKeptWithGuests 71 (.iload_n 1) 1 72 := ⟨by decide +kernel, rfl⟩
theorem dX3_isKeptWithGuests_72 : mx_at cX3_isKeptWithGuests 72 (.invokevirtual 125) 3 75 := ⟨by decide +kernel, rfl⟩
theorem dX3_isKeptWithGuests_75 : mx_at cX3_isKeptWithGuests 75 (.getfield 136) 3 78 := ⟨by decide +kernel, rfl⟩
theorem dX3_isKeptWithGuests_78 : mx_at cX3_isKeptWithGuests 78 (.ireturn) 1 79 := ⟨by decide +kernel, rfl⟩
theorem dX3_power_0 : mx_at cX3_power 0 (.lconst 1) 1 1 := ⟨by decide +kernel, rfl⟩
theorem dX3_power_1 : mx_at cX3_power 1 (.lstore_n 3) 1 2 := ⟨by decide +kernel, rfl⟩
theorem dX3_power_2 : mx_at cX3_power 2 (.iconst 0) 1 3 := ⟨by decide +kernel, rfl⟩
theorem dX3_power_3 : mx_at cX3_power 3 (.istore 5) 2 5 := ⟨by decide +kernel, rfl⟩
theorem dX3_power_5 : mx_at cX3_power 5 (.iload 5) 2 7 := ⟨by decide +kernel, rfl⟩
theorem dX3_power_7 : mx_at cX3_power 7 (.iload_n 2) 1 8 := ⟨by decide +kernel, rfl⟩
theorem dX3_power_8 : mx_br cX3_power 8 (.if_icmp .ge 13) (13) 3 11 21 := ⟨by decide +kernel, rfl, by decide⟩
theorem dX3_power_11 : mx_at cX3_power 11 (.lload_n 3) 1 12 := ⟨by decide +kernel, rfl⟩
theorem dX3_power_12 : mx_at cX3_power 12 (.lload_n 0) 1 13 := ⟨by decide +kernel, rfl⟩
theorem dX3_power_13 : mx_at cX3_power 13 (.lmul) 1 14 := ⟨by decide +kernel, rfl⟩
theorem dX3_power_14 : mx_at cX3_power 14 (.lstore_n 3) 1 15 := ⟨by decide +kernel, rfl⟩
theorem dX3_power_15 : mx_at cX3_power 15 (.iinc 5 1) 3 18 := ⟨by decide +kernel, rfl⟩
theorem dX3_power_18 : mx_br cX3_power 18 (.goto (-13)) (-13) 3 21 5 := ⟨by decide +kernel, rfl, by decide⟩
theorem dX3_power_21 : mx_at cX3_power 21 (.lload_n 3) 1 22 := ⟨by decide +kernel, rfl⟩
theorem dX3_power_22 : mx_at cX3_power 22 (.lreturn) 1 23 := ⟨by decide +kernel, rfl⟩
theorem dX3_mean_0 : mx_at cX3_mean 0 (.iload_n 1) 1 1 := ⟨by decide +kernel, rfl⟩
theorem dX3_mean_1 : mx_br cX3_mean 1 (.ifCond .lt 8) (8) 3 4 9 := ⟨by decide +kernel, rfl, by decide⟩
theorem dX3_mean_4 : mx_at cX3_mean 4 (.iload_n 1) 1 5 := ⟨by decide +kernel, rfl⟩
theorem dX3_mean_5 : mx_at cX3_mean 5 (.iconst 1) 1 6 := ⟨by decide +kernel, rfl⟩
theorem dX3_mean_6 : mx_br cX3_mean 6 (.if_icmp .le 10) (10) 3 9 16 := ⟨by decide +kernel, rfl, by decide⟩
theorem dX3_mean_9 : mx_at cX3_mean 9 (.aload_n 0) 1 10 := ⟨by decide +kernel, rfl⟩
theorem dX3_mean_10 : mx_at cX3_mean 10 (.bipush (-2)) 2 12 := ⟨by decide +kernel, rfl⟩
theorem dX3_mean_12 : mx_at cX3_mean 12 (.invokevirtual 236) 3 15 := ⟨by decide +kernel, rfl⟩
theorem dX3_mean_15 : mx_at cX3_mean 15 (.lreturn) 1 16 := ⟨by decide +kernel, rfl⟩
theorem dX3_mean_16 : mx_at cX3_mean 16 (.aload_n 0) 1 17 := ⟨by decide +kernel, rfl⟩
theorem dX3_mean_17 : mx_at cX3_mean 17 (.getfield 10) 3 20 := ⟨by decide +kernel, rfl⟩
theorem dX3_mean_20 : mx_at cX3_mean 20 (.invokevirtual 255) 3 23 := ⟨by decide +kernel, rfl⟩
theorem dX3_mean_23 : mx_at cX3_mean 23 (.i2l) 1 24 := ⟨by decide +kernel, rfl⟩
theorem dX3_mean_24 : mx_at cX3_mean 24 (.iconst 1) 1 25 := ⟨by decide +kernel, rfl⟩
theorem dX3_mean_25 : mx_at cX3_mean 25 (.aload_n 0) 1 26 := ⟨by decide +kernel, rfl⟩
theorem dX3_mean_26 : mx_at cX3_mean 26 (.getfield 10) 3 29 := ⟨by decide +kernel, rfl⟩
theorem dX3_mean_29 : mx_at cX3_mean 29 (.getfield 115) 3 32 := ⟨by decide +kernel, rfl⟩
theorem dX3_mean_32 : mx_at cX3_mean 32 (.invokestatic 258) 3 35 := ⟨by decide +kernel, rfl⟩
theorem dX3_mean_35 : mx_at cX3_mean 35 (.i2l) 1 36 := ⟨by decide +kernel, rfl⟩
theorem dX3_mean_36 : mx_at cX3_mean 36 (.iload_n 1) 1 37 := ⟨by decide +kernel, rfl⟩
theorem dX3_mean_37 : mx_at cX3_mean 37 (.invokestatic 248) 3 40 := ⟨by decide +kernel, rfl⟩
theorem dX3_mean_40 : mx_at cX3_mean 40 (.lreturn) 1 41 := ⟨by decide +kernel, rfl⟩
theorem dX3_partOf_0 : mx_at cX3_partOf 0 (.lload_n 2) 1 1 := ⟨by decide +kernel, rfl⟩
theorem dX3_partOf_1 : mx_at cX3_partOf 1 (.lload_n 0) 1 2 := ⟨by decide +kernel, rfl⟩
theorem dX3_partOf_2 : mx_at cX3_partOf 2 (.invokestatic 261) 3 5 := ⟨by decide +kernel, rfl⟩
theorem dX3_partOf_5 : mx_at cX3_partOf 5 (.lstore 5) 2 7 := ⟨by decide +kernel, rfl⟩
theorem dX3_partOf_7 : mx_at cX3_partOf 7 (.lload 5) 2 9 := ⟨by decide +kernel, rfl⟩
theorem dX3_partOf_9 : mx_at cX3_partOf 9 (.lconst 1) 1 10 := ⟨by decide +kernel, rfl⟩
theorem dX3_partOf_10 : mx_at cX3_partOf 10 (.lcmp) 1 11 := ⟨by decide +kernel, rfl⟩
theorem dX3_partOf_11 : mx_br cX3_partOf 11 (.ifCond .ge 7) (7) 3 14 18 := ⟨by decide +kernel, rfl, by decide⟩
theorem dX3_partOf_14 : mx_at cX3_partOf 14 (.iload 4) 2 16 := ⟨by decide +kernel, rfl⟩
theorem dX3_partOf_16 : mx_at cX3_partOf 16 (.i2l) 1 17 := ⟨by decide +kernel, rfl⟩
theorem dX3_partOf_17 : mx_at cX3_partOf 17 (.lreturn) 1 18 := ⟨by decide +kernel, rfl⟩
theorem dX3_partOf_18 : mx_at cX3_partOf 18 (.iload 4) 2 20 := ⟨by decide +kernel, rfl⟩
theorem dX3_partOf_20 : mx_br cX3_partOf 20 (.ifCond .ne 10) (10) 3 23 30 := ⟨by decide +kernel, rfl, by decide⟩
theorem dX3_partOf_23 : mx_at cX3_partOf 23 (.lload_n 0) 1 24 := ⟨by decide +kernel, rfl⟩
theorem dX3_partOf_24 : mx_at cX3_partOf 24 (.lload 5) 2 26 := ⟨by decide +kernel, rfl⟩
theorem dX3_partOf_26 : mx_at cX3_partOf 26 (.ldiv) 1 27 := ⟨by decide +kernel, rfl⟩
theorem dX3_partOf_27 : mx_br cX3_partOf 27 (.goto 7) (7) 3 30 34 := ⟨by decide +kernel, rfl, by decide⟩
theorem dX3_partOf_30 : mx_at cX3_partOf 30 (.lload_n 2) 1 31 := ⟨by decide +kernel, rfl⟩
theorem dX3_partOf_31 : mx_at cX3_partOf 31 (.lload 5) 2 33 := ⟨by decide +kernel, rfl⟩
theorem dX3_partOf_33 : mx_at cX3_partOf 33 (.ldiv) 1 34 := ⟨by decide +kernel, rfl⟩
theorem dX3_partOf_34 : mx_at cX3_partOf 34 (.lreturn) 1 35 := ⟨by decide +kernel, rfl⟩
theorem dX3_commonDivisor_0 : mx_at cX3_commonDivisor 0 (.lload_n 0) 1 1 := ⟨by decide +kernel, rfl⟩
theorem dX3_commonDivisor_1 : mx_at cX3_commonDivisor 1 (.lstore 4) 2 3 := ⟨by decide +kernel, rfl⟩
theorem dX3_commonDivisor_3 : mx_at cX3_commonDivisor 3 (.lload_n 2) 1 4 := ⟨by decide +kernel, rfl⟩
theorem dX3_commonDivisor_4 : mx_at cX3_commonDivisor 4 (.lstore 6) 2 6 := ⟨by decide +kernel, rfl⟩
theorem dX3_commonDivisor_6 : mx_at cX3_commonDivisor 6 (.iconst 0) 1 7 := ⟨by decide +kernel, rfl⟩
theorem dX3_commonDivisor_7 : mx_at cX3_commonDivisor 7 (.istore 8) 2 9 := ⟨by decide +kernel, rfl⟩
theorem dX3_commonDivisor_9 : mx_at cX3_commonDivisor 9 (.iload 8) 2 11 := ⟨by decide +kernel, rfl⟩
theorem dX3_commonDivisor_11 : mx_at cX3_commonDivisor 11 (.sipush 1000) 3 14 := ⟨by decide +kernel, rfl⟩
theorem dX3_commonDivisor_14 : mx_br cX3_commonDivisor 14 (.if_icmp .ge 31) (31) 3 17 45 := ⟨by decide +kernel, rfl, by decide⟩
theorem dX3_commonDivisor_17 : mx_at cX3_commonDivisor 17 (.lload 6) 2 19 := ⟨by decide +kernel, rfl⟩
theorem dX3_commonDivisor_19 : mx_at cX3_commonDivisor 19 (.lconst 0) 1 20 := ⟨by decide +kernel, rfl⟩
theorem dX3_commonDivisor_20 : mx_at cX3_commonDivisor 20 (.lcmp) 1 21 := ⟨by decide +kernel, rfl⟩
theorem dX3_commonDivisor_21 : mx_br cX3_commonDivisor 21 (.ifCond .eq 24) (24) 3 24 45 := ⟨by decide +kernel, rfl, by decide⟩
theorem dX3_commonDivisor_24 : mx_at cX3_commonDivisor 24 (.lload 4) 2 26 := ⟨by decide +kernel, rfl⟩
theorem dX3_commonDivisor_26 : mx_at cX3_commonDivisor 26 (.lload 6) 2 28 := ⟨by decide +kernel, rfl⟩
theorem dX3_commonDivisor_28 : mx_at cX3_commonDivisor 28 (.lrem) 1 29 := ⟨by decide +kernel, rfl⟩
theorem dX3_commonDivisor_29 : mx_at cX3_commonDivisor 29 (.lstore 9) 2 31 := ⟨by decide +kernel, rfl⟩
theorem dX3_commonDivisor_31 : mx_at cX3_commonDivisor 31 (.lload 6) 2 33 := ⟨by decide +kernel, rfl⟩
theorem dX3_commonDivisor_33 : mx_at cX3_commonDivisor 33 (.lstore 4) 2 35 := ⟨by decide +kernel, rfl⟩
theorem dX3_commonDivisor_35 : mx_at cX3_commonDivisor 35 (.lload 9) 2 37 := ⟨by decide +kernel, rfl⟩
theorem dX3_commonDivisor_37 : mx_at cX3_commonDivisor 37 (.lstore 6) 2 39 := ⟨by decide +kernel, rfl⟩
theorem dX3_commonDivisor_39 : mx_at cX3_commonDivisor 39 (.iinc 8 1) 3 42 := ⟨by decide +kernel, rfl⟩
theorem dX3_commonDivisor_42 : mx_br cX3_commonDivisor 42 (.goto (-33)) (-33) 3 45 9 := ⟨by decide +kernel, rfl, by decide⟩
theorem dX3_commonDivisor_45 : mx_at cX3_commonDivisor 45 (.lload 4) 2 47 := ⟨by decide +kernel, rfl⟩
theorem dX3_commonDivisor_47 : mx_at cX3_commonDivisor 47 (.lreturn) 1 48 := ⟨by decide +kernel, rfl⟩
theorem dX3_whatIs_0 : mx_at cX3_whatIs 0 (.aload_n 0) 1 1 := ⟨by decide +kernel, rfl⟩
theorem dX3_whatIs_1 : mx_at cX3_whatIs 1 (.getfield 10) 3 4 := ⟨by decide +kernel, rfl⟩
theorem dX3_whatIs_4 : mx_at cX3_whatIs 4 (.iload_n 1) 1 5 := ⟨by decide +kernel, rfl⟩
theorem dX3_whatIs_5 : mx_at cX3_whatIs 5 (.invokevirtual 122) 3 8 := ⟨by decide +kernel, rfl⟩
theorem dX3_whatIs_8 : mx_br cX3_whatIs 8 (.ifCond .ne 9) (9) 3 11 17 := ⟨by decide +kernel, rfl, by decide⟩
theorem dX3_whatIs_11 : mx_at cX3_whatIs 11 (.aload_n 0) 1 12 := ⟨by decide +kernel, rfl⟩
theorem dX3_whatIs_12 : mx_at cX3_whatIs 12 (.iconst (-1)) 1 13 := ⟨by decide +kernel, rfl⟩
theorem dX3_whatIs_13 : mx_at cX3_whatIs 13 (.invokevirtual 49) 3 16 := ⟨by decide +kernel, rfl⟩
theorem dX3_whatIs_16 : mx_at cX3_whatIs 16 (.ireturn) 1 17 := ⟨by decide +kernel, rfl⟩
theorem dX3_whatIs_17 : mx_at cX3_whatIs 17 (.iload_n 2) 1 18 := ⟨by decide +kernel, rfl⟩
theorem dX3_whatIs_18 : mx_br cX3_whatIs 18 (.ifCond .lt 8) (8) 3 21 26 := ⟨by decide +kernel, rfl, by decide⟩
theorem dX3_whatIs_21 : mx_at cX3_whatIs 21 (.iload_n 2) 1 22 := ⟨by decide +kernel, rfl⟩
theorem dX3_whatIs_22 : mx_at cX3_whatIs 22 (.iconst 1) 1 23 := ⟨by decide +kernel, rfl⟩
theorem dX3_whatIs_23 : mx_br cX3_whatIs 23 (.if_icmp .le 10) (10) 3 26 33 := ⟨by decide +kernel, rfl, by decide⟩
theorem dX3_whatIs_26 : mx_at cX3_whatIs 26 (.aload_n 0) 1 27 := ⟨by decide +kernel, rfl⟩
theorem dX3_whatIs_27 : mx_at cX3_whatIs 27 (.bipush (-2)) 2 29 := ⟨by decide +kernel, rfl⟩
theorem dX3_whatIs_29 : mx_at cX3_whatIs 29 (.invokevirtual 49) 3 32 := ⟨by decide +kernel, rfl⟩
theorem dX3_whatIs_32 : mx_at cX3_whatIs 32 (.ireturn) 1 33 := ⟨by decide +kernel, rfl⟩
theorem dX3_whatIs_33 : mx_at cX3_whatIs 33 (.iload_n 2) 1 34 := ⟨by decide +kernel, rfl⟩
theorem dX3_whatIs_34 : mx_br cX3_whatIs 34 (.ifCond .ne 8) (8) 3 37 42 := ⟨by decide +kernel, rfl, by decide⟩
theorem dX3_whatIs_37 : mx_at cX3_whatIs 37 (.bipush 6) 2 39 := ⟨by decide +kernel, rfl⟩
theorem dX3_whatIs_39 : mx_br cX3_whatIs 39 (.goto 5) (5) 3 42 44 := ⟨by decide +kernel, rfl, by decide⟩
theorem dX3_whatIs_42 : mx_at cX3_whatIs 42 (.bipush 10) 2 44 := ⟨by decide +kernel, rfl⟩
theorem dX3_whatIs_44 : mx_at cX3_whatIs 44 (.istore_n 3) 1 45 := ⟨by decide +kernel, rfl⟩
theorem dX3_whatIs_45 : mx_at cX3_whatIs 45 (.iconst 0) 1 46 := ⟨by decide +kernel, rfl⟩
theorem dX3_whatIs_46 : mx_at cX3_whatIs 46 (.istore 4) 2 48 := ⟨by decide +kernel, rfl⟩
theorem dX3_whatIs_48 : mx_at cX3_whatIs 48 (.iconst 0) 1 49 := ⟨by decide +kernel, rfl⟩
theorem dX3_whatIs_49 : mx_at cX3_whatIs 49 (.istore 5) 2 51 := ⟨by decide +kernel, rfl⟩
theorem dX3_whatIs_51 : mx_at cX3_whatIs 51 (.iload 5) 2 53 := ⟨by decide +kernel, rfl⟩
theorem dX3_whatIs_53 : mx_at cX3_whatIs 53 (.iload_n 3) 1 54 := ⟨by decide +kernel, rfl⟩
theorem dX3_whatIs_54 : mx_br cX3_whatIs 54 (.if_icmp .ge 70) (70) 3 57 124 := ⟨by decide +kernel, rfl, by decide⟩
theorem dX3_whatIs_57 : mx_at cX3_whatIs 57 (.aload_n 0) 1 58 := ⟨by decide +kernel, rfl⟩
theorem dX3_whatIs_58 : mx_at cX3_whatIs 58 (.getfield 16) 3 61 := ⟨by decide +kernel, rfl⟩
theorem dX3_whatIs_61 : mx_at cX3_whatIs 61 (.aload_n 0) 1 62 := ⟨by decide +kernel, rfl⟩
theorem dX3_whatIs_62 : mx_at cX3_whatIs 62 (.getfield 10) 3 65 := ⟨by decide +kernel, rfl⟩
theorem dX3_whatIs_65 : mx_at cX3_whatIs 65 (.invokevirtual 73) 3 68 := ⟨by decide +kernel, rfl⟩
theorem dX3_whatIs_68 : mx_at cX3_whatIs 68 (.iload_n 2) 1 69 := ⟨by decide +kernel, rfl⟩
theorem dX3_whatIs_69 : mx_br cX3_whatIs 69 (.ifCond .ne 19) (19) 3 72 88 := ⟨by decide +kernel, rfl, by decide⟩
theorem dX3_whatIs_72 : mx_at cX3_whatIs 72 (.aload_n 0) 1 73 := ⟨by decide +kernel, rfl⟩
theorem dX3_whatIs_73 : mx_at cX3_whatIs 73 (.getfield 16) 3 76 := ⟨by decide +kernel, rfl⟩
theorem dX3_whatIs_76 : mx_at cX3_whatIs 76 (.iload_n 1) 1 77 := ⟨by decide +kernel, rfl⟩
theorem dX3_whatIs_77 : mx_at cX3_whatIs 77 (.invokevirtual 125) 3 80 := ⟨by decide +kernel, rfl⟩
theorem dX3_whatIs_80 : mx_at cX3_whatIs 80 (.iload 5) 2 82 := ⟨by decide +kernel, rfl⟩
theorem dX3_whatIs_82 : mx_at cX3_whatIs 82 (.putfield 148) 3 85 := ⟨by decide +kernel, rfl⟩
theorem dX3_whatIs_85 : mx_br cX3_whatIs 85 (.goto 16) (16) 3 88 101 := ⟨by decide +kernel, rfl, by decide⟩
theorem dX3_whatIs_88 : mx_at cX3_whatIs 88 (.aload_n 0) 1 89 := ⟨by decide +kernel, rfl⟩
theorem dX3_whatIs_89 : mx_at cX3_whatIs 89 (.getfield 16) 3 92 := ⟨by decide +kernel, rfl⟩
theorem dX3_whatIs_92 : mx_at cX3_whatIs 92 (.iload_n 1) 1 93 := ⟨by decide +kernel, rfl⟩
theorem dX3_whatIs_93 : mx_at cX3_whatIs 93 (.invokevirtual 125) 3 96 := ⟨by decide +kernel, rfl⟩
theorem dX3_whatIs_96 : mx_at cX3_whatIs 96 (.iload 5) 2 98 := ⟨by decide +kernel, rfl⟩
theorem dX3_whatIs_98 : mx_at cX3_whatIs 98 (.putfield 151) 3 101 := ⟨by decide +kernel, rfl⟩
theorem dX3_whatIs_101 : mx_at cX3_whatIs 101 (.aload_n 0) 1 102 := ⟨by decide +kernel, rfl⟩
theorem dX3_whatIs_102 : mx_at cX3_whatIs 102 (.iload_n 1) 1 103 := ⟨by decide +kernel, rfl⟩
theorem dX3_whatIs_103 : mx_at cX3_whatIs 103 (.invokevirtual 265) 3 106 := ⟨by decide +kernel, rfl⟩
theorem dX3_whatIs_106 : mx_br cX3_whatIs 106 (.ifCond .eq 12) (12) 3 109 118 := ⟨by decide +kernel, rfl, by decide⟩
theorem dX3_whatIs_109 : mx_at cX3_whatIs 109 (.iload 4) 2 111 := ⟨by decide +kernel, rfl⟩
theorem dX3_whatIs_111 : mx_at cX3_whatIs 111 (.iconst 1) 1 112 := ⟨by decide +kernel, rfl⟩
theorem dX3_whatIs_112 : mx_at cX3_whatIs 112 (.iload 5) 2 114 := ⟨by decide +kernel, rfl⟩
theorem dX3_whatIs_114 : mx_at cX3_whatIs 114 (.ishl) 1 115 := ⟨by decide +kernel, rfl⟩
theorem dX3_whatIs_115 : mx_at cX3_whatIs 115 (.ior) 1 116 := ⟨by decide +kernel, rfl⟩
theorem dX3_whatIs_116 : mx_at cX3_whatIs 116 (.istore 4) 2 118 := ⟨by decide +kernel, rfl⟩
theorem dX3_whatIs_118 : mx_at cX3_whatIs 118 (.iinc 5 1) 3 121 := ⟨by decide +kernel, rfl⟩
theorem dX3_whatIs_121 : mx_br cX3_whatIs 121 (.goto (-70)) (-70) 3 124 51 := ⟨by decide +kernel, rfl, by decide⟩
theorem dX3_whatIs_124 : mx_at cX3_whatIs 124 (.iload 4) 2 126 := ⟨by decide +kernel, rfl⟩
theorem dX3_whatIs_126 : mx_at cX3_whatIs 126 (.ireturn) 1 127 := ⟨by decide +kernel, rfl⟩
theorem dX3_dustIsAsTold_0 : mx_at cX3_dustIsAsTold 0 (.iconst 0) 1 1 := ⟨by decide +kernel, rfl⟩
theorem dX3_dustIsAsTold_1 : mx_at cX3_dustIsAsTold 1 (.istore_n 2) 1 2 := ⟨by decide +kernel, rfl⟩
theorem dX3_dustIsAsTold_2 : mx_at cX3_dustIsAsTold 2 (.iload_n 2) 1 3 := ⟨by decide +kernel, rfl⟩
theorem dX3_dustIsAsTold_3 : mx_at cX3_dustIsAsTold 3 (.aload_n 0) 1 4 := ⟨by decide +kernel, rfl⟩
theorem dX3_dustIsAsTold_4 : mx_at cX3_dustIsAsTold 4 (.getfield 35) 3 7 := ⟨by decide +kernel, rfl⟩
theorem dX3_dustIsAsTold_7 : mx_at cX3_dustIsAsTold 7 (.getfield 60) 3 10 := ⟨by decide +kernel, rfl⟩
theorem dX3_dustIsAsTold_10 : mx_br cX3_dustIsAsTold 10 (.if_icmp .ge 41) (41) 3 13 51 := ⟨by decide +kernel, rfl, by decide⟩
theorem dX3_dustIsAsTold_13 : mx_at cX3_dustIsAsTold 13 (.aload_n 0) 1 14 := ⟨by decide +kernel, rfl⟩
theorem dX3_dustIsAsTold_14 : mx_at cX3_dustIsAsTold 14 (.getfield 16) 3 17 := ⟨by decide +kernel, rfl⟩
theorem dX3_dustIsAsTold_17 : mx_at cX3_dustIsAsTold 17 (.iload_n 1) 1 18 := ⟨by decide +kernel, rfl⟩
theorem dX3_dustIsAsTold_18 : mx_at cX3_dustIsAsTold 18 (.invokevirtual 125) 3 21 := ⟨by decide +kernel, rfl⟩
theorem dX3_dustIsAsTold_21 : mx_at cX3_dustIsAsTold 21 (.getfield 133) 3 24 := ⟨by decide +kernel, rfl⟩
theorem dX3_dustIsAsTold_24 : mx_at cX3_dustIsAsTold 24 (.aload_n 0) 1 25 := ⟨by decide +kernel, rfl⟩
theorem dX3_dustIsAsTold_25 : mx_at cX3_dustIsAsTold 25 (.getfield 35) 3 28 := ⟨by decide +kernel, rfl⟩
theorem dX3_dustIsAsTold_28 : mx_at cX3_dustIsAsTold 28 (.iload_n 2) 1 29 := ⟨by decide +kernel, rfl⟩
theorem dX3_dustIsAsTold_29 : mx_at cX3_dustIsAsTold 29 (.invokevirtual 77) 3 32 := ⟨by decide +kernel, rfl⟩
theorem dX3_dustIsAsTold_32 : mx_br cX3_dustIsAsTold 32 (.if_icmp .eq 5) (5) 3 35 37 := ⟨by decide +kernel, rfl, by decide⟩
theorem dX3_dustIsAsTold_35 : mx_at cX3_dustIsAsTold 35 (.iconst 0) 1 36 := ⟨by decide +kernel, rfl⟩
theorem dX3_dustIsAsTold_36 : mx_at cX3_dustIsAsTold 36 (.ireturn) 1 37 := ⟨by decide +kernel, rfl⟩
theorem dX3_dustIsAsTold_37 : mx_at cX3_dustIsAsTold 37 (.aload_n 0) 1 38 := ⟨by decide +kernel, rfl⟩
theorem dX3_dustIsAsTold_38 : mx_at cX3_dustIsAsTold 38 (.getfield 16) 3 41 := ⟨by decide +kernel, rfl⟩
theorem dX3_dustIsAsTold_41 : mx_at cX3_dustIsAsTold 41 (.iconst 1) 1 42 := ⟨by decide +kernel, rfl⟩
theorem dX3_dustIsAsTold_42 : mx_at cX3_dustIsAsTold 42 (.invokevirtual 145) 3 45 := ⟨by decide +kernel, rfl⟩
theorem dX3_dustIsAsTold_45 : mx_at cX3_dustIsAsTold 45 (.iinc 2 1) 3 48 := ⟨by decide +kernel, rfl⟩
theorem dX3_dustIsAsTold_48 : mx_br cX3_dustIsAsTold 48 (.goto (-46)) (-46) 3 51 2 := ⟨by decide +kernel, rfl, by decide⟩
theorem dX3_dustIsAsTold_51 : mx_at cX3_dustIsAsTold 51 (.iconst 1) 1 52 := ⟨by decide +kernel, rfl⟩
theorem dX3_dustIsAsTold_52 : mx_at cX3_dustIsAsTold 52 (.ireturn) 1 53 := ⟨by decide +kernel, rfl⟩
theorem dX3_row_0 : mx_at cX3_row 0 (.iload_n 1) 1 1 := ⟨by decide +kernel, rfl⟩
theorem dX3_row_1 : mx_br cX3_row 1 (.ifCond .ge 10) (10) 3 4 11 := ⟨by decide +kernel, rfl, by decide⟩
theorem dX3_row_4 : mx_at cX3_row 4 (.aload_n 0) 1 5 := ⟨by decide +kernel, rfl⟩
theorem dX3_row_5 : mx_at cX3_row 5 (.bipush (-4)) 2 7 := ⟨by decide +kernel, rfl⟩
theorem dX3_row_7 : mx_at cX3_row 7 (.invokevirtual 49) 3 10 := ⟨by decide +kernel, rfl⟩
theorem dX3_row_10 : mx_at cX3_row 10 (.ireturn) 1 11 := ⟨by decide +kernel, rfl⟩
theorem dX3_row_11 : mx_at cX3_row 11 (.iload_n 1) 1 12 := ⟨by decide +kernel, rfl⟩
theorem dX3_row_12 : mx_at cX3_row 12 (.bipush 99) 2 14 := ⟨by decide +kernel, rfl⟩
theorem dX3_row_14 : mx_br cX3_row 14 (.if_icmp .gt 13) (13) 3 17 27 := ⟨by decide +kernel, rfl, by decide⟩
theorem dX3_row_17 : mx_at cX3_row 17 (.aload_n 0) 1 18 := ⟨by decide +kernel, rfl⟩
theorem dX3_row_18 : mx_at cX3_row 18 (.getfield 35) 3 21 := ⟨by decide +kernel, rfl⟩
theorem dX3_row_21 : mx_at cX3_row 21 (.invokevirtual 53) 3 24 := ⟨by decide +kernel, rfl⟩
theorem dX3_row_24 : mx_br cX3_row 24 (.ifCond .eq 10) (10) 3 27 34 := ⟨by decide +kernel, rfl, by decide⟩
theorem dX3_row_27 : mx_at cX3_row 27 (.aload_n 0) 1 28 := ⟨by decide +kernel, rfl⟩
theorem dX3_row_28 : mx_at cX3_row 28 (.bipush (-6)) 2 30 := ⟨by decide +kernel, rfl⟩
theorem dX3_row_30 : mx_at cX3_row 30 (.invokevirtual 49) 3 33 := ⟨by decide +kernel, rfl⟩
theorem dX3_row_33 : mx_at cX3_row 33 (.ireturn) 1 34 := ⟨by decide +kernel, rfl⟩
theorem dX3_row_34 : mx_at cX3_row 34 (.aload_n 0) 1 35 := ⟨by decide +kernel, rfl⟩
theorem dX3_row_35 : mx_at cX3_row 35 (.getfield 35) 3 38 := ⟨by decide +kernel, rfl⟩
theorem dX3_row_38 : mx_at cX3_row 38 (.iload_n 1) 1 39 := ⟨by decide +kernel, rfl⟩
theorem dX3_row_39 : mx_at cX3_row 39 (.invokevirtual 57) 3 42 := ⟨by decide +kernel, rfl⟩
theorem dX3_row_42 : mx_at cX3_row 42 (.aload_n 0) 1 43 := ⟨by decide +kernel, rfl⟩
theorem dX3_row_43 : mx_at cX3_row 43 (.getfield 35) 3 46 := ⟨by decide +kernel, rfl⟩
theorem dX3_row_46 : mx_at cX3_row 46 (.getfield 60) 3 49 := ⟨by decide +kernel, rfl⟩
theorem dX3_row_49 : mx_at cX3_row 49 (.ireturn) 1 50 := ⟨by decide +kernel, rfl⟩
theorem dX3_judge_0 : mx_at cX3_judge 0 (.bipush (-9)) 2 2 := ⟨by decide +kernel, rfl⟩
theorem dX3_judge_2 : mx_at cX3_judge 2 (.istore_n 1) 1 3 := ⟨by decide +kernel, rfl⟩
theorem dX3_judge_3 : mx_at cX3_judge 3 (.iconst 0) 1 4 := ⟨by decide +kernel, rfl⟩
theorem dX3_judge_4 : mx_at cX3_judge 4 (.istore_n 2) 1 5 := ⟨by decide +kernel, rfl⟩
theorem dX3_judge_5 : mx_at cX3_judge 5 (.iload_n 2) 1 6 := ⟨by decide +kernel, rfl⟩
theorem dX3_judge_6 : mx_at cX3_judge 6 (.aload_n 0) 1 7 := ⟨by decide +kernel, rfl⟩
theorem dX3_judge_7 : mx_at cX3_judge 7 (.getfield 35) 3 10 := ⟨by decide +kernel, rfl⟩
theorem dX3_judge_10 : mx_at cX3_judge 10 (.getfield 60) 3 13 := ⟨by decide +kernel, rfl⟩
theorem dX3_judge_13 : mx_br cX3_judge 13 (.if_icmp .ge 50) (50) 3 16 63 := ⟨by decide +kernel, rfl, by decide⟩
theorem dX3_judge_16 : mx_at cX3_judge 16 (.iload_n 1) 1 17 := ⟨by decide +kernel, rfl⟩
theorem dX3_judge_17 : mx_at cX3_judge 17 (.bipush (-9)) 2 19 := ⟨by decide +kernel, rfl⟩
theorem dX3_judge_19 : mx_br cX3_judge 19 (.if_icmp .ne 44) (44) 3 22 63 := ⟨by decide +kernel, rfl, by decide⟩
theorem dX3_judge_22 : mx_at cX3_judge 22 (.aload_n 0) 1 23 := ⟨by decide +kernel, rfl⟩
theorem dX3_judge_23 : mx_at cX3_judge 23 (.getfield 10) 3 26 := ⟨by decide +kernel, rfl⟩
theorem dX3_judge_26 : mx_at cX3_judge 26 (.iload_n 2) 1 27 := ⟨by decide +kernel, rfl⟩
theorem dX3_judge_27 : mx_at cX3_judge 27 (.invokevirtual 122) 3 30 := ⟨by decide +kernel, rfl⟩
theorem dX3_judge_30 : mx_br cX3_judge 30 (.ifCond .eq 25) (25) 3 33 55 := ⟨by decide +kernel, rfl, by decide⟩
theorem dX3_judge_33 : mx_at cX3_judge 33 (.aload_n 0) 1 34 := ⟨by decide +kernel, rfl⟩
theorem dX3_judge_34 : mx_at cX3_judge 34 (.getfield 10) 3 37 := ⟨by decide +kernel, rfl⟩
theorem dX3_judge_37 : mx_at cX3_judge 37 (.iload_n 2) 1 38 := ⟨by decide +kernel, rfl⟩
theorem dX3_judge_38 : mx_at cX3_judge 38 (.invokevirtual 125) 3 41 := ⟨by decide +kernel, rfl⟩
theorem dX3_judge_41 : mx_at cX3_judge 41 (.getfield 157) 3 44 := ⟨by decide +kernel, rfl⟩
theorem dX3_judge_44 : mx_at cX3_judge 44 (.aload_n 0) 1 45 := ⟨by decide +kernel, rfl⟩
theorem dX3_judge_45 : mx_at cX3_judge 45 (.getfield 35) 3 48 := ⟨by decide +kernel, rfl⟩
theorem dX3_judge_48 : mx_at cX3_judge 48 (.iload_n 2) 1 49 := ⟨by decide +kernel, rfl⟩
theorem dX3_judge_49 : mx_at cX3_judge 49 (.invokevirtual 77) 3 52 := ⟨by decide +kernel, rfl⟩
theorem dX3_judge_52 : mx_br cX3_judge 52 (.if_icmp .eq 5) (5) 3 55 57 := ⟨by decide +kernel, rfl, by decide⟩
theorem dX3_judge_55 : mx_at cX3_judge 55 (.iload_n 2) 1 56 := ⟨by decide +kernel, rfl⟩
theorem dX3_judge_56 : mx_at cX3_judge 56 (.istore_n 1) 1 57 := ⟨by decide +kernel, rfl⟩
theorem dX3_judge_57 : mx_at cX3_judge 57 (.iinc 2 1) 3 60 := ⟨by decide +kernel, rfl⟩
theorem dX3_judge_60 : mx_br cX3_judge 60 (.goto (-55)) (-55) 3 63 5 := ⟨by decide +kernel, rfl, by decide⟩
theorem dX3_judge_63 : mx_at cX3_judge 63 (.aload_n 0) 1 64 := ⟨by decide +kernel, rfl⟩
theorem dX3_judge_64 : mx_at cX3_judge 64 (.getfield 35) 3 67 := ⟨by decide +kernel, rfl⟩
theorem dX3_judge_67 : mx_at cX3_judge 67 (.invokevirtual 70) 3 70 := ⟨by decide +kernel, rfl⟩
theorem dX3_judge_70 : mx_at cX3_judge 70 (.iload_n 1) 1 71 := ⟨by decide +kernel, rfl⟩
theorem dX3_judge_71 : mx_at cX3_judge 71 (.ireturn) 1 72 := ⟨by decide +kernel, rfl⟩
theorem dX3_clear_0 : mx_at cX3_clear 0 (.aload_n 0) 1 1 := ⟨by decide +kernel, rfl⟩
theorem dX3_clear_1 : mx_at cX3_clear 1 (.getfield 35) 3 4 := ⟨by decide +kernel, rfl⟩
theorem dX3_clear_4 : mx_at cX3_clear 4 (.getfield 60) 3 7 := ⟨by decide +kernel, rfl⟩
theorem dX3_clear_7 : mx_at cX3_clear 7 (.istore_n 1) 1 8 := ⟨by decide +kernel, rfl⟩
theorem dX3_clear_8 : mx_at cX3_clear 8 (.aload_n 0) 1 9 := ⟨by decide +kernel, rfl⟩
theorem dX3_clear_9 : mx_at cX3_clear 9 (.getfield 35) 3 12 := ⟨by decide +kernel, rfl⟩
theorem dX3_clear_12 : mx_at cX3_clear 12 (.invokevirtual 70) 3 15 := ⟨by decide +kernel, rfl⟩
theorem dX3_clear_15 : mx_at cX3_clear 15 (.iload_n 1) 1 16 := ⟨by decide +kernel, rfl⟩
theorem dX3_clear_16 : mx_at cX3_clear 16 (.ireturn) 1 17 := ⟨by decide +kernel, rfl⟩
theorem dX3_lots_0 : mx_at cX3_lots 0 (.iload_n 1) 1 1 := ⟨by decide +kernel, rfl⟩
theorem dX3_lots_1 : mx_at cX3_lots 1 (.iconst 1) 1 2 := ⟨by decide +kernel, rfl⟩
theorem dX3_lots_2 : mx_at cX3_lots 2 (.bipush 20) 2 4 := ⟨by decide +kernel, rfl⟩
theorem dX3_lots_4 : mx_at cX3_lots 4 (.invokestatic 169) 3 7 := ⟨by decide +kernel, rfl⟩
theorem dX3_lots_7 : mx_at cX3_lots 7 (.istore 4) 2 9 := ⟨by decide +kernel, rfl⟩
theorem dX3_lots_9 : mx_at cX3_lots 9 (.iload 4) 2 11 := ⟨by decide +kernel, rfl⟩
theorem dX3_lots_11 : mx_br cX3_lots 11 (.ifCond .eq 10) (10) 3 14 21 := ⟨by decide +kernel, rfl, by decide⟩
theorem dX3_lots_14 : mx_at cX3_lots 14 (.aload_n 0) 1 15 := ⟨by decide +kernel, rfl⟩
theorem dX3_lots_15 : mx_at cX3_lots 15 (.iload 4) 2 17 := ⟨by decide +kernel, rfl⟩
theorem dX3_lots_17 : mx_at cX3_lots 17 (.invokevirtual 49) 3 20 := ⟨by decide +kernel, rfl⟩
theorem dX3_lots_20 : mx_at cX3_lots 20 (.ireturn) 1 21 := ⟨by decide +kernel, rfl⟩
theorem dX3_lots_21 : mx_at cX3_lots 21 (.iload_n 3) 1 22 := ⟨by decide +kernel, rfl⟩
theorem dX3_lots_22 : mx_br cX3_lots 22 (.ifCond .lt 8) (8) 3 25 30 := ⟨by decide +kernel, rfl, by decide⟩
theorem dX3_lots_25 : mx_at cX3_lots 25 (.iload_n 3) 1 26 := ⟨by decide +kernel, rfl⟩
theorem dX3_lots_26 : mx_at cX3_lots 26 (.iconst 1) 1 27 := ⟨by decide +kernel, rfl⟩
theorem dX3_lots_27 : mx_br cX3_lots 27 (.if_icmp .le 10) (10) 3 30 37 := ⟨by decide +kernel, rfl, by decide⟩
theorem dX3_lots_30 : mx_at cX3_lots 30 (.aload_n 0) 1 31 := ⟨by decide +kernel, rfl⟩
theorem dX3_lots_31 : mx_at cX3_lots 31 (.bipush (-2)) 2 33 := ⟨by decide +kernel, rfl⟩
theorem dX3_lots_33 : mx_at cX3_lots 33 (.invokevirtual 49) 3 36 := ⟨by decide +kernel, rfl⟩
theorem dX3_lots_36 : mx_at cX3_lots 36 (.ireturn) 1 37 := ⟨by decide +kernel, rfl⟩
theorem dX3_lots_37 : mx_at cX3_lots 37 (.iload_n 2) 1 38 := ⟨by decide +kernel, rfl⟩
theorem dX3_lots_38 : mx_at cX3_lots 38 (.istore 5) 2 40 := ⟨by decide +kernel, rfl⟩
theorem dX3_lots_40 : mx_at cX3_lots 40 (.iconst 0) 1 41 := ⟨by decide +kernel, rfl⟩
theorem dX3_lots_41 : mx_at cX3_lots 41 (.istore 6) 2 43 := ⟨by decide +kernel, rfl⟩
theorem dX3_lots_43 : mx_at cX3_lots 43 (.iconst 0) 1 44 := ⟨by decide +kernel, rfl⟩
theorem dX3_lots_44 : mx_at cX3_lots 44 (.istore 7) 2 46 := ⟨by decide +kernel, rfl⟩
theorem dX3_lots_46 : mx_at cX3_lots 46 (.iconst 0) 1 47 := ⟨by decide +kernel, rfl⟩
theorem dX3_lots_47 : mx_at cX3_lots 47 (.istore 8) 2 49 := ⟨by decide +kernel, rfl⟩
theorem dX3_lots_49 : mx_at cX3_lots 49 (.iload 8) 2 51 := ⟨by decide +kernel, rfl⟩
theorem dX3_lots_51 : mx_at cX3_lots 51 (.iload_n 1) 1 52 := ⟨by decide +kernel, rfl⟩
theorem dX3_lots_52 : mx_br cX3_lots 52 (.if_icmp .ge 61) (61) 3 55 113 := ⟨by decide +kernel, rfl, by decide⟩
theorem dX3_lots_55 : mx_at cX3_lots 55 (.aload_n 0) 1 56 := ⟨by decide +kernel, rfl⟩
theorem dX3_lots_56 : mx_at cX3_lots 56 (.getfield 16) 3 59 := ⟨by decide +kernel, rfl⟩
theorem dX3_lots_59 : mx_at cX3_lots 59 (.aload_n 0) 1 60 := ⟨by decide +kernel, rfl⟩
theorem dX3_lots_60 : mx_at cX3_lots 60 (.getfield 10) 3 63 := ⟨by decide +kernel, rfl⟩
theorem dX3_lots_63 : mx_at cX3_lots 63 (.invokevirtual 73) 3 66 := ⟨by decide +kernel, rfl⟩
theorem dX3_lots_66 : mx_at cX3_lots 66 (.aload_n 0) 1 67 := ⟨by decide +kernel, rfl⟩
theorem dX3_lots_67 : mx_at cX3_lots 67 (.iload 5) 2 69 := ⟨by decide +kernel, rfl⟩
theorem dX3_lots_69 : mx_at cX3_lots 69 (.invokevirtual 268) 3 72 := ⟨by decide +kernel, rfl⟩
theorem dX3_lots_72 : mx_at cX3_lots 72 (.istore 5) 2 74 := ⟨by decide +kernel, rfl⟩
theorem dX3_lots_74 : mx_at cX3_lots 74 (.aload_n 0) 1 75 := ⟨by decide +kernel, rfl⟩
theorem dX3_lots_75 : mx_at cX3_lots 75 (.getfield 16) 3 78 := ⟨by decide +kernel, rfl⟩
theorem dX3_lots_78 : mx_at cX3_lots 78 (.bipush 12) 2 80 := ⟨by decide +kernel, rfl⟩
theorem dX3_lots_80 : mx_at cX3_lots 80 (.invokevirtual 145) 3 83 := ⟨by decide +kernel, rfl⟩
theorem dX3_lots_83 : mx_at cX3_lots 83 (.iload 6) 2 85 := ⟨by decide +kernel, rfl⟩
theorem dX3_lots_85 : mx_at cX3_lots 85 (.aload_n 0) 1 86 := ⟨by decide +kernel, rfl⟩
theorem dX3_lots_86 : mx_at cX3_lots 86 (.getfield 16) 3 89 := ⟨by decide +kernel, rfl⟩
theorem dX3_lots_89 : mx_at cX3_lots 89 (.invokevirtual 166) 3 92 := ⟨by decide +kernel, rfl⟩
theorem dX3_lots_92 : mx_at cX3_lots 92 (.iadd) 1 93 := ⟨by decide +kernel, rfl⟩
theorem dX3_lots_93 : mx_at cX3_lots 93 (.istore 6) 2 95 := ⟨by decide +kernel, rfl⟩
theorem dX3_lots_95 : mx_at cX3_lots 95 (.iload 7) 2 97 := ⟨by decide +kernel, rfl⟩
theorem dX3_lots_97 : mx_at cX3_lots 97 (.aload_n 0) 1 98 := ⟨by decide +kernel, rfl⟩
theorem dX3_lots_98 : mx_at cX3_lots 98 (.getfield 16) 3 101 := ⟨by decide +kernel, rfl⟩
theorem dX3_lots_101 : mx_at cX3_lots 101 (.invokevirtual 255) 3 104 := ⟨by decide +kernel, rfl⟩
theorem dX3_lots_104 : mx_at cX3_lots 104 (.iadd) 1 105 := ⟨by decide +kernel, rfl⟩
theorem dX3_lots_105 : mx_at cX3_lots 105 (.istore 7) 2 107 := ⟨by decide +kernel, rfl⟩
theorem dX3_lots_107 : mx_at cX3_lots 107 (.iinc 8 1) 3 110 := ⟨by decide +kernel, rfl⟩
theorem dX3_lots_110 : mx_br cX3_lots 110 (.goto (-61)) (-61) 3 113 49 := ⟨by decide +kernel, rfl, by decide⟩
theorem dX3_lots_113 : mx_at cX3_lots 113 (.iload_n 3) 1 114 := ⟨by decide +kernel, rfl⟩
theorem dX3_lots_114 : mx_br cX3_lots 114 (.ifCond .ne 8) (8) 3 117 122 := ⟨by decide +kernel, rfl, by decide⟩
theorem dX3_lots_117 : mx_at cX3_lots 117 (.iload 6) 2 119 := ⟨by decide +kernel, rfl⟩
theorem dX3_lots_119 : mx_br cX3_lots 119 (.goto 5) (5) 3 122 124 := ⟨by decide +kernel, rfl, by decide⟩
theorem dX3_lots_122 : mx_at cX3_lots 122 (.iload 7) 2 124 := ⟨by decide +kernel, rfl⟩
theorem dX3_lots_124 : mx_at cX3_lots 124 (.ireturn) 1 125 := ⟨by decide +kernel, rfl⟩
theorem dX3_drawPeople_0 : mx_at cX3_drawPeople 0 (.iload_n 1) 1 1 := ⟨by decide +kernel, rfl⟩
theorem dX3_drawPeople_1 : mx_at cX3_drawPeople 1 (.istore_n 2) 1 2 := ⟨by decide +kernel, rfl⟩
theorem dX3_drawPeople_2 : mx_at cX3_drawPeople 2 (.iconst 0) 1 3 := ⟨by decide +kernel, rfl⟩
theorem dX3_drawPeople_3 : mx_at cX3_drawPeople 3 (.istore_n 3) 1 4 := ⟨by decide +kernel, rfl⟩
theorem dX3_drawPeople_4 : mx_at cX3_drawPeople 4 (.iload_n 3) 1 5 := ⟨by decide +kernel, rfl⟩
theorem dX3_drawPeople_5 : mx_at cX3_drawPeople 5 (.aload_n 0) 1 6 := ⟨by decide +kernel, rfl⟩
theorem dX3_drawPeople_6 : mx_at cX3_drawPeople 6 (.getfield 16) 3 9 := ⟨by decide +kernel, rfl⟩
theorem dX3_drawPeople_9 : mx_at cX3_drawPeople 9 (.getfield 115) 3 12 := ⟨by decide +kernel, rfl⟩
theorem dX3_drawPeople_12 : mx_br cX3_drawPeople 12 (.if_icmp .ge 52) (52) 3 15 64 := ⟨by decide +kernel, rfl, by decide⟩
theorem dX3_drawPeople_15 : mx_at cX3_drawPeople 15 (.iload_n 2) 1 16 := ⟨by decide +kernel, rfl⟩
theorem dX3_drawPeople_16 : mx_at cX3_drawPeople 16 (.ldc_w 271) 3 19 := ⟨by decide +kernel, rfl⟩
theorem dX3_drawPeople_19 : mx_at cX3_drawPeople 19 (.imul) 1 20 := ⟨by decide +kernel, rfl⟩
theorem dX3_drawPeople_20 : mx_at cX3_drawPeople 20 (.ldc_w 272) 3 23 := ⟨by decide +kernel, rfl⟩
theorem dX3_drawPeople_23 : mx_at cX3_drawPeople 23 (.iadd) 1 24 := ⟨by decide +kernel, rfl⟩
theorem dX3_drawPeople_24 : mx_at cX3_drawPeople 24 (.istore_n 2) 1 25 := ⟨by decide +kernel, rfl⟩
theorem dX3_drawPeople_25 : mx_at cX3_drawPeople 25 (.aload_n 0) 1 26 := ⟨by decide +kernel, rfl⟩
theorem dX3_drawPeople_26 : mx_at cX3_drawPeople 26 (.getfield 16) 3 29 := ⟨by decide +kernel, rfl⟩
theorem dX3_drawPeople_29 : mx_at cX3_drawPeople 29 (.iload_n 3) 1 30 := ⟨by decide +kernel, rfl⟩
theorem dX3_drawPeople_30 : mx_at cX3_drawPeople 30 (.invokevirtual 125) 3 33 := ⟨by decide +kernel, rfl⟩
theorem dX3_drawPeople_33 : mx_at cX3_drawPeople 33 (.astore 4) 2 35 := ⟨by decide +kernel, rfl⟩
theorem dX3_drawPeople_35 : mx_at cX3_drawPeople 35 (.aload 4) 2 37 := ⟨by decide +kernel, rfl⟩
theorem dX3_drawPeople_37 : mx_at cX3_drawPeople 37 (.iload_n 2) 1 38 := ⟨by decide +kernel, rfl⟩
theorem dX3_drawPeople_38 : mx_at cX3_drawPeople 38 (.ldc_w 273) 3 41 := ⟨by decide +kernel, rfl⟩
theorem dX3_drawPeople_41 : mx_at cX3_drawPeople 41 (.iand) 1 42 := ⟨by decide +kernel, rfl⟩
theorem dX3_drawPeople_42 : mx_at cX3_drawPeople 42 (.sipush 256) 3 45 := ⟨by decide +kernel, rfl⟩
theorem dX3_drawPeople_45 : mx_at cX3_drawPeople 45 (.idiv) 1 46 := ⟨by decide +kernel, rfl⟩
theorem dX3_drawPeople_46 : mx_at cX3_drawPeople 46 (.bipush 31) 2 48 := ⟨by decide +kernel, rfl⟩
theorem dX3_drawPeople_48 : mx_at cX3_drawPeople 48 (.irem) 1 49 := ⟨by decide +kernel, rfl⟩
theorem dX3_drawPeople_49 : mx_at cX3_drawPeople 49 (.putfield 128) 3 52 := ⟨by decide +kernel, rfl⟩
theorem dX3_drawPeople_52 : mx_at cX3_drawPeople 52 (.aload 4) 2 54 := ⟨by decide +kernel, rfl⟩
theorem dX3_drawPeople_54 : mx_at cX3_drawPeople 54 (.iconst 0) 1 55 := ⟨by decide +kernel, rfl⟩
theorem dX3_drawPeople_55 : mx_at cX3_drawPeople 55 (.putfield 157) 3 58 := ⟨by decide +kernel, rfl⟩
theorem dX3_drawPeople_58 : mx_at cX3_drawPeople 58 (.iinc 3 1) 3 61 := ⟨by decide +kernel, rfl⟩
theorem dX3_drawPeople_61 : mx_br cX3_drawPeople 61 (.goto (-57)) (-57) 3 64 4 := ⟨by decide +kernel, rfl, by decide⟩
theorem dX3_drawPeople_64 : mx_at cX3_drawPeople 64 (.iload_n 2) 1 65 := ⟨by decide +kernel, rfl⟩
theorem dX3_drawPeople_65 : mx_at cX3_drawPeople 65 (.ireturn) 1 66 := ⟨by decide +kernel, rfl⟩
theorem dX3_image_0 : mx_at cX3_image 0 (.aload_n 0) 1 1 := ⟨by decide +kernel, rfl⟩
theorem dX3_image_1 : mx_at cX3_image 1 (.getfield 19) 3 4 := ⟨by decide +kernel, rfl⟩
theorem dX3_image_4 : mx_at cX3_image 4 (.aload_n 0) 1 5 := ⟨by decide +kernel, rfl⟩
theorem dX3_image_5 : mx_at cX3_image 5 (.getfield 10) 3 8 := ⟨by decide +kernel, rfl⟩
theorem dX3_image_8 : mx_at cX3_image 8 (.invokevirtual 73) 3 11 := ⟨by decide +kernel, rfl⟩
theorem dX3_image_11 : mx_at cX3_image 11 (.aload_n 0) 1 12 := ⟨by decide +kernel, rfl⟩
theorem dX3_image_12 : mx_at cX3_image 12 (.iconst 1) 1 13 := ⟨by decide +kernel, rfl⟩
theorem dX3_image_13 : mx_at cX3_image 13 (.putfield 22) 3 16 := ⟨by decide +kernel, rfl⟩
theorem dX3_image_16 : mx_at cX3_image 16 (.aload_n 0) 1 17 := ⟨by decide +kernel, rfl⟩
theorem dX3_image_17 : mx_at cX3_image 17 (.getfield 10) 3 20 := ⟨by decide +kernel, rfl⟩
theorem dX3_image_20 : mx_at cX3_image 20 (.getfield 142) 3 23 := ⟨by decide +kernel, rfl⟩
theorem dX3_image_23 : mx_at cX3_image 23 (.ireturn) 1 24 := ⟨by decide +kernel, rfl⟩
theorem dX3_on_0 : mx_at cX3_on 0 (.aload_n 0) 1 1 := ⟨by decide +kernel, rfl⟩
theorem dX3_on_1 : mx_at cX3_on 1 (.getfield 22) 3 4 := ⟨by decide +kernel, rfl⟩
theorem dX3_on_4 : mx_br cX3_on 4 (.ifCond .ne 10) (10) 3 7 14 := ⟨by decide +kernel, rfl, by decide⟩
theorem dX3_on_7 : mx_at cX3_on 7 (.aload_n 0) 1 8 := ⟨by decide +kernel, rfl⟩
theorem dX3_on_8 : mx_at cX3_on 8 (.bipush (-3)) 2 10 := ⟨by decide +kernel, rfl⟩
theorem dX3_on_10 : mx_at cX3_on 10 (.invokevirtual 49) 3 13 := ⟨by decide +kernel, rfl⟩
theorem dX3_on_13 : mx_at cX3_on 13 (.ireturn) 1 14 := ⟨by decide +kernel, rfl⟩
theorem dX3_on_14 : mx_at cX3_on 14 (.aload_n 0) 1 15 := ⟨by decide +kernel, rfl⟩
theorem dX3_on_15 : mx_at cX3_on 15 (.getfield 10) 3 18 := ⟨by decide +kernel, rfl⟩
theorem dX3_on_18 : mx_at cX3_on 18 (.aload_n 0) 1 19 := ⟨by decide +kernel, rfl⟩
theorem dX3_on_19 : mx_at cX3_on 19 (.getfield 19) 3 22 := ⟨by decide +kernel, rfl⟩
theorem dX3_on_22 : mx_at cX3_on 22 (.invokevirtual 73) 3 25 := ⟨by decide +kernel, rfl⟩
theorem dX3_on_25 : mx_at cX3_on 25 (.aload_n 0) 1 26 := ⟨by decide +kernel, rfl⟩
theorem dX3_on_26 : mx_at cX3_on 26 (.getfield 10) 3 29 := ⟨by decide +kernel, rfl⟩
theorem dX3_on_29 : mx_at cX3_on 29 (.getfield 142) 3 32 := ⟨by decide +kernel, rfl⟩
theorem dX3_on_32 : mx_at cX3_on 32 (.ireturn) 1 33 := ⟨by decide +kernel, rfl⟩
theorem dX3_count_0 : mx_at cX3_count 0 (.iload_n 1) 1 1 := ⟨by decide +kernel, rfl⟩
theorem dX3_count_1 : decode cX3_count 1 = .ok (.tableswitch 111 0 7 #[47, 55, 63, 71, 79, 87, 95, 103], 47) := by decide +kernel
theorem dX3_count_48 : mx_at cX3_count 48 (.aload_n 0) 1 49 := ⟨by decide +kernel, rfl⟩
theorem dX3_count_49 : mx_at cX3_count 49 (.getfield 10) 3 52 := ⟨by decide +kernel, rfl⟩
theorem dX3_count_52 : mx_at cX3_count 52 (.getfield 115) 3 55 := ⟨by decide +kernel, rfl⟩
theorem dX3_count_55 : mx_at cX3_count 55 (.ireturn) 1 56 := ⟨by decide +kernel, rfl⟩
theorem dX3_count_56 : mx_at cX3_count 56 (.aload_n 0) 1 57 := ⟨by decide +kernel, rfl⟩
theorem dX3_count_57 : mx_at cX3_count 57 (.getfield 10) 3 60 := ⟨by decide +kernel, rfl⟩
theorem dX3_count_60 : mx_at cX3_count 60 (.getfield 142) 3 63 := ⟨by decide +kernel, rfl⟩
theorem dX3_count_63 : mx_at cX3_count 63 (.ireturn) 1 64 := ⟨by decide +kernel, rfl⟩
theorem dX3_count_64 : mx_at cX3_count 64 (.aload_n 0) 1 65 := ⟨by decide +kernel, rfl⟩
theorem dX3_count_65 : mx_at cX3_count 65 (.getfield 10) 3 68 := ⟨by decide +kernel, rfl⟩
theorem dX3_count_68 : mx_at cX3_count 68 (.invokevirtual 173) 3 71 := ⟨by decide +kernel, rfl⟩
theorem dX3_count_71 : mx_at cX3_count 71 (.ireturn) 1 72 := ⟨by decide +kernel, rfl⟩
theorem dX3_count_72 : mx_at cX3_count 72 (.aload_n 0) 1 73 := ⟨by decide +kernel, rfl⟩
theorem dX3_count_73 : mx_at cX3_count 73 (.getfield 10) 3 76 := ⟨by decide +kernel, rfl⟩
theorem dX3_count_76 : mx_at cX3_count 76 (.invokevirtual 255) 3 79 := ⟨by decide +kernel, rfl⟩
theorem dX3_count_79 : mx_at cX3_count 79 (.ireturn) 1 80 := ⟨by decide +kernel, rfl⟩
theorem dX3_count_80 : mx_at cX3_count 80 (.aload_n 0) 1 81 := ⟨by decide +kernel, rfl⟩
theorem dX3_count_81 : mx_at cX3_count 81 (.getfield 10) 3 84 := ⟨by decide +kernel, rfl⟩
theorem dX3_count_84 : mx_at cX3_count 84 (.getfield 45) 3 87 := ⟨by decide +kernel, rfl⟩
theorem dX3_count_87 : mx_at cX3_count 87 (.ireturn) 1 88 := ⟨by decide +kernel, rfl⟩
theorem dX3_count_88 : mx_at cX3_count 88 (.aload_n 0) 1 89 := ⟨by decide +kernel, rfl⟩
theorem dX3_count_89 : mx_at cX3_count 89 (.getfield 10) 3 92 := ⟨by decide +kernel, rfl⟩
theorem dX3_count_92 : mx_at cX3_count 92 (.getfield 139) 3 95 := ⟨by decide +kernel, rfl⟩
theorem dX3_count_95 : mx_at cX3_count 95 (.ireturn) 1 96 := ⟨by decide +kernel, rfl⟩
theorem dX3_count_96 : mx_at cX3_count 96 (.aload_n 0) 1 97 := ⟨by decide +kernel, rfl⟩
theorem dX3_count_97 : mx_at cX3_count 97 (.getfield 35) 3 100 := ⟨by decide +kernel, rfl⟩
theorem dX3_count_100 : mx_at cX3_count 100 (.getfield 60) 3 103 := ⟨by decide +kernel, rfl⟩
theorem dX3_count_103 : mx_at cX3_count 103 (.ireturn) 1 104 := ⟨by decide +kernel, rfl⟩
theorem dX3_count_104 : mx_at cX3_count 104 (.aload_n 0) 1 105 := ⟨by decide +kernel, rfl⟩
theorem dX3_count_105 : mx_at cX3_count 105 (.getfield 31) 3 108 := ⟨by decide +kernel, rfl⟩
theorem dX3_count_108 : mx_at cX3_count 108 (.getfield 60) 3 111 := ⟨by decide +kernel, rfl⟩
theorem dX3_count_111 : mx_at cX3_count 111 (.ireturn) 1 112 := ⟨by decide +kernel, rfl⟩
theorem dX3_count_112 : mx_at cX3_count 112 (.aload_n 0) 1 113 := ⟨by decide +kernel, rfl⟩
theorem dX3_count_113 : mx_at cX3_count 113 (.iload_n 1) 1 114 := ⟨by decide +kernel, rfl⟩
theorem dX3_count_114 : mx_at cX3_count 114 (.invokevirtual 274) 3 117 := ⟨by decide +kernel, rfl⟩
theorem dX3_count_117 : mx_at cX3_count 117 (.ireturn) 1 118 := ⟨by decide +kernel, rfl⟩
theorem dX3_refused_0 : mx_at cX3_refused 0 (.iload_n 1) 1 1 := ⟨by decide +kernel, rfl⟩
theorem dX3_refused_1 : mx_at cX3_refused 1 (.bipush 10) 2 3 := ⟨by decide +kernel, rfl⟩
theorem dX3_refused_3 : mx_br cX3_refused 3 (.if_icmp .le 13) (13) 3 6 16 := ⟨by decide +kernel, rfl, by decide⟩
theorem dX3_refused_6 : mx_at cX3_refused 6 (.iload_n 1) 1 7 := ⟨by decide +kernel, rfl⟩
theorem dX3_refused_7 : mx_at cX3_refused 7 (.bipush 16) 2 9 := ⟨by decide +kernel, rfl⟩
theorem dX3_refused_9 : mx_br cX3_refused 9 (.if_icmp .gt 7) (7) 3 12 16 := ⟨by decide +kernel, rfl, by decide⟩
theorem dX3_refused_12 : mx_at cX3_refused 12 (.iconst 1) 1 13 := ⟨by decide +kernel, rfl⟩
theorem dX3_refused_13 : mx_br cX3_refused 13 (.goto 4) (4) 3 16 17 := ⟨by decide +kernel, rfl, by decide⟩
theorem dX3_refused_16 : mx_at cX3_refused 16 (.iconst 0) 1 17 := ⟨by decide +kernel, rfl⟩
theorem dX3_refused_17 : mx_at cX3_refused 17 (.istore_n 2) 1 18 := ⟨by decide +kernel, rfl⟩
theorem dX3_refused_18 : mx_at cX3_refused 18 (.iload_n 2) 1 19 := ⟨by decide +kernel, rfl⟩
theorem dX3_refused_19 : mx_br cX3_refused 19 (.ifCond .eq 27) (27) 3 22 46 := ⟨by decide +kernel, rfl, by decide⟩
theorem dX3_refused_22 : mx_at cX3_refused 22 (.iload_n 1) 1 23 := ⟨by decide +kernel, rfl⟩
theorem dX3_refused_23 : mx_at cX3_refused 23 (.bipush 10) 2 25 := ⟨by decide +kernel, rfl⟩
theorem dX3_refused_25 : mx_at cX3_refused 25 (.isub) 1 26 := ⟨by decide +kernel, rfl⟩
theorem dX3_refused_26 : mx_at cX3_refused 26 (.aload_n 0) 1 27 := ⟨by decide +kernel, rfl⟩
theorem dX3_refused_27 : mx_at cX3_refused 27 (.getfield 41) 3 30 := ⟨by decide +kernel, rfl⟩
theorem dX3_refused_30 : mx_at cX3_refused 30 (.arraylength) 1 31 := ⟨by decide +kernel, rfl⟩
theorem dX3_refused_31 : mx_br cX3_refused 31 (.if_icmp .ge 15) (15) 3 34 46 := ⟨by decide +kernel, rfl, by decide⟩
theorem dX3_refused_34 : mx_at cX3_refused 34 (.aload_n 0) 1 35 := ⟨by decide +kernel, rfl⟩
theorem dX3_refused_35 : mx_at cX3_refused 35 (.getfield 41) 3 38 := ⟨by decide +kernel, rfl⟩
theorem dX3_refused_38 : mx_at cX3_refused 38 (.iload_n 1) 1 39 := ⟨by decide +kernel, rfl⟩
theorem dX3_refused_39 : mx_at cX3_refused 39 (.bipush 10) 2 41 := ⟨by decide +kernel, rfl⟩
theorem dX3_refused_41 : mx_at cX3_refused 41 (.isub) 1 42 := ⟨by decide +kernel, rfl⟩
theorem dX3_refused_42 : mx_at cX3_refused 42 (.iaload) 1 43 := ⟨by decide +kernel, rfl⟩
theorem dX3_refused_43 : mx_br cX3_refused 43 (.goto 5) (5) 3 46 48 := ⟨by decide +kernel, rfl, by decide⟩
theorem dX3_refused_46 : mx_at cX3_refused 46 (.bipush (-9)) 2 48 := ⟨by decide +kernel, rfl⟩
theorem dX3_refused_48 : mx_at cX3_refused 48 (.ireturn) 1 49 := ⟨by decide +kernel, rfl⟩
theorem dX3_refuse_0 : mx_at cX3_refuse 0 (.iload_n 1) 1 1 := ⟨by decide +kernel, rfl⟩
theorem dX3_refuse_1 : mx_at cX3_refuse 1 (.ineg) 1 2 := ⟨by decide +kernel, rfl⟩
theorem dX3_refuse_2 : mx_at cX3_refuse 2 (.istore_n 2) 1 3 := ⟨by decide +kernel, rfl⟩
theorem dX3_refuse_3 : mx_at cX3_refuse 3 (.iload_n 2) 1 4 := ⟨by decide +kernel, rfl⟩
theorem dX3_refuse_4 : mx_br cX3_refuse 4 (.ifCond .lt 22) (22) 3 7 26 := ⟨by decide +kernel, rfl, by decide⟩
theorem dX3_refuse_7 : mx_at cX3_refuse 7 (.iload_n 2) 1 8 := ⟨by decide +kernel, rfl⟩
theorem dX3_refuse_8 : mx_at cX3_refuse 8 (.aload_n 0) 1 9 := ⟨by decide +kernel, rfl⟩
theorem dX3_refuse_9 : mx_at cX3_refuse 9 (.getfield 41) 3 12 := ⟨by decide +kernel, rfl⟩
theorem dX3_refuse_12 : mx_at cX3_refuse 12 (.arraylength) 1 13 := ⟨by decide +kernel, rfl⟩
theorem dX3_refuse_13 : mx_br cX3_refuse 13 (.if_icmp .ge 13) (13) 3 16 26 := ⟨by decide +kernel, rfl, by decide⟩
theorem dX3_refuse_16 : mx_at cX3_refuse 16 (.aload_n 0) 1 17 := ⟨by decide +kernel, rfl⟩
theorem dX3_refuse_17 : mx_at cX3_refuse 17 (.getfield 41) 3 20 := ⟨by decide +kernel, rfl⟩
theorem dX3_refuse_20 : mx_at cX3_refuse 20 (.iload_n 2) 1 21 := ⟨by decide +kernel, rfl⟩
theorem dX3_refuse_21 : mx_at cX3_refuse 21 (.dup2) 1 22 := ⟨by decide +kernel, rfl⟩
theorem dX3_refuse_22 : mx_at cX3_refuse 22 (.iaload) 1 23 := ⟨by decide +kernel, rfl⟩
theorem dX3_refuse_23 : mx_at cX3_refuse 23 (.iconst 1) 1 24 := ⟨by decide +kernel, rfl⟩
theorem dX3_refuse_24 : mx_at cX3_refuse 24 (.iadd) 1 25 := ⟨by decide +kernel, rfl⟩
theorem dX3_refuse_25 : mx_at cX3_refuse 25 (.iastore) 1 26 := ⟨by decide +kernel, rfl⟩
theorem dX3_refuse_26 : mx_at cX3_refuse 26 (.iload_n 1) 1 27 := ⟨by decide +kernel, rfl⟩
theorem dX3_refuse_27 : mx_at cX3_refuse 27 (.ireturn) 1 28 := ⟨by decide +kernel, rfl⟩
theorem dX3_refuseLong_0 : mx_at cX3_refuseLong 0 (.ldc2_w 277) 3 3 := ⟨by decide +kernel, rfl⟩
theorem dX3_refuseLong_3 : mx_at cX3_refuseLong 3 (.aload_n 0) 1 4 := ⟨by decide +kernel, rfl⟩
theorem dX3_refuseLong_4 : mx_at cX3_refuseLong 4 (.iload_n 1) 1 5 := ⟨by decide +kernel, rfl⟩
theorem dX3_refuseLong_5 : mx_at cX3_refuseLong 5 (.invokevirtual 49) 3 8 := ⟨by decide +kernel, rfl⟩
theorem dX3_refuseLong_8 : mx_at cX3_refuseLong 8 (.i2l) 1 9 := ⟨by decide +kernel, rfl⟩
theorem dX3_refuseLong_9 : mx_at cX3_refuseLong 9 (.lsub) 1 10 := ⟨by decide +kernel, rfl⟩
theorem dX3_refuseLong_10 : mx_at cX3_refuseLong 10 (.lreturn) 1 11 := ⟨by decide +kernel, rfl⟩
theorem dX3_outOf_0 : mx_at cX3_outOf 0 (.iload_n 0) 1 1 := ⟨by decide +kernel, rfl⟩
theorem dX3_outOf_1 : mx_at cX3_outOf 1 (.iload_n 1) 1 2 := ⟨by decide +kernel, rfl⟩
theorem dX3_outOf_2 : mx_br cX3_outOf 2 (.if_icmp .ge 6) (6) 3 5 8 := ⟨by decide +kernel, rfl, by decide⟩
theorem dX3_outOf_5 : mx_at cX3_outOf 5 (.bipush (-4)) 2 7 := ⟨by decide +kernel, rfl⟩
theorem dX3_outOf_7 : mx_at cX3_outOf 7 (.ireturn) 1 8 := ⟨by decide +kernel, rfl⟩
theorem dX3_outOf_8 : mx_at cX3_outOf 8 (.iload_n 0) 1 9 := ⟨by decide +kernel, rfl⟩
theorem dX3_outOf_9 : mx_at cX3_outOf 9 (.iload_n 2) 1 10 := ⟨by decide +kernel, rfl⟩
theorem dX3_outOf_10 : mx_br cX3_outOf 10 (.if_icmp .le 8) (8) 3 13 18 := ⟨by decide +kernel, rfl, by decide⟩
theorem dX3_outOf_13 : mx_at cX3_outOf 13 (.bipush (-6)) 2 15 := ⟨by decide +kernel, rfl⟩
theorem dX3_outOf_15 : mx_br cX3_outOf 15 (.goto 4) (4) 3 18 19 := ⟨by decide +kernel, rfl, by decide⟩
theorem dX3_outOf_18 : mx_at cX3_outOf 18 (.iconst 0) 1 19 := ⟨by decide +kernel, rfl⟩
theorem dX3_outOf_19 : mx_at cX3_outOf 19 (.ireturn) 1 20 := ⟨by decide +kernel, rfl⟩
end
section
theorem dX4_init_0 : mx_at cX4_init 0 (.aload_n 0) 1 1 := ⟨by decide +kernel, rfl⟩
theorem dX4_init_1 : mx_at cX4_init 1 (.invokespecial 1) 3 4 := ⟨by decide +kernel, rfl⟩
theorem dX4_init_4 : mx_at cX4_init 4 (.aload_n 0) 1 5 := ⟨by decide +kernel, rfl⟩
theorem dX4_init_5 : mx_at cX4_init 5 (.bipush 42) 2 7 := ⟨by decide +kernel, rfl⟩
theorem dX4_init_7 : mx_at cX4_init 7 (.newarray .int) 2 9 := ⟨by decide +kernel, rfl⟩
theorem dX4_init_9 : mx_at cX4_init 9 (.putfield 9) 3 12 := ⟨by decide +kernel, rfl⟩
theorem dX4_init_12 : mx_at cX4_init 12 (.aload_n 0) 1 13 := ⟨by decide +kernel, rfl⟩
theorem dX4_init_13 : mx_at cX4_init 13 (.bipush 42) 2 15 := ⟨by decide +kernel, rfl⟩
theorem dX4_init_15 : mx_at cX4_init 15 (.newarray .int) 2 17 := ⟨by decide +kernel, rfl⟩
theorem dX4_init_17 : mx_at cX4_init 17 (.putfield 13) 3 20 := ⟨by decide +kernel, rfl⟩
theorem dX4_init_20 : mx_at cX4_init 20 (.aload_n 0) 1 21 := ⟨by decide +kernel, rfl⟩
theorem dX4_init_21 : mx_at cX4_init 21 (.bipush 42) 2 23 := ⟨by decide +kernel, rfl⟩
theorem dX4_init_23 : mx_at cX4_init 23 (.newarray .int) 2 25 := ⟨by decide +kernel, rfl⟩
theorem dX4_init_25 : mx_at cX4_init 25 (.putfield 16) 3 28 := ⟨by decide +kernel, rfl⟩
theorem dX4_init_28 : mx_at cX4_init 28 (.aload_n 0) 1 29 := ⟨by decide +kernel, rfl⟩
theorem dX4_init_29 : mx_at cX4_init 29 (.bipush 42) 2 31 := ⟨by decide +kernel, rfl⟩
theorem dX4_init_31 : mx_at cX4_init 31 (.newarray .int) 2 33 := ⟨by decide +kernel, rfl⟩
theorem dX4_init_33 : mx_at cX4_init 33 (.putfield 19) 3 36 := ⟨by decide +kernel, rfl⟩
theorem dX4_init_36 : mx_at cX4_init 36 (.aload_n 0) 1 37 := ⟨by decide +kernel, rfl⟩
theorem dX4_init_37 : mx_at cX4_init 37 (.bipush 96) 2 39 := ⟨by decide +kernel, rfl⟩
theorem dX4_init_39 : mx_at cX4_init 39 (.newarray .int) 2 41 := ⟨by decide +kernel, rfl⟩
theorem dX4_init_41 : mx_at cX4_init 41 (.putfield 22) 3 44 := ⟨by decide +kernel, rfl⟩
theorem dX4_init_44 : mx_at cX4_init 44 (.aload_n 0) 1 45 := ⟨by decide +kernel, rfl⟩
theorem dX4_init_45 : mx_at cX4_init 45 (.bipush 16) 2 47 := ⟨by decide +kernel, rfl⟩
theorem dX4_init_47 : mx_at cX4_init 47 (.newarray .int) 2 49 := ⟨by decide +kernel, rfl⟩
theorem dX4_init_49 : mx_at cX4_init 49 (.putfield 25) 3 52 := ⟨by decide +kernel, rfl⟩
theorem dX4_init_52 : mx_at cX4_init 52 (.aload_n 0) 1 53 := ⟨by decide +kernel, rfl⟩
theorem dX4_init_53 : mx_at cX4_init 53 (.bipush 7) 2 55 := ⟨by decide +kernel, rfl⟩
theorem dX4_init_55 : mx_at cX4_init 55 (.newarray .int) 2 57 := ⟨by decide +kernel, rfl⟩
theorem dX4_init_57 : mx_at cX4_init 57 (.putfield 28) 3 60 := ⟨by decide +kernel, rfl⟩
theorem dX4_init_60 : mx_at cX4_init 60 (.aload_n 0) 1 61 := ⟨by decide +kernel, rfl⟩
theorem dX4_init_61 : mx_at cX4_init 61 (.iconst 4) 1 62 := ⟨by decide +kernel, rfl⟩
theorem dX4_init_62 : mx_at cX4_init 62 (.newarray .int) 2 64 := ⟨by decide +kernel, rfl⟩
theorem dX4_init_64 : mx_at cX4_init 64 (.putfield 31) 3 67 := ⟨by decide +kernel, rfl⟩
theorem dX4_init_67 : mx_at cX4_init 67 (.aload_n 0) 1 68 := ⟨by decide +kernel, rfl⟩
theorem dX4_init_68 : mx_at cX4_init 68 (.getfield 9) 3 71 := ⟨by decide +kernel, rfl⟩
theorem dX4_init_71 : mx_at cX4_init 71 (.iconst 3) 1 72 := ⟨by decide +kernel, rfl⟩
theorem dX4_init_72 : mx_at cX4_init 72 (.bipush 50) 2 74 := ⟨by decide +kernel, rfl⟩
theorem dX4_init_74 : mx_at cX4_init 74 (.iastore) 1 75 := ⟨by decide +kernel, rfl⟩
theorem dX4_init_75 : mx_at cX4_init 75 (.return_) 1 76 := ⟨by decide +kernel, rfl⟩
theorem dX4_isIn_0 : mx_at cX4_isIn 0 (.iload_n 0) 1 1 := ⟨by decide +kernel, rfl⟩
theorem dX4_isIn_1 : mx_at cX4_isIn 1 (.iload_n 1) 1 2 := ⟨by decide +kernel, rfl⟩
theorem dX4_isIn_2 : mx_br cX4_isIn 2 (.if_icmp .lt 12) (12) 3 5 14 := ⟨by decide +kernel, rfl, by decide⟩
theorem dX4_isIn_5 : mx_at cX4_isIn 5 (.iload_n 0) 1 6 := ⟨by decide +kernel, rfl⟩
theorem dX4_isIn_6 : mx_at cX4_isIn 6 (.iload_n 2) 1 7 := ⟨by decide +kernel, rfl⟩
theorem dX4_isIn_7 : mx_br cX4_isIn 7 (.if_icmp .gt 7) (7) 3 10 14 := ⟨by decide +kernel, rfl, by decide⟩
theorem dX4_isIn_10 : mx_at cX4_isIn 10 (.iconst 1) 1 11 := ⟨by decide +kernel, rfl⟩
theorem dX4_isIn_11 : mx_br cX4_isIn 11 (.goto 4) (4) 3 14 15 := ⟨by decide +kernel, rfl, by decide⟩
theorem dX4_isIn_14 : mx_at cX4_isIn 14 (.iconst 0) 1 15 := ⟨by decide +kernel, rfl⟩
theorem dX4_isIn_15 : mx_at cX4_isIn 15 (.ireturn) 1 16 := ⟨by decide +kernel, rfl⟩
theorem dX4_least_0 : mx_at cX4_least 0 (.iload_n 0) 1 1 := ⟨by decide +kernel, rfl⟩
theorem dX4_least_1 : mx_at cX4_least 1 (.iload_n 1) 1 2 := ⟨by decide +kernel, rfl⟩
theorem dX4_least_2 : mx_br cX4_least 2 (.if_icmp .ge 7) (7) 3 5 9 := ⟨by decide +kernel, rfl, by decide⟩
theorem dX4_least_5 : mx_at cX4_least 5 (.iload_n 0) 1 6 := ⟨by decide +kernel, rfl⟩
theorem dX4_least_6 : mx_br cX4_least 6 (.goto 4) (4) 3 9 10 := ⟨by decide +kernel, rfl, by decide⟩
theorem dX4_least_9 : mx_at cX4_least 9 (.iload_n 1) 1 10 := ⟨by decide +kernel, rfl⟩
theorem dX4_least_10 : mx_at cX4_least 10 (.ireturn) 1 11 := ⟨by decide +kernel, rfl⟩
theorem dX4_copies_0 : mx_at cX4_copies 0 (.iconst 0) 1 1 := ⟨by decide +kernel, rfl⟩
theorem dX4_copies_1 : mx_at cX4_copies 1 (.istore_n 2) 1 2 := ⟨by decide +kernel, rfl⟩
theorem dX4_copies_2 : mx_at cX4_copies 2 (.iload_n 2) 1 3 := ⟨by decide +kernel, rfl⟩
theorem dX4_copies_3 : mx_at cX4_copies 3 (.bipush 42) 2 5 := ⟨by decide +kernel, rfl⟩
theorem dX4_copies_5 : mx_br cX4_copies 5 (.if_icmp .ge 15) (15) 3 8 20 := ⟨by decide +kernel, rfl, by decide⟩
theorem dX4_copies_8 : mx_at cX4_copies 8 (.aload_n 1) 1 9 := ⟨by decide +kernel, rfl⟩
theorem dX4_copies_9 : mx_at cX4_copies 9 (.iload_n 2) 1 10 := ⟨by decide +kernel, rfl⟩
theorem dX4_copies_10 : mx_at cX4_copies 10 (.aload_n 0) 1 11 := ⟨by decide +kernel, rfl⟩
theorem dX4_copies_11 : mx_at cX4_copies 11 (.iload_n 2) 1 12 := ⟨by decide +kernel, rfl⟩
theorem dX4_copies_12 : mx_at cX4_copies 12 (.iaload) 1 13 := ⟨by decide +kernel, rfl⟩
theorem dX4_copies_13 : mx_at cX4_copies 13 (.iastore) 1 14 := ⟨by decide +kernel, rfl⟩
theorem dX4_copies_14 : mx_at cX4_copies 14 (.iinc 2 1) 3 17 := ⟨by decide +kernel, rfl⟩
theorem dX4_copies_17 : mx_br cX4_copies 17 (.goto (-15)) (-15) 3 20 2 := ⟨by decide +kernel, rfl, by decide⟩
theorem dX4_copies_20 : mx_at cX4_copies 20 (.return_) 1 21 := ⟨by decide +kernel, rfl⟩
theorem dX4_no_0 : mx_at cX4_no 0 (.aload_n 0) 1 1 := ⟨by decide +kernel, rfl⟩
theorem dX4_no_1 : mx_at cX4_no 1 (.getfield 28) 3 4 := ⟨by decide +kernel, rfl⟩
theorem dX4_no_4 : mx_at cX4_no 4 (.iload_n 1) 1 5 := ⟨by decide +kernel, rfl⟩
theorem dX4_no_5 : mx_at cX4_no 5 (.ineg) 1 6 := ⟨by decide +kernel, rfl⟩
theorem dX4_no_6 : mx_at cX4_no 6 (.dup2) 1 7 := ⟨by decide +kernel, rfl⟩
theorem dX4_no_7 : mx_at cX4_no 7 (.iaload) 1 8 := ⟨by decide +kernel, rfl⟩
theorem dX4_no_8 : mx_at cX4_no 8 (.iconst 1) 1 9 := ⟨by decide +kernel, rfl⟩
theorem dX4_no_9 : mx_at cX4_no 9 (.iadd) 1 10 := ⟨by decide +kernel, rfl⟩
theorem dX4_no_10 : mx_at cX4_no 10 (.iastore) 1 11 := ⟨by decide +kernel, rfl⟩
theorem dX4_no_11 : mx_at cX4_no 11 (.iload_n 1) 1 12 := ⟨by decide +kernel, rfl⟩
theorem dX4_no_12 : mx_at cX4_no 12 (.ireturn) 1 13 := ⟨by decide +kernel, rfl⟩
theorem dX4_noWide_0 : mx_at cX4_noWide 0 (.ldc2_w 34) 3 3 := ⟨by decide +kernel, rfl⟩
theorem dX4_noWide_3 : mx_at cX4_noWide 3 (.aload_n 0) 1 4 := ⟨by decide +kernel, rfl⟩
theorem dX4_noWide_4 : mx_at cX4_noWide 4 (.iload_n 1) 1 5 := ⟨by decide +kernel, rfl⟩
theorem dX4_noWide_5 : mx_at cX4_noWide 5 (.invokevirtual 36) 3 8 := ⟨by decide +kernel, rfl⟩
theorem dX4_noWide_8 : mx_at cX4_noWide 8 (.i2l) 1 9 := ⟨by decide +kernel, rfl⟩
theorem dX4_noWide_9 : mx_at cX4_noWide 9 (.lsub) 1 10 := ⟨by decide +kernel, rfl⟩
theorem dX4_noWide_10 : mx_at cX4_noWide 10 (.lreturn) 1 11 := ⟨by decide +kernel, rfl⟩
theorem dX4_of_0 : mx_at cX4_of 0 (.bipush 6) 2 2 := ⟨by decide +kernel, rfl⟩
theorem dX4_of_2 : mx_at cX4_of 2 (.bipush 6) 2 4 := ⟨by decide +kernel, rfl⟩
theorem dX4_of_4 : mx_at cX4_of 4 (.iload_n 0) 1 5 := ⟨by decide +kernel, rfl⟩
theorem dX4_of_5 : mx_at cX4_of 5 (.imul) 1 6 := ⟨by decide +kernel, rfl⟩
theorem dX4_of_6 : mx_at cX4_of 6 (.iadd) 1 7 := ⟨by decide +kernel, rfl⟩
theorem dX4_of_7 : mx_at cX4_of 7 (.iload_n 1) 1 8 := ⟨by decide +kernel, rfl⟩
theorem dX4_of_8 : mx_at cX4_of 8 (.iadd) 1 9 := ⟨by decide +kernel, rfl⟩
theorem dX4_of_9 : mx_at cX4_of 9 (.ireturn) 1 10 := ⟨by decide +kernel, rfl⟩
theorem dX4_isHouse_0 : mx_at cX4_isHouse 0 (.iload_n 1) 1 1 := ⟨by decide +kernel, rfl⟩
theorem dX4_isHouse_1 : mx_at cX4_isHouse 1 (.iconst 0) 1 2 := ⟨by decide +kernel, rfl⟩
theorem dX4_isHouse_2 : mx_at cX4_isHouse 2 (.aload_n 0) 1 3 := ⟨by decide +kernel, rfl⟩
theorem dX4_isHouse_3 : mx_at cX4_isHouse 3 (.getfield 9) 3 6 := ⟨by decide +kernel, rfl⟩
theorem dX4_isHouse_6 : mx_at cX4_isHouse 6 (.iconst 0) 1 7 := ⟨by decide +kernel, rfl⟩
theorem dX4_isHouse_7 : mx_at cX4_isHouse 7 (.iaload) 1 8 := ⟨by decide +kernel, rfl⟩
theorem dX4_isHouse_8 : mx_at cX4_isHouse 8 (.iconst 1) 1 9 := ⟨by decide +kernel, rfl⟩
theorem dX4_isHouse_9 : mx_at cX4_isHouse 9 (.isub) 1 10 := ⟨by decide +kernel, rfl⟩
theorem dX4_isHouse_10 : mx_at cX4_isHouse 10 (.invokestatic 40) 3 13 := ⟨by decide +kernel, rfl⟩
theorem dX4_isHouse_13 : mx_at cX4_isHouse 13 (.ireturn) 1 14 := ⟨by decide +kernel, rfl⟩
theorem dX4_has_0 : mx_at cX4_has 0 (.iload_n 0) 1 1 := ⟨by decide +kernel, rfl⟩
theorem dX4_has_1 : mx_at cX4_has 1 (.iload_n 1) 1 2 := ⟨by decide +kernel, rfl⟩
theorem dX4_has_2 : mx_at cX4_has 2 (.ishr) 1 3 := ⟨by decide +kernel, rfl⟩
theorem dX4_has_3 : mx_at cX4_has 3 (.iconst 1) 1 4 := ⟨by decide +kernel, rfl⟩
theorem dX4_has_4 : mx_at cX4_has 4 (.iand) 1 5 := ⟨by decide +kernel, rfl⟩
theorem dX4_has_5 : mx_at cX4_has 5 (.iconst 1) 1 6 := ⟨by decide +kernel, rfl⟩
theorem dX4_has_6 : mx_br cX4_has 6 (.if_icmp .ne 7) (7) 3 9 13 := ⟨by decide +kernel, rfl, by decide⟩
theorem dX4_has_9 : mx_at cX4_has 9 (.iconst 1) 1 10 := ⟨by decide +kernel, rfl⟩
theorem dX4_has_10 : mx_br cX4_has 10 (.goto 4) (4) 3 13 14 := ⟨by decide +kernel, rfl, by decide⟩
theorem dX4_has_13 : mx_at cX4_has 13 (.iconst 0) 1 14 := ⟨by decide +kernel, rfl⟩
theorem dX4_has_14 : mx_at cX4_has 14 (.ireturn) 1 15 := ⟨by decide +kernel, rfl⟩
theorem dX4_bits_0 : mx_at cX4_bits 0 (.iconst 0) 1 1 := ⟨by decide +kernel, rfl⟩
theorem dX4_bits_1 : mx_at cX4_bits 1 (.istore_n 1) 1 2 := ⟨by decide +kernel, rfl⟩
theorem dX4_bits_2 : mx_at cX4_bits 2 (.iconst 0) 1 3 := ⟨by decide +kernel, rfl⟩
theorem dX4_bits_3 : mx_at cX4_bits 3 (.istore_n 2) 1 4 := ⟨by decide +kernel, rfl⟩
theorem dX4_bits_4 : mx_at cX4_bits 4 (.iload_n 2) 1 5 := ⟨by decide +kernel, rfl⟩
theorem dX4_bits_5 : mx_at cX4_bits 5 (.bipush 6) 2 7 := ⟨by decide +kernel, rfl⟩
theorem dX4_bits_7 : mx_br cX4_bits 7 (.if_icmp .ge 17) (17) 3 10 24 := ⟨by decide +kernel, rfl, by decide⟩
theorem dX4_bits_10 : mx_at cX4_bits 10 (.iload_n 1) 1 11 := ⟨by decide +kernel, rfl⟩
theorem dX4_bits_11 : mx_at cX4_bits 11 (.iload_n 0) 1 12 := ⟨by decide +kernel, rfl⟩
theorem dX4_bits_12 : mx_at cX4_bits 12 (.iload_n 2) 1 13 := ⟨by decide +kernel, rfl⟩
theorem dX4_bits_13 : mx_at cX4_bits 13 (.ishr) 1 14 := ⟨by decide +kernel, rfl⟩
theorem dX4_bits_14 : mx_at cX4_bits 14 (.iconst 1) 1 15 := ⟨by decide +kernel, rfl⟩
theorem dX4_bits_15 : mx_at cX4_bits 15 (.iand) 1 16 := ⟨by decide +kernel, rfl⟩
theorem dX4_bits_16 : mx_at cX4_bits 16 (.iadd) 1 17 := ⟨by decide +kernel, rfl⟩
theorem dX4_bits_17 : mx_at cX4_bits 17 (.istore_n 1) 1 18 := ⟨by decide +kernel, rfl⟩
theorem dX4_bits_18 : mx_at cX4_bits 18 (.iinc 2 1) 3 21 := ⟨by decide +kernel, rfl⟩
theorem dX4_bits_21 : mx_br cX4_bits 21 (.goto (-17)) (-17) 3 24 4 := ⟨by decide +kernel, rfl, by decide⟩
theorem dX4_bits_24 : mx_at cX4_bits 24 (.iload_n 1) 1 25 := ⟨by decide +kernel, rfl⟩
theorem dX4_bits_25 : mx_at cX4_bits 25 (.ireturn) 1 26 := ⟨by decide +kernel, rfl⟩
theorem dX4_dustBy_0 : mx_at cX4_dustBy 0 (.iload_n 0) 1 1 := ⟨by decide +kernel, rfl⟩
theorem dX4_dustBy_1 : decode cX4_dustBy 1 = .ok (.tableswitch 55 1 5 #[35, 37, 37, 39, 53], 35) := by decide +kernel
theorem dX4_dustBy_36 : mx_at cX4_dustBy 36 (.iconst 2) 1 37 := ⟨by decide +kernel, rfl⟩
theorem dX4_dustBy_37 : mx_at cX4_dustBy 37 (.ireturn) 1 38 := ⟨by decide +kernel, rfl⟩
theorem dX4_dustBy_38 : mx_at cX4_dustBy 38 (.iconst 3) 1 39 := ⟨by decide +kernel, rfl⟩
theorem dX4_dustBy_39 : mx_at cX4_dustBy 39 (.ireturn) 1 40 := ⟨by decide +kernel, rfl⟩
theorem dX4_dustBy_40 : mx_at cX4_dustBy 40 (.iload_n 2) 1 41 := ⟨by decide +kernel, rfl⟩
theorem dX4_dustBy_41 : mx_at cX4_dustBy 41 (.iload_n 1) 1 42 := ⟨by decide +kernel, rfl⟩
theorem dX4_dustBy_42 : mx_at cX4_dustBy 42 (.iconst 2) 1 43 := ⟨by decide +kernel, rfl⟩
theorem dX4_dustBy_43 : mx_at cX4_dustBy 43 (.iadd) 1 44 := ⟨by decide +kernel, rfl⟩
theorem dX4_dustBy_44 : mx_at cX4_dustBy 44 (.irem) 1 45 := ⟨by decide +kernel, rfl⟩
theorem dX4_dustBy_45 : mx_br cX4_dustBy 45 (.ifCond .ne 7) (7) 3 48 52 := ⟨by decide +kernel, rfl, by decide⟩
theorem dX4_dustBy_48 : mx_at cX4_dustBy 48 (.iconst 0) 1 49 := ⟨by decide +kernel, rfl⟩
theorem dX4_dustBy_49 : mx_br cX4_dustBy 49 (.goto 4) (4) 3 52 53 := ⟨by decide +kernel, rfl, by decide⟩
theorem dX4_dustBy_52 : mx_at cX4_dustBy 52 (.iconst 2) 1 53 := ⟨by decide +kernel, rfl⟩
theorem dX4_dustBy_53 : mx_at cX4_dustBy 53 (.ireturn) 1 54 := ⟨by decide +kernel, rfl⟩
theorem dX4_dustBy_54 : mx_at cX4_dustBy 54 (.iconst 0) 1 55 := ⟨by decide +kernel, rfl⟩
theorem dX4_dustBy_55 : mx_at cX4_dustBy 55 (.ireturn) 1 56 := ⟨by decide +kernel, rfl⟩
theorem dX4_dustBy_56 : mx_at cX4_dustBy 56 (.iconst 1) 1 57 := ⟨by decide +kernel, rfl⟩
theorem dX4_dustBy_57 : mx_at cX4_dustBy 57 (.ireturn) 1 58 := ⟨by decide +kernel, rfl⟩
theorem dX4_burnsBy_0 : mx_at cX4_burnsBy 0 (.iload_n 0) 1 1 := ⟨by decide +kernel, rfl⟩
theorem dX4_burnsBy_1 : mx_at cX4_burnsBy 1 (.iconst 1) 1 2 := ⟨by decide +kernel, rfl⟩
theorem dX4_burnsBy_2 : mx_br cX4_burnsBy 2 (.if_icmp .ne 7) (7) 3 5 9 := ⟨by decide +kernel, rfl, by decide⟩
theorem dX4_burnsBy_5 : mx_at cX4_burnsBy 5 (.iconst 0) 1 6 := ⟨by decide +kernel, rfl⟩
theorem dX4_burnsBy_6 : mx_br cX4_burnsBy 6 (.goto 22) (22) 3 9 28 := ⟨by decide +kernel, rfl, by decide⟩
theorem dX4_burnsBy_9 : mx_at cX4_burnsBy 9 (.iload_n 0) 1 10 := ⟨by decide +kernel, rfl⟩
theorem dX4_burnsBy_10 : mx_at cX4_burnsBy 10 (.iconst 2) 1 11 := ⟨by decide +kernel, rfl⟩
theorem dX4_burnsBy_11 : mx_br cX4_burnsBy 11 (.if_icmp .ne 7) (7) 3 14 18 := ⟨by decide +kernel, rfl, by decide⟩
theorem dX4_burnsBy_14 : mx_at cX4_burnsBy 14 (.iconst 2) 1 15 := ⟨by decide +kernel, rfl⟩
theorem dX4_burnsBy_15 : mx_br cX4_burnsBy 15 (.goto 13) (13) 3 18 28 := ⟨by decide +kernel, rfl, by decide⟩
theorem dX4_burnsBy_18 : mx_at cX4_burnsBy 18 (.iload_n 0) 1 19 := ⟨by decide +kernel, rfl⟩
theorem dX4_burnsBy_19 : mx_at cX4_burnsBy 19 (.iconst 3) 1 20 := ⟨by decide +kernel, rfl⟩
theorem dX4_burnsBy_20 : mx_br cX4_burnsBy 20 (.if_icmp .ne 7) (7) 3 23 27 := ⟨by decide +kernel, rfl, by decide⟩
theorem dX4_burnsBy_23 : mx_at cX4_burnsBy 23 (.iconst 3) 1 24 := ⟨by decide +kernel, rfl⟩
theorem dX4_burnsBy_24 : mx_br cX4_burnsBy 24 (.goto 4) (4) 3 27 28 := ⟨by decide +kernel, rfl, by decide⟩
theorem dX4_burnsBy_27 : mx_at cX4_burnsBy 27 (.iconst 1) 1 28 := ⟨by decide +kernel, rfl⟩
theorem dX4_burnsBy_28 : mx_at cX4_burnsBy 28 (.ireturn) 1 29 := ⟨by decide +kernel, rfl⟩
theorem dX4_foundFrom_0 : mx_at cX4_foundFrom 0 (.iload_n 1) 1 1 := ⟨by decide +kernel, rfl⟩
theorem dX4_foundFrom_1 : mx_at cX4_foundFrom 1 (.iconst 2) 1 2 := ⟨by decide +kernel, rfl⟩
theorem dX4_foundFrom_2 : mx_at cX4_foundFrom 2 (.idiv) 1 3 := ⟨by decide +kernel, rfl⟩
theorem dX4_foundFrom_3 : mx_at cX4_foundFrom 3 (.iconst 3) 1 4 := ⟨by decide +kernel, rfl⟩
theorem dX4_foundFrom_4 : mx_at cX4_foundFrom 4 (.iadd) 1 5 := ⟨by decide +kernel, rfl⟩
theorem dX4_foundFrom_5 : mx_at cX4_foundFrom 5 (.istore_n 2) 1 6 := ⟨by decide +kernel, rfl⟩
theorem dX4_foundFrom_6 : mx_at cX4_foundFrom 6 (.iload_n 0) 1 7 := ⟨by decide +kernel, rfl⟩
theorem dX4_foundFrom_7 : decode cX4_foundFrom 7 = .ok (.tableswitch 50 1 5 #[33, 37, 41, 47, 33], 33) := by decide +kernel
theorem dX4_foundFrom_40 : mx_at cX4_foundFrom 40 (.iload_n 2) 1 41 := ⟨by decide +kernel, rfl⟩
theorem dX4_foundFrom_41 : mx_at cX4_foundFrom 41 (.iconst 1) 1 42 := ⟨by decide +kernel, rfl⟩
theorem dX4_foundFrom_42 : mx_at cX4_foundFrom 42 (.isub) 1 43 := ⟨by decide +kernel, rfl⟩
theorem dX4_foundFrom_43 : mx_at cX4_foundFrom 43 (.ireturn) 1 44 := ⟨by decide +kernel, rfl⟩
theorem dX4_foundFrom_44 : mx_at cX4_foundFrom 44 (.iload_n 2) 1 45 := ⟨by decide +kernel, rfl⟩
theorem dX4_foundFrom_45 : mx_at cX4_foundFrom 45 (.iconst 2) 1 46 := ⟨by decide +kernel, rfl⟩
theorem dX4_foundFrom_46 : mx_at cX4_foundFrom 46 (.iadd) 1 47 := ⟨by decide +kernel, rfl⟩
theorem dX4_foundFrom_47 : mx_at cX4_foundFrom 47 (.ireturn) 1 48 := ⟨by decide +kernel, rfl⟩
theorem dX4_foundFrom_48 : mx_at cX4_foundFrom 48 (.iconst 2) 1 49 := ⟨by decide +kernel, rfl⟩
theorem dX4_foundFrom_49 : mx_at cX4_foundFrom 49 (.iload_n 2) 1 50 := ⟨by decide +kernel, rfl⟩
theorem dX4_foundFrom_50 : mx_at cX4_foundFrom 50 (.iconst 2) 1 51 := ⟨by decide +kernel, rfl⟩
theorem dX4_foundFrom_51 : mx_at cX4_foundFrom 51 (.iadd) 1 52 := ⟨by decide +kernel, rfl⟩
theorem dX4_foundFrom_52 : mx_at cX4_foundFrom 52 (.imul) 1 53 := ⟨by decide +kernel, rfl⟩
theorem dX4_foundFrom_53 : mx_at cX4_foundFrom 53 (.ireturn) 1 54 := ⟨by decide +kernel, rfl⟩
theorem dX4_foundFrom_54 : mx_at cX4_foundFrom 54 (.bipush 99) 2 56 := ⟨by decide +kernel, rfl⟩
theorem dX4_foundFrom_56 : mx_at cX4_foundFrom 56 (.ireturn) 1 57 := ⟨by decide +kernel, rfl⟩
theorem dX4_foundFrom_57 : mx_at cX4_foundFrom 57 (.iload_n 2) 1 58 := ⟨by decide +kernel, rfl⟩
theorem dX4_foundFrom_58 : mx_at cX4_foundFrom 58 (.ireturn) 1 59 := ⟨by decide +kernel, rfl⟩
theorem dX4_crowd_0 : mx_at cX4_crowd 0 (.aload_n 0) 1 1 := ⟨by decide +kernel, rfl⟩
theorem dX4_crowd_1 : mx_at cX4_crowd 1 (.iload_n 1) 1 2 := ⟨by decide +kernel, rfl⟩
theorem dX4_crowd_2 : mx_at cX4_crowd 2 (.iconst 2) 1 3 := ⟨by decide +kernel, rfl⟩
theorem dX4_crowd_3 : mx_at cX4_crowd 3 (.invokestatic 44) 3 6 := ⟨by decide +kernel, rfl⟩
theorem dX4_crowd_6 : mx_at cX4_crowd 6 (.iaload) 1 7 := ⟨by decide +kernel, rfl⟩
theorem dX4_crowd_7 : mx_at cX4_crowd 7 (.aload_n 0) 1 8 := ⟨by decide +kernel, rfl⟩
theorem dX4_crowd_8 : mx_at cX4_crowd 8 (.iconst 5) 1 9 := ⟨by decide +kernel, rfl⟩
theorem dX4_crowd_9 : mx_at cX4_crowd 9 (.iaload) 1 10 := ⟨by decide +kernel, rfl⟩
theorem dX4_crowd_10 : mx_at cX4_crowd 10 (.iload_n 1) 1 11 := ⟨by decide +kernel, rfl⟩
theorem dX4_crowd_11 : mx_at cX4_crowd 11 (.invokestatic 48) 3 14 := ⟨by decide +kernel, rfl⟩
theorem dX4_crowd_14 : mx_br cX4_crowd 14 (.ifCond .eq 7) (7) 3 17 21 := ⟨by decide +kernel, rfl, by decide⟩
theorem dX4_crowd_17 : mx_at cX4_crowd 17 (.iconst 0) 1 18 := ⟨by decide +kernel, rfl⟩
theorem dX4_crowd_18 : mx_br cX4_crowd 18 (.goto 4) (4) 3 21 22 := ⟨by decide +kernel, rfl, by decide⟩
theorem dX4_crowd_21 : mx_at cX4_crowd 21 (.iconst 1) 1 22 := ⟨by decide +kernel, rfl⟩
theorem dX4_crowd_22 : mx_at cX4_crowd 22 (.isub) 1 23 := ⟨by decide +kernel, rfl⟩
theorem dX4_crowd_23 : mx_at cX4_crowd 23 (.istore_n 2) 1 24 := ⟨by decide +kernel, rfl⟩
theorem dX4_crowd_24 : mx_at cX4_crowd 24 (.iload_n 2) 1 25 := ⟨by decide +kernel, rfl⟩
theorem dX4_crowd_25 : mx_at cX4_crowd 25 (.iconst 1) 1 26 := ⟨by decide +kernel, rfl⟩
theorem dX4_crowd_26 : mx_br cX4_crowd 26 (.if_icmp .ge 7) (7) 3 29 33 := ⟨by decide +kernel, rfl, by decide⟩
theorem dX4_crowd_29 : mx_at cX4_crowd 29 (.iconst 1) 1 30 := ⟨by decide +kernel, rfl⟩
theorem dX4_crowd_30 : mx_br cX4_crowd 30 (.goto 4) (4) 3 33 34 := ⟨by decide +kernel, rfl, by decide⟩
theorem dX4_crowd_33 : mx_at cX4_crowd 33 (.iload_n 2) 1 34 := ⟨by decide +kernel, rfl⟩
theorem dX4_crowd_34 : mx_at cX4_crowd 34 (.istore_n 3) 1 35 := ⟨by decide +kernel, rfl⟩
theorem dX4_crowd_35 : mx_at cX4_crowd 35 (.aload_n 0) 1 36 := ⟨by decide +kernel, rfl⟩
theorem dX4_crowd_36 : mx_at cX4_crowd 36 (.iload_n 1) 1 37 := ⟨by decide +kernel, rfl⟩
theorem dX4_crowd_37 : mx_at cX4_crowd 37 (.iconst 3) 1 38 := ⟨by decide +kernel, rfl⟩
theorem dX4_crowd_38 : mx_at cX4_crowd 38 (.invokestatic 44) 3 41 := ⟨by decide +kernel, rfl⟩
theorem dX4_crowd_41 : mx_at cX4_crowd 41 (.iaload) 1 42 := ⟨by decide +kernel, rfl⟩
theorem dX4_crowd_42 : mx_at cX4_crowd 42 (.iload_n 3) 1 43 := ⟨by decide +kernel, rfl⟩
theorem dX4_crowd_43 : mx_at cX4_crowd 43 (.iadd) 1 44 := ⟨by decide +kernel, rfl⟩
theorem dX4_crowd_44 : mx_at cX4_crowd 44 (.iconst 1) 1 45 := ⟨by decide +kernel, rfl⟩
theorem dX4_crowd_45 : mx_at cX4_crowd 45 (.isub) 1 46 := ⟨by decide +kernel, rfl⟩
theorem dX4_crowd_46 : mx_at cX4_crowd 46 (.iload_n 3) 1 47 := ⟨by decide +kernel, rfl⟩
theorem dX4_crowd_47 : mx_at cX4_crowd 47 (.idiv) 1 48 := ⟨by decide +kernel, rfl⟩
theorem dX4_crowd_48 : mx_at cX4_crowd 48 (.ireturn) 1 49 := ⟨by decide +kernel, rfl⟩
theorem dX4_isFound_0 : mx_at cX4_isFound 0 (.aload_n 0) 1 1 := ⟨by decide +kernel, rfl⟩
theorem dX4_isFound_1 : mx_at cX4_isFound 1 (.iconst 4) 1 2 := ⟨by decide +kernel, rfl⟩
theorem dX4_isFound_2 : mx_at cX4_isFound 2 (.iaload) 1 3 := ⟨by decide +kernel, rfl⟩
theorem dX4_isFound_3 : mx_at cX4_isFound 3 (.iload_n 1) 1 4 := ⟨by decide +kernel, rfl⟩
theorem dX4_isFound_4 : mx_at cX4_isFound 4 (.invokestatic 48) 3 7 := ⟨by decide +kernel, rfl⟩
theorem dX4_isFound_7 : mx_br cX4_isFound 7 (.ifCond .eq 32) (32) 3 10 39 := ⟨by decide +kernel, rfl, by decide⟩
theorem dX4_isFound_10 : mx_at cX4_isFound 10 (.aload_n 0) 1 11 := ⟨by decide +kernel, rfl⟩
theorem dX4_isFound_11 : mx_at cX4_isFound 11 (.iload_n 1) 1 12 := ⟨by decide +kernel, rfl⟩
theorem dX4_isFound_12 : mx_at cX4_isFound 12 (.invokestatic 52) 3 15 := ⟨by decide +kernel, rfl⟩
theorem dX4_isFound_15 : mx_at cX4_isFound 15 (.aload_n 0) 1 16 := ⟨by decide +kernel, rfl⟩
theorem dX4_isFound_16 : mx_at cX4_isFound 16 (.iload_n 1) 1 17 := ⟨by decide +kernel, rfl⟩
theorem dX4_isFound_17 : mx_at cX4_isFound 17 (.iconst 0) 1 18 := ⟨by decide +kernel, rfl⟩
theorem dX4_isFound_18 : mx_at cX4_isFound 18 (.invokestatic 44) 3 21 := ⟨by decide +kernel, rfl⟩
theorem dX4_isFound_21 : mx_at cX4_isFound 21 (.iaload) 1 22 := ⟨by decide +kernel, rfl⟩
theorem dX4_isFound_22 : mx_at cX4_isFound 22 (.aload_n 0) 1 23 := ⟨by decide +kernel, rfl⟩
theorem dX4_isFound_23 : mx_at cX4_isFound 23 (.iload_n 1) 1 24 := ⟨by decide +kernel, rfl⟩
theorem dX4_isFound_24 : mx_at cX4_isFound 24 (.iconst 1) 1 25 := ⟨by decide +kernel, rfl⟩
theorem dX4_isFound_25 : mx_at cX4_isFound 25 (.invokestatic 44) 3 28 := ⟨by decide +kernel, rfl⟩
theorem dX4_isFound_28 : mx_at cX4_isFound 28 (.iaload) 1 29 := ⟨by decide +kernel, rfl⟩
theorem dX4_isFound_29 : mx_at cX4_isFound 29 (.invokestatic 56) 3 32 := ⟨by decide +kernel, rfl⟩
theorem dX4_isFound_32 : mx_br cX4_isFound 32 (.if_icmp .lt 7) (7) 3 35 39 := ⟨by decide +kernel, rfl, by decide⟩
theorem dX4_isFound_35 : mx_at cX4_isFound 35 (.iconst 1) 1 36 := ⟨by decide +kernel, rfl⟩
theorem dX4_isFound_36 : mx_br cX4_isFound 36 (.goto 4) (4) 3 39 40 := ⟨by decide +kernel, rfl, by decide⟩
theorem dX4_isFound_39 : mx_at cX4_isFound 39 (.iconst 0) 1 40 := ⟨by decide +kernel, rfl⟩
theorem dX4_isFound_40 : mx_at cX4_isFound 40 (.ireturn) 1 41 := ⟨by decide +kernel, rfl⟩
theorem dX4_nextKept_0 : mx_at cX4_nextKept 0 (.iconst 1) 1 1 := ⟨by decide +kernel, rfl⟩
theorem dX4_nextKept_1 : mx_at cX4_nextKept 1 (.istore_n 2) 1 2 := ⟨by decide +kernel, rfl⟩
theorem dX4_nextKept_2 : mx_at cX4_nextKept 2 (.iload_n 2) 1 3 := ⟨by decide +kernel, rfl⟩
theorem dX4_nextKept_3 : mx_at cX4_nextKept 3 (.aload_n 0) 1 4 := ⟨by decide +kernel, rfl⟩
theorem dX4_nextKept_4 : mx_at cX4_nextKept 4 (.iconst 0) 1 5 := ⟨by decide +kernel, rfl⟩
theorem dX4_nextKept_5 : mx_at cX4_nextKept 5 (.iaload) 1 6 := ⟨by decide +kernel, rfl⟩
theorem dX4_nextKept_6 : mx_br cX4_nextKept 6 (.if_icmp .ge 33) (33) 3 9 39 := ⟨by decide +kernel, rfl, by decide⟩
theorem dX4_nextKept_9 : mx_at cX4_nextKept 9 (.aload_n 0) 1 10 := ⟨by decide +kernel, rfl⟩
theorem dX4_nextKept_10 : mx_at cX4_nextKept 10 (.iconst 4) 1 11 := ⟨by decide +kernel, rfl⟩
theorem dX4_nextKept_11 : mx_at cX4_nextKept 11 (.iaload) 1 12 := ⟨by decide +kernel, rfl⟩
theorem dX4_nextKept_12 : mx_at cX4_nextKept 12 (.iload_n 1) 1 13 := ⟨by decide +kernel, rfl⟩
theorem dX4_nextKept_13 : mx_at cX4_nextKept 13 (.iload_n 2) 1 14 := ⟨by decide +kernel, rfl⟩
theorem dX4_nextKept_14 : mx_at cX4_nextKept 14 (.iadd) 1 15 := ⟨by decide +kernel, rfl⟩
theorem dX4_nextKept_15 : mx_at cX4_nextKept 15 (.aload_n 0) 1 16 := ⟨by decide +kernel, rfl⟩
theorem dX4_nextKept_16 : mx_at cX4_nextKept 16 (.iconst 0) 1 17 := ⟨by decide +kernel, rfl⟩
theorem dX4_nextKept_17 : mx_at cX4_nextKept 17 (.iaload) 1 18 := ⟨by decide +kernel, rfl⟩
theorem dX4_nextKept_18 : mx_at cX4_nextKept 18 (.irem) 1 19 := ⟨by decide +kernel, rfl⟩
theorem dX4_nextKept_19 : mx_at cX4_nextKept 19 (.invokestatic 48) 3 22 := ⟨by decide +kernel, rfl⟩
theorem dX4_nextKept_22 : mx_br cX4_nextKept 22 (.ifCond .eq 11) (11) 3 25 33 := ⟨by decide +kernel, rfl, by decide⟩
theorem dX4_nextKept_25 : mx_at cX4_nextKept 25 (.iload_n 1) 1 26 := ⟨by decide +kernel, rfl⟩
theorem dX4_nextKept_26 : mx_at cX4_nextKept 26 (.iload_n 2) 1 27 := ⟨by decide +kernel, rfl⟩
theorem dX4_nextKept_27 : mx_at cX4_nextKept 27 (.iadd) 1 28 := ⟨by decide +kernel, rfl⟩
theorem dX4_nextKept_28 : mx_at cX4_nextKept 28 (.aload_n 0) 1 29 := ⟨by decide +kernel, rfl⟩
theorem dX4_nextKept_29 : mx_at cX4_nextKept 29 (.iconst 0) 1 30 := ⟨by decide +kernel, rfl⟩
theorem dX4_nextKept_30 : mx_at cX4_nextKept 30 (.iaload) 1 31 := ⟨by decide +kernel, rfl⟩
theorem dX4_nextKept_31 : mx_at cX4_nextKept 31 (.irem) 1 32 := ⟨by decide +kernel, rfl⟩
theorem dX4_nextKept_32 : mx_at cX4_nextKept 32 (.ireturn) 1 33 := ⟨by decide +kernel, rfl⟩
theorem dX4_nextKept_33 : mx_at cX4_nextKept 33 (.iinc 2 1) 3 36 := ⟨by decide +kernel, rfl⟩
theorem dX4_nextKept_36 : mx_br cX4_nextKept 36 (.goto (-34)) (-34) 3 39 2 := ⟨by decide +kernel, rfl, by decide⟩
theorem dX4_nextKept_39 : mx_at cX4_nextKept 39 (.bipush (-9)) 2 41 := ⟨by decide +kernel, rfl⟩
theorem dX4_nextKept_41 : mx_at cX4_nextKept 41 (.ireturn) 1 42 := ⟨by decide +kernel, rfl⟩
theorem dX4_ages_0 : mx_at cX4_ages 0 (.aload_n 0) 1 1 := ⟨by decide +kernel, rfl⟩
theorem dX4_ages_1 : mx_at cX4_ages 1 (.iload_n 1) 1 2 := ⟨by decide +kernel, rfl⟩
theorem dX4_ages_2 : mx_at cX4_ages 2 (.iconst 0) 1 3 := ⟨by decide +kernel, rfl⟩
theorem dX4_ages_3 : mx_at cX4_ages 3 (.invokestatic 44) 3 6 := ⟨by decide +kernel, rfl⟩
theorem dX4_ages_6 : mx_at cX4_ages 6 (.iaload) 1 7 := ⟨by decide +kernel, rfl⟩
theorem dX4_ages_7 : mx_at cX4_ages 7 (.invokestatic 59) 3 10 := ⟨by decide +kernel, rfl⟩
theorem dX4_ages_10 : mx_at cX4_ages 10 (.istore_n 2) 1 11 := ⟨by decide +kernel, rfl⟩
theorem dX4_ages_11 : mx_at cX4_ages 11 (.aload_n 0) 1 12 := ⟨by decide +kernel, rfl⟩
theorem dX4_ages_12 : mx_at cX4_ages 12 (.iload_n 1) 1 13 := ⟨by decide +kernel, rfl⟩
theorem dX4_ages_13 : mx_at cX4_ages 13 (.iconst 0) 1 14 := ⟨by decide +kernel, rfl⟩
theorem dX4_ages_14 : mx_at cX4_ages 14 (.invokestatic 44) 3 17 := ⟨by decide +kernel, rfl⟩
theorem dX4_ages_17 : mx_at cX4_ages 17 (.iaload) 1 18 := ⟨by decide +kernel, rfl⟩
theorem dX4_ages_18 : mx_at cX4_ages 18 (.aload_n 0) 1 19 := ⟨by decide +kernel, rfl⟩
theorem dX4_ages_19 : mx_at cX4_ages 19 (.iload_n 1) 1 20 := ⟨by decide +kernel, rfl⟩
theorem dX4_ages_20 : mx_at cX4_ages 20 (.iconst 1) 1 21 := ⟨by decide +kernel, rfl⟩
theorem dX4_ages_21 : mx_at cX4_ages 21 (.invokestatic 44) 3 24 := ⟨by decide +kernel, rfl⟩
theorem dX4_ages_24 : mx_at cX4_ages 24 (.iaload) 1 25 := ⟨by decide +kernel, rfl⟩
theorem dX4_ages_25 : mx_at cX4_ages 25 (.aload_n 0) 1 26 := ⟨by decide +kernel, rfl⟩
theorem dX4_ages_26 : mx_at cX4_ages 26 (.iconst 1) 1 27 := ⟨by decide +kernel, rfl⟩
theorem dX4_ages_27 : mx_at cX4_ages 27 (.iaload) 1 28 := ⟨by decide +kernel, rfl⟩
theorem dX4_ages_28 : mx_at cX4_ages 28 (.invokestatic 62) 3 31 := ⟨by decide +kernel, rfl⟩
theorem dX4_ages_31 : mx_at cX4_ages 31 (.istore_n 3) 1 32 := ⟨by decide +kernel, rfl⟩
theorem dX4_ages_32 : mx_at cX4_ages 32 (.aload_n 0) 1 33 := ⟨by decide +kernel, rfl⟩
theorem dX4_ages_33 : mx_at cX4_ages 33 (.iconst 3) 1 34 := ⟨by decide +kernel, rfl⟩
theorem dX4_ages_34 : mx_at cX4_ages 34 (.iaload) 1 35 := ⟨by decide +kernel, rfl⟩
theorem dX4_ages_35 : mx_at cX4_ages 35 (.iload_n 2) 1 36 := ⟨by decide +kernel, rfl⟩
theorem dX4_ages_36 : mx_br cX4_ages 36 (.if_icmp .lt 7) (7) 3 39 43 := ⟨by decide +kernel, rfl, by decide⟩
theorem dX4_ages_39 : mx_at cX4_ages 39 (.iconst 1) 1 40 := ⟨by decide +kernel, rfl⟩
theorem dX4_ages_40 : mx_br cX4_ages 40 (.goto 4) (4) 3 43 44 := ⟨by decide +kernel, rfl, by decide⟩
theorem dX4_ages_43 : mx_at cX4_ages 43 (.iconst 0) 1 44 := ⟨by decide +kernel, rfl⟩
theorem dX4_ages_44 : mx_at cX4_ages 44 (.istore 4) 2 46 := ⟨by decide +kernel, rfl⟩
theorem dX4_ages_46 : mx_at cX4_ages 46 (.aload_n 0) 1 47 := ⟨by decide +kernel, rfl⟩
theorem dX4_ages_47 : mx_at cX4_ages 47 (.iconst 3) 1 48 := ⟨by decide +kernel, rfl⟩
theorem dX4_ages_48 : mx_at cX4_ages 48 (.dup2) 1 49 := ⟨by decide +kernel, rfl⟩
theorem dX4_ages_49 : mx_at cX4_ages 49 (.iaload) 1 50 := ⟨by decide +kernel, rfl⟩
theorem dX4_ages_50 : mx_at cX4_ages 50 (.iload 4) 2 52 := ⟨by decide +kernel, rfl⟩
theorem dX4_ages_52 : mx_br cX4_ages 52 (.ifCond .eq 7) (7) 3 55 59 := ⟨by decide +kernel, rfl, by decide⟩
theorem dX4_ages_55 : mx_at cX4_ages 55 (.iload_n 2) 1 56 := ⟨by decide +kernel, rfl⟩
theorem dX4_ages_56 : mx_br cX4_ages 56 (.goto 4) (4) 3 59 60 := ⟨by decide +kernel, rfl, by decide⟩
theorem dX4_ages_59 : mx_at cX4_ages 59 (.iconst 0) 1 60 := ⟨by decide +kernel, rfl⟩
theorem dX4_ages_60 : mx_at cX4_ages 60 (.isub) 1 61 := ⟨by decide +kernel, rfl⟩
theorem dX4_ages_61 : mx_at cX4_ages 61 (.iastore) 1 62 := ⟨by decide +kernel, rfl⟩
theorem dX4_ages_62 : mx_at cX4_ages 62 (.aload_n 0) 1 63 := ⟨by decide +kernel, rfl⟩
theorem dX4_ages_63 : mx_at cX4_ages 63 (.iload_n 1) 1 64 := ⟨by decide +kernel, rfl⟩
theorem dX4_ages_64 : mx_at cX4_ages 64 (.iconst 4) 1 65 := ⟨by decide +kernel, rfl⟩
theorem dX4_ages_65 : mx_at cX4_ages 65 (.invokestatic 44) 3 68 := ⟨by decide +kernel, rfl⟩
theorem dX4_ages_68 : mx_at cX4_ages 68 (.bipush 20) 2 70 := ⟨by decide +kernel, rfl⟩
theorem dX4_ages_70 : mx_at cX4_ages 70 (.aload_n 0) 1 71 := ⟨by decide +kernel, rfl⟩
theorem dX4_ages_71 : mx_at cX4_ages 71 (.iload_n 1) 1 72 := ⟨by decide +kernel, rfl⟩
theorem dX4_ages_72 : mx_at cX4_ages 72 (.iconst 4) 1 73 := ⟨by decide +kernel, rfl⟩
theorem dX4_ages_73 : mx_at cX4_ages 73 (.invokestatic 44) 3 76 := ⟨by decide +kernel, rfl⟩
theorem dX4_ages_76 : mx_at cX4_ages 76 (.iaload) 1 77 := ⟨by decide +kernel, rfl⟩
theorem dX4_ages_77 : mx_at cX4_ages 77 (.iload 4) 2 79 := ⟨by decide +kernel, rfl⟩
theorem dX4_ages_79 : mx_br cX4_ages 79 (.ifCond .eq 7) (7) 3 82 86 := ⟨by decide +kernel, rfl, by decide⟩
theorem dX4_ages_82 : mx_at cX4_ages 82 (.iload_n 3) 1 83 := ⟨by decide +kernel, rfl⟩
theorem dX4_ages_83 : mx_br cX4_ages 83 (.goto 8) (8) 3 86 91 := ⟨by decide +kernel, rfl, by decide⟩
theorem dX4_ages_86 : mx_at cX4_ages 86 (.iconst 2) 1 87 := ⟨by decide +kernel, rfl⟩
theorem dX4_ages_87 : mx_at cX4_ages 87 (.iload_n 3) 1 88 := ⟨by decide +kernel, rfl⟩
theorem dX4_ages_88 : mx_at cX4_ages 88 (.imul) 1 89 := ⟨by decide +kernel, rfl⟩
theorem dX4_ages_89 : mx_at cX4_ages 89 (.iconst 1) 1 90 := ⟨by decide +kernel, rfl⟩
theorem dX4_ages_90 : mx_at cX4_ages 90 (.iadd) 1 91 := ⟨by decide +kernel, rfl⟩
theorem dX4_ages_91 : mx_at cX4_ages 91 (.iadd) 1 92 := ⟨by decide +kernel, rfl⟩
theorem dX4_ages_92 : mx_at cX4_ages 92 (.invokestatic 66) 3 95 := ⟨by decide +kernel, rfl⟩
theorem dX4_ages_95 : mx_at cX4_ages 95 (.iastore) 1 96 := ⟨by decide +kernel, rfl⟩
theorem dX4_ages_96 : mx_at cX4_ages 96 (.aload_n 0) 1 97 := ⟨by decide +kernel, rfl⟩
theorem dX4_ages_97 : mx_at cX4_ages 97 (.iload_n 1) 1 98 := ⟨by decide +kernel, rfl⟩
theorem dX4_ages_98 : mx_at cX4_ages 98 (.invokestatic 69) 3 101 := ⟨by decide +kernel, rfl⟩
theorem dX4_ages_101 : mx_br cX4_ages 101 (.ifCond .eq 24) (24) 3 104 125 := ⟨by decide +kernel, rfl, by decide⟩
theorem dX4_ages_104 : mx_at cX4_ages 104 (.aload_n 0) 1 105 := ⟨by decide +kernel, rfl⟩
theorem dX4_ages_105 : mx_at cX4_ages 105 (.iload_n 1) 1 106 := ⟨by decide +kernel, rfl⟩
theorem dX4_ages_106 : mx_at cX4_ages 106 (.iconst 5) 1 107 := ⟨by decide +kernel, rfl⟩
theorem dX4_ages_107 : mx_at cX4_ages 107 (.invokestatic 44) 3 110 := ⟨by decide +kernel, rfl⟩
theorem dX4_ages_110 : mx_at cX4_ages 110 (.bipush 9) 2 112 := ⟨by decide +kernel, rfl⟩
theorem dX4_ages_112 : mx_at cX4_ages 112 (.aload_n 0) 1 113 := ⟨by decide +kernel, rfl⟩
theorem dX4_ages_113 : mx_at cX4_ages 113 (.iload_n 1) 1 114 := ⟨by decide +kernel, rfl⟩
theorem dX4_ages_114 : mx_at cX4_ages 114 (.iconst 5) 1 115 := ⟨by decide +kernel, rfl⟩
theorem dX4_ages_115 : mx_at cX4_ages 115 (.invokestatic 44) 3 118 := ⟨by decide +kernel, rfl⟩
theorem dX4_ages_118 : mx_at cX4_ages 118 (.iaload) 1 119 := ⟨by decide +kernel, rfl⟩
theorem dX4_ages_119 : mx_at cX4_ages 119 (.iconst 1) 1 120 := ⟨by decide +kernel, rfl⟩
theorem dX4_ages_120 : mx_at cX4_ages 120 (.iadd) 1 121 := ⟨by decide +kernel, rfl⟩
theorem dX4_ages_121 : mx_at cX4_ages 121 (.invokestatic 66) 3 124 := ⟨by decide +kernel, rfl⟩
theorem dX4_ages_124 : mx_at cX4_ages 124 (.iastore) 1 125 := ⟨by decide +kernel, rfl⟩
theorem dX4_ages_125 : mx_at cX4_ages 125 (.return_) 1 126 := ⟨by decide +kernel, rfl⟩
theorem dX4_loses_0 : mx_at cX4_loses 0 (.aload_n 0) 1 1 := ⟨by decide +kernel, rfl⟩
theorem dX4_loses_1 : mx_at cX4_loses 1 (.iconst 4) 1 2 := ⟨by decide +kernel, rfl⟩
theorem dX4_loses_2 : mx_at cX4_loses 2 (.dup2) 1 3 := ⟨by decide +kernel, rfl⟩
theorem dX4_loses_3 : mx_at cX4_loses 3 (.iaload) 1 4 := ⟨by decide +kernel, rfl⟩
theorem dX4_loses_4 : mx_at cX4_loses 4 (.iconst 1) 1 5 := ⟨by decide +kernel, rfl⟩
theorem dX4_loses_5 : mx_at cX4_loses 5 (.iload_n 1) 1 6 := ⟨by decide +kernel, rfl⟩
theorem dX4_loses_6 : mx_at cX4_loses 6 (.ishl) 1 7 := ⟨by decide +kernel, rfl⟩
theorem dX4_loses_7 : mx_at cX4_loses 7 (.iconst (-1)) 1 8 := ⟨by decide +kernel, rfl⟩
theorem dX4_loses_8 : mx_at cX4_loses 8 (.ixor) 1 9 := ⟨by decide +kernel, rfl⟩
theorem dX4_loses_9 : mx_at cX4_loses 9 (.iand) 1 10 := ⟨by decide +kernel, rfl⟩
theorem dX4_loses_10 : mx_at cX4_loses 10 (.iastore) 1 11 := ⟨by decide +kernel, rfl⟩
theorem dX4_loses_11 : mx_at cX4_loses 11 (.aload_n 0) 1 12 := ⟨by decide +kernel, rfl⟩
theorem dX4_loses_12 : mx_at cX4_loses 12 (.iload_n 1) 1 13 := ⟨by decide +kernel, rfl⟩
theorem dX4_loses_13 : mx_at cX4_loses 13 (.invokestatic 73) 3 16 := ⟨by decide +kernel, rfl⟩
theorem dX4_loses_16 : mx_at cX4_loses 16 (.istore_n 2) 1 17 := ⟨by decide +kernel, rfl⟩
theorem dX4_loses_17 : mx_at cX4_loses 17 (.iload_n 2) 1 18 := ⟨by decide +kernel, rfl⟩
theorem dX4_loses_18 : mx_br cX4_loses 18 (.ifCond .lt 30) (30) 3 21 48 := ⟨by decide +kernel, rfl, by decide⟩
theorem dX4_loses_21 : mx_at cX4_loses 21 (.aload_n 0) 1 22 := ⟨by decide +kernel, rfl⟩
theorem dX4_loses_22 : mx_at cX4_loses 22 (.iload_n 2) 1 23 := ⟨by decide +kernel, rfl⟩
theorem dX4_loses_23 : mx_at cX4_loses 23 (.iconst 3) 1 24 := ⟨by decide +kernel, rfl⟩
theorem dX4_loses_24 : mx_at cX4_loses 24 (.invokestatic 44) 3 27 := ⟨by decide +kernel, rfl⟩
theorem dX4_loses_27 : mx_at cX4_loses 27 (.bipush 30) 2 29 := ⟨by decide +kernel, rfl⟩
theorem dX4_loses_29 : mx_at cX4_loses 29 (.aload_n 0) 1 30 := ⟨by decide +kernel, rfl⟩
theorem dX4_loses_30 : mx_at cX4_loses 30 (.iload_n 2) 1 31 := ⟨by decide +kernel, rfl⟩
theorem dX4_loses_31 : mx_at cX4_loses 31 (.iconst 3) 1 32 := ⟨by decide +kernel, rfl⟩
theorem dX4_loses_32 : mx_at cX4_loses 32 (.invokestatic 44) 3 35 := ⟨by decide +kernel, rfl⟩
theorem dX4_loses_35 : mx_at cX4_loses 35 (.iaload) 1 36 := ⟨by decide +kernel, rfl⟩
theorem dX4_loses_36 : mx_at cX4_loses 36 (.aload_n 0) 1 37 := ⟨by decide +kernel, rfl⟩
theorem dX4_loses_37 : mx_at cX4_loses 37 (.iload_n 1) 1 38 := ⟨by decide +kernel, rfl⟩
theorem dX4_loses_38 : mx_at cX4_loses 38 (.iconst 3) 1 39 := ⟨by decide +kernel, rfl⟩
theorem dX4_loses_39 : mx_at cX4_loses 39 (.invokestatic 44) 3 42 := ⟨by decide +kernel, rfl⟩
theorem dX4_loses_42 : mx_at cX4_loses 42 (.iaload) 1 43 := ⟨by decide +kernel, rfl⟩
theorem dX4_loses_43 : mx_at cX4_loses 43 (.iadd) 1 44 := ⟨by decide +kernel, rfl⟩
theorem dX4_loses_44 : mx_at cX4_loses 44 (.invokestatic 66) 3 47 := ⟨by decide +kernel, rfl⟩
theorem dX4_loses_47 : mx_at cX4_loses 47 (.iastore) 1 48 := ⟨by decide +kernel, rfl⟩
theorem dX4_loses_48 : mx_at cX4_loses 48 (.aload_n 0) 1 49 := ⟨by decide +kernel, rfl⟩
theorem dX4_loses_49 : mx_at cX4_loses 49 (.iload_n 1) 1 50 := ⟨by decide +kernel, rfl⟩
theorem dX4_loses_50 : mx_at cX4_loses 50 (.iconst 3) 1 51 := ⟨by decide +kernel, rfl⟩
theorem dX4_loses_51 : mx_at cX4_loses 51 (.invokestatic 44) 3 54 := ⟨by decide +kernel, rfl⟩
theorem dX4_loses_54 : mx_at cX4_loses 54 (.iconst 0) 1 55 := ⟨by decide +kernel, rfl⟩
theorem dX4_loses_55 : mx_at cX4_loses 55 (.iastore) 1 56 := ⟨by decide +kernel, rfl⟩
theorem dX4_loses_56 : mx_at cX4_loses 56 (.return_) 1 57 := ⟨by decide +kernel, rfl⟩
theorem dX4_week_0 : mx_at cX4_week 0 (.aload_n 0) 1 1 := ⟨by decide +kernel, rfl⟩
theorem dX4_week_1 : mx_at cX4_week 1 (.iconst 1) 1 2 := ⟨by decide +kernel, rfl⟩
theorem dX4_week_2 : mx_at cX4_week 2 (.dup2) 1 3 := ⟨by decide +kernel, rfl⟩
theorem dX4_week_3 : mx_at cX4_week 3 (.iaload) 1 4 := ⟨by decide +kernel, rfl⟩
theorem dX4_week_4 : mx_at cX4_week 4 (.iconst 1) 1 5 := ⟨by decide +kernel, rfl⟩
theorem dX4_week_5 : mx_at cX4_week 5 (.iadd) 1 6 := ⟨by decide +kernel, rfl⟩
theorem dX4_week_6 : mx_at cX4_week 6 (.iastore) 1 7 := ⟨by decide +kernel, rfl⟩
theorem dX4_week_7 : mx_at cX4_week 7 (.iconst 0) 1 8 := ⟨by decide +kernel, rfl⟩
theorem dX4_week_8 : mx_at cX4_week 8 (.istore_n 1) 1 9 := ⟨by decide +kernel, rfl⟩
theorem dX4_week_9 : mx_at cX4_week 9 (.iload_n 1) 1 10 := ⟨by decide +kernel, rfl⟩
theorem dX4_week_10 : mx_at cX4_week 10 (.aload_n 0) 1 11 := ⟨by decide +kernel, rfl⟩
theorem dX4_week_11 : mx_at cX4_week 11 (.iconst 0) 1 12 := ⟨by decide +kernel, rfl⟩
theorem dX4_week_12 : mx_at cX4_week 12 (.iaload) 1 13 := ⟨by decide +kernel, rfl⟩
theorem dX4_week_13 : mx_br cX4_week 13 (.if_icmp .ge 24) (24) 3 16 37 := ⟨by decide +kernel, rfl, by decide⟩
theorem dX4_week_16 : mx_at cX4_week 16 (.aload_n 0) 1 17 := ⟨by decide +kernel, rfl⟩
theorem dX4_week_17 : mx_at cX4_week 17 (.iconst 4) 1 18 := ⟨by decide +kernel, rfl⟩
theorem dX4_week_18 : mx_at cX4_week 18 (.iaload) 1 19 := ⟨by decide +kernel, rfl⟩
theorem dX4_week_19 : mx_at cX4_week 19 (.iload_n 1) 1 20 := ⟨by decide +kernel, rfl⟩
theorem dX4_week_20 : mx_at cX4_week 20 (.invokestatic 48) 3 23 := ⟨by decide +kernel, rfl⟩
theorem dX4_week_23 : mx_br cX4_week 23 (.ifCond .eq 8) (8) 3 26 31 := ⟨by decide +kernel, rfl, by decide⟩
theorem dX4_week_26 : mx_at cX4_week 26 (.aload_n 0) 1 27 := ⟨by decide +kernel, rfl⟩
theorem dX4_week_27 : mx_at cX4_week 27 (.iload_n 1) 1 28 := ⟨by decide +kernel, rfl⟩
theorem dX4_week_28 : mx_at cX4_week 28 (.invokestatic 76) 3 31 := ⟨by decide +kernel, rfl⟩
theorem dX4_week_31 : mx_at cX4_week 31 (.iinc 1 1) 3 34 := ⟨by decide +kernel, rfl⟩
theorem dX4_week_34 : mx_br cX4_week 34 (.goto (-25)) (-25) 3 37 9 := ⟨by decide +kernel, rfl, by decide⟩
theorem dX4_week_37 : mx_at cX4_week 37 (.aload_n 0) 1 38 := ⟨by decide +kernel, rfl⟩
theorem dX4_week_38 : mx_at cX4_week 38 (.iconst 0) 1 39 := ⟨by decide +kernel, rfl⟩
theorem dX4_week_39 : mx_at cX4_week 39 (.iaload) 1 40 := ⟨by decide +kernel, rfl⟩
theorem dX4_week_40 : mx_br cX4_week 40 (.ifCond .ne 4) (4) 3 43 44 := ⟨by decide +kernel, rfl, by decide⟩
theorem dX4_week_43 : mx_at cX4_week 43 (.return_) 1 44 := ⟨by decide +kernel, rfl⟩
theorem dX4_week_44 : mx_at cX4_week 44 (.aload_n 0) 1 45 := ⟨by decide +kernel, rfl⟩
theorem dX4_week_45 : mx_at cX4_week 45 (.iconst 2) 1 46 := ⟨by decide +kernel, rfl⟩
theorem dX4_week_46 : mx_at cX4_week 46 (.iaload) 1 47 := ⟨by decide +kernel, rfl⟩
theorem dX4_week_47 : mx_at cX4_week 47 (.istore_n 1) 1 48 := ⟨by decide +kernel, rfl⟩
theorem dX4_week_48 : mx_at cX4_week 48 (.aload_n 0) 1 49 := ⟨by decide +kernel, rfl⟩
theorem dX4_week_49 : mx_at cX4_week 49 (.iconst 4) 1 50 := ⟨by decide +kernel, rfl⟩
theorem dX4_week_50 : mx_at cX4_week 50 (.iaload) 1 51 := ⟨by decide +kernel, rfl⟩
theorem dX4_week_51 : mx_at cX4_week 51 (.iload_n 1) 1 52 := ⟨by decide +kernel, rfl⟩
theorem dX4_week_52 : mx_at cX4_week 52 (.invokestatic 48) 3 55 := ⟨by decide +kernel, rfl⟩
theorem dX4_week_55 : mx_br cX4_week 55 (.ifCond .eq 42) (42) 3 58 97 := ⟨by decide +kernel, rfl, by decide⟩
theorem dX4_week_58 : mx_at cX4_week 58 (.aload_n 0) 1 59 := ⟨by decide +kernel, rfl⟩
theorem dX4_week_59 : mx_at cX4_week 59 (.iload_n 1) 1 60 := ⟨by decide +kernel, rfl⟩
theorem dX4_week_60 : mx_at cX4_week 60 (.iconst 4) 1 61 := ⟨by decide +kernel, rfl⟩
theorem dX4_week_61 : mx_at cX4_week 61 (.invokestatic 44) 3 64 := ⟨by decide +kernel, rfl⟩
theorem dX4_week_64 : mx_at cX4_week 64 (.iaload) 1 65 := ⟨by decide +kernel, rfl⟩
theorem dX4_week_65 : mx_at cX4_week 65 (.bipush 10) 2 67 := ⟨by decide +kernel, rfl⟩
theorem dX4_week_67 : mx_br cX4_week 67 (.if_icmp .ge 14) (14) 3 70 81 := ⟨by decide +kernel, rfl, by decide⟩
theorem dX4_week_70 : mx_at cX4_week 70 (.aload_n 0) 1 71 := ⟨by decide +kernel, rfl⟩
theorem dX4_week_71 : mx_at cX4_week 71 (.iload_n 1) 1 72 := ⟨by decide +kernel, rfl⟩
theorem dX4_week_72 : mx_at cX4_week 72 (.iconst 5) 1 73 := ⟨by decide +kernel, rfl⟩
theorem dX4_week_73 : mx_at cX4_week 73 (.invokestatic 44) 3 76 := ⟨by decide +kernel, rfl⟩
theorem dX4_week_76 : mx_at cX4_week 76 (.iaload) 1 77 := ⟨by decide +kernel, rfl⟩
theorem dX4_week_77 : mx_at cX4_week 77 (.iconst 3) 1 78 := ⟨by decide +kernel, rfl⟩
theorem dX4_week_78 : mx_br cX4_week 78 (.if_icmp .lt 11) (11) 3 81 89 := ⟨by decide +kernel, rfl, by decide⟩
theorem dX4_week_81 : mx_at cX4_week 81 (.aload_n 0) 1 82 := ⟨by decide +kernel, rfl⟩
theorem dX4_week_82 : mx_at cX4_week 82 (.iload_n 1) 1 83 := ⟨by decide +kernel, rfl⟩
theorem dX4_week_83 : mx_at cX4_week 83 (.invokestatic 80) 3 86 := ⟨by decide +kernel, rfl⟩
theorem dX4_week_86 : mx_br cX4_week 86 (.goto 11) (11) 3 89 97 := ⟨by decide +kernel, rfl, by decide⟩
theorem dX4_week_89 : mx_at cX4_week 89 (.aload_n 0) 1 90 := ⟨by decide +kernel, rfl⟩
theorem dX4_week_90 : mx_at cX4_week 90 (.iload_n 1) 1 91 := ⟨by decide +kernel, rfl⟩
theorem dX4_week_91 : mx_at cX4_week 91 (.iconst 4) 1 92 := ⟨by decide +kernel, rfl⟩
theorem dX4_week_92 : mx_at cX4_week 92 (.invokestatic 44) 3 95 := ⟨by decide +kernel, rfl⟩
theorem dX4_week_95 : mx_at cX4_week 95 (.iconst 0) 1 96 := ⟨by decide +kernel, rfl⟩
theorem dX4_week_96 : mx_at cX4_week 96 (.iastore) 1 97 := ⟨by decide +kernel, rfl⟩
theorem dX4_week_97 : mx_at cX4_week 97 (.aload_n 0) 1 98 := ⟨by decide +kernel, rfl⟩
theorem dX4_week_98 : mx_at cX4_week 98 (.iconst 2) 1 99 := ⟨by decide +kernel, rfl⟩
theorem dX4_week_99 : mx_at cX4_week 99 (.iload_n 1) 1 100 := ⟨by decide +kernel, rfl⟩
theorem dX4_week_100 : mx_at cX4_week 100 (.iconst 1) 1 101 := ⟨by decide +kernel, rfl⟩
theorem dX4_week_101 : mx_at cX4_week 101 (.iadd) 1 102 := ⟨by decide +kernel, rfl⟩
theorem dX4_week_102 : mx_at cX4_week 102 (.aload_n 0) 1 103 := ⟨by decide +kernel, rfl⟩
theorem dX4_week_103 : mx_at cX4_week 103 (.iconst 0) 1 104 := ⟨by decide +kernel, rfl⟩
theorem dX4_week_104 : mx_at cX4_week 104 (.iaload) 1 105 := ⟨by decide +kernel, rfl⟩
theorem dX4_week_105 : mx_at cX4_week 105 (.irem) 1 106 := ⟨by decide +kernel, rfl⟩
theorem dX4_week_106 : mx_at cX4_week 106 (.iastore) 1 107 := ⟨by decide +kernel, rfl⟩
theorem dX4_week_107 : mx_at cX4_week 107 (.return_) 1 108 := ⟨by decide +kernel, rfl⟩
theorem dX4_weeksOn_0 : mx_at cX4_weeksOn 0 (.iconst 0) 1 1 := ⟨by decide +kernel, rfl⟩
theorem dX4_weeksOn_1 : mx_at cX4_weeksOn 1 (.istore_n 2) 1 2 := ⟨by decide +kernel, rfl⟩
theorem dX4_weeksOn_2 : mx_at cX4_weeksOn 2 (.iload_n 2) 1 3 := ⟨by decide +kernel, rfl⟩
theorem dX4_weeksOn_3 : mx_at cX4_weeksOn 3 (.iload_n 1) 1 4 := ⟨by decide +kernel, rfl⟩
theorem dX4_weeksOn_4 : mx_br cX4_weeksOn 4 (.if_icmp .ge 13) (13) 3 7 17 := ⟨by decide +kernel, rfl, by decide⟩
theorem dX4_weeksOn_7 : mx_at cX4_weeksOn 7 (.aload_n 0) 1 8 := ⟨by decide +kernel, rfl⟩
theorem dX4_weeksOn_8 : mx_at cX4_weeksOn 8 (.invokestatic 83) 3 11 := ⟨by decide +kernel, rfl⟩
theorem dX4_weeksOn_11 : mx_at cX4_weeksOn 11 (.iinc 2 1) 3 14 := ⟨by decide +kernel, rfl⟩
theorem dX4_weeksOn_14 : mx_br cX4_weeksOn 14 (.goto (-12)) (-12) 3 17 2 := ⟨by decide +kernel, rfl, by decide⟩
theorem dX4_weeksOn_17 : mx_at cX4_weeksOn 17 (.return_) 1 18 := ⟨by decide +kernel, rfl⟩
theorem dX4_burnsIn_0 : mx_at cX4_burnsIn 0 (.iconst 0) 1 1 := ⟨by decide +kernel, rfl⟩
theorem dX4_burnsIn_1 : mx_at cX4_burnsIn 1 (.istore_n 1) 1 2 := ⟨by decide +kernel, rfl⟩
theorem dX4_burnsIn_2 : mx_at cX4_burnsIn 2 (.iconst 0) 1 3 := ⟨by decide +kernel, rfl⟩
theorem dX4_burnsIn_3 : mx_at cX4_burnsIn 3 (.istore_n 2) 1 4 := ⟨by decide +kernel, rfl⟩
theorem dX4_burnsIn_4 : mx_at cX4_burnsIn 4 (.iload_n 2) 1 5 := ⟨by decide +kernel, rfl⟩
theorem dX4_burnsIn_5 : mx_at cX4_burnsIn 5 (.aload_n 0) 1 6 := ⟨by decide +kernel, rfl⟩
theorem dX4_burnsIn_6 : mx_at cX4_burnsIn 6 (.iconst 0) 1 7 := ⟨by decide +kernel, rfl⟩
theorem dX4_burnsIn_7 : mx_at cX4_burnsIn 7 (.iaload) 1 8 := ⟨by decide +kernel, rfl⟩
theorem dX4_burnsIn_8 : mx_br cX4_burnsIn 8 (.if_icmp .ge 36) (36) 3 11 44 := ⟨by decide +kernel, rfl, by decide⟩
theorem dX4_burnsIn_11 : mx_at cX4_burnsIn 11 (.iload_n 1) 1 12 := ⟨by decide +kernel, rfl⟩
theorem dX4_burnsIn_12 : mx_at cX4_burnsIn 12 (.aload_n 0) 1 13 := ⟨by decide +kernel, rfl⟩
theorem dX4_burnsIn_13 : mx_at cX4_burnsIn 13 (.iconst 4) 1 14 := ⟨by decide +kernel, rfl⟩
theorem dX4_burnsIn_14 : mx_at cX4_burnsIn 14 (.iaload) 1 15 := ⟨by decide +kernel, rfl⟩
theorem dX4_burnsIn_15 : mx_at cX4_burnsIn 15 (.iload_n 2) 1 16 := ⟨by decide +kernel, rfl⟩
theorem dX4_burnsIn_16 : mx_at cX4_burnsIn 16 (.invokestatic 48) 3 19 := ⟨by decide +kernel, rfl⟩
theorem dX4_burnsIn_19 : mx_br cX4_burnsIn 19 (.ifCond .eq 16) (16) 3 22 35 := ⟨by decide +kernel, rfl, by decide⟩
theorem dX4_burnsIn_22 : mx_at cX4_burnsIn 22 (.aload_n 0) 1 23 := ⟨by decide +kernel, rfl⟩
theorem dX4_burnsIn_23 : mx_at cX4_burnsIn 23 (.iload_n 2) 1 24 := ⟨by decide +kernel, rfl⟩
theorem dX4_burnsIn_24 : mx_at cX4_burnsIn 24 (.iconst 0) 1 25 := ⟨by decide +kernel, rfl⟩
theorem dX4_burnsIn_25 : mx_at cX4_burnsIn 25 (.invokestatic 44) 3 28 := ⟨by decide +kernel, rfl⟩
theorem dX4_burnsIn_28 : mx_at cX4_burnsIn 28 (.iaload) 1 29 := ⟨by decide +kernel, rfl⟩
theorem dX4_burnsIn_29 : mx_at cX4_burnsIn 29 (.invokestatic 59) 3 32 := ⟨by decide +kernel, rfl⟩
theorem dX4_burnsIn_32 : mx_br cX4_burnsIn 32 (.goto 4) (4) 3 35 36 := ⟨by decide +kernel, rfl, by decide⟩
theorem dX4_burnsIn_35 : mx_at cX4_burnsIn 35 (.iconst 0) 1 36 := ⟨by decide +kernel, rfl⟩
theorem dX4_burnsIn_36 : mx_at cX4_burnsIn 36 (.iadd) 1 37 := ⟨by decide +kernel, rfl⟩
theorem dX4_burnsIn_37 : mx_at cX4_burnsIn 37 (.istore_n 1) 1 38 := ⟨by decide +kernel, rfl⟩
theorem dX4_burnsIn_38 : mx_at cX4_burnsIn 38 (.iinc 2 1) 3 41 := ⟨by decide +kernel, rfl⟩
theorem dX4_burnsIn_41 : mx_br cX4_burnsIn 41 (.goto (-37)) (-37) 3 44 4 := ⟨by decide +kernel, rfl, by decide⟩
theorem dX4_burnsIn_44 : mx_at cX4_burnsIn 44 (.iload_n 1) 1 45 := ⟨by decide +kernel, rfl⟩
theorem dX4_burnsIn_45 : mx_at cX4_burnsIn 45 (.ireturn) 1 46 := ⟨by decide +kernel, rfl⟩
theorem dX4_allPeople_0 : mx_at cX4_allPeople 0 (.iconst 0) 1 1 := ⟨by decide +kernel, rfl⟩
theorem dX4_allPeople_1 : mx_at cX4_allPeople 1 (.istore_n 1) 1 2 := ⟨by decide +kernel, rfl⟩
theorem dX4_allPeople_2 : mx_at cX4_allPeople 2 (.iconst 0) 1 3 := ⟨by decide +kernel, rfl⟩
theorem dX4_allPeople_3 : mx_at cX4_allPeople 3 (.istore_n 2) 1 4 := ⟨by decide +kernel, rfl⟩
theorem dX4_allPeople_4 : mx_at cX4_allPeople 4 (.iload_n 2) 1 5 := ⟨by decide +kernel, rfl⟩
theorem dX4_allPeople_5 : mx_at cX4_allPeople 5 (.aload_n 0) 1 6 := ⟨by decide +kernel, rfl⟩
theorem dX4_allPeople_6 : mx_at cX4_allPeople 6 (.iconst 0) 1 7 := ⟨by decide +kernel, rfl⟩
theorem dX4_allPeople_7 : mx_at cX4_allPeople 7 (.iaload) 1 8 := ⟨by decide +kernel, rfl⟩
theorem dX4_allPeople_8 : mx_br cX4_allPeople 8 (.if_icmp .ge 19) (19) 3 11 27 := ⟨by decide +kernel, rfl, by decide⟩
theorem dX4_allPeople_11 : mx_at cX4_allPeople 11 (.iload_n 1) 1 12 := ⟨by decide +kernel, rfl⟩
theorem dX4_allPeople_12 : mx_at cX4_allPeople 12 (.aload_n 0) 1 13 := ⟨by decide +kernel, rfl⟩
theorem dX4_allPeople_13 : mx_at cX4_allPeople 13 (.iload_n 2) 1 14 := ⟨by decide +kernel, rfl⟩
theorem dX4_allPeople_14 : mx_at cX4_allPeople 14 (.iconst 3) 1 15 := ⟨by decide +kernel, rfl⟩
theorem dX4_allPeople_15 : mx_at cX4_allPeople 15 (.invokestatic 44) 3 18 := ⟨by decide +kernel, rfl⟩
theorem dX4_allPeople_18 : mx_at cX4_allPeople 18 (.iaload) 1 19 := ⟨by decide +kernel, rfl⟩
theorem dX4_allPeople_19 : mx_at cX4_allPeople 19 (.iadd) 1 20 := ⟨by decide +kernel, rfl⟩
theorem dX4_allPeople_20 : mx_at cX4_allPeople 20 (.istore_n 1) 1 21 := ⟨by decide +kernel, rfl⟩
theorem dX4_allPeople_21 : mx_at cX4_allPeople 21 (.iinc 2 1) 3 24 := ⟨by decide +kernel, rfl⟩
theorem dX4_allPeople_24 : mx_br cX4_allPeople 24 (.goto (-20)) (-20) 3 27 4 := ⟨by decide +kernel, rfl, by decide⟩
theorem dX4_allPeople_27 : mx_at cX4_allPeople 27 (.iload_n 1) 1 28 := ⟨by decide +kernel, rfl⟩
theorem dX4_allPeople_28 : mx_at cX4_allPeople 28 (.ireturn) 1 29 := ⟨by decide +kernel, rfl⟩
theorem dX4_letter_0 : mx_at cX4_letter 0 (.iload_n 1) 1 1 := ⟨by decide +kernel, rfl⟩
theorem dX4_letter_1 : mx_br cX4_letter 1 (.ifCond .ge 10) (10) 3 4 11 := ⟨by decide +kernel, rfl, by decide⟩
theorem dX4_letter_4 : mx_at cX4_letter 4 (.aload_n 0) 1 5 := ⟨by decide +kernel, rfl⟩
theorem dX4_letter_5 : mx_at cX4_letter 5 (.bipush (-4)) 2 7 := ⟨by decide +kernel, rfl⟩
theorem dX4_letter_7 : mx_at cX4_letter 7 (.invokevirtual 36) 3 10 := ⟨by decide +kernel, rfl⟩
theorem dX4_letter_10 : mx_at cX4_letter 10 (.ireturn) 1 11 := ⟨by decide +kernel, rfl⟩
theorem dX4_letter_11 : mx_at cX4_letter 11 (.iload_n 1) 1 12 := ⟨by decide +kernel, rfl⟩
theorem dX4_letter_12 : mx_at cX4_letter 12 (.sipush 255) 3 15 := ⟨by decide +kernel, rfl⟩
theorem dX4_letter_15 : mx_br cX4_letter 15 (.if_icmp .gt 12) (12) 3 18 27 := ⟨by decide +kernel, rfl, by decide⟩
theorem dX4_letter_18 : mx_at cX4_letter 18 (.aload_n 0) 1 19 := ⟨by decide +kernel, rfl⟩
theorem dX4_letter_19 : mx_at cX4_letter 19 (.getfield 87) 3 22 := ⟨by decide +kernel, rfl⟩
theorem dX4_letter_22 : mx_at cX4_letter 22 (.bipush 96) 2 24 := ⟨by decide +kernel, rfl⟩
theorem dX4_letter_24 : mx_br cX4_letter 24 (.if_icmp .ne 10) (10) 3 27 34 := ⟨by decide +kernel, rfl, by decide⟩
theorem dX4_letter_27 : mx_at cX4_letter 27 (.aload_n 0) 1 28 := ⟨by decide +kernel, rfl⟩
theorem dX4_letter_28 : mx_at cX4_letter 28 (.bipush (-6)) 2 30 := ⟨by decide +kernel, rfl⟩
theorem dX4_letter_30 : mx_at cX4_letter 30 (.invokevirtual 36) 3 33 := ⟨by decide +kernel, rfl⟩
theorem dX4_letter_33 : mx_at cX4_letter 33 (.ireturn) 1 34 := ⟨by decide +kernel, rfl⟩
theorem dX4_letter_34 : mx_at cX4_letter 34 (.aload_n 0) 1 35 := ⟨by decide +kernel, rfl⟩
theorem dX4_letter_35 : mx_at cX4_letter 35 (.getfield 22) 3 38 := ⟨by decide +kernel, rfl⟩
theorem dX4_letter_38 : mx_at cX4_letter 38 (.aload_n 0) 1 39 := ⟨by decide +kernel, rfl⟩
theorem dX4_letter_39 : mx_at cX4_letter 39 (.getfield 87) 3 42 := ⟨by decide +kernel, rfl⟩
theorem dX4_letter_42 : mx_at cX4_letter 42 (.iload_n 1) 1 43 := ⟨by decide +kernel, rfl⟩
theorem dX4_letter_43 : mx_at cX4_letter 43 (.iastore) 1 44 := ⟨by decide +kernel, rfl⟩
theorem dX4_letter_44 : mx_at cX4_letter 44 (.aload_n 0) 1 45 := ⟨by decide +kernel, rfl⟩
theorem dX4_letter_45 : mx_at cX4_letter 45 (.dup) 1 46 := ⟨by decide +kernel, rfl⟩
theorem dX4_letter_46 : mx_at cX4_letter 46 (.getfield 87) 3 49 := ⟨by decide +kernel, rfl⟩
theorem dX4_letter_49 : mx_at cX4_letter 49 (.iconst 1) 1 50 := ⟨by decide +kernel, rfl⟩
theorem dX4_letter_50 : mx_at cX4_letter 50 (.iadd) 1 51 := ⟨by decide +kernel, rfl⟩
theorem dX4_letter_51 : mx_at cX4_letter 51 (.putfield 87) 3 54 := ⟨by decide +kernel, rfl⟩
theorem dX4_letter_54 : mx_at cX4_letter 54 (.aload_n 0) 1 55 := ⟨by decide +kernel, rfl⟩
theorem dX4_letter_55 : mx_at cX4_letter 55 (.getfield 87) 3 58 := ⟨by decide +kernel, rfl⟩
theorem dX4_letter_58 : mx_at cX4_letter 58 (.ireturn) 1 59 := ⟨by decide +kernel, rfl⟩
theorem dX4_here_0 : mx_at cX4_here 0 (.aload_n 0) 1 1 := ⟨by decide +kernel, rfl⟩
theorem dX4_here_1 : mx_at cX4_here 1 (.getfield 91) 3 4 := ⟨by decide +kernel, rfl⟩
theorem dX4_here_4 : mx_at cX4_here 4 (.aload_n 0) 1 5 := ⟨by decide +kernel, rfl⟩
theorem dX4_here_5 : mx_at cX4_here 5 (.getfield 87) 3 8 := ⟨by decide +kernel, rfl⟩
theorem dX4_here_8 : mx_br cX4_here 8 (.if_icmp .ge 15) (15) 3 11 23 := ⟨by decide +kernel, rfl, by decide⟩
theorem dX4_here_11 : mx_at cX4_here 11 (.aload_n 0) 1 12 := ⟨by decide +kernel, rfl⟩
theorem dX4_here_12 : mx_at cX4_here 12 (.getfield 22) 3 15 := ⟨by decide +kernel, rfl⟩
theorem dX4_here_15 : mx_at cX4_here 15 (.aload_n 0) 1 16 := ⟨by decide +kernel, rfl⟩
theorem dX4_here_16 : mx_at cX4_here 16 (.getfield 91) 3 19 := ⟨by decide +kernel, rfl⟩
theorem dX4_here_19 : mx_at cX4_here 19 (.iaload) 1 20 := ⟨by decide +kernel, rfl⟩
theorem dX4_here_20 : mx_br cX4_here 20 (.goto 4) (4) 3 23 24 := ⟨by decide +kernel, rfl, by decide⟩
theorem dX4_here_23 : mx_at cX4_here 23 (.iconst (-1)) 1 24 := ⟨by decide +kernel, rfl⟩
theorem dX4_here_24 : mx_at cX4_here 24 (.ireturn) 1 25 := ⟨by decide +kernel, rfl⟩
theorem dX4_readsNumber_0 : mx_at cX4_readsNumber 0 (.aload_n 0) 1 1 := ⟨by decide +kernel, rfl⟩
theorem dX4_readsNumber_1 : mx_at cX4_readsNumber 1 (.getfield 31) 3 4 := ⟨by decide +kernel, rfl⟩
theorem dX4_readsNumber_4 : mx_at cX4_readsNumber 4 (.iload_n 1) 1 5 := ⟨by decide +kernel, rfl⟩
theorem dX4_readsNumber_5 : mx_at cX4_readsNumber 5 (.iconst 0) 1 6 := ⟨by decide +kernel, rfl⟩
theorem dX4_readsNumber_6 : mx_at cX4_readsNumber 6 (.iastore) 1 7 := ⟨by decide +kernel, rfl⟩
theorem dX4_readsNumber_7 : mx_at cX4_readsNumber 7 (.iconst 0) 1 8 := ⟨by decide +kernel, rfl⟩
theorem dX4_readsNumber_8 : mx_at cX4_readsNumber 8 (.istore_n 3) 1 9 := ⟨by decide +kernel, rfl⟩
theorem dX4_readsNumber_9 : mx_at cX4_readsNumber 9 (.iload_n 3) 1 10 := ⟨by decide +kernel, rfl⟩
theorem dX4_readsNumber_10 : mx_at cX4_readsNumber 10 (.iload_n 2) 1 11 := ⟨by decide +kernel, rfl⟩
theorem dX4_readsNumber_11 : mx_br cX4_readsNumber 11 (.if_icmp .ge 58) (58) 3 14 69 := ⟨by decide +kernel, rfl, by decide⟩
theorem dX4_readsNumber_14 : mx_at cX4_readsNumber 14 (.aload_n 0) 1 15 := ⟨by decide +kernel, rfl⟩
theorem dX4_readsNumber_15 : mx_at cX4_readsNumber 15 (.invokevirtual 94) 3 18 := ⟨by decide +kernel, rfl⟩
theorem dX4_readsNumber_18 : mx_at cX4_readsNumber 18 (.bipush 48) 2 20 := ⟨by decide +kernel, rfl⟩
theorem dX4_readsNumber_20 : mx_at cX4_readsNumber 20 (.bipush 57) 2 22 := ⟨by decide +kernel, rfl⟩
theorem dX4_readsNumber_22 : mx_at cX4_readsNumber 22 (.invokestatic 40) 3 25 := ⟨by decide +kernel, rfl⟩
theorem dX4_readsNumber_25 : mx_br cX4_readsNumber 25 (.ifCond .ne 5) (5) 3 28 30 := ⟨by decide +kernel, rfl, by decide⟩
theorem dX4_readsNumber_28 : mx_at cX4_readsNumber 28 (.iconst 0) 1 29 := ⟨by decide +kernel, rfl⟩
theorem dX4_readsNumber_29 : mx_at cX4_readsNumber 29 (.ireturn) 1 30 := ⟨by decide +kernel, rfl⟩
theorem dX4_readsNumber_30 : mx_at cX4_readsNumber 30 (.aload_n 0) 1 31 := ⟨by decide +kernel, rfl⟩
theorem dX4_readsNumber_31 : mx_at cX4_readsNumber 31 (.getfield 31) 3 34 := ⟨by decide +kernel, rfl⟩
theorem dX4_readsNumber_34 : mx_at cX4_readsNumber 34 (.iload_n 1) 1 35 := ⟨by decide +kernel, rfl⟩
theorem dX4_readsNumber_35 : mx_at cX4_readsNumber 35 (.bipush 10) 2 37 := ⟨by decide +kernel, rfl⟩
theorem dX4_readsNumber_37 : mx_at cX4_readsNumber 37 (.aload_n 0) 1 38 := ⟨by decide +kernel, rfl⟩
theorem dX4_readsNumber_38 : mx_at cX4_readsNumber 38 (.getfield 31) 3 41 := ⟨by decide +kernel, rfl⟩
theorem dX4_readsNumber_41 : mx_at cX4_readsNumber 41 (.iload_n 1) 1 42 := ⟨by decide +kernel, rfl⟩
theorem dX4_readsNumber_42 : mx_at cX4_readsNumber 42 (.iaload) 1 43 := ⟨by decide +kernel, rfl⟩
theorem dX4_readsNumber_43 : mx_at cX4_readsNumber 43 (.imul) 1 44 := ⟨by decide +kernel, rfl⟩
theorem dX4_readsNumber_44 : mx_at cX4_readsNumber 44 (.aload_n 0) 1 45 := ⟨by decide +kernel, rfl⟩
theorem dX4_readsNumber_45 : mx_at cX4_readsNumber 45 (.invokevirtual 94) 3 48 := ⟨by decide +kernel, rfl⟩
theorem dX4_readsNumber_48 : mx_at cX4_readsNumber 48 (.iadd) 1 49 := ⟨by decide +kernel, rfl⟩
theorem dX4_readsNumber_49 : mx_at cX4_readsNumber 49 (.bipush 48) 2 51 := ⟨by decide +kernel, rfl⟩
theorem dX4_readsNumber_51 : mx_at cX4_readsNumber 51 (.isub) 1 52 := ⟨by decide +kernel, rfl⟩
theorem dX4_readsNumber_52 : mx_at cX4_readsNumber 52 (.iastore) 1 53 := ⟨by decide +kernel, rfl⟩
theorem dX4_readsNumber_53 : mx_at cX4_readsNumber 53 (.aload_n 0) 1 54 := ⟨by decide +kernel, rfl⟩
theorem dX4_readsNumber_54 : mx_at cX4_readsNumber 54 (.dup) 1 55 := ⟨by decide +kernel, rfl⟩
theorem dX4_readsNumber_55 : mx_at cX4_readsNumber 55 (.getfield 91) 3 58 := ⟨by decide +kernel, rfl⟩
theorem dX4_readsNumber_58 : mx_at cX4_readsNumber 58 (.iconst 1) 1 59 := ⟨by decide +kernel, rfl⟩
theorem dX4_readsNumber_59 : mx_at cX4_readsNumber 59 (.iadd) 1 60 := ⟨by decide +kernel, rfl⟩
theorem dX4_readsNumber_60 : mx_at cX4_readsNumber 60 (.putfield 91) 3 63 := ⟨by decide +kernel, rfl⟩
theorem dX4_readsNumber_63 : mx_at cX4_readsNumber 63 (.iinc 3 1) 3 66 := ⟨by decide +kernel, rfl⟩
theorem dX4_readsNumber_66 : mx_br cX4_readsNumber 66 (.goto (-57)) (-57) 3 69 9 := ⟨by decide +kernel, rfl, by decide⟩
theorem dX4_readsNumber_69 : mx_at cX4_readsNumber 69 (.iconst 1) 1 70 := ⟨by decide +kernel, rfl⟩
theorem dX4_readsNumber_70 : mx_at cX4_readsNumber 70 (.ireturn) 1 71 := ⟨by decide +kernel, rfl⟩
theorem dX4_kindBy_0 : mx_at cX4_kindBy 0 (.iload_n 0) 1 1 := ⟨by decide +kernel, rfl⟩
theorem dX4_kindBy_1 : decode cX4_kindBy 1 = .ok (.tableswitch 83 99 112 #[81, 83, 83, 83, 79, 71, 77, 83, 83, 83, 75, 83, 83, 73], 71) := by decide +kernel
theorem dX4_kindBy_72 : mx_at cX4_kindBy 72 (.iconst 0) 1 73 := ⟨by decide +kernel, rfl⟩
theorem dX4_kindBy_73 : mx_at cX4_kindBy 73 (.ireturn) 1 74 := ⟨by decide +kernel, rfl⟩
theorem dX4_kindBy_74 : mx_at cX4_kindBy 74 (.iconst 1) 1 75 := ⟨by decide +kernel, rfl⟩
theorem dX4_kindBy_75 : mx_at cX4_kindBy 75 (.ireturn) 1 76 := ⟨by decide +kernel, rfl⟩
theorem dX4_kindBy_76 : mx_at cX4_kindBy 76 (.iconst 2) 1 77 := ⟨by decide +kernel, rfl⟩
theorem dX4_kindBy_77 : mx_at cX4_kindBy 77 (.ireturn) 1 78 := ⟨by decide +kernel, rfl⟩
theorem dX4_kindBy_78 : mx_at cX4_kindBy 78 (.iconst 3) 1 79 := ⟨by decide +kernel, rfl⟩
theorem dX4_kindBy_79 : mx_at cX4_kindBy 79 (.ireturn) 1 80 := ⟨by decide +kernel, rfl⟩
theorem dX4_kindBy_80 : mx_at cX4_kindBy 80 (.iconst 4) 1 81 := ⟨by decide +kernel, rfl⟩
theorem dX4_kindBy_81 : mx_at cX4_kindBy 81 (.ireturn) 1 82 := ⟨by decide +kernel, rfl⟩
theorem dX4_kindBy_82 : mx_at cX4_kindBy 82 (.iconst 5) 1 83 := ⟨by decide +kernel, rfl⟩
theorem dX4_kindBy_83 : mx_at cX4_kindBy 83 (.ireturn) 1 84 := ⟨by decide +kernel, rfl⟩
theorem dX4_kindBy_84 : mx_at cX4_kindBy 84 (.bipush (-9)) 2 86 := ⟨by decide +kernel, rfl⟩
theorem dX4_kindBy_86 : mx_at cX4_kindBy 86 (.ireturn) 1 87 := ⟨by decide +kernel, rfl⟩
theorem dX4_readsKind_0 : mx_at cX4_readsKind 0 (.aload_n 0) 1 1 := ⟨by decide +kernel, rfl⟩
theorem dX4_readsKind_1 : mx_at cX4_readsKind 1 (.getfield 31) 3 4 := ⟨by decide +kernel, rfl⟩
theorem dX4_readsKind_4 : mx_at cX4_readsKind 4 (.iconst 0) 1 5 := ⟨by decide +kernel, rfl⟩
theorem dX4_readsKind_5 : mx_at cX4_readsKind 5 (.aload_n 0) 1 6 := ⟨by decide +kernel, rfl⟩
theorem dX4_readsKind_6 : mx_at cX4_readsKind 6 (.invokevirtual 94) 3 9 := ⟨by decide +kernel, rfl⟩
theorem dX4_readsKind_9 : mx_at cX4_readsKind 9 (.invokestatic 98) 3 12 := ⟨by decide +kernel, rfl⟩
theorem dX4_readsKind_12 : mx_at cX4_readsKind 12 (.iastore) 1 13 := ⟨by decide +kernel, rfl⟩
theorem dX4_readsKind_13 : mx_at cX4_readsKind 13 (.aload_n 0) 1 14 := ⟨by decide +kernel, rfl⟩
theorem dX4_readsKind_14 : mx_at cX4_readsKind 14 (.dup) 1 15 := ⟨by decide +kernel, rfl⟩
theorem dX4_readsKind_15 : mx_at cX4_readsKind 15 (.getfield 91) 3 18 := ⟨by decide +kernel, rfl⟩
theorem dX4_readsKind_18 : mx_at cX4_readsKind 18 (.aload_n 0) 1 19 := ⟨by decide +kernel, rfl⟩
theorem dX4_readsKind_19 : mx_at cX4_readsKind 19 (.getfield 31) 3 22 := ⟨by decide +kernel, rfl⟩
theorem dX4_readsKind_22 : mx_at cX4_readsKind 22 (.iconst 0) 1 23 := ⟨by decide +kernel, rfl⟩
theorem dX4_readsKind_23 : mx_at cX4_readsKind 23 (.iaload) 1 24 := ⟨by decide +kernel, rfl⟩
theorem dX4_readsKind_24 : mx_br cX4_readsKind 24 (.ifCond .ge 7) (7) 3 27 31 := ⟨by decide +kernel, rfl, by decide⟩
theorem dX4_readsKind_27 : mx_at cX4_readsKind 27 (.iconst 0) 1 28 := ⟨by decide +kernel, rfl⟩
theorem dX4_readsKind_28 : mx_br cX4_readsKind 28 (.goto 4) (4) 3 31 32 := ⟨by decide +kernel, rfl, by decide⟩
theorem dX4_readsKind_31 : mx_at cX4_readsKind 31 (.iconst 1) 1 32 := ⟨by decide +kernel, rfl⟩
theorem dX4_readsKind_32 : mx_at cX4_readsKind 32 (.iadd) 1 33 := ⟨by decide +kernel, rfl⟩
theorem dX4_readsKind_33 : mx_at cX4_readsKind 33 (.putfield 91) 3 36 := ⟨by decide +kernel, rfl⟩
theorem dX4_readsKind_36 : mx_at cX4_readsKind 36 (.aload_n 0) 1 37 := ⟨by decide +kernel, rfl⟩
theorem dX4_readsKind_37 : mx_at cX4_readsKind 37 (.getfield 31) 3 40 := ⟨by decide +kernel, rfl⟩
theorem dX4_readsKind_40 : mx_at cX4_readsKind 40 (.iconst 0) 1 41 := ⟨by decide +kernel, rfl⟩
theorem dX4_readsKind_41 : mx_at cX4_readsKind 41 (.iaload) 1 42 := ⟨by decide +kernel, rfl⟩
theorem dX4_readsKind_42 : mx_br cX4_readsKind 42 (.ifCond .lt 7) (7) 3 45 49 := ⟨by decide +kernel, rfl, by decide⟩
theorem dX4_readsKind_45 : mx_at cX4_readsKind 45 (.iconst 1) 1 46 := ⟨by decide +kernel, rfl⟩
theorem dX4_readsKind_46 : mx_br cX4_readsKind 46 (.goto 4) (4) 3 49 50 := ⟨by decide +kernel, rfl, by decide⟩
theorem dX4_readsKind_49 : mx_at cX4_readsKind 49 (.iconst 0) 1 50 := ⟨by decide +kernel, rfl⟩
theorem dX4_readsKind_50 : mx_at cX4_readsKind 50 (.ireturn) 1 51 := ⟨by decide +kernel, rfl⟩
theorem dX4_readsStatement_0 : mx_at cX4_readsStatement 0 (.aload_n 0) 1 1 := ⟨by decide +kernel, rfl⟩
theorem dX4_readsStatement_1 : mx_at cX4_readsStatement 1 (.invokevirtual 94) 3 4 := ⟨by decide +kernel, rfl⟩
theorem dX4_readsStatement_4 : mx_at cX4_readsStatement 4 (.istore_n 1) 1 5 := ⟨by decide +kernel, rfl⟩
theorem dX4_readsStatement_5 : mx_at cX4_readsStatement 5 (.aload_n 0) 1 6 := ⟨by decide +kernel, rfl⟩
theorem dX4_readsStatement_6 : mx_at cX4_readsStatement 6 (.dup) 1 7 := ⟨by decide +kernel, rfl⟩
theorem dX4_readsStatement_7 : mx_at cX4_readsStatement 7 (.getfield 91) 3 10 := ⟨by decide +kernel, rfl⟩
theorem dX4_readsStatement_10 : mx_at cX4_readsStatement 10 (.iconst 1) 1 11 := ⟨by decide +kernel, rfl⟩
theorem dX4_readsStatement_11 : mx_at cX4_readsStatement 11 (.iadd) 1 12 := ⟨by decide +kernel, rfl⟩
theorem dX4_readsStatement_12 : mx_at cX4_readsStatement 12 (.putfield 91) 3 15 := ⟨by decide +kernel, rfl⟩
theorem dX4_readsStatement_15 : mx_at cX4_readsStatement 15 (.iload_n 1) 1 16 := ⟨by decide +kernel, rfl⟩
theorem dX4_readsStatement_16 : decode cX4_readsStatement 16 = .ok (.tableswitch 204 99 120 #[184, 147, 204, 204, 204, 104, 174, 204, 204, 204, 204, 204, 204, 147, 204, 204, 204, 204, 204, 204, 194, 174], 104) := by decide +kernel
theorem dX4_readsStatement_120 : mx_at cX4_readsStatement 120 (.aload_n 0) 1 121 := ⟨by decide +kernel, rfl⟩
theorem dX4_readsStatement_121 : mx_at cX4_readsStatement 121 (.invokevirtual 101) 3 124 := ⟨by decide +kernel, rfl⟩
theorem dX4_readsStatement_124 : mx_br cX4_readsStatement 124 (.ifCond .eq 34) (34) 3 127 158 := ⟨by decide +kernel, rfl, by decide⟩
theorem dX4_readsStatement_127 : mx_at cX4_readsStatement 127 (.aload_n 0) 1 128 := ⟨by decide +kernel, rfl⟩
theorem dX4_readsStatement_128 : mx_at cX4_readsStatement 128 (.iconst 1) 1 129 := ⟨by decide +kernel, rfl⟩
theorem dX4_readsStatement_129 : mx_at cX4_readsStatement 129 (.iconst 1) 1 130 := ⟨by decide +kernel, rfl⟩
theorem dX4_readsStatement_130 : mx_at cX4_readsStatement 130 (.invokevirtual 105) 3 133 := ⟨by decide +kernel, rfl⟩
theorem dX4_readsStatement_133 : mx_br cX4_readsStatement 133 (.ifCond .eq 25) (25) 3 136 158 := ⟨by decide +kernel, rfl, by decide⟩
theorem dX4_readsStatement_136 : mx_at cX4_readsStatement 136 (.aload_n 0) 1 137 := ⟨by decide +kernel, rfl⟩
theorem dX4_readsStatement_137 : mx_at cX4_readsStatement 137 (.iconst 2) 1 138 := ⟨by decide +kernel, rfl⟩
theorem dX4_readsStatement_138 : mx_at cX4_readsStatement 138 (.iconst 1) 1 139 := ⟨by decide +kernel, rfl⟩
theorem dX4_readsStatement_139 : mx_at cX4_readsStatement 139 (.invokevirtual 105) 3 142 := ⟨by decide +kernel, rfl⟩
theorem dX4_readsStatement_142 : mx_br cX4_readsStatement 142 (.ifCond .eq 16) (16) 3 145 158 := ⟨by decide +kernel, rfl, by decide⟩
theorem dX4_readsStatement_145 : mx_at cX4_readsStatement 145 (.aload_n 0) 1 146 := ⟨by decide +kernel, rfl⟩
theorem dX4_readsStatement_146 : mx_at cX4_readsStatement 146 (.iconst 3) 1 147 := ⟨by decide +kernel, rfl⟩
theorem dX4_readsStatement_147 : mx_at cX4_readsStatement 147 (.iconst 2) 1 148 := ⟨by decide +kernel, rfl⟩
theorem dX4_readsStatement_148 : mx_at cX4_readsStatement 148 (.invokevirtual 105) 3 151 := ⟨by decide +kernel, rfl⟩
theorem dX4_readsStatement_151 : mx_br cX4_readsStatement 151 (.ifCond .eq 7) (7) 3 154 158 := ⟨by decide +kernel, rfl, by decide⟩
theorem dX4_readsStatement_154 : mx_at cX4_readsStatement 154 (.iconst 1) 1 155 := ⟨by decide +kernel, rfl⟩
theorem dX4_readsStatement_155 : mx_br cX4_readsStatement 155 (.goto 4) (4) 3 158 159 := ⟨by decide +kernel, rfl, by decide⟩
theorem dX4_readsStatement_158 : mx_at cX4_readsStatement 158 (.iconst 0) 1 159 := ⟨by decide +kernel, rfl⟩
theorem dX4_readsStatement_159 : mx_at cX4_readsStatement 159 (.istore_n 2) 1 160 := ⟨by decide +kernel, rfl⟩
theorem dX4_readsStatement_160 : mx_br cX4_readsStatement 160 (.goto 72) (72) 3 163 232 := ⟨by decide +kernel, rfl, by decide⟩
theorem dX4_readsStatement_163 : mx_at cX4_readsStatement 163 (.aload_n 0) 1 164 := ⟨by decide +kernel, rfl⟩
theorem dX4_readsStatement_164 : mx_at cX4_readsStatement 164 (.iconst 0) 1 165 := ⟨by decide +kernel, rfl⟩
theorem dX4_readsStatement_165 : mx_at cX4_readsStatement 165 (.iconst 1) 1 166 := ⟨by decide +kernel, rfl⟩
theorem dX4_readsStatement_166 : mx_at cX4_readsStatement 166 (.invokevirtual 105) 3 169 := ⟨by decide +kernel, rfl⟩
theorem dX4_readsStatement_169 : mx_br cX4_readsStatement 169 (.ifCond .eq 16) (16) 3 172 185 := ⟨by decide +kernel, rfl, by decide⟩
theorem dX4_readsStatement_172 : mx_at cX4_readsStatement 172 (.aload_n 0) 1 173 := ⟨by decide +kernel, rfl⟩
theorem dX4_readsStatement_173 : mx_at cX4_readsStatement 173 (.iconst 1) 1 174 := ⟨by decide +kernel, rfl⟩
theorem dX4_readsStatement_174 : mx_at cX4_readsStatement 174 (.iconst 2) 1 175 := ⟨by decide +kernel, rfl⟩
theorem dX4_readsStatement_175 : mx_at cX4_readsStatement 175 (.invokevirtual 105) 3 178 := ⟨by decide +kernel, rfl⟩
theorem dX4_readsStatement_178 : mx_br cX4_readsStatement 178 (.ifCond .eq 7) (7) 3 181 185 := ⟨by decide +kernel, rfl, by decide⟩
theorem dX4_readsStatement_181 : mx_at cX4_readsStatement 181 (.iconst 1) 1 182 := ⟨by decide +kernel, rfl⟩
theorem dX4_readsStatement_182 : mx_br cX4_readsStatement 182 (.goto 4) (4) 3 185 186 := ⟨by decide +kernel, rfl, by decide⟩
theorem dX4_readsStatement_185 : mx_at cX4_readsStatement 185 (.iconst 0) 1 186 := ⟨by decide +kernel, rfl⟩
theorem dX4_readsStatement_186 : mx_at cX4_readsStatement 186 (.istore_n 2) 1 187 := ⟨by decide +kernel, rfl⟩
theorem dX4_readsStatement_187 : mx_br cX4_readsStatement 187 (.goto 45) (45) 3 190 232 := ⟨by decide +kernel, rfl, by decide⟩
theorem dX4_readsStatement_190 : mx_at cX4_readsStatement 190 (.aload_n 0) 1 191 := ⟨by decide +kernel, rfl⟩
theorem dX4_readsStatement_191 : mx_at cX4_readsStatement 191 (.iconst 0) 1 192 := ⟨by decide +kernel, rfl⟩
theorem dX4_readsStatement_192 : mx_at cX4_readsStatement 192 (.iconst 1) 1 193 := ⟨by decide +kernel, rfl⟩
theorem dX4_readsStatement_193 : mx_at cX4_readsStatement 193 (.invokevirtual 105) 3 196 := ⟨by decide +kernel, rfl⟩
theorem dX4_readsStatement_196 : mx_at cX4_readsStatement 196 (.istore_n 2) 1 197 := ⟨by decide +kernel, rfl⟩
theorem dX4_readsStatement_197 : mx_br cX4_readsStatement 197 (.goto 35) (35) 3 200 232 := ⟨by decide +kernel, rfl, by decide⟩
theorem dX4_readsStatement_200 : mx_at cX4_readsStatement 200 (.aload_n 0) 1 201 := ⟨by decide +kernel, rfl⟩
theorem dX4_readsStatement_201 : mx_at cX4_readsStatement 201 (.iconst 0) 1 202 := ⟨by decide +kernel, rfl⟩
theorem dX4_readsStatement_202 : mx_at cX4_readsStatement 202 (.iconst 3) 1 203 := ⟨by decide +kernel, rfl⟩
theorem dX4_readsStatement_203 : mx_at cX4_readsStatement 203 (.invokevirtual 105) 3 206 := ⟨by decide +kernel, rfl⟩
theorem dX4_readsStatement_206 : mx_at cX4_readsStatement 206 (.istore_n 2) 1 207 := ⟨by decide +kernel, rfl⟩
theorem dX4_readsStatement_207 : mx_br cX4_readsStatement 207 (.goto 25) (25) 3 210 232 := ⟨by decide +kernel, rfl, by decide⟩
theorem dX4_readsStatement_210 : mx_at cX4_readsStatement 210 (.aload_n 0) 1 211 := ⟨by decide +kernel, rfl⟩
theorem dX4_readsStatement_211 : mx_at cX4_readsStatement 211 (.iconst 0) 1 212 := ⟨by decide +kernel, rfl⟩
theorem dX4_readsStatement_212 : mx_at cX4_readsStatement 212 (.iconst 2) 1 213 := ⟨by decide +kernel, rfl⟩
theorem dX4_readsStatement_213 : mx_at cX4_readsStatement 213 (.invokevirtual 105) 3 216 := ⟨by decide +kernel, rfl⟩
theorem dX4_readsStatement_216 : mx_at cX4_readsStatement 216 (.istore_n 2) 1 217 := ⟨by decide +kernel, rfl⟩
theorem dX4_readsStatement_217 : mx_br cX4_readsStatement 217 (.goto 15) (15) 3 220 232 := ⟨by decide +kernel, rfl, by decide⟩
theorem dX4_readsStatement_220 : mx_at cX4_readsStatement 220 (.aload_n 0) 1 221 := ⟨by decide +kernel, rfl⟩
theorem dX4_readsStatement_221 : mx_at cX4_readsStatement 221 (.dup) 1 222 := ⟨by decide +kernel, rfl⟩
theorem dX4_readsStatement_222 : mx_at cX4_readsStatement 222 (.getfield 91) 3 225 := ⟨by decide +kernel, rfl⟩
theorem dX4_readsStatement_225 : mx_at cX4_readsStatement 225 (.iconst 1) 1 226 := ⟨by decide +kernel, rfl⟩
theorem dX4_readsStatement_226 : mx_at cX4_readsStatement 226 (.isub) 1 227 := ⟨by decide +kernel, rfl⟩
theorem dX4_readsStatement_227 : mx_at cX4_readsStatement 227 (.putfield 91) 3 230 := ⟨by decide +kernel, rfl⟩
theorem dX4_readsStatement_230 : mx_at cX4_readsStatement 230 (.iconst 0) 1 231 := ⟨by decide +kernel, rfl⟩
theorem dX4_readsStatement_231 : mx_at cX4_readsStatement 231 (.ireturn) 1 232 := ⟨by decide +kernel, rfl⟩
theorem dX4_readsStatement_232 : mx_at cX4_readsStatement 232 (.iload_n 2) 1 233 := ⟨by decide +kernel, rfl⟩
theorem dX4_readsStatement_233 : mx_br cX4_readsStatement 233 (.ifCond .eq 12) (12) 3 236 245 := ⟨by decide +kernel, rfl, by decide⟩
theorem dX4_readsStatement_236 : mx_at cX4_readsStatement 236 (.aload_n 0) 1 237 := ⟨by decide +kernel, rfl⟩
theorem dX4_readsStatement_237 : mx_at cX4_readsStatement 237 (.invokevirtual 94) 3 240 := ⟨by decide +kernel, rfl⟩
theorem dX4_readsStatement_240 : mx_at cX4_readsStatement 240 (.bipush 59) 2 242 := ⟨by decide +kernel, rfl⟩
theorem dX4_readsStatement_242 : mx_br cX4_readsStatement 242 (.if_icmp .eq 5) (5) 3 245 247 := ⟨by decide +kernel, rfl, by decide⟩
theorem dX4_readsStatement_245 : mx_at cX4_readsStatement 245 (.iconst 0) 1 246 := ⟨by decide +kernel, rfl⟩
theorem dX4_readsStatement_246 : mx_at cX4_readsStatement 246 (.ireturn) 1 247 := ⟨by decide +kernel, rfl⟩
theorem dX4_readsStatement_247 : mx_at cX4_readsStatement 247 (.aload_n 0) 1 248 := ⟨by decide +kernel, rfl⟩
theorem dX4_readsStatement_248 : mx_at cX4_readsStatement 248 (.dup) 1 249 := ⟨by decide +kernel, rfl⟩
theorem dX4_readsStatement_249 : mx_at cX4_readsStatement 249 (.getfield 91) 3 252 := ⟨by decide +kernel, rfl⟩
theorem dX4_readsStatement_252 : mx_at cX4_readsStatement 252 (.iconst 1) 1 253 := ⟨by decide +kernel, rfl⟩
theorem dX4_readsStatement_253 : mx_at cX4_readsStatement 253 (.iadd) 1 254 := ⟨by decide +kernel, rfl⟩
theorem dX4_readsStatement_254 : mx_at cX4_readsStatement 254 (.putfield 91) 3 257 := ⟨by decide +kernel, rfl⟩
theorem dX4_readsStatement_257 : mx_at cX4_readsStatement 257 (.iconst 1) 1 258 := ⟨by decide +kernel, rfl⟩
theorem dX4_readsStatement_258 : mx_at cX4_readsStatement 258 (.ireturn) 1 259 := ⟨by decide +kernel, rfl⟩
theorem dX4_addsHouse_0 : mx_at cX4_addsHouse 0 (.aload_n 0) 1 1 := ⟨by decide +kernel, rfl⟩
theorem dX4_addsHouse_1 : mx_at cX4_addsHouse 1 (.getfield 31) 3 4 := ⟨by decide +kernel, rfl⟩
theorem dX4_addsHouse_4 : mx_at cX4_addsHouse 4 (.iconst 2) 1 5 := ⟨by decide +kernel, rfl⟩
theorem dX4_addsHouse_5 : mx_at cX4_addsHouse 5 (.iaload) 1 6 := ⟨by decide +kernel, rfl⟩
theorem dX4_addsHouse_6 : mx_at cX4_addsHouse 6 (.iconst 1) 1 7 := ⟨by decide +kernel, rfl⟩
theorem dX4_addsHouse_7 : mx_br cX4_addsHouse 7 (.if_icmp .lt 25) (25) 3 10 32 := ⟨by decide +kernel, rfl, by decide⟩
theorem dX4_addsHouse_10 : mx_at cX4_addsHouse 10 (.aload_n 0) 1 11 := ⟨by decide +kernel, rfl⟩
theorem dX4_addsHouse_11 : mx_at cX4_addsHouse 11 (.getfield 31) 3 14 := ⟨by decide +kernel, rfl⟩
theorem dX4_addsHouse_14 : mx_at cX4_addsHouse 14 (.iconst 3) 1 15 := ⟨by decide +kernel, rfl⟩
theorem dX4_addsHouse_15 : mx_at cX4_addsHouse 15 (.iaload) 1 16 := ⟨by decide +kernel, rfl⟩
theorem dX4_addsHouse_16 : mx_at cX4_addsHouse 16 (.bipush 30) 2 18 := ⟨by decide +kernel, rfl⟩
theorem dX4_addsHouse_18 : mx_br cX4_addsHouse 18 (.if_icmp .gt 14) (14) 3 21 32 := ⟨by decide +kernel, rfl, by decide⟩
theorem dX4_addsHouse_21 : mx_at cX4_addsHouse 21 (.aload_n 0) 1 22 := ⟨by decide +kernel, rfl⟩
theorem dX4_addsHouse_22 : mx_at cX4_addsHouse 22 (.getfield 9) 3 25 := ⟨by decide +kernel, rfl⟩
theorem dX4_addsHouse_25 : mx_at cX4_addsHouse 25 (.iconst 0) 1 26 := ⟨by decide +kernel, rfl⟩
theorem dX4_addsHouse_26 : mx_at cX4_addsHouse 26 (.iaload) 1 27 := ⟨by decide +kernel, rfl⟩
theorem dX4_addsHouse_27 : mx_at cX4_addsHouse 27 (.bipush 6) 2 29 := ⟨by decide +kernel, rfl⟩
theorem dX4_addsHouse_29 : mx_br cX4_addsHouse 29 (.if_icmp .ne 5) (5) 3 32 34 := ⟨by decide +kernel, rfl, by decide⟩
theorem dX4_addsHouse_32 : mx_at cX4_addsHouse 32 (.iconst 0) 1 33 := ⟨by decide +kernel, rfl⟩
theorem dX4_addsHouse_33 : mx_at cX4_addsHouse 33 (.ireturn) 1 34 := ⟨by decide +kernel, rfl⟩
theorem dX4_addsHouse_34 : mx_at cX4_addsHouse 34 (.aload_n 0) 1 35 := ⟨by decide +kernel, rfl⟩
theorem dX4_addsHouse_35 : mx_at cX4_addsHouse 35 (.getfield 9) 3 38 := ⟨by decide +kernel, rfl⟩
theorem dX4_addsHouse_38 : mx_at cX4_addsHouse 38 (.iconst 0) 1 39 := ⟨by decide +kernel, rfl⟩
theorem dX4_addsHouse_39 : mx_at cX4_addsHouse 39 (.iaload) 1 40 := ⟨by decide +kernel, rfl⟩
theorem dX4_addsHouse_40 : mx_at cX4_addsHouse 40 (.istore_n 1) 1 41 := ⟨by decide +kernel, rfl⟩
theorem dX4_addsHouse_41 : mx_at cX4_addsHouse 41 (.iconst 0) 1 42 := ⟨by decide +kernel, rfl⟩
theorem dX4_addsHouse_42 : mx_at cX4_addsHouse 42 (.istore_n 2) 1 43 := ⟨by decide +kernel, rfl⟩
theorem dX4_addsHouse_43 : mx_at cX4_addsHouse 43 (.iload_n 2) 1 44 := ⟨by decide +kernel, rfl⟩
theorem dX4_addsHouse_44 : mx_at cX4_addsHouse 44 (.iconst 4) 1 45 := ⟨by decide +kernel, rfl⟩
theorem dX4_addsHouse_45 : mx_br cX4_addsHouse 45 (.if_icmp .ge 25) (25) 3 48 70 := ⟨by decide +kernel, rfl, by decide⟩
theorem dX4_addsHouse_48 : mx_at cX4_addsHouse 48 (.aload_n 0) 1 49 := ⟨by decide +kernel, rfl⟩
theorem dX4_addsHouse_49 : mx_at cX4_addsHouse 49 (.getfield 9) 3 52 := ⟨by decide +kernel, rfl⟩
theorem dX4_addsHouse_52 : mx_at cX4_addsHouse 52 (.iload_n 1) 1 53 := ⟨by decide +kernel, rfl⟩
theorem dX4_addsHouse_53 : mx_at cX4_addsHouse 53 (.iload_n 2) 1 54 := ⟨by decide +kernel, rfl⟩
theorem dX4_addsHouse_54 : mx_at cX4_addsHouse 54 (.invokestatic 44) 3 57 := ⟨by decide +kernel, rfl⟩
theorem dX4_addsHouse_57 : mx_at cX4_addsHouse 57 (.aload_n 0) 1 58 := ⟨by decide +kernel, rfl⟩
theorem dX4_addsHouse_58 : mx_at cX4_addsHouse 58 (.getfield 31) 3 61 := ⟨by decide +kernel, rfl⟩
theorem dX4_addsHouse_61 : mx_at cX4_addsHouse 61 (.iload_n 2) 1 62 := ⟨by decide +kernel, rfl⟩
theorem dX4_addsHouse_62 : mx_at cX4_addsHouse 62 (.iaload) 1 63 := ⟨by decide +kernel, rfl⟩
theorem dX4_addsHouse_63 : mx_at cX4_addsHouse 63 (.iastore) 1 64 := ⟨by decide +kernel, rfl⟩
theorem dX4_addsHouse_64 : mx_at cX4_addsHouse 64 (.iinc 2 1) 3 67 := ⟨by decide +kernel, rfl⟩
theorem dX4_addsHouse_67 : mx_br cX4_addsHouse 67 (.goto (-24)) (-24) 3 70 43 := ⟨by decide +kernel, rfl, by decide⟩
theorem dX4_addsHouse_70 : mx_at cX4_addsHouse 70 (.aload_n 0) 1 71 := ⟨by decide +kernel, rfl⟩
theorem dX4_addsHouse_71 : mx_at cX4_addsHouse 71 (.getfield 9) 3 74 := ⟨by decide +kernel, rfl⟩
theorem dX4_addsHouse_74 : mx_at cX4_addsHouse 74 (.iload_n 1) 1 75 := ⟨by decide +kernel, rfl⟩
theorem dX4_addsHouse_75 : mx_at cX4_addsHouse 75 (.iconst 4) 1 76 := ⟨by decide +kernel, rfl⟩
theorem dX4_addsHouse_76 : mx_at cX4_addsHouse 76 (.invokestatic 44) 3 79 := ⟨by decide +kernel, rfl⟩
theorem dX4_addsHouse_79 : mx_at cX4_addsHouse 79 (.iconst 0) 1 80 := ⟨by decide +kernel, rfl⟩
theorem dX4_addsHouse_80 : mx_at cX4_addsHouse 80 (.iastore) 1 81 := ⟨by decide +kernel, rfl⟩
theorem dX4_addsHouse_81 : mx_at cX4_addsHouse 81 (.aload_n 0) 1 82 := ⟨by decide +kernel, rfl⟩
theorem dX4_addsHouse_82 : mx_at cX4_addsHouse 82 (.getfield 9) 3 85 := ⟨by decide +kernel, rfl⟩
theorem dX4_addsHouse_85 : mx_at cX4_addsHouse 85 (.iload_n 1) 1 86 := ⟨by decide +kernel, rfl⟩
theorem dX4_addsHouse_86 : mx_at cX4_addsHouse 86 (.iconst 5) 1 87 := ⟨by decide +kernel, rfl⟩
theorem dX4_addsHouse_87 : mx_at cX4_addsHouse 87 (.invokestatic 44) 3 90 := ⟨by decide +kernel, rfl⟩
theorem dX4_addsHouse_90 : mx_at cX4_addsHouse 90 (.iconst 0) 1 91 := ⟨by decide +kernel, rfl⟩
theorem dX4_addsHouse_91 : mx_at cX4_addsHouse 91 (.iastore) 1 92 := ⟨by decide +kernel, rfl⟩
theorem dX4_addsHouse_92 : mx_at cX4_addsHouse 92 (.aload_n 0) 1 93 := ⟨by decide +kernel, rfl⟩
theorem dX4_addsHouse_93 : mx_at cX4_addsHouse 93 (.getfield 9) 3 96 := ⟨by decide +kernel, rfl⟩
theorem dX4_addsHouse_96 : mx_at cX4_addsHouse 96 (.iconst 4) 1 97 := ⟨by decide +kernel, rfl⟩
theorem dX4_addsHouse_97 : mx_at cX4_addsHouse 97 (.dup2) 1 98 := ⟨by decide +kernel, rfl⟩
theorem dX4_addsHouse_98 : mx_at cX4_addsHouse 98 (.iaload) 1 99 := ⟨by decide +kernel, rfl⟩
theorem dX4_addsHouse_99 : mx_at cX4_addsHouse 99 (.iconst 1) 1 100 := ⟨by decide +kernel, rfl⟩
theorem dX4_addsHouse_100 : mx_at cX4_addsHouse 100 (.iload_n 1) 1 101 := ⟨by decide +kernel, rfl⟩
theorem dX4_addsHouse_101 : mx_at cX4_addsHouse 101 (.ishl) 1 102 := ⟨by decide +kernel, rfl⟩
theorem dX4_addsHouse_102 : mx_at cX4_addsHouse 102 (.ior) 1 103 := ⟨by decide +kernel, rfl⟩
theorem dX4_addsHouse_103 : mx_at cX4_addsHouse 103 (.iastore) 1 104 := ⟨by decide +kernel, rfl⟩
theorem dX4_addsHouse_104 : mx_at cX4_addsHouse 104 (.aload_n 0) 1 105 := ⟨by decide +kernel, rfl⟩
theorem dX4_addsHouse_105 : mx_at cX4_addsHouse 105 (.getfield 9) 3 108 := ⟨by decide +kernel, rfl⟩
theorem dX4_addsHouse_108 : mx_at cX4_addsHouse 108 (.iconst 0) 1 109 := ⟨by decide +kernel, rfl⟩
theorem dX4_addsHouse_109 : mx_at cX4_addsHouse 109 (.dup2) 1 110 := ⟨by decide +kernel, rfl⟩
theorem dX4_addsHouse_110 : mx_at cX4_addsHouse 110 (.iaload) 1 111 := ⟨by decide +kernel, rfl⟩
theorem dX4_addsHouse_111 : mx_at cX4_addsHouse 111 (.iconst 1) 1 112 := ⟨by decide +kernel, rfl⟩
theorem dX4_addsHouse_112 : mx_at cX4_addsHouse 112 (.iadd) 1 113 := ⟨by decide +kernel, rfl⟩
theorem dX4_addsHouse_113 : mx_at cX4_addsHouse 113 (.iastore) 1 114 := ⟨by decide +kernel, rfl⟩
theorem dX4_addsHouse_114 : mx_at cX4_addsHouse 114 (.iconst 1) 1 115 := ⟨by decide +kernel, rfl⟩
theorem dX4_addsHouse_115 : mx_at cX4_addsHouse 115 (.ireturn) 1 116 := ⟨by decide +kernel, rfl⟩
theorem dX4_isDone_0 : mx_at cX4_isDone 0 (.aload_n 0) 1 1 := ⟨by decide +kernel, rfl⟩
theorem dX4_isDone_1 : mx_at cX4_isDone 1 (.getfield 31) 3 4 := ⟨by decide +kernel, rfl⟩
theorem dX4_isDone_4 : mx_at cX4_isDone 4 (.iconst 0) 1 5 := ⟨by decide +kernel, rfl⟩
theorem dX4_isDone_5 : mx_at cX4_isDone 5 (.iaload) 1 6 := ⟨by decide +kernel, rfl⟩
theorem dX4_isDone_6 : mx_at cX4_isDone 6 (.istore_n 2) 1 7 := ⟨by decide +kernel, rfl⟩
theorem dX4_isDone_7 : mx_at cX4_isDone 7 (.aload_n 0) 1 8 := ⟨by decide +kernel, rfl⟩
theorem dX4_isDone_8 : mx_at cX4_isDone 8 (.getfield 31) 3 11 := ⟨by decide +kernel, rfl⟩
theorem dX4_isDone_11 : mx_at cX4_isDone 11 (.iconst 1) 1 12 := ⟨by decide +kernel, rfl⟩
theorem dX4_isDone_12 : mx_at cX4_isDone 12 (.iaload) 1 13 := ⟨by decide +kernel, rfl⟩
theorem dX4_isDone_13 : mx_at cX4_isDone 13 (.istore_n 3) 1 14 := ⟨by decide +kernel, rfl⟩
theorem dX4_isDone_14 : mx_at cX4_isDone 14 (.iload_n 1) 1 15 := ⟨by decide +kernel, rfl⟩
theorem dX4_isDone_15 : decode cX4_isDone 15 = .ok (.lookupswitch 164 #[(99, 155), (100, 62), (104, 57), (105, 136), (112, 62), (120, 112)], 57) := by decide +kernel
theorem dX4_isDone_72 : mx_at cX4_isDone 72 (.aload_n 0) 1 73 := ⟨by decide +kernel, rfl⟩
theorem dX4_isDone_73 : mx_at cX4_isDone 73 (.invokevirtual 108) 3 76 := ⟨by decide +kernel, rfl⟩
theorem dX4_isDone_76 : mx_at cX4_isDone 76 (.ireturn) 1 77 := ⟨by decide +kernel, rfl⟩
theorem dX4_isDone_77 : mx_at cX4_isDone 77 (.aload_n 0) 1 78 := ⟨by decide +kernel, rfl⟩
theorem dX4_isDone_78 : mx_at cX4_isDone 78 (.iload_n 2) 1 79 := ⟨by decide +kernel, rfl⟩
theorem dX4_isDone_79 : mx_at cX4_isDone 79 (.invokevirtual 111) 3 82 := ⟨by decide +kernel, rfl⟩
theorem dX4_isDone_82 : mx_br cX4_isDone 82 (.ifCond .eq 20) (20) 3 85 102 := ⟨by decide +kernel, rfl, by decide⟩
theorem dX4_isDone_85 : mx_at cX4_isDone 85 (.iload_n 3) 1 86 := ⟨by decide +kernel, rfl⟩
theorem dX4_isDone_86 : mx_at cX4_isDone 86 (.iload_n 1) 1 87 := ⟨by decide +kernel, rfl⟩
theorem dX4_isDone_87 : mx_at cX4_isDone 87 (.bipush 112) 2 89 := ⟨by decide +kernel, rfl⟩
theorem dX4_isDone_89 : mx_br cX4_isDone 89 (.if_icmp .ne 8) (8) 3 92 97 := ⟨by decide +kernel, rfl, by decide⟩
theorem dX4_isDone_92 : mx_at cX4_isDone 92 (.bipush 30) 2 94 := ⟨by decide +kernel, rfl⟩
theorem dX4_isDone_94 : mx_br cX4_isDone 94 (.goto 5) (5) 3 97 99 := ⟨by decide +kernel, rfl, by decide⟩
theorem dX4_isDone_97 : mx_at cX4_isDone 97 (.bipush 20) 2 99 := ⟨by decide +kernel, rfl⟩
theorem dX4_isDone_99 : mx_br cX4_isDone 99 (.if_icmp .le 5) (5) 3 102 104 := ⟨by decide +kernel, rfl, by decide⟩
theorem dX4_isDone_102 : mx_at cX4_isDone 102 (.iconst 0) 1 103 := ⟨by decide +kernel, rfl⟩
theorem dX4_isDone_103 : mx_at cX4_isDone 103 (.ireturn) 1 104 := ⟨by decide +kernel, rfl⟩
theorem dX4_isDone_104 : mx_at cX4_isDone 104 (.aload_n 0) 1 105 := ⟨by decide +kernel, rfl⟩
theorem dX4_isDone_105 : mx_at cX4_isDone 105 (.getfield 9) 3 108 := ⟨by decide +kernel, rfl⟩
theorem dX4_isDone_108 : mx_at cX4_isDone 108 (.iload_n 2) 1 109 := ⟨by decide +kernel, rfl⟩
theorem dX4_isDone_109 : mx_at cX4_isDone 109 (.iload_n 1) 1 110 := ⟨by decide +kernel, rfl⟩
theorem dX4_isDone_110 : mx_at cX4_isDone 110 (.bipush 112) 2 112 := ⟨by decide +kernel, rfl⟩
theorem dX4_isDone_112 : mx_br cX4_isDone 112 (.if_icmp .ne 7) (7) 3 115 119 := ⟨by decide +kernel, rfl, by decide⟩
theorem dX4_isDone_115 : mx_at cX4_isDone 115 (.iconst 3) 1 116 := ⟨by decide +kernel, rfl⟩
theorem dX4_isDone_116 : mx_br cX4_isDone 116 (.goto 4) (4) 3 119 120 := ⟨by decide +kernel, rfl, by decide⟩
theorem dX4_isDone_119 : mx_at cX4_isDone 119 (.iconst 4) 1 120 := ⟨by decide +kernel, rfl⟩
theorem dX4_isDone_120 : mx_at cX4_isDone 120 (.invokestatic 44) 3 123 := ⟨by decide +kernel, rfl⟩
theorem dX4_isDone_123 : mx_at cX4_isDone 123 (.iload_n 3) 1 124 := ⟨by decide +kernel, rfl⟩
theorem dX4_isDone_124 : mx_at cX4_isDone 124 (.iastore) 1 125 := ⟨by decide +kernel, rfl⟩
theorem dX4_isDone_125 : mx_at cX4_isDone 125 (.iconst 1) 1 126 := ⟨by decide +kernel, rfl⟩
theorem dX4_isDone_126 : mx_at cX4_isDone 126 (.ireturn) 1 127 := ⟨by decide +kernel, rfl⟩
theorem dX4_isDone_127 : mx_at cX4_isDone 127 (.aload_n 0) 1 128 := ⟨by decide +kernel, rfl⟩
theorem dX4_isDone_128 : mx_at cX4_isDone 128 (.iload_n 2) 1 129 := ⟨by decide +kernel, rfl⟩
theorem dX4_isDone_129 : mx_at cX4_isDone 129 (.invokevirtual 111) 3 132 := ⟨by decide +kernel, rfl⟩
theorem dX4_isDone_132 : mx_br cX4_isDone 132 (.ifCond .ne 5) (5) 3 135 137 := ⟨by decide +kernel, rfl, by decide⟩
theorem dX4_isDone_135 : mx_at cX4_isDone 135 (.iconst 0) 1 136 := ⟨by decide +kernel, rfl⟩
theorem dX4_isDone_136 : mx_at cX4_isDone 136 (.ireturn) 1 137 := ⟨by decide +kernel, rfl⟩
theorem dX4_isDone_137 : mx_at cX4_isDone 137 (.aload_n 0) 1 138 := ⟨by decide +kernel, rfl⟩
theorem dX4_isDone_138 : mx_at cX4_isDone 138 (.getfield 9) 3 141 := ⟨by decide +kernel, rfl⟩
theorem dX4_isDone_141 : mx_at cX4_isDone 141 (.iconst 4) 1 142 := ⟨by decide +kernel, rfl⟩
theorem dX4_isDone_142 : mx_at cX4_isDone 142 (.dup2) 1 143 := ⟨by decide +kernel, rfl⟩
theorem dX4_isDone_143 : mx_at cX4_isDone 143 (.iaload) 1 144 := ⟨by decide +kernel, rfl⟩
theorem dX4_isDone_144 : mx_at cX4_isDone 144 (.iconst 1) 1 145 := ⟨by decide +kernel, rfl⟩
theorem dX4_isDone_145 : mx_at cX4_isDone 145 (.iload_n 2) 1 146 := ⟨by decide +kernel, rfl⟩
theorem dX4_isDone_146 : mx_at cX4_isDone 146 (.ishl) 1 147 := ⟨by decide +kernel, rfl⟩
theorem dX4_isDone_147 : mx_at cX4_isDone 147 (.ixor) 1 148 := ⟨by decide +kernel, rfl⟩
theorem dX4_isDone_148 : mx_at cX4_isDone 148 (.iastore) 1 149 := ⟨by decide +kernel, rfl⟩
theorem dX4_isDone_149 : mx_at cX4_isDone 149 (.iconst 1) 1 150 := ⟨by decide +kernel, rfl⟩
theorem dX4_isDone_150 : mx_at cX4_isDone 150 (.ireturn) 1 151 := ⟨by decide +kernel, rfl⟩
theorem dX4_isDone_151 : mx_at cX4_isDone 151 (.aload_n 0) 1 152 := ⟨by decide +kernel, rfl⟩
theorem dX4_isDone_152 : mx_at cX4_isDone 152 (.iload_n 2) 1 153 := ⟨by decide +kernel, rfl⟩
theorem dX4_isDone_153 : mx_at cX4_isDone 153 (.invokevirtual 111) 3 156 := ⟨by decide +kernel, rfl⟩
theorem dX4_isDone_156 : mx_br cX4_isDone 156 (.ifCond .ne 5) (5) 3 159 161 := ⟨by decide +kernel, rfl, by decide⟩
theorem dX4_isDone_159 : mx_at cX4_isDone 159 (.iconst 0) 1 160 := ⟨by decide +kernel, rfl⟩
theorem dX4_isDone_160 : mx_at cX4_isDone 160 (.ireturn) 1 161 := ⟨by decide +kernel, rfl⟩
theorem dX4_isDone_161 : mx_at cX4_isDone 161 (.aload_n 0) 1 162 := ⟨by decide +kernel, rfl⟩
theorem dX4_isDone_162 : mx_at cX4_isDone 162 (.getfield 9) 3 165 := ⟨by decide +kernel, rfl⟩
theorem dX4_isDone_165 : mx_at cX4_isDone 165 (.iconst 2) 1 166 := ⟨by decide +kernel, rfl⟩
theorem dX4_isDone_166 : mx_at cX4_isDone 166 (.iload_n 2) 1 167 := ⟨by decide +kernel, rfl⟩
theorem dX4_isDone_167 : mx_at cX4_isDone 167 (.iastore) 1 168 := ⟨by decide +kernel, rfl⟩
theorem dX4_isDone_168 : mx_at cX4_isDone 168 (.iconst 1) 1 169 := ⟨by decide +kernel, rfl⟩
theorem dX4_isDone_169 : mx_at cX4_isDone 169 (.ireturn) 1 170 := ⟨by decide +kernel, rfl⟩
theorem dX4_isDone_170 : mx_at cX4_isDone 170 (.aload_n 0) 1 171 := ⟨by decide +kernel, rfl⟩
theorem dX4_isDone_171 : mx_at cX4_isDone 171 (.getfield 9) 3 174 := ⟨by decide +kernel, rfl⟩
theorem dX4_isDone_174 : mx_at cX4_isDone 174 (.iconst 3) 1 175 := ⟨by decide +kernel, rfl⟩
theorem dX4_isDone_175 : mx_at cX4_isDone 175 (.iload_n 2) 1 176 := ⟨by decide +kernel, rfl⟩
theorem dX4_isDone_176 : mx_at cX4_isDone 176 (.iastore) 1 177 := ⟨by decide +kernel, rfl⟩
theorem dX4_isDone_177 : mx_at cX4_isDone 177 (.iconst 1) 1 178 := ⟨by decide +kernel, rfl⟩
theorem dX4_isDone_178 : mx_at cX4_isDone 178 (.ireturn) 1 179 := ⟨by decide +kernel, rfl⟩
theorem dX4_isDone_179 : mx_at cX4_isDone 179 (.iload_n 2) 1 180 := ⟨by decide +kernel, rfl⟩
theorem dX4_isDone_180 : mx_at cX4_isDone 180 (.iconst 1) 1 181 := ⟨by decide +kernel, rfl⟩
theorem dX4_isDone_181 : mx_at cX4_isDone 181 (.bipush 60) 2 183 := ⟨by decide +kernel, rfl⟩
theorem dX4_isDone_183 : mx_at cX4_isDone 183 (.invokestatic 40) 3 186 := ⟨by decide +kernel, rfl⟩
theorem dX4_isDone_186 : mx_br cX4_isDone 186 (.ifCond .eq 17) (17) 3 189 203 := ⟨by decide +kernel, rfl, by decide⟩
theorem dX4_isDone_189 : mx_at cX4_isDone 189 (.aload_n 0) 1 190 := ⟨by decide +kernel, rfl⟩
theorem dX4_isDone_190 : mx_at cX4_isDone 190 (.getfield 9) 3 193 := ⟨by decide +kernel, rfl⟩
theorem dX4_isDone_193 : mx_at cX4_isDone 193 (.iconst 1) 1 194 := ⟨by decide +kernel, rfl⟩
theorem dX4_isDone_194 : mx_at cX4_isDone 194 (.iaload) 1 195 := ⟨by decide +kernel, rfl⟩
theorem dX4_isDone_195 : mx_at cX4_isDone 195 (.iload_n 2) 1 196 := ⟨by decide +kernel, rfl⟩
theorem dX4_isDone_196 : mx_at cX4_isDone 196 (.iadd) 1 197 := ⟨by decide +kernel, rfl⟩
theorem dX4_isDone_197 : mx_at cX4_isDone 197 (.sipush 999) 3 200 := ⟨by decide +kernel, rfl⟩
theorem dX4_isDone_200 : mx_br cX4_isDone 200 (.if_icmp .le 5) (5) 3 203 205 := ⟨by decide +kernel, rfl, by decide⟩
theorem dX4_isDone_203 : mx_at cX4_isDone 203 (.iconst 0) 1 204 := ⟨by decide +kernel, rfl⟩
theorem dX4_isDone_204 : mx_at cX4_isDone 204 (.ireturn) 1 205 := ⟨by decide +kernel, rfl⟩
theorem dX4_isDone_205 : mx_at cX4_isDone 205 (.aload_n 0) 1 206 := ⟨by decide +kernel, rfl⟩
theorem dX4_isDone_206 : mx_at cX4_isDone 206 (.getfield 9) 3 209 := ⟨by decide +kernel, rfl⟩
theorem dX4_isDone_209 : mx_at cX4_isDone 209 (.iload_n 2) 1 210 := ⟨by decide +kernel, rfl⟩
theorem dX4_isDone_210 : mx_at cX4_isDone 210 (.invokestatic 115) 3 213 := ⟨by decide +kernel, rfl⟩
theorem dX4_isDone_213 : mx_at cX4_isDone 213 (.iconst 1) 1 214 := ⟨by decide +kernel, rfl⟩
theorem dX4_isDone_214 : mx_at cX4_isDone 214 (.ireturn) 1 215 := ⟨by decide +kernel, rfl⟩
theorem dX4_town_0 : mx_at cX4_town 0 (.aload_n 0) 1 1 := ⟨by decide +kernel, rfl⟩
theorem dX4_town_1 : mx_at cX4_town 1 (.iconst 0) 1 2 := ⟨by decide +kernel, rfl⟩
theorem dX4_town_2 : mx_at cX4_town 2 (.putfield 91) 3 5 := ⟨by decide +kernel, rfl⟩
theorem dX4_town_5 : mx_at cX4_town 5 (.iconst 0) 1 6 := ⟨by decide +kernel, rfl⟩
theorem dX4_town_6 : mx_at cX4_town 6 (.istore_n 1) 1 7 := ⟨by decide +kernel, rfl⟩
theorem dX4_town_7 : mx_at cX4_town 7 (.bipush (-9)) 2 9 := ⟨by decide +kernel, rfl⟩
theorem dX4_town_9 : mx_at cX4_town 9 (.istore_n 2) 1 10 := ⟨by decide +kernel, rfl⟩
theorem dX4_town_10 : mx_at cX4_town 10 (.aload_n 0) 1 11 := ⟨by decide +kernel, rfl⟩
theorem dX4_town_11 : mx_at cX4_town 11 (.invokevirtual 118) 3 14 := ⟨by decide +kernel, rfl⟩
theorem dX4_town_14 : mx_br cX4_town 14 (.ifCond .ne 12) (12) 3 17 26 := ⟨by decide +kernel, rfl, by decide⟩
theorem dX4_town_17 : mx_at cX4_town 17 (.sipush (-1000)) 3 20 := ⟨by decide +kernel, rfl⟩
theorem dX4_town_20 : mx_at cX4_town 20 (.aload_n 0) 1 21 := ⟨by decide +kernel, rfl⟩
theorem dX4_town_21 : mx_at cX4_town 21 (.getfield 91) 3 24 := ⟨by decide +kernel, rfl⟩
theorem dX4_town_24 : mx_at cX4_town 24 (.isub) 1 25 := ⟨by decide +kernel, rfl⟩
theorem dX4_town_25 : mx_at cX4_town 25 (.istore_n 2) 1 26 := ⟨by decide +kernel, rfl⟩
theorem dX4_town_26 : mx_at cX4_town 26 (.iinc 1 1) 3 29 := ⟨by decide +kernel, rfl⟩
theorem dX4_town_29 : mx_at cX4_town 29 (.iload_n 2) 1 30 := ⟨by decide +kernel, rfl⟩
theorem dX4_town_30 : mx_at cX4_town 30 (.bipush (-9)) 2 32 := ⟨by decide +kernel, rfl⟩
theorem dX4_town_32 : mx_br cX4_town 32 (.if_icmp .ne 14) (14) 3 35 46 := ⟨by decide +kernel, rfl, by decide⟩
theorem dX4_town_35 : mx_at cX4_town 35 (.aload_n 0) 1 36 := ⟨by decide +kernel, rfl⟩
theorem dX4_town_36 : mx_at cX4_town 36 (.getfield 91) 3 39 := ⟨by decide +kernel, rfl⟩
theorem dX4_town_39 : mx_at cX4_town 39 (.aload_n 0) 1 40 := ⟨by decide +kernel, rfl⟩
theorem dX4_town_40 : mx_at cX4_town 40 (.getfield 87) 3 43 := ⟨by decide +kernel, rfl⟩
theorem dX4_town_43 : mx_br cX4_town 43 (.if_icmp .lt (-33)) (-33) 3 46 10 := ⟨by decide +kernel, rfl, by decide⟩
theorem dX4_town_46 : mx_at cX4_town 46 (.aload_n 0) 1 47 := ⟨by decide +kernel, rfl⟩
theorem dX4_town_47 : mx_at cX4_town 47 (.getfield 9) 3 50 := ⟨by decide +kernel, rfl⟩
theorem dX4_town_50 : mx_at cX4_town 50 (.aload_n 0) 1 51 := ⟨by decide +kernel, rfl⟩
theorem dX4_town_51 : mx_at cX4_town 51 (.getfield 19) 3 54 := ⟨by decide +kernel, rfl⟩
theorem dX4_town_54 : mx_at cX4_town 54 (.invokestatic 121) 3 57 := ⟨by decide +kernel, rfl⟩
theorem dX4_town_57 : mx_at cX4_town 57 (.aload_n 0) 1 58 := ⟨by decide +kernel, rfl⟩
theorem dX4_town_58 : mx_at cX4_town 58 (.iconst 0) 1 59 := ⟨by decide +kernel, rfl⟩
theorem dX4_town_59 : mx_at cX4_town 59 (.putfield 91) 3 62 := ⟨by decide +kernel, rfl⟩
theorem dX4_town_62 : mx_at cX4_town 62 (.iload_n 2) 1 63 := ⟨by decide +kernel, rfl⟩
theorem dX4_town_63 : mx_at cX4_town 63 (.bipush (-9)) 2 65 := ⟨by decide +kernel, rfl⟩
theorem dX4_town_65 : mx_br cX4_town 65 (.if_icmp .ne 63) (63) 3 68 128 := ⟨by decide +kernel, rfl, by decide⟩
theorem dX4_town_68 : mx_at cX4_town 68 (.aload_n 0) 1 69 := ⟨by decide +kernel, rfl⟩
theorem dX4_town_69 : mx_at cX4_town 69 (.getfield 91) 3 72 := ⟨by decide +kernel, rfl⟩
theorem dX4_town_72 : mx_at cX4_town 72 (.aload_n 0) 1 73 := ⟨by decide +kernel, rfl⟩
theorem dX4_town_73 : mx_at cX4_town 73 (.getfield 87) 3 76 := ⟨by decide +kernel, rfl⟩
theorem dX4_town_76 : mx_br cX4_town 76 (.if_icmp .ge 52) (52) 3 79 128 := ⟨by decide +kernel, rfl, by decide⟩
theorem dX4_town_79 : mx_at cX4_town 79 (.aload_n 0) 1 80 := ⟨by decide +kernel, rfl⟩
theorem dX4_town_80 : mx_at cX4_town 80 (.getfield 91) 3 83 := ⟨by decide +kernel, rfl⟩
theorem dX4_town_83 : mx_at cX4_town 83 (.istore_n 3) 1 84 := ⟨by decide +kernel, rfl⟩
theorem dX4_town_84 : mx_at cX4_town 84 (.aload_n 0) 1 85 := ⟨by decide +kernel, rfl⟩
theorem dX4_town_85 : mx_at cX4_town 85 (.invokevirtual 94) 3 88 := ⟨by decide +kernel, rfl⟩
theorem dX4_town_88 : mx_at cX4_town 88 (.istore 4) 2 90 := ⟨by decide +kernel, rfl⟩
theorem dX4_town_90 : mx_at cX4_town 90 (.aload_n 0) 1 91 := ⟨by decide +kernel, rfl⟩
theorem dX4_town_91 : mx_at cX4_town 91 (.invokevirtual 118) 3 94 := ⟨by decide +kernel, rfl⟩
theorem dX4_town_94 : mx_at cX4_town 94 (.istore 5) 2 96 := ⟨by decide +kernel, rfl⟩
theorem dX4_town_96 : mx_at cX4_town 96 (.aload_n 0) 1 97 := ⟨by decide +kernel, rfl⟩
theorem dX4_town_97 : mx_at cX4_town 97 (.iload 4) 2 99 := ⟨by decide +kernel, rfl⟩
theorem dX4_town_99 : mx_at cX4_town 99 (.invokevirtual 125) 3 102 := ⟨by decide +kernel, rfl⟩
theorem dX4_town_102 : mx_br cX4_town 102 (.ifCond .eq 6) (6) 3 105 108 := ⟨by decide +kernel, rfl, by decide⟩
theorem dX4_town_105 : mx_br cX4_town 105 (.goto (-43)) (-43) 3 108 62 := ⟨by decide +kernel, rfl, by decide⟩
theorem dX4_town_108 : mx_at cX4_town 108 (.sipush (-2000)) 3 111 := ⟨by decide +kernel, rfl⟩
theorem dX4_town_111 : mx_at cX4_town 111 (.iload_n 3) 1 112 := ⟨by decide +kernel, rfl⟩
theorem dX4_town_112 : mx_at cX4_town 112 (.isub) 1 113 := ⟨by decide +kernel, rfl⟩
theorem dX4_town_113 : mx_at cX4_town 113 (.istore_n 2) 1 114 := ⟨by decide +kernel, rfl⟩
theorem dX4_town_114 : mx_at cX4_town 114 (.aload_n 0) 1 115 := ⟨by decide +kernel, rfl⟩
theorem dX4_town_115 : mx_at cX4_town 115 (.getfield 19) 3 118 := ⟨by decide +kernel, rfl⟩
theorem dX4_town_118 : mx_at cX4_town 118 (.aload_n 0) 1 119 := ⟨by decide +kernel, rfl⟩
theorem dX4_town_119 : mx_at cX4_town 119 (.getfield 9) 3 122 := ⟨by decide +kernel, rfl⟩
theorem dX4_town_122 : mx_at cX4_town 122 (.invokestatic 121) 3 125 := ⟨by decide +kernel, rfl⟩
theorem dX4_town_125 : mx_br cX4_town 125 (.goto (-63)) (-63) 3 128 62 := ⟨by decide +kernel, rfl, by decide⟩
theorem dX4_town_128 : mx_at cX4_town 128 (.aload_n 0) 1 129 := ⟨by decide +kernel, rfl⟩
theorem dX4_town_129 : mx_at cX4_town 129 (.iconst 0) 1 130 := ⟨by decide +kernel, rfl⟩
theorem dX4_town_130 : mx_at cX4_town 130 (.putfield 87) 3 133 := ⟨by decide +kernel, rfl⟩
theorem dX4_town_133 : mx_at cX4_town 133 (.iload_n 2) 1 134 := ⟨by decide +kernel, rfl⟩
theorem dX4_town_134 : mx_at cX4_town 134 (.bipush (-9)) 2 136 := ⟨by decide +kernel, rfl⟩
theorem dX4_town_136 : mx_br cX4_town 136 (.if_icmp .ne 7) (7) 3 139 143 := ⟨by decide +kernel, rfl, by decide⟩
theorem dX4_town_139 : mx_at cX4_town 139 (.iload_n 1) 1 140 := ⟨by decide +kernel, rfl⟩
theorem dX4_town_140 : mx_br cX4_town 140 (.goto 4) (4) 3 143 144 := ⟨by decide +kernel, rfl, by decide⟩
theorem dX4_town_143 : mx_at cX4_town 143 (.iload_n 2) 1 144 := ⟨by decide +kernel, rfl⟩
theorem dX4_town_144 : mx_at cX4_town 144 (.ireturn) 1 145 := ⟨by decide +kernel, rfl⟩
theorem dX4_house_0 : mx_at cX4_house 0 (.aload_n 0) 1 1 := ⟨by decide +kernel, rfl⟩
theorem dX4_house_1 : mx_at cX4_house 1 (.iload_n 1) 1 2 := ⟨by decide +kernel, rfl⟩
theorem dX4_house_2 : mx_at cX4_house 2 (.invokevirtual 111) 3 5 := ⟨by decide +kernel, rfl⟩
theorem dX4_house_5 : mx_br cX4_house 5 (.ifCond .ne 9) (9) 3 8 14 := ⟨by decide +kernel, rfl, by decide⟩
theorem dX4_house_8 : mx_at cX4_house 8 (.aload_n 0) 1 9 := ⟨by decide +kernel, rfl⟩
theorem dX4_house_9 : mx_at cX4_house 9 (.iconst (-1)) 1 10 := ⟨by decide +kernel, rfl⟩
theorem dX4_house_10 : mx_at cX4_house 10 (.invokevirtual 36) 3 13 := ⟨by decide +kernel, rfl⟩
theorem dX4_house_13 : mx_at cX4_house 13 (.ireturn) 1 14 := ⟨by decide +kernel, rfl⟩
theorem dX4_house_14 : mx_at cX4_house 14 (.iload_n 2) 1 15 := ⟨by decide +kernel, rfl⟩
theorem dX4_house_15 : mx_at cX4_house 15 (.iconst 0) 1 16 := ⟨by decide +kernel, rfl⟩
theorem dX4_house_16 : mx_at cX4_house 16 (.iconst 5) 1 17 := ⟨by decide +kernel, rfl⟩
theorem dX4_house_17 : mx_at cX4_house 17 (.invokestatic 40) 3 20 := ⟨by decide +kernel, rfl⟩
theorem dX4_house_20 : mx_br cX4_house 20 (.ifCond .eq 14) (14) 3 23 34 := ⟨by decide +kernel, rfl, by decide⟩
theorem dX4_house_23 : mx_at cX4_house 23 (.aload_n 0) 1 24 := ⟨by decide +kernel, rfl⟩
theorem dX4_house_24 : mx_at cX4_house 24 (.getfield 9) 3 27 := ⟨by decide +kernel, rfl⟩
theorem dX4_house_27 : mx_at cX4_house 27 (.iload_n 1) 1 28 := ⟨by decide +kernel, rfl⟩
theorem dX4_house_28 : mx_at cX4_house 28 (.iload_n 2) 1 29 := ⟨by decide +kernel, rfl⟩
theorem dX4_house_29 : mx_at cX4_house 29 (.invokestatic 44) 3 32 := ⟨by decide +kernel, rfl⟩
theorem dX4_house_32 : mx_at cX4_house 32 (.iaload) 1 33 := ⟨by decide +kernel, rfl⟩
theorem dX4_house_33 : mx_at cX4_house 33 (.ireturn) 1 34 := ⟨by decide +kernel, rfl⟩
theorem dX4_house_34 : mx_at cX4_house 34 (.iload_n 2) 1 35 := ⟨by decide +kernel, rfl⟩
theorem dX4_house_35 : decode cX4_house 35 = .ok (.tableswitch 62 6 8 #[25, 36, 45], 25) := by decide +kernel
theorem dX4_house_60 : mx_at cX4_house 60 (.aload_n 0) 1 61 := ⟨by decide +kernel, rfl⟩
theorem dX4_house_61 : mx_at cX4_house 61 (.getfield 9) 3 64 := ⟨by decide +kernel, rfl⟩
theorem dX4_house_64 : mx_at cX4_house 64 (.iconst 4) 1 65 := ⟨by decide +kernel, rfl⟩
theorem dX4_house_65 : mx_at cX4_house 65 (.iaload) 1 66 := ⟨by decide +kernel, rfl⟩
theorem dX4_house_66 : mx_at cX4_house 66 (.iload_n 1) 1 67 := ⟨by decide +kernel, rfl⟩
theorem dX4_house_67 : mx_at cX4_house 67 (.ishr) 1 68 := ⟨by decide +kernel, rfl⟩
theorem dX4_house_68 : mx_at cX4_house 68 (.iconst 1) 1 69 := ⟨by decide +kernel, rfl⟩
theorem dX4_house_69 : mx_at cX4_house 69 (.iand) 1 70 := ⟨by decide +kernel, rfl⟩
theorem dX4_house_70 : mx_at cX4_house 70 (.ireturn) 1 71 := ⟨by decide +kernel, rfl⟩
theorem dX4_house_71 : mx_at cX4_house 71 (.aload_n 0) 1 72 := ⟨by decide +kernel, rfl⟩
theorem dX4_house_72 : mx_at cX4_house 72 (.getfield 9) 3 75 := ⟨by decide +kernel, rfl⟩
theorem dX4_house_75 : mx_at cX4_house 75 (.iload_n 1) 1 76 := ⟨by decide +kernel, rfl⟩
theorem dX4_house_76 : mx_at cX4_house 76 (.invokestatic 52) 3 79 := ⟨by decide +kernel, rfl⟩
theorem dX4_house_79 : mx_at cX4_house 79 (.ireturn) 1 80 := ⟨by decide +kernel, rfl⟩
theorem dX4_house_80 : mx_at cX4_house 80 (.aload_n 0) 1 81 := ⟨by decide +kernel, rfl⟩
theorem dX4_house_81 : mx_at cX4_house 81 (.getfield 9) 3 84 := ⟨by decide +kernel, rfl⟩
theorem dX4_house_84 : mx_at cX4_house 84 (.iload_n 1) 1 85 := ⟨by decide +kernel, rfl⟩
theorem dX4_house_85 : mx_at cX4_house 85 (.invokestatic 69) 3 88 := ⟨by decide +kernel, rfl⟩
theorem dX4_house_88 : mx_br cX4_house 88 (.ifCond .eq 7) (7) 3 91 95 := ⟨by decide +kernel, rfl, by decide⟩
theorem dX4_house_91 : mx_at cX4_house 91 (.iconst 1) 1 92 := ⟨by decide +kernel, rfl⟩
theorem dX4_house_92 : mx_br cX4_house 92 (.goto 4) (4) 3 95 96 := ⟨by decide +kernel, rfl, by decide⟩
theorem dX4_house_95 : mx_at cX4_house 95 (.iconst 0) 1 96 := ⟨by decide +kernel, rfl⟩
theorem dX4_house_96 : mx_at cX4_house 96 (.ireturn) 1 97 := ⟨by decide +kernel, rfl⟩
theorem dX4_house_97 : mx_at cX4_house 97 (.aload_n 0) 1 98 := ⟨by decide +kernel, rfl⟩
theorem dX4_house_98 : mx_at cX4_house 98 (.bipush (-2)) 2 100 := ⟨by decide +kernel, rfl⟩
theorem dX4_house_100 : mx_at cX4_house 100 (.invokevirtual 36) 3 103 := ⟨by decide +kernel, rfl⟩
theorem dX4_house_103 : mx_at cX4_house 103 (.ireturn) 1 104 := ⟨by decide +kernel, rfl⟩
theorem dX4_wrongBy_0 : mx_at cX4_wrongBy 0 (.iload_n 0) 1 1 := ⟨by decide +kernel, rfl⟩
theorem dX4_wrongBy_1 : mx_at cX4_wrongBy 1 (.iload_n 1) 1 2 := ⟨by decide +kernel, rfl⟩
theorem dX4_wrongBy_2 : mx_br cX4_wrongBy 2 (.if_icmp .ge 8) (8) 3 5 10 := ⟨by decide +kernel, rfl, by decide⟩
theorem dX4_wrongBy_5 : mx_at cX4_wrongBy 5 (.bipush (-4)) 2 7 := ⟨by decide +kernel, rfl⟩
theorem dX4_wrongBy_7 : mx_br cX4_wrongBy 7 (.goto 14) (14) 3 10 21 := ⟨by decide +kernel, rfl, by decide⟩
theorem dX4_wrongBy_10 : mx_at cX4_wrongBy 10 (.iload_n 0) 1 11 := ⟨by decide +kernel, rfl⟩
theorem dX4_wrongBy_11 : mx_at cX4_wrongBy 11 (.iload_n 2) 1 12 := ⟨by decide +kernel, rfl⟩
theorem dX4_wrongBy_12 : mx_br cX4_wrongBy 12 (.if_icmp .le 8) (8) 3 15 20 := ⟨by decide +kernel, rfl, by decide⟩
theorem dX4_wrongBy_15 : mx_at cX4_wrongBy 15 (.bipush (-6)) 2 17 := ⟨by decide +kernel, rfl⟩
theorem dX4_wrongBy_17 : mx_br cX4_wrongBy 17 (.goto 4) (4) 3 20 21 := ⟨by decide +kernel, rfl, by decide⟩
theorem dX4_wrongBy_20 : mx_at cX4_wrongBy 20 (.iconst 0) 1 21 := ⟨by decide +kernel, rfl⟩
theorem dX4_wrongBy_21 : mx_at cX4_wrongBy 21 (.ireturn) 1 22 := ⟨by decide +kernel, rfl⟩
theorem dX4_sets_0 : mx_at cX4_sets 0 (.aload_n 0) 1 1 := ⟨by decide +kernel, rfl⟩
theorem dX4_sets_1 : mx_at cX4_sets 1 (.getfield 9) 3 4 := ⟨by decide +kernel, rfl⟩
theorem dX4_sets_4 : mx_at cX4_sets 4 (.iload_n 1) 1 5 := ⟨by decide +kernel, rfl⟩
theorem dX4_sets_5 : mx_at cX4_sets 5 (.iaload) 1 6 := ⟨by decide +kernel, rfl⟩
theorem dX4_sets_6 : mx_at cX4_sets 6 (.istore_n 3) 1 7 := ⟨by decide +kernel, rfl⟩
theorem dX4_sets_7 : mx_at cX4_sets 7 (.aload_n 0) 1 8 := ⟨by decide +kernel, rfl⟩
theorem dX4_sets_8 : mx_at cX4_sets 8 (.getfield 9) 3 11 := ⟨by decide +kernel, rfl⟩
theorem dX4_sets_11 : mx_at cX4_sets 11 (.iload_n 1) 1 12 := ⟨by decide +kernel, rfl⟩
theorem dX4_sets_12 : mx_at cX4_sets 12 (.iload_n 2) 1 13 := ⟨by decide +kernel, rfl⟩
theorem dX4_sets_13 : mx_at cX4_sets 13 (.iastore) 1 14 := ⟨by decide +kernel, rfl⟩
theorem dX4_sets_14 : mx_at cX4_sets 14 (.iload_n 3) 1 15 := ⟨by decide +kernel, rfl⟩
theorem dX4_sets_15 : mx_at cX4_sets 15 (.ireturn) 1 16 := ⟨by decide +kernel, rfl⟩
theorem dX4_setsOf_0 : mx_at cX4_setsOf 0 (.aload_n 0) 1 1 := ⟨by decide +kernel, rfl⟩
theorem dX4_setsOf_1 : mx_at cX4_setsOf 1 (.iload_n 1) 1 2 := ⟨by decide +kernel, rfl⟩
theorem dX4_setsOf_2 : mx_at cX4_setsOf 2 (.invokevirtual 111) 3 5 := ⟨by decide +kernel, rfl⟩
theorem dX4_setsOf_5 : mx_br cX4_setsOf 5 (.ifCond .eq 13) (13) 3 8 18 := ⟨by decide +kernel, rfl, by decide⟩
theorem dX4_setsOf_8 : mx_at cX4_setsOf 8 (.iload_n 3) 1 9 := ⟨by decide +kernel, rfl⟩
theorem dX4_setsOf_9 : mx_at cX4_setsOf 9 (.iconst 0) 1 10 := ⟨by decide +kernel, rfl⟩
theorem dX4_setsOf_10 : mx_at cX4_setsOf 10 (.iload 4) 2 12 := ⟨by decide +kernel, rfl⟩
theorem dX4_setsOf_12 : mx_at cX4_setsOf 12 (.invokestatic 128) 3 15 := ⟨by decide +kernel, rfl⟩
theorem dX4_setsOf_15 : mx_br cX4_setsOf 15 (.goto 4) (4) 3 18 19 := ⟨by decide +kernel, rfl, by decide⟩
theorem dX4_setsOf_18 : mx_at cX4_setsOf 18 (.iconst (-1)) 1 19 := ⟨by decide +kernel, rfl⟩
theorem dX4_setsOf_19 : mx_at cX4_setsOf 19 (.istore 5) 2 21 := ⟨by decide +kernel, rfl⟩
theorem dX4_setsOf_21 : mx_at cX4_setsOf 21 (.iload 5) 2 23 := ⟨by decide +kernel, rfl⟩
theorem dX4_setsOf_23 : mx_br cX4_setsOf 23 (.ifCond .eq 12) (12) 3 26 35 := ⟨by decide +kernel, rfl, by decide⟩
theorem dX4_setsOf_26 : mx_at cX4_setsOf 26 (.aload_n 0) 1 27 := ⟨by decide +kernel, rfl⟩
theorem dX4_setsOf_27 : mx_at cX4_setsOf 27 (.iload 5) 2 29 := ⟨by decide +kernel, rfl⟩
theorem dX4_setsOf_29 : mx_at cX4_setsOf 29 (.invokevirtual 36) 3 32 := ⟨by decide +kernel, rfl⟩
theorem dX4_setsOf_32 : mx_br cX4_setsOf 32 (.goto 13) (13) 3 35 45 := ⟨by decide +kernel, rfl, by decide⟩
theorem dX4_setsOf_35 : mx_at cX4_setsOf 35 (.aload_n 0) 1 36 := ⟨by decide +kernel, rfl⟩
theorem dX4_setsOf_36 : mx_at cX4_setsOf 36 (.iload_n 1) 1 37 := ⟨by decide +kernel, rfl⟩
theorem dX4_setsOf_37 : mx_at cX4_setsOf 37 (.iload_n 2) 1 38 := ⟨by decide +kernel, rfl⟩
theorem dX4_setsOf_38 : mx_at cX4_setsOf 38 (.invokestatic 44) 3 41 := ⟨by decide +kernel, rfl⟩
theorem dX4_setsOf_41 : mx_at cX4_setsOf 41 (.iload_n 3) 1 42 := ⟨by decide +kernel, rfl⟩
theorem dX4_setsOf_42 : mx_at cX4_setsOf 42 (.invokevirtual 131) 3 45 := ⟨by decide +kernel, rfl⟩
theorem dX4_setsOf_45 : mx_at cX4_setsOf 45 (.ireturn) 1 46 := ⟨by decide +kernel, rfl⟩
theorem dX4_peoples_0 : mx_at cX4_peoples 0 (.aload_n 0) 1 1 := ⟨by decide +kernel, rfl⟩
theorem dX4_peoples_1 : mx_at cX4_peoples 1 (.iload_n 1) 1 2 := ⟨by decide +kernel, rfl⟩
theorem dX4_peoples_2 : mx_at cX4_peoples 2 (.iconst 3) 1 3 := ⟨by decide +kernel, rfl⟩
theorem dX4_peoples_3 : mx_at cX4_peoples 3 (.iload_n 2) 1 4 := ⟨by decide +kernel, rfl⟩
theorem dX4_peoples_4 : mx_at cX4_peoples 4 (.bipush 30) 2 6 := ⟨by decide +kernel, rfl⟩
theorem dX4_peoples_6 : mx_at cX4_peoples 6 (.invokevirtual 134) 3 9 := ⟨by decide +kernel, rfl⟩
theorem dX4_peoples_9 : mx_at cX4_peoples 9 (.ireturn) 1 10 := ⟨by decide +kernel, rfl⟩
theorem dX4_airs_0 : mx_at cX4_airs 0 (.aload_n 0) 1 1 := ⟨by decide +kernel, rfl⟩
theorem dX4_airs_1 : mx_at cX4_airs 1 (.iload_n 1) 1 2 := ⟨by decide +kernel, rfl⟩
theorem dX4_airs_2 : mx_at cX4_airs 2 (.invokevirtual 111) 3 5 := ⟨by decide +kernel, rfl⟩
theorem dX4_airs_5 : mx_br cX4_airs 5 (.ifCond .ne 9) (9) 3 8 14 := ⟨by decide +kernel, rfl, by decide⟩
theorem dX4_airs_8 : mx_at cX4_airs 8 (.aload_n 0) 1 9 := ⟨by decide +kernel, rfl⟩
theorem dX4_airs_9 : mx_at cX4_airs 9 (.iconst (-1)) 1 10 := ⟨by decide +kernel, rfl⟩
theorem dX4_airs_10 : mx_at cX4_airs 10 (.invokevirtual 36) 3 13 := ⟨by decide +kernel, rfl⟩
theorem dX4_airs_13 : mx_at cX4_airs 13 (.ireturn) 1 14 := ⟨by decide +kernel, rfl⟩
theorem dX4_airs_14 : mx_at cX4_airs 14 (.aload_n 0) 1 15 := ⟨by decide +kernel, rfl⟩
theorem dX4_airs_15 : mx_at cX4_airs 15 (.getfield 9) 3 18 := ⟨by decide +kernel, rfl⟩
theorem dX4_airs_18 : mx_at cX4_airs 18 (.iconst 4) 1 19 := ⟨by decide +kernel, rfl⟩
theorem dX4_airs_19 : mx_at cX4_airs 19 (.iaload) 1 20 := ⟨by decide +kernel, rfl⟩
theorem dX4_airs_20 : mx_at cX4_airs 20 (.iload_n 1) 1 21 := ⟨by decide +kernel, rfl⟩
theorem dX4_airs_21 : mx_at cX4_airs 21 (.invokestatic 48) 3 24 := ⟨by decide +kernel, rfl⟩
theorem dX4_airs_24 : mx_br cX4_airs 24 (.ifCond .eq 16) (16) 3 27 40 := ⟨by decide +kernel, rfl, by decide⟩
theorem dX4_airs_27 : mx_at cX4_airs 27 (.aload_n 0) 1 28 := ⟨by decide +kernel, rfl⟩
theorem dX4_airs_28 : mx_at cX4_airs 28 (.iload_n 1) 1 29 := ⟨by decide +kernel, rfl⟩
theorem dX4_airs_29 : mx_at cX4_airs 29 (.iconst 4) 1 30 := ⟨by decide +kernel, rfl⟩
theorem dX4_airs_30 : mx_at cX4_airs 30 (.invokestatic 44) 3 33 := ⟨by decide +kernel, rfl⟩
theorem dX4_airs_33 : mx_at cX4_airs 33 (.iconst 0) 1 34 := ⟨by decide +kernel, rfl⟩
theorem dX4_airs_34 : mx_at cX4_airs 34 (.invokevirtual 131) 3 37 := ⟨by decide +kernel, rfl⟩
theorem dX4_airs_37 : mx_br cX4_airs 37 (.goto 9) (9) 3 40 46 := ⟨by decide +kernel, rfl, by decide⟩
theorem dX4_airs_40 : mx_at cX4_airs 40 (.aload_n 0) 1 41 := ⟨by decide +kernel, rfl⟩
theorem dX4_airs_41 : mx_at cX4_airs 41 (.bipush (-3)) 2 43 := ⟨by decide +kernel, rfl⟩
theorem dX4_airs_43 : mx_at cX4_airs 43 (.invokevirtual 36) 3 46 := ⟨by decide +kernel, rfl⟩
theorem dX4_airs_46 : mx_at cX4_airs 46 (.ireturn) 1 47 := ⟨by decide +kernel, rfl⟩
theorem dX4_dents_0 : mx_at cX4_dents 0 (.aload_n 0) 1 1 := ⟨by decide +kernel, rfl⟩
theorem dX4_dents_1 : mx_at cX4_dents 1 (.iload_n 1) 1 2 := ⟨by decide +kernel, rfl⟩
theorem dX4_dents_2 : mx_at cX4_dents 2 (.iconst 5) 1 3 := ⟨by decide +kernel, rfl⟩
theorem dX4_dents_3 : mx_at cX4_dents 3 (.iload_n 2) 1 4 := ⟨by decide +kernel, rfl⟩
theorem dX4_dents_4 : mx_at cX4_dents 4 (.bipush 9) 2 6 := ⟨by decide +kernel, rfl⟩
theorem dX4_dents_6 : mx_at cX4_dents 6 (.invokevirtual 134) 3 9 := ⟨by decide +kernel, rfl⟩
theorem dX4_dents_9 : mx_at cX4_dents 9 (.ireturn) 1 10 := ⟨by decide +kernel, rfl⟩
theorem dX4_keeps_0 : mx_at cX4_keeps 0 (.aload_n 0) 1 1 := ⟨by decide +kernel, rfl⟩
theorem dX4_keeps_1 : mx_at cX4_keeps 1 (.iload_n 1) 1 2 := ⟨by decide +kernel, rfl⟩
theorem dX4_keeps_2 : mx_at cX4_keeps 2 (.invokevirtual 111) 3 5 := ⟨by decide +kernel, rfl⟩
theorem dX4_keeps_5 : mx_br cX4_keeps 5 (.ifCond .ne 9) (9) 3 8 14 := ⟨by decide +kernel, rfl, by decide⟩
theorem dX4_keeps_8 : mx_at cX4_keeps 8 (.aload_n 0) 1 9 := ⟨by decide +kernel, rfl⟩
theorem dX4_keeps_9 : mx_at cX4_keeps 9 (.iconst (-1)) 1 10 := ⟨by decide +kernel, rfl⟩
theorem dX4_keeps_10 : mx_at cX4_keeps 10 (.invokevirtual 36) 3 13 := ⟨by decide +kernel, rfl⟩
theorem dX4_keeps_13 : mx_at cX4_keeps 13 (.ireturn) 1 14 := ⟨by decide +kernel, rfl⟩
theorem dX4_keeps_14 : mx_at cX4_keeps 14 (.aload_n 0) 1 15 := ⟨by decide +kernel, rfl⟩
theorem dX4_keeps_15 : mx_at cX4_keeps 15 (.getfield 9) 3 18 := ⟨by decide +kernel, rfl⟩
theorem dX4_keeps_18 : mx_at cX4_keeps 18 (.iconst 4) 1 19 := ⟨by decide +kernel, rfl⟩
theorem dX4_keeps_19 : mx_at cX4_keeps 19 (.dup2) 1 20 := ⟨by decide +kernel, rfl⟩
theorem dX4_keeps_20 : mx_at cX4_keeps 20 (.iaload) 1 21 := ⟨by decide +kernel, rfl⟩
theorem dX4_keeps_21 : mx_at cX4_keeps 21 (.iconst 1) 1 22 := ⟨by decide +kernel, rfl⟩
theorem dX4_keeps_22 : mx_at cX4_keeps 22 (.iload_n 1) 1 23 := ⟨by decide +kernel, rfl⟩
theorem dX4_keeps_23 : mx_at cX4_keeps 23 (.ishl) 1 24 := ⟨by decide +kernel, rfl⟩
theorem dX4_keeps_24 : mx_at cX4_keeps 24 (.ixor) 1 25 := ⟨by decide +kernel, rfl⟩
theorem dX4_keeps_25 : mx_at cX4_keeps 25 (.iastore) 1 26 := ⟨by decide +kernel, rfl⟩
theorem dX4_keeps_26 : mx_at cX4_keeps 26 (.aload_n 0) 1 27 := ⟨by decide +kernel, rfl⟩
theorem dX4_keeps_27 : mx_at cX4_keeps 27 (.getfield 9) 3 30 := ⟨by decide +kernel, rfl⟩
theorem dX4_keeps_30 : mx_at cX4_keeps 30 (.iconst 4) 1 31 := ⟨by decide +kernel, rfl⟩
theorem dX4_keeps_31 : mx_at cX4_keeps 31 (.iaload) 1 32 := ⟨by decide +kernel, rfl⟩
theorem dX4_keeps_32 : mx_at cX4_keeps 32 (.iload_n 1) 1 33 := ⟨by decide +kernel, rfl⟩
theorem dX4_keeps_33 : mx_at cX4_keeps 33 (.ishr) 1 34 := ⟨by decide +kernel, rfl⟩
theorem dX4_keeps_34 : mx_at cX4_keeps 34 (.iconst 1) 1 35 := ⟨by decide +kernel, rfl⟩
theorem dX4_keeps_35 : mx_at cX4_keeps 35 (.iand) 1 36 := ⟨by decide +kernel, rfl⟩
theorem dX4_keeps_36 : mx_at cX4_keeps 36 (.ireturn) 1 37 := ⟨by decide +kernel, rfl⟩
theorem dX4_visits_0 : mx_at cX4_visits 0 (.aload_n 0) 1 1 := ⟨by decide +kernel, rfl⟩
theorem dX4_visits_1 : mx_at cX4_visits 1 (.iload_n 1) 1 2 := ⟨by decide +kernel, rfl⟩
theorem dX4_visits_2 : mx_at cX4_visits 2 (.invokevirtual 111) 3 5 := ⟨by decide +kernel, rfl⟩
theorem dX4_visits_5 : mx_br cX4_visits 5 (.ifCond .eq 12) (12) 3 8 17 := ⟨by decide +kernel, rfl, by decide⟩
theorem dX4_visits_8 : mx_at cX4_visits 8 (.aload_n 0) 1 9 := ⟨by decide +kernel, rfl⟩
theorem dX4_visits_9 : mx_at cX4_visits 9 (.iconst 2) 1 10 := ⟨by decide +kernel, rfl⟩
theorem dX4_visits_10 : mx_at cX4_visits 10 (.iload_n 1) 1 11 := ⟨by decide +kernel, rfl⟩
theorem dX4_visits_11 : mx_at cX4_visits 11 (.invokevirtual 131) 3 14 := ⟨by decide +kernel, rfl⟩
theorem dX4_visits_14 : mx_br cX4_visits 14 (.goto 8) (8) 3 17 22 := ⟨by decide +kernel, rfl, by decide⟩
theorem dX4_visits_17 : mx_at cX4_visits 17 (.aload_n 0) 1 18 := ⟨by decide +kernel, rfl⟩
theorem dX4_visits_18 : mx_at cX4_visits 18 (.iconst (-1)) 1 19 := ⟨by decide +kernel, rfl⟩
theorem dX4_visits_19 : mx_at cX4_visits 19 (.invokevirtual 36) 3 22 := ⟨by decide +kernel, rfl⟩
theorem dX4_visits_22 : mx_at cX4_visits 22 (.ireturn) 1 23 := ⟨by decide +kernel, rfl⟩
theorem dX4_candles_0 : mx_at cX4_candles 0 (.iload_n 1) 1 1 := ⟨by decide +kernel, rfl⟩
theorem dX4_candles_1 : mx_at cX4_candles 1 (.iconst 0) 1 2 := ⟨by decide +kernel, rfl⟩
theorem dX4_candles_2 : mx_at cX4_candles 2 (.sipush 999) 3 5 := ⟨by decide +kernel, rfl⟩
theorem dX4_candles_5 : mx_at cX4_candles 5 (.invokestatic 128) 3 8 := ⟨by decide +kernel, rfl⟩
theorem dX4_candles_8 : mx_at cX4_candles 8 (.istore_n 2) 1 9 := ⟨by decide +kernel, rfl⟩
theorem dX4_candles_9 : mx_at cX4_candles 9 (.iload_n 2) 1 10 := ⟨by decide +kernel, rfl⟩
theorem dX4_candles_10 : mx_br cX4_candles 10 (.ifCond .eq 11) (11) 3 13 21 := ⟨by decide +kernel, rfl, by decide⟩
theorem dX4_candles_13 : mx_at cX4_candles 13 (.aload_n 0) 1 14 := ⟨by decide +kernel, rfl⟩
theorem dX4_candles_14 : mx_at cX4_candles 14 (.iload_n 2) 1 15 := ⟨by decide +kernel, rfl⟩
theorem dX4_candles_15 : mx_at cX4_candles 15 (.invokevirtual 36) 3 18 := ⟨by decide +kernel, rfl⟩
theorem dX4_candles_18 : mx_br cX4_candles 18 (.goto 9) (9) 3 21 27 := ⟨by decide +kernel, rfl, by decide⟩
theorem dX4_candles_21 : mx_at cX4_candles 21 (.aload_n 0) 1 22 := ⟨by decide +kernel, rfl⟩
theorem dX4_candles_22 : mx_at cX4_candles 22 (.iconst 3) 1 23 := ⟨by decide +kernel, rfl⟩
theorem dX4_candles_23 : mx_at cX4_candles 23 (.iload_n 1) 1 24 := ⟨by decide +kernel, rfl⟩
theorem dX4_candles_24 : mx_at cX4_candles 24 (.invokevirtual 131) 3 27 := ⟨by decide +kernel, rfl⟩
theorem dX4_candles_27 : mx_at cX4_candles 27 (.ireturn) 1 28 := ⟨by decide +kernel, rfl⟩
theorem dX4_turn_0 : mx_at cX4_turn 0 (.aload_n 0) 1 1 := ⟨by decide +kernel, rfl⟩
theorem dX4_turn_1 : mx_at cX4_turn 1 (.iload_n 1) 1 2 := ⟨by decide +kernel, rfl⟩
theorem dX4_turn_2 : mx_at cX4_turn 2 (.invokevirtual 111) 3 5 := ⟨by decide +kernel, rfl⟩
theorem dX4_turn_5 : mx_br cX4_turn 5 (.ifCond .ne 7) (7) 3 8 12 := ⟨by decide +kernel, rfl, by decide⟩
theorem dX4_turn_8 : mx_at cX4_turn 8 (.iconst (-1)) 1 9 := ⟨by decide +kernel, rfl⟩
theorem dX4_turn_9 : mx_br cX4_turn 9 (.goto 24) (24) 3 12 33 := ⟨by decide +kernel, rfl, by decide⟩
theorem dX4_turn_12 : mx_at cX4_turn 12 (.iload_n 2) 1 13 := ⟨by decide +kernel, rfl⟩
theorem dX4_turn_13 : mx_at cX4_turn 13 (.iconst 0) 1 14 := ⟨by decide +kernel, rfl⟩
theorem dX4_turn_14 : mx_at cX4_turn 14 (.iconst 5) 1 15 := ⟨by decide +kernel, rfl⟩
theorem dX4_turn_15 : mx_at cX4_turn 15 (.invokestatic 40) 3 18 := ⟨by decide +kernel, rfl⟩
theorem dX4_turn_18 : mx_br cX4_turn 18 (.ifCond .ne 8) (8) 3 21 26 := ⟨by decide +kernel, rfl, by decide⟩
theorem dX4_turn_21 : mx_at cX4_turn 21 (.bipush (-2)) 2 23 := ⟨by decide +kernel, rfl⟩
theorem dX4_turn_23 : mx_br cX4_turn 23 (.goto 10) (10) 3 26 33 := ⟨by decide +kernel, rfl, by decide⟩
theorem dX4_turn_26 : mx_at cX4_turn 26 (.iload_n 3) 1 27 := ⟨by decide +kernel, rfl⟩
theorem dX4_turn_27 : mx_at cX4_turn 27 (.iconst 0) 1 28 := ⟨by decide +kernel, rfl⟩
theorem dX4_turn_28 : mx_at cX4_turn 28 (.bipush 9) 2 30 := ⟨by decide +kernel, rfl⟩
theorem dX4_turn_30 : mx_at cX4_turn 30 (.invokestatic 128) 3 33 := ⟨by decide +kernel, rfl⟩
theorem dX4_turn_33 : mx_at cX4_turn 33 (.istore 4) 2 35 := ⟨by decide +kernel, rfl⟩
theorem dX4_turn_35 : mx_at cX4_turn 35 (.iload 4) 2 37 := ⟨by decide +kernel, rfl⟩
theorem dX4_turn_37 : mx_br cX4_turn 37 (.ifCond .eq 10) (10) 3 40 47 := ⟨by decide +kernel, rfl, by decide⟩
theorem dX4_turn_40 : mx_at cX4_turn 40 (.aload_n 0) 1 41 := ⟨by decide +kernel, rfl⟩
theorem dX4_turn_41 : mx_at cX4_turn 41 (.iload 4) 2 43 := ⟨by decide +kernel, rfl⟩
theorem dX4_turn_43 : mx_at cX4_turn 43 (.invokevirtual 36) 3 46 := ⟨by decide +kernel, rfl⟩
theorem dX4_turn_46 : mx_at cX4_turn 46 (.ireturn) 1 47 := ⟨by decide +kernel, rfl⟩
theorem dX4_turn_47 : mx_at cX4_turn 47 (.bipush 10) 2 49 := ⟨by decide +kernel, rfl⟩
theorem dX4_turn_49 : mx_at cX4_turn 49 (.aload_n 0) 1 50 := ⟨by decide +kernel, rfl⟩
theorem dX4_turn_50 : mx_at cX4_turn 50 (.getfield 9) 3 53 := ⟨by decide +kernel, rfl⟩
theorem dX4_turn_53 : mx_at cX4_turn 53 (.iload_n 1) 1 54 := ⟨by decide +kernel, rfl⟩
theorem dX4_turn_54 : mx_at cX4_turn 54 (.iconst 0) 1 55 := ⟨by decide +kernel, rfl⟩
theorem dX4_turn_55 : mx_at cX4_turn 55 (.invokestatic 44) 3 58 := ⟨by decide +kernel, rfl⟩
theorem dX4_turn_58 : mx_at cX4_turn 58 (.iaload) 1 59 := ⟨by decide +kernel, rfl⟩
theorem dX4_turn_59 : mx_at cX4_turn 59 (.imul) 1 60 := ⟨by decide +kernel, rfl⟩
theorem dX4_turn_60 : mx_at cX4_turn 60 (.aload_n 0) 1 61 := ⟨by decide +kernel, rfl⟩
theorem dX4_turn_61 : mx_at cX4_turn 61 (.getfield 9) 3 64 := ⟨by decide +kernel, rfl⟩
theorem dX4_turn_64 : mx_at cX4_turn 64 (.iload_n 1) 1 65 := ⟨by decide +kernel, rfl⟩
theorem dX4_turn_65 : mx_at cX4_turn 65 (.iconst 1) 1 66 := ⟨by decide +kernel, rfl⟩
theorem dX4_turn_66 : mx_at cX4_turn 66 (.invokestatic 44) 3 69 := ⟨by decide +kernel, rfl⟩
theorem dX4_turn_69 : mx_at cX4_turn 69 (.iaload) 1 70 := ⟨by decide +kernel, rfl⟩
theorem dX4_turn_70 : mx_at cX4_turn 70 (.iadd) 1 71 := ⟨by decide +kernel, rfl⟩
theorem dX4_turn_71 : mx_at cX4_turn 71 (.istore 5) 2 73 := ⟨by decide +kernel, rfl⟩
theorem dX4_turn_73 : mx_at cX4_turn 73 (.aload_n 0) 1 74 := ⟨by decide +kernel, rfl⟩
theorem dX4_turn_74 : mx_at cX4_turn 74 (.getfield 9) 3 77 := ⟨by decide +kernel, rfl⟩
theorem dX4_turn_77 : mx_at cX4_turn 77 (.iload_n 1) 1 78 := ⟨by decide +kernel, rfl⟩
theorem dX4_turn_78 : mx_at cX4_turn 78 (.iconst 0) 1 79 := ⟨by decide +kernel, rfl⟩
theorem dX4_turn_79 : mx_at cX4_turn 79 (.invokestatic 44) 3 82 := ⟨by decide +kernel, rfl⟩
theorem dX4_turn_82 : mx_at cX4_turn 82 (.iload_n 2) 1 83 := ⟨by decide +kernel, rfl⟩
theorem dX4_turn_83 : mx_at cX4_turn 83 (.iastore) 1 84 := ⟨by decide +kernel, rfl⟩
theorem dX4_turn_84 : mx_at cX4_turn 84 (.aload_n 0) 1 85 := ⟨by decide +kernel, rfl⟩
theorem dX4_turn_85 : mx_at cX4_turn 85 (.getfield 9) 3 88 := ⟨by decide +kernel, rfl⟩
theorem dX4_turn_88 : mx_at cX4_turn 88 (.iload_n 1) 1 89 := ⟨by decide +kernel, rfl⟩
theorem dX4_turn_89 : mx_at cX4_turn 89 (.iconst 1) 1 90 := ⟨by decide +kernel, rfl⟩
theorem dX4_turn_90 : mx_at cX4_turn 90 (.invokestatic 44) 3 93 := ⟨by decide +kernel, rfl⟩
theorem dX4_turn_93 : mx_at cX4_turn 93 (.iload_n 3) 1 94 := ⟨by decide +kernel, rfl⟩
theorem dX4_turn_94 : mx_at cX4_turn 94 (.iastore) 1 95 := ⟨by decide +kernel, rfl⟩
theorem dX4_turn_95 : mx_at cX4_turn 95 (.iload 5) 2 97 := ⟨by decide +kernel, rfl⟩
theorem dX4_turn_97 : mx_at cX4_turn 97 (.ireturn) 1 98 := ⟨by decide +kernel, rfl⟩
theorem dX4_weeks_0 : mx_at cX4_weeks 0 (.iload_n 1) 1 1 := ⟨by decide +kernel, rfl⟩
theorem dX4_weeks_1 : mx_at cX4_weeks 1 (.iconst 1) 1 2 := ⟨by decide +kernel, rfl⟩
theorem dX4_weeks_2 : mx_br cX4_weeks 2 (.if_icmp .ge 10) (10) 3 5 12 := ⟨by decide +kernel, rfl, by decide⟩
theorem dX4_weeks_5 : mx_at cX4_weeks 5 (.aload_n 0) 1 6 := ⟨by decide +kernel, rfl⟩
theorem dX4_weeks_6 : mx_at cX4_weeks 6 (.bipush (-4)) 2 8 := ⟨by decide +kernel, rfl⟩
theorem dX4_weeks_8 : mx_at cX4_weeks 8 (.invokevirtual 36) 3 11 := ⟨by decide +kernel, rfl⟩
theorem dX4_weeks_11 : mx_at cX4_weeks 11 (.ireturn) 1 12 := ⟨by decide +kernel, rfl⟩
theorem dX4_weeks_12 : mx_at cX4_weeks 12 (.iload_n 1) 1 13 := ⟨by decide +kernel, rfl⟩
theorem dX4_weeks_13 : mx_at cX4_weeks 13 (.bipush 60) 2 15 := ⟨by decide +kernel, rfl⟩
theorem dX4_weeks_15 : mx_br cX4_weeks 15 (.if_icmp .gt 17) (17) 3 18 32 := ⟨by decide +kernel, rfl, by decide⟩
theorem dX4_weeks_18 : mx_at cX4_weeks 18 (.aload_n 0) 1 19 := ⟨by decide +kernel, rfl⟩
theorem dX4_weeks_19 : mx_at cX4_weeks 19 (.getfield 9) 3 22 := ⟨by decide +kernel, rfl⟩
theorem dX4_weeks_22 : mx_at cX4_weeks 22 (.iconst 1) 1 23 := ⟨by decide +kernel, rfl⟩
theorem dX4_weeks_23 : mx_at cX4_weeks 23 (.iaload) 1 24 := ⟨by decide +kernel, rfl⟩
theorem dX4_weeks_24 : mx_at cX4_weeks 24 (.iload_n 1) 1 25 := ⟨by decide +kernel, rfl⟩
theorem dX4_weeks_25 : mx_at cX4_weeks 25 (.iadd) 1 26 := ⟨by decide +kernel, rfl⟩
theorem dX4_weeks_26 : mx_at cX4_weeks 26 (.sipush 999) 3 29 := ⟨by decide +kernel, rfl⟩
theorem dX4_weeks_29 : mx_br cX4_weeks 29 (.if_icmp .le 10) (10) 3 32 39 := ⟨by decide +kernel, rfl, by decide⟩
theorem dX4_weeks_32 : mx_at cX4_weeks 32 (.aload_n 0) 1 33 := ⟨by decide +kernel, rfl⟩
theorem dX4_weeks_33 : mx_at cX4_weeks 33 (.bipush (-6)) 2 35 := ⟨by decide +kernel, rfl⟩
theorem dX4_weeks_35 : mx_at cX4_weeks 35 (.invokevirtual 36) 3 38 := ⟨by decide +kernel, rfl⟩
theorem dX4_weeks_38 : mx_at cX4_weeks 38 (.ireturn) 1 39 := ⟨by decide +kernel, rfl⟩
theorem dX4_weeks_39 : mx_at cX4_weeks 39 (.aload_n 0) 1 40 := ⟨by decide +kernel, rfl⟩
theorem dX4_weeks_40 : mx_at cX4_weeks 40 (.getfield 9) 3 43 := ⟨by decide +kernel, rfl⟩
theorem dX4_weeks_43 : mx_at cX4_weeks 43 (.iload_n 1) 1 44 := ⟨by decide +kernel, rfl⟩
theorem dX4_weeks_44 : mx_at cX4_weeks 44 (.invokestatic 115) 3 47 := ⟨by decide +kernel, rfl⟩
theorem dX4_weeks_47 : mx_at cX4_weeks 47 (.aload_n 0) 1 48 := ⟨by decide +kernel, rfl⟩
theorem dX4_weeks_48 : mx_at cX4_weeks 48 (.getfield 9) 3 51 := ⟨by decide +kernel, rfl⟩
theorem dX4_weeks_51 : mx_at cX4_weeks 51 (.iconst 4) 1 52 := ⟨by decide +kernel, rfl⟩
theorem dX4_weeks_52 : mx_at cX4_weeks 52 (.iaload) 1 53 := ⟨by decide +kernel, rfl⟩
theorem dX4_weeks_53 : mx_at cX4_weeks 53 (.invokestatic 138) 3 56 := ⟨by decide +kernel, rfl⟩
theorem dX4_weeks_56 : mx_at cX4_weeks 56 (.ireturn) 1 57 := ⟨by decide +kernel, rfl⟩
theorem dX4_takes_0 : mx_at cX4_takes 0 (.aload_n 0) 1 1 := ⟨by decide +kernel, rfl⟩
theorem dX4_takes_1 : mx_at cX4_takes 1 (.getfield 9) 3 4 := ⟨by decide +kernel, rfl⟩
theorem dX4_takes_4 : mx_at cX4_takes 4 (.aload_n 0) 1 5 := ⟨by decide +kernel, rfl⟩
theorem dX4_takes_5 : mx_at cX4_takes 5 (.getfield 13) 3 8 := ⟨by decide +kernel, rfl⟩
theorem dX4_takes_8 : mx_at cX4_takes 8 (.invokestatic 121) 3 11 := ⟨by decide +kernel, rfl⟩
theorem dX4_takes_11 : mx_at cX4_takes 11 (.aload_n 0) 1 12 := ⟨by decide +kernel, rfl⟩
theorem dX4_takes_12 : mx_at cX4_takes 12 (.getfield 13) 3 15 := ⟨by decide +kernel, rfl⟩
theorem dX4_takes_15 : mx_at cX4_takes 15 (.iload_n 1) 1 16 := ⟨by decide +kernel, rfl⟩
theorem dX4_takes_16 : mx_at cX4_takes 16 (.invokestatic 115) 3 19 := ⟨by decide +kernel, rfl⟩
theorem dX4_takes_19 : mx_at cX4_takes 19 (.return_) 1 20 := ⟨by decide +kernel, rfl⟩
theorem dX4_houseThen_0 : mx_at cX4_houseThen 0 (.aload_n 0) 1 1 := ⟨by decide +kernel, rfl⟩
theorem dX4_houseThen_1 : mx_at cX4_houseThen 1 (.iload_n 1) 1 2 := ⟨by decide +kernel, rfl⟩
theorem dX4_houseThen_2 : mx_at cX4_houseThen 2 (.invokevirtual 111) 3 5 := ⟨by decide +kernel, rfl⟩
theorem dX4_houseThen_5 : mx_br cX4_houseThen 5 (.ifCond .eq 13) (13) 3 8 18 := ⟨by decide +kernel, rfl, by decide⟩
theorem dX4_houseThen_8 : mx_at cX4_houseThen 8 (.iload_n 2) 1 9 := ⟨by decide +kernel, rfl⟩
theorem dX4_houseThen_9 : mx_at cX4_houseThen 9 (.iconst 0) 1 10 := ⟨by decide +kernel, rfl⟩
theorem dX4_houseThen_10 : mx_at cX4_houseThen 10 (.bipush 60) 2 12 := ⟨by decide +kernel, rfl⟩
theorem dX4_houseThen_12 : mx_at cX4_houseThen 12 (.invokestatic 128) 3 15 := ⟨by decide +kernel, rfl⟩
theorem dX4_houseThen_15 : mx_br cX4_houseThen 15 (.goto 4) (4) 3 18 19 := ⟨by decide +kernel, rfl, by decide⟩
theorem dX4_houseThen_18 : mx_at cX4_houseThen 18 (.iconst (-1)) 1 19 := ⟨by decide +kernel, rfl⟩
theorem dX4_houseThen_19 : mx_at cX4_houseThen 19 (.istore 4) 2 21 := ⟨by decide +kernel, rfl⟩
theorem dX4_houseThen_21 : mx_at cX4_houseThen 21 (.iload 4) 2 23 := ⟨by decide +kernel, rfl⟩
theorem dX4_houseThen_23 : mx_br cX4_houseThen 23 (.ifCond .ne 16) (16) 3 26 39 := ⟨by decide +kernel, rfl, by decide⟩
theorem dX4_houseThen_26 : mx_at cX4_houseThen 26 (.iload_n 3) 1 27 := ⟨by decide +kernel, rfl⟩
theorem dX4_houseThen_27 : mx_at cX4_houseThen 27 (.iconst 0) 1 28 := ⟨by decide +kernel, rfl⟩
theorem dX4_houseThen_28 : mx_at cX4_houseThen 28 (.iconst 2) 1 29 := ⟨by decide +kernel, rfl⟩
theorem dX4_houseThen_29 : mx_at cX4_houseThen 29 (.invokestatic 40) 3 32 := ⟨by decide +kernel, rfl⟩
theorem dX4_houseThen_32 : mx_br cX4_houseThen 32 (.ifCond .ne 7) (7) 3 35 39 := ⟨by decide +kernel, rfl, by decide⟩
theorem dX4_houseThen_35 : mx_at cX4_houseThen 35 (.bipush (-2)) 2 37 := ⟨by decide +kernel, rfl⟩
theorem dX4_houseThen_37 : mx_at cX4_houseThen 37 (.istore 4) 2 39 := ⟨by decide +kernel, rfl⟩
theorem dX4_houseThen_39 : mx_at cX4_houseThen 39 (.iload 4) 2 41 := ⟨by decide +kernel, rfl⟩
theorem dX4_houseThen_41 : mx_br cX4_houseThen 41 (.ifCond .eq 10) (10) 3 44 51 := ⟨by decide +kernel, rfl, by decide⟩
theorem dX4_houseThen_44 : mx_at cX4_houseThen 44 (.aload_n 0) 1 45 := ⟨by decide +kernel, rfl⟩
theorem dX4_houseThen_45 : mx_at cX4_houseThen 45 (.iload 4) 2 47 := ⟨by decide +kernel, rfl⟩
theorem dX4_houseThen_47 : mx_at cX4_houseThen 47 (.invokevirtual 36) 3 50 := ⟨by decide +kernel, rfl⟩
theorem dX4_houseThen_50 : mx_at cX4_houseThen 50 (.ireturn) 1 51 := ⟨by decide +kernel, rfl⟩
theorem dX4_houseThen_51 : mx_at cX4_houseThen 51 (.aload_n 0) 1 52 := ⟨by decide +kernel, rfl⟩
theorem dX4_houseThen_52 : mx_at cX4_houseThen 52 (.iload_n 2) 1 53 := ⟨by decide +kernel, rfl⟩
theorem dX4_houseThen_53 : mx_at cX4_houseThen 53 (.invokevirtual 141) 3 56 := ⟨by decide +kernel, rfl⟩
theorem dX4_houseThen_56 : mx_at cX4_houseThen 56 (.aload_n 0) 1 57 := ⟨by decide +kernel, rfl⟩
theorem dX4_houseThen_57 : mx_at cX4_houseThen 57 (.getfield 13) 3 60 := ⟨by decide +kernel, rfl⟩
theorem dX4_houseThen_60 : mx_at cX4_houseThen 60 (.iload_n 1) 1 61 := ⟨by decide +kernel, rfl⟩
theorem dX4_houseThen_61 : mx_at cX4_houseThen 61 (.iload_n 3) 1 62 := ⟨by decide +kernel, rfl⟩
theorem dX4_houseThen_62 : mx_br cX4_houseThen 62 (.ifCond .ne 7) (7) 3 65 69 := ⟨by decide +kernel, rfl, by decide⟩
theorem dX4_houseThen_65 : mx_at cX4_houseThen 65 (.iconst 4) 1 66 := ⟨by decide +kernel, rfl⟩
theorem dX4_houseThen_66 : mx_br cX4_houseThen 66 (.goto 13) (13) 3 69 79 := ⟨by decide +kernel, rfl, by decide⟩
theorem dX4_houseThen_69 : mx_at cX4_houseThen 69 (.iload_n 3) 1 70 := ⟨by decide +kernel, rfl⟩
theorem dX4_houseThen_70 : mx_at cX4_houseThen 70 (.iconst 1) 1 71 := ⟨by decide +kernel, rfl⟩
theorem dX4_houseThen_71 : mx_br cX4_houseThen 71 (.if_icmp .ne 7) (7) 3 74 78 := ⟨by decide +kernel, rfl, by decide⟩
theorem dX4_houseThen_74 : mx_at cX4_houseThen 74 (.iconst 5) 1 75 := ⟨by decide +kernel, rfl⟩
theorem dX4_houseThen_75 : mx_br cX4_houseThen 75 (.goto 4) (4) 3 78 79 := ⟨by decide +kernel, rfl, by decide⟩
theorem dX4_houseThen_78 : mx_at cX4_houseThen 78 (.iconst 3) 1 79 := ⟨by decide +kernel, rfl⟩
theorem dX4_houseThen_79 : mx_at cX4_houseThen 79 (.invokestatic 44) 3 82 := ⟨by decide +kernel, rfl⟩
theorem dX4_houseThen_82 : mx_at cX4_houseThen 82 (.iaload) 1 83 := ⟨by decide +kernel, rfl⟩
theorem dX4_houseThen_83 : mx_at cX4_houseThen 83 (.ireturn) 1 84 := ⟨by decide +kernel, rfl⟩
theorem dX4_then_0 : mx_at cX4_then 0 (.iload_n 1) 1 1 := ⟨by decide +kernel, rfl⟩
theorem dX4_then_1 : mx_at cX4_then 1 (.iconst 0) 1 2 := ⟨by decide +kernel, rfl⟩
theorem dX4_then_2 : mx_at cX4_then 2 (.bipush 60) 2 4 := ⟨by decide +kernel, rfl⟩
theorem dX4_then_4 : mx_at cX4_then 4 (.invokestatic 128) 3 7 := ⟨by decide +kernel, rfl⟩
theorem dX4_then_7 : mx_at cX4_then 7 (.istore_n 3) 1 8 := ⟨by decide +kernel, rfl⟩
theorem dX4_then_8 : mx_at cX4_then 8 (.iload_n 3) 1 9 := ⟨by decide +kernel, rfl⟩
theorem dX4_then_9 : mx_br cX4_then 9 (.ifCond .ne 15) (15) 3 12 24 := ⟨by decide +kernel, rfl, by decide⟩
theorem dX4_then_12 : mx_at cX4_then 12 (.iload_n 2) 1 13 := ⟨by decide +kernel, rfl⟩
theorem dX4_then_13 : mx_at cX4_then 13 (.iconst 0) 1 14 := ⟨by decide +kernel, rfl⟩
theorem dX4_then_14 : mx_at cX4_then 14 (.iconst 2) 1 15 := ⟨by decide +kernel, rfl⟩
theorem dX4_then_15 : mx_at cX4_then 15 (.invokestatic 40) 3 18 := ⟨by decide +kernel, rfl⟩
theorem dX4_then_18 : mx_br cX4_then 18 (.ifCond .ne 6) (6) 3 21 24 := ⟨by decide +kernel, rfl, by decide⟩
theorem dX4_then_21 : mx_at cX4_then 21 (.bipush (-2)) 2 23 := ⟨by decide +kernel, rfl⟩
theorem dX4_then_23 : mx_at cX4_then 23 (.istore_n 3) 1 24 := ⟨by decide +kernel, rfl⟩
theorem dX4_then_24 : mx_at cX4_then 24 (.iload_n 3) 1 25 := ⟨by decide +kernel, rfl⟩
theorem dX4_then_25 : mx_br cX4_then 25 (.ifCond .eq 9) (9) 3 28 34 := ⟨by decide +kernel, rfl, by decide⟩
theorem dX4_then_28 : mx_at cX4_then 28 (.aload_n 0) 1 29 := ⟨by decide +kernel, rfl⟩
theorem dX4_then_29 : mx_at cX4_then 29 (.iload_n 3) 1 30 := ⟨by decide +kernel, rfl⟩
theorem dX4_then_30 : mx_at cX4_then 30 (.invokevirtual 36) 3 33 := ⟨by decide +kernel, rfl⟩
theorem dX4_then_33 : mx_at cX4_then 33 (.ireturn) 1 34 := ⟨by decide +kernel, rfl⟩
theorem dX4_then_34 : mx_at cX4_then 34 (.aload_n 0) 1 35 := ⟨by decide +kernel, rfl⟩
theorem dX4_then_35 : mx_at cX4_then 35 (.iload_n 1) 1 36 := ⟨by decide +kernel, rfl⟩
theorem dX4_then_36 : mx_at cX4_then 36 (.invokevirtual 141) 3 39 := ⟨by decide +kernel, rfl⟩
theorem dX4_then_39 : mx_at cX4_then 39 (.iload_n 2) 1 40 := ⟨by decide +kernel, rfl⟩
theorem dX4_then_40 : mx_br cX4_then 40 (.ifCond .ne 12) (12) 3 43 52 := ⟨by decide +kernel, rfl, by decide⟩
theorem dX4_then_43 : mx_at cX4_then 43 (.aload_n 0) 1 44 := ⟨by decide +kernel, rfl⟩
theorem dX4_then_44 : mx_at cX4_then 44 (.getfield 13) 3 47 := ⟨by decide +kernel, rfl⟩
theorem dX4_then_47 : mx_at cX4_then 47 (.iconst 4) 1 48 := ⟨by decide +kernel, rfl⟩
theorem dX4_then_48 : mx_at cX4_then 48 (.iaload) 1 49 := ⟨by decide +kernel, rfl⟩
theorem dX4_then_49 : mx_br cX4_then 49 (.goto 37) (37) 3 52 86 := ⟨by decide +kernel, rfl, by decide⟩
theorem dX4_then_52 : mx_at cX4_then 52 (.iload_n 2) 1 53 := ⟨by decide +kernel, rfl⟩
theorem dX4_then_53 : mx_at cX4_then 53 (.iconst 1) 1 54 := ⟨by decide +kernel, rfl⟩
theorem dX4_then_54 : mx_br cX4_then 54 (.if_icmp .ne 12) (12) 3 57 66 := ⟨by decide +kernel, rfl, by decide⟩
theorem dX4_then_57 : mx_at cX4_then 57 (.aload_n 0) 1 58 := ⟨by decide +kernel, rfl⟩
theorem dX4_then_58 : mx_at cX4_then 58 (.getfield 13) 3 61 := ⟨by decide +kernel, rfl⟩
theorem dX4_then_61 : mx_at cX4_then 61 (.iconst 3) 1 62 := ⟨by decide +kernel, rfl⟩
theorem dX4_then_62 : mx_at cX4_then 62 (.iaload) 1 63 := ⟨by decide +kernel, rfl⟩
theorem dX4_then_63 : mx_br cX4_then 63 (.goto 23) (23) 3 66 86 := ⟨by decide +kernel, rfl, by decide⟩
theorem dX4_then_66 : mx_at cX4_then 66 (.aload_n 0) 1 67 := ⟨by decide +kernel, rfl⟩
theorem dX4_then_67 : mx_at cX4_then 67 (.getfield 13) 3 70 := ⟨by decide +kernel, rfl⟩
theorem dX4_then_70 : mx_at cX4_then 70 (.iconst 0) 1 71 := ⟨by decide +kernel, rfl⟩
theorem dX4_then_71 : mx_at cX4_then 71 (.iaload) 1 72 := ⟨by decide +kernel, rfl⟩
theorem dX4_then_72 : mx_br cX4_then 72 (.ifCond .ne 8) (8) 3 75 80 := ⟨by decide +kernel, rfl, by decide⟩
theorem dX4_then_75 : mx_at cX4_then 75 (.bipush (-9)) 2 77 := ⟨by decide +kernel, rfl⟩
theorem dX4_then_77 : mx_br cX4_then 77 (.goto 9) (9) 3 80 86 := ⟨by decide +kernel, rfl, by decide⟩
theorem dX4_then_80 : mx_at cX4_then 80 (.aload_n 0) 1 81 := ⟨by decide +kernel, rfl⟩
theorem dX4_then_81 : mx_at cX4_then 81 (.getfield 13) 3 84 := ⟨by decide +kernel, rfl⟩
theorem dX4_then_84 : mx_at cX4_then 84 (.iconst 2) 1 85 := ⟨by decide +kernel, rfl⟩
theorem dX4_then_85 : mx_at cX4_then 85 (.iaload) 1 86 := ⟨by decide +kernel, rfl⟩
theorem dX4_then_86 : mx_at cX4_then 86 (.ireturn) 1 87 := ⟨by decide +kernel, rfl⟩
theorem dX4_whenLost_0 : mx_at cX4_whenLost 0 (.iconst 0) 1 1 := ⟨by decide +kernel, rfl⟩
theorem dX4_whenLost_1 : mx_at cX4_whenLost 1 (.istore_n 2) 1 2 := ⟨by decide +kernel, rfl⟩
theorem dX4_whenLost_2 : mx_at cX4_whenLost 2 (.iload_n 2) 1 3 := ⟨by decide +kernel, rfl⟩
theorem dX4_whenLost_3 : mx_at cX4_whenLost 3 (.bipush 60) 2 5 := ⟨by decide +kernel, rfl⟩
theorem dX4_whenLost_5 : mx_br cX4_whenLost 5 (.if_icmp .gt 31) (31) 3 8 36 := ⟨by decide +kernel, rfl, by decide⟩
theorem dX4_whenLost_8 : mx_at cX4_whenLost 8 (.aload_n 0) 1 9 := ⟨by decide +kernel, rfl⟩
theorem dX4_whenLost_9 : mx_at cX4_whenLost 9 (.getfield 13) 3 12 := ⟨by decide +kernel, rfl⟩
theorem dX4_whenLost_12 : mx_at cX4_whenLost 12 (.iconst 4) 1 13 := ⟨by decide +kernel, rfl⟩
theorem dX4_whenLost_13 : mx_at cX4_whenLost 13 (.iaload) 1 14 := ⟨by decide +kernel, rfl⟩
theorem dX4_whenLost_14 : mx_at cX4_whenLost 14 (.iload_n 1) 1 15 := ⟨by decide +kernel, rfl⟩
theorem dX4_whenLost_15 : mx_at cX4_whenLost 15 (.invokestatic 48) 3 18 := ⟨by decide +kernel, rfl⟩
theorem dX4_whenLost_18 : mx_br cX4_whenLost 18 (.ifCond .ne 5) (5) 3 21 23 := ⟨by decide +kernel, rfl, by decide⟩
theorem dX4_whenLost_21 : mx_at cX4_whenLost 21 (.iload_n 2) 1 22 := ⟨by decide +kernel, rfl⟩
theorem dX4_whenLost_22 : mx_at cX4_whenLost 22 (.ireturn) 1 23 := ⟨by decide +kernel, rfl⟩
theorem dX4_whenLost_23 : mx_at cX4_whenLost 23 (.aload_n 0) 1 24 := ⟨by decide +kernel, rfl⟩
theorem dX4_whenLost_24 : mx_at cX4_whenLost 24 (.getfield 13) 3 27 := ⟨by decide +kernel, rfl⟩
theorem dX4_whenLost_27 : mx_at cX4_whenLost 27 (.invokestatic 83) 3 30 := ⟨by decide +kernel, rfl⟩
theorem dX4_whenLost_30 : mx_at cX4_whenLost 30 (.iinc 2 1) 3 33 := ⟨by decide +kernel, rfl⟩
theorem dX4_whenLost_33 : mx_br cX4_whenLost 33 (.goto (-31)) (-31) 3 36 2 := ⟨by decide +kernel, rfl, by decide⟩
theorem dX4_whenLost_36 : mx_at cX4_whenLost 36 (.bipush (-9)) 2 38 := ⟨by decide +kernel, rfl⟩
theorem dX4_whenLost_38 : mx_at cX4_whenLost 38 (.ireturn) 1 39 := ⟨by decide +kernel, rfl⟩
theorem dX4_lostOf_0 : mx_at cX4_lostOf 0 (.aload_n 0) 1 1 := ⟨by decide +kernel, rfl⟩
theorem dX4_lostOf_1 : mx_at cX4_lostOf 1 (.getfield 9) 3 4 := ⟨by decide +kernel, rfl⟩
theorem dX4_lostOf_4 : mx_at cX4_lostOf 4 (.aload_n 0) 1 5 := ⟨by decide +kernel, rfl⟩
theorem dX4_lostOf_5 : mx_at cX4_lostOf 5 (.getfield 13) 3 8 := ⟨by decide +kernel, rfl⟩
theorem dX4_lostOf_8 : mx_at cX4_lostOf 8 (.invokestatic 121) 3 11 := ⟨by decide +kernel, rfl⟩
theorem dX4_lostOf_11 : mx_at cX4_lostOf 11 (.aload_n 0) 1 12 := ⟨by decide +kernel, rfl⟩
theorem dX4_lostOf_12 : mx_at cX4_lostOf 12 (.iload_n 1) 1 13 := ⟨by decide +kernel, rfl⟩
theorem dX4_lostOf_13 : mx_at cX4_lostOf 13 (.invokevirtual 145) 3 16 := ⟨by decide +kernel, rfl⟩
theorem dX4_lostOf_16 : mx_at cX4_lostOf 16 (.ireturn) 1 17 := ⟨by decide +kernel, rfl⟩
theorem dX4_firstLost_0 : mx_at cX4_firstLost 0 (.bipush (-9)) 2 2 := ⟨by decide +kernel, rfl⟩
theorem dX4_firstLost_2 : mx_at cX4_firstLost 2 (.istore_n 1) 1 3 := ⟨by decide +kernel, rfl⟩
theorem dX4_firstLost_3 : mx_at cX4_firstLost 3 (.ldc 148) 2 5 := ⟨by decide +kernel, rfl⟩
theorem dX4_firstLost_5 : mx_at cX4_firstLost 5 (.istore_n 2) 1 6 := ⟨by decide +kernel, rfl⟩
theorem dX4_firstLost_6 : mx_at cX4_firstLost 6 (.iconst 0) 1 7 := ⟨by decide +kernel, rfl⟩
theorem dX4_firstLost_7 : mx_at cX4_firstLost 7 (.istore_n 3) 1 8 := ⟨by decide +kernel, rfl⟩
theorem dX4_firstLost_8 : mx_at cX4_firstLost 8 (.iload_n 3) 1 9 := ⟨by decide +kernel, rfl⟩
theorem dX4_firstLost_9 : mx_at cX4_firstLost 9 (.aload_n 0) 1 10 := ⟨by decide +kernel, rfl⟩
theorem dX4_firstLost_10 : mx_at cX4_firstLost 10 (.getfield 9) 3 13 := ⟨by decide +kernel, rfl⟩
theorem dX4_firstLost_13 : mx_at cX4_firstLost 13 (.iconst 0) 1 14 := ⟨by decide +kernel, rfl⟩
theorem dX4_firstLost_14 : mx_at cX4_firstLost 14 (.iaload) 1 15 := ⟨by decide +kernel, rfl⟩
theorem dX4_firstLost_15 : mx_br cX4_firstLost 15 (.if_icmp .ge 53) (53) 3 18 68 := ⟨by decide +kernel, rfl, by decide⟩
theorem dX4_firstLost_18 : mx_at cX4_firstLost 18 (.aload_n 0) 1 19 := ⟨by decide +kernel, rfl⟩
theorem dX4_firstLost_19 : mx_at cX4_firstLost 19 (.getfield 9) 3 22 := ⟨by decide +kernel, rfl⟩
theorem dX4_firstLost_22 : mx_at cX4_firstLost 22 (.iconst 4) 1 23 := ⟨by decide +kernel, rfl⟩
theorem dX4_firstLost_23 : mx_at cX4_firstLost 23 (.iaload) 1 24 := ⟨by decide +kernel, rfl⟩
theorem dX4_firstLost_24 : mx_at cX4_firstLost 24 (.iload_n 3) 1 25 := ⟨by decide +kernel, rfl⟩
theorem dX4_firstLost_25 : mx_at cX4_firstLost 25 (.invokestatic 48) 3 28 := ⟨by decide +kernel, rfl⟩
theorem dX4_firstLost_28 : mx_br cX4_firstLost 28 (.ifCond .eq 11) (11) 3 31 39 := ⟨by decide +kernel, rfl, by decide⟩
theorem dX4_firstLost_31 : mx_at cX4_firstLost 31 (.aload_n 0) 1 32 := ⟨by decide +kernel, rfl⟩
theorem dX4_firstLost_32 : mx_at cX4_firstLost 32 (.iload_n 3) 1 33 := ⟨by decide +kernel, rfl⟩
theorem dX4_firstLost_33 : mx_at cX4_firstLost 33 (.invokevirtual 149) 3 36 := ⟨by decide +kernel, rfl⟩
theorem dX4_firstLost_36 : mx_br cX4_firstLost 36 (.goto 5) (5) 3 39 41 := ⟨by decide +kernel, rfl, by decide⟩
theorem dX4_firstLost_39 : mx_at cX4_firstLost 39 (.bipush (-9)) 2 41 := ⟨by decide +kernel, rfl⟩
theorem dX4_firstLost_41 : mx_at cX4_firstLost 41 (.istore 4) 2 43 := ⟨by decide +kernel, rfl⟩
theorem dX4_firstLost_43 : mx_at cX4_firstLost 43 (.iload 4) 2 45 := ⟨by decide +kernel, rfl⟩
theorem dX4_firstLost_45 : mx_br cX4_firstLost 45 (.ifCond .lt 17) (17) 3 48 62 := ⟨by decide +kernel, rfl, by decide⟩
theorem dX4_firstLost_48 : mx_at cX4_firstLost 48 (.iload 4) 2 50 := ⟨by decide +kernel, rfl⟩
theorem dX4_firstLost_50 : mx_at cX4_firstLost 50 (.iload_n 2) 1 51 := ⟨by decide +kernel, rfl⟩
theorem dX4_firstLost_51 : mx_br cX4_firstLost 51 (.if_icmp .lt 6) (6) 3 54 57 := ⟨by decide +kernel, rfl, by decide⟩
theorem dX4_firstLost_54 : mx_br cX4_firstLost 54 (.goto 8) (8) 3 57 62 := ⟨by decide +kernel, rfl, by decide⟩
theorem dX4_firstLost_57 : mx_at cX4_firstLost 57 (.iload_n 3) 1 58 := ⟨by decide +kernel, rfl⟩
theorem dX4_firstLost_58 : mx_at cX4_firstLost 58 (.istore_n 1) 1 59 := ⟨by decide +kernel, rfl⟩
theorem dX4_firstLost_59 : mx_at cX4_firstLost 59 (.iload 4) 2 61 := ⟨by decide +kernel, rfl⟩
theorem dX4_firstLost_61 : mx_at cX4_firstLost 61 (.istore_n 2) 1 62 := ⟨by decide +kernel, rfl⟩
theorem dX4_firstLost_62 : mx_at cX4_firstLost 62 (.iinc 3 1) 3 65 := ⟨by decide +kernel, rfl⟩
theorem dX4_firstLost_65 : mx_br cX4_firstLost 65 (.goto (-57)) (-57) 3 68 8 := ⟨by decide +kernel, rfl, by decide⟩
theorem dX4_firstLost_68 : mx_at cX4_firstLost 68 (.iload_n 1) 1 69 := ⟨by decide +kernel, rfl⟩
theorem dX4_firstLost_69 : mx_at cX4_firstLost 69 (.ireturn) 1 70 := ⟨by decide +kernel, rfl⟩
theorem dX4_lost_0 : mx_at cX4_lost 0 (.iload_n 1) 1 1 := ⟨by decide +kernel, rfl⟩
theorem dX4_lost_1 : mx_at cX4_lost 1 (.iconst (-1)) 1 2 := ⟨by decide +kernel, rfl⟩
theorem dX4_lost_2 : mx_br cX4_lost 2 (.if_icmp .ne 10) (10) 3 5 12 := ⟨by decide +kernel, rfl, by decide⟩
theorem dX4_lost_5 : mx_at cX4_lost 5 (.aload_n 0) 1 6 := ⟨by decide +kernel, rfl⟩
theorem dX4_lost_6 : mx_at cX4_lost 6 (.invokevirtual 152) 3 9 := ⟨by decide +kernel, rfl⟩
theorem dX4_lost_9 : mx_br cX4_lost 9 (.goto 24) (24) 3 12 33 := ⟨by decide +kernel, rfl, by decide⟩
theorem dX4_lost_12 : mx_at cX4_lost 12 (.aload_n 0) 1 13 := ⟨by decide +kernel, rfl⟩
theorem dX4_lost_13 : mx_at cX4_lost 13 (.iload_n 1) 1 14 := ⟨by decide +kernel, rfl⟩
theorem dX4_lost_14 : mx_at cX4_lost 14 (.invokevirtual 111) 3 17 := ⟨by decide +kernel, rfl⟩
theorem dX4_lost_17 : mx_br cX4_lost 17 (.ifCond .eq 11) (11) 3 20 28 := ⟨by decide +kernel, rfl, by decide⟩
theorem dX4_lost_20 : mx_at cX4_lost 20 (.aload_n 0) 1 21 := ⟨by decide +kernel, rfl⟩
theorem dX4_lost_21 : mx_at cX4_lost 21 (.iload_n 1) 1 22 := ⟨by decide +kernel, rfl⟩
theorem dX4_lost_22 : mx_at cX4_lost 22 (.invokevirtual 149) 3 25 := ⟨by decide +kernel, rfl⟩
theorem dX4_lost_25 : mx_br cX4_lost 25 (.goto 8) (8) 3 28 33 := ⟨by decide +kernel, rfl, by decide⟩
theorem dX4_lost_28 : mx_at cX4_lost 28 (.aload_n 0) 1 29 := ⟨by decide +kernel, rfl⟩
theorem dX4_lost_29 : mx_at cX4_lost 29 (.iconst (-1)) 1 30 := ⟨by decide +kernel, rfl⟩
theorem dX4_lost_30 : mx_at cX4_lost 30 (.invokevirtual 36) 3 33 := ⟨by decide +kernel, rfl⟩
theorem dX4_lost_33 : mx_at cX4_lost 33 (.ireturn) 1 34 := ⟨by decide +kernel, rfl⟩
theorem dX4_dark_0 : mx_at cX4_dark 0 (.aload_n 0) 1 1 := ⟨by decide +kernel, rfl⟩
theorem dX4_dark_1 : mx_at cX4_dark 1 (.getfield 9) 3 4 := ⟨by decide +kernel, rfl⟩
theorem dX4_dark_4 : mx_at cX4_dark 4 (.aload_n 0) 1 5 := ⟨by decide +kernel, rfl⟩
theorem dX4_dark_5 : mx_at cX4_dark 5 (.getfield 13) 3 8 := ⟨by decide +kernel, rfl⟩
theorem dX4_dark_8 : mx_at cX4_dark 8 (.invokestatic 121) 3 11 := ⟨by decide +kernel, rfl⟩
theorem dX4_dark_11 : mx_at cX4_dark 11 (.iconst 0) 1 12 := ⟨by decide +kernel, rfl⟩
theorem dX4_dark_12 : mx_at cX4_dark 12 (.istore_n 1) 1 13 := ⟨by decide +kernel, rfl⟩
theorem dX4_dark_13 : mx_at cX4_dark 13 (.iload_n 1) 1 14 := ⟨by decide +kernel, rfl⟩
theorem dX4_dark_14 : mx_at cX4_dark 14 (.bipush 60) 2 16 := ⟨by decide +kernel, rfl⟩
theorem dX4_dark_16 : mx_br cX4_dark 16 (.if_icmp .gt 34) (34) 3 19 50 := ⟨by decide +kernel, rfl, by decide⟩
theorem dX4_dark_19 : mx_at cX4_dark 19 (.aload_n 0) 1 20 := ⟨by decide +kernel, rfl⟩
theorem dX4_dark_20 : mx_at cX4_dark 20 (.getfield 13) 3 23 := ⟨by decide +kernel, rfl⟩
theorem dX4_dark_23 : mx_at cX4_dark 23 (.iconst 3) 1 24 := ⟨by decide +kernel, rfl⟩
theorem dX4_dark_24 : mx_at cX4_dark 24 (.iaload) 1 25 := ⟨by decide +kernel, rfl⟩
theorem dX4_dark_25 : mx_at cX4_dark 25 (.aload_n 0) 1 26 := ⟨by decide +kernel, rfl⟩
theorem dX4_dark_26 : mx_at cX4_dark 26 (.getfield 13) 3 29 := ⟨by decide +kernel, rfl⟩
theorem dX4_dark_29 : mx_at cX4_dark 29 (.invokestatic 155) 3 32 := ⟨by decide +kernel, rfl⟩
theorem dX4_dark_32 : mx_br cX4_dark 32 (.if_icmp .ge 5) (5) 3 35 37 := ⟨by decide +kernel, rfl, by decide⟩
theorem dX4_dark_35 : mx_at cX4_dark 35 (.iload_n 1) 1 36 := ⟨by decide +kernel, rfl⟩
theorem dX4_dark_36 : mx_at cX4_dark 36 (.ireturn) 1 37 := ⟨by decide +kernel, rfl⟩
theorem dX4_dark_37 : mx_at cX4_dark 37 (.aload_n 0) 1 38 := ⟨by decide +kernel, rfl⟩
theorem dX4_dark_38 : mx_at cX4_dark 38 (.getfield 13) 3 41 := ⟨by decide +kernel, rfl⟩
theorem dX4_dark_41 : mx_at cX4_dark 41 (.invokestatic 83) 3 44 := ⟨by decide +kernel, rfl⟩
theorem dX4_dark_44 : mx_at cX4_dark 44 (.iinc 1 1) 3 47 := ⟨by decide +kernel, rfl⟩
theorem dX4_dark_47 : mx_br cX4_dark 47 (.goto (-34)) (-34) 3 50 13 := ⟨by decide +kernel, rfl, by decide⟩
theorem dX4_dark_50 : mx_at cX4_dark 50 (.bipush (-9)) 2 52 := ⟨by decide +kernel, rfl⟩
theorem dX4_dark_52 : mx_at cX4_dark 52 (.ireturn) 1 53 := ⟨by decide +kernel, rfl⟩
theorem dX4_keptThen_0 : mx_at cX4_keptThen 0 (.aload_n 0) 1 1 := ⟨by decide +kernel, rfl⟩
theorem dX4_keptThen_1 : mx_at cX4_keptThen 1 (.iload_n 1) 1 2 := ⟨by decide +kernel, rfl⟩
theorem dX4_keptThen_2 : mx_at cX4_keptThen 2 (.invokevirtual 141) 3 5 := ⟨by decide +kernel, rfl⟩
theorem dX4_keptThen_5 : mx_at cX4_keptThen 5 (.aload_n 0) 1 6 := ⟨by decide +kernel, rfl⟩
theorem dX4_keptThen_6 : mx_at cX4_keptThen 6 (.getfield 13) 3 9 := ⟨by decide +kernel, rfl⟩
theorem dX4_keptThen_9 : mx_at cX4_keptThen 9 (.iconst 4) 1 10 := ⟨by decide +kernel, rfl⟩
theorem dX4_keptThen_10 : mx_at cX4_keptThen 10 (.iaload) 1 11 := ⟨by decide +kernel, rfl⟩
theorem dX4_keptThen_11 : mx_at cX4_keptThen 11 (.invokestatic 138) 3 14 := ⟨by decide +kernel, rfl⟩
theorem dX4_keptThen_14 : mx_at cX4_keptThen 14 (.ireturn) 1 15 := ⟨by decide +kernel, rfl⟩
theorem dX4_still_0 : mx_at cX4_still 0 (.iconst 0) 1 1 := ⟨by decide +kernel, rfl⟩
theorem dX4_still_1 : mx_at cX4_still 1 (.istore_n 1) 1 2 := ⟨by decide +kernel, rfl⟩
theorem dX4_still_2 : mx_at cX4_still 2 (.iload_n 1) 1 3 := ⟨by decide +kernel, rfl⟩
theorem dX4_still_3 : mx_at cX4_still 3 (.bipush 60) 2 5 := ⟨by decide +kernel, rfl⟩
theorem dX4_still_5 : mx_br cX4_still 5 (.if_icmp .gt 27) (27) 3 8 32 := ⟨by decide +kernel, rfl, by decide⟩
theorem dX4_still_8 : mx_at cX4_still 8 (.aload_n 0) 1 9 := ⟨by decide +kernel, rfl⟩
theorem dX4_still_9 : mx_at cX4_still 9 (.iload_n 1) 1 10 := ⟨by decide +kernel, rfl⟩
theorem dX4_still_10 : mx_at cX4_still 10 (.invokevirtual 159) 3 13 := ⟨by decide +kernel, rfl⟩
theorem dX4_still_13 : mx_at cX4_still 13 (.aload_n 0) 1 14 := ⟨by decide +kernel, rfl⟩
theorem dX4_still_14 : mx_at cX4_still 14 (.iload_n 1) 1 15 := ⟨by decide +kernel, rfl⟩
theorem dX4_still_15 : mx_at cX4_still 15 (.bipush 20) 2 17 := ⟨by decide +kernel, rfl⟩
theorem dX4_still_17 : mx_at cX4_still 17 (.iadd) 1 18 := ⟨by decide +kernel, rfl⟩
theorem dX4_still_18 : mx_at cX4_still 18 (.invokevirtual 159) 3 21 := ⟨by decide +kernel, rfl⟩
theorem dX4_still_21 : mx_br cX4_still 21 (.if_icmp .ne 5) (5) 3 24 26 := ⟨by decide +kernel, rfl, by decide⟩
theorem dX4_still_24 : mx_at cX4_still 24 (.iload_n 1) 1 25 := ⟨by decide +kernel, rfl⟩
theorem dX4_still_25 : mx_at cX4_still 25 (.ireturn) 1 26 := ⟨by decide +kernel, rfl⟩
theorem dX4_still_26 : mx_at cX4_still 26 (.iinc 1 1) 3 29 := ⟨by decide +kernel, rfl⟩
theorem dX4_still_29 : mx_br cX4_still 29 (.goto (-27)) (-27) 3 32 2 := ⟨by decide +kernel, rfl, by decide⟩
theorem dX4_still_32 : mx_at cX4_still 32 (.bipush (-9)) 2 34 := ⟨by decide +kernel, rfl⟩
theorem dX4_still_34 : mx_at cX4_still 34 (.ireturn) 1 35 := ⟨by decide +kernel, rfl⟩
theorem dX4_move_0 : mx_at cX4_move 0 (.iload_n 1) 1 1 := ⟨by decide +kernel, rfl⟩
theorem dX4_move_1 : mx_at cX4_move 1 (.iconst 0) 1 2 := ⟨by decide +kernel, rfl⟩
theorem dX4_move_2 : mx_at cX4_move 2 (.bipush 30) 2 4 := ⟨by decide +kernel, rfl⟩
theorem dX4_move_4 : mx_at cX4_move 4 (.invokestatic 128) 3 7 := ⟨by decide +kernel, rfl⟩
theorem dX4_move_7 : mx_at cX4_move 7 (.istore_n 2) 1 8 := ⟨by decide +kernel, rfl⟩
theorem dX4_move_8 : mx_at cX4_move 8 (.iload_n 2) 1 9 := ⟨by decide +kernel, rfl⟩
theorem dX4_move_9 : mx_br cX4_move 9 (.ifCond .eq 9) (9) 3 12 18 := ⟨by decide +kernel, rfl, by decide⟩
theorem dX4_move_12 : mx_at cX4_move 12 (.aload_n 0) 1 13 := ⟨by decide +kernel, rfl⟩
theorem dX4_move_13 : mx_at cX4_move 13 (.iload_n 2) 1 14 := ⟨by decide +kernel, rfl⟩
theorem dX4_move_14 : mx_at cX4_move 14 (.invokevirtual 36) 3 17 := ⟨by decide +kernel, rfl⟩
theorem dX4_move_17 : mx_at cX4_move 17 (.ireturn) 1 18 := ⟨by decide +kernel, rfl⟩
theorem dX4_move_18 : mx_at cX4_move 18 (.aload_n 0) 1 19 := ⟨by decide +kernel, rfl⟩
theorem dX4_move_19 : mx_at cX4_move 19 (.iload_n 1) 1 20 := ⟨by decide +kernel, rfl⟩
theorem dX4_move_20 : mx_at cX4_move 20 (.invokevirtual 159) 3 23 := ⟨by decide +kernel, rfl⟩
theorem dX4_move_23 : mx_at cX4_move 23 (.istore_n 3) 1 24 := ⟨by decide +kernel, rfl⟩
theorem dX4_move_24 : mx_at cX4_move 24 (.bipush (-9)) 2 26 := ⟨by decide +kernel, rfl⟩
theorem dX4_move_26 : mx_at cX4_move 26 (.istore 4) 2 28 := ⟨by decide +kernel, rfl⟩
theorem dX4_move_28 : mx_at cX4_move 28 (.iconst 0) 1 29 := ⟨by decide +kernel, rfl⟩
theorem dX4_move_29 : mx_at cX4_move 29 (.istore 5) 2 31 := ⟨by decide +kernel, rfl⟩
theorem dX4_move_31 : mx_at cX4_move 31 (.iload 5) 2 33 := ⟨by decide +kernel, rfl⟩
theorem dX4_move_33 : mx_at cX4_move 33 (.aload_n 0) 1 34 := ⟨by decide +kernel, rfl⟩
theorem dX4_move_34 : mx_at cX4_move 34 (.getfield 9) 3 37 := ⟨by decide +kernel, rfl⟩
theorem dX4_move_37 : mx_at cX4_move 37 (.iconst 0) 1 38 := ⟨by decide +kernel, rfl⟩
theorem dX4_move_38 : mx_at cX4_move 38 (.iaload) 1 39 := ⟨by decide +kernel, rfl⟩
theorem dX4_move_39 : mx_br cX4_move 39 (.if_icmp .ge 186) (186) 3 42 225 := ⟨by decide +kernel, rfl, by decide⟩
theorem dX4_move_42 : mx_at cX4_move 42 (.iconst 0) 1 43 := ⟨by decide +kernel, rfl⟩
theorem dX4_move_43 : mx_at cX4_move 43 (.istore 6) 2 45 := ⟨by decide +kernel, rfl⟩
theorem dX4_move_45 : mx_at cX4_move 45 (.iload 6) 2 47 := ⟨by decide +kernel, rfl⟩
theorem dX4_move_47 : mx_at cX4_move 47 (.aload_n 0) 1 48 := ⟨by decide +kernel, rfl⟩
theorem dX4_move_48 : mx_at cX4_move 48 (.getfield 9) 3 51 := ⟨by decide +kernel, rfl⟩
theorem dX4_move_51 : mx_at cX4_move 51 (.iconst 0) 1 52 := ⟨by decide +kernel, rfl⟩
theorem dX4_move_52 : mx_at cX4_move 52 (.iaload) 1 53 := ⟨by decide +kernel, rfl⟩
theorem dX4_move_53 : mx_br cX4_move 53 (.if_icmp .ge 166) (166) 3 56 219 := ⟨by decide +kernel, rfl, by decide⟩
theorem dX4_move_56 : mx_at cX4_move 56 (.iload 5) 2 58 := ⟨by decide +kernel, rfl⟩
theorem dX4_move_58 : mx_at cX4_move 58 (.iload 6) 2 60 := ⟨by decide +kernel, rfl⟩
theorem dX4_move_60 : mx_br cX4_move 60 (.if_icmp .eq 153) (153) 3 63 213 := ⟨by decide +kernel, rfl, by decide⟩
theorem dX4_move_63 : mx_at cX4_move 63 (.aload_n 0) 1 64 := ⟨by decide +kernel, rfl⟩
theorem dX4_move_64 : mx_at cX4_move 64 (.getfield 9) 3 67 := ⟨by decide +kernel, rfl⟩
theorem dX4_move_67 : mx_at cX4_move 67 (.iconst 4) 1 68 := ⟨by decide +kernel, rfl⟩
theorem dX4_move_68 : mx_at cX4_move 68 (.iaload) 1 69 := ⟨by decide +kernel, rfl⟩
theorem dX4_move_69 : mx_at cX4_move 69 (.iload 5) 2 71 := ⟨by decide +kernel, rfl⟩
theorem dX4_move_71 : mx_at cX4_move 71 (.invokestatic 48) 3 74 := ⟨by decide +kernel, rfl⟩
theorem dX4_move_74 : mx_br cX4_move 74 (.ifCond .eq 139) (139) 3 77 213 := ⟨by decide +kernel, rfl, by decide⟩
theorem dX4_move_77 : mx_at cX4_move 77 (.aload_n 0) 1 78 := ⟨by decide +kernel, rfl⟩
theorem dX4_move_78 : mx_at cX4_move 78 (.getfield 9) 3 81 := ⟨by decide +kernel, rfl⟩
theorem dX4_move_81 : mx_at cX4_move 81 (.iconst 4) 1 82 := ⟨by decide +kernel, rfl⟩
theorem dX4_move_82 : mx_at cX4_move 82 (.iaload) 1 83 := ⟨by decide +kernel, rfl⟩
theorem dX4_move_83 : mx_at cX4_move 83 (.iload 6) 2 85 := ⟨by decide +kernel, rfl⟩
theorem dX4_move_85 : mx_at cX4_move 85 (.invokestatic 48) 3 88 := ⟨by decide +kernel, rfl⟩
theorem dX4_move_88 : mx_br cX4_move 88 (.ifCond .ne 6) (6) 3 91 94 := ⟨by decide +kernel, rfl, by decide⟩
theorem dX4_move_91 : mx_br cX4_move 91 (.goto 122) (122) 3 94 213 := ⟨by decide +kernel, rfl, by decide⟩
theorem dX4_move_94 : mx_at cX4_move 94 (.aload_n 0) 1 95 := ⟨by decide +kernel, rfl⟩
theorem dX4_move_95 : mx_at cX4_move 95 (.getfield 9) 3 98 := ⟨by decide +kernel, rfl⟩
theorem dX4_move_98 : mx_at cX4_move 98 (.aload_n 0) 1 99 := ⟨by decide +kernel, rfl⟩
theorem dX4_move_99 : mx_at cX4_move 99 (.getfield 13) 3 102 := ⟨by decide +kernel, rfl⟩
theorem dX4_move_102 : mx_at cX4_move 102 (.invokestatic 121) 3 105 := ⟨by decide +kernel, rfl⟩
theorem dX4_move_105 : mx_at cX4_move 105 (.aload_n 0) 1 106 := ⟨by decide +kernel, rfl⟩
theorem dX4_move_106 : mx_at cX4_move 106 (.getfield 13) 3 109 := ⟨by decide +kernel, rfl⟩
theorem dX4_move_109 : mx_at cX4_move 109 (.iload 5) 2 111 := ⟨by decide +kernel, rfl⟩
theorem dX4_move_111 : mx_at cX4_move 111 (.iconst 3) 1 112 := ⟨by decide +kernel, rfl⟩
theorem dX4_move_112 : mx_at cX4_move 112 (.invokestatic 44) 3 115 := ⟨by decide +kernel, rfl⟩
theorem dX4_move_115 : mx_at cX4_move 115 (.iaload) 1 116 := ⟨by decide +kernel, rfl⟩
theorem dX4_move_116 : mx_at cX4_move 116 (.iconst 2) 1 117 := ⟨by decide +kernel, rfl⟩
theorem dX4_move_117 : mx_at cX4_move 117 (.idiv) 1 118 := ⟨by decide +kernel, rfl⟩
theorem dX4_move_118 : mx_at cX4_move 118 (.bipush 30) 2 120 := ⟨by decide +kernel, rfl⟩
theorem dX4_move_120 : mx_at cX4_move 120 (.aload_n 0) 1 121 := ⟨by decide +kernel, rfl⟩
theorem dX4_move_121 : mx_at cX4_move 121 (.getfield 13) 3 124 := ⟨by decide +kernel, rfl⟩
theorem dX4_move_124 : mx_at cX4_move 124 (.iload 6) 2 126 := ⟨by decide +kernel, rfl⟩
theorem dX4_move_126 : mx_at cX4_move 126 (.iconst 3) 1 127 := ⟨by decide +kernel, rfl⟩
theorem dX4_move_127 : mx_at cX4_move 127 (.invokestatic 44) 3 130 := ⟨by decide +kernel, rfl⟩
theorem dX4_move_130 : mx_at cX4_move 130 (.iaload) 1 131 := ⟨by decide +kernel, rfl⟩
theorem dX4_move_131 : mx_at cX4_move 131 (.isub) 1 132 := ⟨by decide +kernel, rfl⟩
theorem dX4_move_132 : mx_at cX4_move 132 (.invokestatic 66) 3 135 := ⟨by decide +kernel, rfl⟩
theorem dX4_move_135 : mx_at cX4_move 135 (.istore 7) 2 137 := ⟨by decide +kernel, rfl⟩
theorem dX4_move_137 : mx_at cX4_move 137 (.aload_n 0) 1 138 := ⟨by decide +kernel, rfl⟩
theorem dX4_move_138 : mx_at cX4_move 138 (.getfield 13) 3 141 := ⟨by decide +kernel, rfl⟩
theorem dX4_move_141 : mx_at cX4_move 141 (.iload 5) 2 143 := ⟨by decide +kernel, rfl⟩
theorem dX4_move_143 : mx_at cX4_move 143 (.iconst 3) 1 144 := ⟨by decide +kernel, rfl⟩
theorem dX4_move_144 : mx_at cX4_move 144 (.invokestatic 44) 3 147 := ⟨by decide +kernel, rfl⟩
theorem dX4_move_147 : mx_at cX4_move 147 (.dup2) 1 148 := ⟨by decide +kernel, rfl⟩
theorem dX4_move_148 : mx_at cX4_move 148 (.iaload) 1 149 := ⟨by decide +kernel, rfl⟩
theorem dX4_move_149 : mx_at cX4_move 149 (.iload 7) 2 151 := ⟨by decide +kernel, rfl⟩
theorem dX4_move_151 : mx_at cX4_move 151 (.isub) 1 152 := ⟨by decide +kernel, rfl⟩
theorem dX4_move_152 : mx_at cX4_move 152 (.iastore) 1 153 := ⟨by decide +kernel, rfl⟩
theorem dX4_move_153 : mx_at cX4_move 153 (.aload_n 0) 1 154 := ⟨by decide +kernel, rfl⟩
theorem dX4_move_154 : mx_at cX4_move 154 (.getfield 13) 3 157 := ⟨by decide +kernel, rfl⟩
theorem dX4_move_157 : mx_at cX4_move 157 (.iload 6) 2 159 := ⟨by decide +kernel, rfl⟩
theorem dX4_move_159 : mx_at cX4_move 159 (.iconst 3) 1 160 := ⟨by decide +kernel, rfl⟩
theorem dX4_move_160 : mx_at cX4_move 160 (.invokestatic 44) 3 163 := ⟨by decide +kernel, rfl⟩
theorem dX4_move_163 : mx_at cX4_move 163 (.dup2) 1 164 := ⟨by decide +kernel, rfl⟩
theorem dX4_move_164 : mx_at cX4_move 164 (.iaload) 1 165 := ⟨by decide +kernel, rfl⟩
theorem dX4_move_165 : mx_at cX4_move 165 (.iload 7) 2 167 := ⟨by decide +kernel, rfl⟩
theorem dX4_move_167 : mx_at cX4_move 167 (.iadd) 1 168 := ⟨by decide +kernel, rfl⟩
theorem dX4_move_168 : mx_at cX4_move 168 (.iastore) 1 169 := ⟨by decide +kernel, rfl⟩
theorem dX4_move_169 : mx_at cX4_move 169 (.aload_n 0) 1 170 := ⟨by decide +kernel, rfl⟩
theorem dX4_move_170 : mx_at cX4_move 170 (.getfield 13) 3 173 := ⟨by decide +kernel, rfl⟩
theorem dX4_move_173 : mx_at cX4_move 173 (.iload_n 1) 1 174 := ⟨by decide +kernel, rfl⟩
theorem dX4_move_174 : mx_at cX4_move 174 (.invokestatic 115) 3 177 := ⟨by decide +kernel, rfl⟩
theorem dX4_move_177 : mx_at cX4_move 177 (.aload_n 0) 1 178 := ⟨by decide +kernel, rfl⟩
theorem dX4_move_178 : mx_at cX4_move 178 (.getfield 13) 3 181 := ⟨by decide +kernel, rfl⟩
theorem dX4_move_181 : mx_at cX4_move 181 (.iconst 4) 1 182 := ⟨by decide +kernel, rfl⟩
theorem dX4_move_182 : mx_at cX4_move 182 (.iaload) 1 183 := ⟨by decide +kernel, rfl⟩
theorem dX4_move_183 : mx_at cX4_move 183 (.invokestatic 138) 3 186 := ⟨by decide +kernel, rfl⟩
theorem dX4_move_186 : mx_at cX4_move 186 (.iload_n 3) 1 187 := ⟨by decide +kernel, rfl⟩
theorem dX4_move_187 : mx_br cX4_move 187 (.if_icmp .gt 6) (6) 3 190 193 := ⟨by decide +kernel, rfl, by decide⟩
theorem dX4_move_190 : mx_br cX4_move 190 (.goto 23) (23) 3 193 213 := ⟨by decide +kernel, rfl, by decide⟩
theorem dX4_move_193 : mx_at cX4_move 193 (.bipush 10) 2 195 := ⟨by decide +kernel, rfl⟩
theorem dX4_move_195 : mx_at cX4_move 195 (.iload 5) 2 197 := ⟨by decide +kernel, rfl⟩
theorem dX4_move_197 : mx_at cX4_move 197 (.imul) 1 198 := ⟨by decide +kernel, rfl⟩
theorem dX4_move_198 : mx_at cX4_move 198 (.iload 6) 2 200 := ⟨by decide +kernel, rfl⟩
theorem dX4_move_200 : mx_at cX4_move 200 (.iadd) 1 201 := ⟨by decide +kernel, rfl⟩
theorem dX4_move_201 : mx_at cX4_move 201 (.istore 4) 2 203 := ⟨by decide +kernel, rfl⟩
theorem dX4_move_203 : mx_at cX4_move 203 (.aload_n 0) 1 204 := ⟨by decide +kernel, rfl⟩
theorem dX4_move_204 : mx_at cX4_move 204 (.getfield 13) 3 207 := ⟨by decide +kernel, rfl⟩
theorem dX4_move_207 : mx_at cX4_move 207 (.iconst 4) 1 208 := ⟨by decide +kernel, rfl⟩
theorem dX4_move_208 : mx_at cX4_move 208 (.iaload) 1 209 := ⟨by decide +kernel, rfl⟩
theorem dX4_move_209 : mx_at cX4_move 209 (.invokestatic 138) 3 212 := ⟨by decide +kernel, rfl⟩
theorem dX4_move_212 : mx_at cX4_move 212 (.istore_n 3) 1 213 := ⟨by decide +kernel, rfl⟩
theorem dX4_move_213 : mx_at cX4_move 213 (.iinc 6 1) 3 216 := ⟨by decide +kernel, rfl⟩
theorem dX4_move_216 : mx_br cX4_move 216 (.goto (-171)) (-171) 3 219 45 := ⟨by decide +kernel, rfl, by decide⟩
theorem dX4_move_219 : mx_at cX4_move 219 (.iinc 5 1) 3 222 := ⟨by decide +kernel, rfl⟩
theorem dX4_move_222 : mx_br cX4_move 222 (.goto (-191)) (-191) 3 225 31 := ⟨by decide +kernel, rfl, by decide⟩
theorem dX4_move_225 : mx_at cX4_move 225 (.iload 4) 2 227 := ⟨by decide +kernel, rfl⟩
theorem dX4_move_227 : mx_at cX4_move 227 (.ireturn) 1 228 := ⟨by decide +kernel, rfl⟩
theorem dX4_isNoneLost_0 : mx_at cX4_isNoneLost 0 (.aload_n 0) 1 1 := ⟨by decide +kernel, rfl⟩
theorem dX4_isNoneLost_1 : mx_at cX4_isNoneLost 1 (.getfield 13) 3 4 := ⟨by decide +kernel, rfl⟩
theorem dX4_isNoneLost_4 : mx_at cX4_isNoneLost 4 (.iload_n 1) 1 5 := ⟨by decide +kernel, rfl⟩
theorem dX4_isNoneLost_5 : mx_at cX4_isNoneLost 5 (.invokestatic 115) 3 8 := ⟨by decide +kernel, rfl⟩
theorem dX4_isNoneLost_8 : mx_at cX4_isNoneLost 8 (.aload_n 0) 1 9 := ⟨by decide +kernel, rfl⟩
theorem dX4_isNoneLost_9 : mx_at cX4_isNoneLost 9 (.getfield 13) 3 12 := ⟨by decide +kernel, rfl⟩
theorem dX4_isNoneLost_12 : mx_at cX4_isNoneLost 12 (.iconst 4) 1 13 := ⟨by decide +kernel, rfl⟩
theorem dX4_isNoneLost_13 : mx_at cX4_isNoneLost 13 (.iaload) 1 14 := ⟨by decide +kernel, rfl⟩
theorem dX4_isNoneLost_14 : mx_at cX4_isNoneLost 14 (.aload_n 0) 1 15 := ⟨by decide +kernel, rfl⟩
theorem dX4_isNoneLost_15 : mx_at cX4_isNoneLost 15 (.getfield 9) 3 18 := ⟨by decide +kernel, rfl⟩
theorem dX4_isNoneLost_18 : mx_at cX4_isNoneLost 18 (.iconst 4) 1 19 := ⟨by decide +kernel, rfl⟩
theorem dX4_isNoneLost_19 : mx_at cX4_isNoneLost 19 (.iaload) 1 20 := ⟨by decide +kernel, rfl⟩
theorem dX4_isNoneLost_20 : mx_br cX4_isNoneLost 20 (.if_icmp .ne 7) (7) 3 23 27 := ⟨by decide +kernel, rfl, by decide⟩
theorem dX4_isNoneLost_23 : mx_at cX4_isNoneLost 23 (.iconst 1) 1 24 := ⟨by decide +kernel, rfl⟩
theorem dX4_isNoneLost_24 : mx_br cX4_isNoneLost 24 (.goto 4) (4) 3 27 28 := ⟨by decide +kernel, rfl, by decide⟩
theorem dX4_isNoneLost_27 : mx_at cX4_isNoneLost 27 (.iconst 0) 1 28 := ⟨by decide +kernel, rfl⟩
theorem dX4_isNoneLost_28 : mx_at cX4_isNoneLost 28 (.ireturn) 1 29 := ⟨by decide +kernel, rfl⟩
theorem dX4_air_0 : mx_at cX4_air 0 (.iload_n 1) 1 1 := ⟨by decide +kernel, rfl⟩
theorem dX4_air_1 : mx_at cX4_air 1 (.iconst 0) 1 2 := ⟨by decide +kernel, rfl⟩
theorem dX4_air_2 : mx_at cX4_air 2 (.bipush 30) 2 4 := ⟨by decide +kernel, rfl⟩
theorem dX4_air_4 : mx_at cX4_air 4 (.invokestatic 128) 3 7 := ⟨by decide +kernel, rfl⟩
theorem dX4_air_7 : mx_at cX4_air 7 (.istore_n 2) 1 8 := ⟨by decide +kernel, rfl⟩
theorem dX4_air_8 : mx_at cX4_air 8 (.iload_n 2) 1 9 := ⟨by decide +kernel, rfl⟩
theorem dX4_air_9 : mx_br cX4_air 9 (.ifCond .eq 9) (9) 3 12 18 := ⟨by decide +kernel, rfl, by decide⟩
theorem dX4_air_12 : mx_at cX4_air 12 (.aload_n 0) 1 13 := ⟨by decide +kernel, rfl⟩
theorem dX4_air_13 : mx_at cX4_air 13 (.iload_n 2) 1 14 := ⟨by decide +kernel, rfl⟩
theorem dX4_air_14 : mx_at cX4_air 14 (.invokevirtual 36) 3 17 := ⟨by decide +kernel, rfl⟩
theorem dX4_air_17 : mx_at cX4_air 17 (.ireturn) 1 18 := ⟨by decide +kernel, rfl⟩
theorem dX4_air_18 : mx_at cX4_air 18 (.bipush (-9)) 2 20 := ⟨by decide +kernel, rfl⟩
theorem dX4_air_20 : mx_at cX4_air 20 (.istore_n 3) 1 21 := ⟨by decide +kernel, rfl⟩
theorem dX4_air_21 : mx_at cX4_air 21 (.iconst 0) 1 22 := ⟨by decide +kernel, rfl⟩
theorem dX4_air_22 : mx_at cX4_air 22 (.istore 4) 2 24 := ⟨by decide +kernel, rfl⟩
theorem dX4_air_24 : mx_at cX4_air 24 (.iload 4) 2 26 := ⟨by decide +kernel, rfl⟩
theorem dX4_air_26 : mx_at cX4_air 26 (.iconst 1) 1 27 := ⟨by decide +kernel, rfl⟩
theorem dX4_air_27 : mx_at cX4_air 27 (.aload_n 0) 1 28 := ⟨by decide +kernel, rfl⟩
theorem dX4_air_28 : mx_at cX4_air 28 (.getfield 9) 3 31 := ⟨by decide +kernel, rfl⟩
theorem dX4_air_31 : mx_at cX4_air 31 (.iconst 0) 1 32 := ⟨by decide +kernel, rfl⟩
theorem dX4_air_32 : mx_at cX4_air 32 (.iaload) 1 33 := ⟨by decide +kernel, rfl⟩
theorem dX4_air_33 : mx_at cX4_air 33 (.ishl) 1 34 := ⟨by decide +kernel, rfl⟩
theorem dX4_air_34 : mx_br cX4_air 34 (.if_icmp .ge 92) (92) 3 37 126 := ⟨by decide +kernel, rfl, by decide⟩
theorem dX4_air_37 : mx_at cX4_air 37 (.iload_n 3) 1 38 := ⟨by decide +kernel, rfl⟩
theorem dX4_air_38 : mx_br cX4_air 38 (.ifCond .lt 18) (18) 3 41 56 := ⟨by decide +kernel, rfl, by decide⟩
theorem dX4_air_41 : mx_at cX4_air 41 (.iload 4) 2 43 := ⟨by decide +kernel, rfl⟩
theorem dX4_air_43 : mx_at cX4_air 43 (.invokestatic 138) 3 46 := ⟨by decide +kernel, rfl⟩
theorem dX4_air_46 : mx_at cX4_air 46 (.iload_n 3) 1 47 := ⟨by decide +kernel, rfl⟩
theorem dX4_air_47 : mx_at cX4_air 47 (.invokestatic 138) 3 50 := ⟨by decide +kernel, rfl⟩
theorem dX4_air_50 : mx_br cX4_air 50 (.if_icmp .lt 6) (6) 3 53 56 := ⟨by decide +kernel, rfl, by decide⟩
theorem dX4_air_53 : mx_br cX4_air 53 (.goto 67) (67) 3 56 120 := ⟨by decide +kernel, rfl, by decide⟩
theorem dX4_air_56 : mx_at cX4_air 56 (.aload_n 0) 1 57 := ⟨by decide +kernel, rfl⟩
theorem dX4_air_57 : mx_at cX4_air 57 (.getfield 9) 3 60 := ⟨by decide +kernel, rfl⟩
theorem dX4_air_60 : mx_at cX4_air 60 (.aload_n 0) 1 61 := ⟨by decide +kernel, rfl⟩
theorem dX4_air_61 : mx_at cX4_air 61 (.getfield 13) 3 64 := ⟨by decide +kernel, rfl⟩
theorem dX4_air_64 : mx_at cX4_air 64 (.invokestatic 121) 3 67 := ⟨by decide +kernel, rfl⟩
theorem dX4_air_67 : mx_at cX4_air 67 (.iconst 0) 1 68 := ⟨by decide +kernel, rfl⟩
theorem dX4_air_68 : mx_at cX4_air 68 (.istore 5) 2 70 := ⟨by decide +kernel, rfl⟩
theorem dX4_air_70 : mx_at cX4_air 70 (.iload 5) 2 72 := ⟨by decide +kernel, rfl⟩
theorem dX4_air_72 : mx_at cX4_air 72 (.aload_n 0) 1 73 := ⟨by decide +kernel, rfl⟩
theorem dX4_air_73 : mx_at cX4_air 73 (.getfield 9) 3 76 := ⟨by decide +kernel, rfl⟩
theorem dX4_air_76 : mx_at cX4_air 76 (.iconst 0) 1 77 := ⟨by decide +kernel, rfl⟩
theorem dX4_air_77 : mx_at cX4_air 77 (.iaload) 1 78 := ⟨by decide +kernel, rfl⟩
theorem dX4_air_78 : mx_br cX4_air 78 (.if_icmp .ge 31) (31) 3 81 109 := ⟨by decide +kernel, rfl, by decide⟩
theorem dX4_air_81 : mx_at cX4_air 81 (.iload 4) 2 83 := ⟨by decide +kernel, rfl⟩
theorem dX4_air_83 : mx_at cX4_air 83 (.iload 5) 2 85 := ⟨by decide +kernel, rfl⟩
theorem dX4_air_85 : mx_at cX4_air 85 (.invokestatic 48) 3 88 := ⟨by decide +kernel, rfl⟩
theorem dX4_air_88 : mx_br cX4_air 88 (.ifCond .eq 15) (15) 3 91 103 := ⟨by decide +kernel, rfl, by decide⟩
theorem dX4_air_91 : mx_at cX4_air 91 (.aload_n 0) 1 92 := ⟨by decide +kernel, rfl⟩
theorem dX4_air_92 : mx_at cX4_air 92 (.getfield 13) 3 95 := ⟨by decide +kernel, rfl⟩
theorem dX4_air_95 : mx_at cX4_air 95 (.iload 5) 2 97 := ⟨by decide +kernel, rfl⟩
theorem dX4_air_97 : mx_at cX4_air 97 (.iconst 4) 1 98 := ⟨by decide +kernel, rfl⟩
theorem dX4_air_98 : mx_at cX4_air 98 (.invokestatic 44) 3 101 := ⟨by decide +kernel, rfl⟩
theorem dX4_air_101 : mx_at cX4_air 101 (.iconst 0) 1 102 := ⟨by decide +kernel, rfl⟩
theorem dX4_air_102 : mx_at cX4_air 102 (.iastore) 1 103 := ⟨by decide +kernel, rfl⟩
theorem dX4_air_103 : mx_at cX4_air 103 (.iinc 5 1) 3 106 := ⟨by decide +kernel, rfl⟩
theorem dX4_air_106 : mx_br cX4_air 106 (.goto (-36)) (-36) 3 109 70 := ⟨by decide +kernel, rfl, by decide⟩
theorem dX4_air_109 : mx_at cX4_air 109 (.aload_n 0) 1 110 := ⟨by decide +kernel, rfl⟩
theorem dX4_air_110 : mx_at cX4_air 110 (.iload_n 1) 1 111 := ⟨by decide +kernel, rfl⟩
theorem dX4_air_111 : mx_at cX4_air 111 (.invokevirtual 162) 3 114 := ⟨by decide +kernel, rfl⟩
theorem dX4_air_114 : mx_br cX4_air 114 (.ifCond .eq 6) (6) 3 117 120 := ⟨by decide +kernel, rfl, by decide⟩
theorem dX4_air_117 : mx_at cX4_air 117 (.iload 4) 2 119 := ⟨by decide +kernel, rfl⟩
theorem dX4_air_119 : mx_at cX4_air 119 (.istore_n 3) 1 120 := ⟨by decide +kernel, rfl⟩
theorem dX4_air_120 : mx_at cX4_air 120 (.iinc 4 1) 3 123 := ⟨by decide +kernel, rfl⟩
theorem dX4_air_123 : mx_br cX4_air 123 (.goto (-99)) (-99) 3 126 24 := ⟨by decide +kernel, rfl, by decide⟩
theorem dX4_air_126 : mx_at cX4_air 126 (.iload_n 3) 1 127 := ⟨by decide +kernel, rfl⟩
theorem dX4_air_127 : mx_at cX4_air 127 (.ireturn) 1 128 := ⟨by decide +kernel, rfl⟩
theorem dX4_start_0 : mx_at cX4_start 0 (.iload_n 1) 1 1 := ⟨by decide +kernel, rfl⟩
theorem dX4_start_1 : mx_at cX4_start 1 (.iconst 0) 1 2 := ⟨by decide +kernel, rfl⟩
theorem dX4_start_2 : mx_at cX4_start 2 (.bipush 30) 2 4 := ⟨by decide +kernel, rfl⟩
theorem dX4_start_4 : mx_at cX4_start 4 (.invokestatic 128) 3 7 := ⟨by decide +kernel, rfl⟩
theorem dX4_start_7 : mx_at cX4_start 7 (.istore_n 3) 1 8 := ⟨by decide +kernel, rfl⟩
theorem dX4_start_8 : mx_at cX4_start 8 (.iload_n 3) 1 9 := ⟨by decide +kernel, rfl⟩
theorem dX4_start_9 : mx_br cX4_start 9 (.ifCond .ne 15) (15) 3 12 24 := ⟨by decide +kernel, rfl, by decide⟩
theorem dX4_start_12 : mx_at cX4_start 12 (.iload_n 2) 1 13 := ⟨by decide +kernel, rfl⟩
theorem dX4_start_13 : mx_at cX4_start 13 (.iconst 0) 1 14 := ⟨by decide +kernel, rfl⟩
theorem dX4_start_14 : mx_at cX4_start 14 (.iconst 1) 1 15 := ⟨by decide +kernel, rfl⟩
theorem dX4_start_15 : mx_at cX4_start 15 (.invokestatic 40) 3 18 := ⟨by decide +kernel, rfl⟩
theorem dX4_start_18 : mx_br cX4_start 18 (.ifCond .ne 6) (6) 3 21 24 := ⟨by decide +kernel, rfl, by decide⟩
theorem dX4_start_21 : mx_at cX4_start 21 (.bipush (-2)) 2 23 := ⟨by decide +kernel, rfl⟩
theorem dX4_start_23 : mx_at cX4_start 23 (.istore_n 3) 1 24 := ⟨by decide +kernel, rfl⟩
theorem dX4_start_24 : mx_at cX4_start 24 (.iload_n 3) 1 25 := ⟨by decide +kernel, rfl⟩
theorem dX4_start_25 : mx_br cX4_start 25 (.ifCond .eq 9) (9) 3 28 34 := ⟨by decide +kernel, rfl, by decide⟩
theorem dX4_start_28 : mx_at cX4_start 28 (.aload_n 0) 1 29 := ⟨by decide +kernel, rfl⟩
theorem dX4_start_29 : mx_at cX4_start 29 (.iload_n 3) 1 30 := ⟨by decide +kernel, rfl⟩
theorem dX4_start_30 : mx_at cX4_start 30 (.invokevirtual 36) 3 33 := ⟨by decide +kernel, rfl⟩
theorem dX4_start_33 : mx_at cX4_start 33 (.ireturn) 1 34 := ⟨by decide +kernel, rfl⟩
theorem dX4_start_34 : mx_at cX4_start 34 (.bipush (-9)) 2 36 := ⟨by decide +kernel, rfl⟩
theorem dX4_start_36 : mx_at cX4_start 36 (.istore 4) 2 38 := ⟨by decide +kernel, rfl⟩
theorem dX4_start_38 : mx_at cX4_start 38 (.iconst (-1)) 1 39 := ⟨by decide +kernel, rfl⟩
theorem dX4_start_39 : mx_at cX4_start 39 (.istore 5) 2 41 := ⟨by decide +kernel, rfl⟩
theorem dX4_start_41 : mx_at cX4_start 41 (.iconst 0) 1 42 := ⟨by decide +kernel, rfl⟩
theorem dX4_start_42 : mx_at cX4_start 42 (.istore 6) 2 44 := ⟨by decide +kernel, rfl⟩
theorem dX4_start_44 : mx_at cX4_start 44 (.iload 6) 2 46 := ⟨by decide +kernel, rfl⟩
theorem dX4_start_46 : mx_at cX4_start 46 (.aload_n 0) 1 47 := ⟨by decide +kernel, rfl⟩
theorem dX4_start_47 : mx_at cX4_start 47 (.getfield 9) 3 50 := ⟨by decide +kernel, rfl⟩
theorem dX4_start_50 : mx_at cX4_start 50 (.iconst 0) 1 51 := ⟨by decide +kernel, rfl⟩
theorem dX4_start_51 : mx_at cX4_start 51 (.iaload) 1 52 := ⟨by decide +kernel, rfl⟩
theorem dX4_start_52 : mx_br cX4_start 52 (.if_icmp .ge 68) (68) 3 55 120 := ⟨by decide +kernel, rfl, by decide⟩
theorem dX4_start_55 : mx_at cX4_start 55 (.aload_n 0) 1 56 := ⟨by decide +kernel, rfl⟩
theorem dX4_start_56 : mx_at cX4_start 56 (.getfield 9) 3 59 := ⟨by decide +kernel, rfl⟩
theorem dX4_start_59 : mx_at cX4_start 59 (.aload_n 0) 1 60 := ⟨by decide +kernel, rfl⟩
theorem dX4_start_60 : mx_at cX4_start 60 (.getfield 13) 3 63 := ⟨by decide +kernel, rfl⟩
theorem dX4_start_63 : mx_at cX4_start 63 (.invokestatic 121) 3 66 := ⟨by decide +kernel, rfl⟩
theorem dX4_start_66 : mx_at cX4_start 66 (.aload_n 0) 1 67 := ⟨by decide +kernel, rfl⟩
theorem dX4_start_67 : mx_at cX4_start 67 (.getfield 13) 3 70 := ⟨by decide +kernel, rfl⟩
theorem dX4_start_70 : mx_at cX4_start 70 (.iconst 2) 1 71 := ⟨by decide +kernel, rfl⟩
theorem dX4_start_71 : mx_at cX4_start 71 (.iload 6) 2 73 := ⟨by decide +kernel, rfl⟩
theorem dX4_start_73 : mx_at cX4_start 73 (.iastore) 1 74 := ⟨by decide +kernel, rfl⟩
theorem dX4_start_74 : mx_at cX4_start 74 (.aload_n 0) 1 75 := ⟨by decide +kernel, rfl⟩
theorem dX4_start_75 : mx_at cX4_start 75 (.getfield 13) 3 78 := ⟨by decide +kernel, rfl⟩
theorem dX4_start_78 : mx_at cX4_start 78 (.iload_n 1) 1 79 := ⟨by decide +kernel, rfl⟩
theorem dX4_start_79 : mx_at cX4_start 79 (.invokestatic 115) 3 82 := ⟨by decide +kernel, rfl⟩
theorem dX4_start_82 : mx_at cX4_start 82 (.aload_n 0) 1 83 := ⟨by decide +kernel, rfl⟩
theorem dX4_start_83 : mx_at cX4_start 83 (.getfield 13) 3 86 := ⟨by decide +kernel, rfl⟩
theorem dX4_start_86 : mx_at cX4_start 86 (.iconst 4) 1 87 := ⟨by decide +kernel, rfl⟩
theorem dX4_start_87 : mx_at cX4_start 87 (.iaload) 1 88 := ⟨by decide +kernel, rfl⟩
theorem dX4_start_88 : mx_at cX4_start 88 (.invokestatic 138) 3 91 := ⟨by decide +kernel, rfl⟩
theorem dX4_start_91 : mx_at cX4_start 91 (.iload 5) 2 93 := ⟨by decide +kernel, rfl⟩
theorem dX4_start_93 : mx_br cX4_start 93 (.if_icmp .gt 6) (6) 3 96 99 := ⟨by decide +kernel, rfl, by decide⟩
theorem dX4_start_96 : mx_br cX4_start 96 (.goto 18) (18) 3 99 114 := ⟨by decide +kernel, rfl, by decide⟩
theorem dX4_start_99 : mx_at cX4_start 99 (.iload 6) 2 101 := ⟨by decide +kernel, rfl⟩
theorem dX4_start_101 : mx_at cX4_start 101 (.istore 4) 2 103 := ⟨by decide +kernel, rfl⟩
theorem dX4_start_103 : mx_at cX4_start 103 (.aload_n 0) 1 104 := ⟨by decide +kernel, rfl⟩
theorem dX4_start_104 : mx_at cX4_start 104 (.getfield 13) 3 107 := ⟨by decide +kernel, rfl⟩
theorem dX4_start_107 : mx_at cX4_start 107 (.iconst 4) 1 108 := ⟨by decide +kernel, rfl⟩
theorem dX4_start_108 : mx_at cX4_start 108 (.iaload) 1 109 := ⟨by decide +kernel, rfl⟩
theorem dX4_start_109 : mx_at cX4_start 109 (.invokestatic 138) 3 112 := ⟨by decide +kernel, rfl⟩
theorem dX4_start_112 : mx_at cX4_start 112 (.istore 5) 2 114 := ⟨by decide +kernel, rfl⟩
theorem dX4_start_114 : mx_at cX4_start 114 (.iinc 6 1) 3 117 := ⟨by decide +kernel, rfl⟩
theorem dX4_start_117 : mx_br cX4_start 117 (.goto (-73)) (-73) 3 120 44 := ⟨by decide +kernel, rfl, by decide⟩
theorem dX4_start_120 : mx_at cX4_start 120 (.iload 4) 2 122 := ⟨by decide +kernel, rfl⟩
theorem dX4_start_122 : mx_br cX4_start 122 (.ifCond .lt 7) (7) 3 125 129 := ⟨by decide +kernel, rfl, by decide⟩
theorem dX4_start_125 : mx_at cX4_start 125 (.iload_n 2) 1 126 := ⟨by decide +kernel, rfl⟩
theorem dX4_start_126 : mx_br cX4_start 126 (.ifCond .ne 8) (8) 3 129 134 := ⟨by decide +kernel, rfl, by decide⟩
theorem dX4_start_129 : mx_at cX4_start 129 (.iload 4) 2 131 := ⟨by decide +kernel, rfl⟩
theorem dX4_start_131 : mx_br cX4_start 131 (.goto 5) (5) 3 134 136 := ⟨by decide +kernel, rfl, by decide⟩
theorem dX4_start_134 : mx_at cX4_start 134 (.iload 5) 2 136 := ⟨by decide +kernel, rfl⟩
theorem dX4_start_136 : mx_at cX4_start 136 (.ireturn) 1 137 := ⟨by decide +kernel, rfl⟩
theorem dX4_buy_0 : mx_at cX4_buy 0 (.iload_n 1) 1 1 := ⟨by decide +kernel, rfl⟩
theorem dX4_buy_1 : mx_at cX4_buy 1 (.iconst 0) 1 2 := ⟨by decide +kernel, rfl⟩
theorem dX4_buy_2 : mx_at cX4_buy 2 (.bipush 30) 2 4 := ⟨by decide +kernel, rfl⟩
theorem dX4_buy_4 : mx_at cX4_buy 4 (.invokestatic 128) 3 7 := ⟨by decide +kernel, rfl⟩
theorem dX4_buy_7 : mx_at cX4_buy 7 (.istore_n 2) 1 8 := ⟨by decide +kernel, rfl⟩
theorem dX4_buy_8 : mx_at cX4_buy 8 (.iload_n 2) 1 9 := ⟨by decide +kernel, rfl⟩
theorem dX4_buy_9 : mx_br cX4_buy 9 (.ifCond .eq 9) (9) 3 12 18 := ⟨by decide +kernel, rfl, by decide⟩
theorem dX4_buy_12 : mx_at cX4_buy 12 (.aload_n 0) 1 13 := ⟨by decide +kernel, rfl⟩
theorem dX4_buy_13 : mx_at cX4_buy 13 (.iload_n 2) 1 14 := ⟨by decide +kernel, rfl⟩
theorem dX4_buy_14 : mx_at cX4_buy 14 (.invokevirtual 36) 3 17 := ⟨by decide +kernel, rfl⟩
theorem dX4_buy_17 : mx_at cX4_buy 17 (.ireturn) 1 18 := ⟨by decide +kernel, rfl⟩
theorem dX4_buy_18 : mx_at cX4_buy 18 (.iconst 0) 1 19 := ⟨by decide +kernel, rfl⟩
theorem dX4_buy_19 : mx_at cX4_buy 19 (.istore_n 3) 1 20 := ⟨by decide +kernel, rfl⟩
theorem dX4_buy_20 : mx_at cX4_buy 20 (.iload_n 3) 1 21 := ⟨by decide +kernel, rfl⟩
theorem dX4_buy_21 : mx_at cX4_buy 21 (.sipush 300) 3 24 := ⟨by decide +kernel, rfl⟩
theorem dX4_buy_24 : mx_br cX4_buy 24 (.if_icmp .gt 37) (37) 3 27 61 := ⟨by decide +kernel, rfl, by decide⟩
theorem dX4_buy_27 : mx_at cX4_buy 27 (.aload_n 0) 1 28 := ⟨by decide +kernel, rfl⟩
theorem dX4_buy_28 : mx_at cX4_buy 28 (.getfield 9) 3 31 := ⟨by decide +kernel, rfl⟩
theorem dX4_buy_31 : mx_at cX4_buy 31 (.aload_n 0) 1 32 := ⟨by decide +kernel, rfl⟩
theorem dX4_buy_32 : mx_at cX4_buy 32 (.getfield 13) 3 35 := ⟨by decide +kernel, rfl⟩
theorem dX4_buy_35 : mx_at cX4_buy 35 (.invokestatic 121) 3 38 := ⟨by decide +kernel, rfl⟩
theorem dX4_buy_38 : mx_at cX4_buy 38 (.aload_n 0) 1 39 := ⟨by decide +kernel, rfl⟩
theorem dX4_buy_39 : mx_at cX4_buy 39 (.getfield 13) 3 42 := ⟨by decide +kernel, rfl⟩
theorem dX4_buy_42 : mx_at cX4_buy 42 (.iconst 3) 1 43 := ⟨by decide +kernel, rfl⟩
theorem dX4_buy_43 : mx_at cX4_buy 43 (.iload_n 3) 1 44 := ⟨by decide +kernel, rfl⟩
theorem dX4_buy_44 : mx_at cX4_buy 44 (.iastore) 1 45 := ⟨by decide +kernel, rfl⟩
theorem dX4_buy_45 : mx_at cX4_buy 45 (.aload_n 0) 1 46 := ⟨by decide +kernel, rfl⟩
theorem dX4_buy_46 : mx_at cX4_buy 46 (.iload_n 1) 1 47 := ⟨by decide +kernel, rfl⟩
theorem dX4_buy_47 : mx_at cX4_buy 47 (.invokevirtual 162) 3 50 := ⟨by decide +kernel, rfl⟩
theorem dX4_buy_50 : mx_br cX4_buy 50 (.ifCond .eq 5) (5) 3 53 55 := ⟨by decide +kernel, rfl, by decide⟩
theorem dX4_buy_53 : mx_at cX4_buy 53 (.iload_n 3) 1 54 := ⟨by decide +kernel, rfl⟩
theorem dX4_buy_54 : mx_at cX4_buy 54 (.ireturn) 1 55 := ⟨by decide +kernel, rfl⟩
theorem dX4_buy_55 : mx_at cX4_buy 55 (.iinc 3 1) 3 58 := ⟨by decide +kernel, rfl⟩
theorem dX4_buy_58 : mx_br cX4_buy 58 (.goto (-38)) (-38) 3 61 20 := ⟨by decide +kernel, rfl, by decide⟩
theorem dX4_buy_61 : mx_at cX4_buy 61 (.bipush (-9)) 2 63 := ⟨by decide +kernel, rfl⟩
theorem dX4_buy_63 : mx_at cX4_buy 63 (.ireturn) 1 64 := ⟨by decide +kernel, rfl⟩
theorem dX4_bestKind_0 : mx_at cX4_bestKind 0 (.aload_n 0) 1 1 := ⟨by decide +kernel, rfl⟩
theorem dX4_bestKind_1 : mx_at cX4_bestKind 1 (.iload_n 1) 1 2 := ⟨by decide +kernel, rfl⟩
theorem dX4_bestKind_2 : mx_at cX4_bestKind 2 (.invokevirtual 111) 3 5 := ⟨by decide +kernel, rfl⟩
theorem dX4_bestKind_5 : mx_br cX4_bestKind 5 (.ifCond .ne 9) (9) 3 8 14 := ⟨by decide +kernel, rfl, by decide⟩
theorem dX4_bestKind_8 : mx_at cX4_bestKind 8 (.aload_n 0) 1 9 := ⟨by decide +kernel, rfl⟩
theorem dX4_bestKind_9 : mx_at cX4_bestKind 9 (.iconst (-1)) 1 10 := ⟨by decide +kernel, rfl⟩
theorem dX4_bestKind_10 : mx_at cX4_bestKind 10 (.invokevirtual 36) 3 13 := ⟨by decide +kernel, rfl⟩
theorem dX4_bestKind_13 : mx_at cX4_bestKind 13 (.ireturn) 1 14 := ⟨by decide +kernel, rfl⟩
theorem dX4_bestKind_14 : mx_at cX4_bestKind 14 (.iload_n 2) 1 15 := ⟨by decide +kernel, rfl⟩
theorem dX4_bestKind_15 : mx_at cX4_bestKind 15 (.iconst 0) 1 16 := ⟨by decide +kernel, rfl⟩
theorem dX4_bestKind_16 : mx_at cX4_bestKind 16 (.iconst 1) 1 17 := ⟨by decide +kernel, rfl⟩
theorem dX4_bestKind_17 : mx_at cX4_bestKind 17 (.invokestatic 40) 3 20 := ⟨by decide +kernel, rfl⟩
theorem dX4_bestKind_20 : mx_br cX4_bestKind 20 (.ifCond .ne 10) (10) 3 23 30 := ⟨by decide +kernel, rfl, by decide⟩
theorem dX4_bestKind_23 : mx_at cX4_bestKind 23 (.aload_n 0) 1 24 := ⟨by decide +kernel, rfl⟩
theorem dX4_bestKind_24 : mx_at cX4_bestKind 24 (.bipush (-2)) 2 26 := ⟨by decide +kernel, rfl⟩
theorem dX4_bestKind_26 : mx_at cX4_bestKind 26 (.invokevirtual 36) 3 29 := ⟨by decide +kernel, rfl⟩
theorem dX4_bestKind_29 : mx_at cX4_bestKind 29 (.ireturn) 1 30 := ⟨by decide +kernel, rfl⟩
theorem dX4_bestKind_30 : mx_at cX4_bestKind 30 (.iconst 0) 1 31 := ⟨by decide +kernel, rfl⟩
theorem dX4_bestKind_31 : mx_at cX4_bestKind 31 (.istore_n 3) 1 32 := ⟨by decide +kernel, rfl⟩
theorem dX4_bestKind_32 : mx_at cX4_bestKind 32 (.iconst (-1)) 1 33 := ⟨by decide +kernel, rfl⟩
theorem dX4_bestKind_33 : mx_at cX4_bestKind 33 (.istore 4) 2 35 := ⟨by decide +kernel, rfl⟩
theorem dX4_bestKind_35 : mx_at cX4_bestKind 35 (.iconst 0) 1 36 := ⟨by decide +kernel, rfl⟩
theorem dX4_bestKind_36 : mx_at cX4_bestKind 36 (.istore 5) 2 38 := ⟨by decide +kernel, rfl⟩
theorem dX4_bestKind_38 : mx_at cX4_bestKind 38 (.iload 5) 2 40 := ⟨by decide +kernel, rfl⟩
theorem dX4_bestKind_40 : mx_at cX4_bestKind 40 (.bipush 6) 2 42 := ⟨by decide +kernel, rfl⟩
theorem dX4_bestKind_42 : mx_br cX4_bestKind 42 (.if_icmp .ge 70) (70) 3 45 112 := ⟨by decide +kernel, rfl, by decide⟩
theorem dX4_bestKind_45 : mx_at cX4_bestKind 45 (.aload_n 0) 1 46 := ⟨by decide +kernel, rfl⟩
theorem dX4_bestKind_46 : mx_at cX4_bestKind 46 (.getfield 9) 3 49 := ⟨by decide +kernel, rfl⟩
theorem dX4_bestKind_49 : mx_at cX4_bestKind 49 (.aload_n 0) 1 50 := ⟨by decide +kernel, rfl⟩
theorem dX4_bestKind_50 : mx_at cX4_bestKind 50 (.getfield 13) 3 53 := ⟨by decide +kernel, rfl⟩
theorem dX4_bestKind_53 : mx_at cX4_bestKind 53 (.invokestatic 121) 3 56 := ⟨by decide +kernel, rfl⟩
theorem dX4_bestKind_56 : mx_at cX4_bestKind 56 (.aload_n 0) 1 57 := ⟨by decide +kernel, rfl⟩
theorem dX4_bestKind_57 : mx_at cX4_bestKind 57 (.getfield 13) 3 60 := ⟨by decide +kernel, rfl⟩
theorem dX4_bestKind_60 : mx_at cX4_bestKind 60 (.iload_n 1) 1 61 := ⟨by decide +kernel, rfl⟩
theorem dX4_bestKind_61 : mx_at cX4_bestKind 61 (.iconst 0) 1 62 := ⟨by decide +kernel, rfl⟩
theorem dX4_bestKind_62 : mx_at cX4_bestKind 62 (.invokestatic 44) 3 65 := ⟨by decide +kernel, rfl⟩
theorem dX4_bestKind_65 : mx_at cX4_bestKind 65 (.iload 5) 2 67 := ⟨by decide +kernel, rfl⟩
theorem dX4_bestKind_67 : mx_at cX4_bestKind 67 (.iastore) 1 68 := ⟨by decide +kernel, rfl⟩
theorem dX4_bestKind_68 : mx_at cX4_bestKind 68 (.aload_n 0) 1 69 := ⟨by decide +kernel, rfl⟩
theorem dX4_bestKind_69 : mx_at cX4_bestKind 69 (.iload_n 1) 1 70 := ⟨by decide +kernel, rfl⟩
theorem dX4_bestKind_70 : mx_at cX4_bestKind 70 (.invokevirtual 145) 3 73 := ⟨by decide +kernel, rfl⟩
theorem dX4_bestKind_73 : mx_at cX4_bestKind 73 (.istore 6) 2 75 := ⟨by decide +kernel, rfl⟩
theorem dX4_bestKind_75 : mx_at cX4_bestKind 75 (.iload 6) 2 77 := ⟨by decide +kernel, rfl⟩
theorem dX4_bestKind_77 : mx_br cX4_bestKind 77 (.ifCond .ge 8) (8) 3 80 85 := ⟨by decide +kernel, rfl, by decide⟩
theorem dX4_bestKind_80 : mx_at cX4_bestKind 80 (.bipush 61) 2 82 := ⟨by decide +kernel, rfl⟩
theorem dX4_bestKind_82 : mx_br cX4_bestKind 82 (.goto 5) (5) 3 85 87 := ⟨by decide +kernel, rfl, by decide⟩
theorem dX4_bestKind_85 : mx_at cX4_bestKind 85 (.iload 6) 2 87 := ⟨by decide +kernel, rfl⟩
theorem dX4_bestKind_87 : mx_at cX4_bestKind 87 (.istore 7) 2 89 := ⟨by decide +kernel, rfl⟩
theorem dX4_bestKind_89 : mx_at cX4_bestKind 89 (.iload 7) 2 91 := ⟨by decide +kernel, rfl⟩
theorem dX4_bestKind_91 : mx_at cX4_bestKind 91 (.iload 4) 2 93 := ⟨by decide +kernel, rfl⟩
theorem dX4_bestKind_93 : mx_br cX4_bestKind 93 (.if_icmp .gt 6) (6) 3 96 99 := ⟨by decide +kernel, rfl, by decide⟩
theorem dX4_bestKind_96 : mx_br cX4_bestKind 96 (.goto 10) (10) 3 99 106 := ⟨by decide +kernel, rfl, by decide⟩
theorem dX4_bestKind_99 : mx_at cX4_bestKind 99 (.iload 5) 2 101 := ⟨by decide +kernel, rfl⟩
theorem dX4_bestKind_101 : mx_at cX4_bestKind 101 (.istore_n 3) 1 102 := ⟨by decide +kernel, rfl⟩
theorem dX4_bestKind_102 : mx_at cX4_bestKind 102 (.iload 7) 2 104 := ⟨by decide +kernel, rfl⟩
theorem dX4_bestKind_104 : mx_at cX4_bestKind 104 (.istore 4) 2 106 := ⟨by decide +kernel, rfl⟩
theorem dX4_bestKind_106 : mx_at cX4_bestKind 106 (.iinc 5 1) 3 109 := ⟨by decide +kernel, rfl⟩
theorem dX4_bestKind_109 : mx_br cX4_bestKind 109 (.goto (-71)) (-71) 3 112 38 := ⟨by decide +kernel, rfl, by decide⟩
theorem dX4_bestKind_112 : mx_at cX4_bestKind 112 (.iload_n 2) 1 113 := ⟨by decide +kernel, rfl⟩
theorem dX4_bestKind_113 : mx_br cX4_bestKind 113 (.ifCond .ne 7) (7) 3 116 120 := ⟨by decide +kernel, rfl, by decide⟩
theorem dX4_bestKind_116 : mx_at cX4_bestKind 116 (.iload_n 3) 1 117 := ⟨by decide +kernel, rfl⟩
theorem dX4_bestKind_117 : mx_br cX4_bestKind 117 (.goto 17) (17) 3 120 134 := ⟨by decide +kernel, rfl, by decide⟩
theorem dX4_bestKind_120 : mx_at cX4_bestKind 120 (.iload 4) 2 122 := ⟨by decide +kernel, rfl⟩
theorem dX4_bestKind_122 : mx_at cX4_bestKind 122 (.bipush 60) 2 124 := ⟨by decide +kernel, rfl⟩
theorem dX4_bestKind_124 : mx_br cX4_bestKind 124 (.if_icmp .le 8) (8) 3 127 132 := ⟨by decide +kernel, rfl, by decide⟩
theorem dX4_bestKind_127 : mx_at cX4_bestKind 127 (.bipush (-9)) 2 129 := ⟨by decide +kernel, rfl⟩
theorem dX4_bestKind_129 : mx_br cX4_bestKind 129 (.goto 5) (5) 3 132 134 := ⟨by decide +kernel, rfl, by decide⟩
theorem dX4_bestKind_132 : mx_at cX4_bestKind 132 (.iload 4) 2 134 := ⟨by decide +kernel, rfl⟩
theorem dX4_bestKind_134 : mx_at cX4_bestKind 134 (.ireturn) 1 135 := ⟨by decide +kernel, rfl⟩
theorem dX4_spareOnes_0 : mx_at cX4_spareOnes 0 (.iconst 0) 1 1 := ⟨by decide +kernel, rfl⟩
theorem dX4_spareOnes_1 : mx_at cX4_spareOnes 1 (.istore_n 1) 1 2 := ⟨by decide +kernel, rfl⟩
theorem dX4_spareOnes_2 : mx_at cX4_spareOnes 2 (.iconst 0) 1 3 := ⟨by decide +kernel, rfl⟩
theorem dX4_spareOnes_3 : mx_at cX4_spareOnes 3 (.istore_n 2) 1 4 := ⟨by decide +kernel, rfl⟩
theorem dX4_spareOnes_4 : mx_at cX4_spareOnes 4 (.iload_n 2) 1 5 := ⟨by decide +kernel, rfl⟩
theorem dX4_spareOnes_5 : mx_at cX4_spareOnes 5 (.aload_n 0) 1 6 := ⟨by decide +kernel, rfl⟩
theorem dX4_spareOnes_6 : mx_at cX4_spareOnes 6 (.getfield 9) 3 9 := ⟨by decide +kernel, rfl⟩
theorem dX4_spareOnes_9 : mx_at cX4_spareOnes 9 (.iconst 0) 1 10 := ⟨by decide +kernel, rfl⟩
theorem dX4_spareOnes_10 : mx_at cX4_spareOnes 10 (.iaload) 1 11 := ⟨by decide +kernel, rfl⟩
theorem dX4_spareOnes_11 : mx_br cX4_spareOnes 11 (.if_icmp .ge 59) (59) 3 14 70 := ⟨by decide +kernel, rfl, by decide⟩
theorem dX4_spareOnes_14 : mx_at cX4_spareOnes 14 (.iload_n 1) 1 15 := ⟨by decide +kernel, rfl⟩
theorem dX4_spareOnes_15 : mx_at cX4_spareOnes 15 (.aload_n 0) 1 16 := ⟨by decide +kernel, rfl⟩
theorem dX4_spareOnes_16 : mx_at cX4_spareOnes 16 (.getfield 9) 3 19 := ⟨by decide +kernel, rfl⟩
theorem dX4_spareOnes_19 : mx_at cX4_spareOnes 19 (.iconst 4) 1 20 := ⟨by decide +kernel, rfl⟩
theorem dX4_spareOnes_20 : mx_at cX4_spareOnes 20 (.iaload) 1 21 := ⟨by decide +kernel, rfl⟩
theorem dX4_spareOnes_21 : mx_at cX4_spareOnes 21 (.iload_n 2) 1 22 := ⟨by decide +kernel, rfl⟩
theorem dX4_spareOnes_22 : mx_at cX4_spareOnes 22 (.invokestatic 48) 3 25 := ⟨by decide +kernel, rfl⟩
theorem dX4_spareOnes_25 : mx_br cX4_spareOnes 25 (.ifCond .eq 36) (36) 3 28 61 := ⟨by decide +kernel, rfl, by decide⟩
theorem dX4_spareOnes_28 : mx_at cX4_spareOnes 28 (.aload_n 0) 1 29 := ⟨by decide +kernel, rfl⟩
theorem dX4_spareOnes_29 : mx_at cX4_spareOnes 29 (.getfield 9) 3 32 := ⟨by decide +kernel, rfl⟩
theorem dX4_spareOnes_32 : mx_at cX4_spareOnes 32 (.iload_n 2) 1 33 := ⟨by decide +kernel, rfl⟩
theorem dX4_spareOnes_33 : mx_at cX4_spareOnes 33 (.invokestatic 52) 3 36 := ⟨by decide +kernel, rfl⟩
theorem dX4_spareOnes_36 : mx_at cX4_spareOnes 36 (.aload_n 0) 1 37 := ⟨by decide +kernel, rfl⟩
theorem dX4_spareOnes_37 : mx_at cX4_spareOnes 37 (.getfield 9) 3 40 := ⟨by decide +kernel, rfl⟩
theorem dX4_spareOnes_40 : mx_at cX4_spareOnes 40 (.iload_n 2) 1 41 := ⟨by decide +kernel, rfl⟩
theorem dX4_spareOnes_41 : mx_at cX4_spareOnes 41 (.iconst 2) 1 42 := ⟨by decide +kernel, rfl⟩
theorem dX4_spareOnes_42 : mx_at cX4_spareOnes 42 (.invokestatic 44) 3 45 := ⟨by decide +kernel, rfl⟩
theorem dX4_spareOnes_45 : mx_at cX4_spareOnes 45 (.iaload) 1 46 := ⟨by decide +kernel, rfl⟩
theorem dX4_spareOnes_46 : mx_at cX4_spareOnes 46 (.imul) 1 47 := ⟨by decide +kernel, rfl⟩
theorem dX4_spareOnes_47 : mx_at cX4_spareOnes 47 (.aload_n 0) 1 48 := ⟨by decide +kernel, rfl⟩
theorem dX4_spareOnes_48 : mx_at cX4_spareOnes 48 (.getfield 9) 3 51 := ⟨by decide +kernel, rfl⟩
theorem dX4_spareOnes_51 : mx_at cX4_spareOnes 51 (.iload_n 2) 1 52 := ⟨by decide +kernel, rfl⟩
theorem dX4_spareOnes_52 : mx_at cX4_spareOnes 52 (.iconst 3) 1 53 := ⟨by decide +kernel, rfl⟩
theorem dX4_spareOnes_53 : mx_at cX4_spareOnes 53 (.invokestatic 44) 3 56 := ⟨by decide +kernel, rfl⟩
theorem dX4_spareOnes_56 : mx_at cX4_spareOnes 56 (.iaload) 1 57 := ⟨by decide +kernel, rfl⟩
theorem dX4_spareOnes_57 : mx_at cX4_spareOnes 57 (.isub) 1 58 := ⟨by decide +kernel, rfl⟩
theorem dX4_spareOnes_58 : mx_br cX4_spareOnes 58 (.goto 4) (4) 3 61 62 := ⟨by decide +kernel, rfl, by decide⟩
theorem dX4_spareOnes_61 : mx_at cX4_spareOnes 61 (.iconst 0) 1 62 := ⟨by decide +kernel, rfl⟩
theorem dX4_spareOnes_62 : mx_at cX4_spareOnes 62 (.iadd) 1 63 := ⟨by decide +kernel, rfl⟩
theorem dX4_spareOnes_63 : mx_at cX4_spareOnes 63 (.istore_n 1) 1 64 := ⟨by decide +kernel, rfl⟩
theorem dX4_spareOnes_64 : mx_at cX4_spareOnes 64 (.iinc 2 1) 3 67 := ⟨by decide +kernel, rfl⟩
theorem dX4_spareOnes_67 : mx_br cX4_spareOnes 67 (.goto (-63)) (-63) 3 70 4 := ⟨by decide +kernel, rfl, by decide⟩
theorem dX4_spareOnes_70 : mx_at cX4_spareOnes 70 (.iload_n 1) 1 71 := ⟨by decide +kernel, rfl⟩
theorem dX4_spareOnes_71 : mx_at cX4_spareOnes 71 (.ireturn) 1 72 := ⟨by decide +kernel, rfl⟩
theorem dX4_fullest_0 : mx_at cX4_fullest 0 (.bipush (-9)) 2 2 := ⟨by decide +kernel, rfl⟩
theorem dX4_fullest_2 : mx_at cX4_fullest 2 (.istore_n 1) 1 3 := ⟨by decide +kernel, rfl⟩
theorem dX4_fullest_3 : mx_at cX4_fullest 3 (.iconst 0) 1 4 := ⟨by decide +kernel, rfl⟩
theorem dX4_fullest_4 : mx_at cX4_fullest 4 (.istore_n 2) 1 5 := ⟨by decide +kernel, rfl⟩
theorem dX4_fullest_5 : mx_at cX4_fullest 5 (.iload_n 2) 1 6 := ⟨by decide +kernel, rfl⟩
theorem dX4_fullest_6 : mx_at cX4_fullest 6 (.aload_n 0) 1 7 := ⟨by decide +kernel, rfl⟩
theorem dX4_fullest_7 : mx_at cX4_fullest 7 (.getfield 9) 3 10 := ⟨by decide +kernel, rfl⟩
theorem dX4_fullest_10 : mx_at cX4_fullest 10 (.iconst 0) 1 11 := ⟨by decide +kernel, rfl⟩
theorem dX4_fullest_11 : mx_at cX4_fullest 11 (.iaload) 1 12 := ⟨by decide +kernel, rfl⟩
theorem dX4_fullest_12 : mx_br cX4_fullest 12 (.if_icmp .ge 47) (47) 3 15 59 := ⟨by decide +kernel, rfl, by decide⟩
theorem dX4_fullest_15 : mx_at cX4_fullest 15 (.aload_n 0) 1 16 := ⟨by decide +kernel, rfl⟩
theorem dX4_fullest_16 : mx_at cX4_fullest 16 (.getfield 9) 3 19 := ⟨by decide +kernel, rfl⟩
theorem dX4_fullest_19 : mx_at cX4_fullest 19 (.iconst 4) 1 20 := ⟨by decide +kernel, rfl⟩
theorem dX4_fullest_20 : mx_at cX4_fullest 20 (.iaload) 1 21 := ⟨by decide +kernel, rfl⟩
theorem dX4_fullest_21 : mx_at cX4_fullest 21 (.iload_n 2) 1 22 := ⟨by decide +kernel, rfl⟩
theorem dX4_fullest_22 : mx_at cX4_fullest 22 (.invokestatic 48) 3 25 := ⟨by decide +kernel, rfl⟩
theorem dX4_fullest_25 : mx_br cX4_fullest 25 (.ifCond .eq 28) (28) 3 28 53 := ⟨by decide +kernel, rfl, by decide⟩
theorem dX4_fullest_28 : mx_at cX4_fullest 28 (.iload_n 1) 1 29 := ⟨by decide +kernel, rfl⟩
theorem dX4_fullest_29 : mx_br cX4_fullest 29 (.ifCond .lt 22) (22) 3 32 51 := ⟨by decide +kernel, rfl, by decide⟩
theorem dX4_fullest_32 : mx_at cX4_fullest 32 (.aload_n 0) 1 33 := ⟨by decide +kernel, rfl⟩
theorem dX4_fullest_33 : mx_at cX4_fullest 33 (.getfield 9) 3 36 := ⟨by decide +kernel, rfl⟩
theorem dX4_fullest_36 : mx_at cX4_fullest 36 (.iload_n 2) 1 37 := ⟨by decide +kernel, rfl⟩
theorem dX4_fullest_37 : mx_at cX4_fullest 37 (.invokestatic 52) 3 40 := ⟨by decide +kernel, rfl⟩
theorem dX4_fullest_40 : mx_at cX4_fullest 40 (.aload_n 0) 1 41 := ⟨by decide +kernel, rfl⟩
theorem dX4_fullest_41 : mx_at cX4_fullest 41 (.getfield 9) 3 44 := ⟨by decide +kernel, rfl⟩
theorem dX4_fullest_44 : mx_at cX4_fullest 44 (.iload_n 1) 1 45 := ⟨by decide +kernel, rfl⟩
theorem dX4_fullest_45 : mx_at cX4_fullest 45 (.invokestatic 52) 3 48 := ⟨by decide +kernel, rfl⟩
theorem dX4_fullest_48 : mx_br cX4_fullest 48 (.if_icmp .le 5) (5) 3 51 53 := ⟨by decide +kernel, rfl, by decide⟩
theorem dX4_fullest_51 : mx_at cX4_fullest 51 (.iload_n 2) 1 52 := ⟨by decide +kernel, rfl⟩
theorem dX4_fullest_52 : mx_at cX4_fullest 52 (.istore_n 1) 1 53 := ⟨by decide +kernel, rfl⟩
theorem dX4_fullest_53 : mx_at cX4_fullest 53 (.iinc 2 1) 3 56 := ⟨by decide +kernel, rfl⟩
theorem dX4_fullest_56 : mx_br cX4_fullest 56 (.goto (-51)) (-51) 3 59 5 := ⟨by decide +kernel, rfl, by decide⟩
theorem dX4_fullest_59 : mx_at cX4_fullest 59 (.iload_n 1) 1 60 := ⟨by decide +kernel, rfl⟩
theorem dX4_fullest_60 : mx_at cX4_fullest 60 (.ireturn) 1 61 := ⟨by decide +kernel, rfl⟩
theorem dX4_dustiest_0 : mx_at cX4_dustiest 0 (.bipush (-9)) 2 2 := ⟨by decide +kernel, rfl⟩
theorem dX4_dustiest_2 : mx_at cX4_dustiest 2 (.istore_n 1) 1 3 := ⟨by decide +kernel, rfl⟩
theorem dX4_dustiest_3 : mx_at cX4_dustiest 3 (.iconst 0) 1 4 := ⟨by decide +kernel, rfl⟩
theorem dX4_dustiest_4 : mx_at cX4_dustiest 4 (.istore_n 2) 1 5 := ⟨by decide +kernel, rfl⟩
theorem dX4_dustiest_5 : mx_at cX4_dustiest 5 (.iload_n 2) 1 6 := ⟨by decide +kernel, rfl⟩
theorem dX4_dustiest_6 : mx_at cX4_dustiest 6 (.aload_n 0) 1 7 := ⟨by decide +kernel, rfl⟩
theorem dX4_dustiest_7 : mx_at cX4_dustiest 7 (.getfield 9) 3 10 := ⟨by decide +kernel, rfl⟩
theorem dX4_dustiest_10 : mx_at cX4_dustiest 10 (.iconst 0) 1 11 := ⟨by decide +kernel, rfl⟩
theorem dX4_dustiest_11 : mx_at cX4_dustiest 11 (.iaload) 1 12 := ⟨by decide +kernel, rfl⟩
theorem dX4_dustiest_12 : mx_br cX4_dustiest 12 (.if_icmp .ge 51) (51) 3 15 63 := ⟨by decide +kernel, rfl, by decide⟩
theorem dX4_dustiest_15 : mx_at cX4_dustiest 15 (.aload_n 0) 1 16 := ⟨by decide +kernel, rfl⟩
theorem dX4_dustiest_16 : mx_at cX4_dustiest 16 (.getfield 9) 3 19 := ⟨by decide +kernel, rfl⟩
theorem dX4_dustiest_19 : mx_at cX4_dustiest 19 (.iconst 4) 1 20 := ⟨by decide +kernel, rfl⟩
theorem dX4_dustiest_20 : mx_at cX4_dustiest 20 (.iaload) 1 21 := ⟨by decide +kernel, rfl⟩
theorem dX4_dustiest_21 : mx_at cX4_dustiest 21 (.iload_n 2) 1 22 := ⟨by decide +kernel, rfl⟩
theorem dX4_dustiest_22 : mx_at cX4_dustiest 22 (.invokestatic 48) 3 25 := ⟨by decide +kernel, rfl⟩
theorem dX4_dustiest_25 : mx_br cX4_dustiest 25 (.ifCond .eq 32) (32) 3 28 57 := ⟨by decide +kernel, rfl, by decide⟩
theorem dX4_dustiest_28 : mx_at cX4_dustiest 28 (.iload_n 1) 1 29 := ⟨by decide +kernel, rfl⟩
theorem dX4_dustiest_29 : mx_br cX4_dustiest 29 (.ifCond .lt 26) (26) 3 32 55 := ⟨by decide +kernel, rfl, by decide⟩
theorem dX4_dustiest_32 : mx_at cX4_dustiest 32 (.aload_n 0) 1 33 := ⟨by decide +kernel, rfl⟩
theorem dX4_dustiest_33 : mx_at cX4_dustiest 33 (.getfield 9) 3 36 := ⟨by decide +kernel, rfl⟩
theorem dX4_dustiest_36 : mx_at cX4_dustiest 36 (.iload_n 2) 1 37 := ⟨by decide +kernel, rfl⟩
theorem dX4_dustiest_37 : mx_at cX4_dustiest 37 (.iconst 4) 1 38 := ⟨by decide +kernel, rfl⟩
theorem dX4_dustiest_38 : mx_at cX4_dustiest 38 (.invokestatic 44) 3 41 := ⟨by decide +kernel, rfl⟩
theorem dX4_dustiest_41 : mx_at cX4_dustiest 41 (.iaload) 1 42 := ⟨by decide +kernel, rfl⟩
theorem dX4_dustiest_42 : mx_at cX4_dustiest 42 (.aload_n 0) 1 43 := ⟨by decide +kernel, rfl⟩
theorem dX4_dustiest_43 : mx_at cX4_dustiest 43 (.getfield 9) 3 46 := ⟨by decide +kernel, rfl⟩
theorem dX4_dustiest_46 : mx_at cX4_dustiest 46 (.iload_n 1) 1 47 := ⟨by decide +kernel, rfl⟩
theorem dX4_dustiest_47 : mx_at cX4_dustiest 47 (.iconst 4) 1 48 := ⟨by decide +kernel, rfl⟩
theorem dX4_dustiest_48 : mx_at cX4_dustiest 48 (.invokestatic 44) 3 51 := ⟨by decide +kernel, rfl⟩
theorem dX4_dustiest_51 : mx_at cX4_dustiest 51 (.iaload) 1 52 := ⟨by decide +kernel, rfl⟩
theorem dX4_dustiest_52 : mx_br cX4_dustiest 52 (.if_icmp .le 5) (5) 3 55 57 := ⟨by decide +kernel, rfl, by decide⟩
theorem dX4_dustiest_55 : mx_at cX4_dustiest 55 (.iload_n 2) 1 56 := ⟨by decide +kernel, rfl⟩
theorem dX4_dustiest_56 : mx_at cX4_dustiest 56 (.istore_n 1) 1 57 := ⟨by decide +kernel, rfl⟩
theorem dX4_dustiest_57 : mx_at cX4_dustiest 57 (.iinc 2 1) 3 60 := ⟨by decide +kernel, rfl⟩
theorem dX4_dustiest_60 : mx_br cX4_dustiest 60 (.goto (-55)) (-55) 3 63 5 := ⟨by decide +kernel, rfl, by decide⟩
theorem dX4_dustiest_63 : mx_at cX4_dustiest 63 (.iload_n 1) 1 64 := ⟨by decide +kernel, rfl⟩
theorem dX4_dustiest_64 : mx_at cX4_dustiest 64 (.ireturn) 1 65 := ⟨by decide +kernel, rfl⟩
theorem dX4_spare_0 : mx_at cX4_spare 0 (.iload_n 1) 1 1 := ⟨by decide +kernel, rfl⟩
theorem dX4_spare_1 : decode cX4_spare 1 = .ok (.tableswitch 88 0 4 #[35, 40, 45, 50, 58], 35) := by decide +kernel
theorem dX4_spare_36 : mx_at cX4_spare 36 (.aload_n 0) 1 37 := ⟨by decide +kernel, rfl⟩
theorem dX4_spare_37 : mx_at cX4_spare 37 (.invokevirtual 165) 3 40 := ⟨by decide +kernel, rfl⟩
theorem dX4_spare_40 : mx_at cX4_spare 40 (.ireturn) 1 41 := ⟨by decide +kernel, rfl⟩
theorem dX4_spare_41 : mx_at cX4_spare 41 (.aload_n 0) 1 42 := ⟨by decide +kernel, rfl⟩
theorem dX4_spare_42 : mx_at cX4_spare 42 (.invokevirtual 168) 3 45 := ⟨by decide +kernel, rfl⟩
theorem dX4_spare_45 : mx_at cX4_spare 45 (.ireturn) 1 46 := ⟨by decide +kernel, rfl⟩
theorem dX4_spare_46 : mx_at cX4_spare 46 (.aload_n 0) 1 47 := ⟨by decide +kernel, rfl⟩
theorem dX4_spare_47 : mx_at cX4_spare 47 (.invokevirtual 171) 3 50 := ⟨by decide +kernel, rfl⟩
theorem dX4_spare_50 : mx_at cX4_spare 50 (.ireturn) 1 51 := ⟨by decide +kernel, rfl⟩
theorem dX4_spare_51 : mx_at cX4_spare 51 (.aload_n 0) 1 52 := ⟨by decide +kernel, rfl⟩
theorem dX4_spare_52 : mx_at cX4_spare 52 (.getfield 9) 3 55 := ⟨by decide +kernel, rfl⟩
theorem dX4_spare_55 : mx_at cX4_spare 55 (.invokestatic 155) 3 58 := ⟨by decide +kernel, rfl⟩
theorem dX4_spare_58 : mx_at cX4_spare 58 (.ireturn) 1 59 := ⟨by decide +kernel, rfl⟩
theorem dX4_spare_59 : mx_at cX4_spare 59 (.aload_n 0) 1 60 := ⟨by decide +kernel, rfl⟩
theorem dX4_spare_60 : mx_at cX4_spare 60 (.getfield 9) 3 63 := ⟨by decide +kernel, rfl⟩
theorem dX4_spare_63 : mx_at cX4_spare 63 (.invokestatic 155) 3 66 := ⟨by decide +kernel, rfl⟩
theorem dX4_spare_66 : mx_br cX4_spare 66 (.ifCond .ne 8) (8) 3 69 74 := ⟨by decide +kernel, rfl, by decide⟩
theorem dX4_spare_69 : mx_at cX4_spare 69 (.bipush 99) 2 71 := ⟨by decide +kernel, rfl⟩
theorem dX4_spare_71 : mx_br cX4_spare 71 (.goto 17) (17) 3 74 88 := ⟨by decide +kernel, rfl, by decide⟩
theorem dX4_spare_74 : mx_at cX4_spare 74 (.aload_n 0) 1 75 := ⟨by decide +kernel, rfl⟩
theorem dX4_spare_75 : mx_at cX4_spare 75 (.getfield 9) 3 78 := ⟨by decide +kernel, rfl⟩
theorem dX4_spare_78 : mx_at cX4_spare 78 (.iconst 3) 1 79 := ⟨by decide +kernel, rfl⟩
theorem dX4_spare_79 : mx_at cX4_spare 79 (.iaload) 1 80 := ⟨by decide +kernel, rfl⟩
theorem dX4_spare_80 : mx_at cX4_spare 80 (.aload_n 0) 1 81 := ⟨by decide +kernel, rfl⟩
theorem dX4_spare_81 : mx_at cX4_spare 81 (.getfield 9) 3 84 := ⟨by decide +kernel, rfl⟩
theorem dX4_spare_84 : mx_at cX4_spare 84 (.invokestatic 155) 3 87 := ⟨by decide +kernel, rfl⟩
theorem dX4_spare_87 : mx_at cX4_spare 87 (.idiv) 1 88 := ⟨by decide +kernel, rfl⟩
theorem dX4_spare_88 : mx_at cX4_spare 88 (.ireturn) 1 89 := ⟨by decide +kernel, rfl⟩
theorem dX4_spare_89 : mx_at cX4_spare 89 (.aload_n 0) 1 90 := ⟨by decide +kernel, rfl⟩
theorem dX4_spare_90 : mx_at cX4_spare 90 (.bipush (-2)) 2 92 := ⟨by decide +kernel, rfl⟩
theorem dX4_spare_92 : mx_at cX4_spare 92 (.invokevirtual 36) 3 95 := ⟨by decide +kernel, rfl⟩
theorem dX4_spare_95 : mx_at cX4_spare 95 (.ireturn) 1 96 := ⟨by decide +kernel, rfl⟩
theorem dX4_next_0 : mx_at cX4_next 0 (.aload_n 0) 1 1 := ⟨by decide +kernel, rfl⟩
theorem dX4_next_1 : mx_at cX4_next 1 (.iload_n 1) 1 2 := ⟨by decide +kernel, rfl⟩
theorem dX4_next_2 : mx_at cX4_next 2 (.invokevirtual 111) 3 5 := ⟨by decide +kernel, rfl⟩
theorem dX4_next_5 : mx_br cX4_next 5 (.ifCond .eq 14) (14) 3 8 19 := ⟨by decide +kernel, rfl, by decide⟩
theorem dX4_next_8 : mx_at cX4_next 8 (.aload_n 0) 1 9 := ⟨by decide +kernel, rfl⟩
theorem dX4_next_9 : mx_at cX4_next 9 (.getfield 9) 3 12 := ⟨by decide +kernel, rfl⟩
theorem dX4_next_12 : mx_at cX4_next 12 (.iload_n 1) 1 13 := ⟨by decide +kernel, rfl⟩
theorem dX4_next_13 : mx_at cX4_next 13 (.invokestatic 73) 3 16 := ⟨by decide +kernel, rfl⟩
theorem dX4_next_16 : mx_br cX4_next 16 (.goto 8) (8) 3 19 24 := ⟨by decide +kernel, rfl, by decide⟩
theorem dX4_next_19 : mx_at cX4_next 19 (.aload_n 0) 1 20 := ⟨by decide +kernel, rfl⟩
theorem dX4_next_20 : mx_at cX4_next 20 (.iconst (-1)) 1 21 := ⟨by decide +kernel, rfl⟩
theorem dX4_next_21 : mx_at cX4_next 21 (.invokevirtual 36) 3 24 := ⟨by decide +kernel, rfl⟩
theorem dX4_next_24 : mx_at cX4_next 24 (.ireturn) 1 25 := ⟨by decide +kernel, rfl⟩
theorem dX4_lostRun_0 : mx_at cX4_lostRun 0 (.iconst 0) 1 1 := ⟨by decide +kernel, rfl⟩
theorem dX4_lostRun_1 : mx_at cX4_lostRun 1 (.istore_n 1) 1 2 := ⟨by decide +kernel, rfl⟩
theorem dX4_lostRun_2 : mx_at cX4_lostRun 2 (.iconst 0) 1 3 := ⟨by decide +kernel, rfl⟩
theorem dX4_lostRun_3 : mx_at cX4_lostRun 3 (.istore_n 2) 1 4 := ⟨by decide +kernel, rfl⟩
theorem dX4_lostRun_4 : mx_at cX4_lostRun 4 (.iconst 0) 1 5 := ⟨by decide +kernel, rfl⟩
theorem dX4_lostRun_5 : mx_at cX4_lostRun 5 (.istore_n 3) 1 6 := ⟨by decide +kernel, rfl⟩
theorem dX4_lostRun_6 : mx_at cX4_lostRun 6 (.iload_n 3) 1 7 := ⟨by decide +kernel, rfl⟩
theorem dX4_lostRun_7 : mx_at cX4_lostRun 7 (.iconst 2) 1 8 := ⟨by decide +kernel, rfl⟩
theorem dX4_lostRun_8 : mx_at cX4_lostRun 8 (.aload_n 0) 1 9 := ⟨by decide +kernel, rfl⟩
theorem dX4_lostRun_9 : mx_at cX4_lostRun 9 (.getfield 9) 3 12 := ⟨by decide +kernel, rfl⟩
theorem dX4_lostRun_12 : mx_at cX4_lostRun 12 (.iconst 0) 1 13 := ⟨by decide +kernel, rfl⟩
theorem dX4_lostRun_13 : mx_at cX4_lostRun 13 (.iaload) 1 14 := ⟨by decide +kernel, rfl⟩
theorem dX4_lostRun_14 : mx_at cX4_lostRun 14 (.imul) 1 15 := ⟨by decide +kernel, rfl⟩
theorem dX4_lostRun_15 : mx_br cX4_lostRun 15 (.if_icmp .ge 48) (48) 3 18 63 := ⟨by decide +kernel, rfl, by decide⟩
theorem dX4_lostRun_18 : mx_at cX4_lostRun 18 (.aload_n 0) 1 19 := ⟨by decide +kernel, rfl⟩
theorem dX4_lostRun_19 : mx_at cX4_lostRun 19 (.getfield 9) 3 22 := ⟨by decide +kernel, rfl⟩
theorem dX4_lostRun_22 : mx_at cX4_lostRun 22 (.iconst 4) 1 23 := ⟨by decide +kernel, rfl⟩
theorem dX4_lostRun_23 : mx_at cX4_lostRun 23 (.iaload) 1 24 := ⟨by decide +kernel, rfl⟩
theorem dX4_lostRun_24 : mx_at cX4_lostRun 24 (.iload_n 3) 1 25 := ⟨by decide +kernel, rfl⟩
theorem dX4_lostRun_25 : mx_at cX4_lostRun 25 (.aload_n 0) 1 26 := ⟨by decide +kernel, rfl⟩
theorem dX4_lostRun_26 : mx_at cX4_lostRun 26 (.getfield 9) 3 29 := ⟨by decide +kernel, rfl⟩
theorem dX4_lostRun_29 : mx_at cX4_lostRun 29 (.iconst 0) 1 30 := ⟨by decide +kernel, rfl⟩
theorem dX4_lostRun_30 : mx_at cX4_lostRun 30 (.iaload) 1 31 := ⟨by decide +kernel, rfl⟩
theorem dX4_lostRun_31 : mx_at cX4_lostRun 31 (.irem) 1 32 := ⟨by decide +kernel, rfl⟩
theorem dX4_lostRun_32 : mx_at cX4_lostRun 32 (.invokestatic 48) 3 35 := ⟨by decide +kernel, rfl⟩
theorem dX4_lostRun_35 : mx_br cX4_lostRun 35 (.ifCond .eq 7) (7) 3 38 42 := ⟨by decide +kernel, rfl, by decide⟩
theorem dX4_lostRun_38 : mx_at cX4_lostRun 38 (.iconst 0) 1 39 := ⟨by decide +kernel, rfl⟩
theorem dX4_lostRun_39 : mx_br cX4_lostRun 39 (.goto 6) (6) 3 42 45 := ⟨by decide +kernel, rfl, by decide⟩
theorem dX4_lostRun_42 : mx_at cX4_lostRun 42 (.iload_n 2) 1 43 := ⟨by decide +kernel, rfl⟩
theorem dX4_lostRun_43 : mx_at cX4_lostRun 43 (.iconst 1) 1 44 := ⟨by decide +kernel, rfl⟩
theorem dX4_lostRun_44 : mx_at cX4_lostRun 44 (.iadd) 1 45 := ⟨by decide +kernel, rfl⟩
theorem dX4_lostRun_45 : mx_at cX4_lostRun 45 (.istore_n 2) 1 46 := ⟨by decide +kernel, rfl⟩
theorem dX4_lostRun_46 : mx_at cX4_lostRun 46 (.iload_n 2) 1 47 := ⟨by decide +kernel, rfl⟩
theorem dX4_lostRun_47 : mx_at cX4_lostRun 47 (.iload_n 1) 1 48 := ⟨by decide +kernel, rfl⟩
theorem dX4_lostRun_48 : mx_br cX4_lostRun 48 (.if_icmp .le 7) (7) 3 51 55 := ⟨by decide +kernel, rfl, by decide⟩
theorem dX4_lostRun_51 : mx_at cX4_lostRun 51 (.iload_n 2) 1 52 := ⟨by decide +kernel, rfl⟩
theorem dX4_lostRun_52 : mx_br cX4_lostRun 52 (.goto 4) (4) 3 55 56 := ⟨by decide +kernel, rfl, by decide⟩
theorem dX4_lostRun_55 : mx_at cX4_lostRun 55 (.iload_n 1) 1 56 := ⟨by decide +kernel, rfl⟩
theorem dX4_lostRun_56 : mx_at cX4_lostRun 56 (.istore_n 1) 1 57 := ⟨by decide +kernel, rfl⟩
theorem dX4_lostRun_57 : mx_at cX4_lostRun 57 (.iinc 3 1) 3 60 := ⟨by decide +kernel, rfl⟩
theorem dX4_lostRun_60 : mx_br cX4_lostRun 60 (.goto (-54)) (-54) 3 63 6 := ⟨by decide +kernel, rfl, by decide⟩
theorem dX4_lostRun_63 : mx_at cX4_lostRun 63 (.iload_n 1) 1 64 := ⟨by decide +kernel, rfl⟩
theorem dX4_lostRun_64 : mx_at cX4_lostRun 64 (.aload_n 0) 1 65 := ⟨by decide +kernel, rfl⟩
theorem dX4_lostRun_65 : mx_at cX4_lostRun 65 (.getfield 9) 3 68 := ⟨by decide +kernel, rfl⟩
theorem dX4_lostRun_68 : mx_at cX4_lostRun 68 (.iconst 0) 1 69 := ⟨by decide +kernel, rfl⟩
theorem dX4_lostRun_69 : mx_at cX4_lostRun 69 (.iaload) 1 70 := ⟨by decide +kernel, rfl⟩
theorem dX4_lostRun_70 : mx_at cX4_lostRun 70 (.invokestatic 66) 3 73 := ⟨by decide +kernel, rfl⟩
theorem dX4_lostRun_73 : mx_at cX4_lostRun 73 (.ireturn) 1 74 := ⟨by decide +kernel, rfl⟩
theorem dX4_run_0 : mx_at cX4_run 0 (.iload_n 1) 1 1 := ⟨by decide +kernel, rfl⟩
theorem dX4_run_1 : mx_at cX4_run 1 (.iconst 0) 1 2 := ⟨by decide +kernel, rfl⟩
theorem dX4_run_2 : mx_at cX4_run 2 (.iconst 2) 1 3 := ⟨by decide +kernel, rfl⟩
theorem dX4_run_3 : mx_at cX4_run 3 (.invokestatic 40) 3 6 := ⟨by decide +kernel, rfl⟩
theorem dX4_run_6 : mx_br cX4_run 6 (.ifCond .ne 10) (10) 3 9 16 := ⟨by decide +kernel, rfl, by decide⟩
theorem dX4_run_9 : mx_at cX4_run 9 (.aload_n 0) 1 10 := ⟨by decide +kernel, rfl⟩
theorem dX4_run_10 : mx_at cX4_run 10 (.bipush (-2)) 2 12 := ⟨by decide +kernel, rfl⟩
theorem dX4_run_12 : mx_at cX4_run 12 (.invokevirtual 36) 3 15 := ⟨by decide +kernel, rfl⟩
theorem dX4_run_15 : mx_at cX4_run 15 (.ireturn) 1 16 := ⟨by decide +kernel, rfl⟩
theorem dX4_run_16 : mx_at cX4_run 16 (.iload_n 1) 1 17 := ⟨by decide +kernel, rfl⟩
theorem dX4_run_17 : mx_br cX4_run 17 (.ifCond .ne 8) (8) 3 20 25 := ⟨by decide +kernel, rfl, by decide⟩
theorem dX4_run_20 : mx_at cX4_run 20 (.aload_n 0) 1 21 := ⟨by decide +kernel, rfl⟩
theorem dX4_run_21 : mx_at cX4_run 21 (.invokevirtual 174) 3 24 := ⟨by decide +kernel, rfl⟩
theorem dX4_run_24 : mx_at cX4_run 24 (.ireturn) 1 25 := ⟨by decide +kernel, rfl⟩
theorem dX4_run_25 : mx_at cX4_run 25 (.iconst 0) 1 26 := ⟨by decide +kernel, rfl⟩
theorem dX4_run_26 : mx_at cX4_run 26 (.istore_n 2) 1 27 := ⟨by decide +kernel, rfl⟩
theorem dX4_run_27 : mx_at cX4_run 27 (.iconst 0) 1 28 := ⟨by decide +kernel, rfl⟩
theorem dX4_run_28 : mx_at cX4_run 28 (.istore_n 3) 1 29 := ⟨by decide +kernel, rfl⟩
theorem dX4_run_29 : mx_at cX4_run 29 (.iload_n 3) 1 30 := ⟨by decide +kernel, rfl⟩
theorem dX4_run_30 : mx_at cX4_run 30 (.aload_n 0) 1 31 := ⟨by decide +kernel, rfl⟩
theorem dX4_run_31 : mx_at cX4_run 31 (.getfield 9) 3 34 := ⟨by decide +kernel, rfl⟩
theorem dX4_run_34 : mx_at cX4_run 34 (.iconst 0) 1 35 := ⟨by decide +kernel, rfl⟩
theorem dX4_run_35 : mx_at cX4_run 35 (.iaload) 1 36 := ⟨by decide +kernel, rfl⟩
theorem dX4_run_36 : mx_br cX4_run 36 (.if_icmp .ge 51) (51) 3 39 87 := ⟨by decide +kernel, rfl, by decide⟩
theorem dX4_run_39 : mx_at cX4_run 39 (.iload_n 2) 1 40 := ⟨by decide +kernel, rfl⟩
theorem dX4_run_40 : mx_at cX4_run 40 (.iload_n 1) 1 41 := ⟨by decide +kernel, rfl⟩
theorem dX4_run_41 : mx_at cX4_run 41 (.iconst 1) 1 42 := ⟨by decide +kernel, rfl⟩
theorem dX4_run_42 : mx_br cX4_run 42 (.if_icmp .ne 19) (19) 3 45 61 := ⟨by decide +kernel, rfl, by decide⟩
theorem dX4_run_45 : mx_at cX4_run 45 (.aload_n 0) 1 46 := ⟨by decide +kernel, rfl⟩
theorem dX4_run_46 : mx_at cX4_run 46 (.getfield 9) 3 49 := ⟨by decide +kernel, rfl⟩
theorem dX4_run_49 : mx_at cX4_run 49 (.iload_n 3) 1 50 := ⟨by decide +kernel, rfl⟩
theorem dX4_run_50 : mx_at cX4_run 50 (.iconst 3) 1 51 := ⟨by decide +kernel, rfl⟩
theorem dX4_run_51 : mx_at cX4_run 51 (.invokestatic 44) 3 54 := ⟨by decide +kernel, rfl⟩
theorem dX4_run_54 : mx_at cX4_run 54 (.iaload) 1 55 := ⟨by decide +kernel, rfl⟩
theorem dX4_run_55 : mx_br cX4_run 55 (.ifCond .ne 23) (23) 3 58 78 := ⟨by decide +kernel, rfl, by decide⟩
theorem dX4_run_58 : mx_br cX4_run 58 (.goto 14) (14) 3 61 72 := ⟨by decide +kernel, rfl, by decide⟩
theorem dX4_run_61 : mx_at cX4_run 61 (.aload_n 0) 1 62 := ⟨by decide +kernel, rfl⟩
theorem dX4_run_62 : mx_at cX4_run 62 (.getfield 9) 3 65 := ⟨by decide +kernel, rfl⟩
theorem dX4_run_65 : mx_at cX4_run 65 (.iload_n 3) 1 66 := ⟨by decide +kernel, rfl⟩
theorem dX4_run_66 : mx_at cX4_run 66 (.invokestatic 69) 3 69 := ⟨by decide +kernel, rfl⟩
theorem dX4_run_69 : mx_br cX4_run 69 (.ifCond .eq 9) (9) 3 72 78 := ⟨by decide +kernel, rfl, by decide⟩
theorem dX4_run_72 : mx_at cX4_run 72 (.iconst 1) 1 73 := ⟨by decide +kernel, rfl⟩
theorem dX4_run_73 : mx_at cX4_run 73 (.iload_n 3) 1 74 := ⟨by decide +kernel, rfl⟩
theorem dX4_run_74 : mx_at cX4_run 74 (.ishl) 1 75 := ⟨by decide +kernel, rfl⟩
theorem dX4_run_75 : mx_br cX4_run 75 (.goto 4) (4) 3 78 79 := ⟨by decide +kernel, rfl, by decide⟩
theorem dX4_run_78 : mx_at cX4_run 78 (.iconst 0) 1 79 := ⟨by decide +kernel, rfl⟩
theorem dX4_run_79 : mx_at cX4_run 79 (.ior) 1 80 := ⟨by decide +kernel, rfl⟩
theorem dX4_run_80 : mx_at cX4_run 80 (.istore_n 2) 1 81 := ⟨by decide +kernel, rfl⟩
theorem dX4_run_81 : mx_at cX4_run 81 (.iinc 3 1) 3 84 := ⟨by decide +kernel, rfl⟩
theorem dX4_run_84 : mx_br cX4_run 84 (.goto (-55)) (-55) 3 87 29 := ⟨by decide +kernel, rfl, by decide⟩
theorem dX4_run_87 : mx_at cX4_run 87 (.iload_n 2) 1 88 := ⟨by decide +kernel, rfl⟩
theorem dX4_run_88 : mx_at cX4_run 88 (.ireturn) 1 89 := ⟨by decide +kernel, rfl⟩
theorem dX4_lets_0 : mx_at cX4_lets 0 (.aload_n 0) 1 1 := ⟨by decide +kernel, rfl⟩
theorem dX4_lets_1 : mx_at cX4_lets 1 (.getfield 13) 3 4 := ⟨by decide +kernel, rfl⟩
theorem dX4_lets_4 : mx_at cX4_lets 4 (.iconst 5) 1 5 := ⟨by decide +kernel, rfl⟩
theorem dX4_lets_5 : mx_at cX4_lets 5 (.dup2) 1 6 := ⟨by decide +kernel, rfl⟩
theorem dX4_lets_6 : mx_at cX4_lets 6 (.iaload) 1 7 := ⟨by decide +kernel, rfl⟩
theorem dX4_lets_7 : mx_at cX4_lets 7 (.iconst 1) 1 8 := ⟨by decide +kernel, rfl⟩
theorem dX4_lets_8 : mx_at cX4_lets 8 (.iload_n 1) 1 9 := ⟨by decide +kernel, rfl⟩
theorem dX4_lets_9 : mx_at cX4_lets 9 (.ishl) 1 10 := ⟨by decide +kernel, rfl⟩
theorem dX4_lets_10 : mx_at cX4_lets 10 (.ior) 1 11 := ⟨by decide +kernel, rfl⟩
theorem dX4_lets_11 : mx_at cX4_lets 11 (.iastore) 1 12 := ⟨by decide +kernel, rfl⟩
theorem dX4_lets_12 : mx_at cX4_lets 12 (.aload_n 0) 1 13 := ⟨by decide +kernel, rfl⟩
theorem dX4_lets_13 : mx_at cX4_lets 13 (.getfield 13) 3 16 := ⟨by decide +kernel, rfl⟩
theorem dX4_lets_16 : mx_at cX4_lets 16 (.iload_n 1) 1 17 := ⟨by decide +kernel, rfl⟩
theorem dX4_lets_17 : mx_at cX4_lets 17 (.iconst 4) 1 18 := ⟨by decide +kernel, rfl⟩
theorem dX4_lets_18 : mx_at cX4_lets 18 (.invokestatic 44) 3 21 := ⟨by decide +kernel, rfl⟩
theorem dX4_lets_21 : mx_at cX4_lets 21 (.bipush 20) 2 23 := ⟨by decide +kernel, rfl⟩
theorem dX4_lets_23 : mx_at cX4_lets 23 (.aload_n 0) 1 24 := ⟨by decide +kernel, rfl⟩
theorem dX4_lets_24 : mx_at cX4_lets 24 (.getfield 13) 3 27 := ⟨by decide +kernel, rfl⟩
theorem dX4_lets_27 : mx_at cX4_lets 27 (.iload_n 1) 1 28 := ⟨by decide +kernel, rfl⟩
theorem dX4_lets_28 : mx_at cX4_lets 28 (.iconst 4) 1 29 := ⟨by decide +kernel, rfl⟩
theorem dX4_lets_29 : mx_at cX4_lets 29 (.invokestatic 44) 3 32 := ⟨by decide +kernel, rfl⟩
theorem dX4_lets_32 : mx_at cX4_lets 32 (.iaload) 1 33 := ⟨by decide +kernel, rfl⟩
theorem dX4_lets_33 : mx_at cX4_lets 33 (.iconst 3) 1 34 := ⟨by decide +kernel, rfl⟩
theorem dX4_lets_34 : mx_at cX4_lets 34 (.iadd) 1 35 := ⟨by decide +kernel, rfl⟩
theorem dX4_lets_35 : mx_at cX4_lets 35 (.invokestatic 66) 3 38 := ⟨by decide +kernel, rfl⟩
theorem dX4_lets_38 : mx_at cX4_lets 38 (.iastore) 1 39 := ⟨by decide +kernel, rfl⟩
theorem dX4_lets_39 : mx_at cX4_lets 39 (.return_) 1 40 := ⟨by decide +kernel, rfl⟩
theorem dX4_hasBy_0 : mx_at cX4_hasBy 0 (.aload_n 0) 1 1 := ⟨by decide +kernel, rfl⟩
theorem dX4_hasBy_1 : mx_at cX4_hasBy 1 (.getfield 9) 3 4 := ⟨by decide +kernel, rfl⟩
theorem dX4_hasBy_4 : mx_at cX4_hasBy 4 (.aload_n 0) 1 5 := ⟨by decide +kernel, rfl⟩
theorem dX4_hasBy_5 : mx_at cX4_hasBy 5 (.getfield 13) 3 8 := ⟨by decide +kernel, rfl⟩
theorem dX4_hasBy_8 : mx_at cX4_hasBy 8 (.invokestatic 121) 3 11 := ⟨by decide +kernel, rfl⟩
theorem dX4_hasBy_11 : mx_at cX4_hasBy 11 (.iload_n 3) 1 12 := ⟨by decide +kernel, rfl⟩
theorem dX4_hasBy_12 : mx_at cX4_hasBy 12 (.iconst 1) 1 13 := ⟨by decide +kernel, rfl⟩
theorem dX4_hasBy_13 : mx_br cX4_hasBy 13 (.if_icmp .ne 8) (8) 3 16 21 := ⟨by decide +kernel, rfl, by decide⟩
theorem dX4_hasBy_16 : mx_at cX4_hasBy 16 (.aload_n 0) 1 17 := ⟨by decide +kernel, rfl⟩
theorem dX4_hasBy_17 : mx_at cX4_hasBy 17 (.iload_n 2) 1 18 := ⟨by decide +kernel, rfl⟩
theorem dX4_hasBy_18 : mx_at cX4_hasBy 18 (.invokevirtual 177) 3 21 := ⟨by decide +kernel, rfl⟩
theorem dX4_hasBy_21 : mx_at cX4_hasBy 21 (.iload 5) 2 23 := ⟨by decide +kernel, rfl⟩
theorem dX4_hasBy_23 : mx_at cX4_hasBy 23 (.iconst 1) 1 24 := ⟨by decide +kernel, rfl⟩
theorem dX4_hasBy_24 : mx_br cX4_hasBy 24 (.if_icmp .ne 9) (9) 3 27 33 := ⟨by decide +kernel, rfl, by decide⟩
theorem dX4_hasBy_27 : mx_at cX4_hasBy 27 (.aload_n 0) 1 28 := ⟨by decide +kernel, rfl⟩
theorem dX4_hasBy_28 : mx_at cX4_hasBy 28 (.iload 4) 2 30 := ⟨by decide +kernel, rfl⟩
theorem dX4_hasBy_30 : mx_at cX4_hasBy 30 (.invokevirtual 177) 3 33 := ⟨by decide +kernel, rfl⟩
theorem dX4_hasBy_33 : mx_at cX4_hasBy 33 (.aload_n 0) 1 34 := ⟨by decide +kernel, rfl⟩
theorem dX4_hasBy_34 : mx_at cX4_hasBy 34 (.getfield 13) 3 37 := ⟨by decide +kernel, rfl⟩
theorem dX4_hasBy_37 : mx_at cX4_hasBy 37 (.iload 6) 2 39 := ⟨by decide +kernel, rfl⟩
theorem dX4_hasBy_39 : mx_at cX4_hasBy 39 (.invokestatic 115) 3 42 := ⟨by decide +kernel, rfl⟩
theorem dX4_hasBy_42 : mx_at cX4_hasBy 42 (.aload_n 0) 1 43 := ⟨by decide +kernel, rfl⟩
theorem dX4_hasBy_43 : mx_at cX4_hasBy 43 (.getfield 13) 3 46 := ⟨by decide +kernel, rfl⟩
theorem dX4_hasBy_46 : mx_at cX4_hasBy 46 (.iconst 4) 1 47 := ⟨by decide +kernel, rfl⟩
theorem dX4_hasBy_47 : mx_at cX4_hasBy 47 (.iaload) 1 48 := ⟨by decide +kernel, rfl⟩
theorem dX4_hasBy_48 : mx_at cX4_hasBy 48 (.iload_n 1) 1 49 := ⟨by decide +kernel, rfl⟩
theorem dX4_hasBy_49 : mx_at cX4_hasBy 49 (.invokestatic 48) 3 52 := ⟨by decide +kernel, rfl⟩
theorem dX4_hasBy_52 : mx_br cX4_hasBy 52 (.ifCond .eq 7) (7) 3 55 59 := ⟨by decide +kernel, rfl, by decide⟩
theorem dX4_hasBy_55 : mx_at cX4_hasBy 55 (.iconst 5) 1 56 := ⟨by decide +kernel, rfl⟩
theorem dX4_hasBy_56 : mx_br cX4_hasBy 56 (.goto 4) (4) 3 59 60 := ⟨by decide +kernel, rfl, by decide⟩
theorem dX4_hasBy_59 : mx_at cX4_hasBy 59 (.iconst 0) 1 60 := ⟨by decide +kernel, rfl⟩
theorem dX4_hasBy_60 : mx_at cX4_hasBy 60 (.aload_n 0) 1 61 := ⟨by decide +kernel, rfl⟩
theorem dX4_hasBy_61 : mx_at cX4_hasBy 61 (.getfield 13) 3 64 := ⟨by decide +kernel, rfl⟩
theorem dX4_hasBy_64 : mx_at cX4_hasBy 64 (.iload_n 1) 1 65 := ⟨by decide +kernel, rfl⟩
theorem dX4_hasBy_65 : mx_at cX4_hasBy 65 (.iconst 5) 1 66 := ⟨by decide +kernel, rfl⟩
theorem dX4_hasBy_66 : mx_at cX4_hasBy 66 (.invokestatic 44) 3 69 := ⟨by decide +kernel, rfl⟩
theorem dX4_hasBy_69 : mx_at cX4_hasBy 69 (.iaload) 1 70 := ⟨by decide +kernel, rfl⟩
theorem dX4_hasBy_70 : mx_at cX4_hasBy 70 (.isub) 1 71 := ⟨by decide +kernel, rfl⟩
theorem dX4_hasBy_71 : mx_at cX4_hasBy 71 (.iconst 2) 1 72 := ⟨by decide +kernel, rfl⟩
theorem dX4_hasBy_72 : mx_at cX4_hasBy 72 (.iload_n 1) 1 73 := ⟨by decide +kernel, rfl⟩
theorem dX4_hasBy_73 : mx_at cX4_hasBy 73 (.iload_n 2) 1 74 := ⟨by decide +kernel, rfl⟩
theorem dX4_hasBy_74 : mx_br cX4_hasBy 74 (.if_icmp .ne 7) (7) 3 77 81 := ⟨by decide +kernel, rfl, by decide⟩
theorem dX4_hasBy_77 : mx_at cX4_hasBy 77 (.iload_n 3) 1 78 := ⟨by decide +kernel, rfl⟩
theorem dX4_hasBy_78 : mx_br cX4_hasBy 78 (.goto 5) (5) 3 81 83 := ⟨by decide +kernel, rfl, by decide⟩
theorem dX4_hasBy_81 : mx_at cX4_hasBy 81 (.iload 5) 2 83 := ⟨by decide +kernel, rfl⟩
theorem dX4_hasBy_83 : mx_at cX4_hasBy 83 (.imul) 1 84 := ⟨by decide +kernel, rfl⟩
theorem dX4_hasBy_84 : mx_at cX4_hasBy 84 (.iadd) 1 85 := ⟨by decide +kernel, rfl⟩
theorem dX4_hasBy_85 : mx_at cX4_hasBy 85 (.ireturn) 1 86 := ⟨by decide +kernel, rfl⟩
theorem dX4_two_0 : mx_at cX4_two 0 (.aload_n 0) 1 1 := ⟨by decide +kernel, rfl⟩
theorem dX4_two_1 : mx_at cX4_two 1 (.iload_n 1) 1 2 := ⟨by decide +kernel, rfl⟩
theorem dX4_two_2 : mx_at cX4_two 2 (.invokevirtual 111) 3 5 := ⟨by decide +kernel, rfl⟩
theorem dX4_two_5 : mx_br cX4_two 5 (.ifCond .eq 26) (26) 3 8 31 := ⟨by decide +kernel, rfl, by decide⟩
theorem dX4_two_8 : mx_at cX4_two 8 (.aload_n 0) 1 9 := ⟨by decide +kernel, rfl⟩
theorem dX4_two_9 : mx_at cX4_two 9 (.iload_n 2) 1 10 := ⟨by decide +kernel, rfl⟩
theorem dX4_two_10 : mx_at cX4_two 10 (.invokevirtual 111) 3 13 := ⟨by decide +kernel, rfl⟩
theorem dX4_two_13 : mx_br cX4_two 13 (.ifCond .eq 18) (18) 3 16 31 := ⟨by decide +kernel, rfl, by decide⟩
theorem dX4_two_16 : mx_at cX4_two 16 (.iload_n 1) 1 17 := ⟨by decide +kernel, rfl⟩
theorem dX4_two_17 : mx_at cX4_two 17 (.iload_n 2) 1 18 := ⟨by decide +kernel, rfl⟩
theorem dX4_two_18 : mx_br cX4_two 18 (.if_icmp .eq 13) (13) 3 21 31 := ⟨by decide +kernel, rfl, by decide⟩
theorem dX4_two_21 : mx_at cX4_two 21 (.iload_n 3) 1 22 := ⟨by decide +kernel, rfl⟩
theorem dX4_two_22 : mx_at cX4_two 22 (.iconst 0) 1 23 := ⟨by decide +kernel, rfl⟩
theorem dX4_two_23 : mx_at cX4_two 23 (.bipush 30) 2 25 := ⟨by decide +kernel, rfl⟩
theorem dX4_two_25 : mx_at cX4_two 25 (.invokestatic 128) 3 28 := ⟨by decide +kernel, rfl⟩
theorem dX4_two_28 : mx_br cX4_two 28 (.goto 4) (4) 3 31 32 := ⟨by decide +kernel, rfl, by decide⟩
theorem dX4_two_31 : mx_at cX4_two 31 (.iconst (-1)) 1 32 := ⟨by decide +kernel, rfl⟩
theorem dX4_two_32 : mx_at cX4_two 32 (.istore 4) 2 34 := ⟨by decide +kernel, rfl⟩
theorem dX4_two_34 : mx_at cX4_two 34 (.iload 4) 2 36 := ⟨by decide +kernel, rfl⟩
theorem dX4_two_36 : mx_br cX4_two 36 (.ifCond .eq 10) (10) 3 39 46 := ⟨by decide +kernel, rfl, by decide⟩
theorem dX4_two_39 : mx_at cX4_two 39 (.aload_n 0) 1 40 := ⟨by decide +kernel, rfl⟩
theorem dX4_two_40 : mx_at cX4_two 40 (.iload 4) 2 42 := ⟨by decide +kernel, rfl⟩
theorem dX4_two_42 : mx_at cX4_two 42 (.invokevirtual 36) 3 45 := ⟨by decide +kernel, rfl⟩
theorem dX4_two_45 : mx_at cX4_two 45 (.ireturn) 1 46 := ⟨by decide +kernel, rfl⟩
theorem dX4_two_46 : mx_at cX4_two 46 (.iconst 0) 1 47 := ⟨by decide +kernel, rfl⟩
theorem dX4_two_47 : mx_at cX4_two 47 (.istore 5) 2 49 := ⟨by decide +kernel, rfl⟩
theorem dX4_two_49 : mx_at cX4_two 49 (.iload 5) 2 51 := ⟨by decide +kernel, rfl⟩
theorem dX4_two_51 : mx_at cX4_two 51 (.iconst 4) 1 52 := ⟨by decide +kernel, rfl⟩
theorem dX4_two_52 : mx_br cX4_two 52 (.if_icmp .ge 88) (88) 3 55 140 := ⟨by decide +kernel, rfl, by decide⟩
theorem dX4_two_55 : mx_at cX4_two 55 (.iload 5) 2 57 := ⟨by decide +kernel, rfl⟩
theorem dX4_two_57 : mx_at cX4_two 57 (.iconst 2) 1 58 := ⟨by decide +kernel, rfl⟩
theorem dX4_two_58 : mx_at cX4_two 58 (.idiv) 1 59 := ⟨by decide +kernel, rfl⟩
theorem dX4_two_59 : mx_at cX4_two 59 (.istore 6) 2 61 := ⟨by decide +kernel, rfl⟩
theorem dX4_two_61 : mx_at cX4_two 61 (.iload 5) 2 63 := ⟨by decide +kernel, rfl⟩
theorem dX4_two_63 : mx_at cX4_two 63 (.iconst 2) 1 64 := ⟨by decide +kernel, rfl⟩
theorem dX4_two_64 : mx_at cX4_two 64 (.irem) 1 65 := ⟨by decide +kernel, rfl⟩
theorem dX4_two_65 : mx_at cX4_two 65 (.istore 7) 2 67 := ⟨by decide +kernel, rfl⟩
theorem dX4_two_67 : mx_at cX4_two 67 (.aload_n 0) 1 68 := ⟨by decide +kernel, rfl⟩
theorem dX4_two_68 : mx_at cX4_two 68 (.iload_n 1) 1 69 := ⟨by decide +kernel, rfl⟩
theorem dX4_two_69 : mx_at cX4_two 69 (.iload_n 1) 1 70 := ⟨by decide +kernel, rfl⟩
theorem dX4_two_70 : mx_at cX4_two 70 (.iconst 1) 1 71 := ⟨by decide +kernel, rfl⟩
theorem dX4_two_71 : mx_at cX4_two 71 (.iload 6) 2 73 := ⟨by decide +kernel, rfl⟩
theorem dX4_two_73 : mx_at cX4_two 73 (.isub) 1 74 := ⟨by decide +kernel, rfl⟩
theorem dX4_two_74 : mx_at cX4_two 74 (.iload_n 2) 1 75 := ⟨by decide +kernel, rfl⟩
theorem dX4_two_75 : mx_at cX4_two 75 (.iload 7) 2 77 := ⟨by decide +kernel, rfl⟩
theorem dX4_two_77 : mx_at cX4_two 77 (.iload_n 3) 1 78 := ⟨by decide +kernel, rfl⟩
theorem dX4_two_78 : mx_at cX4_two 78 (.invokevirtual 180) 3 81 := ⟨by decide +kernel, rfl⟩
theorem dX4_two_81 : mx_at cX4_two 81 (.aload_n 0) 1 82 := ⟨by decide +kernel, rfl⟩
theorem dX4_two_82 : mx_at cX4_two 82 (.iload_n 1) 1 83 := ⟨by decide +kernel, rfl⟩
theorem dX4_two_83 : mx_at cX4_two 83 (.iload_n 1) 1 84 := ⟨by decide +kernel, rfl⟩
theorem dX4_two_84 : mx_at cX4_two 84 (.iload 6) 2 86 := ⟨by decide +kernel, rfl⟩
theorem dX4_two_86 : mx_at cX4_two 86 (.iload_n 2) 1 87 := ⟨by decide +kernel, rfl⟩
theorem dX4_two_87 : mx_at cX4_two 87 (.iload 7) 2 89 := ⟨by decide +kernel, rfl⟩
theorem dX4_two_89 : mx_at cX4_two 89 (.iload_n 3) 1 90 := ⟨by decide +kernel, rfl⟩
theorem dX4_two_90 : mx_at cX4_two 90 (.invokevirtual 180) 3 93 := ⟨by decide +kernel, rfl⟩
theorem dX4_two_93 : mx_br cX4_two 93 (.if_icmp .gt 41) (41) 3 96 134 := ⟨by decide +kernel, rfl, by decide⟩
theorem dX4_two_96 : mx_at cX4_two 96 (.aload_n 0) 1 97 := ⟨by decide +kernel, rfl⟩
theorem dX4_two_97 : mx_at cX4_two 97 (.iload_n 2) 1 98 := ⟨by decide +kernel, rfl⟩
theorem dX4_two_98 : mx_at cX4_two 98 (.iload_n 1) 1 99 := ⟨by decide +kernel, rfl⟩
theorem dX4_two_99 : mx_at cX4_two 99 (.iload 6) 2 101 := ⟨by decide +kernel, rfl⟩
theorem dX4_two_101 : mx_at cX4_two 101 (.iload_n 2) 1 102 := ⟨by decide +kernel, rfl⟩
theorem dX4_two_102 : mx_at cX4_two 102 (.iconst 1) 1 103 := ⟨by decide +kernel, rfl⟩
theorem dX4_two_103 : mx_at cX4_two 103 (.iload 7) 2 105 := ⟨by decide +kernel, rfl⟩
theorem dX4_two_105 : mx_at cX4_two 105 (.isub) 1 106 := ⟨by decide +kernel, rfl⟩
theorem dX4_two_106 : mx_at cX4_two 106 (.iload_n 3) 1 107 := ⟨by decide +kernel, rfl⟩
theorem dX4_two_107 : mx_at cX4_two 107 (.invokevirtual 180) 3 110 := ⟨by decide +kernel, rfl⟩
theorem dX4_two_110 : mx_at cX4_two 110 (.aload_n 0) 1 111 := ⟨by decide +kernel, rfl⟩
theorem dX4_two_111 : mx_at cX4_two 111 (.iload_n 2) 1 112 := ⟨by decide +kernel, rfl⟩
theorem dX4_two_112 : mx_at cX4_two 112 (.iload_n 1) 1 113 := ⟨by decide +kernel, rfl⟩
theorem dX4_two_113 : mx_at cX4_two 113 (.iload 6) 2 115 := ⟨by decide +kernel, rfl⟩
theorem dX4_two_115 : mx_at cX4_two 115 (.iload_n 2) 1 116 := ⟨by decide +kernel, rfl⟩
theorem dX4_two_116 : mx_at cX4_two 116 (.iload 7) 2 118 := ⟨by decide +kernel, rfl⟩
theorem dX4_two_118 : mx_at cX4_two 118 (.iload_n 3) 1 119 := ⟨by decide +kernel, rfl⟩
theorem dX4_two_119 : mx_at cX4_two 119 (.invokevirtual 180) 3 122 := ⟨by decide +kernel, rfl⟩
theorem dX4_two_122 : mx_br cX4_two 122 (.if_icmp .gt 12) (12) 3 125 134 := ⟨by decide +kernel, rfl, by decide⟩
theorem dX4_two_125 : mx_at cX4_two 125 (.bipush 10) 2 127 := ⟨by decide +kernel, rfl⟩
theorem dX4_two_127 : mx_at cX4_two 127 (.iload 6) 2 129 := ⟨by decide +kernel, rfl⟩
theorem dX4_two_129 : mx_at cX4_two 129 (.imul) 1 130 := ⟨by decide +kernel, rfl⟩
theorem dX4_two_130 : mx_at cX4_two 130 (.iload 7) 2 132 := ⟨by decide +kernel, rfl⟩
theorem dX4_two_132 : mx_at cX4_two 132 (.iadd) 1 133 := ⟨by decide +kernel, rfl⟩
theorem dX4_two_133 : mx_at cX4_two 133 (.ireturn) 1 134 := ⟨by decide +kernel, rfl⟩
theorem dX4_two_134 : mx_at cX4_two 134 (.iinc 5 1) 3 137 := ⟨by decide +kernel, rfl⟩
theorem dX4_two_137 : mx_br cX4_two 137 (.goto (-88)) (-88) 3 140 49 := ⟨by decide +kernel, rfl, by decide⟩
theorem dX4_two_140 : mx_at cX4_two 140 (.bipush (-9)) 2 142 := ⟨by decide +kernel, rfl⟩
theorem dX4_two_142 : mx_at cX4_two 142 (.ireturn) 1 143 := ⟨by decide +kernel, rfl⟩
theorem dX4_gcd_0 : mx_at cX4_gcd 0 (.lload_n 0) 1 1 := ⟨by decide +kernel, rfl⟩
theorem dX4_gcd_1 : mx_at cX4_gcd 1 (.lstore 4) 2 3 := ⟨by decide +kernel, rfl⟩
theorem dX4_gcd_3 : mx_at cX4_gcd 3 (.lload_n 2) 1 4 := ⟨by decide +kernel, rfl⟩
theorem dX4_gcd_4 : mx_at cX4_gcd 4 (.lstore 6) 2 6 := ⟨by decide +kernel, rfl⟩
theorem dX4_gcd_6 : mx_at cX4_gcd 6 (.lload 6) 2 8 := ⟨by decide +kernel, rfl⟩
theorem dX4_gcd_8 : mx_at cX4_gcd 8 (.lconst 0) 1 9 := ⟨by decide +kernel, rfl⟩
theorem dX4_gcd_9 : mx_at cX4_gcd 9 (.lcmp) 1 10 := ⟨by decide +kernel, rfl⟩
theorem dX4_gcd_10 : mx_br cX4_gcd 10 (.ifCond .eq 21) (21) 3 13 31 := ⟨by decide +kernel, rfl, by decide⟩
theorem dX4_gcd_13 : mx_at cX4_gcd 13 (.lload 4) 2 15 := ⟨by decide +kernel, rfl⟩
theorem dX4_gcd_15 : mx_at cX4_gcd 15 (.lload 6) 2 17 := ⟨by decide +kernel, rfl⟩
theorem dX4_gcd_17 : mx_at cX4_gcd 17 (.lrem) 1 18 := ⟨by decide +kernel, rfl⟩
theorem dX4_gcd_18 : mx_at cX4_gcd 18 (.lstore 8) 2 20 := ⟨by decide +kernel, rfl⟩
theorem dX4_gcd_20 : mx_at cX4_gcd 20 (.lload 6) 2 22 := ⟨by decide +kernel, rfl⟩
theorem dX4_gcd_22 : mx_at cX4_gcd 22 (.lstore 4) 2 24 := ⟨by decide +kernel, rfl⟩
theorem dX4_gcd_24 : mx_at cX4_gcd 24 (.lload 8) 2 26 := ⟨by decide +kernel, rfl⟩
theorem dX4_gcd_26 : mx_at cX4_gcd 26 (.lstore 6) 2 28 := ⟨by decide +kernel, rfl⟩
theorem dX4_gcd_28 : mx_br cX4_gcd 28 (.goto (-22)) (-22) 3 31 6 := ⟨by decide +kernel, rfl, by decide⟩
theorem dX4_gcd_31 : mx_at cX4_gcd 31 (.lload 4) 2 33 := ⟨by decide +kernel, rfl⟩
theorem dX4_gcd_33 : mx_at cX4_gcd 33 (.lreturn) 1 34 := ⟨by decide +kernel, rfl⟩
theorem dX4_partOf_0 : mx_at cX4_partOf 0 (.lload_n 0) 1 1 := ⟨by decide +kernel, rfl⟩
theorem dX4_partOf_1 : mx_at cX4_partOf 1 (.lconst 0) 1 2 := ⟨by decide +kernel, rfl⟩
theorem dX4_partOf_2 : mx_at cX4_partOf 2 (.lcmp) 1 3 := ⟨by decide +kernel, rfl⟩
theorem dX4_partOf_3 : mx_br cX4_partOf 3 (.ifCond .ne 7) (7) 3 6 10 := ⟨by decide +kernel, rfl, by decide⟩
theorem dX4_partOf_6 : mx_at cX4_partOf 6 (.iload 4) 2 8 := ⟨by decide +kernel, rfl⟩
theorem dX4_partOf_8 : mx_at cX4_partOf 8 (.i2l) 1 9 := ⟨by decide +kernel, rfl⟩
theorem dX4_partOf_9 : mx_at cX4_partOf 9 (.lreturn) 1 10 := ⟨by decide +kernel, rfl⟩
theorem dX4_partOf_10 : mx_at cX4_partOf 10 (.iload 4) 2 12 := ⟨by decide +kernel, rfl⟩
theorem dX4_partOf_12 : mx_br cX4_partOf 12 (.ifCond .ne 7) (7) 3 15 19 := ⟨by decide +kernel, rfl, by decide⟩
theorem dX4_partOf_15 : mx_at cX4_partOf 15 (.lload_n 0) 1 16 := ⟨by decide +kernel, rfl⟩
theorem dX4_partOf_16 : mx_br cX4_partOf 16 (.goto 4) (4) 3 19 20 := ⟨by decide +kernel, rfl, by decide⟩
theorem dX4_partOf_19 : mx_at cX4_partOf 19 (.lload_n 2) 1 20 := ⟨by decide +kernel, rfl⟩
theorem dX4_partOf_20 : mx_at cX4_partOf 20 (.lload_n 0) 1 21 := ⟨by decide +kernel, rfl⟩
theorem dX4_partOf_21 : mx_at cX4_partOf 21 (.lload_n 2) 1 22 := ⟨by decide +kernel, rfl⟩
theorem dX4_partOf_22 : mx_at cX4_partOf 22 (.invokestatic 184) 3 25 := ⟨by decide +kernel, rfl⟩
theorem dX4_partOf_25 : mx_at cX4_partOf 25 (.ldiv) 1 26 := ⟨by decide +kernel, rfl⟩
theorem dX4_partOf_26 : mx_at cX4_partOf 26 (.lreturn) 1 27 := ⟨by decide +kernel, rfl⟩
theorem dX4_guest_0 : mx_at cX4_guest 0 (.aload_n 0) 1 1 := ⟨by decide +kernel, rfl⟩
theorem dX4_guest_1 : mx_at cX4_guest 1 (.iload_n 1) 1 2 := ⟨by decide +kernel, rfl⟩
theorem dX4_guest_2 : mx_at cX4_guest 2 (.invokevirtual 111) 3 5 := ⟨by decide +kernel, rfl⟩
theorem dX4_guest_5 : mx_br cX4_guest 5 (.ifCond .ne 9) (9) 3 8 14 := ⟨by decide +kernel, rfl, by decide⟩
theorem dX4_guest_8 : mx_at cX4_guest 8 (.aload_n 0) 1 9 := ⟨by decide +kernel, rfl⟩
theorem dX4_guest_9 : mx_at cX4_guest 9 (.iconst (-1)) 1 10 := ⟨by decide +kernel, rfl⟩
theorem dX4_guest_10 : mx_at cX4_guest 10 (.invokevirtual 188) 3 13 := ⟨by decide +kernel, rfl⟩
theorem dX4_guest_13 : mx_at cX4_guest 13 (.lreturn) 1 14 := ⟨by decide +kernel, rfl⟩
theorem dX4_guest_14 : mx_at cX4_guest 14 (.iload_n 2) 1 15 := ⟨by decide +kernel, rfl⟩
theorem dX4_guest_15 : mx_br cX4_guest 15 (.ifCond .lt 8) (8) 3 18 23 := ⟨by decide +kernel, rfl, by decide⟩
theorem dX4_guest_18 : mx_at cX4_guest 18 (.iload_n 3) 1 19 := ⟨by decide +kernel, rfl⟩
theorem dX4_guest_19 : mx_at cX4_guest 19 (.iconst 2) 1 20 := ⟨by decide +kernel, rfl⟩
theorem dX4_guest_20 : mx_br cX4_guest 20 (.if_icmp .ge 10) (10) 3 23 30 := ⟨by decide +kernel, rfl, by decide⟩
theorem dX4_guest_23 : mx_at cX4_guest 23 (.aload_n 0) 1 24 := ⟨by decide +kernel, rfl⟩
theorem dX4_guest_24 : mx_at cX4_guest 24 (.bipush (-4)) 2 26 := ⟨by decide +kernel, rfl⟩
theorem dX4_guest_26 : mx_at cX4_guest 26 (.invokevirtual 188) 3 29 := ⟨by decide +kernel, rfl⟩
theorem dX4_guest_29 : mx_at cX4_guest 29 (.lreturn) 1 30 := ⟨by decide +kernel, rfl⟩
theorem dX4_guest_30 : mx_at cX4_guest 30 (.iload_n 2) 1 31 := ⟨by decide +kernel, rfl⟩
theorem dX4_guest_31 : mx_at cX4_guest 31 (.bipush 7) 2 33 := ⟨by decide +kernel, rfl⟩
theorem dX4_guest_33 : mx_br cX4_guest 33 (.if_icmp .gt 9) (9) 3 36 42 := ⟨by decide +kernel, rfl, by decide⟩
theorem dX4_guest_36 : mx_at cX4_guest 36 (.iload_n 3) 1 37 := ⟨by decide +kernel, rfl⟩
theorem dX4_guest_37 : mx_at cX4_guest 37 (.bipush 20) 2 39 := ⟨by decide +kernel, rfl⟩
theorem dX4_guest_39 : mx_br cX4_guest 39 (.if_icmp .le 10) (10) 3 42 49 := ⟨by decide +kernel, rfl, by decide⟩
theorem dX4_guest_42 : mx_at cX4_guest 42 (.aload_n 0) 1 43 := ⟨by decide +kernel, rfl⟩
theorem dX4_guest_43 : mx_at cX4_guest 43 (.bipush (-6)) 2 45 := ⟨by decide +kernel, rfl⟩
theorem dX4_guest_45 : mx_at cX4_guest 45 (.invokevirtual 188) 3 48 := ⟨by decide +kernel, rfl⟩
theorem dX4_guest_48 : mx_at cX4_guest 48 (.lreturn) 1 49 := ⟨by decide +kernel, rfl⟩
theorem dX4_guest_49 : mx_at cX4_guest 49 (.iload 4) 2 51 := ⟨by decide +kernel, rfl⟩
theorem dX4_guest_51 : mx_at cX4_guest 51 (.iconst 0) 1 52 := ⟨by decide +kernel, rfl⟩
theorem dX4_guest_52 : mx_at cX4_guest 52 (.iconst 1) 1 53 := ⟨by decide +kernel, rfl⟩
theorem dX4_guest_53 : mx_at cX4_guest 53 (.invokestatic 40) 3 56 := ⟨by decide +kernel, rfl⟩
theorem dX4_guest_56 : mx_br cX4_guest 56 (.ifCond .ne 10) (10) 3 59 66 := ⟨by decide +kernel, rfl, by decide⟩
theorem dX4_guest_59 : mx_at cX4_guest 59 (.aload_n 0) 1 60 := ⟨by decide +kernel, rfl⟩
theorem dX4_guest_60 : mx_at cX4_guest 60 (.bipush (-2)) 2 62 := ⟨by decide +kernel, rfl⟩
theorem dX4_guest_62 : mx_at cX4_guest 62 (.invokevirtual 188) 3 65 := ⟨by decide +kernel, rfl⟩
theorem dX4_guest_65 : mx_at cX4_guest 65 (.lreturn) 1 66 := ⟨by decide +kernel, rfl⟩
theorem dX4_guest_66 : mx_at cX4_guest 66 (.lconst 0) 1 67 := ⟨by decide +kernel, rfl⟩
theorem dX4_guest_67 : mx_at cX4_guest 67 (.lstore 5) 2 69 := ⟨by decide +kernel, rfl⟩
theorem dX4_guest_69 : mx_at cX4_guest 69 (.lconst 1) 1 70 := ⟨by decide +kernel, rfl⟩
theorem dX4_guest_70 : mx_at cX4_guest 70 (.lstore 7) 2 72 := ⟨by decide +kernel, rfl⟩
theorem dX4_guest_72 : mx_at cX4_guest 72 (.iconst 0) 1 73 := ⟨by decide +kernel, rfl⟩
theorem dX4_guest_73 : mx_at cX4_guest 73 (.istore 9) 2 75 := ⟨by decide +kernel, rfl⟩
theorem dX4_guest_75 : mx_at cX4_guest 75 (.iload 9) 2 77 := ⟨by decide +kernel, rfl⟩
theorem dX4_guest_77 : mx_at cX4_guest 77 (.iload_n 2) 1 78 := ⟨by decide +kernel, rfl⟩
theorem dX4_guest_78 : mx_br cX4_guest 78 (.if_icmp .ge 16) (16) 3 81 94 := ⟨by decide +kernel, rfl, by decide⟩
theorem dX4_guest_81 : mx_at cX4_guest 81 (.lload 7) 2 83 := ⟨by decide +kernel, rfl⟩
theorem dX4_guest_83 : mx_at cX4_guest 83 (.iload_n 3) 1 84 := ⟨by decide +kernel, rfl⟩
theorem dX4_guest_84 : mx_at cX4_guest 84 (.i2l) 1 85 := ⟨by decide +kernel, rfl⟩
theorem dX4_guest_85 : mx_at cX4_guest 85 (.lmul) 1 86 := ⟨by decide +kernel, rfl⟩
theorem dX4_guest_86 : mx_at cX4_guest 86 (.lstore 7) 2 88 := ⟨by decide +kernel, rfl⟩
theorem dX4_guest_88 : mx_at cX4_guest 88 (.iinc 9 1) 3 91 := ⟨by decide +kernel, rfl⟩
theorem dX4_guest_91 : mx_br cX4_guest 91 (.goto (-16)) (-16) 3 94 75 := ⟨by decide +kernel, rfl, by decide⟩
theorem dX4_guest_94 : mx_at cX4_guest 94 (.iconst 0) 1 95 := ⟨by decide +kernel, rfl⟩
theorem dX4_guest_95 : mx_at cX4_guest 95 (.istore 9) 2 97 := ⟨by decide +kernel, rfl⟩
theorem dX4_guest_97 : mx_at cX4_guest 97 (.iload 9) 2 99 := ⟨by decide +kernel, rfl⟩
theorem dX4_guest_99 : mx_at cX4_guest 99 (.iconst 1) 1 100 := ⟨by decide +kernel, rfl⟩
theorem dX4_guest_100 : mx_at cX4_guest 100 (.iload_n 2) 1 101 := ⟨by decide +kernel, rfl⟩
theorem dX4_guest_101 : mx_at cX4_guest 101 (.ishl) 1 102 := ⟨by decide +kernel, rfl⟩
theorem dX4_guest_102 : mx_br cX4_guest 102 (.if_icmp .ge 142) (142) 3 105 244 := ⟨by decide +kernel, rfl, by decide⟩
theorem dX4_guest_105 : mx_at cX4_guest 105 (.lconst 1) 1 106 := ⟨by decide +kernel, rfl⟩
theorem dX4_guest_106 : mx_at cX4_guest 106 (.lstore 10) 2 108 := ⟨by decide +kernel, rfl⟩
theorem dX4_guest_108 : mx_at cX4_guest 108 (.aload_n 0) 1 109 := ⟨by decide +kernel, rfl⟩
theorem dX4_guest_109 : mx_at cX4_guest 109 (.getfield 9) 3 112 := ⟨by decide +kernel, rfl⟩
theorem dX4_guest_112 : mx_at cX4_guest 112 (.aload_n 0) 1 113 := ⟨by decide +kernel, rfl⟩
theorem dX4_guest_113 : mx_at cX4_guest 113 (.getfield 13) 3 116 := ⟨by decide +kernel, rfl⟩
theorem dX4_guest_116 : mx_at cX4_guest 116 (.invokestatic 121) 3 119 := ⟨by decide +kernel, rfl⟩
theorem dX4_guest_119 : mx_at cX4_guest 119 (.iconst 0) 1 120 := ⟨by decide +kernel, rfl⟩
theorem dX4_guest_120 : mx_at cX4_guest 120 (.istore 12) 2 122 := ⟨by decide +kernel, rfl⟩
theorem dX4_guest_122 : mx_at cX4_guest 122 (.iload 12) 2 124 := ⟨by decide +kernel, rfl⟩
theorem dX4_guest_124 : mx_at cX4_guest 124 (.iload_n 2) 1 125 := ⟨by decide +kernel, rfl⟩
theorem dX4_guest_125 : mx_br cX4_guest 125 (.if_icmp .ge 89) (89) 3 128 214 := ⟨by decide +kernel, rfl, by decide⟩
theorem dX4_guest_128 : mx_at cX4_guest 128 (.lload 10) 2 130 := ⟨by decide +kernel, rfl⟩
theorem dX4_guest_130 : mx_at cX4_guest 130 (.iload 9) 2 132 := ⟨by decide +kernel, rfl⟩
theorem dX4_guest_132 : mx_at cX4_guest 132 (.iload 12) 2 134 := ⟨by decide +kernel, rfl⟩
theorem dX4_guest_134 : mx_at cX4_guest 134 (.invokestatic 48) 3 137 := ⟨by decide +kernel, rfl⟩
theorem dX4_guest_137 : mx_br cX4_guest 137 (.ifCond .eq 7) (7) 3 140 144 := ⟨by decide +kernel, rfl, by decide⟩
theorem dX4_guest_140 : mx_at cX4_guest 140 (.lconst 1) 1 141 := ⟨by decide +kernel, rfl⟩
theorem dX4_guest_141 : mx_br cX4_guest 141 (.goto 7) (7) 3 144 148 := ⟨by decide +kernel, rfl, by decide⟩
theorem dX4_guest_144 : mx_at cX4_guest 144 (.iload_n 3) 1 145 := ⟨by decide +kernel, rfl⟩
theorem dX4_guest_145 : mx_at cX4_guest 145 (.iconst 1) 1 146 := ⟨by decide +kernel, rfl⟩
theorem dX4_guest_146 : mx_at cX4_guest 146 (.isub) 1 147 := ⟨by decide +kernel, rfl⟩
theorem dX4_guest_147 : mx_at cX4_guest 147 (.i2l) 1 148 := ⟨by decide +kernel, rfl⟩
theorem dX4_guest_148 : mx_at cX4_guest 148 (.lmul) 1 149 := ⟨by decide +kernel, rfl⟩
theorem dX4_guest_149 : mx_at cX4_guest 149 (.lstore 10) 2 151 := ⟨by decide +kernel, rfl⟩
theorem dX4_guest_151 : mx_at cX4_guest 151 (.iload 9) 2 153 := ⟨by decide +kernel, rfl⟩
theorem dX4_guest_153 : mx_at cX4_guest 153 (.iload 12) 2 155 := ⟨by decide +kernel, rfl⟩
theorem dX4_guest_155 : mx_at cX4_guest 155 (.invokestatic 48) 3 158 := ⟨by decide +kernel, rfl⟩
theorem dX4_guest_158 : mx_br cX4_guest 158 (.ifCond .eq 43) (43) 3 161 201 := ⟨by decide +kernel, rfl, by decide⟩
theorem dX4_guest_161 : mx_at cX4_guest 161 (.aload_n 0) 1 162 := ⟨by decide +kernel, rfl⟩
theorem dX4_guest_162 : mx_at cX4_guest 162 (.getfield 13) 3 165 := ⟨by decide +kernel, rfl⟩
theorem dX4_guest_165 : mx_at cX4_guest 165 (.iconst 4) 1 166 := ⟨by decide +kernel, rfl⟩
theorem dX4_guest_166 : mx_at cX4_guest 166 (.iaload) 1 167 := ⟨by decide +kernel, rfl⟩
theorem dX4_guest_167 : mx_at cX4_guest 167 (.iload_n 1) 1 168 := ⟨by decide +kernel, rfl⟩
theorem dX4_guest_168 : mx_at cX4_guest 168 (.invokestatic 48) 3 171 := ⟨by decide +kernel, rfl⟩
theorem dX4_guest_171 : mx_br cX4_guest 171 (.ifCond .eq 30) (30) 3 174 201 := ⟨by decide +kernel, rfl, by decide⟩
theorem dX4_guest_174 : mx_at cX4_guest 174 (.aload_n 0) 1 175 := ⟨by decide +kernel, rfl⟩
theorem dX4_guest_175 : mx_at cX4_guest 175 (.getfield 13) 3 178 := ⟨by decide +kernel, rfl⟩
theorem dX4_guest_178 : mx_at cX4_guest 178 (.iload_n 1) 1 179 := ⟨by decide +kernel, rfl⟩
theorem dX4_guest_179 : mx_at cX4_guest 179 (.iconst 5) 1 180 := ⟨by decide +kernel, rfl⟩
theorem dX4_guest_180 : mx_at cX4_guest 180 (.invokestatic 44) 3 183 := ⟨by decide +kernel, rfl⟩
theorem dX4_guest_183 : mx_at cX4_guest 183 (.bipush 9) 2 185 := ⟨by decide +kernel, rfl⟩
theorem dX4_guest_185 : mx_at cX4_guest 185 (.aload_n 0) 1 186 := ⟨by decide +kernel, rfl⟩
theorem dX4_guest_186 : mx_at cX4_guest 186 (.getfield 13) 3 189 := ⟨by decide +kernel, rfl⟩
theorem dX4_guest_189 : mx_at cX4_guest 189 (.iload_n 1) 1 190 := ⟨by decide +kernel, rfl⟩
theorem dX4_guest_190 : mx_at cX4_guest 190 (.iconst 5) 1 191 := ⟨by decide +kernel, rfl⟩
theorem dX4_guest_191 : mx_at cX4_guest 191 (.invokestatic 44) 3 194 := ⟨by decide +kernel, rfl⟩
theorem dX4_guest_194 : mx_at cX4_guest 194 (.iaload) 1 195 := ⟨by decide +kernel, rfl⟩
theorem dX4_guest_195 : mx_at cX4_guest 195 (.iconst 1) 1 196 := ⟨by decide +kernel, rfl⟩
theorem dX4_guest_196 : mx_at cX4_guest 196 (.iadd) 1 197 := ⟨by decide +kernel, rfl⟩
theorem dX4_guest_197 : mx_at cX4_guest 197 (.invokestatic 66) 3 200 := ⟨by decide +kernel, rfl⟩
theorem dX4_guest_200 : mx_at cX4_guest 200 (.iastore) 1 201 := ⟨by decide +kernel, rfl⟩
theorem dX4_guest_201 : mx_at cX4_guest 201 (.aload_n 0) 1 202 := ⟨by decide +kernel, rfl⟩
theorem dX4_guest_202 : mx_at cX4_guest 202 (.getfield 13) 3 205 := ⟨by decide +kernel, rfl⟩
theorem dX4_guest_205 : mx_at cX4_guest 205 (.invokestatic 83) 3 208 := ⟨by decide +kernel, rfl⟩
theorem dX4_guest_208 : mx_at cX4_guest 208 (.iinc 12 1) 3 211 := ⟨by decide +kernel, rfl⟩
theorem dX4_guest_211 : mx_br cX4_guest 211 (.goto (-89)) (-89) 3 214 122 := ⟨by decide +kernel, rfl, by decide⟩
theorem dX4_guest_214 : mx_at cX4_guest 214 (.lload 5) 2 216 := ⟨by decide +kernel, rfl⟩
theorem dX4_guest_216 : mx_at cX4_guest 216 (.aload_n 0) 1 217 := ⟨by decide +kernel, rfl⟩
theorem dX4_guest_217 : mx_at cX4_guest 217 (.getfield 13) 3 220 := ⟨by decide +kernel, rfl⟩
theorem dX4_guest_220 : mx_at cX4_guest 220 (.iconst 4) 1 221 := ⟨by decide +kernel, rfl⟩
theorem dX4_guest_221 : mx_at cX4_guest 221 (.iaload) 1 222 := ⟨by decide +kernel, rfl⟩
theorem dX4_guest_222 : mx_at cX4_guest 222 (.iload_n 1) 1 223 := ⟨by decide +kernel, rfl⟩
theorem dX4_guest_223 : mx_at cX4_guest 223 (.invokestatic 48) 3 226 := ⟨by decide +kernel, rfl⟩
theorem dX4_guest_226 : mx_br cX4_guest 226 (.ifCond .eq 8) (8) 3 229 234 := ⟨by decide +kernel, rfl, by decide⟩
theorem dX4_guest_229 : mx_at cX4_guest 229 (.lload 10) 2 231 := ⟨by decide +kernel, rfl⟩
theorem dX4_guest_231 : mx_br cX4_guest 231 (.goto 4) (4) 3 234 235 := ⟨by decide +kernel, rfl, by decide⟩
theorem dX4_guest_234 : mx_at cX4_guest 234 (.lconst 0) 1 235 := ⟨by decide +kernel, rfl⟩
theorem dX4_guest_235 : mx_at cX4_guest 235 (.ladd) 1 236 := ⟨by decide +kernel, rfl⟩
theorem dX4_guest_236 : mx_at cX4_guest 236 (.lstore 5) 2 238 := ⟨by decide +kernel, rfl⟩
theorem dX4_guest_238 : mx_at cX4_guest 238 (.iinc 9 1) 3 241 := ⟨by decide +kernel, rfl⟩
theorem dX4_guest_241 : mx_br cX4_guest 241 (.goto (-144)) (-144) 3 244 97 := ⟨by decide +kernel, rfl, by decide⟩
theorem dX4_guest_244 : mx_at cX4_guest 244 (.lload 5) 2 246 := ⟨by decide +kernel, rfl⟩
theorem dX4_guest_246 : mx_at cX4_guest 246 (.lload 7) 2 248 := ⟨by decide +kernel, rfl⟩
theorem dX4_guest_248 : mx_at cX4_guest 248 (.iload 4) 2 250 := ⟨by decide +kernel, rfl⟩
theorem dX4_guest_250 : mx_at cX4_guest 250 (.invokestatic 192) 3 253 := ⟨by decide +kernel, rfl⟩
theorem dX4_guest_253 : mx_at cX4_guest 253 (.lreturn) 1 254 := ⟨by decide +kernel, rfl⟩
theorem dX4_mean_0 : mx_at cX4_mean 0 (.iload_n 1) 1 1 := ⟨by decide +kernel, rfl⟩
theorem dX4_mean_1 : mx_at cX4_mean 1 (.iconst 0) 1 2 := ⟨by decide +kernel, rfl⟩
theorem dX4_mean_2 : mx_at cX4_mean 2 (.iconst 1) 1 3 := ⟨by decide +kernel, rfl⟩
theorem dX4_mean_3 : mx_at cX4_mean 3 (.invokestatic 40) 3 6 := ⟨by decide +kernel, rfl⟩
theorem dX4_mean_6 : mx_br cX4_mean 6 (.ifCond .eq 25) (25) 3 9 31 := ⟨by decide +kernel, rfl, by decide⟩
theorem dX4_mean_9 : mx_at cX4_mean 9 (.aload_n 0) 1 10 := ⟨by decide +kernel, rfl⟩
theorem dX4_mean_10 : mx_at cX4_mean 10 (.getfield 9) 3 13 := ⟨by decide +kernel, rfl⟩
theorem dX4_mean_13 : mx_at cX4_mean 13 (.invokestatic 196) 3 16 := ⟨by decide +kernel, rfl⟩
theorem dX4_mean_16 : mx_at cX4_mean 16 (.i2l) 1 17 := ⟨by decide +kernel, rfl⟩
theorem dX4_mean_17 : mx_at cX4_mean 17 (.aload_n 0) 1 18 := ⟨by decide +kernel, rfl⟩
theorem dX4_mean_18 : mx_at cX4_mean 18 (.getfield 9) 3 21 := ⟨by decide +kernel, rfl⟩
theorem dX4_mean_21 : mx_at cX4_mean 21 (.iconst 0) 1 22 := ⟨by decide +kernel, rfl⟩
theorem dX4_mean_22 : mx_at cX4_mean 22 (.iaload) 1 23 := ⟨by decide +kernel, rfl⟩
theorem dX4_mean_23 : mx_at cX4_mean 23 (.i2l) 1 24 := ⟨by decide +kernel, rfl⟩
theorem dX4_mean_24 : mx_at cX4_mean 24 (.iload_n 1) 1 25 := ⟨by decide +kernel, rfl⟩
theorem dX4_mean_25 : mx_at cX4_mean 25 (.invokestatic 192) 3 28 := ⟨by decide +kernel, rfl⟩
theorem dX4_mean_28 : mx_br cX4_mean 28 (.goto 9) (9) 3 31 37 := ⟨by decide +kernel, rfl, by decide⟩
theorem dX4_mean_31 : mx_at cX4_mean 31 (.aload_n 0) 1 32 := ⟨by decide +kernel, rfl⟩
theorem dX4_mean_32 : mx_at cX4_mean 32 (.bipush (-2)) 2 34 := ⟨by decide +kernel, rfl⟩
theorem dX4_mean_34 : mx_at cX4_mean 34 (.invokevirtual 188) 3 37 := ⟨by decide +kernel, rfl⟩
theorem dX4_mean_37 : mx_at cX4_mean 37 (.lreturn) 1 38 := ⟨by decide +kernel, rfl⟩
theorem dX4_whatIs_0 : mx_at cX4_whatIs 0 (.aload_n 0) 1 1 := ⟨by decide +kernel, rfl⟩
theorem dX4_whatIs_1 : mx_at cX4_whatIs 1 (.iload_n 1) 1 2 := ⟨by decide +kernel, rfl⟩
theorem dX4_whatIs_2 : mx_at cX4_whatIs 2 (.invokevirtual 111) 3 5 := ⟨by decide +kernel, rfl⟩
theorem dX4_whatIs_5 : mx_br cX4_whatIs 5 (.ifCond .ne 9) (9) 3 8 14 := ⟨by decide +kernel, rfl, by decide⟩
theorem dX4_whatIs_8 : mx_at cX4_whatIs 8 (.aload_n 0) 1 9 := ⟨by decide +kernel, rfl⟩
theorem dX4_whatIs_9 : mx_at cX4_whatIs 9 (.iconst (-1)) 1 10 := ⟨by decide +kernel, rfl⟩
theorem dX4_whatIs_10 : mx_at cX4_whatIs 10 (.invokevirtual 36) 3 13 := ⟨by decide +kernel, rfl⟩
theorem dX4_whatIs_13 : mx_at cX4_whatIs 13 (.ireturn) 1 14 := ⟨by decide +kernel, rfl⟩
theorem dX4_whatIs_14 : mx_at cX4_whatIs 14 (.iload_n 2) 1 15 := ⟨by decide +kernel, rfl⟩
theorem dX4_whatIs_15 : mx_at cX4_whatIs 15 (.iconst 0) 1 16 := ⟨by decide +kernel, rfl⟩
theorem dX4_whatIs_16 : mx_at cX4_whatIs 16 (.iconst 1) 1 17 := ⟨by decide +kernel, rfl⟩
theorem dX4_whatIs_17 : mx_at cX4_whatIs 17 (.invokestatic 40) 3 20 := ⟨by decide +kernel, rfl⟩
theorem dX4_whatIs_20 : mx_br cX4_whatIs 20 (.ifCond .ne 10) (10) 3 23 30 := ⟨by decide +kernel, rfl, by decide⟩
theorem dX4_whatIs_23 : mx_at cX4_whatIs 23 (.aload_n 0) 1 24 := ⟨by decide +kernel, rfl⟩
theorem dX4_whatIs_24 : mx_at cX4_whatIs 24 (.bipush (-2)) 2 26 := ⟨by decide +kernel, rfl⟩
theorem dX4_whatIs_26 : mx_at cX4_whatIs 26 (.invokevirtual 36) 3 29 := ⟨by decide +kernel, rfl⟩
theorem dX4_whatIs_29 : mx_at cX4_whatIs 29 (.ireturn) 1 30 := ⟨by decide +kernel, rfl⟩
theorem dX4_whatIs_30 : mx_at cX4_whatIs 30 (.iconst 0) 1 31 := ⟨by decide +kernel, rfl⟩
theorem dX4_whatIs_31 : mx_at cX4_whatIs 31 (.istore_n 3) 1 32 := ⟨by decide +kernel, rfl⟩
theorem dX4_whatIs_32 : mx_at cX4_whatIs 32 (.iconst 0) 1 33 := ⟨by decide +kernel, rfl⟩
theorem dX4_whatIs_33 : mx_at cX4_whatIs 33 (.istore 4) 2 35 := ⟨by decide +kernel, rfl⟩
theorem dX4_whatIs_35 : mx_at cX4_whatIs 35 (.iload 4) 2 37 := ⟨by decide +kernel, rfl⟩
theorem dX4_whatIs_37 : mx_at cX4_whatIs 37 (.iload_n 2) 1 38 := ⟨by decide +kernel, rfl⟩
theorem dX4_whatIs_38 : mx_br cX4_whatIs 38 (.ifCond .ne 8) (8) 3 41 46 := ⟨by decide +kernel, rfl, by decide⟩
theorem dX4_whatIs_41 : mx_at cX4_whatIs 41 (.bipush 6) 2 43 := ⟨by decide +kernel, rfl⟩
theorem dX4_whatIs_43 : mx_br cX4_whatIs 43 (.goto 5) (5) 3 46 48 := ⟨by decide +kernel, rfl, by decide⟩
theorem dX4_whatIs_46 : mx_at cX4_whatIs 46 (.bipush 10) 2 48 := ⟨by decide +kernel, rfl⟩
theorem dX4_whatIs_48 : mx_br cX4_whatIs 48 (.if_icmp .ge 106) (106) 3 51 154 := ⟨by decide +kernel, rfl, by decide⟩
theorem dX4_whatIs_51 : mx_at cX4_whatIs 51 (.iconst 1) 1 52 := ⟨by decide +kernel, rfl⟩
theorem dX4_whatIs_52 : mx_at cX4_whatIs 52 (.istore 5) 2 54 := ⟨by decide +kernel, rfl⟩
theorem dX4_whatIs_54 : mx_at cX4_whatIs 54 (.aload_n 0) 1 55 := ⟨by decide +kernel, rfl⟩
theorem dX4_whatIs_55 : mx_at cX4_whatIs 55 (.getfield 9) 3 58 := ⟨by decide +kernel, rfl⟩
theorem dX4_whatIs_58 : mx_at cX4_whatIs 58 (.aload_n 0) 1 59 := ⟨by decide +kernel, rfl⟩
theorem dX4_whatIs_59 : mx_at cX4_whatIs 59 (.getfield 13) 3 62 := ⟨by decide +kernel, rfl⟩
theorem dX4_whatIs_62 : mx_at cX4_whatIs 62 (.invokestatic 121) 3 65 := ⟨by decide +kernel, rfl⟩
theorem dX4_whatIs_65 : mx_at cX4_whatIs 65 (.aload_n 0) 1 66 := ⟨by decide +kernel, rfl⟩
theorem dX4_whatIs_66 : mx_at cX4_whatIs 66 (.getfield 13) 3 69 := ⟨by decide +kernel, rfl⟩
theorem dX4_whatIs_69 : mx_at cX4_whatIs 69 (.iload_n 1) 1 70 := ⟨by decide +kernel, rfl⟩
theorem dX4_whatIs_70 : mx_at cX4_whatIs 70 (.iload_n 2) 1 71 := ⟨by decide +kernel, rfl⟩
theorem dX4_whatIs_71 : mx_at cX4_whatIs 71 (.invokestatic 44) 3 74 := ⟨by decide +kernel, rfl⟩
theorem dX4_whatIs_74 : mx_at cX4_whatIs 74 (.iload 4) 2 76 := ⟨by decide +kernel, rfl⟩
theorem dX4_whatIs_76 : mx_at cX4_whatIs 76 (.iastore) 1 77 := ⟨by decide +kernel, rfl⟩
theorem dX4_whatIs_77 : mx_at cX4_whatIs 77 (.iconst 0) 1 78 := ⟨by decide +kernel, rfl⟩
theorem dX4_whatIs_78 : mx_at cX4_whatIs 78 (.istore 6) 2 80 := ⟨by decide +kernel, rfl⟩
theorem dX4_whatIs_80 : mx_at cX4_whatIs 80 (.iload 6) 2 82 := ⟨by decide +kernel, rfl⟩
theorem dX4_whatIs_82 : mx_at cX4_whatIs 82 (.aload_n 0) 1 83 := ⟨by decide +kernel, rfl⟩
theorem dX4_whatIs_83 : mx_at cX4_whatIs 83 (.getfield 199) 3 86 := ⟨by decide +kernel, rfl⟩
theorem dX4_whatIs_86 : mx_br cX4_whatIs 86 (.if_icmp .ge 46) (46) 3 89 132 := ⟨by decide +kernel, rfl, by decide⟩
theorem dX4_whatIs_89 : mx_at cX4_whatIs 89 (.iload 5) 2 91 := ⟨by decide +kernel, rfl⟩
theorem dX4_whatIs_91 : mx_at cX4_whatIs 91 (.aload_n 0) 1 92 := ⟨by decide +kernel, rfl⟩
theorem dX4_whatIs_92 : mx_at cX4_whatIs 92 (.getfield 13) 3 95 := ⟨by decide +kernel, rfl⟩
theorem dX4_whatIs_95 : mx_at cX4_whatIs 95 (.iload_n 1) 1 96 := ⟨by decide +kernel, rfl⟩
theorem dX4_whatIs_96 : mx_at cX4_whatIs 96 (.iconst 4) 1 97 := ⟨by decide +kernel, rfl⟩
theorem dX4_whatIs_97 : mx_at cX4_whatIs 97 (.invokestatic 44) 3 100 := ⟨by decide +kernel, rfl⟩
theorem dX4_whatIs_100 : mx_at cX4_whatIs 100 (.iaload) 1 101 := ⟨by decide +kernel, rfl⟩
theorem dX4_whatIs_101 : mx_at cX4_whatIs 101 (.aload_n 0) 1 102 := ⟨by decide +kernel, rfl⟩
theorem dX4_whatIs_102 : mx_at cX4_whatIs 102 (.getfield 25) 3 105 := ⟨by decide +kernel, rfl⟩
theorem dX4_whatIs_105 : mx_at cX4_whatIs 105 (.iload 6) 2 107 := ⟨by decide +kernel, rfl⟩
theorem dX4_whatIs_107 : mx_at cX4_whatIs 107 (.iaload) 1 108 := ⟨by decide +kernel, rfl⟩
theorem dX4_whatIs_108 : mx_br cX4_whatIs 108 (.if_icmp .ne 7) (7) 3 111 115 := ⟨by decide +kernel, rfl, by decide⟩
theorem dX4_whatIs_111 : mx_at cX4_whatIs 111 (.iconst 1) 1 112 := ⟨by decide +kernel, rfl⟩
theorem dX4_whatIs_112 : mx_br cX4_whatIs 112 (.goto 4) (4) 3 115 116 := ⟨by decide +kernel, rfl, by decide⟩
theorem dX4_whatIs_115 : mx_at cX4_whatIs 115 (.iconst 0) 1 116 := ⟨by decide +kernel, rfl⟩
theorem dX4_whatIs_116 : mx_at cX4_whatIs 116 (.iand) 1 117 := ⟨by decide +kernel, rfl⟩
theorem dX4_whatIs_117 : mx_at cX4_whatIs 117 (.istore 5) 2 119 := ⟨by decide +kernel, rfl⟩
theorem dX4_whatIs_119 : mx_at cX4_whatIs 119 (.aload_n 0) 1 120 := ⟨by decide +kernel, rfl⟩
theorem dX4_whatIs_120 : mx_at cX4_whatIs 120 (.getfield 13) 3 123 := ⟨by decide +kernel, rfl⟩
theorem dX4_whatIs_123 : mx_at cX4_whatIs 123 (.invokestatic 83) 3 126 := ⟨by decide +kernel, rfl⟩
theorem dX4_whatIs_126 : mx_at cX4_whatIs 126 (.iinc 6 1) 3 129 := ⟨by decide +kernel, rfl⟩
theorem dX4_whatIs_129 : mx_br cX4_whatIs 129 (.goto (-49)) (-49) 3 132 80 := ⟨by decide +kernel, rfl, by decide⟩
theorem dX4_whatIs_132 : mx_at cX4_whatIs 132 (.iload_n 3) 1 133 := ⟨by decide +kernel, rfl⟩
theorem dX4_whatIs_133 : mx_at cX4_whatIs 133 (.iload 5) 2 135 := ⟨by decide +kernel, rfl⟩
theorem dX4_whatIs_135 : mx_br cX4_whatIs 135 (.ifCond .eq 10) (10) 3 138 145 := ⟨by decide +kernel, rfl, by decide⟩
theorem dX4_whatIs_138 : mx_at cX4_whatIs 138 (.iconst 1) 1 139 := ⟨by decide +kernel, rfl⟩
theorem dX4_whatIs_139 : mx_at cX4_whatIs 139 (.iload 4) 2 141 := ⟨by decide +kernel, rfl⟩
theorem dX4_whatIs_141 : mx_at cX4_whatIs 141 (.ishl) 1 142 := ⟨by decide +kernel, rfl⟩
theorem dX4_whatIs_142 : mx_br cX4_whatIs 142 (.goto 4) (4) 3 145 146 := ⟨by decide +kernel, rfl, by decide⟩
theorem dX4_whatIs_145 : mx_at cX4_whatIs 145 (.iconst 0) 1 146 := ⟨by decide +kernel, rfl⟩
theorem dX4_whatIs_146 : mx_at cX4_whatIs 146 (.ior) 1 147 := ⟨by decide +kernel, rfl⟩
theorem dX4_whatIs_147 : mx_at cX4_whatIs 147 (.istore_n 3) 1 148 := ⟨by decide +kernel, rfl⟩
theorem dX4_whatIs_148 : mx_at cX4_whatIs 148 (.iinc 4 1) 3 151 := ⟨by decide +kernel, rfl⟩
theorem dX4_whatIs_151 : mx_br cX4_whatIs 151 (.goto (-116)) (-116) 3 154 35 := ⟨by decide +kernel, rfl, by decide⟩
theorem dX4_whatIs_154 : mx_at cX4_whatIs 154 (.iload_n 3) 1 155 := ⟨by decide +kernel, rfl⟩
theorem dX4_whatIs_155 : mx_at cX4_whatIs 155 (.ireturn) 1 156 := ⟨by decide +kernel, rfl⟩
theorem dX4_row_0 : mx_at cX4_row 0 (.iload_n 1) 1 1 := ⟨by decide +kernel, rfl⟩
theorem dX4_row_1 : mx_at cX4_row 1 (.iconst 0) 1 2 := ⟨by decide +kernel, rfl⟩
theorem dX4_row_2 : mx_at cX4_row 2 (.bipush 99) 2 4 := ⟨by decide +kernel, rfl⟩
theorem dX4_row_4 : mx_at cX4_row 4 (.invokestatic 128) 3 7 := ⟨by decide +kernel, rfl⟩
theorem dX4_row_7 : mx_at cX4_row 7 (.istore_n 2) 1 8 := ⟨by decide +kernel, rfl⟩
theorem dX4_row_8 : mx_at cX4_row 8 (.iload_n 2) 1 9 := ⟨by decide +kernel, rfl⟩
theorem dX4_row_9 : mx_br cX4_row 9 (.ifCond .ne 15) (15) 3 12 24 := ⟨by decide +kernel, rfl, by decide⟩
theorem dX4_row_12 : mx_at cX4_row 12 (.aload_n 0) 1 13 := ⟨by decide +kernel, rfl⟩
theorem dX4_row_13 : mx_at cX4_row 13 (.getfield 199) 3 16 := ⟨by decide +kernel, rfl⟩
theorem dX4_row_16 : mx_at cX4_row 16 (.bipush 16) 2 18 := ⟨by decide +kernel, rfl⟩
theorem dX4_row_18 : mx_br cX4_row 18 (.if_icmp .ne 6) (6) 3 21 24 := ⟨by decide +kernel, rfl, by decide⟩
theorem dX4_row_21 : mx_at cX4_row 21 (.bipush (-6)) 2 23 := ⟨by decide +kernel, rfl⟩
theorem dX4_row_23 : mx_at cX4_row 23 (.istore_n 2) 1 24 := ⟨by decide +kernel, rfl⟩
theorem dX4_row_24 : mx_at cX4_row 24 (.iload_n 2) 1 25 := ⟨by decide +kernel, rfl⟩
theorem dX4_row_25 : mx_br cX4_row 25 (.ifCond .eq 9) (9) 3 28 34 := ⟨by decide +kernel, rfl, by decide⟩
theorem dX4_row_28 : mx_at cX4_row 28 (.aload_n 0) 1 29 := ⟨by decide +kernel, rfl⟩
theorem dX4_row_29 : mx_at cX4_row 29 (.iload_n 2) 1 30 := ⟨by decide +kernel, rfl⟩
theorem dX4_row_30 : mx_at cX4_row 30 (.invokevirtual 36) 3 33 := ⟨by decide +kernel, rfl⟩
theorem dX4_row_33 : mx_at cX4_row 33 (.ireturn) 1 34 := ⟨by decide +kernel, rfl⟩
theorem dX4_row_34 : mx_at cX4_row 34 (.aload_n 0) 1 35 := ⟨by decide +kernel, rfl⟩
theorem dX4_row_35 : mx_at cX4_row 35 (.getfield 25) 3 38 := ⟨by decide +kernel, rfl⟩
theorem dX4_row_38 : mx_at cX4_row 38 (.aload_n 0) 1 39 := ⟨by decide +kernel, rfl⟩
theorem dX4_row_39 : mx_at cX4_row 39 (.getfield 199) 3 42 := ⟨by decide +kernel, rfl⟩
theorem dX4_row_42 : mx_at cX4_row 42 (.iload_n 1) 1 43 := ⟨by decide +kernel, rfl⟩
theorem dX4_row_43 : mx_at cX4_row 43 (.iastore) 1 44 := ⟨by decide +kernel, rfl⟩
theorem dX4_row_44 : mx_at cX4_row 44 (.aload_n 0) 1 45 := ⟨by decide +kernel, rfl⟩
theorem dX4_row_45 : mx_at cX4_row 45 (.dup) 1 46 := ⟨by decide +kernel, rfl⟩
theorem dX4_row_46 : mx_at cX4_row 46 (.getfield 199) 3 49 := ⟨by decide +kernel, rfl⟩
theorem dX4_row_49 : mx_at cX4_row 49 (.iconst 1) 1 50 := ⟨by decide +kernel, rfl⟩
theorem dX4_row_50 : mx_at cX4_row 50 (.iadd) 1 51 := ⟨by decide +kernel, rfl⟩
theorem dX4_row_51 : mx_at cX4_row 51 (.putfield 199) 3 54 := ⟨by decide +kernel, rfl⟩
theorem dX4_row_54 : mx_at cX4_row 54 (.aload_n 0) 1 55 := ⟨by decide +kernel, rfl⟩
theorem dX4_row_55 : mx_at cX4_row 55 (.getfield 199) 3 58 := ⟨by decide +kernel, rfl⟩
theorem dX4_row_58 : mx_at cX4_row 58 (.ireturn) 1 59 := ⟨by decide +kernel, rfl⟩
theorem dX4_judge_0 : mx_at cX4_judge 0 (.aload_n 0) 1 1 := ⟨by decide +kernel, rfl⟩
theorem dX4_judge_1 : mx_at cX4_judge 1 (.getfield 199) 3 4 := ⟨by decide +kernel, rfl⟩
theorem dX4_judge_4 : mx_at cX4_judge 4 (.istore_n 1) 1 5 := ⟨by decide +kernel, rfl⟩
theorem dX4_judge_5 : mx_at cX4_judge 5 (.aload_n 0) 1 6 := ⟨by decide +kernel, rfl⟩
theorem dX4_judge_6 : mx_at cX4_judge 6 (.iconst 0) 1 7 := ⟨by decide +kernel, rfl⟩
theorem dX4_judge_7 : mx_at cX4_judge 7 (.putfield 199) 3 10 := ⟨by decide +kernel, rfl⟩
theorem dX4_judge_10 : mx_at cX4_judge 10 (.iconst 0) 1 11 := ⟨by decide +kernel, rfl⟩
theorem dX4_judge_11 : mx_at cX4_judge 11 (.istore_n 2) 1 12 := ⟨by decide +kernel, rfl⟩
theorem dX4_judge_12 : mx_at cX4_judge 12 (.iload_n 2) 1 13 := ⟨by decide +kernel, rfl⟩
theorem dX4_judge_13 : mx_at cX4_judge 13 (.iload_n 1) 1 14 := ⟨by decide +kernel, rfl⟩
theorem dX4_judge_14 : mx_br cX4_judge 14 (.if_icmp .ge 38) (38) 3 17 52 := ⟨by decide +kernel, rfl, by decide⟩
theorem dX4_judge_17 : mx_at cX4_judge 17 (.aload_n 0) 1 18 := ⟨by decide +kernel, rfl⟩
theorem dX4_judge_18 : mx_at cX4_judge 18 (.iload_n 2) 1 19 := ⟨by decide +kernel, rfl⟩
theorem dX4_judge_19 : mx_at cX4_judge 19 (.invokevirtual 111) 3 22 := ⟨by decide +kernel, rfl⟩
theorem dX4_judge_22 : mx_br cX4_judge 22 (.ifCond .eq 22) (22) 3 25 44 := ⟨by decide +kernel, rfl, by decide⟩
theorem dX4_judge_25 : mx_at cX4_judge 25 (.aload_n 0) 1 26 := ⟨by decide +kernel, rfl⟩
theorem dX4_judge_26 : mx_at cX4_judge 26 (.getfield 9) 3 29 := ⟨by decide +kernel, rfl⟩
theorem dX4_judge_29 : mx_at cX4_judge 29 (.iload_n 2) 1 30 := ⟨by decide +kernel, rfl⟩
theorem dX4_judge_30 : mx_at cX4_judge 30 (.iconst 5) 1 31 := ⟨by decide +kernel, rfl⟩
theorem dX4_judge_31 : mx_at cX4_judge 31 (.invokestatic 44) 3 34 := ⟨by decide +kernel, rfl⟩
theorem dX4_judge_34 : mx_at cX4_judge 34 (.iaload) 1 35 := ⟨by decide +kernel, rfl⟩
theorem dX4_judge_35 : mx_at cX4_judge 35 (.aload_n 0) 1 36 := ⟨by decide +kernel, rfl⟩
theorem dX4_judge_36 : mx_at cX4_judge 36 (.getfield 25) 3 39 := ⟨by decide +kernel, rfl⟩
theorem dX4_judge_39 : mx_at cX4_judge 39 (.iload_n 2) 1 40 := ⟨by decide +kernel, rfl⟩
theorem dX4_judge_40 : mx_at cX4_judge 40 (.iaload) 1 41 := ⟨by decide +kernel, rfl⟩
theorem dX4_judge_41 : mx_br cX4_judge 41 (.if_icmp .eq 5) (5) 3 44 46 := ⟨by decide +kernel, rfl, by decide⟩
theorem dX4_judge_44 : mx_at cX4_judge 44 (.iload_n 2) 1 45 := ⟨by decide +kernel, rfl⟩
theorem dX4_judge_45 : mx_at cX4_judge 45 (.ireturn) 1 46 := ⟨by decide +kernel, rfl⟩
theorem dX4_judge_46 : mx_at cX4_judge 46 (.iinc 2 1) 3 49 := ⟨by decide +kernel, rfl⟩
theorem dX4_judge_49 : mx_br cX4_judge 49 (.goto (-37)) (-37) 3 52 12 := ⟨by decide +kernel, rfl, by decide⟩
theorem dX4_judge_52 : mx_at cX4_judge 52 (.bipush (-9)) 2 54 := ⟨by decide +kernel, rfl⟩
theorem dX4_judge_54 : mx_at cX4_judge 54 (.ireturn) 1 55 := ⟨by decide +kernel, rfl⟩
theorem dX4_clear_0 : mx_at cX4_clear 0 (.aload_n 0) 1 1 := ⟨by decide +kernel, rfl⟩
theorem dX4_clear_1 : mx_at cX4_clear 1 (.getfield 199) 3 4 := ⟨by decide +kernel, rfl⟩
theorem dX4_clear_4 : mx_at cX4_clear 4 (.istore_n 1) 1 5 := ⟨by decide +kernel, rfl⟩
theorem dX4_clear_5 : mx_at cX4_clear 5 (.aload_n 0) 1 6 := ⟨by decide +kernel, rfl⟩
theorem dX4_clear_6 : mx_at cX4_clear 6 (.iconst 0) 1 7 := ⟨by decide +kernel, rfl⟩
theorem dX4_clear_7 : mx_at cX4_clear 7 (.putfield 199) 3 10 := ⟨by decide +kernel, rfl⟩
theorem dX4_clear_10 : mx_at cX4_clear 10 (.iload_n 1) 1 11 := ⟨by decide +kernel, rfl⟩
theorem dX4_clear_11 : mx_at cX4_clear 11 (.ireturn) 1 12 := ⟨by decide +kernel, rfl⟩
theorem dX4_drawn_0 : mx_at cX4_drawn 0 (.aload_n 0) 1 1 := ⟨by decide +kernel, rfl⟩
theorem dX4_drawn_1 : mx_at cX4_drawn 1 (.aload_n 0) 1 2 := ⟨by decide +kernel, rfl⟩
theorem dX4_drawn_2 : mx_at cX4_drawn 2 (.getfield 202) 3 5 := ⟨by decide +kernel, rfl⟩
theorem dX4_drawn_5 : mx_at cX4_drawn 5 (.ldc 205) 2 7 := ⟨by decide +kernel, rfl⟩
theorem dX4_drawn_7 : mx_at cX4_drawn 7 (.imul) 1 8 := ⟨by decide +kernel, rfl⟩
theorem dX4_drawn_8 : mx_at cX4_drawn 8 (.ldc 206) 2 10 := ⟨by decide +kernel, rfl⟩
theorem dX4_drawn_10 : mx_at cX4_drawn 10 (.iadd) 1 11 := ⟨by decide +kernel, rfl⟩
theorem dX4_drawn_11 : mx_at cX4_drawn 11 (.putfield 202) 3 14 := ⟨by decide +kernel, rfl⟩
theorem dX4_drawn_14 : mx_at cX4_drawn 14 (.aload_n 0) 1 15 := ⟨by decide +kernel, rfl⟩
theorem dX4_drawn_15 : mx_at cX4_drawn 15 (.getfield 202) 3 18 := ⟨by decide +kernel, rfl⟩
theorem dX4_drawn_18 : mx_at cX4_drawn 18 (.ldc 207) 2 20 := ⟨by decide +kernel, rfl⟩
theorem dX4_drawn_20 : mx_at cX4_drawn 20 (.iand) 1 21 := ⟨by decide +kernel, rfl⟩
theorem dX4_drawn_21 : mx_at cX4_drawn 21 (.sipush 256) 3 24 := ⟨by decide +kernel, rfl⟩
theorem dX4_drawn_24 : mx_at cX4_drawn 24 (.idiv) 1 25 := ⟨by decide +kernel, rfl⟩
theorem dX4_drawn_25 : mx_at cX4_drawn 25 (.iload_n 1) 1 26 := ⟨by decide +kernel, rfl⟩
theorem dX4_drawn_26 : mx_at cX4_drawn 26 (.irem) 1 27 := ⟨by decide +kernel, rfl⟩
theorem dX4_drawn_27 : mx_at cX4_drawn 27 (.ireturn) 1 28 := ⟨by decide +kernel, rfl⟩
theorem dX4_lots_0 : mx_at cX4_lots 0 (.iload_n 1) 1 1 := ⟨by decide +kernel, rfl⟩
theorem dX4_lots_1 : mx_at cX4_lots 1 (.iconst 1) 1 2 := ⟨by decide +kernel, rfl⟩
theorem dX4_lots_2 : mx_br cX4_lots 2 (.if_icmp .ge 10) (10) 3 5 12 := ⟨by decide +kernel, rfl, by decide⟩
theorem dX4_lots_5 : mx_at cX4_lots 5 (.aload_n 0) 1 6 := ⟨by decide +kernel, rfl⟩
theorem dX4_lots_6 : mx_at cX4_lots 6 (.bipush (-4)) 2 8 := ⟨by decide +kernel, rfl⟩
theorem dX4_lots_8 : mx_at cX4_lots 8 (.invokevirtual 36) 3 11 := ⟨by decide +kernel, rfl⟩
theorem dX4_lots_11 : mx_at cX4_lots 11 (.ireturn) 1 12 := ⟨by decide +kernel, rfl⟩
theorem dX4_lots_12 : mx_at cX4_lots 12 (.iload_n 1) 1 13 := ⟨by decide +kernel, rfl⟩
theorem dX4_lots_13 : mx_at cX4_lots 13 (.bipush 20) 2 15 := ⟨by decide +kernel, rfl⟩
theorem dX4_lots_15 : mx_br cX4_lots 15 (.if_icmp .le 10) (10) 3 18 25 := ⟨by decide +kernel, rfl, by decide⟩
theorem dX4_lots_18 : mx_at cX4_lots 18 (.aload_n 0) 1 19 := ⟨by decide +kernel, rfl⟩
theorem dX4_lots_19 : mx_at cX4_lots 19 (.bipush (-6)) 2 21 := ⟨by decide +kernel, rfl⟩
theorem dX4_lots_21 : mx_at cX4_lots 21 (.invokevirtual 36) 3 24 := ⟨by decide +kernel, rfl⟩
theorem dX4_lots_24 : mx_at cX4_lots 24 (.ireturn) 1 25 := ⟨by decide +kernel, rfl⟩
theorem dX4_lots_25 : mx_at cX4_lots 25 (.iload_n 3) 1 26 := ⟨by decide +kernel, rfl⟩
theorem dX4_lots_26 : mx_at cX4_lots 26 (.iconst 0) 1 27 := ⟨by decide +kernel, rfl⟩
theorem dX4_lots_27 : mx_at cX4_lots 27 (.iconst 1) 1 28 := ⟨by decide +kernel, rfl⟩
theorem dX4_lots_28 : mx_at cX4_lots 28 (.invokestatic 40) 3 31 := ⟨by decide +kernel, rfl⟩
theorem dX4_lots_31 : mx_br cX4_lots 31 (.ifCond .ne 10) (10) 3 34 41 := ⟨by decide +kernel, rfl, by decide⟩
theorem dX4_lots_34 : mx_at cX4_lots 34 (.aload_n 0) 1 35 := ⟨by decide +kernel, rfl⟩
theorem dX4_lots_35 : mx_at cX4_lots 35 (.bipush (-2)) 2 37 := ⟨by decide +kernel, rfl⟩
theorem dX4_lots_37 : mx_at cX4_lots 37 (.invokevirtual 36) 3 40 := ⟨by decide +kernel, rfl⟩
theorem dX4_lots_40 : mx_at cX4_lots 40 (.ireturn) 1 41 := ⟨by decide +kernel, rfl⟩
theorem dX4_lots_41 : mx_at cX4_lots 41 (.aload_n 0) 1 42 := ⟨by decide +kernel, rfl⟩
theorem dX4_lots_42 : mx_at cX4_lots 42 (.iload_n 2) 1 43 := ⟨by decide +kernel, rfl⟩
theorem dX4_lots_43 : mx_at cX4_lots 43 (.putfield 202) 3 46 := ⟨by decide +kernel, rfl⟩
theorem dX4_lots_46 : mx_at cX4_lots 46 (.iconst 0) 1 47 := ⟨by decide +kernel, rfl⟩
theorem dX4_lots_47 : mx_at cX4_lots 47 (.istore 4) 2 49 := ⟨by decide +kernel, rfl⟩
theorem dX4_lots_49 : mx_at cX4_lots 49 (.iconst 0) 1 50 := ⟨by decide +kernel, rfl⟩
theorem dX4_lots_50 : mx_at cX4_lots 50 (.istore 5) 2 52 := ⟨by decide +kernel, rfl⟩
theorem dX4_lots_52 : mx_at cX4_lots 52 (.iload 5) 2 54 := ⟨by decide +kernel, rfl⟩
theorem dX4_lots_54 : mx_at cX4_lots 54 (.iload_n 1) 1 55 := ⟨by decide +kernel, rfl⟩
theorem dX4_lots_55 : mx_br cX4_lots 55 (.if_icmp .ge 106) (106) 3 58 161 := ⟨by decide +kernel, rfl, by decide⟩
theorem dX4_lots_58 : mx_at cX4_lots 58 (.aload_n 0) 1 59 := ⟨by decide +kernel, rfl⟩
theorem dX4_lots_59 : mx_at cX4_lots 59 (.getfield 9) 3 62 := ⟨by decide +kernel, rfl⟩
theorem dX4_lots_62 : mx_at cX4_lots 62 (.aload_n 0) 1 63 := ⟨by decide +kernel, rfl⟩
theorem dX4_lots_63 : mx_at cX4_lots 63 (.getfield 13) 3 66 := ⟨by decide +kernel, rfl⟩
theorem dX4_lots_66 : mx_at cX4_lots 66 (.invokestatic 121) 3 69 := ⟨by decide +kernel, rfl⟩
theorem dX4_lots_69 : mx_at cX4_lots 69 (.iconst 0) 1 70 := ⟨by decide +kernel, rfl⟩
theorem dX4_lots_70 : mx_at cX4_lots 70 (.istore 6) 2 72 := ⟨by decide +kernel, rfl⟩
theorem dX4_lots_72 : mx_at cX4_lots 72 (.iload 6) 2 74 := ⟨by decide +kernel, rfl⟩
theorem dX4_lots_74 : mx_at cX4_lots 74 (.aload_n 0) 1 75 := ⟨by decide +kernel, rfl⟩
theorem dX4_lots_75 : mx_at cX4_lots 75 (.getfield 9) 3 78 := ⟨by decide +kernel, rfl⟩
theorem dX4_lots_78 : mx_at cX4_lots 78 (.iconst 0) 1 79 := ⟨by decide +kernel, rfl⟩
theorem dX4_lots_79 : mx_at cX4_lots 79 (.iaload) 1 80 := ⟨by decide +kernel, rfl⟩
theorem dX4_lots_80 : mx_br cX4_lots 80 (.if_icmp .ge 38) (38) 3 83 118 := ⟨by decide +kernel, rfl, by decide⟩
theorem dX4_lots_83 : mx_at cX4_lots 83 (.aload_n 0) 1 84 := ⟨by decide +kernel, rfl⟩
theorem dX4_lots_84 : mx_at cX4_lots 84 (.getfield 13) 3 87 := ⟨by decide +kernel, rfl⟩
theorem dX4_lots_87 : mx_at cX4_lots 87 (.iload 6) 2 89 := ⟨by decide +kernel, rfl⟩
theorem dX4_lots_89 : mx_at cX4_lots 89 (.iconst 3) 1 90 := ⟨by decide +kernel, rfl⟩
theorem dX4_lots_90 : mx_at cX4_lots 90 (.invokestatic 44) 3 93 := ⟨by decide +kernel, rfl⟩
theorem dX4_lots_93 : mx_at cX4_lots 93 (.aload_n 0) 1 94 := ⟨by decide +kernel, rfl⟩
theorem dX4_lots_94 : mx_at cX4_lots 94 (.bipush 31) 2 96 := ⟨by decide +kernel, rfl⟩
theorem dX4_lots_96 : mx_at cX4_lots 96 (.invokevirtual 208) 3 99 := ⟨by decide +kernel, rfl⟩
theorem dX4_lots_99 : mx_at cX4_lots 99 (.iastore) 1 100 := ⟨by decide +kernel, rfl⟩
theorem dX4_lots_100 : mx_at cX4_lots 100 (.aload_n 0) 1 101 := ⟨by decide +kernel, rfl⟩
theorem dX4_lots_101 : mx_at cX4_lots 101 (.getfield 13) 3 104 := ⟨by decide +kernel, rfl⟩
theorem dX4_lots_104 : mx_at cX4_lots 104 (.iload 6) 2 106 := ⟨by decide +kernel, rfl⟩
theorem dX4_lots_106 : mx_at cX4_lots 106 (.iconst 5) 1 107 := ⟨by decide +kernel, rfl⟩
theorem dX4_lots_107 : mx_at cX4_lots 107 (.invokestatic 44) 3 110 := ⟨by decide +kernel, rfl⟩
theorem dX4_lots_110 : mx_at cX4_lots 110 (.iconst 0) 1 111 := ⟨by decide +kernel, rfl⟩
theorem dX4_lots_111 : mx_at cX4_lots 111 (.iastore) 1 112 := ⟨by decide +kernel, rfl⟩
theorem dX4_lots_112 : mx_at cX4_lots 112 (.iinc 6 1) 3 115 := ⟨by decide +kernel, rfl⟩
theorem dX4_lots_115 : mx_br cX4_lots 115 (.goto (-43)) (-43) 3 118 72 := ⟨by decide +kernel, rfl, by decide⟩
theorem dX4_lots_118 : mx_at cX4_lots 118 (.aload_n 0) 1 119 := ⟨by decide +kernel, rfl⟩
theorem dX4_lots_119 : mx_at cX4_lots 119 (.getfield 13) 3 122 := ⟨by decide +kernel, rfl⟩
theorem dX4_lots_122 : mx_at cX4_lots 122 (.bipush 12) 2 124 := ⟨by decide +kernel, rfl⟩
theorem dX4_lots_124 : mx_at cX4_lots 124 (.invokestatic 115) 3 127 := ⟨by decide +kernel, rfl⟩
theorem dX4_lots_127 : mx_at cX4_lots 127 (.iload 4) 2 129 := ⟨by decide +kernel, rfl⟩
theorem dX4_lots_129 : mx_at cX4_lots 129 (.iload_n 3) 1 130 := ⟨by decide +kernel, rfl⟩
theorem dX4_lots_130 : mx_br cX4_lots 130 (.ifCond .ne 15) (15) 3 133 145 := ⟨by decide +kernel, rfl, by decide⟩
theorem dX4_lots_133 : mx_at cX4_lots 133 (.aload_n 0) 1 134 := ⟨by decide +kernel, rfl⟩
theorem dX4_lots_134 : mx_at cX4_lots 134 (.getfield 13) 3 137 := ⟨by decide +kernel, rfl⟩
theorem dX4_lots_137 : mx_at cX4_lots 137 (.iconst 4) 1 138 := ⟨by decide +kernel, rfl⟩
theorem dX4_lots_138 : mx_at cX4_lots 138 (.iaload) 1 139 := ⟨by decide +kernel, rfl⟩
theorem dX4_lots_139 : mx_at cX4_lots 139 (.invokestatic 138) 3 142 := ⟨by decide +kernel, rfl⟩
theorem dX4_lots_142 : mx_br cX4_lots 142 (.goto 10) (10) 3 145 152 := ⟨by decide +kernel, rfl, by decide⟩
theorem dX4_lots_145 : mx_at cX4_lots 145 (.aload_n 0) 1 146 := ⟨by decide +kernel, rfl⟩
theorem dX4_lots_146 : mx_at cX4_lots 146 (.getfield 13) 3 149 := ⟨by decide +kernel, rfl⟩
theorem dX4_lots_149 : mx_at cX4_lots 149 (.invokestatic 196) 3 152 := ⟨by decide +kernel, rfl⟩
theorem dX4_lots_152 : mx_at cX4_lots 152 (.iadd) 1 153 := ⟨by decide +kernel, rfl⟩
theorem dX4_lots_153 : mx_at cX4_lots 153 (.istore 4) 2 155 := ⟨by decide +kernel, rfl⟩
theorem dX4_lots_155 : mx_at cX4_lots 155 (.iinc 5 1) 3 158 := ⟨by decide +kernel, rfl⟩
theorem dX4_lots_158 : mx_br cX4_lots 158 (.goto (-106)) (-106) 3 161 52 := ⟨by decide +kernel, rfl, by decide⟩
theorem dX4_lots_161 : mx_at cX4_lots 161 (.iload 4) 2 163 := ⟨by decide +kernel, rfl⟩
theorem dX4_lots_163 : mx_at cX4_lots 163 (.ireturn) 1 164 := ⟨by decide +kernel, rfl⟩
theorem dX4_image_0 : mx_at cX4_image 0 (.aload_n 0) 1 1 := ⟨by decide +kernel, rfl⟩
theorem dX4_image_1 : mx_at cX4_image 1 (.getfield 9) 3 4 := ⟨by decide +kernel, rfl⟩
theorem dX4_image_4 : mx_at cX4_image 4 (.aload_n 0) 1 5 := ⟨by decide +kernel, rfl⟩
theorem dX4_image_5 : mx_at cX4_image 5 (.getfield 16) 3 8 := ⟨by decide +kernel, rfl⟩
theorem dX4_image_8 : mx_at cX4_image 8 (.invokestatic 121) 3 11 := ⟨by decide +kernel, rfl⟩
theorem dX4_image_11 : mx_at cX4_image 11 (.aload_n 0) 1 12 := ⟨by decide +kernel, rfl⟩
theorem dX4_image_12 : mx_at cX4_image 12 (.iconst 1) 1 13 := ⟨by decide +kernel, rfl⟩
theorem dX4_image_13 : mx_at cX4_image 13 (.putfield 211) 3 16 := ⟨by decide +kernel, rfl⟩
theorem dX4_image_16 : mx_at cX4_image 16 (.aload_n 0) 1 17 := ⟨by decide +kernel, rfl⟩
theorem dX4_image_17 : mx_at cX4_image 17 (.getfield 9) 3 20 := ⟨by decide +kernel, rfl⟩
theorem dX4_image_20 : mx_at cX4_image 20 (.iconst 1) 1 21 := ⟨by decide +kernel, rfl⟩
theorem dX4_image_21 : mx_at cX4_image 21 (.iaload) 1 22 := ⟨by decide +kernel, rfl⟩
theorem dX4_image_22 : mx_at cX4_image 22 (.ireturn) 1 23 := ⟨by decide +kernel, rfl⟩
theorem dX4_on_0 : mx_at cX4_on 0 (.aload_n 0) 1 1 := ⟨by decide +kernel, rfl⟩
theorem dX4_on_1 : mx_at cX4_on 1 (.getfield 211) 3 4 := ⟨by decide +kernel, rfl⟩
theorem dX4_on_4 : mx_br cX4_on 4 (.ifCond .ne 10) (10) 3 7 14 := ⟨by decide +kernel, rfl, by decide⟩
theorem dX4_on_7 : mx_at cX4_on 7 (.aload_n 0) 1 8 := ⟨by decide +kernel, rfl⟩
theorem dX4_on_8 : mx_at cX4_on 8 (.bipush (-3)) 2 10 := ⟨by decide +kernel, rfl⟩
theorem dX4_on_10 : mx_at cX4_on 10 (.invokevirtual 36) 3 13 := ⟨by decide +kernel, rfl⟩
theorem dX4_on_13 : mx_at cX4_on 13 (.ireturn) 1 14 := ⟨by decide +kernel, rfl⟩
theorem dX4_on_14 : mx_at cX4_on 14 (.aload_n 0) 1 15 := ⟨by decide +kernel, rfl⟩
theorem dX4_on_15 : mx_at cX4_on 15 (.getfield 16) 3 18 := ⟨by decide +kernel, rfl⟩
theorem dX4_on_18 : mx_at cX4_on 18 (.aload_n 0) 1 19 := ⟨by decide +kernel, rfl⟩
theorem dX4_on_19 : mx_at cX4_on 19 (.getfield 9) 3 22 := ⟨by decide +kernel, rfl⟩
theorem dX4_on_22 : mx_at cX4_on 22 (.invokestatic 121) 3 25 := ⟨by decide +kernel, rfl⟩
theorem dX4_on_25 : mx_at cX4_on 25 (.aload_n 0) 1 26 := ⟨by decide +kernel, rfl⟩
theorem dX4_on_26 : mx_at cX4_on 26 (.getfield 9) 3 29 := ⟨by decide +kernel, rfl⟩
theorem dX4_on_29 : mx_at cX4_on 29 (.iconst 1) 1 30 := ⟨by decide +kernel, rfl⟩
theorem dX4_on_30 : mx_at cX4_on 30 (.iaload) 1 31 := ⟨by decide +kernel, rfl⟩
theorem dX4_on_31 : mx_at cX4_on 31 (.ireturn) 1 32 := ⟨by decide +kernel, rfl⟩
theorem dX4_count_0 : mx_at cX4_count 0 (.iload_n 1) 1 1 := ⟨by decide +kernel, rfl⟩
theorem dX4_count_1 : mx_at cX4_count 1 (.bipush 11) 2 3 := ⟨by decide +kernel, rfl⟩
theorem dX4_count_3 : mx_at cX4_count 3 (.bipush 16) 2 5 := ⟨by decide +kernel, rfl⟩
theorem dX4_count_5 : mx_at cX4_count 5 (.invokestatic 40) 3 8 := ⟨by decide +kernel, rfl⟩
theorem dX4_count_8 : mx_br cX4_count 8 (.ifCond .eq 13) (13) 3 11 21 := ⟨by decide +kernel, rfl, by decide⟩
theorem dX4_count_11 : mx_at cX4_count 11 (.aload_n 0) 1 12 := ⟨by decide +kernel, rfl⟩
theorem dX4_count_12 : mx_at cX4_count 12 (.getfield 28) 3 15 := ⟨by decide +kernel, rfl⟩
theorem dX4_count_15 : mx_at cX4_count 15 (.iload_n 1) 1 16 := ⟨by decide +kernel, rfl⟩
theorem dX4_count_16 : mx_at cX4_count 16 (.bipush 10) 2 18 := ⟨by decide +kernel, rfl⟩
theorem dX4_count_18 : mx_at cX4_count 18 (.isub) 1 19 := ⟨by decide +kernel, rfl⟩
theorem dX4_count_19 : mx_at cX4_count 19 (.iaload) 1 20 := ⟨by decide +kernel, rfl⟩
theorem dX4_count_20 : mx_at cX4_count 20 (.ireturn) 1 21 := ⟨by decide +kernel, rfl⟩
theorem dX4_count_21 : mx_at cX4_count 21 (.iload_n 1) 1 22 := ⟨by decide +kernel, rfl⟩
theorem dX4_count_22 : decode cX4_count 22 = .ok (.tableswitch 92 0 7 #[46, 46, 53, 60, 68, 75, 82, 87], 46) := by decide +kernel
theorem dX4_count_68 : mx_at cX4_count 68 (.aload_n 0) 1 69 := ⟨by decide +kernel, rfl⟩
theorem dX4_count_69 : mx_at cX4_count 69 (.getfield 9) 3 72 := ⟨by decide +kernel, rfl⟩
theorem dX4_count_72 : mx_at cX4_count 72 (.iload_n 1) 1 73 := ⟨by decide +kernel, rfl⟩
theorem dX4_count_73 : mx_at cX4_count 73 (.iaload) 1 74 := ⟨by decide +kernel, rfl⟩
theorem dX4_count_74 : mx_at cX4_count 74 (.ireturn) 1 75 := ⟨by decide +kernel, rfl⟩
theorem dX4_count_75 : mx_at cX4_count 75 (.aload_n 0) 1 76 := ⟨by decide +kernel, rfl⟩
theorem dX4_count_76 : mx_at cX4_count 76 (.getfield 9) 3 79 := ⟨by decide +kernel, rfl⟩
theorem dX4_count_79 : mx_at cX4_count 79 (.iconst 4) 1 80 := ⟨by decide +kernel, rfl⟩
theorem dX4_count_80 : mx_at cX4_count 80 (.iaload) 1 81 := ⟨by decide +kernel, rfl⟩
theorem dX4_count_81 : mx_at cX4_count 81 (.ireturn) 1 82 := ⟨by decide +kernel, rfl⟩
theorem dX4_count_82 : mx_at cX4_count 82 (.aload_n 0) 1 83 := ⟨by decide +kernel, rfl⟩
theorem dX4_count_83 : mx_at cX4_count 83 (.getfield 9) 3 86 := ⟨by decide +kernel, rfl⟩
theorem dX4_count_86 : mx_at cX4_count 86 (.invokestatic 196) 3 89 := ⟨by decide +kernel, rfl⟩
theorem dX4_count_89 : mx_at cX4_count 89 (.ireturn) 1 90 := ⟨by decide +kernel, rfl⟩
theorem dX4_count_90 : mx_at cX4_count 90 (.aload_n 0) 1 91 := ⟨by decide +kernel, rfl⟩
theorem dX4_count_91 : mx_at cX4_count 91 (.getfield 9) 3 94 := ⟨by decide +kernel, rfl⟩
theorem dX4_count_94 : mx_at cX4_count 94 (.iconst 3) 1 95 := ⟨by decide +kernel, rfl⟩
theorem dX4_count_95 : mx_at cX4_count 95 (.iaload) 1 96 := ⟨by decide +kernel, rfl⟩
theorem dX4_count_96 : mx_at cX4_count 96 (.ireturn) 1 97 := ⟨by decide +kernel, rfl⟩
theorem dX4_count_97 : mx_at cX4_count 97 (.aload_n 0) 1 98 := ⟨by decide +kernel, rfl⟩
theorem dX4_count_98 : mx_at cX4_count 98 (.getfield 9) 3 101 := ⟨by decide +kernel, rfl⟩
theorem dX4_count_101 : mx_at cX4_count 101 (.iconst 2) 1 102 := ⟨by decide +kernel, rfl⟩
theorem dX4_count_102 : mx_at cX4_count 102 (.iaload) 1 103 := ⟨by decide +kernel, rfl⟩
theorem dX4_count_103 : mx_at cX4_count 103 (.ireturn) 1 104 := ⟨by decide +kernel, rfl⟩
theorem dX4_count_104 : mx_at cX4_count 104 (.aload_n 0) 1 105 := ⟨by decide +kernel, rfl⟩
theorem dX4_count_105 : mx_at cX4_count 105 (.getfield 199) 3 108 := ⟨by decide +kernel, rfl⟩
theorem dX4_count_108 : mx_at cX4_count 108 (.ireturn) 1 109 := ⟨by decide +kernel, rfl⟩
theorem dX4_count_109 : mx_at cX4_count 109 (.aload_n 0) 1 110 := ⟨by decide +kernel, rfl⟩
theorem dX4_count_110 : mx_at cX4_count 110 (.getfield 87) 3 113 := ⟨by decide +kernel, rfl⟩
theorem dX4_count_113 : mx_at cX4_count 113 (.ireturn) 1 114 := ⟨by decide +kernel, rfl⟩
theorem dX4_count_114 : mx_at cX4_count 114 (.bipush (-9)) 2 116 := ⟨by decide +kernel, rfl⟩
theorem dX4_count_116 : mx_at cX4_count 116 (.ireturn) 1 117 := ⟨by decide +kernel, rfl⟩
end
section
abbrev MX0_become (E : mx_E) (K : Nat) (args : List Value) (σ : Mem) (post : Option Value → Mem → Prop) : Prop := MM E K yX0_become cX0_become 2 none args σ post
theorem kcX0_become : Cond.code yX0_become cX0_become 2 none ∈ mx_tbl := mx_in 235 (by decide +kernel) rfl
theorem kiX0_become : Cond.instanceMethod yX0_become ∈ mx_tbl := mx_in 233 (by decide +kernel) rfl
theorem ksX0_become : Cond.selects yX0_become.cls yX0_become yX0_become ∈ mx_tbl := mx_in 234 (by decide +kernel) rfl
theorem kyX0_become : yX0_become.cls ≠ "java/lang/invoke/MethodHandle" ∧ yX0_become.cls ≠ "java/lang/invoke/VarHandle" ∧ (parseMethodDescriptor yX0_become.desc).map (fun d => d.parameters.length) = some 1 := by decide +kernel
abbrev MX0_crowd (E : mx_E) (K : Nat) (args : List Value) (σ : Mem) (post : Option Value → Mem → Prop) : Prop := MM E K yX0_crowd cX0_crowd 2 (some .int) args σ post
theorem kcX0_crowd : Cond.code yX0_crowd cX0_crowd 2 (some .int) ∈ mx_tbl := mx_in 307 (by decide +kernel) rfl
theorem kiX0_crowd : Cond.instanceMethod yX0_crowd ∈ mx_tbl := mx_in 305 (by decide +kernel) rfl
theorem ksX0_crowd : Cond.selects yX0_crowd.cls yX0_crowd yX0_crowd ∈ mx_tbl := mx_in 306 (by decide +kernel) rfl
theorem kyX0_crowd : yX0_crowd.cls ≠ "java/lang/invoke/MethodHandle" ∧ yX0_crowd.cls ≠ "java/lang/invoke/VarHandle" ∧ (parseMethodDescriptor yX0_crowd.desc).map (fun d => d.parameters.length) = some 0 := by decide +kernel
abbrev MX0_dustIn (E : mx_E) (K : Nat) (args : List Value) (σ : Mem) (post : Option Value → Mem → Prop) : Prop := MM E K yX0_dustIn cX0_dustIn 3 (some .int) args σ post
theorem kcX0_dustIn : Cond.code yX0_dustIn cX0_dustIn 3 (some .int) ∈ mx_tbl := mx_in 292 (by decide +kernel) rfl
theorem kiX0_dustIn : Cond.instanceMethod yX0_dustIn ∈ mx_tbl := mx_in 290 (by decide +kernel) rfl
theorem ksX0_dustIn : Cond.selects yX0_dustIn.cls yX0_dustIn yX0_dustIn ∈ mx_tbl := mx_in 291 (by decide +kernel) rfl
theorem kyX0_dustIn : yX0_dustIn.cls ≠ "java/lang/invoke/MethodHandle" ∧ yX0_dustIn.cls ≠ "java/lang/invoke/VarHandle" ∧ (parseMethodDescriptor yX0_dustIn.desc).map (fun d => d.parameters.length) = some 1 := by decide +kernel
abbrev MX0_burns (E : mx_E) (K : Nat) (args : List Value) (σ : Mem) (post : Option Value → Mem → Prop) : Prop := MM E K yX0_burns cX0_burns 1 (some .int) args σ post
theorem kcX0_burns : Cond.code yX0_burns cX0_burns 1 (some .int) ∈ mx_tbl := mx_in 288 (by decide +kernel) rfl
theorem kiX0_burns : Cond.instanceMethod yX0_burns ∈ mx_tbl := mx_in 286 (by decide +kernel) rfl
theorem ksX0_burns : Cond.selects yX0_burns.cls yX0_burns yX0_burns ∈ mx_tbl := mx_in 287 (by decide +kernel) rfl
theorem kyX0_burns : yX0_burns.cls ≠ "java/lang/invoke/MethodHandle" ∧ yX0_burns.cls ≠ "java/lang/invoke/VarHandle" ∧ (parseMethodDescriptor yX0_burns.desc).map (fun d => d.parameters.length) = some 0 := by decide +kernel
abbrev MX0_childFrom (E : mx_E) (K : Nat) (args : List Value) (σ : Mem) (post : Option Value → Mem → Prop) : Prop := MM E K yX0_childFrom cX0_childFrom 3 (some .int) args σ post
theorem kcX0_childFrom : Cond.code yX0_childFrom cX0_childFrom 3 (some .int) ∈ mx_tbl := mx_in 311 (by decide +kernel) rfl
theorem kiX0_childFrom : Cond.instanceMethod yX0_childFrom ∈ mx_tbl := mx_in 309 (by decide +kernel) rfl
theorem ksX0_childFrom : Cond.selects yX0_childFrom.cls yX0_childFrom yX0_childFrom ∈ mx_tbl := mx_in 310 (by decide +kernel) rfl
theorem kyX0_childFrom : yX0_childFrom.cls ≠ "java/lang/invoke/MethodHandle" ∧ yX0_childFrom.cls ≠ "java/lang/invoke/VarHandle" ∧ (parseMethodDescriptor yX0_childFrom.desc).map (fun d => d.parameters.length) = some 0 := by decide +kernel
abbrev MX0_childIsFound (E : mx_E) (K : Nat) (args : List Value) (σ : Mem) (post : Option Value → Mem → Prop) : Prop := MM E K yX0_childIsFound cX0_childIsFound 1 (some .boolean) args σ post
theorem kcX0_childIsFound : Cond.code yX0_childIsFound cX0_childIsFound 1 (some .boolean) ∈ mx_tbl := mx_in 303 (by decide +kernel) rfl
theorem kiX0_childIsFound : Cond.instanceMethod yX0_childIsFound ∈ mx_tbl := mx_in 301 (by decide +kernel) rfl
theorem ksX0_childIsFound : Cond.selects yX0_childIsFound.cls yX0_childIsFound yX0_childIsFound ∈ mx_tbl := mx_in 302 (by decide +kernel) rfl
theorem kyX0_childIsFound : yX0_childIsFound.cls ≠ "java/lang/invoke/MethodHandle" ∧ yX0_childIsFound.cls ≠ "java/lang/invoke/VarHandle" ∧ (parseMethodDescriptor yX0_childIsFound.desc).map (fun d => d.parameters.length) = some 0 := by decide +kernel
abbrev MX0_addDust (E : mx_E) (K : Nat) (args : List Value) (σ : Mem) (post : Option Value → Mem → Prop) : Prop := MM E K yX0_addDust cX0_addDust 2 none args σ post
theorem kcX0_addDust : Cond.code yX0_addDust cX0_addDust 2 none ∈ mx_tbl := mx_in 296 (by decide +kernel) rfl
theorem kiX0_addDust : Cond.instanceMethod yX0_addDust ∈ mx_tbl := mx_in 294 (by decide +kernel) rfl
theorem ksX0_addDust : Cond.selects yX0_addDust.cls yX0_addDust yX0_addDust ∈ mx_tbl := mx_in 295 (by decide +kernel) rfl
theorem kyX0_addDust : yX0_addDust.cls ≠ "java/lang/invoke/MethodHandle" ∧ yX0_addDust.cls ≠ "java/lang/invoke/VarHandle" ∧ (parseMethodDescriptor yX0_addDust.desc).map (fun d => d.parameters.length) = some 1 := by decide +kernel
abbrev MX0_dent (E : mx_E) (K : Nat) (args : List Value) (σ : Mem) (post : Option Value → Mem → Prop) : Prop := MM E K yX0_dent cX0_dent 1 none args σ post
theorem kcX0_dent : Cond.code yX0_dent cX0_dent 1 none ∈ mx_tbl := mx_in 315 (by decide +kernel) rfl
theorem kiX0_dent : Cond.instanceMethod yX0_dent ∈ mx_tbl := mx_in 313 (by decide +kernel) rfl
theorem ksX0_dent : Cond.selects yX0_dent.cls yX0_dent yX0_dent ∈ mx_tbl := mx_in 314 (by decide +kernel) rfl
theorem kyX0_dent : yX0_dent.cls ≠ "java/lang/invoke/MethodHandle" ∧ yX0_dent.cls ≠ "java/lang/invoke/VarHandle" ∧ (parseMethodDescriptor yX0_dent.desc).map (fun d => d.parameters.length) = some 0 := by decide +kernel
abbrev MX0_letTheRoom (E : mx_E) (K : Nat) (args : List Value) (σ : Mem) (post : Option Value → Mem → Prop) : Prop := MM E K yX0_letTheRoom cX0_letTheRoom 1 none args σ post
theorem kcX0_letTheRoom : Cond.code yX0_letTheRoom cX0_letTheRoom 1 none ∈ mx_tbl := mx_in 511 (by decide +kernel) rfl
theorem kiX0_letTheRoom : Cond.instanceMethod yX0_letTheRoom ∈ mx_tbl := mx_in 509 (by decide +kernel) rfl
theorem ksX0_letTheRoom : Cond.selects yX0_letTheRoom.cls yX0_letTheRoom yX0_letTheRoom ∈ mx_tbl := mx_in 510 (by decide +kernel) rfl
theorem kyX0_letTheRoom : yX0_letTheRoom.cls ≠ "java/lang/invoke/MethodHandle" ∧ yX0_letTheRoom.cls ≠ "java/lang/invoke/VarHandle" ∧ (parseMethodDescriptor yX0_letTheRoom.desc).map (fun d => d.parameters.length) = some 0 := by decide +kernel
abbrev MX0_spendWeek (E : mx_E) (K : Nat) (args : List Value) (σ : Mem) (post : Option Value → Mem → Prop) : Prop := MM E K yX0_spendWeek cX0_spendWeek 5 (some .int) args σ post
theorem kcX0_spendWeek : Cond.code yX0_spendWeek cX0_spendWeek 5 (some .int) ∈ mx_tbl := mx_in 284 (by decide +kernel) rfl
theorem kiX0_spendWeek : Cond.instanceMethod yX0_spendWeek ∈ mx_tbl := mx_in 282 (by decide +kernel) rfl
theorem ksX0_spendWeek : Cond.selects yX0_spendWeek.cls yX0_spendWeek yX0_spendWeek ∈ mx_tbl := mx_in 283 (by decide +kernel) rfl
theorem kyX0_spendWeek : yX0_spendWeek.cls ≠ "java/lang/invoke/MethodHandle" ∧ yX0_spendWeek.cls ≠ "java/lang/invoke/VarHandle" ∧ (parseMethodDescriptor yX0_spendWeek.desc).map (fun d => d.parameters.length) = some 2 := by decide +kernel
abbrev MX1_isFull (E : mx_E) (K : Nat) (args : List Value) (σ : Mem) (post : Option Value → Mem → Prop) : Prop := MM E K yX1_isFull cX1_isFull 1 (some .boolean) args σ post
theorem kcX1_isFull : Cond.code yX1_isFull cX1_isFull 1 (some .boolean) ∈ mx_tbl := mx_in 194 (by decide +kernel) rfl
theorem kiX1_isFull : Cond.instanceMethod yX1_isFull ∈ mx_tbl := mx_in 192 (by decide +kernel) rfl
theorem ksX1_isFull : Cond.selects yX1_isFull.cls yX1_isFull yX1_isFull ∈ mx_tbl := mx_in 193 (by decide +kernel) rfl
theorem kyX1_isFull : yX1_isFull.cls ≠ "java/lang/invoke/MethodHandle" ∧ yX1_isFull.cls ≠ "java/lang/invoke/VarHandle" ∧ (parseMethodDescriptor yX1_isFull.desc).map (fun d => d.parameters.length) = some 0 := by decide +kernel
abbrev MX1_add (E : mx_E) (K : Nat) (args : List Value) (σ : Mem) (post : Option Value → Mem → Prop) : Prop := MM E K yX1_add cX1_add 2 none args σ post
theorem kcX1_add : Cond.code yX1_add cX1_add 2 none ∈ mx_tbl := mx_in 198 (by decide +kernel) rfl
theorem kiX1_add : Cond.instanceMethod yX1_add ∈ mx_tbl := mx_in 196 (by decide +kernel) rfl
theorem ksX1_add : Cond.selects yX1_add.cls yX1_add yX1_add ∈ mx_tbl := mx_in 197 (by decide +kernel) rfl
theorem kyX1_add : yX1_add.cls ≠ "java/lang/invoke/MethodHandle" ∧ yX1_add.cls ≠ "java/lang/invoke/VarHandle" ∧ (parseMethodDescriptor yX1_add.desc).map (fun d => d.parameters.length) = some 1 := by decide +kernel
abbrev MX1_at (E : mx_E) (K : Nat) (args : List Value) (σ : Mem) (post : Option Value → Mem → Prop) : Prop := MM E K yX1_at cX1_at 2 (some .int) args σ post
theorem kcX1_at : Cond.code yX1_at cX1_at 2 (some .int) ∈ mx_tbl := mx_in 210 (by decide +kernel) rfl
theorem kiX1_at : Cond.instanceMethod yX1_at ∈ mx_tbl := mx_in 208 (by decide +kernel) rfl
theorem ksX1_at : Cond.selects yX1_at.cls yX1_at yX1_at ∈ mx_tbl := mx_in 209 (by decide +kernel) rfl
theorem kyX1_at : yX1_at.cls ≠ "java/lang/invoke/MethodHandle" ∧ yX1_at.cls ≠ "java/lang/invoke/VarHandle" ∧ (parseMethodDescriptor yX1_at.desc).map (fun d => d.parameters.length) = some 1 := by decide +kernel
abbrev MX1_drop (E : mx_E) (K : Nat) (args : List Value) (σ : Mem) (post : Option Value → Mem → Prop) : Prop := MM E K yX1_drop cX1_drop 1 none args σ post
theorem kcX1_drop : Cond.code yX1_drop cX1_drop 1 none ∈ mx_tbl := mx_in 332 (by decide +kernel) rfl
theorem kiX1_drop : Cond.instanceMethod yX1_drop ∈ mx_tbl := mx_in 330 (by decide +kernel) rfl
theorem ksX1_drop : Cond.selects yX1_drop.cls yX1_drop yX1_drop ∈ mx_tbl := mx_in 331 (by decide +kernel) rfl
theorem kyX1_drop : yX1_drop.cls ≠ "java/lang/invoke/MethodHandle" ∧ yX1_drop.cls ≠ "java/lang/invoke/VarHandle" ∧ (parseMethodDescriptor yX1_drop.desc).map (fun d => d.parameters.length) = some 0 := by decide +kernel
abbrev MX2_has (E : mx_E) (K : Nat) (args : List Value) (σ : Mem) (post : Option Value → Mem → Prop) : Prop := MM E K yX2_has cX2_has 2 (some .boolean) args σ post
theorem kcX2_has : Cond.code yX2_has cX2_has 2 (some .boolean) ∈ mx_tbl := mx_in 259 (by decide +kernel) rfl
theorem kiX2_has : Cond.instanceMethod yX2_has ∈ mx_tbl := mx_in 257 (by decide +kernel) rfl
theorem ksX2_has : Cond.selects yX2_has.cls yX2_has yX2_has ∈ mx_tbl := mx_in 258 (by decide +kernel) rfl
theorem kyX2_has : yX2_has.cls ≠ "java/lang/invoke/MethodHandle" ∧ yX2_has.cls ≠ "java/lang/invoke/VarHandle" ∧ (parseMethodDescriptor yX2_has.desc).map (fun d => d.parameters.length) = some 1 := by decide +kernel
abbrev MX2_at (E : mx_E) (K : Nat) (args : List Value) (σ : Mem) (post : Option Value → Mem → Prop) : Prop := MM E K yX2_at cX2_at 2 (some (.object "RoomToSpare$House")) args σ post
theorem kcX2_at : Cond.code yX2_at cX2_at 2 (some (.object "RoomToSpare$House")) ∈ mx_tbl := mx_in 231 (by decide +kernel) rfl
theorem kiX2_at : Cond.instanceMethod yX2_at ∈ mx_tbl := mx_in 229 (by decide +kernel) rfl
theorem ksX2_at : Cond.selects yX2_at.cls yX2_at yX2_at ∈ mx_tbl := mx_in 230 (by decide +kernel) rfl
theorem kyX2_at : yX2_at.cls ≠ "java/lang/invoke/MethodHandle" ∧ yX2_at.cls ≠ "java/lang/invoke/VarHandle" ∧ (parseMethodDescriptor yX2_at.desc).map (fun d => d.parameters.length) = some 1 := by decide +kernel
abbrev MX2_become (E : mx_E) (K : Nat) (args : List Value) (σ : Mem) (post : Option Value → Mem → Prop) : Prop := MM E K yX2_become cX2_become 3 none args σ post
theorem kcX2_become : Cond.code yX2_become cX2_become 3 none ∈ mx_tbl := mx_in 227 (by decide +kernel) rfl
theorem kiX2_become : Cond.instanceMethod yX2_become ∈ mx_tbl := mx_in 225 (by decide +kernel) rfl
theorem ksX2_become : Cond.selects yX2_become.cls yX2_become yX2_become ∈ mx_tbl := mx_in 226 (by decide +kernel) rfl
theorem kyX2_become : yX2_become.cls ≠ "java/lang/invoke/MethodHandle" ∧ yX2_become.cls ≠ "java/lang/invoke/VarHandle" ∧ (parseMethodDescriptor yX2_become.desc).map (fun d => d.parameters.length) = some 1 := by decide +kernel
abbrev MX2_build (E : mx_E) (K : Nat) (args : List Value) (σ : Mem) (post : Option Value → Mem → Prop) : Prop := MM E K yX2_build cX2_build 6 none args σ post
theorem kcX2_build : Cond.code yX2_build cX2_build 6 none ∈ mx_tbl := mx_in 251 (by decide +kernel) rfl
theorem kiX2_build : Cond.instanceMethod yX2_build ∈ mx_tbl := mx_in 249 (by decide +kernel) rfl
theorem ksX2_build : Cond.selects yX2_build.cls yX2_build yX2_build ∈ mx_tbl := mx_in 250 (by decide +kernel) rfl
theorem kyX2_build : yX2_build.cls ≠ "java/lang/invoke/MethodHandle" ∧ yX2_build.cls ≠ "java/lang/invoke/VarHandle" ∧ (parseMethodDescriptor yX2_build.desc).map (fun d => d.parameters.length) = some 4 := by decide +kernel
abbrev MX2_pass (E : mx_E) (K : Nat) (args : List Value) (σ : Mem) (post : Option Value → Mem → Prop) : Prop := MM E K yX2_pass cX2_pass 5 none args σ post
theorem kcX2_pass : Cond.code yX2_pass cX2_pass 5 none ∈ mx_tbl := mx_in 280 (by decide +kernel) rfl
theorem kiX2_pass : Cond.instanceMethod yX2_pass ∈ mx_tbl := mx_in 278 (by decide +kernel) rfl
theorem ksX2_pass : Cond.selects yX2_pass.cls yX2_pass yX2_pass ∈ mx_tbl := mx_in 279 (by decide +kernel) rfl
theorem kyX2_pass : yX2_pass.cls ≠ "java/lang/invoke/MethodHandle" ∧ yX2_pass.cls ≠ "java/lang/invoke/VarHandle" ∧ (parseMethodDescriptor yX2_pass.desc).map (fun d => d.parameters.length) = some 1 := by decide +kernel
abbrev MX2_inspect (E : mx_E) (K : Nat) (args : List Value) (σ : Mem) (post : Option Value → Mem → Prop) : Prop := MM E K yX2_inspect cX2_inspect 2 none args σ post
theorem kcX2_inspect : Cond.code yX2_inspect cX2_inspect 2 none ∈ mx_tbl := mx_in 319 (by decide +kernel) rfl
theorem kiX2_inspect : Cond.instanceMethod yX2_inspect ∈ mx_tbl := mx_in 318 (by decide +kernel) rfl
theorem ksX2_inspect : Cond.selects yX2_inspect.cls yX2_inspect yX2_inspect ∈ mx_tbl := mx_in 11 (by decide +kernel) rfl
theorem kyX2_inspect : yX2_inspect.cls ≠ "java/lang/invoke/MethodHandle" ∧ yX2_inspect.cls ≠ "java/lang/invoke/VarHandle" ∧ (parseMethodDescriptor yX2_inspect.desc).map (fun d => d.parameters.length) = some 0 := by decide +kernel
abbrev MX2_lose (E : mx_E) (K : Nat) (args : List Value) (σ : Mem) (post : Option Value → Mem → Prop) : Prop := MM E K yX2_lose cX2_lose 4 none args σ post
theorem kcX2_lose : Cond.code yX2_lose cX2_lose 4 none ∈ mx_tbl := mx_in 327 (by decide +kernel) rfl
theorem kiX2_lose : Cond.instanceMethod yX2_lose ∈ mx_tbl := mx_in 326 (by decide +kernel) rfl
theorem ksX2_lose : Cond.selects yX2_lose.cls yX2_lose yX2_lose ∈ mx_tbl := mx_in 12 (by decide +kernel) rfl
theorem kyX2_lose : yX2_lose.cls ≠ "java/lang/invoke/MethodHandle" ∧ yX2_lose.cls ≠ "java/lang/invoke/VarHandle" ∧ (parseMethodDescriptor yX2_lose.desc).map (fun d => d.parameters.length) = some 2 := by decide +kernel
abbrev MX2_nextKept (E : mx_E) (K : Nat) (args : List Value) (σ : Mem) (post : Option Value → Mem → Prop) : Prop := MM E K yX2_nextKept cX2_nextKept 4 (some .int) args σ post
theorem kcX2_nextKept : Cond.code yX2_nextKept cX2_nextKept 4 (some .int) ∈ mx_tbl := mx_in 323 (by decide +kernel) rfl
theorem kiX2_nextKept : Cond.instanceMethod yX2_nextKept ∈ mx_tbl := mx_in 321 (by decide +kernel) rfl
theorem ksX2_nextKept : Cond.selects yX2_nextKept.cls yX2_nextKept yX2_nextKept ∈ mx_tbl := mx_in 322 (by decide +kernel) rfl
theorem kyX2_nextKept : yX2_nextKept.cls ≠ "java/lang/invoke/MethodHandle" ∧ yX2_nextKept.cls ≠ "java/lang/invoke/VarHandle" ∧ (parseMethodDescriptor yX2_nextKept.desc).map (fun d => d.parameters.length) = some 1 := by decide +kernel
abbrev MX2_keptBits (E : mx_E) (K : Nat) (args : List Value) (σ : Mem) (post : Option Value → Mem → Prop) : Prop := MM E K yX2_keptBits cX2_keptBits 3 (some .int) args σ post
theorem kcX2_keptBits : Cond.code yX2_keptBits cX2_keptBits 3 (some .int) ∈ mx_tbl := mx_in 378 (by decide +kernel) rfl
theorem kiX2_keptBits : Cond.instanceMethod yX2_keptBits ∈ mx_tbl := mx_in 376 (by decide +kernel) rfl
theorem ksX2_keptBits : Cond.selects yX2_keptBits.cls yX2_keptBits yX2_keptBits ∈ mx_tbl := mx_in 377 (by decide +kernel) rfl
theorem kyX2_keptBits : yX2_keptBits.cls ≠ "java/lang/invoke/MethodHandle" ∧ yX2_keptBits.cls ≠ "java/lang/invoke/VarHandle" ∧ (parseMethodDescriptor yX2_keptBits.desc).map (fun d => d.parameters.length) = some 0 := by decide +kernel
abbrev MX2_howManyKept (E : mx_E) (K : Nat) (args : List Value) (σ : Mem) (post : Option Value → Mem → Prop) : Prop := MM E K yX2_howManyKept cX2_howManyKept 1 (some .int) args σ post
theorem kcX2_howManyKept : Cond.code yX2_howManyKept cX2_howManyKept 1 (some .int) ∈ mx_tbl := mx_in 374 (by decide +kernel) rfl
theorem kiX2_howManyKept : Cond.instanceMethod yX2_howManyKept ∈ mx_tbl := mx_in 372 (by decide +kernel) rfl
theorem ksX2_howManyKept : Cond.selects yX2_howManyKept.cls yX2_howManyKept yX2_howManyKept ∈ mx_tbl := mx_in 373 (by decide +kernel) rfl
theorem kyX2_howManyKept : yX2_howManyKept.cls ≠ "java/lang/invoke/MethodHandle" ∧ yX2_howManyKept.cls ≠ "java/lang/invoke/VarHandle" ∧ (parseMethodDescriptor yX2_howManyKept.desc).map (fun d => d.parameters.length) = some 0 := by decide +kernel
abbrev MX2_emptyBits (E : mx_E) (K : Nat) (args : List Value) (σ : Mem) (post : Option Value → Mem → Prop) : Prop := MM E K yX2_emptyBits cX2_emptyBits 3 (some .int) args σ post
theorem kcX2_emptyBits : Cond.code yX2_emptyBits cX2_emptyBits 3 (some .int) ∈ mx_tbl := mx_in 494 (by decide +kernel) rfl
theorem kiX2_emptyBits : Cond.instanceMethod yX2_emptyBits ∈ mx_tbl := mx_in 492 (by decide +kernel) rfl
theorem ksX2_emptyBits : Cond.selects yX2_emptyBits.cls yX2_emptyBits yX2_emptyBits ∈ mx_tbl := mx_in 493 (by decide +kernel) rfl
theorem kyX2_emptyBits : yX2_emptyBits.cls ≠ "java/lang/invoke/MethodHandle" ∧ yX2_emptyBits.cls ≠ "java/lang/invoke/VarHandle" ∧ (parseMethodDescriptor yX2_emptyBits.desc).map (fun d => d.parameters.length) = some 0 := by decide +kernel
abbrev MX2_crowdedBits (E : mx_E) (K : Nat) (args : List Value) (σ : Mem) (post : Option Value → Mem → Prop) : Prop := MM E K yX2_crowdedBits cX2_crowdedBits 3 (some .int) args σ post
theorem kcX2_crowdedBits : Cond.code yX2_crowdedBits cX2_crowdedBits 3 (some .int) ∈ mx_tbl := mx_in 498 (by decide +kernel) rfl
theorem kiX2_crowdedBits : Cond.instanceMethod yX2_crowdedBits ∈ mx_tbl := mx_in 496 (by decide +kernel) rfl
theorem ksX2_crowdedBits : Cond.selects yX2_crowdedBits.cls yX2_crowdedBits yX2_crowdedBits ∈ mx_tbl := mx_in 497 (by decide +kernel) rfl
theorem kyX2_crowdedBits : yX2_crowdedBits.cls ≠ "java/lang/invoke/MethodHandle" ∧ yX2_crowdedBits.cls ≠ "java/lang/invoke/VarHandle" ∧ (parseMethodDescriptor yX2_crowdedBits.desc).map (fun d => d.parameters.length) = some 0 := by decide +kernel
abbrev MX2_allPeople (E : mx_E) (K : Nat) (args : List Value) (σ : Mem) (post : Option Value → Mem → Prop) : Prop := MM E K yX2_allPeople cX2_allPeople 3 (some .int) args σ post
theorem kcX2_allPeople : Cond.code yX2_allPeople cX2_allPeople 3 (some .int) ∈ mx_tbl := mx_in 542 (by decide +kernel) rfl
theorem kiX2_allPeople : Cond.instanceMethod yX2_allPeople ∈ mx_tbl := mx_in 540 (by decide +kernel) rfl
theorem ksX2_allPeople : Cond.selects yX2_allPeople.cls yX2_allPeople yX2_allPeople ∈ mx_tbl := mx_in 541 (by decide +kernel) rfl
theorem kyX2_allPeople : yX2_allPeople.cls ≠ "java/lang/invoke/MethodHandle" ∧ yX2_allPeople.cls ≠ "java/lang/invoke/VarHandle" ∧ (parseMethodDescriptor yX2_allPeople.desc).map (fun d => d.parameters.length) = some 0 := by decide +kernel
abbrev MX2_burnsInAWeek (E : mx_E) (K : Nat) (args : List Value) (σ : Mem) (post : Option Value → Mem → Prop) : Prop := MM E K yX2_burnsInAWeek cX2_burnsInAWeek 3 (some .int) args σ post
theorem kcX2_burnsInAWeek : Cond.code yX2_burnsInAWeek cX2_burnsInAWeek 3 (some .int) ∈ mx_tbl := mx_in 416 (by decide +kernel) rfl
theorem kiX2_burnsInAWeek : Cond.instanceMethod yX2_burnsInAWeek ∈ mx_tbl := mx_in 414 (by decide +kernel) rfl
theorem ksX2_burnsInAWeek : Cond.selects yX2_burnsInAWeek.cls yX2_burnsInAWeek yX2_burnsInAWeek ∈ mx_tbl := mx_in 415 (by decide +kernel) rfl
theorem kyX2_burnsInAWeek : yX2_burnsInAWeek.cls ≠ "java/lang/invoke/MethodHandle" ∧ yX2_burnsInAWeek.cls ≠ "java/lang/invoke/VarHandle" ∧ (parseMethodDescriptor yX2_burnsInAWeek.desc).map (fun d => d.parameters.length) = some 0 := by decide +kernel
abbrev MX2_roomForMore (E : mx_E) (K : Nat) (args : List Value) (σ : Mem) (post : Option Value → Mem → Prop) : Prop := MM E K yX2_roomForMore cX2_roomForMore 4 (some .int) args σ post
theorem kcX2_roomForMore : Cond.code yX2_roomForMore cX2_roomForMore 4 (some .int) ∈ mx_tbl := mx_in 463 (by decide +kernel) rfl
theorem kiX2_roomForMore : Cond.instanceMethod yX2_roomForMore ∈ mx_tbl := mx_in 461 (by decide +kernel) rfl
theorem ksX2_roomForMore : Cond.selects yX2_roomForMore.cls yX2_roomForMore yX2_roomForMore ∈ mx_tbl := mx_in 462 (by decide +kernel) rfl
theorem kyX2_roomForMore : yX2_roomForMore.cls ≠ "java/lang/invoke/MethodHandle" ∧ yX2_roomForMore.cls ≠ "java/lang/invoke/VarHandle" ∧ (parseMethodDescriptor yX2_roomForMore.desc).map (fun d => d.parameters.length) = some 0 := by decide +kernel
abbrev MX2_fullest (E : mx_E) (K : Nat) (args : List Value) (σ : Mem) (post : Option Value → Mem → Prop) : Prop := MM E K yX2_fullest cX2_fullest 3 (some .int) args σ post
theorem kcX2_fullest : Cond.code yX2_fullest cX2_fullest 3 (some .int) ∈ mx_tbl := mx_in 468 (by decide +kernel) rfl
theorem kiX2_fullest : Cond.instanceMethod yX2_fullest ∈ mx_tbl := mx_in 466 (by decide +kernel) rfl
theorem ksX2_fullest : Cond.selects yX2_fullest.cls yX2_fullest yX2_fullest ∈ mx_tbl := mx_in 467 (by decide +kernel) rfl
theorem kyX2_fullest : yX2_fullest.cls ≠ "java/lang/invoke/MethodHandle" ∧ yX2_fullest.cls ≠ "java/lang/invoke/VarHandle" ∧ (parseMethodDescriptor yX2_fullest.desc).map (fun d => d.parameters.length) = some 0 := by decide +kernel
abbrev MX2_dustiest (E : mx_E) (K : Nat) (args : List Value) (σ : Mem) (post : Option Value → Mem → Prop) : Prop := MM E K yX2_dustiest cX2_dustiest 3 (some .int) args σ post
theorem kcX2_dustiest : Cond.code yX2_dustiest cX2_dustiest 3 (some .int) ∈ mx_tbl := mx_in 472 (by decide +kernel) rfl
theorem kiX2_dustiest : Cond.instanceMethod yX2_dustiest ∈ mx_tbl := mx_in 470 (by decide +kernel) rfl
theorem ksX2_dustiest : Cond.selects yX2_dustiest.cls yX2_dustiest yX2_dustiest ∈ mx_tbl := mx_in 471 (by decide +kernel) rfl
theorem kyX2_dustiest : yX2_dustiest.cls ≠ "java/lang/invoke/MethodHandle" ∧ yX2_dustiest.cls ≠ "java/lang/invoke/VarHandle" ∧ (parseMethodDescriptor yX2_dustiest.desc).map (fun d => d.parameters.length) = some 0 := by decide +kernel
abbrev MX2_longestRunOfLost (E : mx_E) (K : Nat) (args : List Value) (σ : Mem) (post : Option Value → Mem → Prop) : Prop := MM E K yX2_longestRunOfLost cX2_longestRunOfLost 4 (some .int) args σ post
theorem kcX2_longestRunOfLost : Cond.code yX2_longestRunOfLost cX2_longestRunOfLost 4 (some .int) ∈ mx_tbl := mx_in 489 (by decide +kernel) rfl
theorem kiX2_longestRunOfLost : Cond.instanceMethod yX2_longestRunOfLost ∈ mx_tbl := mx_in 487 (by decide +kernel) rfl
theorem ksX2_longestRunOfLost : Cond.selects yX2_longestRunOfLost.cls yX2_longestRunOfLost yX2_longestRunOfLost ∈ mx_tbl := mx_in 488 (by decide +kernel) rfl
theorem kyX2_longestRunOfLost : yX2_longestRunOfLost.cls ≠ "java/lang/invoke/MethodHandle" ∧ yX2_longestRunOfLost.cls ≠ "java/lang/invoke/VarHandle" ∧ (parseMethodDescriptor yX2_longestRunOfLost.desc).map (fun d => d.parameters.length) = some 0 := by decide +kernel
abbrev MX3_letter (E : mx_E) (K : Nat) (args : List Value) (σ : Mem) (post : Option Value → Mem → Prop) : Prop := MM E K yX3_letter cX3_letter 2 (some .int) args σ post
theorem kcX3_letter : Cond.code yX3_letter cX3_letter 2 (some .int) ∈ mx_tbl := mx_in 186 (by decide +kernel) rfl
theorem kiX3_letter : Cond.instanceMethod yX3_letter ∈ mx_tbl := mx_in 184 (by decide +kernel) rfl
theorem ksX3_letter : Cond.selects yX3_letter.cls yX3_letter yX3_letter ∈ mx_tbl := mx_in 185 (by decide +kernel) rfl
theorem kyX3_letter : yX3_letter.cls ≠ "java/lang/invoke/MethodHandle" ∧ yX3_letter.cls ≠ "java/lang/invoke/VarHandle" ∧ (parseMethodDescriptor yX3_letter.desc).map (fun d => d.parameters.length) = some 1 := by decide +kernel
abbrev MX3_town (E : mx_E) (K : Nat) (args : List Value) (σ : Mem) (post : Option Value → Mem → Prop) : Prop := MM E K yX3_town cX3_town 3 (some .int) args σ post
theorem kcX3_town : Cond.code yX3_town cX3_town 3 (some .int) ∈ mx_tbl := mx_in 202 (by decide +kernel) rfl
theorem kiX3_town : Cond.instanceMethod yX3_town ∈ mx_tbl := mx_in 200 (by decide +kernel) rfl
theorem ksX3_town : Cond.selects yX3_town.cls yX3_town yX3_town ∈ mx_tbl := mx_in 201 (by decide +kernel) rfl
theorem kyX3_town : yX3_town.cls ≠ "java/lang/invoke/MethodHandle" ∧ yX3_town.cls ≠ "java/lang/invoke/VarHandle" ∧ (parseMethodDescriptor yX3_town.desc).map (fun d => d.parameters.length) = some 0 := by decide +kernel
abbrev MX3_readStatements (E : mx_E) (K : Nat) (args : List Value) (σ : Mem) (post : Option Value → Mem → Prop) : Prop := MM E K yX3_readStatements cX3_readStatements 3 (some .int) args σ post
theorem kcX3_readStatements : Cond.code yX3_readStatements cX3_readStatements 3 (some .int) ∈ mx_tbl := mx_in 223 (by decide +kernel) rfl
theorem kiX3_readStatements : Cond.instanceMethod yX3_readStatements ∈ mx_tbl := mx_in 222 (by decide +kernel) rfl
theorem ksX3_readStatements : Cond.selects yX3_readStatements.cls yX3_readStatements yX3_readStatements ∈ mx_tbl := mx_in 2 (by decide +kernel) rfl
theorem kyX3_readStatements : yX3_readStatements.cls ≠ "java/lang/invoke/MethodHandle" ∧ yX3_readStatements.cls ≠ "java/lang/invoke/VarHandle" ∧ (parseMethodDescriptor yX3_readStatements.desc).map (fun d => d.parameters.length) = some 0 := by decide +kernel
abbrev MX3_brokenPlace (E : mx_E) (K : Nat) (args : List Value) (σ : Mem) (post : Option Value → Mem → Prop) : Prop := MM E K yX3_brokenPlace cX3_brokenPlace 3 (some .int) args σ post
theorem kcX3_brokenPlace : Cond.code yX3_brokenPlace cX3_brokenPlace 3 (some .int) ∈ mx_tbl := mx_in 206 (by decide +kernel) rfl
theorem kiX3_brokenPlace : Cond.instanceMethod yX3_brokenPlace ∈ mx_tbl := mx_in 205 (by decide +kernel) rfl
theorem ksX3_brokenPlace : Cond.selects yX3_brokenPlace.cls yX3_brokenPlace yX3_brokenPlace ∈ mx_tbl := mx_in 1 (by decide +kernel) rfl
theorem kyX3_brokenPlace : yX3_brokenPlace.cls ≠ "java/lang/invoke/MethodHandle" ∧ yX3_brokenPlace.cls ≠ "java/lang/invoke/VarHandle" ∧ (parseMethodDescriptor yX3_brokenPlace.desc).map (fun d => d.parameters.length) = some 0 := by decide +kernel
abbrev MX3_waitsBehind (E : mx_E) (K : Nat) (args : List Value) (σ : Mem) (post : Option Value → Mem → Prop) : Prop := MM E K yX3_waitsBehind cX3_waitsBehind 2 (some .int) args σ post
theorem kcX3_waitsBehind : Cond.code yX3_waitsBehind cX3_waitsBehind 2 (some .int) ∈ mx_tbl := mx_in 213 (by decide +kernel) rfl
theorem ktX3_waitsBehind : Cond.static yX3_waitsBehind ∈ mx_tbl := mx_in 212 (by decide +kernel) rfl
theorem kyX3_waitsBehind : yX3_waitsBehind.cls ≠ "java/lang/invoke/MethodHandle" ∧ yX3_waitsBehind.cls ≠ "java/lang/invoke/VarHandle" ∧ (parseMethodDescriptor yX3_waitsBehind.desc).map (fun d => d.parameters.length) = some 2 := by decide +kernel
abbrev MX3_waitsBehindFirst (E : mx_E) (K : Nat) (args : List Value) (σ : Mem) (post : Option Value → Mem → Prop) : Prop := MM E K yX3_waitsBehindFirst cX3_waitsBehindFirst 1 (some .int) args σ post
theorem kcX3_waitsBehindFirst : Cond.code yX3_waitsBehindFirst cX3_waitsBehindFirst 1 (some .int) ∈ mx_tbl := mx_in 216 (by decide +kernel) rfl
theorem ktX3_waitsBehindFirst : Cond.static yX3_waitsBehindFirst ∈ mx_tbl := mx_in 215 (by decide +kernel) rfl
theorem kyX3_waitsBehindFirst : yX3_waitsBehindFirst.cls ≠ "java/lang/invoke/MethodHandle" ∧ yX3_waitsBehindFirst.cls ≠ "java/lang/invoke/VarHandle" ∧ (parseMethodDescriptor yX3_waitsBehindFirst.desc).map (fun d => d.parameters.length) = some 1 := by decide +kernel
abbrev MX3_kindOf (E : mx_E) (K : Nat) (args : List Value) (σ : Mem) (post : Option Value → Mem → Prop) : Prop := MM E K yX3_kindOf cX3_kindOf 1 (some .int) args σ post
theorem kcX3_kindOf : Cond.code yX3_kindOf cX3_kindOf 1 (some .int) ∈ mx_tbl := mx_in 219 (by decide +kernel) rfl
theorem ktX3_kindOf : Cond.static yX3_kindOf ∈ mx_tbl := mx_in 218 (by decide +kernel) rfl
theorem kyX3_kindOf : yX3_kindOf.cls ≠ "java/lang/invoke/MethodHandle" ∧ yX3_kindOf.cls ≠ "java/lang/invoke/VarHandle" ∧ (parseMethodDescriptor yX3_kindOf.desc).map (fun d => d.parameters.length) = some 1 := by decide +kernel
abbrev MX3_comes (E : mx_E) (K : Nat) (args : List Value) (σ : Mem) (post : Option Value → Mem → Prop) : Prop := MM E K yX3_comes cX3_comes 2 (some .boolean) args σ post
theorem kcX3_comes : Cond.code yX3_comes cX3_comes 2 (some .boolean) ∈ mx_tbl := mx_in 239 (by decide +kernel) rfl
theorem kiX3_comes : Cond.instanceMethod yX3_comes ∈ mx_tbl := mx_in 238 (by decide +kernel) rfl
theorem ksX3_comes : Cond.selects yX3_comes.cls yX3_comes yX3_comes ∈ mx_tbl := mx_in 3 (by decide +kernel) rfl
theorem kyX3_comes : yX3_comes.cls ≠ "java/lang/invoke/MethodHandle" ∧ yX3_comes.cls ≠ "java/lang/invoke/VarHandle" ∧ (parseMethodDescriptor yX3_comes.desc).map (fun d => d.parameters.length) = some 1 := by decide +kernel
abbrev MX3_comesHouse (E : mx_E) (K : Nat) (args : List Value) (σ : Mem) (post : Option Value → Mem → Prop) : Prop := MM E K yX3_comesHouse cX3_comesHouse 4 (some .boolean) args σ post
theorem kcX3_comesHouse : Cond.code yX3_comesHouse cX3_comesHouse 4 (some .boolean) ∈ mx_tbl := mx_in 243 (by decide +kernel) rfl
theorem kiX3_comesHouse : Cond.instanceMethod yX3_comesHouse ∈ mx_tbl := mx_in 242 (by decide +kernel) rfl
theorem ksX3_comesHouse : Cond.selects yX3_comesHouse.cls yX3_comesHouse yX3_comesHouse ∈ mx_tbl := mx_in 4 (by decide +kernel) rfl
theorem kyX3_comesHouse : yX3_comesHouse.cls ≠ "java/lang/invoke/MethodHandle" ∧ yX3_comesHouse.cls ≠ "java/lang/invoke/VarHandle" ∧ (parseMethodDescriptor yX3_comesHouse.desc).map (fun d => d.parameters.length) = some 1 := by decide +kernel
abbrev MX3_comesPeople (E : mx_E) (K : Nat) (args : List Value) (σ : Mem) (post : Option Value → Mem → Prop) : Prop := MM E K yX3_comesPeople cX3_comesPeople 4 (some .boolean) args σ post
theorem kcX3_comesPeople : Cond.code yX3_comesPeople cX3_comesPeople 4 (some .boolean) ∈ mx_tbl := mx_in 255 (by decide +kernel) rfl
theorem kiX3_comesPeople : Cond.instanceMethod yX3_comesPeople ∈ mx_tbl := mx_in 254 (by decide +kernel) rfl
theorem ksX3_comesPeople : Cond.selects yX3_comesPeople.cls yX3_comesPeople yX3_comesPeople ∈ mx_tbl := mx_in 6 (by decide +kernel) rfl
theorem kyX3_comesPeople : yX3_comesPeople.cls ≠ "java/lang/invoke/MethodHandle" ∧ yX3_comesPeople.cls ≠ "java/lang/invoke/VarHandle" ∧ (parseMethodDescriptor yX3_comesPeople.desc).map (fun d => d.parameters.length) = some 1 := by decide +kernel
abbrev MX3_comesDust (E : mx_E) (K : Nat) (args : List Value) (σ : Mem) (post : Option Value → Mem → Prop) : Prop := MM E K yX3_comesDust cX3_comesDust 4 (some .boolean) args σ post
theorem kcX3_comesDust : Cond.code yX3_comesDust cX3_comesDust 4 (some .boolean) ∈ mx_tbl := mx_in 264 (by decide +kernel) rfl
theorem kiX3_comesDust : Cond.instanceMethod yX3_comesDust ∈ mx_tbl := mx_in 263 (by decide +kernel) rfl
theorem ksX3_comesDust : Cond.selects yX3_comesDust.cls yX3_comesDust yX3_comesDust ∈ mx_tbl := mx_in 7 (by decide +kernel) rfl
theorem kyX3_comesDust : yX3_comesDust.cls ≠ "java/lang/invoke/MethodHandle" ∧ yX3_comesDust.cls ≠ "java/lang/invoke/VarHandle" ∧ (parseMethodDescriptor yX3_comesDust.desc).map (fun d => d.parameters.length) = some 1 := by decide +kernel
abbrev MX3_comesTurned (E : mx_E) (K : Nat) (args : List Value) (σ : Mem) (post : Option Value → Mem → Prop) : Prop := MM E K yX3_comesTurned cX3_comesTurned 3 (some .boolean) args σ post
theorem kcX3_comesTurned : Cond.code yX3_comesTurned cX3_comesTurned 3 (some .boolean) ∈ mx_tbl := mx_in 268 (by decide +kernel) rfl
theorem kiX3_comesTurned : Cond.instanceMethod yX3_comesTurned ∈ mx_tbl := mx_in 267 (by decide +kernel) rfl
theorem ksX3_comesTurned : Cond.selects yX3_comesTurned.cls yX3_comesTurned yX3_comesTurned ∈ mx_tbl := mx_in 8 (by decide +kernel) rfl
theorem kyX3_comesTurned : yX3_comesTurned.cls ≠ "java/lang/invoke/MethodHandle" ∧ yX3_comesTurned.cls ≠ "java/lang/invoke/VarHandle" ∧ (parseMethodDescriptor yX3_comesTurned.desc).map (fun d => d.parameters.length) = some 1 := by decide +kernel
abbrev MX3_comesInspector (E : mx_E) (K : Nat) (args : List Value) (σ : Mem) (post : Option Value → Mem → Prop) : Prop := MM E K yX3_comesInspector cX3_comesInspector 3 (some .boolean) args σ post
theorem kcX3_comesInspector : Cond.code yX3_comesInspector cX3_comesInspector 3 (some .boolean) ∈ mx_tbl := mx_in 272 (by decide +kernel) rfl
theorem kiX3_comesInspector : Cond.instanceMethod yX3_comesInspector ∈ mx_tbl := mx_in 271 (by decide +kernel) rfl
theorem ksX3_comesInspector : Cond.selects yX3_comesInspector.cls yX3_comesInspector yX3_comesInspector ∈ mx_tbl := mx_in 9 (by decide +kernel) rfl
theorem kyX3_comesInspector : yX3_comesInspector.cls ≠ "java/lang/invoke/MethodHandle" ∧ yX3_comesInspector.cls ≠ "java/lang/invoke/VarHandle" ∧ (parseMethodDescriptor yX3_comesInspector.desc).map (fun d => d.parameters.length) = some 1 := by decide +kernel
abbrev MX3_comesWeeks (E : mx_E) (K : Nat) (args : List Value) (σ : Mem) (post : Option Value → Mem → Prop) : Prop := MM E K yX3_comesWeeks cX3_comesWeeks 3 (some .boolean) args σ post
theorem kcX3_comesWeeks : Cond.code yX3_comesWeeks cX3_comesWeeks 3 (some .boolean) ∈ mx_tbl := mx_in 276 (by decide +kernel) rfl
theorem kiX3_comesWeeks : Cond.instanceMethod yX3_comesWeeks ∈ mx_tbl := mx_in 275 (by decide +kernel) rfl
theorem ksX3_comesWeeks : Cond.selects yX3_comesWeeks.cls yX3_comesWeeks yX3_comesWeeks ∈ mx_tbl := mx_in 10 (by decide +kernel) rfl
theorem kyX3_comesWeeks : yX3_comesWeeks.cls ≠ "java/lang/invoke/MethodHandle" ∧ yX3_comesWeeks.cls ≠ "java/lang/invoke/VarHandle" ∧ (parseMethodDescriptor yX3_comesWeeks.desc).map (fun d => d.parameters.length) = some 1 := by decide +kernel
abbrev MX3_number (E : mx_E) (K : Nat) (args : List Value) (σ : Mem) (post : Option Value → Mem → Prop) : Prop := MM E K yX3_number cX3_number 5 (some .int) args σ post
theorem kcX3_number : Cond.code yX3_number cX3_number 5 (some .int) ∈ mx_tbl := mx_in 247 (by decide +kernel) rfl
theorem kiX3_number : Cond.instanceMethod yX3_number ∈ mx_tbl := mx_in 246 (by decide +kernel) rfl
theorem ksX3_number : Cond.selects yX3_number.cls yX3_number yX3_number ∈ mx_tbl := mx_in 5 (by decide +kernel) rfl
theorem kyX3_number : yX3_number.cls ≠ "java/lang/invoke/MethodHandle" ∧ yX3_number.cls ≠ "java/lang/invoke/VarHandle" ∧ (parseMethodDescriptor yX3_number.desc).map (fun d => d.parameters.length) = some 2 := by decide +kernel
abbrev MX3_house (E : mx_E) (K : Nat) (args : List Value) (σ : Mem) (post : Option Value → Mem → Prop) : Prop := MM E K yX3_house cX3_house 4 (some .int) args σ post
theorem kcX3_house : Cond.code yX3_house cX3_house 4 (some .int) ∈ mx_tbl := mx_in 336 (by decide +kernel) rfl
theorem kiX3_house : Cond.instanceMethod yX3_house ∈ mx_tbl := mx_in 334 (by decide +kernel) rfl
theorem ksX3_house : Cond.selects yX3_house.cls yX3_house yX3_house ∈ mx_tbl := mx_in 335 (by decide +kernel) rfl
theorem kyX3_house : yX3_house.cls ≠ "java/lang/invoke/MethodHandle" ∧ yX3_house.cls ≠ "java/lang/invoke/VarHandle" ∧ (parseMethodDescriptor yX3_house.desc).map (fun d => d.parameters.length) = some 2 := by decide +kernel
abbrev MX3_peoples (E : mx_E) (K : Nat) (args : List Value) (σ : Mem) (post : Option Value → Mem → Prop) : Prop := MM E K yX3_peoples cX3_peoples 5 (some .int) args σ post
theorem kcX3_peoples : Cond.code yX3_peoples cX3_peoples 5 (some .int) ∈ mx_tbl := mx_in 342 (by decide +kernel) rfl
theorem kiX3_peoples : Cond.instanceMethod yX3_peoples ∈ mx_tbl := mx_in 340 (by decide +kernel) rfl
theorem ksX3_peoples : Cond.selects yX3_peoples.cls yX3_peoples yX3_peoples ∈ mx_tbl := mx_in 341 (by decide +kernel) rfl
theorem kyX3_peoples : yX3_peoples.cls ≠ "java/lang/invoke/MethodHandle" ∧ yX3_peoples.cls ≠ "java/lang/invoke/VarHandle" ∧ (parseMethodDescriptor yX3_peoples.desc).map (fun d => d.parameters.length) = some 2 := by decide +kernel
abbrev MX3_airs (E : mx_E) (K : Nat) (args : List Value) (σ : Mem) (post : Option Value → Mem → Prop) : Prop := MM E K yX3_airs cX3_airs 4 (some .int) args σ post
theorem kcX3_airs : Cond.code yX3_airs cX3_airs 4 (some .int) ∈ mx_tbl := mx_in 346 (by decide +kernel) rfl
theorem kiX3_airs : Cond.instanceMethod yX3_airs ∈ mx_tbl := mx_in 344 (by decide +kernel) rfl
theorem ksX3_airs : Cond.selects yX3_airs.cls yX3_airs yX3_airs ∈ mx_tbl := mx_in 345 (by decide +kernel) rfl
theorem kyX3_airs : yX3_airs.cls ≠ "java/lang/invoke/MethodHandle" ∧ yX3_airs.cls ≠ "java/lang/invoke/VarHandle" ∧ (parseMethodDescriptor yX3_airs.desc).map (fun d => d.parameters.length) = some 1 := by decide +kernel
abbrev MX3_dents (E : mx_E) (K : Nat) (args : List Value) (σ : Mem) (post : Option Value → Mem → Prop) : Prop := MM E K yX3_dents cX3_dents 5 (some .int) args σ post
theorem kcX3_dents : Cond.code yX3_dents cX3_dents 5 (some .int) ∈ mx_tbl := mx_in 350 (by decide +kernel) rfl
theorem kiX3_dents : Cond.instanceMethod yX3_dents ∈ mx_tbl := mx_in 348 (by decide +kernel) rfl
theorem ksX3_dents : Cond.selects yX3_dents.cls yX3_dents yX3_dents ∈ mx_tbl := mx_in 349 (by decide +kernel) rfl
theorem kyX3_dents : yX3_dents.cls ≠ "java/lang/invoke/MethodHandle" ∧ yX3_dents.cls ≠ "java/lang/invoke/VarHandle" ∧ (parseMethodDescriptor yX3_dents.desc).map (fun d => d.parameters.length) = some 2 := by decide +kernel
abbrev MX3_keeps (E : mx_E) (K : Nat) (args : List Value) (σ : Mem) (post : Option Value → Mem → Prop) : Prop := MM E K yX3_keeps cX3_keeps 3 (some .int) args σ post
theorem kcX3_keeps : Cond.code yX3_keeps cX3_keeps 3 (some .int) ∈ mx_tbl := mx_in 354 (by decide +kernel) rfl
theorem kiX3_keeps : Cond.instanceMethod yX3_keeps ∈ mx_tbl := mx_in 352 (by decide +kernel) rfl
theorem ksX3_keeps : Cond.selects yX3_keeps.cls yX3_keeps yX3_keeps ∈ mx_tbl := mx_in 353 (by decide +kernel) rfl
theorem kyX3_keeps : yX3_keeps.cls ≠ "java/lang/invoke/MethodHandle" ∧ yX3_keeps.cls ≠ "java/lang/invoke/VarHandle" ∧ (parseMethodDescriptor yX3_keeps.desc).map (fun d => d.parameters.length) = some 1 := by decide +kernel
abbrev MX3_visits (E : mx_E) (K : Nat) (args : List Value) (σ : Mem) (post : Option Value → Mem → Prop) : Prop := MM E K yX3_visits cX3_visits 3 (some .int) args σ post
theorem kcX3_visits : Cond.code yX3_visits cX3_visits 3 (some .int) ∈ mx_tbl := mx_in 358 (by decide +kernel) rfl
theorem kiX3_visits : Cond.instanceMethod yX3_visits ∈ mx_tbl := mx_in 356 (by decide +kernel) rfl
theorem ksX3_visits : Cond.selects yX3_visits.cls yX3_visits yX3_visits ∈ mx_tbl := mx_in 357 (by decide +kernel) rfl
theorem kyX3_visits : yX3_visits.cls ≠ "java/lang/invoke/MethodHandle" ∧ yX3_visits.cls ≠ "java/lang/invoke/VarHandle" ∧ (parseMethodDescriptor yX3_visits.desc).map (fun d => d.parameters.length) = some 1 := by decide +kernel
abbrev MX3_candles (E : mx_E) (K : Nat) (args : List Value) (σ : Mem) (post : Option Value → Mem → Prop) : Prop := MM E K yX3_candles cX3_candles 3 (some .int) args σ post
theorem kcX3_candles : Cond.code yX3_candles cX3_candles 3 (some .int) ∈ mx_tbl := mx_in 362 (by decide +kernel) rfl
theorem kiX3_candles : Cond.instanceMethod yX3_candles ∈ mx_tbl := mx_in 360 (by decide +kernel) rfl
theorem ksX3_candles : Cond.selects yX3_candles.cls yX3_candles yX3_candles ∈ mx_tbl := mx_in 361 (by decide +kernel) rfl
theorem kyX3_candles : yX3_candles.cls ≠ "java/lang/invoke/MethodHandle" ∧ yX3_candles.cls ≠ "java/lang/invoke/VarHandle" ∧ (parseMethodDescriptor yX3_candles.desc).map (fun d => d.parameters.length) = some 1 := by decide +kernel
abbrev MX3_turn (E : mx_E) (K : Nat) (args : List Value) (σ : Mem) (post : Option Value → Mem → Prop) : Prop := MM E K yX3_turn cX3_turn 6 (some .int) args σ post
theorem kcX3_turn : Cond.code yX3_turn cX3_turn 6 (some .int) ∈ mx_tbl := mx_in 366 (by decide +kernel) rfl
theorem kiX3_turn : Cond.instanceMethod yX3_turn ∈ mx_tbl := mx_in 364 (by decide +kernel) rfl
theorem ksX3_turn : Cond.selects yX3_turn.cls yX3_turn yX3_turn ∈ mx_tbl := mx_in 365 (by decide +kernel) rfl
theorem kyX3_turn : yX3_turn.cls ≠ "java/lang/invoke/MethodHandle" ∧ yX3_turn.cls ≠ "java/lang/invoke/VarHandle" ∧ (parseMethodDescriptor yX3_turn.desc).map (fun d => d.parameters.length) = some 3 := by decide +kernel
abbrev MX3_weeks (E : mx_E) (K : Nat) (args : List Value) (σ : Mem) (post : Option Value → Mem → Prop) : Prop := MM E K yX3_weeks cX3_weeks 2 (some .int) args σ post
theorem kcX3_weeks : Cond.code yX3_weeks cX3_weeks 2 (some .int) ∈ mx_tbl := mx_in 370 (by decide +kernel) rfl
theorem kiX3_weeks : Cond.instanceMethod yX3_weeks ∈ mx_tbl := mx_in 368 (by decide +kernel) rfl
theorem ksX3_weeks : Cond.selects yX3_weeks.cls yX3_weeks yX3_weeks ∈ mx_tbl := mx_in 369 (by decide +kernel) rfl
theorem kyX3_weeks : yX3_weeks.cls ≠ "java/lang/invoke/MethodHandle" ∧ yX3_weeks.cls ≠ "java/lang/invoke/VarHandle" ∧ (parseMethodDescriptor yX3_weeks.desc).map (fun d => d.parameters.length) = some 1 := by decide +kernel
abbrev MX3_houseThen (E : mx_E) (K : Nat) (args : List Value) (σ : Mem) (post : Option Value → Mem → Prop) : Prop := MM E K yX3_houseThen cX3_houseThen 6 (some .int) args σ post
theorem kcX3_houseThen : Cond.code yX3_houseThen cX3_houseThen 6 (some .int) ∈ mx_tbl := mx_in 388 (by decide +kernel) rfl
theorem kiX3_houseThen : Cond.instanceMethod yX3_houseThen ∈ mx_tbl := mx_in 386 (by decide +kernel) rfl
theorem ksX3_houseThen : Cond.selects yX3_houseThen.cls yX3_houseThen yX3_houseThen ∈ mx_tbl := mx_in 387 (by decide +kernel) rfl
theorem kyX3_houseThen : yX3_houseThen.cls ≠ "java/lang/invoke/MethodHandle" ∧ yX3_houseThen.cls ≠ "java/lang/invoke/VarHandle" ∧ (parseMethodDescriptor yX3_houseThen.desc).map (fun d => d.parameters.length) = some 3 := by decide +kernel
abbrev MX3_then (E : mx_E) (K : Nat) (args : List Value) (σ : Mem) (post : Option Value → Mem → Prop) : Prop := MM E K yX3_then cX3_then 4 (some .int) args σ post
theorem kcX3_then : Cond.code yX3_then cX3_then 4 (some .int) ∈ mx_tbl := mx_in 395 (by decide +kernel) rfl
theorem kiX3_then : Cond.instanceMethod yX3_then ∈ mx_tbl := mx_in 393 (by decide +kernel) rfl
theorem ksX3_then : Cond.selects yX3_then.cls yX3_then yX3_then ∈ mx_tbl := mx_in 394 (by decide +kernel) rfl
theorem kyX3_then : yX3_then.cls ≠ "java/lang/invoke/MethodHandle" ∧ yX3_then.cls ≠ "java/lang/invoke/VarHandle" ∧ (parseMethodDescriptor yX3_then.desc).map (fun d => d.parameters.length) = some 2 := by decide +kernel
abbrev MX3_lost (E : mx_E) (K : Nat) (args : List Value) (σ : Mem) (post : Option Value → Mem → Prop) : Prop := MM E K yX3_lost cX3_lost 2 (some .int) args σ post
theorem kcX3_lost : Cond.code yX3_lost cX3_lost 2 (some .int) ∈ mx_tbl := mx_in 400 (by decide +kernel) rfl
theorem kiX3_lost : Cond.instanceMethod yX3_lost ∈ mx_tbl := mx_in 398 (by decide +kernel) rfl
theorem ksX3_lost : Cond.selects yX3_lost.cls yX3_lost yX3_lost ∈ mx_tbl := mx_in 399 (by decide +kernel) rfl
theorem kyX3_lost : yX3_lost.cls ≠ "java/lang/invoke/MethodHandle" ∧ yX3_lost.cls ≠ "java/lang/invoke/VarHandle" ∧ (parseMethodDescriptor yX3_lost.desc).map (fun d => d.parameters.length) = some 1 := by decide +kernel
abbrev MX3_firstLost (E : mx_E) (K : Nat) (args : List Value) (σ : Mem) (post : Option Value → Mem → Prop) : Prop := MM E K yX3_firstLost cX3_firstLost 3 (some .int) args σ post
theorem kcX3_firstLost : Cond.code yX3_firstLost cX3_firstLost 3 (some .int) ∈ mx_tbl := mx_in 404 (by decide +kernel) rfl
theorem kiX3_firstLost : Cond.instanceMethod yX3_firstLost ∈ mx_tbl := mx_in 403 (by decide +kernel) rfl
theorem ksX3_firstLost : Cond.selects yX3_firstLost.cls yX3_firstLost yX3_firstLost ∈ mx_tbl := mx_in 13 (by decide +kernel) rfl
theorem kyX3_firstLost : yX3_firstLost.cls ≠ "java/lang/invoke/MethodHandle" ∧ yX3_firstLost.cls ≠ "java/lang/invoke/VarHandle" ∧ (parseMethodDescriptor yX3_firstLost.desc).map (fun d => d.parameters.length) = some 0 := by decide +kernel
abbrev MX3_weeksTillLost (E : mx_E) (K : Nat) (args : List Value) (σ : Mem) (post : Option Value → Mem → Prop) : Prop := MM E K yX3_weeksTillLost cX3_weeksTillLost 3 (some .int) args σ post
theorem kcX3_weeksTillLost : Cond.code yX3_weeksTillLost cX3_weeksTillLost 3 (some .int) ∈ mx_tbl := mx_in 408 (by decide +kernel) rfl
theorem kiX3_weeksTillLost : Cond.instanceMethod yX3_weeksTillLost ∈ mx_tbl := mx_in 407 (by decide +kernel) rfl
theorem ksX3_weeksTillLost : Cond.selects yX3_weeksTillLost.cls yX3_weeksTillLost yX3_weeksTillLost ∈ mx_tbl := mx_in 14 (by decide +kernel) rfl
theorem kyX3_weeksTillLost : yX3_weeksTillLost.cls ≠ "java/lang/invoke/MethodHandle" ∧ yX3_weeksTillLost.cls ≠ "java/lang/invoke/VarHandle" ∧ (parseMethodDescriptor yX3_weeksTillLost.desc).map (fun d => d.parameters.length) = some 1 := by decide +kernel
abbrev MX3_dark (E : mx_E) (K : Nat) (args : List Value) (σ : Mem) (post : Option Value → Mem → Prop) : Prop := MM E K yX3_dark cX3_dark 2 (some .int) args σ post
theorem kcX3_dark : Cond.code yX3_dark cX3_dark 2 (some .int) ∈ mx_tbl := mx_in 412 (by decide +kernel) rfl
theorem kiX3_dark : Cond.instanceMethod yX3_dark ∈ mx_tbl := mx_in 410 (by decide +kernel) rfl
theorem ksX3_dark : Cond.selects yX3_dark.cls yX3_dark yX3_dark ∈ mx_tbl := mx_in 411 (by decide +kernel) rfl
theorem kyX3_dark : yX3_dark.cls ≠ "java/lang/invoke/MethodHandle" ∧ yX3_dark.cls ≠ "java/lang/invoke/VarHandle" ∧ (parseMethodDescriptor yX3_dark.desc).map (fun d => d.parameters.length) = some 0 := by decide +kernel
abbrev MX3_still (E : mx_E) (K : Nat) (args : List Value) (σ : Mem) (post : Option Value → Mem → Prop) : Prop := MM E K yX3_still cX3_still 2 (some .int) args σ post
theorem kcX3_still : Cond.code yX3_still cX3_still 2 (some .int) ∈ mx_tbl := mx_in 421 (by decide +kernel) rfl
theorem kiX3_still : Cond.instanceMethod yX3_still ∈ mx_tbl := mx_in 419 (by decide +kernel) rfl
theorem ksX3_still : Cond.selects yX3_still.cls yX3_still yX3_still ∈ mx_tbl := mx_in 420 (by decide +kernel) rfl
theorem kyX3_still : yX3_still.cls ≠ "java/lang/invoke/MethodHandle" ∧ yX3_still.cls ≠ "java/lang/invoke/VarHandle" ∧ (parseMethodDescriptor yX3_still.desc).map (fun d => d.parameters.length) = some 0 := by decide +kernel
abbrev MX3_move (E : mx_E) (K : Nat) (args : List Value) (σ : Mem) (post : Option Value → Mem → Prop) : Prop := MM E K yX3_move cX3_move 8 (some .int) args σ post
theorem kcX3_move : Cond.code yX3_move cX3_move 8 (some .int) ∈ mx_tbl := mx_in 425 (by decide +kernel) rfl
theorem kiX3_move : Cond.instanceMethod yX3_move ∈ mx_tbl := mx_in 423 (by decide +kernel) rfl
theorem ksX3_move : Cond.selects yX3_move.cls yX3_move yX3_move ∈ mx_tbl := mx_in 424 (by decide +kernel) rfl
theorem kyX3_move : yX3_move.cls ≠ "java/lang/invoke/MethodHandle" ∧ yX3_move.cls ≠ "java/lang/invoke/VarHandle" ∧ (parseMethodDescriptor yX3_move.desc).map (fun d => d.parameters.length) = some 1 := by decide +kernel
abbrev MX3_keptIfHalfMoves (E : mx_E) (K : Nat) (args : List Value) (σ : Mem) (post : Option Value → Mem → Prop) : Prop := MM E K yX3_keptIfHalfMoves cX3_keptIfHalfMoves 7 (some .int) args σ post
theorem kcX3_keptIfHalfMoves : Cond.code yX3_keptIfHalfMoves cX3_keptIfHalfMoves 7 (some .int) ∈ mx_tbl := mx_in 429 (by decide +kernel) rfl
theorem kiX3_keptIfHalfMoves : Cond.instanceMethod yX3_keptIfHalfMoves ∈ mx_tbl := mx_in 428 (by decide +kernel) rfl
theorem ksX3_keptIfHalfMoves : Cond.selects yX3_keptIfHalfMoves.cls yX3_keptIfHalfMoves yX3_keptIfHalfMoves ∈ mx_tbl := mx_in 15 (by decide +kernel) rfl
theorem kyX3_keptIfHalfMoves : yX3_keptIfHalfMoves.cls ≠ "java/lang/invoke/MethodHandle" ∧ yX3_keptIfHalfMoves.cls ≠ "java/lang/invoke/VarHandle" ∧ (parseMethodDescriptor yX3_keptIfHalfMoves.desc).map (fun d => d.parameters.length) = some 3 := by decide +kernel
abbrev MX3_air (E : mx_E) (K : Nat) (args : List Value) (σ : Mem) (post : Option Value → Mem → Prop) : Prop := MM E K yX3_air cX3_air 7 (some .int) args σ post
theorem kcX3_air : Cond.code yX3_air cX3_air 7 (some .int) ∈ mx_tbl := mx_in 434 (by decide +kernel) rfl
theorem kiX3_air : Cond.instanceMethod yX3_air ∈ mx_tbl := mx_in 432 (by decide +kernel) rfl
theorem ksX3_air : Cond.selects yX3_air.cls yX3_air yX3_air ∈ mx_tbl := mx_in 433 (by decide +kernel) rfl
theorem kyX3_air : yX3_air.cls ≠ "java/lang/invoke/MethodHandle" ∧ yX3_air.cls ≠ "java/lang/invoke/VarHandle" ∧ (parseMethodDescriptor yX3_air.desc).map (fun d => d.parameters.length) = some 1 := by decide +kernel
abbrev MX3_noneLostIfAired (E : mx_E) (K : Nat) (args : List Value) (σ : Mem) (post : Option Value → Mem → Prop) : Prop := MM E K yX3_noneLostIfAired cX3_noneLostIfAired 4 (some .boolean) args σ post
theorem kcX3_noneLostIfAired : Cond.code yX3_noneLostIfAired cX3_noneLostIfAired 4 (some .boolean) ∈ mx_tbl := mx_in 439 (by decide +kernel) rfl
theorem kiX3_noneLostIfAired : Cond.instanceMethod yX3_noneLostIfAired ∈ mx_tbl := mx_in 438 (by decide +kernel) rfl
theorem ksX3_noneLostIfAired : Cond.selects yX3_noneLostIfAired.cls yX3_noneLostIfAired yX3_noneLostIfAired ∈ mx_tbl := mx_in 16 (by decide +kernel) rfl
theorem kyX3_noneLostIfAired : yX3_noneLostIfAired.cls ≠ "java/lang/invoke/MethodHandle" ∧ yX3_noneLostIfAired.cls ≠ "java/lang/invoke/VarHandle" ∧ (parseMethodDescriptor yX3_noneLostIfAired.desc).map (fun d => d.parameters.length) = some 2 := by decide +kernel
abbrev MX3_noneLostWithin (E : mx_E) (K : Nat) (args : List Value) (σ : Mem) (post : Option Value → Mem → Prop) : Prop := MM E K yX3_noneLostWithin cX3_noneLostWithin 4 (some .boolean) args σ post
theorem kcX3_noneLostWithin : Cond.code yX3_noneLostWithin cX3_noneLostWithin 4 (some .boolean) ∈ mx_tbl := mx_in 443 (by decide +kernel) rfl
theorem kiX3_noneLostWithin : Cond.instanceMethod yX3_noneLostWithin ∈ mx_tbl := mx_in 442 (by decide +kernel) rfl
theorem ksX3_noneLostWithin : Cond.selects yX3_noneLostWithin.cls yX3_noneLostWithin yX3_noneLostWithin ∈ mx_tbl := mx_in 17 (by decide +kernel) rfl
theorem kyX3_noneLostWithin : yX3_noneLostWithin.cls ≠ "java/lang/invoke/MethodHandle" ∧ yX3_noneLostWithin.cls ≠ "java/lang/invoke/VarHandle" ∧ (parseMethodDescriptor yX3_noneLostWithin.desc).map (fun d => d.parameters.length) = some 1 := by decide +kernel
abbrev MX3_start (E : mx_E) (K : Nat) (args : List Value) (σ : Mem) (post : Option Value → Mem → Prop) : Prop := MM E K yX3_start cX3_start 8 (some .int) args σ post
theorem kcX3_start : Cond.code yX3_start cX3_start 8 (some .int) ∈ mx_tbl := mx_in 447 (by decide +kernel) rfl
theorem kiX3_start : Cond.instanceMethod yX3_start ∈ mx_tbl := mx_in 445 (by decide +kernel) rfl
theorem ksX3_start : Cond.selects yX3_start.cls yX3_start yX3_start ∈ mx_tbl := mx_in 446 (by decide +kernel) rfl
theorem kyX3_start : yX3_start.cls ≠ "java/lang/invoke/MethodHandle" ∧ yX3_start.cls ≠ "java/lang/invoke/VarHandle" ∧ (parseMethodDescriptor yX3_start.desc).map (fun d => d.parameters.length) = some 2 := by decide +kernel
abbrev MX3_buy (E : mx_E) (K : Nat) (args : List Value) (σ : Mem) (post : Option Value → Mem → Prop) : Prop := MM E K yX3_buy cX3_buy 4 (some .int) args σ post
theorem kcX3_buy : Cond.code yX3_buy cX3_buy 4 (some .int) ∈ mx_tbl := mx_in 451 (by decide +kernel) rfl
theorem kiX3_buy : Cond.instanceMethod yX3_buy ∈ mx_tbl := mx_in 449 (by decide +kernel) rfl
theorem ksX3_buy : Cond.selects yX3_buy.cls yX3_buy yX3_buy ∈ mx_tbl := mx_in 450 (by decide +kernel) rfl
theorem kyX3_buy : yX3_buy.cls ≠ "java/lang/invoke/MethodHandle" ∧ yX3_buy.cls ≠ "java/lang/invoke/VarHandle" ∧ (parseMethodDescriptor yX3_buy.desc).map (fun d => d.parameters.length) = some 1 := by decide +kernel
abbrev MX3_bestKind (E : mx_E) (K : Nat) (args : List Value) (σ : Mem) (post : Option Value → Mem → Prop) : Prop := MM E K yX3_bestKind cX3_bestKind 8 (some .int) args σ post
theorem kcX3_bestKind : Cond.code yX3_bestKind cX3_bestKind 8 (some .int) ∈ mx_tbl := mx_in 455 (by decide +kernel) rfl
theorem kiX3_bestKind : Cond.instanceMethod yX3_bestKind ∈ mx_tbl := mx_in 453 (by decide +kernel) rfl
theorem ksX3_bestKind : Cond.selects yX3_bestKind.cls yX3_bestKind yX3_bestKind ∈ mx_tbl := mx_in 454 (by decide +kernel) rfl
theorem kyX3_bestKind : yX3_bestKind.cls ≠ "java/lang/invoke/MethodHandle" ∧ yX3_bestKind.cls ≠ "java/lang/invoke/VarHandle" ∧ (parseMethodDescriptor yX3_bestKind.desc).map (fun d => d.parameters.length) = some 2 := by decide +kernel
abbrev MX3_spare (E : mx_E) (K : Nat) (args : List Value) (σ : Mem) (post : Option Value → Mem → Prop) : Prop := MM E K yX3_spare cX3_spare 2 (some .int) args σ post
theorem kcX3_spare : Cond.code yX3_spare cX3_spare 2 (some .int) ∈ mx_tbl := mx_in 459 (by decide +kernel) rfl
theorem kiX3_spare : Cond.instanceMethod yX3_spare ∈ mx_tbl := mx_in 457 (by decide +kernel) rfl
theorem ksX3_spare : Cond.selects yX3_spare.cls yX3_spare yX3_spare ∈ mx_tbl := mx_in 458 (by decide +kernel) rfl
theorem kyX3_spare : yX3_spare.cls ≠ "java/lang/invoke/MethodHandle" ∧ yX3_spare.cls ≠ "java/lang/invoke/VarHandle" ∧ (parseMethodDescriptor yX3_spare.desc).map (fun d => d.parameters.length) = some 1 := by decide +kernel
abbrev MX3_lasts (E : mx_E) (K : Nat) (args : List Value) (σ : Mem) (post : Option Value → Mem → Prop) : Prop := MM E K yX3_lasts cX3_lasts 2 (some .int) args σ post
theorem kcX3_lasts : Cond.code yX3_lasts cX3_lasts 2 (some .int) ∈ mx_tbl := mx_in 476 (by decide +kernel) rfl
theorem kiX3_lasts : Cond.instanceMethod yX3_lasts ∈ mx_tbl := mx_in 475 (by decide +kernel) rfl
theorem ksX3_lasts : Cond.selects yX3_lasts.cls yX3_lasts yX3_lasts ∈ mx_tbl := mx_in 18 (by decide +kernel) rfl
theorem kyX3_lasts : yX3_lasts.cls ≠ "java/lang/invoke/MethodHandle" ∧ yX3_lasts.cls ≠ "java/lang/invoke/VarHandle" ∧ (parseMethodDescriptor yX3_lasts.desc).map (fun d => d.parameters.length) = some 0 := by decide +kernel
abbrev MX3_next (E : mx_E) (K : Nat) (args : List Value) (σ : Mem) (post : Option Value → Mem → Prop) : Prop := MM E K yX3_next cX3_next 2 (some .int) args σ post
theorem kcX3_next : Cond.code yX3_next cX3_next 2 (some .int) ∈ mx_tbl := mx_in 480 (by decide +kernel) rfl
theorem kiX3_next : Cond.instanceMethod yX3_next ∈ mx_tbl := mx_in 478 (by decide +kernel) rfl
theorem ksX3_next : Cond.selects yX3_next.cls yX3_next yX3_next ∈ mx_tbl := mx_in 479 (by decide +kernel) rfl
theorem kyX3_next : yX3_next.cls ≠ "java/lang/invoke/MethodHandle" ∧ yX3_next.cls ≠ "java/lang/invoke/VarHandle" ∧ (parseMethodDescriptor yX3_next.desc).map (fun d => d.parameters.length) = some 1 := by decide +kernel
abbrev MX3_run (E : mx_E) (K : Nat) (args : List Value) (σ : Mem) (post : Option Value → Mem → Prop) : Prop := MM E K yX3_run cX3_run 2 (some .int) args σ post
theorem kcX3_run : Cond.code yX3_run cX3_run 2 (some .int) ∈ mx_tbl := mx_in 485 (by decide +kernel) rfl
theorem kiX3_run : Cond.instanceMethod yX3_run ∈ mx_tbl := mx_in 483 (by decide +kernel) rfl
theorem ksX3_run : Cond.selects yX3_run.cls yX3_run yX3_run ∈ mx_tbl := mx_in 484 (by decide +kernel) rfl
theorem kyX3_run : yX3_run.cls ≠ "java/lang/invoke/MethodHandle" ∧ yX3_run.cls ≠ "java/lang/invoke/VarHandle" ∧ (parseMethodDescriptor yX3_run.desc).map (fun d => d.parameters.length) = some 1 := by decide +kernel
abbrev MX3_two (E : mx_E) (K : Nat) (args : List Value) (σ : Mem) (post : Option Value → Mem → Prop) : Prop := MM E K yX3_two cX3_two 9 (some .int) args σ post
theorem kcX3_two : Cond.code yX3_two cX3_two 9 (some .int) ∈ mx_tbl := mx_in 503 (by decide +kernel) rfl
theorem kiX3_two : Cond.instanceMethod yX3_two ∈ mx_tbl := mx_in 501 (by decide +kernel) rfl
theorem ksX3_two : Cond.selects yX3_two.cls yX3_two yX3_two ∈ mx_tbl := mx_in 502 (by decide +kernel) rfl
theorem kyX3_two : yX3_two.cls ≠ "java/lang/invoke/MethodHandle" ∧ yX3_two.cls ≠ "java/lang/invoke/VarHandle" ∧ (parseMethodDescriptor yX3_two.desc).map (fun d => d.parameters.length) = some 3 := by decide +kernel
abbrev MX3_worth (E : mx_E) (K : Nat) (args : List Value) (σ : Mem) (post : Option Value → Mem → Prop) : Prop := MM E K yX3_worth cX3_worth 7 (some .int) args σ post
theorem kcX3_worth : Cond.code yX3_worth cX3_worth 7 (some .int) ∈ mx_tbl := mx_in 507 (by decide +kernel) rfl
theorem kiX3_worth : Cond.instanceMethod yX3_worth ∈ mx_tbl := mx_in 506 (by decide +kernel) rfl
theorem ksX3_worth : Cond.selects yX3_worth.cls yX3_worth yX3_worth ∈ mx_tbl := mx_in 19 (by decide +kernel) rfl
theorem kyX3_worth : yX3_worth.cls ≠ "java/lang/invoke/MethodHandle" ∧ yX3_worth.cls ≠ "java/lang/invoke/VarHandle" ∧ (parseMethodDescriptor yX3_worth.desc).map (fun d => d.parameters.length) = some 5 := by decide +kernel
abbrev MX3_guest (E : mx_E) (K : Nat) (args : List Value) (σ : Mem) (post : Option Value → Mem → Prop) : Prop := MM E K yX3_guest cX3_guest 8 (some .long) args σ post
theorem kcX3_guest : Cond.code yX3_guest cX3_guest 8 (some .long) ∈ mx_tbl := mx_in 515 (by decide +kernel) rfl
theorem kiX3_guest : Cond.instanceMethod yX3_guest ∈ mx_tbl := mx_in 513 (by decide +kernel) rfl
theorem ksX3_guest : Cond.selects yX3_guest.cls yX3_guest yX3_guest ∈ mx_tbl := mx_in 514 (by decide +kernel) rfl
theorem kyX3_guest : yX3_guest.cls ≠ "java/lang/invoke/MethodHandle" ∧ yX3_guest.cls ≠ "java/lang/invoke/VarHandle" ∧ (parseMethodDescriptor yX3_guest.desc).map (fun d => d.parameters.length) = some 4 := by decide +kernel
abbrev MX3_isKeptWithGuests (E : mx_E) (K : Nat) (args : List Value) (σ : Mem) (post : Option Value → Mem → Prop) : Prop := MM E K yX3_isKeptWithGuests cX3_isKeptWithGuests 6 (some .boolean) args σ post
theorem kcX3_isKeptWithGuests : Cond.code yX3_isKeptWithGuests cX3_isKeptWithGuests 6 (some .boolean) ∈ mx_tbl := mx_in 524 (by decide +kernel) rfl
theorem kiX3_isKeptWithGuests : Cond.instanceMethod yX3_isKeptWithGuests ∈ mx_tbl := mx_in 523 (by decide +kernel) rfl
theorem ksX3_isKeptWithGuests : Cond.selects yX3_isKeptWithGuests.cls yX3_isKeptWithGuests yX3_isKeptWithGuests ∈ mx_tbl := mx_in 21 (by decide +kernel) rfl
theorem kyX3_isKeptWithGuests : yX3_isKeptWithGuests.cls ≠ "java/lang/invoke/MethodHandle" ∧ yX3_isKeptWithGuests.cls ≠ "java/lang/invoke/VarHandle" ∧ (parseMethodDescriptor yX3_isKeptWithGuests.desc).map (fun d => d.parameters.length) = some 3 := by decide +kernel
abbrev MX3_power (E : mx_E) (K : Nat) (args : List Value) (σ : Mem) (post : Option Value → Mem → Prop) : Prop := MM E K yX3_power cX3_power 6 (some .long) args σ post
theorem kcX3_power : Cond.code yX3_power cX3_power 6 (some .long) ∈ mx_tbl := mx_in 528 (by decide +kernel) rfl
theorem ktX3_power : Cond.static yX3_power ∈ mx_tbl := mx_in 527 (by decide +kernel) rfl
theorem kyX3_power : yX3_power.cls ≠ "java/lang/invoke/MethodHandle" ∧ yX3_power.cls ≠ "java/lang/invoke/VarHandle" ∧ (parseMethodDescriptor yX3_power.desc).map (fun d => d.parameters.length) = some 2 := by decide +kernel
abbrev MX3_mean (E : mx_E) (K : Nat) (args : List Value) (σ : Mem) (post : Option Value → Mem → Prop) : Prop := MM E K yX3_mean cX3_mean 2 (some .long) args σ post
theorem kcX3_mean : Cond.code yX3_mean cX3_mean 2 (some .long) ∈ mx_tbl := mx_in 538 (by decide +kernel) rfl
theorem kiX3_mean : Cond.instanceMethod yX3_mean ∈ mx_tbl := mx_in 536 (by decide +kernel) rfl
theorem ksX3_mean : Cond.selects yX3_mean.cls yX3_mean yX3_mean ∈ mx_tbl := mx_in 537 (by decide +kernel) rfl
theorem kyX3_mean : yX3_mean.cls ≠ "java/lang/invoke/MethodHandle" ∧ yX3_mean.cls ≠ "java/lang/invoke/VarHandle" ∧ (parseMethodDescriptor yX3_mean.desc).map (fun d => d.parameters.length) = some 1 := by decide +kernel
abbrev MX3_partOf (E : mx_E) (K : Nat) (args : List Value) (σ : Mem) (post : Option Value → Mem → Prop) : Prop := MM E K yX3_partOf cX3_partOf 7 (some .long) args σ post
theorem kcX3_partOf : Cond.code yX3_partOf cX3_partOf 7 (some .long) ∈ mx_tbl := mx_in 531 (by decide +kernel) rfl
theorem ktX3_partOf : Cond.static yX3_partOf ∈ mx_tbl := mx_in 530 (by decide +kernel) rfl
theorem kyX3_partOf : yX3_partOf.cls ≠ "java/lang/invoke/MethodHandle" ∧ yX3_partOf.cls ≠ "java/lang/invoke/VarHandle" ∧ (parseMethodDescriptor yX3_partOf.desc).map (fun d => d.parameters.length) = some 3 := by decide +kernel
abbrev MX3_commonDivisor (E : mx_E) (K : Nat) (args : List Value) (σ : Mem) (post : Option Value → Mem → Prop) : Prop := MM E K yX3_commonDivisor cX3_commonDivisor 11 (some .long) args σ post
theorem kcX3_commonDivisor : Cond.code yX3_commonDivisor cX3_commonDivisor 11 (some .long) ∈ mx_tbl := mx_in 534 (by decide +kernel) rfl
theorem ktX3_commonDivisor : Cond.static yX3_commonDivisor ∈ mx_tbl := mx_in 533 (by decide +kernel) rfl
theorem kyX3_commonDivisor : yX3_commonDivisor.cls ≠ "java/lang/invoke/MethodHandle" ∧ yX3_commonDivisor.cls ≠ "java/lang/invoke/VarHandle" ∧ (parseMethodDescriptor yX3_commonDivisor.desc).map (fun d => d.parameters.length) = some 2 := by decide +kernel
abbrev MX3_whatIs (E : mx_E) (K : Nat) (args : List Value) (σ : Mem) (post : Option Value → Mem → Prop) : Prop := MM E K yX3_whatIs cX3_whatIs 6 (some .int) args σ post
theorem kcX3_whatIs : Cond.code yX3_whatIs cX3_whatIs 6 (some .int) ∈ mx_tbl := mx_in 547 (by decide +kernel) rfl
theorem kiX3_whatIs : Cond.instanceMethod yX3_whatIs ∈ mx_tbl := mx_in 545 (by decide +kernel) rfl
theorem ksX3_whatIs : Cond.selects yX3_whatIs.cls yX3_whatIs yX3_whatIs ∈ mx_tbl := mx_in 546 (by decide +kernel) rfl
theorem kyX3_whatIs : yX3_whatIs.cls ≠ "java/lang/invoke/MethodHandle" ∧ yX3_whatIs.cls ≠ "java/lang/invoke/VarHandle" ∧ (parseMethodDescriptor yX3_whatIs.desc).map (fun d => d.parameters.length) = some 2 := by decide +kernel
abbrev MX3_dustIsAsTold (E : mx_E) (K : Nat) (args : List Value) (σ : Mem) (post : Option Value → Mem → Prop) : Prop := MM E K yX3_dustIsAsTold cX3_dustIsAsTold 3 (some .boolean) args σ post
theorem kcX3_dustIsAsTold : Cond.code yX3_dustIsAsTold cX3_dustIsAsTold 3 (some .boolean) ∈ mx_tbl := mx_in 551 (by decide +kernel) rfl
theorem kiX3_dustIsAsTold : Cond.instanceMethod yX3_dustIsAsTold ∈ mx_tbl := mx_in 550 (by decide +kernel) rfl
theorem ksX3_dustIsAsTold : Cond.selects yX3_dustIsAsTold.cls yX3_dustIsAsTold yX3_dustIsAsTold ∈ mx_tbl := mx_in 22 (by decide +kernel) rfl
theorem kyX3_dustIsAsTold : yX3_dustIsAsTold.cls ≠ "java/lang/invoke/MethodHandle" ∧ yX3_dustIsAsTold.cls ≠ "java/lang/invoke/VarHandle" ∧ (parseMethodDescriptor yX3_dustIsAsTold.desc).map (fun d => d.parameters.length) = some 1 := by decide +kernel
abbrev MX3_row (E : mx_E) (K : Nat) (args : List Value) (σ : Mem) (post : Option Value → Mem → Prop) : Prop := MM E K yX3_row cX3_row 2 (some .int) args σ post
theorem kcX3_row : Cond.code yX3_row cX3_row 2 (some .int) ∈ mx_tbl := mx_in 555 (by decide +kernel) rfl
theorem kiX3_row : Cond.instanceMethod yX3_row ∈ mx_tbl := mx_in 553 (by decide +kernel) rfl
theorem ksX3_row : Cond.selects yX3_row.cls yX3_row yX3_row ∈ mx_tbl := mx_in 554 (by decide +kernel) rfl
theorem kyX3_row : yX3_row.cls ≠ "java/lang/invoke/MethodHandle" ∧ yX3_row.cls ≠ "java/lang/invoke/VarHandle" ∧ (parseMethodDescriptor yX3_row.desc).map (fun d => d.parameters.length) = some 1 := by decide +kernel
abbrev MX3_judge (E : mx_E) (K : Nat) (args : List Value) (σ : Mem) (post : Option Value → Mem → Prop) : Prop := MM E K yX3_judge cX3_judge 3 (some .int) args σ post
theorem kcX3_judge : Cond.code yX3_judge cX3_judge 3 (some .int) ∈ mx_tbl := mx_in 559 (by decide +kernel) rfl
theorem kiX3_judge : Cond.instanceMethod yX3_judge ∈ mx_tbl := mx_in 557 (by decide +kernel) rfl
theorem ksX3_judge : Cond.selects yX3_judge.cls yX3_judge yX3_judge ∈ mx_tbl := mx_in 558 (by decide +kernel) rfl
theorem kyX3_judge : yX3_judge.cls ≠ "java/lang/invoke/MethodHandle" ∧ yX3_judge.cls ≠ "java/lang/invoke/VarHandle" ∧ (parseMethodDescriptor yX3_judge.desc).map (fun d => d.parameters.length) = some 0 := by decide +kernel
abbrev MX3_clear (E : mx_E) (K : Nat) (args : List Value) (σ : Mem) (post : Option Value → Mem → Prop) : Prop := MM E K yX3_clear cX3_clear 2 (some .int) args σ post
theorem kcX3_clear : Cond.code yX3_clear cX3_clear 2 (some .int) ∈ mx_tbl := mx_in 563 (by decide +kernel) rfl
theorem kiX3_clear : Cond.instanceMethod yX3_clear ∈ mx_tbl := mx_in 561 (by decide +kernel) rfl
theorem ksX3_clear : Cond.selects yX3_clear.cls yX3_clear yX3_clear ∈ mx_tbl := mx_in 562 (by decide +kernel) rfl
theorem kyX3_clear : yX3_clear.cls ≠ "java/lang/invoke/MethodHandle" ∧ yX3_clear.cls ≠ "java/lang/invoke/VarHandle" ∧ (parseMethodDescriptor yX3_clear.desc).map (fun d => d.parameters.length) = some 0 := by decide +kernel
abbrev MX3_lots (E : mx_E) (K : Nat) (args : List Value) (σ : Mem) (post : Option Value → Mem → Prop) : Prop := MM E K yX3_lots cX3_lots 9 (some .int) args σ post
theorem kcX3_lots : Cond.code yX3_lots cX3_lots 9 (some .int) ∈ mx_tbl := mx_in 567 (by decide +kernel) rfl
theorem kiX3_lots : Cond.instanceMethod yX3_lots ∈ mx_tbl := mx_in 565 (by decide +kernel) rfl
theorem ksX3_lots : Cond.selects yX3_lots.cls yX3_lots yX3_lots ∈ mx_tbl := mx_in 566 (by decide +kernel) rfl
theorem kyX3_lots : yX3_lots.cls ≠ "java/lang/invoke/MethodHandle" ∧ yX3_lots.cls ≠ "java/lang/invoke/VarHandle" ∧ (parseMethodDescriptor yX3_lots.desc).map (fun d => d.parameters.length) = some 3 := by decide +kernel
abbrev MX3_drawPeople (E : mx_E) (K : Nat) (args : List Value) (σ : Mem) (post : Option Value → Mem → Prop) : Prop := MM E K yX3_drawPeople cX3_drawPeople 5 (some .int) args σ post
theorem kcX3_drawPeople : Cond.code yX3_drawPeople cX3_drawPeople 5 (some .int) ∈ mx_tbl := mx_in 571 (by decide +kernel) rfl
theorem kiX3_drawPeople : Cond.instanceMethod yX3_drawPeople ∈ mx_tbl := mx_in 570 (by decide +kernel) rfl
theorem ksX3_drawPeople : Cond.selects yX3_drawPeople.cls yX3_drawPeople yX3_drawPeople ∈ mx_tbl := mx_in 23 (by decide +kernel) rfl
theorem kyX3_drawPeople : yX3_drawPeople.cls ≠ "java/lang/invoke/MethodHandle" ∧ yX3_drawPeople.cls ≠ "java/lang/invoke/VarHandle" ∧ (parseMethodDescriptor yX3_drawPeople.desc).map (fun d => d.parameters.length) = some 1 := by decide +kernel
abbrev MX3_image (E : mx_E) (K : Nat) (args : List Value) (σ : Mem) (post : Option Value → Mem → Prop) : Prop := MM E K yX3_image cX3_image 1 (some .int) args σ post
theorem kcX3_image : Cond.code yX3_image cX3_image 1 (some .int) ∈ mx_tbl := mx_in 578 (by decide +kernel) rfl
theorem kiX3_image : Cond.instanceMethod yX3_image ∈ mx_tbl := mx_in 576 (by decide +kernel) rfl
theorem ksX3_image : Cond.selects yX3_image.cls yX3_image yX3_image ∈ mx_tbl := mx_in 577 (by decide +kernel) rfl
theorem kyX3_image : yX3_image.cls ≠ "java/lang/invoke/MethodHandle" ∧ yX3_image.cls ≠ "java/lang/invoke/VarHandle" ∧ (parseMethodDescriptor yX3_image.desc).map (fun d => d.parameters.length) = some 0 := by decide +kernel
abbrev MX3_on (E : mx_E) (K : Nat) (args : List Value) (σ : Mem) (post : Option Value → Mem → Prop) : Prop := MM E K yX3_on cX3_on 1 (some .int) args σ post
theorem kcX3_on : Cond.code yX3_on cX3_on 1 (some .int) ∈ mx_tbl := mx_in 582 (by decide +kernel) rfl
theorem kiX3_on : Cond.instanceMethod yX3_on ∈ mx_tbl := mx_in 580 (by decide +kernel) rfl
theorem ksX3_on : Cond.selects yX3_on.cls yX3_on yX3_on ∈ mx_tbl := mx_in 581 (by decide +kernel) rfl
theorem kyX3_on : yX3_on.cls ≠ "java/lang/invoke/MethodHandle" ∧ yX3_on.cls ≠ "java/lang/invoke/VarHandle" ∧ (parseMethodDescriptor yX3_on.desc).map (fun d => d.parameters.length) = some 0 := by decide +kernel
abbrev MX3_count (E : mx_E) (K : Nat) (args : List Value) (σ : Mem) (post : Option Value → Mem → Prop) : Prop := MM E K yX3_count cX3_count 2 (some .int) args σ post
theorem kcX3_count : Cond.code yX3_count cX3_count 2 (some .int) ∈ mx_tbl := mx_in 586 (by decide +kernel) rfl
theorem kiX3_count : Cond.instanceMethod yX3_count ∈ mx_tbl := mx_in 584 (by decide +kernel) rfl
theorem ksX3_count : Cond.selects yX3_count.cls yX3_count yX3_count ∈ mx_tbl := mx_in 585 (by decide +kernel) rfl
theorem kyX3_count : yX3_count.cls ≠ "java/lang/invoke/MethodHandle" ∧ yX3_count.cls ≠ "java/lang/invoke/VarHandle" ∧ (parseMethodDescriptor yX3_count.desc).map (fun d => d.parameters.length) = some 1 := by decide +kernel
abbrev MX3_refused (E : mx_E) (K : Nat) (args : List Value) (σ : Mem) (post : Option Value → Mem → Prop) : Prop := MM E K yX3_refused cX3_refused 3 (some .int) args σ post
theorem kcX3_refused : Cond.code yX3_refused cX3_refused 3 (some .int) ∈ mx_tbl := mx_in 590 (by decide +kernel) rfl
theorem kiX3_refused : Cond.instanceMethod yX3_refused ∈ mx_tbl := mx_in 589 (by decide +kernel) rfl
theorem ksX3_refused : Cond.selects yX3_refused.cls yX3_refused yX3_refused ∈ mx_tbl := mx_in 24 (by decide +kernel) rfl
theorem kyX3_refused : yX3_refused.cls ≠ "java/lang/invoke/MethodHandle" ∧ yX3_refused.cls ≠ "java/lang/invoke/VarHandle" ∧ (parseMethodDescriptor yX3_refused.desc).map (fun d => d.parameters.length) = some 1 := by decide +kernel
abbrev MX3_refuse (E : mx_E) (K : Nat) (args : List Value) (σ : Mem) (post : Option Value → Mem → Prop) : Prop := MM E K yX3_refuse cX3_refuse 3 (some .int) args σ post
theorem kcX3_refuse : Cond.code yX3_refuse cX3_refuse 3 (some .int) ∈ mx_tbl := mx_in 190 (by decide +kernel) rfl
theorem kiX3_refuse : Cond.instanceMethod yX3_refuse ∈ mx_tbl := mx_in 189 (by decide +kernel) rfl
theorem ksX3_refuse : Cond.selects yX3_refuse.cls yX3_refuse yX3_refuse ∈ mx_tbl := mx_in 0 (by decide +kernel) rfl
theorem kyX3_refuse : yX3_refuse.cls ≠ "java/lang/invoke/MethodHandle" ∧ yX3_refuse.cls ≠ "java/lang/invoke/VarHandle" ∧ (parseMethodDescriptor yX3_refuse.desc).map (fun d => d.parameters.length) = some 1 := by decide +kernel
abbrev MX3_refuseLong (E : mx_E) (K : Nat) (args : List Value) (σ : Mem) (post : Option Value → Mem → Prop) : Prop := MM E K yX3_refuseLong cX3_refuseLong 2 (some .long) args σ post
theorem kcX3_refuseLong : Cond.code yX3_refuseLong cX3_refuseLong 2 (some .long) ∈ mx_tbl := mx_in 519 (by decide +kernel) rfl
theorem kiX3_refuseLong : Cond.instanceMethod yX3_refuseLong ∈ mx_tbl := mx_in 518 (by decide +kernel) rfl
theorem ksX3_refuseLong : Cond.selects yX3_refuseLong.cls yX3_refuseLong yX3_refuseLong ∈ mx_tbl := mx_in 20 (by decide +kernel) rfl
theorem kyX3_refuseLong : yX3_refuseLong.cls ≠ "java/lang/invoke/MethodHandle" ∧ yX3_refuseLong.cls ≠ "java/lang/invoke/VarHandle" ∧ (parseMethodDescriptor yX3_refuseLong.desc).map (fun d => d.parameters.length) = some 1 := by decide +kernel
abbrev MX3_outOf (E : mx_E) (K : Nat) (args : List Value) (σ : Mem) (post : Option Value → Mem → Prop) : Prop := MM E K yX3_outOf cX3_outOf 3 (some .int) args σ post
theorem kcX3_outOf : Cond.code yX3_outOf cX3_outOf 3 (some .int) ∈ mx_tbl := mx_in 391 (by decide +kernel) rfl
theorem ktX3_outOf : Cond.static yX3_outOf ∈ mx_tbl := mx_in 390 (by decide +kernel) rfl
theorem kyX3_outOf : yX3_outOf.cls ≠ "java/lang/invoke/MethodHandle" ∧ yX3_outOf.cls ≠ "java/lang/invoke/VarHandle" ∧ (parseMethodDescriptor yX3_outOf.desc).map (fun d => d.parameters.length) = some 3 := by decide +kernel
abbrev MX4_isIn (E : mx_E) (K : Nat) (args : List Value) (σ : Mem) (post : Option Value → Mem → Prop) : Prop := MM E K yX4_isIn cX4_isIn 3 (some .boolean) args σ post
theorem kcX4_isIn : Cond.code yX4_isIn cX4_isIn 3 (some .boolean) ∈ mx_tbl := mx_in 670 (by decide +kernel) rfl
theorem ktX4_isIn : Cond.static yX4_isIn ∈ mx_tbl := mx_in 669 (by decide +kernel) rfl
theorem kyX4_isIn : yX4_isIn.cls ≠ "java/lang/invoke/MethodHandle" ∧ yX4_isIn.cls ≠ "java/lang/invoke/VarHandle" ∧ (parseMethodDescriptor yX4_isIn.desc).map (fun d => d.parameters.length) = some 3 := by decide +kernel
abbrev MX4_least (E : mx_E) (K : Nat) (args : List Value) (σ : Mem) (post : Option Value → Mem → Prop) : Prop := MM E K yX4_least cX4_least 2 (some .int) args σ post
theorem kcX4_least : Cond.code yX4_least cX4_least 2 (some .int) ∈ mx_tbl := mx_in 709 (by decide +kernel) rfl
theorem ktX4_least : Cond.static yX4_least ∈ mx_tbl := mx_in 708 (by decide +kernel) rfl
theorem kyX4_least : yX4_least.cls ≠ "java/lang/invoke/MethodHandle" ∧ yX4_least.cls ≠ "java/lang/invoke/VarHandle" ∧ (parseMethodDescriptor yX4_least.desc).map (fun d => d.parameters.length) = some 2 := by decide +kernel
abbrev MX4_copies (E : mx_E) (K : Nat) (args : List Value) (σ : Mem) (post : Option Value → Mem → Prop) : Prop := MM E K yX4_copies cX4_copies 3 none args σ post
theorem kcX4_copies : Cond.code yX4_copies cX4_copies 3 none ∈ mx_tbl := mx_in 673 (by decide +kernel) rfl
theorem ktX4_copies : Cond.static yX4_copies ∈ mx_tbl := mx_in 672 (by decide +kernel) rfl
theorem kyX4_copies : yX4_copies.cls ≠ "java/lang/invoke/MethodHandle" ∧ yX4_copies.cls ≠ "java/lang/invoke/VarHandle" ∧ (parseMethodDescriptor yX4_copies.desc).map (fun d => d.parameters.length) = some 2 := by decide +kernel
abbrev MX4_no (E : mx_E) (K : Nat) (args : List Value) (σ : Mem) (post : Option Value → Mem → Prop) : Prop := MM E K yX4_no cX4_no 2 (some .int) args σ post
theorem kcX4_no : Cond.code yX4_no cX4_no 2 (some .int) ∈ mx_tbl := mx_in 644 (by decide +kernel) rfl
theorem kiX4_no : Cond.instanceMethod yX4_no ∈ mx_tbl := mx_in 643 (by decide +kernel) rfl
theorem ksX4_no : Cond.selects yX4_no.cls yX4_no yX4_no ∈ mx_tbl := mx_in 25 (by decide +kernel) rfl
theorem kyX4_no : yX4_no.cls ≠ "java/lang/invoke/MethodHandle" ∧ yX4_no.cls ≠ "java/lang/invoke/VarHandle" ∧ (parseMethodDescriptor yX4_no.desc).map (fun d => d.parameters.length) = some 1 := by decide +kernel
abbrev MX4_noWide (E : mx_E) (K : Nat) (args : List Value) (σ : Mem) (post : Option Value → Mem → Prop) : Prop := MM E K yX4_noWide cX4_noWide 2 (some .long) args σ post
theorem kcX4_noWide : Cond.code yX4_noWide cX4_noWide 2 (some .long) ∈ mx_tbl := mx_in 890 (by decide +kernel) rfl
theorem kiX4_noWide : Cond.instanceMethod yX4_noWide ∈ mx_tbl := mx_in 889 (by decide +kernel) rfl
theorem ksX4_noWide : Cond.selects yX4_noWide.cls yX4_noWide yX4_noWide ∈ mx_tbl := mx_in 47 (by decide +kernel) rfl
theorem kyX4_noWide : yX4_noWide.cls ≠ "java/lang/invoke/MethodHandle" ∧ yX4_noWide.cls ≠ "java/lang/invoke/VarHandle" ∧ (parseMethodDescriptor yX4_noWide.desc).map (fun d => d.parameters.length) = some 1 := by decide +kernel
abbrev MX4_of (E : mx_E) (K : Nat) (args : List Value) (σ : Mem) (post : Option Value → Mem → Prop) : Prop := MM E K yX4_of cX4_of 2 (some .int) args σ post
theorem kcX4_of : Cond.code yX4_of cX4_of 2 (some .int) ∈ mx_tbl := mx_in 684 (by decide +kernel) rfl
theorem ktX4_of : Cond.static yX4_of ∈ mx_tbl := mx_in 683 (by decide +kernel) rfl
theorem kyX4_of : yX4_of.cls ≠ "java/lang/invoke/MethodHandle" ∧ yX4_of.cls ≠ "java/lang/invoke/VarHandle" ∧ (parseMethodDescriptor yX4_of.desc).map (fun d => d.parameters.length) = some 2 := by decide +kernel
abbrev MX4_isHouse (E : mx_E) (K : Nat) (args : List Value) (σ : Mem) (post : Option Value → Mem → Prop) : Prop := MM E K yX4_isHouse cX4_isHouse 2 (some .boolean) args σ post
theorem kcX4_isHouse : Cond.code yX4_isHouse cX4_isHouse 2 (some .boolean) ∈ mx_tbl := mx_in 688 (by decide +kernel) rfl
theorem kiX4_isHouse : Cond.instanceMethod yX4_isHouse ∈ mx_tbl := mx_in 687 (by decide +kernel) rfl
theorem ksX4_isHouse : Cond.selects yX4_isHouse.cls yX4_isHouse yX4_isHouse ∈ mx_tbl := mx_in 32 (by decide +kernel) rfl
theorem kyX4_isHouse : yX4_isHouse.cls ≠ "java/lang/invoke/MethodHandle" ∧ yX4_isHouse.cls ≠ "java/lang/invoke/VarHandle" ∧ (parseMethodDescriptor yX4_isHouse.desc).map (fun d => d.parameters.length) = some 1 := by decide +kernel
abbrev MX4_has (E : mx_E) (K : Nat) (args : List Value) (σ : Mem) (post : Option Value → Mem → Prop) : Prop := MM E K yX4_has cX4_has 2 (some .boolean) args σ post
theorem kcX4_has : Cond.code yX4_has cX4_has 2 (some .boolean) ∈ mx_tbl := mx_in 697 (by decide +kernel) rfl
theorem ktX4_has : Cond.static yX4_has ∈ mx_tbl := mx_in 696 (by decide +kernel) rfl
theorem kyX4_has : yX4_has.cls ≠ "java/lang/invoke/MethodHandle" ∧ yX4_has.cls ≠ "java/lang/invoke/VarHandle" ∧ (parseMethodDescriptor yX4_has.desc).map (fun d => d.parameters.length) = some 2 := by decide +kernel
abbrev MX4_bits (E : mx_E) (K : Nat) (args : List Value) (σ : Mem) (post : Option Value → Mem → Prop) : Prop := MM E K yX4_bits cX4_bits 3 (some .int) args σ post
theorem kcX4_bits : Cond.code yX4_bits cX4_bits 3 (some .int) ∈ mx_tbl := mx_in 774 (by decide +kernel) rfl
theorem ktX4_bits : Cond.static yX4_bits ∈ mx_tbl := mx_in 773 (by decide +kernel) rfl
theorem kyX4_bits : yX4_bits.cls ≠ "java/lang/invoke/MethodHandle" ∧ yX4_bits.cls ≠ "java/lang/invoke/VarHandle" ∧ (parseMethodDescriptor yX4_bits.desc).map (fun d => d.parameters.length) = some 1 := by decide +kernel
abbrev MX4_dustBy (E : mx_E) (K : Nat) (args : List Value) (σ : Mem) (post : Option Value → Mem → Prop) : Prop := MM E K yX4_dustBy cX4_dustBy 3 (some .int) args σ post
theorem kcX4_dustBy : Cond.code yX4_dustBy cX4_dustBy 3 (some .int) ∈ mx_tbl := mx_in 706 (by decide +kernel) rfl
theorem ktX4_dustBy : Cond.static yX4_dustBy ∈ mx_tbl := mx_in 705 (by decide +kernel) rfl
theorem kyX4_dustBy : yX4_dustBy.cls ≠ "java/lang/invoke/MethodHandle" ∧ yX4_dustBy.cls ≠ "java/lang/invoke/VarHandle" ∧ (parseMethodDescriptor yX4_dustBy.desc).map (fun d => d.parameters.length) = some 3 := by decide +kernel
abbrev MX4_burnsBy (E : mx_E) (K : Nat) (args : List Value) (σ : Mem) (post : Option Value → Mem → Prop) : Prop := MM E K yX4_burnsBy cX4_burnsBy 1 (some .int) args σ post
theorem kcX4_burnsBy : Cond.code yX4_burnsBy cX4_burnsBy 1 (some .int) ∈ mx_tbl := mx_in 703 (by decide +kernel) rfl
theorem ktX4_burnsBy : Cond.static yX4_burnsBy ∈ mx_tbl := mx_in 702 (by decide +kernel) rfl
theorem kyX4_burnsBy : yX4_burnsBy.cls ≠ "java/lang/invoke/MethodHandle" ∧ yX4_burnsBy.cls ≠ "java/lang/invoke/VarHandle" ∧ (parseMethodDescriptor yX4_burnsBy.desc).map (fun d => d.parameters.length) = some 1 := by decide +kernel
abbrev MX4_foundFrom (E : mx_E) (K : Nat) (args : List Value) (σ : Mem) (post : Option Value → Mem → Prop) : Prop := MM E K yX4_foundFrom cX4_foundFrom 3 (some .int) args σ post
theorem kcX4_foundFrom : Cond.code yX4_foundFrom cX4_foundFrom 3 (some .int) ∈ mx_tbl := mx_in 718 (by decide +kernel) rfl
theorem ktX4_foundFrom : Cond.static yX4_foundFrom ∈ mx_tbl := mx_in 717 (by decide +kernel) rfl
theorem kyX4_foundFrom : yX4_foundFrom.cls ≠ "java/lang/invoke/MethodHandle" ∧ yX4_foundFrom.cls ≠ "java/lang/invoke/VarHandle" ∧ (parseMethodDescriptor yX4_foundFrom.desc).map (fun d => d.parameters.length) = some 2 := by decide +kernel
abbrev MX4_crowd (E : mx_E) (K : Nat) (args : List Value) (σ : Mem) (post : Option Value → Mem → Prop) : Prop := MM E K yX4_crowd cX4_crowd 4 (some .int) args σ post
theorem kcX4_crowd : Cond.code yX4_crowd cX4_crowd 4 (some .int) ∈ mx_tbl := mx_in 715 (by decide +kernel) rfl
theorem ktX4_crowd : Cond.static yX4_crowd ∈ mx_tbl := mx_in 714 (by decide +kernel) rfl
theorem kyX4_crowd : yX4_crowd.cls ≠ "java/lang/invoke/MethodHandle" ∧ yX4_crowd.cls ≠ "java/lang/invoke/VarHandle" ∧ (parseMethodDescriptor yX4_crowd.desc).map (fun d => d.parameters.length) = some 2 := by decide +kernel
abbrev MX4_isFound (E : mx_E) (K : Nat) (args : List Value) (σ : Mem) (post : Option Value → Mem → Prop) : Prop := MM E K yX4_isFound cX4_isFound 2 (some .boolean) args σ post
theorem kcX4_isFound : Cond.code yX4_isFound cX4_isFound 2 (some .boolean) ∈ mx_tbl := mx_in 712 (by decide +kernel) rfl
theorem ktX4_isFound : Cond.static yX4_isFound ∈ mx_tbl := mx_in 711 (by decide +kernel) rfl
theorem kyX4_isFound : yX4_isFound.cls ≠ "java/lang/invoke/MethodHandle" ∧ yX4_isFound.cls ≠ "java/lang/invoke/VarHandle" ∧ (parseMethodDescriptor yX4_isFound.desc).map (fun d => d.parameters.length) = some 2 := by decide +kernel
abbrev MX4_nextKept (E : mx_E) (K : Nat) (args : List Value) (σ : Mem) (post : Option Value → Mem → Prop) : Prop := MM E K yX4_nextKept cX4_nextKept 3 (some .int) args σ post
theorem kcX4_nextKept : Cond.code yX4_nextKept cX4_nextKept 3 (some .int) ∈ mx_tbl := mx_in 724 (by decide +kernel) rfl
theorem ktX4_nextKept : Cond.static yX4_nextKept ∈ mx_tbl := mx_in 723 (by decide +kernel) rfl
theorem kyX4_nextKept : yX4_nextKept.cls ≠ "java/lang/invoke/MethodHandle" ∧ yX4_nextKept.cls ≠ "java/lang/invoke/VarHandle" ∧ (parseMethodDescriptor yX4_nextKept.desc).map (fun d => d.parameters.length) = some 2 := by decide +kernel
abbrev MX4_ages (E : mx_E) (K : Nat) (args : List Value) (σ : Mem) (post : Option Value → Mem → Prop) : Prop := MM E K yX4_ages cX4_ages 5 none args σ post
theorem kcX4_ages : Cond.code yX4_ages cX4_ages 5 none ∈ mx_tbl := mx_in 700 (by decide +kernel) rfl
theorem ktX4_ages : Cond.static yX4_ages ∈ mx_tbl := mx_in 699 (by decide +kernel) rfl
theorem kyX4_ages : yX4_ages.cls ≠ "java/lang/invoke/MethodHandle" ∧ yX4_ages.cls ≠ "java/lang/invoke/VarHandle" ∧ (parseMethodDescriptor yX4_ages.desc).map (fun d => d.parameters.length) = some 2 := by decide +kernel
abbrev MX4_loses (E : mx_E) (K : Nat) (args : List Value) (σ : Mem) (post : Option Value → Mem → Prop) : Prop := MM E K yX4_loses cX4_loses 3 none args σ post
theorem kcX4_loses : Cond.code yX4_loses cX4_loses 3 none ∈ mx_tbl := mx_in 721 (by decide +kernel) rfl
theorem ktX4_loses : Cond.static yX4_loses ∈ mx_tbl := mx_in 720 (by decide +kernel) rfl
theorem kyX4_loses : yX4_loses.cls ≠ "java/lang/invoke/MethodHandle" ∧ yX4_loses.cls ≠ "java/lang/invoke/VarHandle" ∧ (parseMethodDescriptor yX4_loses.desc).map (fun d => d.parameters.length) = some 2 := by decide +kernel
abbrev MX4_week (E : mx_E) (K : Nat) (args : List Value) (σ : Mem) (post : Option Value → Mem → Prop) : Prop := MM E K yX4_week cX4_week 2 none args σ post
theorem kcX4_week : Cond.code yX4_week cX4_week 2 none ∈ mx_tbl := mx_in 694 (by decide +kernel) rfl
theorem ktX4_week : Cond.static yX4_week ∈ mx_tbl := mx_in 693 (by decide +kernel) rfl
theorem kyX4_week : yX4_week.cls ≠ "java/lang/invoke/MethodHandle" ∧ yX4_week.cls ≠ "java/lang/invoke/VarHandle" ∧ (parseMethodDescriptor yX4_week.desc).map (fun d => d.parameters.length) = some 1 := by decide +kernel
abbrev MX4_weeksOn (E : mx_E) (K : Nat) (args : List Value) (σ : Mem) (post : Option Value → Mem → Prop) : Prop := MM E K yX4_weeksOn cX4_weeksOn 3 none args σ post
theorem kcX4_weeksOn : Cond.code yX4_weeksOn cX4_weeksOn 3 none ∈ mx_tbl := mx_in 691 (by decide +kernel) rfl
theorem ktX4_weeksOn : Cond.static yX4_weeksOn ∈ mx_tbl := mx_in 690 (by decide +kernel) rfl
theorem kyX4_weeksOn : yX4_weeksOn.cls ≠ "java/lang/invoke/MethodHandle" ∧ yX4_weeksOn.cls ≠ "java/lang/invoke/VarHandle" ∧ (parseMethodDescriptor yX4_weeksOn.desc).map (fun d => d.parameters.length) = some 2 := by decide +kernel
abbrev MX4_burnsIn (E : mx_E) (K : Nat) (args : List Value) (σ : Mem) (post : Option Value → Mem → Prop) : Prop := MM E K yX4_burnsIn cX4_burnsIn 3 (some .int) args σ post
theorem kcX4_burnsIn : Cond.code yX4_burnsIn cX4_burnsIn 3 (some .int) ∈ mx_tbl := mx_in 810 (by decide +kernel) rfl
theorem ktX4_burnsIn : Cond.static yX4_burnsIn ∈ mx_tbl := mx_in 809 (by decide +kernel) rfl
theorem kyX4_burnsIn : yX4_burnsIn.cls ≠ "java/lang/invoke/MethodHandle" ∧ yX4_burnsIn.cls ≠ "java/lang/invoke/VarHandle" ∧ (parseMethodDescriptor yX4_burnsIn.desc).map (fun d => d.parameters.length) = some 1 := by decide +kernel
abbrev MX4_allPeople (E : mx_E) (K : Nat) (args : List Value) (σ : Mem) (post : Option Value → Mem → Prop) : Prop := MM E K yX4_allPeople cX4_allPeople 3 (some .int) args σ post
theorem kcX4_allPeople : Cond.code yX4_allPeople cX4_allPeople 3 (some .int) ∈ mx_tbl := mx_in 904 (by decide +kernel) rfl
theorem ktX4_allPeople : Cond.static yX4_allPeople ∈ mx_tbl := mx_in 903 (by decide +kernel) rfl
theorem kyX4_allPeople : yX4_allPeople.cls ≠ "java/lang/invoke/MethodHandle" ∧ yX4_allPeople.cls ≠ "java/lang/invoke/VarHandle" ∧ (parseMethodDescriptor yX4_allPeople.desc).map (fun d => d.parameters.length) = some 1 := by decide +kernel
abbrev MX4_letter (E : mx_E) (K : Nat) (args : List Value) (σ : Mem) (post : Option Value → Mem → Prop) : Prop := MM E K yX4_letter cX4_letter 2 (some .int) args σ post
theorem kcX4_letter : Cond.code yX4_letter cX4_letter 2 (some .int) ∈ mx_tbl := mx_in 640 (by decide +kernel) rfl
theorem kiX4_letter : Cond.instanceMethod yX4_letter ∈ mx_tbl := mx_in 638 (by decide +kernel) rfl
theorem ksX4_letter : Cond.selects yX4_letter.cls yX4_letter yX4_letter ∈ mx_tbl := mx_in 639 (by decide +kernel) rfl
theorem kyX4_letter : yX4_letter.cls ≠ "java/lang/invoke/MethodHandle" ∧ yX4_letter.cls ≠ "java/lang/invoke/VarHandle" ∧ (parseMethodDescriptor yX4_letter.desc).map (fun d => d.parameters.length) = some 1 := by decide +kernel
abbrev MX4_here (E : mx_E) (K : Nat) (args : List Value) (σ : Mem) (post : Option Value → Mem → Prop) : Prop := MM E K yX4_here cX4_here 1 (some .int) args σ post
theorem kcX4_here : Cond.code yX4_here cX4_here 1 (some .int) ∈ mx_tbl := mx_in 656 (by decide +kernel) rfl
theorem kiX4_here : Cond.instanceMethod yX4_here ∈ mx_tbl := mx_in 655 (by decide +kernel) rfl
theorem ksX4_here : Cond.selects yX4_here.cls yX4_here yX4_here ∈ mx_tbl := mx_in 27 (by decide +kernel) rfl
theorem kyX4_here : yX4_here.cls ≠ "java/lang/invoke/MethodHandle" ∧ yX4_here.cls ≠ "java/lang/invoke/VarHandle" ∧ (parseMethodDescriptor yX4_here.desc).map (fun d => d.parameters.length) = some 0 := by decide +kernel
abbrev MX4_readsNumber (E : mx_E) (K : Nat) (args : List Value) (σ : Mem) (post : Option Value → Mem → Prop) : Prop := MM E K yX4_readsNumber cX4_readsNumber 4 (some .boolean) args σ post
theorem kcX4_readsNumber : Cond.code yX4_readsNumber cX4_readsNumber 4 (some .boolean) ∈ mx_tbl := mx_in 667 (by decide +kernel) rfl
theorem kiX4_readsNumber : Cond.instanceMethod yX4_readsNumber ∈ mx_tbl := mx_in 666 (by decide +kernel) rfl
theorem ksX4_readsNumber : Cond.selects yX4_readsNumber.cls yX4_readsNumber yX4_readsNumber ∈ mx_tbl := mx_in 29 (by decide +kernel) rfl
theorem kyX4_readsNumber : yX4_readsNumber.cls ≠ "java/lang/invoke/MethodHandle" ∧ yX4_readsNumber.cls ≠ "java/lang/invoke/VarHandle" ∧ (parseMethodDescriptor yX4_readsNumber.desc).map (fun d => d.parameters.length) = some 2 := by decide +kernel
abbrev MX4_kindBy (E : mx_E) (K : Nat) (args : List Value) (σ : Mem) (post : Option Value → Mem → Prop) : Prop := MM E K yX4_kindBy cX4_kindBy 1 (some .int) args σ post
theorem kcX4_kindBy : Cond.code yX4_kindBy cX4_kindBy 1 (some .int) ∈ mx_tbl := mx_in 663 (by decide +kernel) rfl
theorem ktX4_kindBy : Cond.static yX4_kindBy ∈ mx_tbl := mx_in 662 (by decide +kernel) rfl
theorem kyX4_kindBy : yX4_kindBy.cls ≠ "java/lang/invoke/MethodHandle" ∧ yX4_kindBy.cls ≠ "java/lang/invoke/VarHandle" ∧ (parseMethodDescriptor yX4_kindBy.desc).map (fun d => d.parameters.length) = some 1 := by decide +kernel
abbrev MX4_readsKind (E : mx_E) (K : Nat) (args : List Value) (σ : Mem) (post : Option Value → Mem → Prop) : Prop := MM E K yX4_readsKind cX4_readsKind 1 (some .boolean) args σ post
theorem kcX4_readsKind : Cond.code yX4_readsKind cX4_readsKind 1 (some .boolean) ∈ mx_tbl := mx_in 660 (by decide +kernel) rfl
theorem kiX4_readsKind : Cond.instanceMethod yX4_readsKind ∈ mx_tbl := mx_in 659 (by decide +kernel) rfl
theorem ksX4_readsKind : Cond.selects yX4_readsKind.cls yX4_readsKind yX4_readsKind ∈ mx_tbl := mx_in 28 (by decide +kernel) rfl
theorem kyX4_readsKind : yX4_readsKind.cls ≠ "java/lang/invoke/MethodHandle" ∧ yX4_readsKind.cls ≠ "java/lang/invoke/VarHandle" ∧ (parseMethodDescriptor yX4_readsKind.desc).map (fun d => d.parameters.length) = some 0 := by decide +kernel
abbrev MX4_readsStatement (E : mx_E) (K : Nat) (args : List Value) (σ : Mem) (post : Option Value → Mem → Prop) : Prop := MM E K yX4_readsStatement cX4_readsStatement 3 (some .boolean) args σ post
theorem kcX4_readsStatement : Cond.code yX4_readsStatement cX4_readsStatement 3 (some .boolean) ∈ mx_tbl := mx_in 652 (by decide +kernel) rfl
theorem kiX4_readsStatement : Cond.instanceMethod yX4_readsStatement ∈ mx_tbl := mx_in 651 (by decide +kernel) rfl
theorem ksX4_readsStatement : Cond.selects yX4_readsStatement.cls yX4_readsStatement yX4_readsStatement ∈ mx_tbl := mx_in 26 (by decide +kernel) rfl
theorem kyX4_readsStatement : yX4_readsStatement.cls ≠ "java/lang/invoke/MethodHandle" ∧ yX4_readsStatement.cls ≠ "java/lang/invoke/VarHandle" ∧ (parseMethodDescriptor yX4_readsStatement.desc).map (fun d => d.parameters.length) = some 0 := by decide +kernel
abbrev MX4_addsHouse (E : mx_E) (K : Nat) (args : List Value) (σ : Mem) (post : Option Value → Mem → Prop) : Prop := MM E K yX4_addsHouse cX4_addsHouse 3 (some .boolean) args σ post
theorem kcX4_addsHouse : Cond.code yX4_addsHouse cX4_addsHouse 3 (some .boolean) ∈ mx_tbl := mx_in 681 (by decide +kernel) rfl
theorem kiX4_addsHouse : Cond.instanceMethod yX4_addsHouse ∈ mx_tbl := mx_in 680 (by decide +kernel) rfl
theorem ksX4_addsHouse : Cond.selects yX4_addsHouse.cls yX4_addsHouse yX4_addsHouse ∈ mx_tbl := mx_in 31 (by decide +kernel) rfl
theorem kyX4_addsHouse : yX4_addsHouse.cls ≠ "java/lang/invoke/MethodHandle" ∧ yX4_addsHouse.cls ≠ "java/lang/invoke/VarHandle" ∧ (parseMethodDescriptor yX4_addsHouse.desc).map (fun d => d.parameters.length) = some 0 := by decide +kernel
abbrev MX4_isDone (E : mx_E) (K : Nat) (args : List Value) (σ : Mem) (post : Option Value → Mem → Prop) : Prop := MM E K yX4_isDone cX4_isDone 4 (some .boolean) args σ post
theorem kcX4_isDone : Cond.code yX4_isDone cX4_isDone 4 (some .boolean) ∈ mx_tbl := mx_in 677 (by decide +kernel) rfl
theorem kiX4_isDone : Cond.instanceMethod yX4_isDone ∈ mx_tbl := mx_in 676 (by decide +kernel) rfl
theorem ksX4_isDone : Cond.selects yX4_isDone.cls yX4_isDone yX4_isDone ∈ mx_tbl := mx_in 30 (by decide +kernel) rfl
theorem kyX4_isDone : yX4_isDone.cls ≠ "java/lang/invoke/MethodHandle" ∧ yX4_isDone.cls ≠ "java/lang/invoke/VarHandle" ∧ (parseMethodDescriptor yX4_isDone.desc).map (fun d => d.parameters.length) = some 1 := by decide +kernel
abbrev MX4_town (E : mx_E) (K : Nat) (args : List Value) (σ : Mem) (post : Option Value → Mem → Prop) : Prop := MM E K yX4_town cX4_town 6 (some .int) args σ post
theorem kcX4_town : Cond.code yX4_town cX4_town 6 (some .int) ∈ mx_tbl := mx_in 648 (by decide +kernel) rfl
theorem kiX4_town : Cond.instanceMethod yX4_town ∈ mx_tbl := mx_in 646 (by decide +kernel) rfl
theorem ksX4_town : Cond.selects yX4_town.cls yX4_town yX4_town ∈ mx_tbl := mx_in 647 (by decide +kernel) rfl
theorem kyX4_town : yX4_town.cls ≠ "java/lang/invoke/MethodHandle" ∧ yX4_town.cls ≠ "java/lang/invoke/VarHandle" ∧ (parseMethodDescriptor yX4_town.desc).map (fun d => d.parameters.length) = some 0 := by decide +kernel
abbrev MX4_house (E : mx_E) (K : Nat) (args : List Value) (σ : Mem) (post : Option Value → Mem → Prop) : Prop := MM E K yX4_house cX4_house 3 (some .int) args σ post
theorem kcX4_house : Cond.code yX4_house cX4_house 3 (some .int) ∈ mx_tbl := mx_in 728 (by decide +kernel) rfl
theorem kiX4_house : Cond.instanceMethod yX4_house ∈ mx_tbl := mx_in 726 (by decide +kernel) rfl
theorem ksX4_house : Cond.selects yX4_house.cls yX4_house yX4_house ∈ mx_tbl := mx_in 727 (by decide +kernel) rfl
theorem kyX4_house : yX4_house.cls ≠ "java/lang/invoke/MethodHandle" ∧ yX4_house.cls ≠ "java/lang/invoke/VarHandle" ∧ (parseMethodDescriptor yX4_house.desc).map (fun d => d.parameters.length) = some 2 := by decide +kernel
abbrev MX4_wrongBy (E : mx_E) (K : Nat) (args : List Value) (σ : Mem) (post : Option Value → Mem → Prop) : Prop := MM E K yX4_wrongBy cX4_wrongBy 3 (some .int) args σ post
theorem kcX4_wrongBy : Cond.code yX4_wrongBy cX4_wrongBy 3 (some .int) ∈ mx_tbl := mx_in 739 (by decide +kernel) rfl
theorem ktX4_wrongBy : Cond.static yX4_wrongBy ∈ mx_tbl := mx_in 738 (by decide +kernel) rfl
theorem kyX4_wrongBy : yX4_wrongBy.cls ≠ "java/lang/invoke/MethodHandle" ∧ yX4_wrongBy.cls ≠ "java/lang/invoke/VarHandle" ∧ (parseMethodDescriptor yX4_wrongBy.desc).map (fun d => d.parameters.length) = some 3 := by decide +kernel
abbrev MX4_sets (E : mx_E) (K : Nat) (args : List Value) (σ : Mem) (post : Option Value → Mem → Prop) : Prop := MM E K yX4_sets cX4_sets 4 (some .int) args σ post
theorem kcX4_sets : Cond.code yX4_sets cX4_sets 4 (some .int) ∈ mx_tbl := mx_in 743 (by decide +kernel) rfl
theorem kiX4_sets : Cond.instanceMethod yX4_sets ∈ mx_tbl := mx_in 742 (by decide +kernel) rfl
theorem ksX4_sets : Cond.selects yX4_sets.cls yX4_sets yX4_sets ∈ mx_tbl := mx_in 34 (by decide +kernel) rfl
theorem kyX4_sets : yX4_sets.cls ≠ "java/lang/invoke/MethodHandle" ∧ yX4_sets.cls ≠ "java/lang/invoke/VarHandle" ∧ (parseMethodDescriptor yX4_sets.desc).map (fun d => d.parameters.length) = some 2 := by decide +kernel
abbrev MX4_setsOf (E : mx_E) (K : Nat) (args : List Value) (σ : Mem) (post : Option Value → Mem → Prop) : Prop := MM E K yX4_setsOf cX4_setsOf 6 (some .int) args σ post
theorem kcX4_setsOf : Cond.code yX4_setsOf cX4_setsOf 6 (some .int) ∈ mx_tbl := mx_in 736 (by decide +kernel) rfl
theorem kiX4_setsOf : Cond.instanceMethod yX4_setsOf ∈ mx_tbl := mx_in 735 (by decide +kernel) rfl
theorem ksX4_setsOf : Cond.selects yX4_setsOf.cls yX4_setsOf yX4_setsOf ∈ mx_tbl := mx_in 33 (by decide +kernel) rfl
theorem kyX4_setsOf : yX4_setsOf.cls ≠ "java/lang/invoke/MethodHandle" ∧ yX4_setsOf.cls ≠ "java/lang/invoke/VarHandle" ∧ (parseMethodDescriptor yX4_setsOf.desc).map (fun d => d.parameters.length) = some 4 := by decide +kernel
abbrev MX4_peoples (E : mx_E) (K : Nat) (args : List Value) (σ : Mem) (post : Option Value → Mem → Prop) : Prop := MM E K yX4_peoples cX4_peoples 3 (some .int) args σ post
theorem kcX4_peoples : Cond.code yX4_peoples cX4_peoples 3 (some .int) ∈ mx_tbl := mx_in 732 (by decide +kernel) rfl
theorem kiX4_peoples : Cond.instanceMethod yX4_peoples ∈ mx_tbl := mx_in 730 (by decide +kernel) rfl
theorem ksX4_peoples : Cond.selects yX4_peoples.cls yX4_peoples yX4_peoples ∈ mx_tbl := mx_in 731 (by decide +kernel) rfl
theorem kyX4_peoples : yX4_peoples.cls ≠ "java/lang/invoke/MethodHandle" ∧ yX4_peoples.cls ≠ "java/lang/invoke/VarHandle" ∧ (parseMethodDescriptor yX4_peoples.desc).map (fun d => d.parameters.length) = some 2 := by decide +kernel
abbrev MX4_airs (E : mx_E) (K : Nat) (args : List Value) (σ : Mem) (post : Option Value → Mem → Prop) : Prop := MM E K yX4_airs cX4_airs 2 (some .int) args σ post
theorem kcX4_airs : Cond.code yX4_airs cX4_airs 2 (some .int) ∈ mx_tbl := mx_in 747 (by decide +kernel) rfl
theorem kiX4_airs : Cond.instanceMethod yX4_airs ∈ mx_tbl := mx_in 745 (by decide +kernel) rfl
theorem ksX4_airs : Cond.selects yX4_airs.cls yX4_airs yX4_airs ∈ mx_tbl := mx_in 746 (by decide +kernel) rfl
theorem kyX4_airs : yX4_airs.cls ≠ "java/lang/invoke/MethodHandle" ∧ yX4_airs.cls ≠ "java/lang/invoke/VarHandle" ∧ (parseMethodDescriptor yX4_airs.desc).map (fun d => d.parameters.length) = some 1 := by decide +kernel
abbrev MX4_dents (E : mx_E) (K : Nat) (args : List Value) (σ : Mem) (post : Option Value → Mem → Prop) : Prop := MM E K yX4_dents cX4_dents 3 (some .int) args σ post
theorem kcX4_dents : Cond.code yX4_dents cX4_dents 3 (some .int) ∈ mx_tbl := mx_in 751 (by decide +kernel) rfl
theorem kiX4_dents : Cond.instanceMethod yX4_dents ∈ mx_tbl := mx_in 749 (by decide +kernel) rfl
theorem ksX4_dents : Cond.selects yX4_dents.cls yX4_dents yX4_dents ∈ mx_tbl := mx_in 750 (by decide +kernel) rfl
theorem kyX4_dents : yX4_dents.cls ≠ "java/lang/invoke/MethodHandle" ∧ yX4_dents.cls ≠ "java/lang/invoke/VarHandle" ∧ (parseMethodDescriptor yX4_dents.desc).map (fun d => d.parameters.length) = some 2 := by decide +kernel
abbrev MX4_keeps (E : mx_E) (K : Nat) (args : List Value) (σ : Mem) (post : Option Value → Mem → Prop) : Prop := MM E K yX4_keeps cX4_keeps 2 (some .int) args σ post
theorem kcX4_keeps : Cond.code yX4_keeps cX4_keeps 2 (some .int) ∈ mx_tbl := mx_in 755 (by decide +kernel) rfl
theorem kiX4_keeps : Cond.instanceMethod yX4_keeps ∈ mx_tbl := mx_in 753 (by decide +kernel) rfl
theorem ksX4_keeps : Cond.selects yX4_keeps.cls yX4_keeps yX4_keeps ∈ mx_tbl := mx_in 754 (by decide +kernel) rfl
theorem kyX4_keeps : yX4_keeps.cls ≠ "java/lang/invoke/MethodHandle" ∧ yX4_keeps.cls ≠ "java/lang/invoke/VarHandle" ∧ (parseMethodDescriptor yX4_keeps.desc).map (fun d => d.parameters.length) = some 1 := by decide +kernel
abbrev MX4_visits (E : mx_E) (K : Nat) (args : List Value) (σ : Mem) (post : Option Value → Mem → Prop) : Prop := MM E K yX4_visits cX4_visits 2 (some .int) args σ post
theorem kcX4_visits : Cond.code yX4_visits cX4_visits 2 (some .int) ∈ mx_tbl := mx_in 759 (by decide +kernel) rfl
theorem kiX4_visits : Cond.instanceMethod yX4_visits ∈ mx_tbl := mx_in 757 (by decide +kernel) rfl
theorem ksX4_visits : Cond.selects yX4_visits.cls yX4_visits yX4_visits ∈ mx_tbl := mx_in 758 (by decide +kernel) rfl
theorem kyX4_visits : yX4_visits.cls ≠ "java/lang/invoke/MethodHandle" ∧ yX4_visits.cls ≠ "java/lang/invoke/VarHandle" ∧ (parseMethodDescriptor yX4_visits.desc).map (fun d => d.parameters.length) = some 1 := by decide +kernel
abbrev MX4_candles (E : mx_E) (K : Nat) (args : List Value) (σ : Mem) (post : Option Value → Mem → Prop) : Prop := MM E K yX4_candles cX4_candles 3 (some .int) args σ post
theorem kcX4_candles : Cond.code yX4_candles cX4_candles 3 (some .int) ∈ mx_tbl := mx_in 763 (by decide +kernel) rfl
theorem kiX4_candles : Cond.instanceMethod yX4_candles ∈ mx_tbl := mx_in 761 (by decide +kernel) rfl
theorem ksX4_candles : Cond.selects yX4_candles.cls yX4_candles yX4_candles ∈ mx_tbl := mx_in 762 (by decide +kernel) rfl
theorem kyX4_candles : yX4_candles.cls ≠ "java/lang/invoke/MethodHandle" ∧ yX4_candles.cls ≠ "java/lang/invoke/VarHandle" ∧ (parseMethodDescriptor yX4_candles.desc).map (fun d => d.parameters.length) = some 1 := by decide +kernel
abbrev MX4_turn (E : mx_E) (K : Nat) (args : List Value) (σ : Mem) (post : Option Value → Mem → Prop) : Prop := MM E K yX4_turn cX4_turn 6 (some .int) args σ post
theorem kcX4_turn : Cond.code yX4_turn cX4_turn 6 (some .int) ∈ mx_tbl := mx_in 767 (by decide +kernel) rfl
theorem kiX4_turn : Cond.instanceMethod yX4_turn ∈ mx_tbl := mx_in 765 (by decide +kernel) rfl
theorem ksX4_turn : Cond.selects yX4_turn.cls yX4_turn yX4_turn ∈ mx_tbl := mx_in 766 (by decide +kernel) rfl
theorem kyX4_turn : yX4_turn.cls ≠ "java/lang/invoke/MethodHandle" ∧ yX4_turn.cls ≠ "java/lang/invoke/VarHandle" ∧ (parseMethodDescriptor yX4_turn.desc).map (fun d => d.parameters.length) = some 3 := by decide +kernel
abbrev MX4_weeks (E : mx_E) (K : Nat) (args : List Value) (σ : Mem) (post : Option Value → Mem → Prop) : Prop := MM E K yX4_weeks cX4_weeks 2 (some .int) args σ post
theorem kcX4_weeks : Cond.code yX4_weeks cX4_weeks 2 (some .int) ∈ mx_tbl := mx_in 771 (by decide +kernel) rfl
theorem kiX4_weeks : Cond.instanceMethod yX4_weeks ∈ mx_tbl := mx_in 769 (by decide +kernel) rfl
theorem ksX4_weeks : Cond.selects yX4_weeks.cls yX4_weeks yX4_weeks ∈ mx_tbl := mx_in 770 (by decide +kernel) rfl
theorem kyX4_weeks : yX4_weeks.cls ≠ "java/lang/invoke/MethodHandle" ∧ yX4_weeks.cls ≠ "java/lang/invoke/VarHandle" ∧ (parseMethodDescriptor yX4_weeks.desc).map (fun d => d.parameters.length) = some 1 := by decide +kernel
abbrev MX4_takes (E : mx_E) (K : Nat) (args : List Value) (σ : Mem) (post : Option Value → Mem → Prop) : Prop := MM E K yX4_takes cX4_takes 2 none args σ post
theorem kcX4_takes : Cond.code yX4_takes cX4_takes 2 none ∈ mx_tbl := mx_in 782 (by decide +kernel) rfl
theorem kiX4_takes : Cond.instanceMethod yX4_takes ∈ mx_tbl := mx_in 781 (by decide +kernel) rfl
theorem ksX4_takes : Cond.selects yX4_takes.cls yX4_takes yX4_takes ∈ mx_tbl := mx_in 35 (by decide +kernel) rfl
theorem kyX4_takes : yX4_takes.cls ≠ "java/lang/invoke/MethodHandle" ∧ yX4_takes.cls ≠ "java/lang/invoke/VarHandle" ∧ (parseMethodDescriptor yX4_takes.desc).map (fun d => d.parameters.length) = some 1 := by decide +kernel
abbrev MX4_houseThen (E : mx_E) (K : Nat) (args : List Value) (σ : Mem) (post : Option Value → Mem → Prop) : Prop := MM E K yX4_houseThen cX4_houseThen 5 (some .int) args σ post
theorem kcX4_houseThen : Cond.code yX4_houseThen cX4_houseThen 5 (some .int) ∈ mx_tbl := mx_in 778 (by decide +kernel) rfl
theorem kiX4_houseThen : Cond.instanceMethod yX4_houseThen ∈ mx_tbl := mx_in 776 (by decide +kernel) rfl
theorem ksX4_houseThen : Cond.selects yX4_houseThen.cls yX4_houseThen yX4_houseThen ∈ mx_tbl := mx_in 777 (by decide +kernel) rfl
theorem kyX4_houseThen : yX4_houseThen.cls ≠ "java/lang/invoke/MethodHandle" ∧ yX4_houseThen.cls ≠ "java/lang/invoke/VarHandle" ∧ (parseMethodDescriptor yX4_houseThen.desc).map (fun d => d.parameters.length) = some 3 := by decide +kernel
abbrev MX4_then (E : mx_E) (K : Nat) (args : List Value) (σ : Mem) (post : Option Value → Mem → Prop) : Prop := MM E K yX4_then cX4_then 4 (some .int) args σ post
theorem kcX4_then : Cond.code yX4_then cX4_then 4 (some .int) ∈ mx_tbl := mx_in 786 (by decide +kernel) rfl
theorem kiX4_then : Cond.instanceMethod yX4_then ∈ mx_tbl := mx_in 784 (by decide +kernel) rfl
theorem ksX4_then : Cond.selects yX4_then.cls yX4_then yX4_then ∈ mx_tbl := mx_in 785 (by decide +kernel) rfl
theorem kyX4_then : yX4_then.cls ≠ "java/lang/invoke/MethodHandle" ∧ yX4_then.cls ≠ "java/lang/invoke/VarHandle" ∧ (parseMethodDescriptor yX4_then.desc).map (fun d => d.parameters.length) = some 2 := by decide +kernel
abbrev MX4_whenLost (E : mx_E) (K : Nat) (args : List Value) (σ : Mem) (post : Option Value → Mem → Prop) : Prop := MM E K yX4_whenLost cX4_whenLost 3 (some .int) args σ post
theorem kcX4_whenLost : Cond.code yX4_whenLost cX4_whenLost 3 (some .int) ∈ mx_tbl := mx_in 803 (by decide +kernel) rfl
theorem kiX4_whenLost : Cond.instanceMethod yX4_whenLost ∈ mx_tbl := mx_in 802 (by decide +kernel) rfl
theorem ksX4_whenLost : Cond.selects yX4_whenLost.cls yX4_whenLost yX4_whenLost ∈ mx_tbl := mx_in 38 (by decide +kernel) rfl
theorem kyX4_whenLost : yX4_whenLost.cls ≠ "java/lang/invoke/MethodHandle" ∧ yX4_whenLost.cls ≠ "java/lang/invoke/VarHandle" ∧ (parseMethodDescriptor yX4_whenLost.desc).map (fun d => d.parameters.length) = some 1 := by decide +kernel
abbrev MX4_lostOf (E : mx_E) (K : Nat) (args : List Value) (σ : Mem) (post : Option Value → Mem → Prop) : Prop := MM E K yX4_lostOf cX4_lostOf 2 (some .int) args σ post
theorem kcX4_lostOf : Cond.code yX4_lostOf cX4_lostOf 2 (some .int) ∈ mx_tbl := mx_in 799 (by decide +kernel) rfl
theorem kiX4_lostOf : Cond.instanceMethod yX4_lostOf ∈ mx_tbl := mx_in 798 (by decide +kernel) rfl
theorem ksX4_lostOf : Cond.selects yX4_lostOf.cls yX4_lostOf yX4_lostOf ∈ mx_tbl := mx_in 37 (by decide +kernel) rfl
theorem kyX4_lostOf : yX4_lostOf.cls ≠ "java/lang/invoke/MethodHandle" ∧ yX4_lostOf.cls ≠ "java/lang/invoke/VarHandle" ∧ (parseMethodDescriptor yX4_lostOf.desc).map (fun d => d.parameters.length) = some 1 := by decide +kernel
abbrev MX4_firstLost (E : mx_E) (K : Nat) (args : List Value) (σ : Mem) (post : Option Value → Mem → Prop) : Prop := MM E K yX4_firstLost cX4_firstLost 5 (some .int) args σ post
theorem kcX4_firstLost : Cond.code yX4_firstLost cX4_firstLost 5 (some .int) ∈ mx_tbl := mx_in 794 (by decide +kernel) rfl
theorem kiX4_firstLost : Cond.instanceMethod yX4_firstLost ∈ mx_tbl := mx_in 793 (by decide +kernel) rfl
theorem ksX4_firstLost : Cond.selects yX4_firstLost.cls yX4_firstLost yX4_firstLost ∈ mx_tbl := mx_in 36 (by decide +kernel) rfl
theorem kyX4_firstLost : yX4_firstLost.cls ≠ "java/lang/invoke/MethodHandle" ∧ yX4_firstLost.cls ≠ "java/lang/invoke/VarHandle" ∧ (parseMethodDescriptor yX4_firstLost.desc).map (fun d => d.parameters.length) = some 0 := by decide +kernel
abbrev MX4_lost (E : mx_E) (K : Nat) (args : List Value) (σ : Mem) (post : Option Value → Mem → Prop) : Prop := MM E K yX4_lost cX4_lost 2 (some .int) args σ post
theorem kcX4_lost : Cond.code yX4_lost cX4_lost 2 (some .int) ∈ mx_tbl := mx_in 790 (by decide +kernel) rfl
theorem kiX4_lost : Cond.instanceMethod yX4_lost ∈ mx_tbl := mx_in 788 (by decide +kernel) rfl
theorem ksX4_lost : Cond.selects yX4_lost.cls yX4_lost yX4_lost ∈ mx_tbl := mx_in 789 (by decide +kernel) rfl
theorem kyX4_lost : yX4_lost.cls ≠ "java/lang/invoke/MethodHandle" ∧ yX4_lost.cls ≠ "java/lang/invoke/VarHandle" ∧ (parseMethodDescriptor yX4_lost.desc).map (fun d => d.parameters.length) = some 1 := by decide +kernel
abbrev MX4_dark (E : mx_E) (K : Nat) (args : List Value) (σ : Mem) (post : Option Value → Mem → Prop) : Prop := MM E K yX4_dark cX4_dark 2 (some .int) args σ post
theorem kcX4_dark : Cond.code yX4_dark cX4_dark 2 (some .int) ∈ mx_tbl := mx_in 807 (by decide +kernel) rfl
theorem kiX4_dark : Cond.instanceMethod yX4_dark ∈ mx_tbl := mx_in 805 (by decide +kernel) rfl
theorem ksX4_dark : Cond.selects yX4_dark.cls yX4_dark yX4_dark ∈ mx_tbl := mx_in 806 (by decide +kernel) rfl
theorem kyX4_dark : yX4_dark.cls ≠ "java/lang/invoke/MethodHandle" ∧ yX4_dark.cls ≠ "java/lang/invoke/VarHandle" ∧ (parseMethodDescriptor yX4_dark.desc).map (fun d => d.parameters.length) = some 0 := by decide +kernel
abbrev MX4_keptThen (E : mx_E) (K : Nat) (args : List Value) (σ : Mem) (post : Option Value → Mem → Prop) : Prop := MM E K yX4_keptThen cX4_keptThen 2 (some .int) args σ post
theorem kcX4_keptThen : Cond.code yX4_keptThen cX4_keptThen 2 (some .int) ∈ mx_tbl := mx_in 818 (by decide +kernel) rfl
theorem kiX4_keptThen : Cond.instanceMethod yX4_keptThen ∈ mx_tbl := mx_in 817 (by decide +kernel) rfl
theorem ksX4_keptThen : Cond.selects yX4_keptThen.cls yX4_keptThen yX4_keptThen ∈ mx_tbl := mx_in 39 (by decide +kernel) rfl
theorem kyX4_keptThen : yX4_keptThen.cls ≠ "java/lang/invoke/MethodHandle" ∧ yX4_keptThen.cls ≠ "java/lang/invoke/VarHandle" ∧ (parseMethodDescriptor yX4_keptThen.desc).map (fun d => d.parameters.length) = some 1 := by decide +kernel
abbrev MX4_still (E : mx_E) (K : Nat) (args : List Value) (σ : Mem) (post : Option Value → Mem → Prop) : Prop := MM E K yX4_still cX4_still 2 (some .int) args σ post
theorem kcX4_still : Cond.code yX4_still cX4_still 2 (some .int) ∈ mx_tbl := mx_in 814 (by decide +kernel) rfl
theorem kiX4_still : Cond.instanceMethod yX4_still ∈ mx_tbl := mx_in 812 (by decide +kernel) rfl
theorem ksX4_still : Cond.selects yX4_still.cls yX4_still yX4_still ∈ mx_tbl := mx_in 813 (by decide +kernel) rfl
theorem kyX4_still : yX4_still.cls ≠ "java/lang/invoke/MethodHandle" ∧ yX4_still.cls ≠ "java/lang/invoke/VarHandle" ∧ (parseMethodDescriptor yX4_still.desc).map (fun d => d.parameters.length) = some 0 := by decide +kernel
abbrev MX4_move (E : mx_E) (K : Nat) (args : List Value) (σ : Mem) (post : Option Value → Mem → Prop) : Prop := MM E K yX4_move cX4_move 8 (some .int) args σ post
theorem kcX4_move : Cond.code yX4_move cX4_move 8 (some .int) ∈ mx_tbl := mx_in 822 (by decide +kernel) rfl
theorem kiX4_move : Cond.instanceMethod yX4_move ∈ mx_tbl := mx_in 820 (by decide +kernel) rfl
theorem ksX4_move : Cond.selects yX4_move.cls yX4_move yX4_move ∈ mx_tbl := mx_in 821 (by decide +kernel) rfl
theorem kyX4_move : yX4_move.cls ≠ "java/lang/invoke/MethodHandle" ∧ yX4_move.cls ≠ "java/lang/invoke/VarHandle" ∧ (parseMethodDescriptor yX4_move.desc).map (fun d => d.parameters.length) = some 1 := by decide +kernel
abbrev MX4_isNoneLost (E : mx_E) (K : Nat) (args : List Value) (σ : Mem) (post : Option Value → Mem → Prop) : Prop := MM E K yX4_isNoneLost cX4_isNoneLost 2 (some .boolean) args σ post
theorem kcX4_isNoneLost : Cond.code yX4_isNoneLost cX4_isNoneLost 2 (some .boolean) ∈ mx_tbl := mx_in 830 (by decide +kernel) rfl
theorem kiX4_isNoneLost : Cond.instanceMethod yX4_isNoneLost ∈ mx_tbl := mx_in 829 (by decide +kernel) rfl
theorem ksX4_isNoneLost : Cond.selects yX4_isNoneLost.cls yX4_isNoneLost yX4_isNoneLost ∈ mx_tbl := mx_in 40 (by decide +kernel) rfl
theorem kyX4_isNoneLost : yX4_isNoneLost.cls ≠ "java/lang/invoke/MethodHandle" ∧ yX4_isNoneLost.cls ≠ "java/lang/invoke/VarHandle" ∧ (parseMethodDescriptor yX4_isNoneLost.desc).map (fun d => d.parameters.length) = some 1 := by decide +kernel
abbrev MX4_air (E : mx_E) (K : Nat) (args : List Value) (σ : Mem) (post : Option Value → Mem → Prop) : Prop := MM E K yX4_air cX4_air 6 (some .int) args σ post
theorem kcX4_air : Cond.code yX4_air cX4_air 6 (some .int) ∈ mx_tbl := mx_in 826 (by decide +kernel) rfl
theorem kiX4_air : Cond.instanceMethod yX4_air ∈ mx_tbl := mx_in 824 (by decide +kernel) rfl
theorem ksX4_air : Cond.selects yX4_air.cls yX4_air yX4_air ∈ mx_tbl := mx_in 825 (by decide +kernel) rfl
theorem kyX4_air : yX4_air.cls ≠ "java/lang/invoke/MethodHandle" ∧ yX4_air.cls ≠ "java/lang/invoke/VarHandle" ∧ (parseMethodDescriptor yX4_air.desc).map (fun d => d.parameters.length) = some 1 := by decide +kernel
abbrev MX4_start (E : mx_E) (K : Nat) (args : List Value) (σ : Mem) (post : Option Value → Mem → Prop) : Prop := MM E K yX4_start cX4_start 7 (some .int) args σ post
theorem kcX4_start : Cond.code yX4_start cX4_start 7 (some .int) ∈ mx_tbl := mx_in 834 (by decide +kernel) rfl
theorem kiX4_start : Cond.instanceMethod yX4_start ∈ mx_tbl := mx_in 832 (by decide +kernel) rfl
theorem ksX4_start : Cond.selects yX4_start.cls yX4_start yX4_start ∈ mx_tbl := mx_in 833 (by decide +kernel) rfl
theorem kyX4_start : yX4_start.cls ≠ "java/lang/invoke/MethodHandle" ∧ yX4_start.cls ≠ "java/lang/invoke/VarHandle" ∧ (parseMethodDescriptor yX4_start.desc).map (fun d => d.parameters.length) = some 2 := by decide +kernel
abbrev MX4_buy (E : mx_E) (K : Nat) (args : List Value) (σ : Mem) (post : Option Value → Mem → Prop) : Prop := MM E K yX4_buy cX4_buy 4 (some .int) args σ post
theorem kcX4_buy : Cond.code yX4_buy cX4_buy 4 (some .int) ∈ mx_tbl := mx_in 838 (by decide +kernel) rfl
theorem kiX4_buy : Cond.instanceMethod yX4_buy ∈ mx_tbl := mx_in 836 (by decide +kernel) rfl
theorem ksX4_buy : Cond.selects yX4_buy.cls yX4_buy yX4_buy ∈ mx_tbl := mx_in 837 (by decide +kernel) rfl
theorem kyX4_buy : yX4_buy.cls ≠ "java/lang/invoke/MethodHandle" ∧ yX4_buy.cls ≠ "java/lang/invoke/VarHandle" ∧ (parseMethodDescriptor yX4_buy.desc).map (fun d => d.parameters.length) = some 1 := by decide +kernel
abbrev MX4_bestKind (E : mx_E) (K : Nat) (args : List Value) (σ : Mem) (post : Option Value → Mem → Prop) : Prop := MM E K yX4_bestKind cX4_bestKind 8 (some .int) args σ post
theorem kcX4_bestKind : Cond.code yX4_bestKind cX4_bestKind 8 (some .int) ∈ mx_tbl := mx_in 842 (by decide +kernel) rfl
theorem kiX4_bestKind : Cond.instanceMethod yX4_bestKind ∈ mx_tbl := mx_in 840 (by decide +kernel) rfl
theorem ksX4_bestKind : Cond.selects yX4_bestKind.cls yX4_bestKind yX4_bestKind ∈ mx_tbl := mx_in 841 (by decide +kernel) rfl
theorem kyX4_bestKind : yX4_bestKind.cls ≠ "java/lang/invoke/MethodHandle" ∧ yX4_bestKind.cls ≠ "java/lang/invoke/VarHandle" ∧ (parseMethodDescriptor yX4_bestKind.desc).map (fun d => d.parameters.length) = some 2 := by decide +kernel
abbrev MX4_spareOnes (E : mx_E) (K : Nat) (args : List Value) (σ : Mem) (post : Option Value → Mem → Prop) : Prop := MM E K yX4_spareOnes cX4_spareOnes 3 (some .int) args σ post
theorem kcX4_spareOnes : Cond.code yX4_spareOnes cX4_spareOnes 3 (some .int) ∈ mx_tbl := mx_in 850 (by decide +kernel) rfl
theorem kiX4_spareOnes : Cond.instanceMethod yX4_spareOnes ∈ mx_tbl := mx_in 849 (by decide +kernel) rfl
theorem ksX4_spareOnes : Cond.selects yX4_spareOnes.cls yX4_spareOnes yX4_spareOnes ∈ mx_tbl := mx_in 41 (by decide +kernel) rfl
theorem kyX4_spareOnes : yX4_spareOnes.cls ≠ "java/lang/invoke/MethodHandle" ∧ yX4_spareOnes.cls ≠ "java/lang/invoke/VarHandle" ∧ (parseMethodDescriptor yX4_spareOnes.desc).map (fun d => d.parameters.length) = some 0 := by decide +kernel
abbrev MX4_fullest (E : mx_E) (K : Nat) (args : List Value) (σ : Mem) (post : Option Value → Mem → Prop) : Prop := MM E K yX4_fullest cX4_fullest 3 (some .int) args σ post
theorem kcX4_fullest : Cond.code yX4_fullest cX4_fullest 3 (some .int) ∈ mx_tbl := mx_in 854 (by decide +kernel) rfl
theorem kiX4_fullest : Cond.instanceMethod yX4_fullest ∈ mx_tbl := mx_in 853 (by decide +kernel) rfl
theorem ksX4_fullest : Cond.selects yX4_fullest.cls yX4_fullest yX4_fullest ∈ mx_tbl := mx_in 42 (by decide +kernel) rfl
theorem kyX4_fullest : yX4_fullest.cls ≠ "java/lang/invoke/MethodHandle" ∧ yX4_fullest.cls ≠ "java/lang/invoke/VarHandle" ∧ (parseMethodDescriptor yX4_fullest.desc).map (fun d => d.parameters.length) = some 0 := by decide +kernel
abbrev MX4_dustiest (E : mx_E) (K : Nat) (args : List Value) (σ : Mem) (post : Option Value → Mem → Prop) : Prop := MM E K yX4_dustiest cX4_dustiest 3 (some .int) args σ post
theorem kcX4_dustiest : Cond.code yX4_dustiest cX4_dustiest 3 (some .int) ∈ mx_tbl := mx_in 858 (by decide +kernel) rfl
theorem kiX4_dustiest : Cond.instanceMethod yX4_dustiest ∈ mx_tbl := mx_in 857 (by decide +kernel) rfl
theorem ksX4_dustiest : Cond.selects yX4_dustiest.cls yX4_dustiest yX4_dustiest ∈ mx_tbl := mx_in 43 (by decide +kernel) rfl
theorem kyX4_dustiest : yX4_dustiest.cls ≠ "java/lang/invoke/MethodHandle" ∧ yX4_dustiest.cls ≠ "java/lang/invoke/VarHandle" ∧ (parseMethodDescriptor yX4_dustiest.desc).map (fun d => d.parameters.length) = some 0 := by decide +kernel
abbrev MX4_spare (E : mx_E) (K : Nat) (args : List Value) (σ : Mem) (post : Option Value → Mem → Prop) : Prop := MM E K yX4_spare cX4_spare 2 (some .int) args σ post
theorem kcX4_spare : Cond.code yX4_spare cX4_spare 2 (some .int) ∈ mx_tbl := mx_in 846 (by decide +kernel) rfl
theorem kiX4_spare : Cond.instanceMethod yX4_spare ∈ mx_tbl := mx_in 844 (by decide +kernel) rfl
theorem ksX4_spare : Cond.selects yX4_spare.cls yX4_spare yX4_spare ∈ mx_tbl := mx_in 845 (by decide +kernel) rfl
theorem kyX4_spare : yX4_spare.cls ≠ "java/lang/invoke/MethodHandle" ∧ yX4_spare.cls ≠ "java/lang/invoke/VarHandle" ∧ (parseMethodDescriptor yX4_spare.desc).map (fun d => d.parameters.length) = some 1 := by decide +kernel
abbrev MX4_next (E : mx_E) (K : Nat) (args : List Value) (σ : Mem) (post : Option Value → Mem → Prop) : Prop := MM E K yX4_next cX4_next 2 (some .int) args σ post
theorem kcX4_next : Cond.code yX4_next cX4_next 2 (some .int) ∈ mx_tbl := mx_in 862 (by decide +kernel) rfl
theorem kiX4_next : Cond.instanceMethod yX4_next ∈ mx_tbl := mx_in 860 (by decide +kernel) rfl
theorem ksX4_next : Cond.selects yX4_next.cls yX4_next yX4_next ∈ mx_tbl := mx_in 861 (by decide +kernel) rfl
theorem kyX4_next : yX4_next.cls ≠ "java/lang/invoke/MethodHandle" ∧ yX4_next.cls ≠ "java/lang/invoke/VarHandle" ∧ (parseMethodDescriptor yX4_next.desc).map (fun d => d.parameters.length) = some 1 := by decide +kernel
abbrev MX4_lostRun (E : mx_E) (K : Nat) (args : List Value) (σ : Mem) (post : Option Value → Mem → Prop) : Prop := MM E K yX4_lostRun cX4_lostRun 4 (some .int) args σ post
theorem kcX4_lostRun : Cond.code yX4_lostRun cX4_lostRun 4 (some .int) ∈ mx_tbl := mx_in 870 (by decide +kernel) rfl
theorem kiX4_lostRun : Cond.instanceMethod yX4_lostRun ∈ mx_tbl := mx_in 869 (by decide +kernel) rfl
theorem ksX4_lostRun : Cond.selects yX4_lostRun.cls yX4_lostRun yX4_lostRun ∈ mx_tbl := mx_in 44 (by decide +kernel) rfl
theorem kyX4_lostRun : yX4_lostRun.cls ≠ "java/lang/invoke/MethodHandle" ∧ yX4_lostRun.cls ≠ "java/lang/invoke/VarHandle" ∧ (parseMethodDescriptor yX4_lostRun.desc).map (fun d => d.parameters.length) = some 0 := by decide +kernel
abbrev MX4_run (E : mx_E) (K : Nat) (args : List Value) (σ : Mem) (post : Option Value → Mem → Prop) : Prop := MM E K yX4_run cX4_run 4 (some .int) args σ post
theorem kcX4_run : Cond.code yX4_run cX4_run 4 (some .int) ∈ mx_tbl := mx_in 866 (by decide +kernel) rfl
theorem kiX4_run : Cond.instanceMethod yX4_run ∈ mx_tbl := mx_in 864 (by decide +kernel) rfl
theorem ksX4_run : Cond.selects yX4_run.cls yX4_run yX4_run ∈ mx_tbl := mx_in 865 (by decide +kernel) rfl
theorem kyX4_run : yX4_run.cls ≠ "java/lang/invoke/MethodHandle" ∧ yX4_run.cls ≠ "java/lang/invoke/VarHandle" ∧ (parseMethodDescriptor yX4_run.desc).map (fun d => d.parameters.length) = some 1 := by decide +kernel
abbrev MX4_lets (E : mx_E) (K : Nat) (args : List Value) (σ : Mem) (post : Option Value → Mem → Prop) : Prop := MM E K yX4_lets cX4_lets 2 none args σ post
theorem kcX4_lets : Cond.code yX4_lets cX4_lets 2 none ∈ mx_tbl := mx_in 882 (by decide +kernel) rfl
theorem kiX4_lets : Cond.instanceMethod yX4_lets ∈ mx_tbl := mx_in 881 (by decide +kernel) rfl
theorem ksX4_lets : Cond.selects yX4_lets.cls yX4_lets yX4_lets ∈ mx_tbl := mx_in 46 (by decide +kernel) rfl
theorem kyX4_lets : yX4_lets.cls ≠ "java/lang/invoke/MethodHandle" ∧ yX4_lets.cls ≠ "java/lang/invoke/VarHandle" ∧ (parseMethodDescriptor yX4_lets.desc).map (fun d => d.parameters.length) = some 1 := by decide +kernel
abbrev MX4_hasBy (E : mx_E) (K : Nat) (args : List Value) (σ : Mem) (post : Option Value → Mem → Prop) : Prop := MM E K yX4_hasBy cX4_hasBy 7 (some .int) args σ post
theorem kcX4_hasBy : Cond.code yX4_hasBy cX4_hasBy 7 (some .int) ∈ mx_tbl := mx_in 878 (by decide +kernel) rfl
theorem kiX4_hasBy : Cond.instanceMethod yX4_hasBy ∈ mx_tbl := mx_in 877 (by decide +kernel) rfl
theorem ksX4_hasBy : Cond.selects yX4_hasBy.cls yX4_hasBy yX4_hasBy ∈ mx_tbl := mx_in 45 (by decide +kernel) rfl
theorem kyX4_hasBy : yX4_hasBy.cls ≠ "java/lang/invoke/MethodHandle" ∧ yX4_hasBy.cls ≠ "java/lang/invoke/VarHandle" ∧ (parseMethodDescriptor yX4_hasBy.desc).map (fun d => d.parameters.length) = some 6 := by decide +kernel
abbrev MX4_two (E : mx_E) (K : Nat) (args : List Value) (σ : Mem) (post : Option Value → Mem → Prop) : Prop := MM E K yX4_two cX4_two 8 (some .int) args σ post
theorem kcX4_two : Cond.code yX4_two cX4_two 8 (some .int) ∈ mx_tbl := mx_in 874 (by decide +kernel) rfl
theorem kiX4_two : Cond.instanceMethod yX4_two ∈ mx_tbl := mx_in 872 (by decide +kernel) rfl
theorem ksX4_two : Cond.selects yX4_two.cls yX4_two yX4_two ∈ mx_tbl := mx_in 873 (by decide +kernel) rfl
theorem kyX4_two : yX4_two.cls ≠ "java/lang/invoke/MethodHandle" ∧ yX4_two.cls ≠ "java/lang/invoke/VarHandle" ∧ (parseMethodDescriptor yX4_two.desc).map (fun d => d.parameters.length) = some 3 := by decide +kernel
abbrev MX4_gcd (E : mx_E) (K : Nat) (args : List Value) (σ : Mem) (post : Option Value → Mem → Prop) : Prop := MM E K yX4_gcd cX4_gcd 10 (some .long) args σ post
theorem kcX4_gcd : Cond.code yX4_gcd cX4_gcd 10 (some .long) ∈ mx_tbl := mx_in 897 (by decide +kernel) rfl
theorem ktX4_gcd : Cond.static yX4_gcd ∈ mx_tbl := mx_in 896 (by decide +kernel) rfl
theorem kyX4_gcd : yX4_gcd.cls ≠ "java/lang/invoke/MethodHandle" ∧ yX4_gcd.cls ≠ "java/lang/invoke/VarHandle" ∧ (parseMethodDescriptor yX4_gcd.desc).map (fun d => d.parameters.length) = some 2 := by decide +kernel
abbrev MX4_partOf (E : mx_E) (K : Nat) (args : List Value) (σ : Mem) (post : Option Value → Mem → Prop) : Prop := MM E K yX4_partOf cX4_partOf 5 (some .long) args σ post
theorem kcX4_partOf : Cond.code yX4_partOf cX4_partOf 5 (some .long) ∈ mx_tbl := mx_in 894 (by decide +kernel) rfl
theorem ktX4_partOf : Cond.static yX4_partOf ∈ mx_tbl := mx_in 893 (by decide +kernel) rfl
theorem kyX4_partOf : yX4_partOf.cls ≠ "java/lang/invoke/MethodHandle" ∧ yX4_partOf.cls ≠ "java/lang/invoke/VarHandle" ∧ (parseMethodDescriptor yX4_partOf.desc).map (fun d => d.parameters.length) = some 3 := by decide +kernel
abbrev MX4_guest (E : mx_E) (K : Nat) (args : List Value) (σ : Mem) (post : Option Value → Mem → Prop) : Prop := MM E K yX4_guest cX4_guest 13 (some .long) args σ post
theorem kcX4_guest : Cond.code yX4_guest cX4_guest 13 (some .long) ∈ mx_tbl := mx_in 886 (by decide +kernel) rfl
theorem kiX4_guest : Cond.instanceMethod yX4_guest ∈ mx_tbl := mx_in 884 (by decide +kernel) rfl
theorem ksX4_guest : Cond.selects yX4_guest.cls yX4_guest yX4_guest ∈ mx_tbl := mx_in 885 (by decide +kernel) rfl
theorem kyX4_guest : yX4_guest.cls ≠ "java/lang/invoke/MethodHandle" ∧ yX4_guest.cls ≠ "java/lang/invoke/VarHandle" ∧ (parseMethodDescriptor yX4_guest.desc).map (fun d => d.parameters.length) = some 4 := by decide +kernel
abbrev MX4_mean (E : mx_E) (K : Nat) (args : List Value) (σ : Mem) (post : Option Value → Mem → Prop) : Prop := MM E K yX4_mean cX4_mean 2 (some .long) args σ post
theorem kcX4_mean : Cond.code yX4_mean cX4_mean 2 (some .long) ∈ mx_tbl := mx_in 901 (by decide +kernel) rfl
theorem kiX4_mean : Cond.instanceMethod yX4_mean ∈ mx_tbl := mx_in 899 (by decide +kernel) rfl
theorem ksX4_mean : Cond.selects yX4_mean.cls yX4_mean yX4_mean ∈ mx_tbl := mx_in 900 (by decide +kernel) rfl
theorem kyX4_mean : yX4_mean.cls ≠ "java/lang/invoke/MethodHandle" ∧ yX4_mean.cls ≠ "java/lang/invoke/VarHandle" ∧ (parseMethodDescriptor yX4_mean.desc).map (fun d => d.parameters.length) = some 1 := by decide +kernel
abbrev MX4_whatIs (E : mx_E) (K : Nat) (args : List Value) (σ : Mem) (post : Option Value → Mem → Prop) : Prop := MM E K yX4_whatIs cX4_whatIs 7 (some .int) args σ post
theorem kcX4_whatIs : Cond.code yX4_whatIs cX4_whatIs 7 (some .int) ∈ mx_tbl := mx_in 908 (by decide +kernel) rfl
theorem kiX4_whatIs : Cond.instanceMethod yX4_whatIs ∈ mx_tbl := mx_in 906 (by decide +kernel) rfl
theorem ksX4_whatIs : Cond.selects yX4_whatIs.cls yX4_whatIs yX4_whatIs ∈ mx_tbl := mx_in 907 (by decide +kernel) rfl
theorem kyX4_whatIs : yX4_whatIs.cls ≠ "java/lang/invoke/MethodHandle" ∧ yX4_whatIs.cls ≠ "java/lang/invoke/VarHandle" ∧ (parseMethodDescriptor yX4_whatIs.desc).map (fun d => d.parameters.length) = some 2 := by decide +kernel
abbrev MX4_row (E : mx_E) (K : Nat) (args : List Value) (σ : Mem) (post : Option Value → Mem → Prop) : Prop := MM E K yX4_row cX4_row 3 (some .int) args σ post
theorem kcX4_row : Cond.code yX4_row cX4_row 3 (some .int) ∈ mx_tbl := mx_in 912 (by decide +kernel) rfl
theorem kiX4_row : Cond.instanceMethod yX4_row ∈ mx_tbl := mx_in 910 (by decide +kernel) rfl
theorem ksX4_row : Cond.selects yX4_row.cls yX4_row yX4_row ∈ mx_tbl := mx_in 911 (by decide +kernel) rfl
theorem kyX4_row : yX4_row.cls ≠ "java/lang/invoke/MethodHandle" ∧ yX4_row.cls ≠ "java/lang/invoke/VarHandle" ∧ (parseMethodDescriptor yX4_row.desc).map (fun d => d.parameters.length) = some 1 := by decide +kernel
abbrev MX4_judge (E : mx_E) (K : Nat) (args : List Value) (σ : Mem) (post : Option Value → Mem → Prop) : Prop := MM E K yX4_judge cX4_judge 3 (some .int) args σ post
theorem kcX4_judge : Cond.code yX4_judge cX4_judge 3 (some .int) ∈ mx_tbl := mx_in 916 (by decide +kernel) rfl
theorem kiX4_judge : Cond.instanceMethod yX4_judge ∈ mx_tbl := mx_in 914 (by decide +kernel) rfl
theorem ksX4_judge : Cond.selects yX4_judge.cls yX4_judge yX4_judge ∈ mx_tbl := mx_in 915 (by decide +kernel) rfl
theorem kyX4_judge : yX4_judge.cls ≠ "java/lang/invoke/MethodHandle" ∧ yX4_judge.cls ≠ "java/lang/invoke/VarHandle" ∧ (parseMethodDescriptor yX4_judge.desc).map (fun d => d.parameters.length) = some 0 := by decide +kernel
abbrev MX4_clear (E : mx_E) (K : Nat) (args : List Value) (σ : Mem) (post : Option Value → Mem → Prop) : Prop := MM E K yX4_clear cX4_clear 2 (some .int) args σ post
theorem kcX4_clear : Cond.code yX4_clear cX4_clear 2 (some .int) ∈ mx_tbl := mx_in 920 (by decide +kernel) rfl
theorem kiX4_clear : Cond.instanceMethod yX4_clear ∈ mx_tbl := mx_in 918 (by decide +kernel) rfl
theorem ksX4_clear : Cond.selects yX4_clear.cls yX4_clear yX4_clear ∈ mx_tbl := mx_in 919 (by decide +kernel) rfl
theorem kyX4_clear : yX4_clear.cls ≠ "java/lang/invoke/MethodHandle" ∧ yX4_clear.cls ≠ "java/lang/invoke/VarHandle" ∧ (parseMethodDescriptor yX4_clear.desc).map (fun d => d.parameters.length) = some 0 := by decide +kernel
abbrev MX4_drawn (E : mx_E) (K : Nat) (args : List Value) (σ : Mem) (post : Option Value → Mem → Prop) : Prop := MM E K yX4_drawn cX4_drawn 2 (some .int) args σ post
theorem kcX4_drawn : Cond.code yX4_drawn cX4_drawn 2 (some .int) ∈ mx_tbl := mx_in 928 (by decide +kernel) rfl
theorem kiX4_drawn : Cond.instanceMethod yX4_drawn ∈ mx_tbl := mx_in 927 (by decide +kernel) rfl
theorem ksX4_drawn : Cond.selects yX4_drawn.cls yX4_drawn yX4_drawn ∈ mx_tbl := mx_in 48 (by decide +kernel) rfl
theorem kyX4_drawn : yX4_drawn.cls ≠ "java/lang/invoke/MethodHandle" ∧ yX4_drawn.cls ≠ "java/lang/invoke/VarHandle" ∧ (parseMethodDescriptor yX4_drawn.desc).map (fun d => d.parameters.length) = some 1 := by decide +kernel
abbrev MX4_lots (E : mx_E) (K : Nat) (args : List Value) (σ : Mem) (post : Option Value → Mem → Prop) : Prop := MM E K yX4_lots cX4_lots 7 (some .int) args σ post
theorem kcX4_lots : Cond.code yX4_lots cX4_lots 7 (some .int) ∈ mx_tbl := mx_in 924 (by decide +kernel) rfl
theorem kiX4_lots : Cond.instanceMethod yX4_lots ∈ mx_tbl := mx_in 922 (by decide +kernel) rfl
theorem ksX4_lots : Cond.selects yX4_lots.cls yX4_lots yX4_lots ∈ mx_tbl := mx_in 923 (by decide +kernel) rfl
theorem kyX4_lots : yX4_lots.cls ≠ "java/lang/invoke/MethodHandle" ∧ yX4_lots.cls ≠ "java/lang/invoke/VarHandle" ∧ (parseMethodDescriptor yX4_lots.desc).map (fun d => d.parameters.length) = some 3 := by decide +kernel
abbrev MX4_image (E : mx_E) (K : Nat) (args : List Value) (σ : Mem) (post : Option Value → Mem → Prop) : Prop := MM E K yX4_image cX4_image 1 (some .int) args σ post
theorem kcX4_image : Cond.code yX4_image cX4_image 1 (some .int) ∈ mx_tbl := mx_in 935 (by decide +kernel) rfl
theorem kiX4_image : Cond.instanceMethod yX4_image ∈ mx_tbl := mx_in 933 (by decide +kernel) rfl
theorem ksX4_image : Cond.selects yX4_image.cls yX4_image yX4_image ∈ mx_tbl := mx_in 934 (by decide +kernel) rfl
theorem kyX4_image : yX4_image.cls ≠ "java/lang/invoke/MethodHandle" ∧ yX4_image.cls ≠ "java/lang/invoke/VarHandle" ∧ (parseMethodDescriptor yX4_image.desc).map (fun d => d.parameters.length) = some 0 := by decide +kernel
abbrev MX4_on (E : mx_E) (K : Nat) (args : List Value) (σ : Mem) (post : Option Value → Mem → Prop) : Prop := MM E K yX4_on cX4_on 1 (some .int) args σ post
theorem kcX4_on : Cond.code yX4_on cX4_on 1 (some .int) ∈ mx_tbl := mx_in 939 (by decide +kernel) rfl
theorem kiX4_on : Cond.instanceMethod yX4_on ∈ mx_tbl := mx_in 937 (by decide +kernel) rfl
theorem ksX4_on : Cond.selects yX4_on.cls yX4_on yX4_on ∈ mx_tbl := mx_in 938 (by decide +kernel) rfl
theorem kyX4_on : yX4_on.cls ≠ "java/lang/invoke/MethodHandle" ∧ yX4_on.cls ≠ "java/lang/invoke/VarHandle" ∧ (parseMethodDescriptor yX4_on.desc).map (fun d => d.parameters.length) = some 0 := by decide +kernel
abbrev MX4_count (E : mx_E) (K : Nat) (args : List Value) (σ : Mem) (post : Option Value → Mem → Prop) : Prop := MM E K yX4_count cX4_count 2 (some .int) args σ post
theorem kcX4_count : Cond.code yX4_count cX4_count 2 (some .int) ∈ mx_tbl := mx_in 943 (by decide +kernel) rfl
theorem kiX4_count : Cond.instanceMethod yX4_count ∈ mx_tbl := mx_in 941 (by decide +kernel) rfl
theorem ksX4_count : Cond.selects yX4_count.cls yX4_count yX4_count ∈ mx_tbl := mx_in 942 (by decide +kernel) rfl
theorem kyX4_count : yX4_count.cls ≠ "java/lang/invoke/MethodHandle" ∧ yX4_count.cls ≠ "java/lang/invoke/VarHandle" ∧ (parseMethodDescriptor yX4_count.desc).map (fun d => d.parameters.length) = some 1 := by decide +kernel
abbrev MJ6_bitCount_0f7a4 (E : mx_E) (K : Nat) (args : List Value) (σ : Mem) (post : Option Value → Mem → Prop) : Prop := MM E K yJ6_bitCount_0f7a4 cJ6_bitCount_0f7a4 1 (some .int) args σ post
theorem kcJ6_bitCount_0f7a4 : Cond.code yJ6_bitCount_0f7a4 cJ6_bitCount_0f7a4 1 (some .int) ∈ mx_tbl := mx_in 381 (by decide +kernel) rfl
theorem ktJ6_bitCount_0f7a4 : Cond.static yJ6_bitCount_0f7a4 ∈ mx_tbl := mx_in 380 (by decide +kernel) rfl
theorem kyJ6_bitCount_0f7a4 : yJ6_bitCount_0f7a4.cls ≠ "java/lang/invoke/MethodHandle" ∧ yJ6_bitCount_0f7a4.cls ≠ "java/lang/invoke/VarHandle" ∧ (parseMethodDescriptor yJ6_bitCount_0f7a4.desc).map (fun d => d.parameters.length) = some 1 := by decide +kernel
theorem knX0 : Cond.initialized RX0 ∈ mx_tbl := mx_in 52 (by decide +kernel) rfl
theorem knX1 : Cond.initialized RX1 ∈ mx_tbl := mx_in 53 (by decide +kernel) rfl
theorem knX2 : Cond.initialized RX2 ∈ mx_tbl := mx_in 51 (by decide +kernel) rfl
theorem knX3 : Cond.initialized RX3 ∈ mx_tbl := mx_in 50 (by decide +kernel) rfl
theorem knX4 : Cond.initialized RX4 ∈ mx_tbl := mx_in 55 (by decide +kernel) rfl
theorem knJ6 : Cond.initialized RJ6 ∈ mx_tbl := mx_in 56 (by decide +kernel) rfl
theorem knJ9 : Cond.initialized RJ9 ∈ mx_tbl := mx_in 54 (by decide +kernel) rfl
theorem knL : Cond.initialized RL ∈ mx_tbl := mx_in 49 (by decide +kernel) rfl
theorem kcm_min : Cond.code Lib.Math.min.name Lib.Math.min.code 2 (some .int) ∈ mx_tbl := mx_in 299 (by decide +kernel) rfl
theorem ktm_min : Cond.static Lib.Math.min.name ∈ mx_tbl := mx_in 298 (by decide +kernel) rfl
theorem kcm_max : Cond.code Lib.Math.max.name Lib.Math.max.code 2 (some .int) ∈ mx_tbl := mx_in 148 (by decide +kernel) rfl
theorem ktm_max : Cond.static Lib.Math.max.name ∈ mx_tbl := mx_in 147 (by decide +kernel) rfl
theorem knm : Cond.initialized "java/lang/Math" ∈ mx_tbl := mx_in 54 (by decide +kernel) rfl
theorem kx0 : ∀ w ∈ u_ws RX0 TX0 8, w ∈ mx_tbl := by decide +kernel
theorem kx1 : ∀ w ∈ u_ws RX1 TX1 2, w ∈ mx_tbl := by decide +kernel
theorem kx2 : ∀ w ∈ u_ws RX2 TX2 6, w ∈ mx_tbl := by decide +kernel
theorem kx3 : ∀ w ∈ u_ws RX3 TX3 8, w ∈ mx_tbl := by decide +kernel
theorem kx4 : ∀ w ∈ u_ws RX4 TX4 13, w ∈ mx_tbl := by decide +kernel
end
section
section SPEC
variable {E : mx_E} {K : Nat} {cc : ByteArray} {nL : Nat} {ret : Option FieldType} {pc n tgt : Nat} {lv lv' : List (Nat × Value)} {st : List Value} {σ : Mem} {post : Option Value → Mem → Prop}
theorem clX3_49 {k' : Nat} {a1 : Value} {rest : List Value} {R : Int32 → Mem → Prop} (hM : MX3_refuse E k' [mx_rf E 0, a1] σ (mx_i R)) (hk : k' + 1 ≤ K) (hsm : Nat.ble ((rest.map fun v => v.category).sum) 8 = true) (hd : mx_at cc pc (.invokevirtual 49) 3 n) (k : ∀ (r : Int32) (τ : Mem), R r τ → MX E K RX3 cc nL ret n lv (.int r :: rest) τ post) : MX E K RX3 cc nL ret pc lv (a1 :: mx_rf E 0 :: rest) σ post := x_callV hM hk (by decide) kcX3_refuse (mx_in (w := Cond.methodLink RX3 49 yX3_refuse) 187 (by decide +kernel) rfl) kiX3_refuse ksX3_refuse knX3 kyX3_refuse rfl (by decide) rfl (ci := 3) rfl rfl rfl (Nat.le_of_ble_eq_true hsm) hd (fun v τ h => by obtain ⟨r, rfl, h⟩ := h; exact k r τ h)
theorem clX3_53 {k' : Nat} {id : Nat} {rest : List Value} {R : Int32 → Mem → Prop} (hM : MX1_isFull E k' [mx_rf E id] σ (mx_i R)) (hk : k' + 1 ≤ K) (h1 : 28 ≤ id) (h2 : id < 31) (hsm : Nat.ble ((rest.map fun v => v.category).sum) 8 = true) (hd : mx_at cc pc (.invokevirtual 53) 3 n) (k : ∀ (r : Int32) (τ : Mem), R r τ → MX E K RX3 cc nL ret n lv (.int r :: rest) τ post) : MX E K RX3 cc nL ret pc lv (mx_rf E id :: rest) σ post := x_callV hM hk (by decide) kcX1_isFull (mx_in (w := Cond.methodLink RX3 53 yX1_isFull) 191 (by decide +kernel) rfl) kiX1_isFull ksX1_isFull knX1 kyX1_isFull rfl (by omega) (mx_cR h1 h2) (ci := 1) rfl rfl rfl (Nat.le_of_ble_eq_true hsm) hd (fun v τ h => by obtain ⟨r, rfl, h⟩ := h; exact k r τ h)
theorem clX3_57 {k' : Nat} {id : Nat} {a1 : Value} {rest : List Value} {R : Mem → Prop} (hM : MX1_add E k' [mx_rf E id, a1] σ (mx_v R)) (hk : k' + 1 ≤ K) (h1 : 28 ≤ id) (h2 : id < 31) (hsm : Nat.ble ((rest.map fun v => v.category).sum) 8 = true) (hd : mx_at cc pc (.invokevirtual 57) 3 n) (k : ∀ (τ : Mem), R τ → MX E K RX3 cc nL ret n lv rest τ post) : MX E K RX3 cc nL ret pc lv (a1 :: mx_rf E id :: rest) σ post := x_callV hM hk (by decide) kcX1_add (mx_in (w := Cond.methodLink RX3 57 yX1_add) 195 (by decide +kernel) rfl) kiX1_add ksX1_add knX1 kyX1_add rfl (by omega) (mx_cR h1 h2) (ci := 1) rfl rfl rfl (Nat.le_of_ble_eq_true hsm) hd (fun v τ h => by obtain ⟨rfl, h⟩ := h; exact k τ h)
theorem clX3_63 {k' : Nat} {rest : List Value} {R : Int32 → Mem → Prop} (hM : MX3_brokenPlace E k' [mx_rf E 0] σ (mx_i R)) (hk : k' + 1 ≤ K) (hsm : Nat.ble ((rest.map fun v => v.category).sum) 8 = true) (hd : mx_at cc pc (.invokevirtual 63) 3 n) (k : ∀ (r : Int32) (τ : Mem), R r τ → MX E K RX3 cc nL ret n lv (.int r :: rest) τ post) : MX E K RX3 cc nL ret pc lv (mx_rf E 0 :: rest) σ post := x_callV hM hk (by decide) kcX3_brokenPlace (mx_in (w := Cond.methodLink RX3 63 yX3_brokenPlace) 203 (by decide +kernel) rfl) kiX3_brokenPlace ksX3_brokenPlace knX3 kyX3_brokenPlace rfl (by decide) rfl (ci := 3) rfl rfl rfl (Nat.le_of_ble_eq_true hsm) hd (fun v τ h => by obtain ⟨r, rfl, h⟩ := h; exact k r τ h)
theorem clX3_67 {k' : Nat} {rest : List Value} {R : Int32 → Mem → Prop} (hM : MX3_readStatements E k' [mx_rf E 0] σ (mx_i R)) (hk : k' + 1 ≤ K) (hsm : Nat.ble ((rest.map fun v => v.category).sum) 8 = true) (hd : mx_at cc pc (.invokevirtual 67) 3 n) (k : ∀ (r : Int32) (τ : Mem), R r τ → MX E K RX3 cc nL ret n lv (.int r :: rest) τ post) : MX E K RX3 cc nL ret pc lv (mx_rf E 0 :: rest) σ post := x_callV hM hk (by decide) kcX3_readStatements (mx_in (w := Cond.methodLink RX3 67 yX3_readStatements) 220 (by decide +kernel) rfl) kiX3_readStatements ksX3_readStatements knX3 kyX3_readStatements rfl (by decide) rfl (ci := 3) rfl rfl rfl (Nat.le_of_ble_eq_true hsm) hd (fun v τ h => by obtain ⟨r, rfl, h⟩ := h; exact k r τ h)
theorem clX3_70 {k' : Nat} {id : Nat} {rest : List Value} {R : Mem → Prop} (hM : MX1_drop E k' [mx_rf E id] σ (mx_v R)) (hk : k' + 1 ≤ K) (h1 : 28 ≤ id) (h2 : id < 31) (hsm : Nat.ble ((rest.map fun v => v.category).sum) 8 = true) (hd : mx_at cc pc (.invokevirtual 70) 3 n) (k : ∀ (τ : Mem), R τ → MX E K RX3 cc nL ret n lv rest τ post) : MX E K RX3 cc nL ret pc lv (mx_rf E id :: rest) σ post := x_callV hM hk (by decide) kcX1_drop (mx_in (w := Cond.methodLink RX3 70 yX1_drop) 329 (by decide +kernel) rfl) kiX1_drop ksX1_drop knX1 kyX1_drop rfl (by omega) (mx_cR h1 h2) (ci := 1) rfl rfl rfl (Nat.le_of_ble_eq_true hsm) hd (fun v τ h => by obtain ⟨rfl, h⟩ := h; exact k τ h)
theorem clX3_73 {k' : Nat} {id : Nat} {a1 : Value} {rest : List Value} {R : Mem → Prop} (hM : MX2_become E k' [mx_rf E id, a1] σ (mx_v R)) (hk : k' + 1 ≤ K) (h1 : 1 ≤ id) (h2 : id < 4) (hsm : Nat.ble ((rest.map fun v => v.category).sum) 8 = true) (hd : mx_at cc pc (.invokevirtual 73) 3 n) (k : ∀ (τ : Mem), R τ → MX E K RX3 cc nL ret n lv rest τ post) : MX E K RX3 cc nL ret pc lv (a1 :: mx_rf E id :: rest) σ post := x_callV hM hk (by decide) kcX2_become (mx_in (w := Cond.methodLink RX3 73 yX2_become) 224 (by decide +kernel) rfl) kiX2_become ksX2_become knX2 kyX2_become rfl (by omega) (mx_cT h1 h2) (ci := 2) rfl rfl rfl (Nat.le_of_ble_eq_true hsm) hd (fun v τ h => by obtain ⟨rfl, h⟩ := h; exact k τ h)
theorem clX3_77 {k' : Nat} {id : Nat} {a1 : Value} {rest : List Value} {R : Int32 → Mem → Prop} (hM : MX1_at E k' [mx_rf E id, a1] σ (mx_i R)) (hk : k' + 1 ≤ K) (h1 : 28 ≤ id) (h2 : id < 31) (hsm : Nat.ble ((rest.map fun v => v.category).sum) 8 = true) (hd : mx_at cc pc (.invokevirtual 77) 3 n) (k : ∀ (r : Int32) (τ : Mem), R r τ → MX E K RX3 cc nL ret n lv (.int r :: rest) τ post) : MX E K RX3 cc nL ret pc lv (a1 :: mx_rf E id :: rest) σ post := x_callV hM hk (by decide) kcX1_at (mx_in (w := Cond.methodLink RX3 77 yX1_at) 207 (by decide +kernel) rfl) kiX1_at ksX1_at knX1 kyX1_at rfl (by omega) (mx_cR h1 h2) (ci := 1) rfl rfl rfl (Nat.le_of_ble_eq_true hsm) hd (fun v τ h => by obtain ⟨r, rfl, h⟩ := h; exact k r τ h)
theorem clX3_80 {k' : Nat} {a1 : Value} {rest : List Value} {R : Int32 → Mem → Prop} (hM : MX3_comes E k' [mx_rf E 0, a1] σ (mx_i R)) (hk : k' + 1 ≤ K) (hsm : Nat.ble ((rest.map fun v => v.category).sum) 8 = true) (hd : mx_at cc pc (.invokevirtual 80) 3 n) (k : ∀ (r : Int32) (τ : Mem), R r τ → MX E K RX3 cc nL ret n lv (.int r :: rest) τ post) : MX E K RX3 cc nL ret pc lv (a1 :: mx_rf E 0 :: rest) σ post := x_callV hM hk (by decide) kcX3_comes (mx_in (w := Cond.methodLink RX3 80 yX3_comes) 236 (by decide +kernel) rfl) kiX3_comes ksX3_comes knX3 kyX3_comes rfl (by decide) rfl (ci := 3) rfl rfl rfl (Nat.le_of_ble_eq_true hsm) hd (fun v τ h => by obtain ⟨r, rfl, h⟩ := h; exact k r τ h)
theorem clX3_84 {k' : Nat} {a1 a2 : Value} {rest : List Value} {R : Int32 → Mem → Prop} (hM : MX3_waitsBehind E k' [a1, a2] σ (mx_i R)) (hk : k' + 1 ≤ K) (hsm : Nat.ble ((rest.map fun v => v.category).sum) 8 = true) (hd : mx_at cc pc (.invokestatic 84) 3 n) (k : ∀ (r : Int32) (τ : Mem), R r τ → MX E K RX3 cc nL ret n lv (.int r :: rest) τ post) : MX E K RX3 cc nL ret pc lv (a2 :: a1 :: rest) σ post := x_callS hM hk (by decide) kcX3_waitsBehind (mx_in (w := Cond.methodLink RX3 84 yX3_waitsBehind) 211 (by decide +kernel) rfl) ktX3_waitsBehind knX3 kyX3_waitsBehind rfl rfl (Nat.le_of_ble_eq_true hsm) hd (fun v τ h => by obtain ⟨r, rfl, h⟩ := h; exact k r τ h)
theorem clX3_88 {k' : Nat} {a1 : Value} {rest : List Value} {R : Int32 → Mem → Prop} (hM : MX3_waitsBehindFirst E k' [a1] σ (mx_i R)) (hk : k' + 1 ≤ K) (hsm : Nat.ble ((rest.map fun v => v.category).sum) 8 = true) (hd : mx_at cc pc (.invokestatic 88) 3 n) (k : ∀ (r : Int32) (τ : Mem), R r τ → MX E K RX3 cc nL ret n lv (.int r :: rest) τ post) : MX E K RX3 cc nL ret pc lv (a1 :: rest) σ post := x_callS hM hk (by decide) kcX3_waitsBehindFirst (mx_in (w := Cond.methodLink RX3 88 yX3_waitsBehindFirst) 214 (by decide +kernel) rfl) ktX3_waitsBehindFirst knX3 kyX3_waitsBehindFirst rfl rfl (Nat.le_of_ble_eq_true hsm) hd (fun v τ h => by obtain ⟨r, rfl, h⟩ := h; exact k r τ h)
theorem clX3_91 {k' : Nat} {a1 : Value} {rest : List Value} {R : Int32 → Mem → Prop} (hM : MX3_kindOf E k' [a1] σ (mx_i R)) (hk : k' + 1 ≤ K) (hsm : Nat.ble ((rest.map fun v => v.category).sum) 8 = true) (hd : mx_at cc pc (.invokestatic 91) 3 n) (k : ∀ (r : Int32) (τ : Mem), R r τ → MX E K RX3 cc nL ret n lv (.int r :: rest) τ post) : MX E K RX3 cc nL ret pc lv (a1 :: rest) σ post := x_callS hM hk (by decide) kcX3_kindOf (mx_in (w := Cond.methodLink RX3 91 yX3_kindOf) 217 (by decide +kernel) rfl) ktX3_kindOf knX3 kyX3_kindOf rfl rfl (Nat.le_of_ble_eq_true hsm) hd (fun v τ h => by obtain ⟨r, rfl, h⟩ := h; exact k r τ h)
theorem clX3_94 {k' : Nat} {a1 : Value} {rest : List Value} {R : Int32 → Mem → Prop} (hM : MX3_comesHouse E k' [mx_rf E 0, a1] σ (mx_i R)) (hk : k' + 1 ≤ K) (hsm : Nat.ble ((rest.map fun v => v.category).sum) 8 = true) (hd : mx_at cc pc (.invokevirtual 94) 3 n) (k : ∀ (r : Int32) (τ : Mem), R r τ → MX E K RX3 cc nL ret n lv (.int r :: rest) τ post) : MX E K RX3 cc nL ret pc lv (a1 :: mx_rf E 0 :: rest) σ post := x_callV hM hk (by decide) kcX3_comesHouse (mx_in (w := Cond.methodLink RX3 94 yX3_comesHouse) 240 (by decide +kernel) rfl) kiX3_comesHouse ksX3_comesHouse knX3 kyX3_comesHouse rfl (by decide) rfl (ci := 3) rfl rfl rfl (Nat.le_of_ble_eq_true hsm) hd (fun v τ h => by obtain ⟨r, rfl, h⟩ := h; exact k r τ h)
theorem clX3_97 {k' : Nat} {a1 : Value} {rest : List Value} {R : Int32 → Mem → Prop} (hM : MX3_comesPeople E k' [mx_rf E 0, a1] σ (mx_i R)) (hk : k' + 1 ≤ K) (hsm : Nat.ble ((rest.map fun v => v.category).sum) 8 = true) (hd : mx_at cc pc (.invokevirtual 97) 3 n) (k : ∀ (r : Int32) (τ : Mem), R r τ → MX E K RX3 cc nL ret n lv (.int r :: rest) τ post) : MX E K RX3 cc nL ret pc lv (a1 :: mx_rf E 0 :: rest) σ post := x_callV hM hk (by decide) kcX3_comesPeople (mx_in (w := Cond.methodLink RX3 97 yX3_comesPeople) 252 (by decide +kernel) rfl) kiX3_comesPeople ksX3_comesPeople knX3 kyX3_comesPeople rfl (by decide) rfl (ci := 3) rfl rfl rfl (Nat.le_of_ble_eq_true hsm) hd (fun v τ h => by obtain ⟨r, rfl, h⟩ := h; exact k r τ h)
theorem clX3_100 {k' : Nat} {a1 : Value} {rest : List Value} {R : Int32 → Mem → Prop} (hM : MX3_comesDust E k' [mx_rf E 0, a1] σ (mx_i R)) (hk : k' + 1 ≤ K) (hsm : Nat.ble ((rest.map fun v => v.category).sum) 8 = true) (hd : mx_at cc pc (.invokevirtual 100) 3 n) (k : ∀ (r : Int32) (τ : Mem), R r τ → MX E K RX3 cc nL ret n lv (.int r :: rest) τ post) : MX E K RX3 cc nL ret pc lv (a1 :: mx_rf E 0 :: rest) σ post := x_callV hM hk (by decide) kcX3_comesDust (mx_in (w := Cond.methodLink RX3 100 yX3_comesDust) 261 (by decide +kernel) rfl) kiX3_comesDust ksX3_comesDust knX3 kyX3_comesDust rfl (by decide) rfl (ci := 3) rfl rfl rfl (Nat.le_of_ble_eq_true hsm) hd (fun v τ h => by obtain ⟨r, rfl, h⟩ := h; exact k r τ h)
theorem clX3_103 {k' : Nat} {a1 : Value} {rest : List Value} {R : Int32 → Mem → Prop} (hM : MX3_comesTurned E k' [mx_rf E 0, a1] σ (mx_i R)) (hk : k' + 1 ≤ K) (hsm : Nat.ble ((rest.map fun v => v.category).sum) 8 = true) (hd : mx_at cc pc (.invokevirtual 103) 3 n) (k : ∀ (r : Int32) (τ : Mem), R r τ → MX E K RX3 cc nL ret n lv (.int r :: rest) τ post) : MX E K RX3 cc nL ret pc lv (a1 :: mx_rf E 0 :: rest) σ post := x_callV hM hk (by decide) kcX3_comesTurned (mx_in (w := Cond.methodLink RX3 103 yX3_comesTurned) 265 (by decide +kernel) rfl) kiX3_comesTurned ksX3_comesTurned knX3 kyX3_comesTurned rfl (by decide) rfl (ci := 3) rfl rfl rfl (Nat.le_of_ble_eq_true hsm) hd (fun v τ h => by obtain ⟨r, rfl, h⟩ := h; exact k r τ h)
theorem clX3_106 {k' : Nat} {a1 : Value} {rest : List Value} {R : Int32 → Mem → Prop} (hM : MX3_comesInspector E k' [mx_rf E 0, a1] σ (mx_i R)) (hk : k' + 1 ≤ K) (hsm : Nat.ble ((rest.map fun v => v.category).sum) 8 = true) (hd : mx_at cc pc (.invokevirtual 106) 3 n) (k : ∀ (r : Int32) (τ : Mem), R r τ → MX E K RX3 cc nL ret n lv (.int r :: rest) τ post) : MX E K RX3 cc nL ret pc lv (a1 :: mx_rf E 0 :: rest) σ post := x_callV hM hk (by decide) kcX3_comesInspector (mx_in (w := Cond.methodLink RX3 106 yX3_comesInspector) 269 (by decide +kernel) rfl) kiX3_comesInspector ksX3_comesInspector knX3 kyX3_comesInspector rfl (by decide) rfl (ci := 3) rfl rfl rfl (Nat.le_of_ble_eq_true hsm) hd (fun v τ h => by obtain ⟨r, rfl, h⟩ := h; exact k r τ h)
theorem clX3_109 {k' : Nat} {a1 a2 : Value} {rest : List Value} {R : Int32 → Mem → Prop} (hM : MX3_number E k' [mx_rf E 0, a1, a2] σ (mx_i R)) (hk : k' + 1 ≤ K) (hsm : Nat.ble ((rest.map fun v => v.category).sum) 8 = true) (hd : mx_at cc pc (.invokevirtual 109) 3 n) (k : ∀ (r : Int32) (τ : Mem), R r τ → MX E K RX3 cc nL ret n lv (.int r :: rest) τ post) : MX E K RX3 cc nL ret pc lv (a2 :: a1 :: mx_rf E 0 :: rest) σ post := x_callV hM hk (by decide) kcX3_number (mx_in (w := Cond.methodLink RX3 109 yX3_number) 244 (by decide +kernel) rfl) kiX3_number ksX3_number knX3 kyX3_number rfl (by decide) rfl (ci := 3) rfl rfl rfl (Nat.le_of_ble_eq_true hsm) hd (fun v τ h => by obtain ⟨r, rfl, h⟩ := h; exact k r τ h)
theorem clX3_112 {k' : Nat} {a1 : Value} {rest : List Value} {R : Int32 → Mem → Prop} (hM : MX3_comesWeeks E k' [mx_rf E 0, a1] σ (mx_i R)) (hk : k' + 1 ≤ K) (hsm : Nat.ble ((rest.map fun v => v.category).sum) 8 = true) (hd : mx_at cc pc (.invokevirtual 112) 3 n) (k : ∀ (r : Int32) (τ : Mem), R r τ → MX E K RX3 cc nL ret n lv (.int r :: rest) τ post) : MX E K RX3 cc nL ret pc lv (a1 :: mx_rf E 0 :: rest) σ post := x_callV hM hk (by decide) kcX3_comesWeeks (mx_in (w := Cond.methodLink RX3 112 yX3_comesWeeks) 273 (by decide +kernel) rfl) kiX3_comesWeeks ksX3_comesWeeks knX3 kyX3_comesWeeks rfl (by decide) rfl (ci := 3) rfl rfl rfl (Nat.le_of_ble_eq_true hsm) hd (fun v τ h => by obtain ⟨r, rfl, h⟩ := h; exact k r τ h)
theorem clX3_118 {k' : Nat} {id : Nat} {a1 a2 a3 a4 : Value} {rest : List Value} {R : Mem → Prop} (hM : MX2_build E k' [mx_rf E id, a1, a2, a3, a4] σ (mx_v R)) (hk : k' + 1 ≤ K) (h1 : 1 ≤ id) (h2 : id < 4) (hsm : Nat.ble ((rest.map fun v => v.category).sum) 8 = true) (hd : mx_at cc pc (.invokevirtual 118) 3 n) (k : ∀ (τ : Mem), R τ → MX E K RX3 cc nL ret n lv rest τ post) : MX E K RX3 cc nL ret pc lv (a4 :: a3 :: a2 :: a1 :: mx_rf E id :: rest) σ post := x_callV hM hk (by decide) kcX2_build (mx_in (w := Cond.methodLink RX3 118 yX2_build) 248 (by decide +kernel) rfl) kiX2_build ksX2_build knX2 kyX2_build rfl (by omega) (mx_cT h1 h2) (ci := 2) rfl rfl rfl (Nat.le_of_ble_eq_true hsm) hd (fun v τ h => by obtain ⟨rfl, h⟩ := h; exact k τ h)
theorem clX3_122 {k' : Nat} {id : Nat} {a1 : Value} {rest : List Value} {R : Int32 → Mem → Prop} (hM : MX2_has E k' [mx_rf E id, a1] σ (mx_i R)) (hk : k' + 1 ≤ K) (h1 : 1 ≤ id) (h2 : id < 4) (hsm : Nat.ble ((rest.map fun v => v.category).sum) 8 = true) (hd : mx_at cc pc (.invokevirtual 122) 3 n) (k : ∀ (r : Int32) (τ : Mem), R r τ → MX E K RX3 cc nL ret n lv (.int r :: rest) τ post) : MX E K RX3 cc nL ret pc lv (a1 :: mx_rf E id :: rest) σ post := x_callV hM hk (by decide) kcX2_has (mx_in (w := Cond.methodLink RX3 122 yX2_has) 256 (by decide +kernel) rfl) kiX2_has ksX2_has knX2 kyX2_has rfl (by omega) (mx_cT h1 h2) (ci := 2) rfl rfl rfl (Nat.le_of_ble_eq_true hsm) hd (fun v τ h => by obtain ⟨r, rfl, h⟩ := h; exact k r τ h)
theorem clX3_125 {k' : Nat} {id : Nat} {a1 : Value} {rest : List Value} {R : Nat → Mem → Prop} (hM : MX2_at E k' [mx_rf E id, a1] σ (mx_r E R)) (hk : k' + 1 ≤ K) (h1 : 1 ≤ id) (h2 : id < 4) (hsm : Nat.ble ((rest.map fun v => v.category).sum) 8 = true) (hd : mx_at cc pc (.invokevirtual 125) 3 n) (k : ∀ (r : Nat) (τ : Mem), R r τ → MX E K RX3 cc nL ret n lv (mx_rf E r :: rest) τ post) : MX E K RX3 cc nL ret pc lv (a1 :: mx_rf E id :: rest) σ post := x_callV hM hk (by decide) kcX2_at (mx_in (w := Cond.methodLink RX3 125 yX2_at) 260 (by decide +kernel) rfl) kiX2_at ksX2_at knX2 kyX2_at rfl (by omega) (mx_cT h1 h2) (ci := 2) rfl rfl rfl (Nat.le_of_ble_eq_true hsm) hd (fun v τ h => by obtain ⟨r, rfl, h⟩ := h; exact k r τ h)
theorem clX3_145 {k' : Nat} {id : Nat} {a1 : Value} {rest : List Value} {R : Mem → Prop} (hM : MX2_pass E k' [mx_rf E id, a1] σ (mx_v R)) (hk : k' + 1 ≤ K) (h1 : 1 ≤ id) (h2 : id < 4) (hsm : Nat.ble ((rest.map fun v => v.category).sum) 8 = true) (hd : mx_at cc pc (.invokevirtual 145) 3 n) (k : ∀ (τ : Mem), R τ → MX E K RX3 cc nL ret n lv rest τ post) : MX E K RX3 cc nL ret pc lv (a1 :: mx_rf E id :: rest) σ post := x_callV hM hk (by decide) kcX2_pass (mx_in (w := Cond.methodLink RX3 145 yX2_pass) 277 (by decide +kernel) rfl) kiX2_pass ksX2_pass knX2 kyX2_pass rfl (by omega) (mx_cT h1 h2) (ci := 2) rfl rfl rfl (Nat.le_of_ble_eq_true hsm) hd (fun v τ h => by obtain ⟨rfl, h⟩ := h; exact k τ h)
theorem clX3_160 {k' : Nat} {id : Nat} {rest : List Value} {R : Int32 → Mem → Prop} (hM : MX0_crowd E k' [mx_rf E id] σ (mx_i R)) (hk : k' + 1 ≤ K) (h1 : 7 ≤ id) (h2 : id < 28) (hsm : Nat.ble ((rest.map fun v => v.category).sum) 8 = true) (hd : mx_at cc pc (.invokevirtual 160) 3 n) (k : ∀ (r : Int32) (τ : Mem), R r τ → MX E K RX3 cc nL ret n lv (.int r :: rest) τ post) : MX E K RX3 cc nL ret pc lv (mx_rf E id :: rest) σ post := x_callV hM hk (by decide) kcX0_crowd (mx_in (w := Cond.methodLink RX3 160 yX0_crowd) 337 (by decide +kernel) rfl) kiX0_crowd ksX0_crowd knX0 kyX0_crowd rfl (by omega) (mx_cH h1 h2) (ci := 0) rfl rfl rfl (Nat.le_of_ble_eq_true hsm) hd (fun v τ h => by obtain ⟨r, rfl, h⟩ := h; exact k r τ h)
theorem clX3_163 {k' : Nat} {id : Nat} {rest : List Value} {R : Int32 → Mem → Prop} (hM : MX0_childIsFound E k' [mx_rf E id] σ (mx_i R)) (hk : k' + 1 ≤ K) (h1 : 7 ≤ id) (h2 : id < 28) (hsm : Nat.ble ((rest.map fun v => v.category).sum) 8 = true) (hd : mx_at cc pc (.invokevirtual 163) 3 n) (k : ∀ (r : Int32) (τ : Mem), R r τ → MX E K RX3 cc nL ret n lv (.int r :: rest) τ post) : MX E K RX3 cc nL ret pc lv (mx_rf E id :: rest) σ post := x_callV hM hk (by decide) kcX0_childIsFound (mx_in (w := Cond.methodLink RX3 163 yX0_childIsFound) 338 (by decide +kernel) rfl) kiX0_childIsFound ksX0_childIsFound knX0 kyX0_childIsFound rfl (by omega) (mx_cH h1 h2) (ci := 0) rfl rfl rfl (Nat.le_of_ble_eq_true hsm) hd (fun v τ h => by obtain ⟨r, rfl, h⟩ := h; exact k r τ h)
theorem clX3_166 {k' : Nat} {id : Nat} {rest : List Value} {R : Int32 → Mem → Prop} (hM : MX2_howManyKept E k' [mx_rf E id] σ (mx_i R)) (hk : k' + 1 ≤ K) (h1 : 1 ≤ id) (h2 : id < 4) (hsm : Nat.ble ((rest.map fun v => v.category).sum) 8 = true) (hd : mx_at cc pc (.invokevirtual 166) 3 n) (k : ∀ (r : Int32) (τ : Mem), R r τ → MX E K RX3 cc nL ret n lv (.int r :: rest) τ post) : MX E K RX3 cc nL ret pc lv (mx_rf E id :: rest) σ post := x_callV hM hk (by decide) kcX2_howManyKept (mx_in (w := Cond.methodLink RX3 166 yX2_howManyKept) 371 (by decide +kernel) rfl) kiX2_howManyKept ksX2_howManyKept knX2 kyX2_howManyKept rfl (by omega) (mx_cT h1 h2) (ci := 2) rfl rfl rfl (Nat.le_of_ble_eq_true hsm) hd (fun v τ h => by obtain ⟨r, rfl, h⟩ := h; exact k r τ h)
theorem clX3_169 {k' : Nat} {a1 a2 a3 : Value} {rest : List Value} {R : Int32 → Mem → Prop} (hM : MX3_outOf E k' [a1, a2, a3] σ (mx_i R)) (hk : k' + 1 ≤ K) (hsm : Nat.ble ((rest.map fun v => v.category).sum) 8 = true) (hd : mx_at cc pc (.invokestatic 169) 3 n) (k : ∀ (r : Int32) (τ : Mem), R r τ → MX E K RX3 cc nL ret n lv (.int r :: rest) τ post) : MX E K RX3 cc nL ret pc lv (a3 :: a2 :: a1 :: rest) σ post := x_callS hM hk (by decide) kcX3_outOf (mx_in (w := Cond.methodLink RX3 169 yX3_outOf) 389 (by decide +kernel) rfl) ktX3_outOf knX3 kyX3_outOf rfl rfl (Nat.le_of_ble_eq_true hsm) hd (fun v τ h => by obtain ⟨r, rfl, h⟩ := h; exact k r τ h)
theorem clX3_173 {k' : Nat} {id : Nat} {rest : List Value} {R : Int32 → Mem → Prop} (hM : MX2_keptBits E k' [mx_rf E id] σ (mx_i R)) (hk : k' + 1 ≤ K) (h1 : 1 ≤ id) (h2 : id < 4) (hsm : Nat.ble ((rest.map fun v => v.category).sum) 8 = true) (hd : mx_at cc pc (.invokevirtual 173) 3 n) (k : ∀ (r : Int32) (τ : Mem), R r τ → MX E K RX3 cc nL ret n lv (.int r :: rest) τ post) : MX E K RX3 cc nL ret pc lv (mx_rf E id :: rest) σ post := x_callV hM hk (by decide) kcX2_keptBits (mx_in (w := Cond.methodLink RX3 173 yX2_keptBits) 396 (by decide +kernel) rfl) kiX2_keptBits ksX2_keptBits knX2 kyX2_keptBits rfl (by omega) (mx_cT h1 h2) (ci := 2) rfl rfl rfl (Nat.le_of_ble_eq_true hsm) hd (fun v τ h => by obtain ⟨r, rfl, h⟩ := h; exact k r τ h)
theorem clX3_176 {k' : Nat} {rest : List Value} {R : Int32 → Mem → Prop} (hM : MX3_firstLost E k' [mx_rf E 0] σ (mx_i R)) (hk : k' + 1 ≤ K) (hsm : Nat.ble ((rest.map fun v => v.category).sum) 8 = true) (hd : mx_at cc pc (.invokevirtual 176) 3 n) (k : ∀ (r : Int32) (τ : Mem), R r τ → MX E K RX3 cc nL ret n lv (.int r :: rest) τ post) : MX E K RX3 cc nL ret pc lv (mx_rf E 0 :: rest) σ post := x_callV hM hk (by decide) kcX3_firstLost (mx_in (w := Cond.methodLink RX3 176 yX3_firstLost) 401 (by decide +kernel) rfl) kiX3_firstLost ksX3_firstLost knX3 kyX3_firstLost rfl (by decide) rfl (ci := 3) rfl rfl rfl (Nat.le_of_ble_eq_true hsm) hd (fun v τ h => by obtain ⟨r, rfl, h⟩ := h; exact k r τ h)
theorem clX3_179 {k' : Nat} {a1 : Value} {rest : List Value} {R : Int32 → Mem → Prop} (hM : MX3_weeksTillLost E k' [mx_rf E 0, a1] σ (mx_i R)) (hk : k' + 1 ≤ K) (hsm : Nat.ble ((rest.map fun v => v.category).sum) 8 = true) (hd : mx_at cc pc (.invokevirtual 179) 3 n) (k : ∀ (r : Int32) (τ : Mem), R r τ → MX E K RX3 cc nL ret n lv (.int r :: rest) τ post) : MX E K RX3 cc nL ret pc lv (a1 :: mx_rf E 0 :: rest) σ post := x_callV hM hk (by decide) kcX3_weeksTillLost (mx_in (w := Cond.methodLink RX3 179 yX3_weeksTillLost) 405 (by decide +kernel) rfl) kiX3_weeksTillLost ksX3_weeksTillLost knX3 kyX3_weeksTillLost rfl (by decide) rfl (ci := 3) rfl rfl rfl (Nat.le_of_ble_eq_true hsm) hd (fun v τ h => by obtain ⟨r, rfl, h⟩ := h; exact k r τ h)
theorem clX3_182 {k' : Nat} {id : Nat} {rest : List Value} {R : Int32 → Mem → Prop} (hM : MX2_burnsInAWeek E k' [mx_rf E id] σ (mx_i R)) (hk : k' + 1 ≤ K) (h1 : 1 ≤ id) (h2 : id < 4) (hsm : Nat.ble ((rest.map fun v => v.category).sum) 8 = true) (hd : mx_at cc pc (.invokevirtual 182) 3 n) (k : ∀ (r : Int32) (τ : Mem), R r τ → MX E K RX3 cc nL ret n lv (.int r :: rest) τ post) : MX E K RX3 cc nL ret pc lv (mx_rf E id :: rest) σ post := x_callV hM hk (by decide) kcX2_burnsInAWeek (mx_in (w := Cond.methodLink RX3 182 yX2_burnsInAWeek) 413 (by decide +kernel) rfl) kiX2_burnsInAWeek ksX2_burnsInAWeek knX2 kyX2_burnsInAWeek rfl (by omega) (mx_cT h1 h2) (ci := 2) rfl rfl rfl (Nat.le_of_ble_eq_true hsm) hd (fun v τ h => by obtain ⟨r, rfl, h⟩ := h; exact k r τ h)
theorem clX3_185 {k' : Nat} {a1 a2 a3 : Value} {rest : List Value} {R : Int32 → Mem → Prop} (hM : MX3_keptIfHalfMoves E k' [mx_rf E 0, a1, a2, a3] σ (mx_i R)) (hk : k' + 1 ≤ K) (hsm : Nat.ble ((rest.map fun v => v.category).sum) 8 = true) (hd : mx_at cc pc (.invokevirtual 185) 3 n) (k : ∀ (r : Int32) (τ : Mem), R r τ → MX E K RX3 cc nL ret n lv (.int r :: rest) τ post) : MX E K RX3 cc nL ret pc lv (a3 :: a2 :: a1 :: mx_rf E 0 :: rest) σ post := x_callV hM hk (by decide) kcX3_keptIfHalfMoves (mx_in (w := Cond.methodLink RX3 185 yX3_keptIfHalfMoves) 426 (by decide +kernel) rfl) kiX3_keptIfHalfMoves ksX3_keptIfHalfMoves knX3 kyX3_keptIfHalfMoves rfl (by decide) rfl (ci := 3) rfl rfl rfl (Nat.le_of_ble_eq_true hsm) hd (fun v τ h => by obtain ⟨r, rfl, h⟩ := h; exact k r τ h)
theorem clX3_188 {x y : Int32} (hk : 1 ≤ K) (hsm : Nat.ble ((st.map fun v => v.category).sum) 8 = true) (hd : mx_at cc pc (.invokestatic 188) 3 n) (k : MX E K RX3 cc nL ret n lv (.int (if y < x then y else x) :: st) σ post) : MX E K RX3 cc nL ret pc lv (.int y :: .int x :: st) σ post := x_min (mx_in 430 (by decide +kernel) rfl) ktm_min knm kcm_min hk (by have := Nat.le_of_ble_eq_true hsm; omega) hd k
theorem clX3_193 {k' : Nat} {a1 : Value} {rest : List Value} {R : Int32 → Mem → Prop} (hM : MJ6_bitCount_0f7a4 E k' [a1] σ (mx_i R)) (hk : k' + 1 ≤ K) (hsm : Nat.ble ((rest.map fun v => v.category).sum) 8 = true) (hd : mx_at cc pc (.invokestatic 193) 3 n) (k : ∀ (r : Int32) (τ : Mem), R r τ → MX E K RX3 cc nL ret n lv (.int r :: rest) τ post) : MX E K RX3 cc nL ret pc lv (a1 :: rest) σ post := x_callS hM hk (by decide) kcJ6_bitCount_0f7a4 (mx_in (w := Cond.methodLink RX3 193 yJ6_bitCount_0f7a4) 435 (by decide +kernel) rfl) ktJ6_bitCount_0f7a4 knJ6 kyJ6_bitCount_0f7a4 rfl rfl (Nat.le_of_ble_eq_true hsm) hd (fun v τ h => by obtain ⟨r, rfl, h⟩ := h; exact k r τ h)
theorem clX3_198 {k' : Nat} {a1 a2 : Value} {rest : List Value} {R : Int32 → Mem → Prop} (hM : MX3_noneLostIfAired E k' [mx_rf E 0, a1, a2] σ (mx_i R)) (hk : k' + 1 ≤ K) (hsm : Nat.ble ((rest.map fun v => v.category).sum) 8 = true) (hd : mx_at cc pc (.invokevirtual 198) 3 n) (k : ∀ (r : Int32) (τ : Mem), R r τ → MX E K RX3 cc nL ret n lv (.int r :: rest) τ post) : MX E K RX3 cc nL ret pc lv (a2 :: a1 :: mx_rf E 0 :: rest) σ post := x_callV hM hk (by decide) kcX3_noneLostIfAired (mx_in (w := Cond.methodLink RX3 198 yX3_noneLostIfAired) 436 (by decide +kernel) rfl) kiX3_noneLostIfAired ksX3_noneLostIfAired knX3 kyX3_noneLostIfAired rfl (by decide) rfl (ci := 3) rfl rfl rfl (Nat.le_of_ble_eq_true hsm) hd (fun v τ h => by obtain ⟨r, rfl, h⟩ := h; exact k r τ h)
theorem clX3_202 {k' : Nat} {a1 : Value} {rest : List Value} {R : Int32 → Mem → Prop} (hM : MX3_noneLostWithin E k' [mx_rf E 0, a1] σ (mx_i R)) (hk : k' + 1 ≤ K) (hsm : Nat.ble ((rest.map fun v => v.category).sum) 8 = true) (hd : mx_at cc pc (.invokevirtual 202) 3 n) (k : ∀ (r : Int32) (τ : Mem), R r τ → MX E K RX3 cc nL ret n lv (.int r :: rest) τ post) : MX E K RX3 cc nL ret pc lv (a1 :: mx_rf E 0 :: rest) σ post := x_callV hM hk (by decide) kcX3_noneLostWithin (mx_in (w := Cond.methodLink RX3 202 yX3_noneLostWithin) 440 (by decide +kernel) rfl) kiX3_noneLostWithin ksX3_noneLostWithin knX3 kyX3_noneLostWithin rfl (by decide) rfl (ci := 3) rfl rfl rfl (Nat.le_of_ble_eq_true hsm) hd (fun v τ h => by obtain ⟨r, rfl, h⟩ := h; exact k r τ h)
theorem clX3_205 {k' : Nat} {id : Nat} {rest : List Value} {R : Int32 → Mem → Prop} (hM : MX2_roomForMore E k' [mx_rf E id] σ (mx_i R)) (hk : k' + 1 ≤ K) (h1 : 1 ≤ id) (h2 : id < 4) (hsm : Nat.ble ((rest.map fun v => v.category).sum) 8 = true) (hd : mx_at cc pc (.invokevirtual 205) 3 n) (k : ∀ (r : Int32) (τ : Mem), R r τ → MX E K RX3 cc nL ret n lv (.int r :: rest) τ post) : MX E K RX3 cc nL ret pc lv (mx_rf E id :: rest) σ post := x_callV hM hk (by decide) kcX2_roomForMore (mx_in (w := Cond.methodLink RX3 205 yX2_roomForMore) 460 (by decide +kernel) rfl) kiX2_roomForMore ksX2_roomForMore knX2 kyX2_roomForMore rfl (by omega) (mx_cT h1 h2) (ci := 2) rfl rfl rfl (Nat.le_of_ble_eq_true hsm) hd (fun v τ h => by obtain ⟨r, rfl, h⟩ := h; exact k r τ h)
theorem clX3_208 {k' : Nat} {id : Nat} {rest : List Value} {R : Int32 → Mem → Prop} (hM : MX2_fullest E k' [mx_rf E id] σ (mx_i R)) (hk : k' + 1 ≤ K) (h1 : 1 ≤ id) (h2 : id < 4) (hsm : Nat.ble ((rest.map fun v => v.category).sum) 8 = true) (hd : mx_at cc pc (.invokevirtual 208) 3 n) (k : ∀ (r : Int32) (τ : Mem), R r τ → MX E K RX3 cc nL ret n lv (.int r :: rest) τ post) : MX E K RX3 cc nL ret pc lv (mx_rf E id :: rest) σ post := x_callV hM hk (by decide) kcX2_fullest (mx_in (w := Cond.methodLink RX3 208 yX2_fullest) 465 (by decide +kernel) rfl) kiX2_fullest ksX2_fullest knX2 kyX2_fullest rfl (by omega) (mx_cT h1 h2) (ci := 2) rfl rfl rfl (Nat.le_of_ble_eq_true hsm) hd (fun v τ h => by obtain ⟨r, rfl, h⟩ := h; exact k r τ h)
theorem clX3_211 {k' : Nat} {id : Nat} {rest : List Value} {R : Int32 → Mem → Prop} (hM : MX2_dustiest E k' [mx_rf E id] σ (mx_i R)) (hk : k' + 1 ≤ K) (h1 : 1 ≤ id) (h2 : id < 4) (hsm : Nat.ble ((rest.map fun v => v.category).sum) 8 = true) (hd : mx_at cc pc (.invokevirtual 211) 3 n) (k : ∀ (r : Int32) (τ : Mem), R r τ → MX E K RX3 cc nL ret n lv (.int r :: rest) τ post) : MX E K RX3 cc nL ret pc lv (mx_rf E id :: rest) σ post := x_callV hM hk (by decide) kcX2_dustiest (mx_in (w := Cond.methodLink RX3 211 yX2_dustiest) 469 (by decide +kernel) rfl) kiX2_dustiest ksX2_dustiest knX2 kyX2_dustiest rfl (by omega) (mx_cT h1 h2) (ci := 2) rfl rfl rfl (Nat.le_of_ble_eq_true hsm) hd (fun v τ h => by obtain ⟨r, rfl, h⟩ := h; exact k r τ h)
theorem clX3_214 {k' : Nat} {rest : List Value} {R : Int32 → Mem → Prop} (hM : MX3_lasts E k' [mx_rf E 0] σ (mx_i R)) (hk : k' + 1 ≤ K) (hsm : Nat.ble ((rest.map fun v => v.category).sum) 8 = true) (hd : mx_at cc pc (.invokevirtual 214) 3 n) (k : ∀ (r : Int32) (τ : Mem), R r τ → MX E K RX3 cc nL ret n lv (.int r :: rest) τ post) : MX E K RX3 cc nL ret pc lv (mx_rf E 0 :: rest) σ post := x_callV hM hk (by decide) kcX3_lasts (mx_in (w := Cond.methodLink RX3 214 yX3_lasts) 473 (by decide +kernel) rfl) kiX3_lasts ksX3_lasts knX3 kyX3_lasts rfl (by decide) rfl (ci := 3) rfl rfl rfl (Nat.le_of_ble_eq_true hsm) hd (fun v τ h => by obtain ⟨r, rfl, h⟩ := h; exact k r τ h)
theorem clX3_217 {k' : Nat} {id : Nat} {a1 : Value} {rest : List Value} {R : Int32 → Mem → Prop} (hM : MX2_nextKept E k' [mx_rf E id, a1] σ (mx_i R)) (hk : k' + 1 ≤ K) (h1 : 1 ≤ id) (h2 : id < 4) (hsm : Nat.ble ((rest.map fun v => v.category).sum) 8 = true) (hd : mx_at cc pc (.invokevirtual 217) 3 n) (k : ∀ (r : Int32) (τ : Mem), R r τ → MX E K RX3 cc nL ret n lv (.int r :: rest) τ post) : MX E K RX3 cc nL ret pc lv (a1 :: mx_rf E id :: rest) σ post := x_callV hM hk (by decide) kcX2_nextKept (mx_in (w := Cond.methodLink RX3 217 yX2_nextKept) 481 (by decide +kernel) rfl) kiX2_nextKept ksX2_nextKept knX2 kyX2_nextKept rfl (by omega) (mx_cT h1 h2) (ci := 2) rfl rfl rfl (Nat.le_of_ble_eq_true hsm) hd (fun v τ h => by obtain ⟨r, rfl, h⟩ := h; exact k r τ h)
theorem clX3_220 {k' : Nat} {id : Nat} {rest : List Value} {R : Int32 → Mem → Prop} (hM : MX2_longestRunOfLost E k' [mx_rf E id] σ (mx_i R)) (hk : k' + 1 ≤ K) (h1 : 1 ≤ id) (h2 : id < 4) (hsm : Nat.ble ((rest.map fun v => v.category).sum) 8 = true) (hd : mx_at cc pc (.invokevirtual 220) 3 n) (k : ∀ (r : Int32) (τ : Mem), R r τ → MX E K RX3 cc nL ret n lv (.int r :: rest) τ post) : MX E K RX3 cc nL ret pc lv (mx_rf E id :: rest) σ post := x_callV hM hk (by decide) kcX2_longestRunOfLost (mx_in (w := Cond.methodLink RX3 220 yX2_longestRunOfLost) 486 (by decide +kernel) rfl) kiX2_longestRunOfLost ksX2_longestRunOfLost knX2 kyX2_longestRunOfLost rfl (by omega) (mx_cT h1 h2) (ci := 2) rfl rfl rfl (Nat.le_of_ble_eq_true hsm) hd (fun v τ h => by obtain ⟨r, rfl, h⟩ := h; exact k r τ h)
theorem clX3_223 {k' : Nat} {id : Nat} {rest : List Value} {R : Int32 → Mem → Prop} (hM : MX2_emptyBits E k' [mx_rf E id] σ (mx_i R)) (hk : k' + 1 ≤ K) (h1 : 1 ≤ id) (h2 : id < 4) (hsm : Nat.ble ((rest.map fun v => v.category).sum) 8 = true) (hd : mx_at cc pc (.invokevirtual 223) 3 n) (k : ∀ (r : Int32) (τ : Mem), R r τ → MX E K RX3 cc nL ret n lv (.int r :: rest) τ post) : MX E K RX3 cc nL ret pc lv (mx_rf E id :: rest) σ post := x_callV hM hk (by decide) kcX2_emptyBits (mx_in (w := Cond.methodLink RX3 223 yX2_emptyBits) 491 (by decide +kernel) rfl) kiX2_emptyBits ksX2_emptyBits knX2 kyX2_emptyBits rfl (by omega) (mx_cT h1 h2) (ci := 2) rfl rfl rfl (Nat.le_of_ble_eq_true hsm) hd (fun v τ h => by obtain ⟨r, rfl, h⟩ := h; exact k r τ h)
theorem clX3_226 {k' : Nat} {id : Nat} {rest : List Value} {R : Int32 → Mem → Prop} (hM : MX2_crowdedBits E k' [mx_rf E id] σ (mx_i R)) (hk : k' + 1 ≤ K) (h1 : 1 ≤ id) (h2 : id < 4) (hsm : Nat.ble ((rest.map fun v => v.category).sum) 8 = true) (hd : mx_at cc pc (.invokevirtual 226) 3 n) (k : ∀ (r : Int32) (τ : Mem), R r τ → MX E K RX3 cc nL ret n lv (.int r :: rest) τ post) : MX E K RX3 cc nL ret pc lv (mx_rf E id :: rest) σ post := x_callV hM hk (by decide) kcX2_crowdedBits (mx_in (w := Cond.methodLink RX3 226 yX2_crowdedBits) 495 (by decide +kernel) rfl) kiX2_crowdedBits ksX2_crowdedBits knX2 kyX2_crowdedBits rfl (by omega) (mx_cT h1 h2) (ci := 2) rfl rfl rfl (Nat.le_of_ble_eq_true hsm) hd (fun v τ h => by obtain ⟨r, rfl, h⟩ := h; exact k r τ h)
theorem clX3_229 {k' : Nat} {a1 a2 a3 a4 a5 : Value} {rest : List Value} {R : Int32 → Mem → Prop} (hM : MX3_worth E k' [mx_rf E 0, a1, a2, a3, a4, a5] σ (mx_i R)) (hk : k' + 1 ≤ K) (hsm : Nat.ble ((rest.map fun v => v.category).sum) 8 = true) (hd : mx_at cc pc (.invokevirtual 229) 3 n) (k : ∀ (r : Int32) (τ : Mem), R r τ → MX E K RX3 cc nL ret n lv (.int r :: rest) τ post) : MX E K RX3 cc nL ret pc lv (a5 :: a4 :: a3 :: a2 :: a1 :: mx_rf E 0 :: rest) σ post := x_callV hM hk (by decide) kcX3_worth (mx_in (w := Cond.methodLink RX3 229 yX3_worth) 504 (by decide +kernel) rfl) kiX3_worth ksX3_worth knX3 kyX3_worth rfl (by decide) rfl (ci := 3) rfl rfl rfl (Nat.le_of_ble_eq_true hsm) hd (fun v τ h => by obtain ⟨r, rfl, h⟩ := h; exact k r τ h)
theorem clX3_233 {k' : Nat} {id : Nat} {rest : List Value} {R : Mem → Prop} (hM : MX0_letTheRoom E k' [mx_rf E id] σ (mx_v R)) (hk : k' + 1 ≤ K) (h1 : 7 ≤ id) (h2 : id < 28) (hsm : Nat.ble ((rest.map fun v => v.category).sum) 8 = true) (hd : mx_at cc pc (.invokevirtual 233) 3 n) (k : ∀ (τ : Mem), R τ → MX E K RX3 cc nL ret n lv rest τ post) : MX E K RX3 cc nL ret pc lv (mx_rf E id :: rest) σ post := x_callV hM hk (by decide) kcX0_letTheRoom (mx_in (w := Cond.methodLink RX3 233 yX0_letTheRoom) 508 (by decide +kernel) rfl) kiX0_letTheRoom ksX0_letTheRoom knX0 kyX0_letTheRoom rfl (by omega) (mx_cH h1 h2) (ci := 0) rfl rfl rfl (Nat.le_of_ble_eq_true hsm) hd (fun v τ h => by obtain ⟨rfl, h⟩ := h; exact k τ h)
theorem clX3_236 {k' : Nat} {a1 : Value} {rest : List Value} {R : Int64 → Mem → Prop} (hM : MX3_refuseLong E k' [mx_rf E 0, a1] σ (mx_l R)) (hk : k' + 1 ≤ K) (hsm : Nat.ble ((rest.map fun v => v.category).sum) 8 = true) (hd : mx_at cc pc (.invokevirtual 236) 3 n) (k : ∀ (r : Int64) (τ : Mem), R r τ → MX E K RX3 cc nL ret n lv (.long r :: rest) τ post) : MX E K RX3 cc nL ret pc lv (a1 :: mx_rf E 0 :: rest) σ post := x_callV hM hk (by decide) kcX3_refuseLong (mx_in (w := Cond.methodLink RX3 236 yX3_refuseLong) 516 (by decide +kernel) rfl) kiX3_refuseLong ksX3_refuseLong knX3 kyX3_refuseLong rfl (by decide) rfl (ci := 3) rfl rfl rfl (Nat.le_of_ble_eq_true hsm) hd (fun v τ h => by obtain ⟨r, rfl, h⟩ := h; exact k r τ h)
theorem clX3_240 {k' : Nat} {a1 a2 a3 : Value} {rest : List Value} {R : Int32 → Mem → Prop} (hM : MX3_isKeptWithGuests E k' [mx_rf E 0, a1, a2, a3] σ (mx_i R)) (hk : k' + 1 ≤ K) (hsm : Nat.ble ((rest.map fun v => v.category).sum) 8 = true) (hd : mx_at cc pc (.invokevirtual 240) 3 n) (k : ∀ (r : Int32) (τ : Mem), R r τ → MX E K RX3 cc nL ret n lv (.int r :: rest) τ post) : MX E K RX3 cc nL ret pc lv (a3 :: a2 :: a1 :: mx_rf E 0 :: rest) σ post := x_callV hM hk (by decide) kcX3_isKeptWithGuests (mx_in (w := Cond.methodLink RX3 240 yX3_isKeptWithGuests) 521 (by decide +kernel) rfl) kiX3_isKeptWithGuests ksX3_isKeptWithGuests knX3 kyX3_isKeptWithGuests rfl (by decide) rfl (ci := 3) rfl rfl rfl (Nat.le_of_ble_eq_true hsm) hd (fun v τ h => by obtain ⟨r, rfl, h⟩ := h; exact k r τ h)
theorem clX3_244 {k' : Nat} {a1 a2 : Value} {rest : List Value} {R : Int64 → Mem → Prop} (hM : MX3_power E k' [a1, a2] σ (mx_l R)) (hk : k' + 1 ≤ K) (hsm : Nat.ble ((rest.map fun v => v.category).sum) 8 = true) (hd : mx_at cc pc (.invokestatic 244) 3 n) (k : ∀ (r : Int64) (τ : Mem), R r τ → MX E K RX3 cc nL ret n lv (.long r :: rest) τ post) : MX E K RX3 cc nL ret pc lv (a2 :: a1 :: rest) σ post := x_callS hM hk (by decide) kcX3_power (mx_in (w := Cond.methodLink RX3 244 yX3_power) 526 (by decide +kernel) rfl) ktX3_power knX3 kyX3_power rfl rfl (Nat.le_of_ble_eq_true hsm) hd (fun v τ h => by obtain ⟨r, rfl, h⟩ := h; exact k r τ h)
theorem clX3_248 {k' : Nat} {a1 a2 a3 : Value} {rest : List Value} {R : Int64 → Mem → Prop} (hM : MX3_partOf E k' [a1, a2, a3] σ (mx_l R)) (hk : k' + 1 ≤ K) (hsm : Nat.ble ((rest.map fun v => v.category).sum) 8 = true) (hd : mx_at cc pc (.invokestatic 248) 3 n) (k : ∀ (r : Int64) (τ : Mem), R r τ → MX E K RX3 cc nL ret n lv (.long r :: rest) τ post) : MX E K RX3 cc nL ret pc lv (a3 :: a2 :: a1 :: rest) σ post := x_callS hM hk (by decide) kcX3_partOf (mx_in (w := Cond.methodLink RX3 248 yX3_partOf) 529 (by decide +kernel) rfl) ktX3_partOf knX3 kyX3_partOf rfl rfl (Nat.le_of_ble_eq_true hsm) hd (fun v τ h => by obtain ⟨r, rfl, h⟩ := h; exact k r τ h)
theorem clX3_252 {k' : Nat} {id : Nat} {rest : List Value} {R : Mem → Prop} (hM : MX0_dent E k' [mx_rf E id] σ (mx_v R)) (hk : k' + 1 ≤ K) (h1 : 7 ≤ id) (h2 : id < 28) (hsm : Nat.ble ((rest.map fun v => v.category).sum) 8 = true) (hd : mx_at cc pc (.invokevirtual 252) 3 n) (k : ∀ (τ : Mem), R τ → MX E K RX3 cc nL ret n lv rest τ post) : MX E K RX3 cc nL ret pc lv (mx_rf E id :: rest) σ post := x_callV hM hk (by decide) kcX0_dent (mx_in (w := Cond.methodLink RX3 252 yX0_dent) 525 (by decide +kernel) rfl) kiX0_dent ksX0_dent knX0 kyX0_dent rfl (by omega) (mx_cH h1 h2) (ci := 0) rfl rfl rfl (Nat.le_of_ble_eq_true hsm) hd (fun v τ h => by obtain ⟨rfl, h⟩ := h; exact k τ h)
theorem clX3_255 {k' : Nat} {id : Nat} {rest : List Value} {R : Int32 → Mem → Prop} (hM : MX2_allPeople E k' [mx_rf E id] σ (mx_i R)) (hk : k' + 1 ≤ K) (h1 : 1 ≤ id) (h2 : id < 4) (hsm : Nat.ble ((rest.map fun v => v.category).sum) 8 = true) (hd : mx_at cc pc (.invokevirtual 255) 3 n) (k : ∀ (r : Int32) (τ : Mem), R r τ → MX E K RX3 cc nL ret n lv (.int r :: rest) τ post) : MX E K RX3 cc nL ret pc lv (mx_rf E id :: rest) σ post := x_callV hM hk (by decide) kcX2_allPeople (mx_in (w := Cond.methodLink RX3 255 yX2_allPeople) 539 (by decide +kernel) rfl) kiX2_allPeople ksX2_allPeople knX2 kyX2_allPeople rfl (by omega) (mx_cT h1 h2) (ci := 2) rfl rfl rfl (Nat.le_of_ble_eq_true hsm) hd (fun v τ h => by obtain ⟨r, rfl, h⟩ := h; exact k r τ h)
theorem clX3_258 {x y : Int32} (hk : 1 ≤ K) (hsm : Nat.ble ((st.map fun v => v.category).sum) 8 = true) (hd : mx_at cc pc (.invokestatic 258) 3 n) (k : MX E K RX3 cc nL ret n lv (.int (if x < y then y else x) :: st) σ post) : MX E K RX3 cc nL ret pc lv (.int y :: .int x :: st) σ post := x_max (mx_in 543 (by decide +kernel) rfl) ktm_max knm kcm_max hk (by have := Nat.le_of_ble_eq_true hsm; omega) hd k
theorem clX3_261 {k' : Nat} {a1 a2 : Value} {rest : List Value} {R : Int64 → Mem → Prop} (hM : MX3_commonDivisor E k' [a1, a2] σ (mx_l R)) (hk : k' + 1 ≤ K) (hsm : Nat.ble ((rest.map fun v => v.category).sum) 8 = true) (hd : mx_at cc pc (.invokestatic 261) 3 n) (k : ∀ (r : Int64) (τ : Mem), R r τ → MX E K RX3 cc nL ret n lv (.long r :: rest) τ post) : MX E K RX3 cc nL ret pc lv (a2 :: a1 :: rest) σ post := x_callS hM hk (by decide) kcX3_commonDivisor (mx_in (w := Cond.methodLink RX3 261 yX3_commonDivisor) 532 (by decide +kernel) rfl) ktX3_commonDivisor knX3 kyX3_commonDivisor rfl rfl (Nat.le_of_ble_eq_true hsm) hd (fun v τ h => by obtain ⟨r, rfl, h⟩ := h; exact k r τ h)
theorem clX3_265 {k' : Nat} {a1 : Value} {rest : List Value} {R : Int32 → Mem → Prop} (hM : MX3_dustIsAsTold E k' [mx_rf E 0, a1] σ (mx_i R)) (hk : k' + 1 ≤ K) (hsm : Nat.ble ((rest.map fun v => v.category).sum) 8 = true) (hd : mx_at cc pc (.invokevirtual 265) 3 n) (k : ∀ (r : Int32) (τ : Mem), R r τ → MX E K RX3 cc nL ret n lv (.int r :: rest) τ post) : MX E K RX3 cc nL ret pc lv (a1 :: mx_rf E 0 :: rest) σ post := x_callV hM hk (by decide) kcX3_dustIsAsTold (mx_in (w := Cond.methodLink RX3 265 yX3_dustIsAsTold) 548 (by decide +kernel) rfl) kiX3_dustIsAsTold ksX3_dustIsAsTold knX3 kyX3_dustIsAsTold rfl (by decide) rfl (ci := 3) rfl rfl rfl (Nat.le_of_ble_eq_true hsm) hd (fun v τ h => by obtain ⟨r, rfl, h⟩ := h; exact k r τ h)
theorem clX3_268 {k' : Nat} {a1 : Value} {rest : List Value} {R : Int32 → Mem → Prop} (hM : MX3_drawPeople E k' [mx_rf E 0, a1] σ (mx_i R)) (hk : k' + 1 ≤ K) (hsm : Nat.ble ((rest.map fun v => v.category).sum) 8 = true) (hd : mx_at cc pc (.invokevirtual 268) 3 n) (k : ∀ (r : Int32) (τ : Mem), R r τ → MX E K RX3 cc nL ret n lv (.int r :: rest) τ post) : MX E K RX3 cc nL ret pc lv (a1 :: mx_rf E 0 :: rest) σ post := x_callV hM hk (by decide) kcX3_drawPeople (mx_in (w := Cond.methodLink RX3 268 yX3_drawPeople) 568 (by decide +kernel) rfl) kiX3_drawPeople ksX3_drawPeople knX3 kyX3_drawPeople rfl (by decide) rfl (ci := 3) rfl rfl rfl (Nat.le_of_ble_eq_true hsm) hd (fun v τ h => by obtain ⟨r, rfl, h⟩ := h; exact k r τ h)
theorem clX3_274 {k' : Nat} {a1 : Value} {rest : List Value} {R : Int32 → Mem → Prop} (hM : MX3_refused E k' [mx_rf E 0, a1] σ (mx_i R)) (hk : k' + 1 ≤ K) (hsm : Nat.ble ((rest.map fun v => v.category).sum) 8 = true) (hd : mx_at cc pc (.invokevirtual 274) 3 n) (k : ∀ (r : Int32) (τ : Mem), R r τ → MX E K RX3 cc nL ret n lv (.int r :: rest) τ post) : MX E K RX3 cc nL ret pc lv (a1 :: mx_rf E 0 :: rest) σ post := x_callV hM hk (by decide) kcX3_refused (mx_in (w := Cond.methodLink RX3 274 yX3_refused) 587 (by decide +kernel) rfl) kiX3_refused ksX3_refused knX3 kyX3_refused rfl (by decide) rfl (ci := 3) rfl rfl rfl (Nat.le_of_ble_eq_true hsm) hd (fun v τ h => by obtain ⟨r, rfl, h⟩ := h; exact k r τ h)
theorem clX0_37 {k' : Nat} {id : Nat} {rest : List Value} {R : Int32 → Mem → Prop} (hM : MX0_crowd E k' [mx_rf E id] σ (mx_i R)) (hk : k' + 1 ≤ K) (h1 : 7 ≤ id) (h2 : id < 28) (hsm : Nat.ble ((rest.map fun v => v.category).sum) 8 = true) (hd : mx_at cc pc (.invokevirtual 37) 3 n) (k : ∀ (r : Int32) (τ : Mem), R r τ → MX E K RX0 cc nL ret n lv (.int r :: rest) τ post) : MX E K RX0 cc nL ret pc lv (mx_rf E id :: rest) σ post := x_callV hM hk (by decide) kcX0_crowd (mx_in (w := Cond.methodLink RX0 37 yX0_crowd) 304 (by decide +kernel) rfl) kiX0_crowd ksX0_crowd knX0 kyX0_crowd rfl (by omega) (mx_cH h1 h2) (ci := 0) rfl rfl rfl (Nat.le_of_ble_eq_true hsm) hd (fun v τ h => by obtain ⟨r, rfl, h⟩ := h; exact k r τ h)
theorem clX0_41 {k' : Nat} {id : Nat} {rest : List Value} {R : Int32 → Mem → Prop} (hM : MX0_childFrom E k' [mx_rf E id] σ (mx_i R)) (hk : k' + 1 ≤ K) (h1 : 7 ≤ id) (h2 : id < 28) (hsm : Nat.ble ((rest.map fun v => v.category).sum) 8 = true) (hd : mx_at cc pc (.invokevirtual 41) 3 n) (k : ∀ (r : Int32) (τ : Mem), R r τ → MX E K RX0 cc nL ret n lv (.int r :: rest) τ post) : MX E K RX0 cc nL ret pc lv (mx_rf E id :: rest) σ post := x_callV hM hk (by decide) kcX0_childFrom (mx_in (w := Cond.methodLink RX0 41 yX0_childFrom) 308 (by decide +kernel) rfl) kiX0_childFrom ksX0_childFrom knX0 kyX0_childFrom rfl (by omega) (mx_cH h1 h2) (ci := 0) rfl rfl rfl (Nat.le_of_ble_eq_true hsm) hd (fun v τ h => by obtain ⟨r, rfl, h⟩ := h; exact k r τ h)
theorem clX0_44 {x y : Int32} (hk : 1 ≤ K) (hsm : Nat.ble ((st.map fun v => v.category).sum) 8 = true) (hd : mx_at cc pc (.invokestatic 44) 3 n) (k : MX E K RX0 cc nL ret n lv (.int (if y < x then y else x) :: st) σ post) : MX E K RX0 cc nL ret pc lv (.int y :: .int x :: st) σ post := x_min (mx_in 297 (by decide +kernel) rfl) ktm_min knm kcm_min hk (by have := Nat.le_of_ble_eq_true hsm; omega) hd k
theorem clX0_50 {k' : Nat} {id : Nat} {a1 : Value} {rest : List Value} {R : Mem → Prop} (hM : MX0_addDust E k' [mx_rf E id, a1] σ (mx_v R)) (hk : k' + 1 ≤ K) (h1 : 7 ≤ id) (h2 : id < 28) (hsm : Nat.ble ((rest.map fun v => v.category).sum) 8 = true) (hd : mx_at cc pc (.invokevirtual 50) 3 n) (k : ∀ (τ : Mem), R τ → MX E K RX0 cc nL ret n lv rest τ post) : MX E K RX0 cc nL ret pc lv (a1 :: mx_rf E id :: rest) σ post := x_callV hM hk (by decide) kcX0_addDust (mx_in (w := Cond.methodLink RX0 50 yX0_addDust) 293 (by decide +kernel) rfl) kiX0_addDust ksX0_addDust knX0 kyX0_addDust rfl (by omega) (mx_cH h1 h2) (ci := 0) rfl rfl rfl (Nat.le_of_ble_eq_true hsm) hd (fun v τ h => by obtain ⟨rfl, h⟩ := h; exact k τ h)
theorem clX0_54 {k' : Nat} {id : Nat} {rest : List Value} {R : Int32 → Mem → Prop} (hM : MX0_burns E k' [mx_rf E id] σ (mx_i R)) (hk : k' + 1 ≤ K) (h1 : 7 ≤ id) (h2 : id < 28) (hsm : Nat.ble ((rest.map fun v => v.category).sum) 8 = true) (hd : mx_at cc pc (.invokevirtual 54) 3 n) (k : ∀ (r : Int32) (τ : Mem), R r τ → MX E K RX0 cc nL ret n lv (.int r :: rest) τ post) : MX E K RX0 cc nL ret pc lv (mx_rf E id :: rest) σ post := x_callV hM hk (by decide) kcX0_burns (mx_in (w := Cond.methodLink RX0 54 yX0_burns) 285 (by decide +kernel) rfl) kiX0_burns ksX0_burns knX0 kyX0_burns rfl (by omega) (mx_cH h1 h2) (ci := 0) rfl rfl rfl (Nat.le_of_ble_eq_true hsm) hd (fun v τ h => by obtain ⟨r, rfl, h⟩ := h; exact k r τ h)
theorem clX0_57 {k' : Nat} {id : Nat} {a1 : Value} {rest : List Value} {R : Int32 → Mem → Prop} (hM : MX0_dustIn E k' [mx_rf E id, a1] σ (mx_i R)) (hk : k' + 1 ≤ K) (h1 : 7 ≤ id) (h2 : id < 28) (hsm : Nat.ble ((rest.map fun v => v.category).sum) 8 = true) (hd : mx_at cc pc (.invokevirtual 57) 3 n) (k : ∀ (r : Int32) (τ : Mem), R r τ → MX E K RX0 cc nL ret n lv (.int r :: rest) τ post) : MX E K RX0 cc nL ret pc lv (a1 :: mx_rf E id :: rest) σ post := x_callV hM hk (by decide) kcX0_dustIn (mx_in (w := Cond.methodLink RX0 57 yX0_dustIn) 289 (by decide +kernel) rfl) kiX0_dustIn ksX0_dustIn knX0 kyX0_dustIn rfl (by omega) (mx_cH h1 h2) (ci := 0) rfl rfl rfl (Nat.le_of_ble_eq_true hsm) hd (fun v τ h => by obtain ⟨r, rfl, h⟩ := h; exact k r τ h)
theorem clX0_61 {k' : Nat} {id : Nat} {rest : List Value} {R : Int32 → Mem → Prop} (hM : MX0_childIsFound E k' [mx_rf E id] σ (mx_i R)) (hk : k' + 1 ≤ K) (h1 : 7 ≤ id) (h2 : id < 28) (hsm : Nat.ble ((rest.map fun v => v.category).sum) 8 = true) (hd : mx_at cc pc (.invokevirtual 61) 3 n) (k : ∀ (r : Int32) (τ : Mem), R r τ → MX E K RX0 cc nL ret n lv (.int r :: rest) τ post) : MX E K RX0 cc nL ret pc lv (mx_rf E id :: rest) σ post := x_callV hM hk (by decide) kcX0_childIsFound (mx_in (w := Cond.methodLink RX0 61 yX0_childIsFound) 300 (by decide +kernel) rfl) kiX0_childIsFound ksX0_childIsFound knX0 kyX0_childIsFound rfl (by omega) (mx_cH h1 h2) (ci := 0) rfl rfl rfl (Nat.le_of_ble_eq_true hsm) hd (fun v τ h => by obtain ⟨r, rfl, h⟩ := h; exact k r τ h)
theorem clX0_65 {k' : Nat} {id : Nat} {rest : List Value} {R : Mem → Prop} (hM : MX0_dent E k' [mx_rf E id] σ (mx_v R)) (hk : k' + 1 ≤ K) (h1 : 7 ≤ id) (h2 : id < 28) (hsm : Nat.ble ((rest.map fun v => v.category).sum) 8 = true) (hd : mx_at cc pc (.invokevirtual 65) 3 n) (k : ∀ (τ : Mem), R τ → MX E K RX0 cc nL ret n lv rest τ post) : MX E K RX0 cc nL ret pc lv (mx_rf E id :: rest) σ post := x_callV hM hk (by decide) kcX0_dent (mx_in (w := Cond.methodLink RX0 65 yX0_dent) 312 (by decide +kernel) rfl) kiX0_dent ksX0_dent knX0 kyX0_dent rfl (by omega) (mx_cH h1 h2) (ci := 0) rfl rfl rfl (Nat.le_of_ble_eq_true hsm) hd (fun v τ h => by obtain ⟨rfl, h⟩ := h; exact k τ h)
theorem clX1_15 {x y : Int32} (hk : 1 ≤ K) (hsm : Nat.ble ((st.map fun v => v.category).sum) 8 = true) (hd : mx_at cc pc (.invokestatic 15) 3 n) (k : MX E K RX1 cc nL ret n lv (.int (if x < y then y else x) :: st) σ post) : MX E K RX1 cc nL ret pc lv (.int y :: .int x :: st) σ post := x_max (mx_in 146 (by decide +kernel) rfl) ktm_max knm kcm_max hk (by have := Nat.le_of_ble_eq_true hsm; omega) hd k
theorem clX2_35 {k' : Nat} {id : Nat} {a1 : Value} {rest : List Value} {R : Nat → Mem → Prop} (hM : MX2_at E k' [mx_rf E id, a1] σ (mx_r E R)) (hk : k' + 1 ≤ K) (h1 : 1 ≤ id) (h2 : id < 4) (hsm : Nat.ble ((rest.map fun v => v.category).sum) 8 = true) (hd : mx_at cc pc (.invokevirtual 35) 3 n) (k : ∀ (r : Nat) (τ : Mem), R r τ → MX E K RX2 cc nL ret n lv (mx_rf E r :: rest) τ post) : MX E K RX2 cc nL ret pc lv (a1 :: mx_rf E id :: rest) σ post := x_callV hM hk (by decide) kcX2_at (mx_in (w := Cond.methodLink RX2 35 yX2_at) 228 (by decide +kernel) rfl) kiX2_at ksX2_at knX2 kyX2_at rfl (by omega) (mx_cT h1 h2) (ci := 2) rfl rfl rfl (Nat.le_of_ble_eq_true hsm) hd (fun v τ h => by obtain ⟨r, rfl, h⟩ := h; exact k r τ h)
theorem clX2_39 {k' : Nat} {id : Nat} {a1 : Value} {rest : List Value} {R : Mem → Prop} (hM : MX0_become E k' [mx_rf E id, a1] σ (mx_v R)) (hk : k' + 1 ≤ K) (h1 : 7 ≤ id) (h2 : id < 28) (hsm : Nat.ble ((rest.map fun v => v.category).sum) 8 = true) (hd : mx_at cc pc (.invokevirtual 39) 3 n) (k : ∀ (τ : Mem), R τ → MX E K RX2 cc nL ret n lv rest τ post) : MX E K RX2 cc nL ret pc lv (a1 :: mx_rf E id :: rest) σ post := x_callV hM hk (by decide) kcX0_become (mx_in (w := Cond.methodLink RX2 39 yX0_become) 232 (by decide +kernel) rfl) kiX0_become ksX0_become knX0 kyX0_become rfl (by omega) (mx_cH h1 h2) (ci := 0) rfl rfl rfl (Nat.le_of_ble_eq_true hsm) hd (fun v τ h => by obtain ⟨rfl, h⟩ := h; exact k τ h)
theorem clX2_59 {k' : Nat} {id : Nat} {a1 a2 : Value} {rest : List Value} {R : Int32 → Mem → Prop} (hM : MX0_spendWeek E k' [mx_rf E id, a1, a2] σ (mx_i R)) (hk : k' + 1 ≤ K) (h1 : 7 ≤ id) (h2 : id < 28) (hsm : Nat.ble ((rest.map fun v => v.category).sum) 8 = true) (hd : mx_at cc pc (.invokevirtual 59) 3 n) (k : ∀ (r : Int32) (τ : Mem), R r τ → MX E K RX2 cc nL ret n lv (.int r :: rest) τ post) : MX E K RX2 cc nL ret pc lv (a2 :: a1 :: mx_rf E id :: rest) σ post := x_callV hM hk (by decide) kcX0_spendWeek (mx_in (w := Cond.methodLink RX2 59 yX0_spendWeek) 281 (by decide +kernel) rfl) kiX0_spendWeek ksX0_spendWeek knX0 kyX0_spendWeek rfl (by omega) (mx_cH h1 h2) (ci := 0) rfl rfl rfl (Nat.le_of_ble_eq_true hsm) hd (fun v τ h => by obtain ⟨r, rfl, h⟩ := h; exact k r τ h)
theorem clX2_63 {k' : Nat} {id : Nat} {rest : List Value} {R : Mem → Prop} (hM : MX2_inspect E k' [mx_rf E id] σ (mx_v R)) (hk : k' + 1 ≤ K) (h1 : 1 ≤ id) (h2 : id < 4) (hsm : Nat.ble ((rest.map fun v => v.category).sum) 8 = true) (hd : mx_at cc pc (.invokevirtual 63) 3 n) (k : ∀ (τ : Mem), R τ → MX E K RX2 cc nL ret n lv rest τ post) : MX E K RX2 cc nL ret pc lv (mx_rf E id :: rest) σ post := x_callV hM hk (by decide) kcX2_inspect (mx_in (w := Cond.methodLink RX2 63 yX2_inspect) 316 (by decide +kernel) rfl) kiX2_inspect ksX2_inspect knX2 kyX2_inspect rfl (by omega) (mx_cT h1 h2) (ci := 2) rfl rfl rfl (Nat.le_of_ble_eq_true hsm) hd (fun v τ h => by obtain ⟨rfl, h⟩ := h; exact k τ h)
theorem clX2_72 {k' : Nat} {id : Nat} {a1 : Value} {rest : List Value} {R : Int32 → Mem → Prop} (hM : MX2_nextKept E k' [mx_rf E id, a1] σ (mx_i R)) (hk : k' + 1 ≤ K) (h1 : 1 ≤ id) (h2 : id < 4) (hsm : Nat.ble ((rest.map fun v => v.category).sum) 8 = true) (hd : mx_at cc pc (.invokevirtual 72) 3 n) (k : ∀ (r : Int32) (τ : Mem), R r τ → MX E K RX2 cc nL ret n lv (.int r :: rest) τ post) : MX E K RX2 cc nL ret pc lv (a1 :: mx_rf E id :: rest) σ post := x_callV hM hk (by decide) kcX2_nextKept (mx_in (w := Cond.methodLink RX2 72 yX2_nextKept) 320 (by decide +kernel) rfl) kiX2_nextKept ksX2_nextKept knX2 kyX2_nextKept rfl (by omega) (mx_cT h1 h2) (ci := 2) rfl rfl rfl (Nat.le_of_ble_eq_true hsm) hd (fun v τ h => by obtain ⟨r, rfl, h⟩ := h; exact k r τ h)
theorem clX2_76 {k' : Nat} {id : Nat} {a1 a2 : Value} {rest : List Value} {R : Mem → Prop} (hM : MX2_lose E k' [mx_rf E id, a1, a2] σ (mx_v R)) (hk : k' + 1 ≤ K) (h1 : 1 ≤ id) (h2 : id < 4) (hsm : Nat.ble ((rest.map fun v => v.category).sum) 8 = true) (hd : mx_at cc pc (.invokevirtual 76) 3 n) (k : ∀ (τ : Mem), R τ → MX E K RX2 cc nL ret n lv rest τ post) : MX E K RX2 cc nL ret pc lv (a2 :: a1 :: mx_rf E id :: rest) σ post := x_callV hM hk (by decide) kcX2_lose (mx_in (w := Cond.methodLink RX2 76 yX2_lose) 324 (by decide +kernel) rfl) kiX2_lose ksX2_lose knX2 kyX2_lose rfl (by omega) (mx_cT h1 h2) (ci := 2) rfl rfl rfl (Nat.le_of_ble_eq_true hsm) hd (fun v τ h => by obtain ⟨rfl, h⟩ := h; exact k τ h)
theorem clX2_80 {x y : Int32} (hk : 1 ≤ K) (hsm : Nat.ble ((st.map fun v => v.category).sum) 8 = true) (hd : mx_at cc pc (.invokestatic 80) 3 n) (k : MX E K RX2 cc nL ret n lv (.int (if y < x then y else x) :: st) σ post) : MX E K RX2 cc nL ret pc lv (.int y :: .int x :: st) σ post := x_min (mx_in 328 (by decide +kernel) rfl) ktm_min knm kcm_min hk (by have := Nat.le_of_ble_eq_true hsm; omega) hd k
theorem clX2_85 {k' : Nat} {id : Nat} {rest : List Value} {R : Int32 → Mem → Prop} (hM : MX2_keptBits E k' [mx_rf E id] σ (mx_i R)) (hk : k' + 1 ≤ K) (h1 : 1 ≤ id) (h2 : id < 4) (hsm : Nat.ble ((rest.map fun v => v.category).sum) 8 = true) (hd : mx_at cc pc (.invokevirtual 85) 3 n) (k : ∀ (r : Int32) (τ : Mem), R r τ → MX E K RX2 cc nL ret n lv (.int r :: rest) τ post) : MX E K RX2 cc nL ret pc lv (mx_rf E id :: rest) σ post := x_callV hM hk (by decide) kcX2_keptBits (mx_in (w := Cond.methodLink RX2 85 yX2_keptBits) 375 (by decide +kernel) rfl) kiX2_keptBits ksX2_keptBits knX2 kyX2_keptBits rfl (by omega) (mx_cT h1 h2) (ci := 2) rfl rfl rfl (Nat.le_of_ble_eq_true hsm) hd (fun v τ h => by obtain ⟨r, rfl, h⟩ := h; exact k r τ h)
theorem clX2_89 {k' : Nat} {a1 : Value} {rest : List Value} {R : Int32 → Mem → Prop} (hM : MJ6_bitCount_0f7a4 E k' [a1] σ (mx_i R)) (hk : k' + 1 ≤ K) (hsm : Nat.ble ((rest.map fun v => v.category).sum) 8 = true) (hd : mx_at cc pc (.invokestatic 89) 3 n) (k : ∀ (r : Int32) (τ : Mem), R r τ → MX E K RX2 cc nL ret n lv (.int r :: rest) τ post) : MX E K RX2 cc nL ret pc lv (a1 :: rest) σ post := x_callS hM hk (by decide) kcJ6_bitCount_0f7a4 (mx_in (w := Cond.methodLink RX2 89 yJ6_bitCount_0f7a4) 379 (by decide +kernel) rfl) ktJ6_bitCount_0f7a4 knJ6 kyJ6_bitCount_0f7a4 rfl rfl (Nat.le_of_ble_eq_true hsm) hd (fun v τ h => by obtain ⟨r, rfl, h⟩ := h; exact k r τ h)
theorem clX2_94 {k' : Nat} {id : Nat} {rest : List Value} {R : Int32 → Mem → Prop} (hM : MX0_childIsFound E k' [mx_rf E id] σ (mx_i R)) (hk : k' + 1 ≤ K) (h1 : 7 ≤ id) (h2 : id < 28) (hsm : Nat.ble ((rest.map fun v => v.category).sum) 8 = true) (hd : mx_at cc pc (.invokevirtual 94) 3 n) (k : ∀ (r : Int32) (τ : Mem), R r τ → MX E K RX2 cc nL ret n lv (.int r :: rest) τ post) : MX E K RX2 cc nL ret pc lv (mx_rf E id :: rest) σ post := x_callV hM hk (by decide) kcX0_childIsFound (mx_in (w := Cond.methodLink RX2 94 yX0_childIsFound) 499 (by decide +kernel) rfl) kiX0_childIsFound ksX0_childIsFound knX0 kyX0_childIsFound rfl (by omega) (mx_cH h1 h2) (ci := 0) rfl rfl rfl (Nat.le_of_ble_eq_true hsm) hd (fun v τ h => by obtain ⟨r, rfl, h⟩ := h; exact k r τ h)
theorem clX2_98 {k' : Nat} {id : Nat} {rest : List Value} {R : Int32 → Mem → Prop} (hM : MX0_burns E k' [mx_rf E id] σ (mx_i R)) (hk : k' + 1 ≤ K) (h1 : 7 ≤ id) (h2 : id < 28) (hsm : Nat.ble ((rest.map fun v => v.category).sum) 8 = true) (hd : mx_at cc pc (.invokevirtual 98) 3 n) (k : ∀ (r : Int32) (τ : Mem), R r τ → MX E K RX2 cc nL ret n lv (.int r :: rest) τ post) : MX E K RX2 cc nL ret pc lv (mx_rf E id :: rest) σ post := x_callV hM hk (by decide) kcX0_burns (mx_in (w := Cond.methodLink RX2 98 yX0_burns) 417 (by decide +kernel) rfl) kiX0_burns ksX0_burns knX0 kyX0_burns rfl (by omega) (mx_cH h1 h2) (ci := 0) rfl rfl rfl (Nat.le_of_ble_eq_true hsm) hd (fun v τ h => by obtain ⟨r, rfl, h⟩ := h; exact k r τ h)
theorem clX2_101 {k' : Nat} {id : Nat} {rest : List Value} {R : Int32 → Mem → Prop} (hM : MX0_crowd E k' [mx_rf E id] σ (mx_i R)) (hk : k' + 1 ≤ K) (h1 : 7 ≤ id) (h2 : id < 28) (hsm : Nat.ble ((rest.map fun v => v.category).sum) 8 = true) (hd : mx_at cc pc (.invokevirtual 101) 3 n) (k : ∀ (r : Int32) (τ : Mem), R r τ → MX E K RX2 cc nL ret n lv (.int r :: rest) τ post) : MX E K RX2 cc nL ret pc lv (mx_rf E id :: rest) σ post := x_callV hM hk (by decide) kcX0_crowd (mx_in (w := Cond.methodLink RX2 101 yX0_crowd) 464 (by decide +kernel) rfl) kiX0_crowd ksX0_crowd knX0 kyX0_crowd rfl (by omega) (mx_cH h1 h2) (ci := 0) rfl rfl rfl (Nat.le_of_ble_eq_true hsm) hd (fun v τ h => by obtain ⟨r, rfl, h⟩ := h; exact k r τ h)
theorem clX2_104 {x y : Int32} (hk : 1 ≤ K) (hsm : Nat.ble ((st.map fun v => v.category).sum) 8 = true) (hd : mx_at cc pc (.invokestatic 104) 3 n) (k : MX E K RX2 cc nL ret n lv (.int (if x < y then y else x) :: st) σ post) : MX E K RX2 cc nL ret pc lv (.int y :: .int x :: st) σ post := x_max (mx_in 490 (by decide +kernel) rfl) ktm_max knm kcm_max hk (by have := Nat.le_of_ble_eq_true hsm; omega) hd k
theorem clX4_36 {k' : Nat} {a1 : Value} {rest : List Value} {R : Int32 → Mem → Prop} (hM : MX4_no E k' [mx_rf E 35, a1] σ (mx_i R)) (hk : k' + 1 ≤ K) (hsm : Nat.ble ((rest.map fun v => v.category).sum) 8 = true) (hd : mx_at cc pc (.invokevirtual 36) 3 n) (k : ∀ (r : Int32) (τ : Mem), R r τ → MX E K RX4 cc nL ret n lv (.int r :: rest) τ post) : MX E K RX4 cc nL ret pc lv (a1 :: mx_rf E 35 :: rest) σ post := x_callV hM hk (by decide) kcX4_no (mx_in (w := Cond.methodLink RX4 36 yX4_no) 641 (by decide +kernel) rfl) kiX4_no ksX4_no knX4 kyX4_no rfl (by decide) rfl (ci := 4) rfl rfl rfl (Nat.le_of_ble_eq_true hsm) hd (fun v τ h => by obtain ⟨r, rfl, h⟩ := h; exact k r τ h)
theorem clX4_40 {k' : Nat} {a1 a2 a3 : Value} {rest : List Value} {R : Int32 → Mem → Prop} (hM : MX4_isIn E k' [a1, a2, a3] σ (mx_i R)) (hk : k' + 1 ≤ K) (hsm : Nat.ble ((rest.map fun v => v.category).sum) 8 = true) (hd : mx_at cc pc (.invokestatic 40) 3 n) (k : ∀ (r : Int32) (τ : Mem), R r τ → MX E K RX4 cc nL ret n lv (.int r :: rest) τ post) : MX E K RX4 cc nL ret pc lv (a3 :: a2 :: a1 :: rest) σ post := x_callS hM hk (by decide) kcX4_isIn (mx_in (w := Cond.methodLink RX4 40 yX4_isIn) 668 (by decide +kernel) rfl) ktX4_isIn knX4 kyX4_isIn rfl rfl (Nat.le_of_ble_eq_true hsm) hd (fun v τ h => by obtain ⟨r, rfl, h⟩ := h; exact k r τ h)
theorem clX4_44 {k' : Nat} {a1 a2 : Value} {rest : List Value} {R : Int32 → Mem → Prop} (hM : MX4_of E k' [a1, a2] σ (mx_i R)) (hk : k' + 1 ≤ K) (hsm : Nat.ble ((rest.map fun v => v.category).sum) 8 = true) (hd : mx_at cc pc (.invokestatic 44) 3 n) (k : ∀ (r : Int32) (τ : Mem), R r τ → MX E K RX4 cc nL ret n lv (.int r :: rest) τ post) : MX E K RX4 cc nL ret pc lv (a2 :: a1 :: rest) σ post := x_callS hM hk (by decide) kcX4_of (mx_in (w := Cond.methodLink RX4 44 yX4_of) 682 (by decide +kernel) rfl) ktX4_of knX4 kyX4_of rfl rfl (Nat.le_of_ble_eq_true hsm) hd (fun v τ h => by obtain ⟨r, rfl, h⟩ := h; exact k r τ h)
theorem clX4_48 {k' : Nat} {a1 a2 : Value} {rest : List Value} {R : Int32 → Mem → Prop} (hM : MX4_has E k' [a1, a2] σ (mx_i R)) (hk : k' + 1 ≤ K) (hsm : Nat.ble ((rest.map fun v => v.category).sum) 8 = true) (hd : mx_at cc pc (.invokestatic 48) 3 n) (k : ∀ (r : Int32) (τ : Mem), R r τ → MX E K RX4 cc nL ret n lv (.int r :: rest) τ post) : MX E K RX4 cc nL ret pc lv (a2 :: a1 :: rest) σ post := x_callS hM hk (by decide) kcX4_has (mx_in (w := Cond.methodLink RX4 48 yX4_has) 695 (by decide +kernel) rfl) ktX4_has knX4 kyX4_has rfl rfl (Nat.le_of_ble_eq_true hsm) hd (fun v τ h => by obtain ⟨r, rfl, h⟩ := h; exact k r τ h)
theorem clX4_52 {k' : Nat} {a1 a2 : Value} {rest : List Value} {R : Int32 → Mem → Prop} (hM : MX4_crowd E k' [a1, a2] σ (mx_i R)) (hk : k' + 1 ≤ K) (hsm : Nat.ble ((rest.map fun v => v.category).sum) 8 = true) (hd : mx_at cc pc (.invokestatic 52) 3 n) (k : ∀ (r : Int32) (τ : Mem), R r τ → MX E K RX4 cc nL ret n lv (.int r :: rest) τ post) : MX E K RX4 cc nL ret pc lv (a2 :: a1 :: rest) σ post := x_callS hM hk (by decide) kcX4_crowd (mx_in (w := Cond.methodLink RX4 52 yX4_crowd) 713 (by decide +kernel) rfl) ktX4_crowd knX4 kyX4_crowd rfl rfl (Nat.le_of_ble_eq_true hsm) hd (fun v τ h => by obtain ⟨r, rfl, h⟩ := h; exact k r τ h)
theorem clX4_56 {k' : Nat} {a1 a2 : Value} {rest : List Value} {R : Int32 → Mem → Prop} (hM : MX4_foundFrom E k' [a1, a2] σ (mx_i R)) (hk : k' + 1 ≤ K) (hsm : Nat.ble ((rest.map fun v => v.category).sum) 8 = true) (hd : mx_at cc pc (.invokestatic 56) 3 n) (k : ∀ (r : Int32) (τ : Mem), R r τ → MX E K RX4 cc nL ret n lv (.int r :: rest) τ post) : MX E K RX4 cc nL ret pc lv (a2 :: a1 :: rest) σ post := x_callS hM hk (by decide) kcX4_foundFrom (mx_in (w := Cond.methodLink RX4 56 yX4_foundFrom) 716 (by decide +kernel) rfl) ktX4_foundFrom knX4 kyX4_foundFrom rfl rfl (Nat.le_of_ble_eq_true hsm) hd (fun v τ h => by obtain ⟨r, rfl, h⟩ := h; exact k r τ h)
theorem clX4_59 {k' : Nat} {a1 : Value} {rest : List Value} {R : Int32 → Mem → Prop} (hM : MX4_burnsBy E k' [a1] σ (mx_i R)) (hk : k' + 1 ≤ K) (hsm : Nat.ble ((rest.map fun v => v.category).sum) 8 = true) (hd : mx_at cc pc (.invokestatic 59) 3 n) (k : ∀ (r : Int32) (τ : Mem), R r τ → MX E K RX4 cc nL ret n lv (.int r :: rest) τ post) : MX E K RX4 cc nL ret pc lv (a1 :: rest) σ post := x_callS hM hk (by decide) kcX4_burnsBy (mx_in (w := Cond.methodLink RX4 59 yX4_burnsBy) 701 (by decide +kernel) rfl) ktX4_burnsBy knX4 kyX4_burnsBy rfl rfl (Nat.le_of_ble_eq_true hsm) hd (fun v τ h => by obtain ⟨r, rfl, h⟩ := h; exact k r τ h)
theorem clX4_62 {k' : Nat} {a1 a2 a3 : Value} {rest : List Value} {R : Int32 → Mem → Prop} (hM : MX4_dustBy E k' [a1, a2, a3] σ (mx_i R)) (hk : k' + 1 ≤ K) (hsm : Nat.ble ((rest.map fun v => v.category).sum) 8 = true) (hd : mx_at cc pc (.invokestatic 62) 3 n) (k : ∀ (r : Int32) (τ : Mem), R r τ → MX E K RX4 cc nL ret n lv (.int r :: rest) τ post) : MX E K RX4 cc nL ret pc lv (a3 :: a2 :: a1 :: rest) σ post := x_callS hM hk (by decide) kcX4_dustBy (mx_in (w := Cond.methodLink RX4 62 yX4_dustBy) 704 (by decide +kernel) rfl) ktX4_dustBy knX4 kyX4_dustBy rfl rfl (Nat.le_of_ble_eq_true hsm) hd (fun v τ h => by obtain ⟨r, rfl, h⟩ := h; exact k r τ h)
theorem clX4_66 {k' : Nat} {a1 a2 : Value} {rest : List Value} {R : Int32 → Mem → Prop} (hM : MX4_least E k' [a1, a2] σ (mx_i R)) (hk : k' + 1 ≤ K) (hsm : Nat.ble ((rest.map fun v => v.category).sum) 8 = true) (hd : mx_at cc pc (.invokestatic 66) 3 n) (k : ∀ (r : Int32) (τ : Mem), R r τ → MX E K RX4 cc nL ret n lv (.int r :: rest) τ post) : MX E K RX4 cc nL ret pc lv (a2 :: a1 :: rest) σ post := x_callS hM hk (by decide) kcX4_least (mx_in (w := Cond.methodLink RX4 66 yX4_least) 707 (by decide +kernel) rfl) ktX4_least knX4 kyX4_least rfl rfl (Nat.le_of_ble_eq_true hsm) hd (fun v τ h => by obtain ⟨r, rfl, h⟩ := h; exact k r τ h)
theorem clX4_69 {k' : Nat} {a1 a2 : Value} {rest : List Value} {R : Int32 → Mem → Prop} (hM : MX4_isFound E k' [a1, a2] σ (mx_i R)) (hk : k' + 1 ≤ K) (hsm : Nat.ble ((rest.map fun v => v.category).sum) 8 = true) (hd : mx_at cc pc (.invokestatic 69) 3 n) (k : ∀ (r : Int32) (τ : Mem), R r τ → MX E K RX4 cc nL ret n lv (.int r :: rest) τ post) : MX E K RX4 cc nL ret pc lv (a2 :: a1 :: rest) σ post := x_callS hM hk (by decide) kcX4_isFound (mx_in (w := Cond.methodLink RX4 69 yX4_isFound) 710 (by decide +kernel) rfl) ktX4_isFound knX4 kyX4_isFound rfl rfl (Nat.le_of_ble_eq_true hsm) hd (fun v τ h => by obtain ⟨r, rfl, h⟩ := h; exact k r τ h)
theorem clX4_73 {k' : Nat} {a1 a2 : Value} {rest : List Value} {R : Int32 → Mem → Prop} (hM : MX4_nextKept E k' [a1, a2] σ (mx_i R)) (hk : k' + 1 ≤ K) (hsm : Nat.ble ((rest.map fun v => v.category).sum) 8 = true) (hd : mx_at cc pc (.invokestatic 73) 3 n) (k : ∀ (r : Int32) (τ : Mem), R r τ → MX E K RX4 cc nL ret n lv (.int r :: rest) τ post) : MX E K RX4 cc nL ret pc lv (a2 :: a1 :: rest) σ post := x_callS hM hk (by decide) kcX4_nextKept (mx_in (w := Cond.methodLink RX4 73 yX4_nextKept) 722 (by decide +kernel) rfl) ktX4_nextKept knX4 kyX4_nextKept rfl rfl (Nat.le_of_ble_eq_true hsm) hd (fun v τ h => by obtain ⟨r, rfl, h⟩ := h; exact k r τ h)
theorem clX4_76 {k' : Nat} {a1 a2 : Value} {rest : List Value} {R : Mem → Prop} (hM : MX4_ages E k' [a1, a2] σ (mx_v R)) (hk : k' + 1 ≤ K) (hsm : Nat.ble ((rest.map fun v => v.category).sum) 8 = true) (hd : mx_at cc pc (.invokestatic 76) 3 n) (k : ∀ (τ : Mem), R τ → MX E K RX4 cc nL ret n lv rest τ post) : MX E K RX4 cc nL ret pc lv (a2 :: a1 :: rest) σ post := x_callS hM hk (by decide) kcX4_ages (mx_in (w := Cond.methodLink RX4 76 yX4_ages) 698 (by decide +kernel) rfl) ktX4_ages knX4 kyX4_ages rfl rfl (Nat.le_of_ble_eq_true hsm) hd (fun v τ h => by obtain ⟨rfl, h⟩ := h; exact k τ h)
theorem clX4_80 {k' : Nat} {a1 a2 : Value} {rest : List Value} {R : Mem → Prop} (hM : MX4_loses E k' [a1, a2] σ (mx_v R)) (hk : k' + 1 ≤ K) (hsm : Nat.ble ((rest.map fun v => v.category).sum) 8 = true) (hd : mx_at cc pc (.invokestatic 80) 3 n) (k : ∀ (τ : Mem), R τ → MX E K RX4 cc nL ret n lv rest τ post) : MX E K RX4 cc nL ret pc lv (a2 :: a1 :: rest) σ post := x_callS hM hk (by decide) kcX4_loses (mx_in (w := Cond.methodLink RX4 80 yX4_loses) 719 (by decide +kernel) rfl) ktX4_loses knX4 kyX4_loses rfl rfl (Nat.le_of_ble_eq_true hsm) hd (fun v τ h => by obtain ⟨rfl, h⟩ := h; exact k τ h)
theorem clX4_83 {k' : Nat} {a1 : Value} {rest : List Value} {R : Mem → Prop} (hM : MX4_week E k' [a1] σ (mx_v R)) (hk : k' + 1 ≤ K) (hsm : Nat.ble ((rest.map fun v => v.category).sum) 8 = true) (hd : mx_at cc pc (.invokestatic 83) 3 n) (k : ∀ (τ : Mem), R τ → MX E K RX4 cc nL ret n lv rest τ post) : MX E K RX4 cc nL ret pc lv (a1 :: rest) σ post := x_callS hM hk (by decide) kcX4_week (mx_in (w := Cond.methodLink RX4 83 yX4_week) 692 (by decide +kernel) rfl) ktX4_week knX4 kyX4_week rfl rfl (Nat.le_of_ble_eq_true hsm) hd (fun v τ h => by obtain ⟨rfl, h⟩ := h; exact k τ h)
theorem clX4_94 {k' : Nat} {rest : List Value} {R : Int32 → Mem → Prop} (hM : MX4_here E k' [mx_rf E 35] σ (mx_i R)) (hk : k' + 1 ≤ K) (hsm : Nat.ble ((rest.map fun v => v.category).sum) 8 = true) (hd : mx_at cc pc (.invokevirtual 94) 3 n) (k : ∀ (r : Int32) (τ : Mem), R r τ → MX E K RX4 cc nL ret n lv (.int r :: rest) τ post) : MX E K RX4 cc nL ret pc lv (mx_rf E 35 :: rest) σ post := x_callV hM hk (by decide) kcX4_here (mx_in (w := Cond.methodLink RX4 94 yX4_here) 653 (by decide +kernel) rfl) kiX4_here ksX4_here knX4 kyX4_here rfl (by decide) rfl (ci := 4) rfl rfl rfl (Nat.le_of_ble_eq_true hsm) hd (fun v τ h => by obtain ⟨r, rfl, h⟩ := h; exact k r τ h)
theorem clX4_98 {k' : Nat} {a1 : Value} {rest : List Value} {R : Int32 → Mem → Prop} (hM : MX4_kindBy E k' [a1] σ (mx_i R)) (hk : k' + 1 ≤ K) (hsm : Nat.ble ((rest.map fun v => v.category).sum) 8 = true) (hd : mx_at cc pc (.invokestatic 98) 3 n) (k : ∀ (r : Int32) (τ : Mem), R r τ → MX E K RX4 cc nL ret n lv (.int r :: rest) τ post) : MX E K RX4 cc nL ret pc lv (a1 :: rest) σ post := x_callS hM hk (by decide) kcX4_kindBy (mx_in (w := Cond.methodLink RX4 98 yX4_kindBy) 661 (by decide +kernel) rfl) ktX4_kindBy knX4 kyX4_kindBy rfl rfl (Nat.le_of_ble_eq_true hsm) hd (fun v τ h => by obtain ⟨r, rfl, h⟩ := h; exact k r τ h)
theorem clX4_101 {k' : Nat} {rest : List Value} {R : Int32 → Mem → Prop} (hM : MX4_readsKind E k' [mx_rf E 35] σ (mx_i R)) (hk : k' + 1 ≤ K) (hsm : Nat.ble ((rest.map fun v => v.category).sum) 8 = true) (hd : mx_at cc pc (.invokevirtual 101) 3 n) (k : ∀ (r : Int32) (τ : Mem), R r τ → MX E K RX4 cc nL ret n lv (.int r :: rest) τ post) : MX E K RX4 cc nL ret pc lv (mx_rf E 35 :: rest) σ post := x_callV hM hk (by decide) kcX4_readsKind (mx_in (w := Cond.methodLink RX4 101 yX4_readsKind) 657 (by decide +kernel) rfl) kiX4_readsKind ksX4_readsKind knX4 kyX4_readsKind rfl (by decide) rfl (ci := 4) rfl rfl rfl (Nat.le_of_ble_eq_true hsm) hd (fun v τ h => by obtain ⟨r, rfl, h⟩ := h; exact k r τ h)
theorem clX4_105 {k' : Nat} {a1 a2 : Value} {rest : List Value} {R : Int32 → Mem → Prop} (hM : MX4_readsNumber E k' [mx_rf E 35, a1, a2] σ (mx_i R)) (hk : k' + 1 ≤ K) (hsm : Nat.ble ((rest.map fun v => v.category).sum) 8 = true) (hd : mx_at cc pc (.invokevirtual 105) 3 n) (k : ∀ (r : Int32) (τ : Mem), R r τ → MX E K RX4 cc nL ret n lv (.int r :: rest) τ post) : MX E K RX4 cc nL ret pc lv (a2 :: a1 :: mx_rf E 35 :: rest) σ post := x_callV hM hk (by decide) kcX4_readsNumber (mx_in (w := Cond.methodLink RX4 105 yX4_readsNumber) 664 (by decide +kernel) rfl) kiX4_readsNumber ksX4_readsNumber knX4 kyX4_readsNumber rfl (by decide) rfl (ci := 4) rfl rfl rfl (Nat.le_of_ble_eq_true hsm) hd (fun v τ h => by obtain ⟨r, rfl, h⟩ := h; exact k r τ h)
theorem clX4_108 {k' : Nat} {rest : List Value} {R : Int32 → Mem → Prop} (hM : MX4_addsHouse E k' [mx_rf E 35] σ (mx_i R)) (hk : k' + 1 ≤ K) (hsm : Nat.ble ((rest.map fun v => v.category).sum) 8 = true) (hd : mx_at cc pc (.invokevirtual 108) 3 n) (k : ∀ (r : Int32) (τ : Mem), R r τ → MX E K RX4 cc nL ret n lv (.int r :: rest) τ post) : MX E K RX4 cc nL ret pc lv (mx_rf E 35 :: rest) σ post := x_callV hM hk (by decide) kcX4_addsHouse (mx_in (w := Cond.methodLink RX4 108 yX4_addsHouse) 678 (by decide +kernel) rfl) kiX4_addsHouse ksX4_addsHouse knX4 kyX4_addsHouse rfl (by decide) rfl (ci := 4) rfl rfl rfl (Nat.le_of_ble_eq_true hsm) hd (fun v τ h => by obtain ⟨r, rfl, h⟩ := h; exact k r τ h)
theorem clX4_111 {k' : Nat} {a1 : Value} {rest : List Value} {R : Int32 → Mem → Prop} (hM : MX4_isHouse E k' [mx_rf E 35, a1] σ (mx_i R)) (hk : k' + 1 ≤ K) (hsm : Nat.ble ((rest.map fun v => v.category).sum) 8 = true) (hd : mx_at cc pc (.invokevirtual 111) 3 n) (k : ∀ (r : Int32) (τ : Mem), R r τ → MX E K RX4 cc nL ret n lv (.int r :: rest) τ post) : MX E K RX4 cc nL ret pc lv (a1 :: mx_rf E 35 :: rest) σ post := x_callV hM hk (by decide) kcX4_isHouse (mx_in (w := Cond.methodLink RX4 111 yX4_isHouse) 685 (by decide +kernel) rfl) kiX4_isHouse ksX4_isHouse knX4 kyX4_isHouse rfl (by decide) rfl (ci := 4) rfl rfl rfl (Nat.le_of_ble_eq_true hsm) hd (fun v τ h => by obtain ⟨r, rfl, h⟩ := h; exact k r τ h)
theorem clX4_115 {k' : Nat} {a1 a2 : Value} {rest : List Value} {R : Mem → Prop} (hM : MX4_weeksOn E k' [a1, a2] σ (mx_v R)) (hk : k' + 1 ≤ K) (hsm : Nat.ble ((rest.map fun v => v.category).sum) 8 = true) (hd : mx_at cc pc (.invokestatic 115) 3 n) (k : ∀ (τ : Mem), R τ → MX E K RX4 cc nL ret n lv rest τ post) : MX E K RX4 cc nL ret pc lv (a2 :: a1 :: rest) σ post := x_callS hM hk (by decide) kcX4_weeksOn (mx_in (w := Cond.methodLink RX4 115 yX4_weeksOn) 689 (by decide +kernel) rfl) ktX4_weeksOn knX4 kyX4_weeksOn rfl rfl (Nat.le_of_ble_eq_true hsm) hd (fun v τ h => by obtain ⟨rfl, h⟩ := h; exact k τ h)
theorem clX4_118 {k' : Nat} {rest : List Value} {R : Int32 → Mem → Prop} (hM : MX4_readsStatement E k' [mx_rf E 35] σ (mx_i R)) (hk : k' + 1 ≤ K) (hsm : Nat.ble ((rest.map fun v => v.category).sum) 8 = true) (hd : mx_at cc pc (.invokevirtual 118) 3 n) (k : ∀ (r : Int32) (τ : Mem), R r τ → MX E K RX4 cc nL ret n lv (.int r :: rest) τ post) : MX E K RX4 cc nL ret pc lv (mx_rf E 35 :: rest) σ post := x_callV hM hk (by decide) kcX4_readsStatement (mx_in (w := Cond.methodLink RX4 118 yX4_readsStatement) 649 (by decide +kernel) rfl) kiX4_readsStatement ksX4_readsStatement knX4 kyX4_readsStatement rfl (by decide) rfl (ci := 4) rfl rfl rfl (Nat.le_of_ble_eq_true hsm) hd (fun v τ h => by obtain ⟨r, rfl, h⟩ := h; exact k r τ h)
theorem clX4_121 {k' : Nat} {a1 a2 : Value} {rest : List Value} {R : Mem → Prop} (hM : MX4_copies E k' [a1, a2] σ (mx_v R)) (hk : k' + 1 ≤ K) (hsm : Nat.ble ((rest.map fun v => v.category).sum) 8 = true) (hd : mx_at cc pc (.invokestatic 121) 3 n) (k : ∀ (τ : Mem), R τ → MX E K RX4 cc nL ret n lv rest τ post) : MX E K RX4 cc nL ret pc lv (a2 :: a1 :: rest) σ post := x_callS hM hk (by decide) kcX4_copies (mx_in (w := Cond.methodLink RX4 121 yX4_copies) 671 (by decide +kernel) rfl) ktX4_copies knX4 kyX4_copies rfl rfl (Nat.le_of_ble_eq_true hsm) hd (fun v τ h => by obtain ⟨rfl, h⟩ := h; exact k τ h)
theorem clX4_125 {k' : Nat} {a1 : Value} {rest : List Value} {R : Int32 → Mem → Prop} (hM : MX4_isDone E k' [mx_rf E 35, a1] σ (mx_i R)) (hk : k' + 1 ≤ K) (hsm : Nat.ble ((rest.map fun v => v.category).sum) 8 = true) (hd : mx_at cc pc (.invokevirtual 125) 3 n) (k : ∀ (r : Int32) (τ : Mem), R r τ → MX E K RX4 cc nL ret n lv (.int r :: rest) τ post) : MX E K RX4 cc nL ret pc lv (a1 :: mx_rf E 35 :: rest) σ post := x_callV hM hk (by decide) kcX4_isDone (mx_in (w := Cond.methodLink RX4 125 yX4_isDone) 674 (by decide +kernel) rfl) kiX4_isDone ksX4_isDone knX4 kyX4_isDone rfl (by decide) rfl (ci := 4) rfl rfl rfl (Nat.le_of_ble_eq_true hsm) hd (fun v τ h => by obtain ⟨r, rfl, h⟩ := h; exact k r τ h)
theorem clX4_128 {k' : Nat} {a1 a2 a3 : Value} {rest : List Value} {R : Int32 → Mem → Prop} (hM : MX4_wrongBy E k' [a1, a2, a3] σ (mx_i R)) (hk : k' + 1 ≤ K) (hsm : Nat.ble ((rest.map fun v => v.category).sum) 8 = true) (hd : mx_at cc pc (.invokestatic 128) 3 n) (k : ∀ (r : Int32) (τ : Mem), R r τ → MX E K RX4 cc nL ret n lv (.int r :: rest) τ post) : MX E K RX4 cc nL ret pc lv (a3 :: a2 :: a1 :: rest) σ post := x_callS hM hk (by decide) kcX4_wrongBy (mx_in (w := Cond.methodLink RX4 128 yX4_wrongBy) 737 (by decide +kernel) rfl) ktX4_wrongBy knX4 kyX4_wrongBy rfl rfl (Nat.le_of_ble_eq_true hsm) hd (fun v τ h => by obtain ⟨r, rfl, h⟩ := h; exact k r τ h)
theorem clX4_131 {k' : Nat} {a1 a2 : Value} {rest : List Value} {R : Int32 → Mem → Prop} (hM : MX4_sets E k' [mx_rf E 35, a1, a2] σ (mx_i R)) (hk : k' + 1 ≤ K) (hsm : Nat.ble ((rest.map fun v => v.category).sum) 8 = true) (hd : mx_at cc pc (.invokevirtual 131) 3 n) (k : ∀ (r : Int32) (τ : Mem), R r τ → MX E K RX4 cc nL ret n lv (.int r :: rest) τ post) : MX E K RX4 cc nL ret pc lv (a2 :: a1 :: mx_rf E 35 :: rest) σ post := x_callV hM hk (by decide) kcX4_sets (mx_in (w := Cond.methodLink RX4 131 yX4_sets) 740 (by decide +kernel) rfl) kiX4_sets ksX4_sets knX4 kyX4_sets rfl (by decide) rfl (ci := 4) rfl rfl rfl (Nat.le_of_ble_eq_true hsm) hd (fun v τ h => by obtain ⟨r, rfl, h⟩ := h; exact k r τ h)
theorem clX4_134 {k' : Nat} {a1 a2 a3 a4 : Value} {rest : List Value} {R : Int32 → Mem → Prop} (hM : MX4_setsOf E k' [mx_rf E 35, a1, a2, a3, a4] σ (mx_i R)) (hk : k' + 1 ≤ K) (hsm : Nat.ble ((rest.map fun v => v.category).sum) 8 = true) (hd : mx_at cc pc (.invokevirtual 134) 3 n) (k : ∀ (r : Int32) (τ : Mem), R r τ → MX E K RX4 cc nL ret n lv (.int r :: rest) τ post) : MX E K RX4 cc nL ret pc lv (a4 :: a3 :: a2 :: a1 :: mx_rf E 35 :: rest) σ post := x_callV hM hk (by decide) kcX4_setsOf (mx_in (w := Cond.methodLink RX4 134 yX4_setsOf) 733 (by decide +kernel) rfl) kiX4_setsOf ksX4_setsOf knX4 kyX4_setsOf rfl (by decide) rfl (ci := 4) rfl rfl rfl (Nat.le_of_ble_eq_true hsm) hd (fun v τ h => by obtain ⟨r, rfl, h⟩ := h; exact k r τ h)
theorem clX4_138 {k' : Nat} {a1 : Value} {rest : List Value} {R : Int32 → Mem → Prop} (hM : MX4_bits E k' [a1] σ (mx_i R)) (hk : k' + 1 ≤ K) (hsm : Nat.ble ((rest.map fun v => v.category).sum) 8 = true) (hd : mx_at cc pc (.invokestatic 138) 3 n) (k : ∀ (r : Int32) (τ : Mem), R r τ → MX E K RX4 cc nL ret n lv (.int r :: rest) τ post) : MX E K RX4 cc nL ret pc lv (a1 :: rest) σ post := x_callS hM hk (by decide) kcX4_bits (mx_in (w := Cond.methodLink RX4 138 yX4_bits) 772 (by decide +kernel) rfl) ktX4_bits knX4 kyX4_bits rfl rfl (Nat.le_of_ble_eq_true hsm) hd (fun v τ h => by obtain ⟨r, rfl, h⟩ := h; exact k r τ h)
theorem clX4_141 {k' : Nat} {a1 : Value} {rest : List Value} {R : Mem → Prop} (hM : MX4_takes E k' [mx_rf E 35, a1] σ (mx_v R)) (hk : k' + 1 ≤ K) (hsm : Nat.ble ((rest.map fun v => v.category).sum) 8 = true) (hd : mx_at cc pc (.invokevirtual 141) 3 n) (k : ∀ (τ : Mem), R τ → MX E K RX4 cc nL ret n lv rest τ post) : MX E K RX4 cc nL ret pc lv (a1 :: mx_rf E 35 :: rest) σ post := x_callV hM hk (by decide) kcX4_takes (mx_in (w := Cond.methodLink RX4 141 yX4_takes) 779 (by decide +kernel) rfl) kiX4_takes ksX4_takes knX4 kyX4_takes rfl (by decide) rfl (ci := 4) rfl rfl rfl (Nat.le_of_ble_eq_true hsm) hd (fun v τ h => by obtain ⟨rfl, h⟩ := h; exact k τ h)
theorem clX4_145 {k' : Nat} {a1 : Value} {rest : List Value} {R : Int32 → Mem → Prop} (hM : MX4_whenLost E k' [mx_rf E 35, a1] σ (mx_i R)) (hk : k' + 1 ≤ K) (hsm : Nat.ble ((rest.map fun v => v.category).sum) 8 = true) (hd : mx_at cc pc (.invokevirtual 145) 3 n) (k : ∀ (r : Int32) (τ : Mem), R r τ → MX E K RX4 cc nL ret n lv (.int r :: rest) τ post) : MX E K RX4 cc nL ret pc lv (a1 :: mx_rf E 35 :: rest) σ post := x_callV hM hk (by decide) kcX4_whenLost (mx_in (w := Cond.methodLink RX4 145 yX4_whenLost) 800 (by decide +kernel) rfl) kiX4_whenLost ksX4_whenLost knX4 kyX4_whenLost rfl (by decide) rfl (ci := 4) rfl rfl rfl (Nat.le_of_ble_eq_true hsm) hd (fun v τ h => by obtain ⟨r, rfl, h⟩ := h; exact k r τ h)
theorem clX4_149 {k' : Nat} {a1 : Value} {rest : List Value} {R : Int32 → Mem → Prop} (hM : MX4_lostOf E k' [mx_rf E 35, a1] σ (mx_i R)) (hk : k' + 1 ≤ K) (hsm : Nat.ble ((rest.map fun v => v.category).sum) 8 = true) (hd : mx_at cc pc (.invokevirtual 149) 3 n) (k : ∀ (r : Int32) (τ : Mem), R r τ → MX E K RX4 cc nL ret n lv (.int r :: rest) τ post) : MX E K RX4 cc nL ret pc lv (a1 :: mx_rf E 35 :: rest) σ post := x_callV hM hk (by decide) kcX4_lostOf (mx_in (w := Cond.methodLink RX4 149 yX4_lostOf) 796 (by decide +kernel) rfl) kiX4_lostOf ksX4_lostOf knX4 kyX4_lostOf rfl (by decide) rfl (ci := 4) rfl rfl rfl (Nat.le_of_ble_eq_true hsm) hd (fun v τ h => by obtain ⟨r, rfl, h⟩ := h; exact k r τ h)
theorem clX4_152 {k' : Nat} {rest : List Value} {R : Int32 → Mem → Prop} (hM : MX4_firstLost E k' [mx_rf E 35] σ (mx_i R)) (hk : k' + 1 ≤ K) (hsm : Nat.ble ((rest.map fun v => v.category).sum) 8 = true) (hd : mx_at cc pc (.invokevirtual 152) 3 n) (k : ∀ (r : Int32) (τ : Mem), R r τ → MX E K RX4 cc nL ret n lv (.int r :: rest) τ post) : MX E K RX4 cc nL ret pc lv (mx_rf E 35 :: rest) σ post := x_callV hM hk (by decide) kcX4_firstLost (mx_in (w := Cond.methodLink RX4 152 yX4_firstLost) 791 (by decide +kernel) rfl) kiX4_firstLost ksX4_firstLost knX4 kyX4_firstLost rfl (by decide) rfl (ci := 4) rfl rfl rfl (Nat.le_of_ble_eq_true hsm) hd (fun v τ h => by obtain ⟨r, rfl, h⟩ := h; exact k r τ h)
theorem clX4_155 {k' : Nat} {a1 : Value} {rest : List Value} {R : Int32 → Mem → Prop} (hM : MX4_burnsIn E k' [a1] σ (mx_i R)) (hk : k' + 1 ≤ K) (hsm : Nat.ble ((rest.map fun v => v.category).sum) 8 = true) (hd : mx_at cc pc (.invokestatic 155) 3 n) (k : ∀ (r : Int32) (τ : Mem), R r τ → MX E K RX4 cc nL ret n lv (.int r :: rest) τ post) : MX E K RX4 cc nL ret pc lv (a1 :: rest) σ post := x_callS hM hk (by decide) kcX4_burnsIn (mx_in (w := Cond.methodLink RX4 155 yX4_burnsIn) 808 (by decide +kernel) rfl) ktX4_burnsIn knX4 kyX4_burnsIn rfl rfl (Nat.le_of_ble_eq_true hsm) hd (fun v τ h => by obtain ⟨r, rfl, h⟩ := h; exact k r τ h)
theorem clX4_159 {k' : Nat} {a1 : Value} {rest : List Value} {R : Int32 → Mem → Prop} (hM : MX4_keptThen E k' [mx_rf E 35, a1] σ (mx_i R)) (hk : k' + 1 ≤ K) (hsm : Nat.ble ((rest.map fun v => v.category).sum) 8 = true) (hd : mx_at cc pc (.invokevirtual 159) 3 n) (k : ∀ (r : Int32) (τ : Mem), R r τ → MX E K RX4 cc nL ret n lv (.int r :: rest) τ post) : MX E K RX4 cc nL ret pc lv (a1 :: mx_rf E 35 :: rest) σ post := x_callV hM hk (by decide) kcX4_keptThen (mx_in (w := Cond.methodLink RX4 159 yX4_keptThen) 815 (by decide +kernel) rfl) kiX4_keptThen ksX4_keptThen knX4 kyX4_keptThen rfl (by decide) rfl (ci := 4) rfl rfl rfl (Nat.le_of_ble_eq_true hsm) hd (fun v τ h => by obtain ⟨r, rfl, h⟩ := h; exact k r τ h)
theorem clX4_162 {k' : Nat} {a1 : Value} {rest : List Value} {R : Int32 → Mem → Prop} (hM : MX4_isNoneLost E k' [mx_rf E 35, a1] σ (mx_i R)) (hk : k' + 1 ≤ K) (hsm : Nat.ble ((rest.map fun v => v.category).sum) 8 = true) (hd : mx_at cc pc (.invokevirtual 162) 3 n) (k : ∀ (r : Int32) (τ : Mem), R r τ → MX E K RX4 cc nL ret n lv (.int r :: rest) τ post) : MX E K RX4 cc nL ret pc lv (a1 :: mx_rf E 35 :: rest) σ post := x_callV hM hk (by decide) kcX4_isNoneLost (mx_in (w := Cond.methodLink RX4 162 yX4_isNoneLost) 827 (by decide +kernel) rfl) kiX4_isNoneLost ksX4_isNoneLost knX4 kyX4_isNoneLost rfl (by decide) rfl (ci := 4) rfl rfl rfl (Nat.le_of_ble_eq_true hsm) hd (fun v τ h => by obtain ⟨r, rfl, h⟩ := h; exact k r τ h)
theorem clX4_165 {k' : Nat} {rest : List Value} {R : Int32 → Mem → Prop} (hM : MX4_spareOnes E k' [mx_rf E 35] σ (mx_i R)) (hk : k' + 1 ≤ K) (hsm : Nat.ble ((rest.map fun v => v.category).sum) 8 = true) (hd : mx_at cc pc (.invokevirtual 165) 3 n) (k : ∀ (r : Int32) (τ : Mem), R r τ → MX E K RX4 cc nL ret n lv (.int r :: rest) τ post) : MX E K RX4 cc nL ret pc lv (mx_rf E 35 :: rest) σ post := x_callV hM hk (by decide) kcX4_spareOnes (mx_in (w := Cond.methodLink RX4 165 yX4_spareOnes) 847 (by decide +kernel) rfl) kiX4_spareOnes ksX4_spareOnes knX4 kyX4_spareOnes rfl (by decide) rfl (ci := 4) rfl rfl rfl (Nat.le_of_ble_eq_true hsm) hd (fun v τ h => by obtain ⟨r, rfl, h⟩ := h; exact k r τ h)
theorem clX4_168 {k' : Nat} {rest : List Value} {R : Int32 → Mem → Prop} (hM : MX4_fullest E k' [mx_rf E 35] σ (mx_i R)) (hk : k' + 1 ≤ K) (hsm : Nat.ble ((rest.map fun v => v.category).sum) 8 = true) (hd : mx_at cc pc (.invokevirtual 168) 3 n) (k : ∀ (r : Int32) (τ : Mem), R r τ → MX E K RX4 cc nL ret n lv (.int r :: rest) τ post) : MX E K RX4 cc nL ret pc lv (mx_rf E 35 :: rest) σ post := x_callV hM hk (by decide) kcX4_fullest (mx_in (w := Cond.methodLink RX4 168 yX4_fullest) 851 (by decide +kernel) rfl) kiX4_fullest ksX4_fullest knX4 kyX4_fullest rfl (by decide) rfl (ci := 4) rfl rfl rfl (Nat.le_of_ble_eq_true hsm) hd (fun v τ h => by obtain ⟨r, rfl, h⟩ := h; exact k r τ h)
theorem clX4_171 {k' : Nat} {rest : List Value} {R : Int32 → Mem → Prop} (hM : MX4_dustiest E k' [mx_rf E 35] σ (mx_i R)) (hk : k' + 1 ≤ K) (hsm : Nat.ble ((rest.map fun v => v.category).sum) 8 = true) (hd : mx_at cc pc (.invokevirtual 171) 3 n) (k : ∀ (r : Int32) (τ : Mem), R r τ → MX E K RX4 cc nL ret n lv (.int r :: rest) τ post) : MX E K RX4 cc nL ret pc lv (mx_rf E 35 :: rest) σ post := x_callV hM hk (by decide) kcX4_dustiest (mx_in (w := Cond.methodLink RX4 171 yX4_dustiest) 855 (by decide +kernel) rfl) kiX4_dustiest ksX4_dustiest knX4 kyX4_dustiest rfl (by decide) rfl (ci := 4) rfl rfl rfl (Nat.le_of_ble_eq_true hsm) hd (fun v τ h => by obtain ⟨r, rfl, h⟩ := h; exact k r τ h)
theorem clX4_174 {k' : Nat} {rest : List Value} {R : Int32 → Mem → Prop} (hM : MX4_lostRun E k' [mx_rf E 35] σ (mx_i R)) (hk : k' + 1 ≤ K) (hsm : Nat.ble ((rest.map fun v => v.category).sum) 8 = true) (hd : mx_at cc pc (.invokevirtual 174) 3 n) (k : ∀ (r : Int32) (τ : Mem), R r τ → MX E K RX4 cc nL ret n lv (.int r :: rest) τ post) : MX E K RX4 cc nL ret pc lv (mx_rf E 35 :: rest) σ post := x_callV hM hk (by decide) kcX4_lostRun (mx_in (w := Cond.methodLink RX4 174 yX4_lostRun) 867 (by decide +kernel) rfl) kiX4_lostRun ksX4_lostRun knX4 kyX4_lostRun rfl (by decide) rfl (ci := 4) rfl rfl rfl (Nat.le_of_ble_eq_true hsm) hd (fun v τ h => by obtain ⟨r, rfl, h⟩ := h; exact k r τ h)
theorem clX4_177 {k' : Nat} {a1 : Value} {rest : List Value} {R : Mem → Prop} (hM : MX4_lets E k' [mx_rf E 35, a1] σ (mx_v R)) (hk : k' + 1 ≤ K) (hsm : Nat.ble ((rest.map fun v => v.category).sum) 8 = true) (hd : mx_at cc pc (.invokevirtual 177) 3 n) (k : ∀ (τ : Mem), R τ → MX E K RX4 cc nL ret n lv rest τ post) : MX E K RX4 cc nL ret pc lv (a1 :: mx_rf E 35 :: rest) σ post := x_callV hM hk (by decide) kcX4_lets (mx_in (w := Cond.methodLink RX4 177 yX4_lets) 879 (by decide +kernel) rfl) kiX4_lets ksX4_lets knX4 kyX4_lets rfl (by decide) rfl (ci := 4) rfl rfl rfl (Nat.le_of_ble_eq_true hsm) hd (fun v τ h => by obtain ⟨rfl, h⟩ := h; exact k τ h)
theorem clX4_180 {k' : Nat} {a1 a2 a3 a4 a5 a6 : Value} {rest : List Value} {R : Int32 → Mem → Prop} (hM : MX4_hasBy E k' [mx_rf E 35, a1, a2, a3, a4, a5, a6] σ (mx_i R)) (hk : k' + 1 ≤ K) (hsm : Nat.ble ((rest.map fun v => v.category).sum) 8 = true) (hd : mx_at cc pc (.invokevirtual 180) 3 n) (k : ∀ (r : Int32) (τ : Mem), R r τ → MX E K RX4 cc nL ret n lv (.int r :: rest) τ post) : MX E K RX4 cc nL ret pc lv (a6 :: a5 :: a4 :: a3 :: a2 :: a1 :: mx_rf E 35 :: rest) σ post := x_callV hM hk (by decide) kcX4_hasBy (mx_in (w := Cond.methodLink RX4 180 yX4_hasBy) 875 (by decide +kernel) rfl) kiX4_hasBy ksX4_hasBy knX4 kyX4_hasBy rfl (by decide) rfl (ci := 4) rfl rfl rfl (Nat.le_of_ble_eq_true hsm) hd (fun v τ h => by obtain ⟨r, rfl, h⟩ := h; exact k r τ h)
theorem clX4_184 {k' : Nat} {a1 a2 : Value} {rest : List Value} {R : Int64 → Mem → Prop} (hM : MX4_gcd E k' [a1, a2] σ (mx_l R)) (hk : k' + 1 ≤ K) (hsm : Nat.ble ((rest.map fun v => v.category).sum) 8 = true) (hd : mx_at cc pc (.invokestatic 184) 3 n) (k : ∀ (r : Int64) (τ : Mem), R r τ → MX E K RX4 cc nL ret n lv (.long r :: rest) τ post) : MX E K RX4 cc nL ret pc lv (a2 :: a1 :: rest) σ post := x_callS hM hk (by decide) kcX4_gcd (mx_in (w := Cond.methodLink RX4 184 yX4_gcd) 895 (by decide +kernel) rfl) ktX4_gcd knX4 kyX4_gcd rfl rfl (Nat.le_of_ble_eq_true hsm) hd (fun v τ h => by obtain ⟨r, rfl, h⟩ := h; exact k r τ h)
theorem clX4_188 {k' : Nat} {a1 : Value} {rest : List Value} {R : Int64 → Mem → Prop} (hM : MX4_noWide E k' [mx_rf E 35, a1] σ (mx_l R)) (hk : k' + 1 ≤ K) (hsm : Nat.ble ((rest.map fun v => v.category).sum) 8 = true) (hd : mx_at cc pc (.invokevirtual 188) 3 n) (k : ∀ (r : Int64) (τ : Mem), R r τ → MX E K RX4 cc nL ret n lv (.long r :: rest) τ post) : MX E K RX4 cc nL ret pc lv (a1 :: mx_rf E 35 :: rest) σ post := x_callV hM hk (by decide) kcX4_noWide (mx_in (w := Cond.methodLink RX4 188 yX4_noWide) 887 (by decide +kernel) rfl) kiX4_noWide ksX4_noWide knX4 kyX4_noWide rfl (by decide) rfl (ci := 4) rfl rfl rfl (Nat.le_of_ble_eq_true hsm) hd (fun v τ h => by obtain ⟨r, rfl, h⟩ := h; exact k r τ h)
theorem clX4_192 {k' : Nat} {a1 a2 a3 : Value} {rest : List Value} {R : Int64 → Mem → Prop} (hM : MX4_partOf E k' [a1, a2, a3] σ (mx_l R)) (hk : k' + 1 ≤ K) (hsm : Nat.ble ((rest.map fun v => v.category).sum) 8 = true) (hd : mx_at cc pc (.invokestatic 192) 3 n) (k : ∀ (r : Int64) (τ : Mem), R r τ → MX E K RX4 cc nL ret n lv (.long r :: rest) τ post) : MX E K RX4 cc nL ret pc lv (a3 :: a2 :: a1 :: rest) σ post := x_callS hM hk (by decide) kcX4_partOf (mx_in (w := Cond.methodLink RX4 192 yX4_partOf) 892 (by decide +kernel) rfl) ktX4_partOf knX4 kyX4_partOf rfl rfl (Nat.le_of_ble_eq_true hsm) hd (fun v τ h => by obtain ⟨r, rfl, h⟩ := h; exact k r τ h)
theorem clX4_196 {k' : Nat} {a1 : Value} {rest : List Value} {R : Int32 → Mem → Prop} (hM : MX4_allPeople E k' [a1] σ (mx_i R)) (hk : k' + 1 ≤ K) (hsm : Nat.ble ((rest.map fun v => v.category).sum) 8 = true) (hd : mx_at cc pc (.invokestatic 196) 3 n) (k : ∀ (r : Int32) (τ : Mem), R r τ → MX E K RX4 cc nL ret n lv (.int r :: rest) τ post) : MX E K RX4 cc nL ret pc lv (a1 :: rest) σ post := x_callS hM hk (by decide) kcX4_allPeople (mx_in (w := Cond.methodLink RX4 196 yX4_allPeople) 902 (by decide +kernel) rfl) ktX4_allPeople knX4 kyX4_allPeople rfl rfl (Nat.le_of_ble_eq_true hsm) hd (fun v τ h => by obtain ⟨r, rfl, h⟩ := h; exact k r τ h)
theorem clX4_208 {k' : Nat} {a1 : Value} {rest : List Value} {R : Int32 → Mem → Prop} (hM : MX4_drawn E k' [mx_rf E 35, a1] σ (mx_i R)) (hk : k' + 1 ≤ K) (hsm : Nat.ble ((rest.map fun v => v.category).sum) 8 = true) (hd : mx_at cc pc (.invokevirtual 208) 3 n) (k : ∀ (r : Int32) (τ : Mem), R r τ → MX E K RX4 cc nL ret n lv (.int r :: rest) τ post) : MX E K RX4 cc nL ret pc lv (a1 :: mx_rf E 35 :: rest) σ post := x_callV hM hk (by decide) kcX4_drawn (mx_in (w := Cond.methodLink RX4 208 yX4_drawn) 925 (by decide +kernel) rfl) kiX4_drawn ksX4_drawn knX4 kyX4_drawn rfl (by decide) rfl (ci := 4) rfl rfl rfl (Nat.le_of_ble_eq_true hsm) hd (fun v τ h => by obtain ⟨r, rfl, h⟩ := h; exact k r τ h)
theorem gfX3_10 (hd : mx_at cc pc (.getfield 10) 3 n) (k : MX E K RX3 cc nL ret n lv ((mx_rf E 1) :: st) σ post) : MX E K RX3 cc nL ret pc lv (mx_rf E 0 :: st) σ post := x_getf (ci := 3) (j := 0) (N := 8) (T := TX3) (v := (mx_rf E 1)) kx3 rfl rfl (mx_in (w := Cond.fieldLink RX3 10 RX3 (TX3 0).2.1 (TX3 0).2.2.1) 158 (by decide +kernel) rfl) (by decide) (by decide) rfl rfl hd k
theorem gfX3_16 (hd : mx_at cc pc (.getfield 16) 3 n) (k : MX E K RX3 cc nL ret n lv ((mx_rf E 2) :: st) σ post) : MX E K RX3 cc nL ret pc lv (mx_rf E 0 :: st) σ post := x_getf (ci := 3) (j := 1) (N := 8) (T := TX3) (v := (mx_rf E 2)) kx3 rfl rfl (mx_in (w := Cond.fieldLink RX3 16 RX3 (TX3 1).2.1 (TX3 1).2.2.1) 159 (by decide +kernel) rfl) (by decide) (by decide) rfl rfl hd k
theorem gfX3_19 (hd : mx_at cc pc (.getfield 19) 3 n) (k : MX E K RX3 cc nL ret n lv ((mx_rf E 3) :: st) σ post) : MX E K RX3 cc nL ret pc lv (mx_rf E 0 :: st) σ post := x_getf (ci := 3) (j := 2) (N := 8) (T := TX3) (v := (mx_rf E 3)) kx3 rfl rfl (mx_in (w := Cond.fieldLink RX3 19 RX3 (TX3 2).2.1 (TX3 2).2.2.1) 160 (by decide +kernel) rfl) (by decide) (by decide) rfl rfl hd k
theorem gfX3_22 (hd : mx_at cc pc (.getfield 22) 3 n) (k : MX E K RX3 cc nL ret n lv ((.int (σ 0 3)) :: st) σ post) : MX E K RX3 cc nL ret pc lv (mx_rf E 0 :: st) σ post := x_getf (ci := 3) (j := 3) (N := 8) (T := TX3) (v := (.int (σ 0 3))) kx3 rfl rfl (mx_in (w := Cond.fieldLink RX3 22 RX3 (TX3 3).2.1 (TX3 3).2.2.1) 161 (by decide +kernel) rfl) (by decide) (by decide) rfl rfl hd k
theorem pfX3_22 {v : Int32} (hb : v = 0 ∨ v = 1) (hd : mx_at cc pc (.putfield 22) 3 n) (k : MX E K RX3 cc nL ret n lv st (mx_up σ 0 3 v) post) : MX E K RX3 cc nL ret pc lv (.int v :: mx_rf E 0 :: st) σ post := x_putf (ci := 3) (j := 3) (N := 8) (T := TX3) (ty := .boolean) tyX3_ok nmX3 kx3 rfl rfl (mx_in (w := Cond.fieldLink RX3 22 RX3 (TX3 3).2.1 (TX3 3).2.2.1) 161 (by decide +kernel) rfl) (by decide) rfl (by decide) rfl (Nat.le_of_ble_eq_true rfl) (by unfold mx_cell; simp [mx_up_s, upd]) (by decide +kernel) (by rcases hb with rfl | rfl <;> rfl) (by rcases hb with rfl | rfl <;> rfl) hd k
theorem gfX3_31 (hd : mx_at cc pc (.getfield 31) 3 n) (k : MX E K RX3 cc nL ret n lv ((mx_rf E 28) :: st) σ post) : MX E K RX3 cc nL ret pc lv (mx_rf E 0 :: st) σ post := x_getf (ci := 3) (j := 4) (N := 8) (T := TX3) (v := (mx_rf E 28)) kx3 rfl rfl (mx_in (w := Cond.fieldLink RX3 31 RX3 (TX3 4).2.1 (TX3 4).2.2.1) 162 (by decide +kernel) rfl) (by decide) (by decide) rfl rfl hd k
theorem gfX3_35 (hd : mx_at cc pc (.getfield 35) 3 n) (k : MX E K RX3 cc nL ret n lv ((mx_rf E 29) :: st) σ post) : MX E K RX3 cc nL ret pc lv (mx_rf E 0 :: st) σ post := x_getf (ci := 3) (j := 5) (N := 8) (T := TX3) (v := (mx_rf E 29)) kx3 rfl rfl (mx_in (w := Cond.fieldLink RX3 35 RX3 (TX3 5).2.1 (TX3 5).2.2.1) 163 (by decide +kernel) rfl) (by decide) (by decide) rfl rfl hd k
theorem gfX3_38 (hd : mx_at cc pc (.getfield 38) 3 n) (k : MX E K RX3 cc nL ret n lv ((mx_rf E 30) :: st) σ post) : MX E K RX3 cc nL ret pc lv (mx_rf E 0 :: st) σ post := x_getf (ci := 3) (j := 6) (N := 8) (T := TX3) (v := (mx_rf E 30)) kx3 rfl rfl (mx_in (w := Cond.fieldLink RX3 38 RX3 (TX3 6).2.1 (TX3 6).2.2.1) 164 (by decide +kernel) rfl) (by decide) (by decide) rfl rfl hd k
theorem gfX3_41 (hd : mx_at cc pc (.getfield 41) 3 n) (k : MX E K RX3 cc nL ret n lv ((mx_rf E 34) :: st) σ post) : MX E K RX3 cc nL ret pc lv (mx_rf E 0 :: st) σ post := x_getf (ci := 3) (j := 7) (N := 8) (T := TX3) (v := (mx_rf E 34)) kx3 rfl rfl (mx_in (w := Cond.fieldLink RX3 41 RX3 (TX3 7).2.1 (TX3 7).2.2.1) 165 (by decide +kernel) rfl) (by decide) (by decide) rfl rfl hd k
theorem gfX3_45 {id : Nat} (h1 : 1 ≤ id) (h2 : id < 4) (hd : mx_at cc pc (.getfield 45) 3 n) (k : MX E K RX3 cc nL ret n lv ((.int (σ id 4)) :: st) σ post) : MX E K RX3 cc nL ret pc lv (mx_rf E id :: st) σ post := x_getf (ci := 2) (j := 4) (N := 6) (T := TX2) (v := (.int (σ id 4))) kx2 rfl rfl (mx_in (w := Cond.fieldLink RX3 45 RX2 (TX2 4).2.1 (TX2 4).2.2.1) 124 (by decide +kernel) rfl) (by decide) (by omega) (mx_cT h1 h2) rfl hd k
theorem pfX3_45 {id : Nat} {v : Int32} (h1 : 1 ≤ id) (h2 : id < 4) (hd : mx_at cc pc (.putfield 45) 3 n) (k : MX E K RX3 cc nL ret n lv st (mx_up σ id 4 v) post) : MX E K RX3 cc nL ret pc lv (.int v :: mx_rf E id :: st) σ post := x_putf (ci := 2) (j := 4) (N := 6) (T := TX2) (ty := .int) tyX2_ok nmX2 kx2 rfl rfl (mx_in (w := Cond.fieldLink RX3 45 RX2 (TX2 4).2.1 (TX2 4).2.2.1) 124 (by decide +kernel) rfl) (by decide) rfl (by omega) (mx_cT h1 h2) (Nat.le_of_ble_eq_true rfl) (by rw [mx_cT (σ := mx_up σ id 4 v) h1 h2]; simp [mx_up_s, upd]) (by decide +kernel) rfl rfl hd k
theorem gfX3_60 {id : Nat} (h1 : 28 ≤ id) (h2 : id < 31) (hd : mx_at cc pc (.getfield 60) 3 n) (k : MX E K RX3 cc nL ret n lv ((.int (σ id 1)) :: st) σ post) : MX E K RX3 cc nL ret pc lv (mx_rf E id :: st) σ post := x_getf (ci := 1) (j := 1) (N := 2) (T := TX1) (v := (.int (σ id 1))) kx1 rfl rfl (mx_in (w := Cond.fieldLink RX3 60 RX1 (TX1 1).2.1 (TX1 1).2.2.1) 151 (by decide +kernel) rfl) (by decide) (by omega) (mx_cR h1 h2) rfl hd k
theorem pfX3_60 {id : Nat} {v : Int32} (h1 : 28 ≤ id) (h2 : id < 31) (hd : mx_at cc pc (.putfield 60) 3 n) (k : MX E K RX3 cc nL ret n lv st (mx_up σ id 1 v) post) : MX E K RX3 cc nL ret pc lv (.int v :: mx_rf E id :: st) σ post := x_putf (ci := 1) (j := 1) (N := 2) (T := TX1) (ty := .int) tyX1_ok nmX1 kx1 rfl rfl (mx_in (w := Cond.fieldLink RX3 60 RX1 (TX1 1).2.1 (TX1 1).2.2.1) 151 (by decide +kernel) rfl) (by decide) rfl (by omega) (mx_cR h1 h2) (Nat.le_of_ble_eq_true rfl) (by rw [mx_cR (σ := mx_up σ id 1 v) h1 h2]; simp [mx_up_s, upd]) (by decide +kernel) rfl rfl hd k
theorem gfX3_115 {id : Nat} (h1 : 1 ≤ id) (h2 : id < 4) (hd : mx_at cc pc (.getfield 115) 3 n) (k : MX E K RX3 cc nL ret n lv ((.int (σ id 2)) :: st) σ post) : MX E K RX3 cc nL ret pc lv (mx_rf E id :: st) σ post := x_getf (ci := 2) (j := 2) (N := 6) (T := TX2) (v := (.int (σ id 2))) kx2 rfl rfl (mx_in (w := Cond.fieldLink RX3 115 RX2 (TX2 2).2.1 (TX2 2).2.2.1) 120 (by decide +kernel) rfl) (by decide) (by omega) (mx_cT h1 h2) rfl hd k
theorem pfX3_115 {id : Nat} {v : Int32} (h1 : 1 ≤ id) (h2 : id < 4) (hd : mx_at cc pc (.putfield 115) 3 n) (k : MX E K RX3 cc nL ret n lv st (mx_up σ id 2 v) post) : MX E K RX3 cc nL ret pc lv (.int v :: mx_rf E id :: st) σ post := x_putf (ci := 2) (j := 2) (N := 6) (T := TX2) (ty := .int) tyX2_ok nmX2 kx2 rfl rfl (mx_in (w := Cond.fieldLink RX3 115 RX2 (TX2 2).2.1 (TX2 2).2.2.1) 120 (by decide +kernel) rfl) (by decide) rfl (by omega) (mx_cT h1 h2) (Nat.le_of_ble_eq_true rfl) (by rw [mx_cT (σ := mx_up σ id 2 v) h1 h2]; simp [mx_up_s, upd]) (by decide +kernel) rfl rfl hd k
theorem gfX3_128 {id : Nat} (h1 : 7 ≤ id) (h2 : id < 28) (hd : mx_at cc pc (.getfield 128) 3 n) (k : MX E K RX3 cc nL ret n lv ((.int (σ id 3)) :: st) σ post) : MX E K RX3 cc nL ret pc lv (mx_rf E id :: st) σ post := x_getf (ci := 0) (j := 3) (N := 8) (T := TX0) (v := (.int (σ id 3))) kx0 rfl rfl (mx_in (w := Cond.fieldLink RX3 128 RX0 (TX0 3).2.1 (TX0 3).2.2.1) 89 (by decide +kernel) rfl) (by decide) (by omega) (mx_cH h1 h2) rfl hd k
theorem pfX3_128 {id : Nat} {v : Int32} (h1 : 7 ≤ id) (h2 : id < 28) (hd : mx_at cc pc (.putfield 128) 3 n) (k : MX E K RX3 cc nL ret n lv st (mx_up σ id 3 v) post) : MX E K RX3 cc nL ret pc lv (.int v :: mx_rf E id :: st) σ post := x_putf (ci := 0) (j := 3) (N := 8) (T := TX0) (ty := .int) tyX0_ok nmX0 kx0 rfl rfl (mx_in (w := Cond.fieldLink RX3 128 RX0 (TX0 3).2.1 (TX0 3).2.2.1) 89 (by decide +kernel) rfl) (by decide) rfl (by omega) (mx_cH h1 h2) (Nat.le_of_ble_eq_true rfl) (by rw [mx_cH (σ := mx_up σ id 3 v) h1 h2]; simp [mx_up_s, upd]) (by decide +kernel) rfl rfl hd k
theorem gfX3_133 {id : Nat} (h1 : 7 ≤ id) (h2 : id < 28) (hd : mx_at cc pc (.getfield 133) 3 n) (k : MX E K RX3 cc nL ret n lv ((.int (σ id 4)) :: st) σ post) : MX E K RX3 cc nL ret pc lv (mx_rf E id :: st) σ post := x_getf (ci := 0) (j := 4) (N := 8) (T := TX0) (v := (.int (σ id 4))) kx0 rfl rfl (mx_in (w := Cond.fieldLink RX3 133 RX0 (TX0 4).2.1 (TX0 4).2.2.1) 92 (by decide +kernel) rfl) (by decide) (by omega) (mx_cH h1 h2) rfl hd k
theorem pfX3_133 {id : Nat} {v : Int32} (h1 : 7 ≤ id) (h2 : id < 28) (hd : mx_at cc pc (.putfield 133) 3 n) (k : MX E K RX3 cc nL ret n lv st (mx_up σ id 4 v) post) : MX E K RX3 cc nL ret pc lv (.int v :: mx_rf E id :: st) σ post := x_putf (ci := 0) (j := 4) (N := 8) (T := TX0) (ty := .int) tyX0_ok nmX0 kx0 rfl rfl (mx_in (w := Cond.fieldLink RX3 133 RX0 (TX0 4).2.1 (TX0 4).2.2.1) 92 (by decide +kernel) rfl) (by decide) rfl (by omega) (mx_cH h1 h2) (Nat.le_of_ble_eq_true rfl) (by rw [mx_cH (σ := mx_up σ id 4 v) h1 h2]; simp [mx_up_s, upd]) (by decide +kernel) rfl rfl hd k
theorem gfX3_136 {id : Nat} (h1 : 7 ≤ id) (h2 : id < 28) (hd : mx_at cc pc (.getfield 136) 3 n) (k : MX E K RX3 cc nL ret n lv ((.int (σ id 6)) :: st) σ post) : MX E K RX3 cc nL ret pc lv (mx_rf E id :: st) σ post := x_getf (ci := 0) (j := 6) (N := 8) (T := TX0) (v := (.int (σ id 6))) kx0 rfl rfl (mx_in (w := Cond.fieldLink RX3 136 RX0 (TX0 6).2.1 (TX0 6).2.2.1) 98 (by decide +kernel) rfl) (by decide) (by omega) (mx_cH h1 h2) rfl hd k
theorem pfX3_136 {id : Nat} {v : Int32} (h1 : 7 ≤ id) (h2 : id < 28) (hb : v = 0 ∨ v = 1) (hd : mx_at cc pc (.putfield 136) 3 n) (k : MX E K RX3 cc nL ret n lv st (mx_up σ id 6 v) post) : MX E K RX3 cc nL ret pc lv (.int v :: mx_rf E id :: st) σ post := x_putf (ci := 0) (j := 6) (N := 8) (T := TX0) (ty := .boolean) tyX0_ok nmX0 kx0 rfl rfl (mx_in (w := Cond.fieldLink RX3 136 RX0 (TX0 6).2.1 (TX0 6).2.2.1) 98 (by decide +kernel) rfl) (by decide) rfl (by omega) (mx_cH h1 h2) (Nat.le_of_ble_eq_true rfl) (by rw [mx_cH (σ := mx_up σ id 6 v) h1 h2]; simp [mx_up_s, upd]) (by decide +kernel) (by rcases hb with rfl | rfl <;> rfl) (by rcases hb with rfl | rfl <;> rfl) hd k
theorem gfX3_139 {id : Nat} (h1 : 1 ≤ id) (h2 : id < 4) (hd : mx_at cc pc (.getfield 139) 3 n) (k : MX E K RX3 cc nL ret n lv ((.int (σ id 3)) :: st) σ post) : MX E K RX3 cc nL ret pc lv (mx_rf E id :: st) σ post := x_getf (ci := 2) (j := 3) (N := 6) (T := TX2) (v := (.int (σ id 3))) kx2 rfl rfl (mx_in (w := Cond.fieldLink RX3 139 RX2 (TX2 3).2.1 (TX2 3).2.2.1) 122 (by decide +kernel) rfl) (by decide) (by omega) (mx_cT h1 h2) rfl hd k
theorem pfX3_139 {id : Nat} {v : Int32} (h1 : 1 ≤ id) (h2 : id < 4) (hd : mx_at cc pc (.putfield 139) 3 n) (k : MX E K RX3 cc nL ret n lv st (mx_up σ id 3 v) post) : MX E K RX3 cc nL ret pc lv (.int v :: mx_rf E id :: st) σ post := x_putf (ci := 2) (j := 3) (N := 6) (T := TX2) (ty := .int) tyX2_ok nmX2 kx2 rfl rfl (mx_in (w := Cond.fieldLink RX3 139 RX2 (TX2 3).2.1 (TX2 3).2.2.1) 122 (by decide +kernel) rfl) (by decide) rfl (by omega) (mx_cT h1 h2) (Nat.le_of_ble_eq_true rfl) (by rw [mx_cT (σ := mx_up σ id 3 v) h1 h2]; simp [mx_up_s, upd]) (by decide +kernel) rfl rfl hd k
theorem gfX3_142 {id : Nat} (h1 : 1 ≤ id) (h2 : id < 4) (hd : mx_at cc pc (.getfield 142) 3 n) (k : MX E K RX3 cc nL ret n lv ((.int (σ id 5)) :: st) σ post) : MX E K RX3 cc nL ret pc lv (mx_rf E id :: st) σ post := x_getf (ci := 2) (j := 5) (N := 6) (T := TX2) (v := (.int (σ id 5))) kx2 rfl rfl (mx_in (w := Cond.fieldLink RX3 142 RX2 (TX2 5).2.1 (TX2 5).2.2.1) 126 (by decide +kernel) rfl) (by decide) (by omega) (mx_cT h1 h2) rfl hd k
theorem pfX3_142 {id : Nat} {v : Int32} (h1 : 1 ≤ id) (h2 : id < 4) (hd : mx_at cc pc (.putfield 142) 3 n) (k : MX E K RX3 cc nL ret n lv st (mx_up σ id 5 v) post) : MX E K RX3 cc nL ret pc lv (.int v :: mx_rf E id :: st) σ post := x_putf (ci := 2) (j := 5) (N := 6) (T := TX2) (ty := .int) tyX2_ok nmX2 kx2 rfl rfl (mx_in (w := Cond.fieldLink RX3 142 RX2 (TX2 5).2.1 (TX2 5).2.2.1) 126 (by decide +kernel) rfl) (by decide) rfl (by omega) (mx_cT h1 h2) (Nat.le_of_ble_eq_true rfl) (by rw [mx_cT (σ := mx_up σ id 5 v) h1 h2]; simp [mx_up_s, upd]) (by decide +kernel) rfl rfl hd k
theorem gfX3_148 {id : Nat} (h1 : 7 ≤ id) (h2 : id < 28) (hd : mx_at cc pc (.getfield 148) 3 n) (k : MX E K RX3 cc nL ret n lv ((.int (σ id 0)) :: st) σ post) : MX E K RX3 cc nL ret pc lv (mx_rf E id :: st) σ post := x_getf (ci := 0) (j := 0) (N := 8) (T := TX0) (v := (.int (σ id 0))) kx0 rfl rfl (mx_in (w := Cond.fieldLink RX3 148 RX0 (TX0 0).2.1 (TX0 0).2.2.1) 80 (by decide +kernel) rfl) (by decide) (by omega) (mx_cH h1 h2) rfl hd k
theorem pfX3_148 {id : Nat} {v : Int32} (h1 : 7 ≤ id) (h2 : id < 28) (hd : mx_at cc pc (.putfield 148) 3 n) (k : MX E K RX3 cc nL ret n lv st (mx_up σ id 0 v) post) : MX E K RX3 cc nL ret pc lv (.int v :: mx_rf E id :: st) σ post := x_putf (ci := 0) (j := 0) (N := 8) (T := TX0) (ty := .int) tyX0_ok nmX0 kx0 rfl rfl (mx_in (w := Cond.fieldLink RX3 148 RX0 (TX0 0).2.1 (TX0 0).2.2.1) 80 (by decide +kernel) rfl) (by decide) rfl (by omega) (mx_cH h1 h2) (Nat.le_of_ble_eq_true rfl) (by rw [mx_cH (σ := mx_up σ id 0 v) h1 h2]; simp [mx_up_s, upd]) (by decide +kernel) rfl rfl hd k
theorem gfX3_151 {id : Nat} (h1 : 7 ≤ id) (h2 : id < 28) (hd : mx_at cc pc (.getfield 151) 3 n) (k : MX E K RX3 cc nL ret n lv ((.int (σ id 1)) :: st) σ post) : MX E K RX3 cc nL ret pc lv (mx_rf E id :: st) σ post := x_getf (ci := 0) (j := 1) (N := 8) (T := TX0) (v := (.int (σ id 1))) kx0 rfl rfl (mx_in (w := Cond.fieldLink RX3 151 RX0 (TX0 1).2.1 (TX0 1).2.2.1) 83 (by decide +kernel) rfl) (by decide) (by omega) (mx_cH h1 h2) rfl hd k
theorem pfX3_151 {id : Nat} {v : Int32} (h1 : 7 ≤ id) (h2 : id < 28) (hd : mx_at cc pc (.putfield 151) 3 n) (k : MX E K RX3 cc nL ret n lv st (mx_up σ id 1 v) post) : MX E K RX3 cc nL ret pc lv (.int v :: mx_rf E id :: st) σ post := x_putf (ci := 0) (j := 1) (N := 8) (T := TX0) (ty := .int) tyX0_ok nmX0 kx0 rfl rfl (mx_in (w := Cond.fieldLink RX3 151 RX0 (TX0 1).2.1 (TX0 1).2.2.1) 83 (by decide +kernel) rfl) (by decide) rfl (by omega) (mx_cH h1 h2) (Nat.le_of_ble_eq_true rfl) (by rw [mx_cH (σ := mx_up σ id 1 v) h1 h2]; simp [mx_up_s, upd]) (by decide +kernel) rfl rfl hd k
theorem gfX3_154 {id : Nat} (h1 : 7 ≤ id) (h2 : id < 28) (hd : mx_at cc pc (.getfield 154) 3 n) (k : MX E K RX3 cc nL ret n lv ((.int (σ id 2)) :: st) σ post) : MX E K RX3 cc nL ret pc lv (mx_rf E id :: st) σ post := x_getf (ci := 0) (j := 2) (N := 8) (T := TX0) (v := (.int (σ id 2))) kx0 rfl rfl (mx_in (w := Cond.fieldLink RX3 154 RX0 (TX0 2).2.1 (TX0 2).2.2.1) 86 (by decide +kernel) rfl) (by decide) (by omega) (mx_cH h1 h2) rfl hd k
theorem pfX3_154 {id : Nat} {v : Int32} (h1 : 7 ≤ id) (h2 : id < 28) (hd : mx_at cc pc (.putfield 154) 3 n) (k : MX E K RX3 cc nL ret n lv st (mx_up σ id 2 v) post) : MX E K RX3 cc nL ret pc lv (.int v :: mx_rf E id :: st) σ post := x_putf (ci := 0) (j := 2) (N := 8) (T := TX0) (ty := .int) tyX0_ok nmX0 kx0 rfl rfl (mx_in (w := Cond.fieldLink RX3 154 RX0 (TX0 2).2.1 (TX0 2).2.2.1) 86 (by decide +kernel) rfl) (by decide) rfl (by omega) (mx_cH h1 h2) (Nat.le_of_ble_eq_true rfl) (by rw [mx_cH (σ := mx_up σ id 2 v) h1 h2]; simp [mx_up_s, upd]) (by decide +kernel) rfl rfl hd k
theorem gfX3_157 {id : Nat} (h1 : 7 ≤ id) (h2 : id < 28) (hd : mx_at cc pc (.getfield 157) 3 n) (k : MX E K RX3 cc nL ret n lv ((.int (σ id 5)) :: st) σ post) : MX E K RX3 cc nL ret pc lv (mx_rf E id :: st) σ post := x_getf (ci := 0) (j := 5) (N := 8) (T := TX0) (v := (.int (σ id 5))) kx0 rfl rfl (mx_in (w := Cond.fieldLink RX3 157 RX0 (TX0 5).2.1 (TX0 5).2.2.1) 95 (by decide +kernel) rfl) (by decide) (by omega) (mx_cH h1 h2) rfl hd k
theorem pfX3_157 {id : Nat} {v : Int32} (h1 : 7 ≤ id) (h2 : id < 28) (hd : mx_at cc pc (.putfield 157) 3 n) (k : MX E K RX3 cc nL ret n lv st (mx_up σ id 5 v) post) : MX E K RX3 cc nL ret pc lv (.int v :: mx_rf E id :: st) σ post := x_putf (ci := 0) (j := 5) (N := 8) (T := TX0) (ty := .int) tyX0_ok nmX0 kx0 rfl rfl (mx_in (w := Cond.fieldLink RX3 157 RX0 (TX0 5).2.1 (TX0 5).2.2.1) 95 (by decide +kernel) rfl) (by decide) rfl (by omega) (mx_cH h1 h2) (Nat.le_of_ble_eq_true rfl) (by rw [mx_cH (σ := mx_up σ id 5 v) h1 h2]; simp [mx_up_s, upd]) (by decide +kernel) rfl rfl hd k
theorem gfX0_9 {id : Nat} (h1 : 7 ≤ id) (h2 : id < 28) (hd : mx_at cc pc (.getfield 9) 3 n) (k : MX E K RX0 cc nL ret n lv ((.int (σ id 0)) :: st) σ post) : MX E K RX0 cc nL ret pc lv (mx_rf E id :: st) σ post := x_getf (ci := 0) (j := 0) (N := 8) (T := TX0) (v := (.int (σ id 0))) kx0 rfl rfl (mx_in (w := Cond.fieldLink RX0 9 RX0 (TX0 0).2.1 (TX0 0).2.2.1) 78 (by decide +kernel) rfl) (by decide) (by omega) (mx_cH h1 h2) rfl hd k
theorem pfX0_9 {id : Nat} {v : Int32} (h1 : 7 ≤ id) (h2 : id < 28) (hd : mx_at cc pc (.putfield 9) 3 n) (k : MX E K RX0 cc nL ret n lv st (mx_up σ id 0 v) post) : MX E K RX0 cc nL ret pc lv (.int v :: mx_rf E id :: st) σ post := x_putf (ci := 0) (j := 0) (N := 8) (T := TX0) (ty := .int) tyX0_ok nmX0 kx0 rfl rfl (mx_in (w := Cond.fieldLink RX0 9 RX0 (TX0 0).2.1 (TX0 0).2.2.1) 78 (by decide +kernel) rfl) (by decide) rfl (by omega) (mx_cH h1 h2) (Nat.le_of_ble_eq_true rfl) (by rw [mx_cH (σ := mx_up σ id 0 v) h1 h2]; simp [mx_up_s, upd]) (by decide +kernel) rfl rfl hd k
theorem gfX0_15 {id : Nat} (h1 : 7 ≤ id) (h2 : id < 28) (hd : mx_at cc pc (.getfield 15) 3 n) (k : MX E K RX0 cc nL ret n lv ((.int (σ id 1)) :: st) σ post) : MX E K RX0 cc nL ret pc lv (mx_rf E id :: st) σ post := x_getf (ci := 0) (j := 1) (N := 8) (T := TX0) (v := (.int (σ id 1))) kx0 rfl rfl (mx_in (w := Cond.fieldLink RX0 15 RX0 (TX0 1).2.1 (TX0 1).2.2.1) 81 (by decide +kernel) rfl) (by decide) (by omega) (mx_cH h1 h2) rfl hd k
theorem pfX0_15 {id : Nat} {v : Int32} (h1 : 7 ≤ id) (h2 : id < 28) (hd : mx_at cc pc (.putfield 15) 3 n) (k : MX E K RX0 cc nL ret n lv st (mx_up σ id 1 v) post) : MX E K RX0 cc nL ret pc lv (.int v :: mx_rf E id :: st) σ post := x_putf (ci := 0) (j := 1) (N := 8) (T := TX0) (ty := .int) tyX0_ok nmX0 kx0 rfl rfl (mx_in (w := Cond.fieldLink RX0 15 RX0 (TX0 1).2.1 (TX0 1).2.2.1) 81 (by decide +kernel) rfl) (by decide) rfl (by omega) (mx_cH h1 h2) (Nat.le_of_ble_eq_true rfl) (by rw [mx_cH (σ := mx_up σ id 1 v) h1 h2]; simp [mx_up_s, upd]) (by decide +kernel) rfl rfl hd k
theorem gfX0_18 {id : Nat} (h1 : 7 ≤ id) (h2 : id < 28) (hd : mx_at cc pc (.getfield 18) 3 n) (k : MX E K RX0 cc nL ret n lv ((.int (σ id 2)) :: st) σ post) : MX E K RX0 cc nL ret pc lv (mx_rf E id :: st) σ post := x_getf (ci := 0) (j := 2) (N := 8) (T := TX0) (v := (.int (σ id 2))) kx0 rfl rfl (mx_in (w := Cond.fieldLink RX0 18 RX0 (TX0 2).2.1 (TX0 2).2.2.1) 84 (by decide +kernel) rfl) (by decide) (by omega) (mx_cH h1 h2) rfl hd k
theorem pfX0_18 {id : Nat} {v : Int32} (h1 : 7 ≤ id) (h2 : id < 28) (hd : mx_at cc pc (.putfield 18) 3 n) (k : MX E K RX0 cc nL ret n lv st (mx_up σ id 2 v) post) : MX E K RX0 cc nL ret pc lv (.int v :: mx_rf E id :: st) σ post := x_putf (ci := 0) (j := 2) (N := 8) (T := TX0) (ty := .int) tyX0_ok nmX0 kx0 rfl rfl (mx_in (w := Cond.fieldLink RX0 18 RX0 (TX0 2).2.1 (TX0 2).2.2.1) 84 (by decide +kernel) rfl) (by decide) rfl (by omega) (mx_cH h1 h2) (Nat.le_of_ble_eq_true rfl) (by rw [mx_cH (σ := mx_up σ id 2 v) h1 h2]; simp [mx_up_s, upd]) (by decide +kernel) rfl rfl hd k
theorem gfX0_21 {id : Nat} (h1 : 7 ≤ id) (h2 : id < 28) (hd : mx_at cc pc (.getfield 21) 3 n) (k : MX E K RX0 cc nL ret n lv ((.int (σ id 3)) :: st) σ post) : MX E K RX0 cc nL ret pc lv (mx_rf E id :: st) σ post := x_getf (ci := 0) (j := 3) (N := 8) (T := TX0) (v := (.int (σ id 3))) kx0 rfl rfl (mx_in (w := Cond.fieldLink RX0 21 RX0 (TX0 3).2.1 (TX0 3).2.2.1) 87 (by decide +kernel) rfl) (by decide) (by omega) (mx_cH h1 h2) rfl hd k
theorem pfX0_21 {id : Nat} {v : Int32} (h1 : 7 ≤ id) (h2 : id < 28) (hd : mx_at cc pc (.putfield 21) 3 n) (k : MX E K RX0 cc nL ret n lv st (mx_up σ id 3 v) post) : MX E K RX0 cc nL ret pc lv (.int v :: mx_rf E id :: st) σ post := x_putf (ci := 0) (j := 3) (N := 8) (T := TX0) (ty := .int) tyX0_ok nmX0 kx0 rfl rfl (mx_in (w := Cond.fieldLink RX0 21 RX0 (TX0 3).2.1 (TX0 3).2.2.1) 87 (by decide +kernel) rfl) (by decide) rfl (by omega) (mx_cH h1 h2) (Nat.le_of_ble_eq_true rfl) (by rw [mx_cH (σ := mx_up σ id 3 v) h1 h2]; simp [mx_up_s, upd]) (by decide +kernel) rfl rfl hd k
theorem gfX0_24 {id : Nat} (h1 : 7 ≤ id) (h2 : id < 28) (hd : mx_at cc pc (.getfield 24) 3 n) (k : MX E K RX0 cc nL ret n lv ((.int (σ id 4)) :: st) σ post) : MX E K RX0 cc nL ret pc lv (mx_rf E id :: st) σ post := x_getf (ci := 0) (j := 4) (N := 8) (T := TX0) (v := (.int (σ id 4))) kx0 rfl rfl (mx_in (w := Cond.fieldLink RX0 24 RX0 (TX0 4).2.1 (TX0 4).2.2.1) 90 (by decide +kernel) rfl) (by decide) (by omega) (mx_cH h1 h2) rfl hd k
theorem pfX0_24 {id : Nat} {v : Int32} (h1 : 7 ≤ id) (h2 : id < 28) (hd : mx_at cc pc (.putfield 24) 3 n) (k : MX E K RX0 cc nL ret n lv st (mx_up σ id 4 v) post) : MX E K RX0 cc nL ret pc lv (.int v :: mx_rf E id :: st) σ post := x_putf (ci := 0) (j := 4) (N := 8) (T := TX0) (ty := .int) tyX0_ok nmX0 kx0 rfl rfl (mx_in (w := Cond.fieldLink RX0 24 RX0 (TX0 4).2.1 (TX0 4).2.2.1) 90 (by decide +kernel) rfl) (by decide) rfl (by omega) (mx_cH h1 h2) (Nat.le_of_ble_eq_true rfl) (by rw [mx_cH (σ := mx_up σ id 4 v) h1 h2]; simp [mx_up_s, upd]) (by decide +kernel) rfl rfl hd k
theorem gfX0_27 {id : Nat} (h1 : 7 ≤ id) (h2 : id < 28) (hd : mx_at cc pc (.getfield 27) 3 n) (k : MX E K RX0 cc nL ret n lv ((.int (σ id 5)) :: st) σ post) : MX E K RX0 cc nL ret pc lv (mx_rf E id :: st) σ post := x_getf (ci := 0) (j := 5) (N := 8) (T := TX0) (v := (.int (σ id 5))) kx0 rfl rfl (mx_in (w := Cond.fieldLink RX0 27 RX0 (TX0 5).2.1 (TX0 5).2.2.1) 93 (by decide +kernel) rfl) (by decide) (by omega) (mx_cH h1 h2) rfl hd k
theorem pfX0_27 {id : Nat} {v : Int32} (h1 : 7 ≤ id) (h2 : id < 28) (hd : mx_at cc pc (.putfield 27) 3 n) (k : MX E K RX0 cc nL ret n lv st (mx_up σ id 5 v) post) : MX E K RX0 cc nL ret pc lv (.int v :: mx_rf E id :: st) σ post := x_putf (ci := 0) (j := 5) (N := 8) (T := TX0) (ty := .int) tyX0_ok nmX0 kx0 rfl rfl (mx_in (w := Cond.fieldLink RX0 27 RX0 (TX0 5).2.1 (TX0 5).2.2.1) 93 (by decide +kernel) rfl) (by decide) rfl (by omega) (mx_cH h1 h2) (Nat.le_of_ble_eq_true rfl) (by rw [mx_cH (σ := mx_up σ id 5 v) h1 h2]; simp [mx_up_s, upd]) (by decide +kernel) rfl rfl hd k
theorem gfX0_30 {id : Nat} (h1 : 7 ≤ id) (h2 : id < 28) (hd : mx_at cc pc (.getfield 30) 3 n) (k : MX E K RX0 cc nL ret n lv ((.int (σ id 6)) :: st) σ post) : MX E K RX0 cc nL ret pc lv (mx_rf E id :: st) σ post := x_getf (ci := 0) (j := 6) (N := 8) (T := TX0) (v := (.int (σ id 6))) kx0 rfl rfl (mx_in (w := Cond.fieldLink RX0 30 RX0 (TX0 6).2.1 (TX0 6).2.2.1) 96 (by decide +kernel) rfl) (by decide) (by omega) (mx_cH h1 h2) rfl hd k
theorem pfX0_30 {id : Nat} {v : Int32} (h1 : 7 ≤ id) (h2 : id < 28) (hb : v = 0 ∨ v = 1) (hd : mx_at cc pc (.putfield 30) 3 n) (k : MX E K RX0 cc nL ret n lv st (mx_up σ id 6 v) post) : MX E K RX0 cc nL ret pc lv (.int v :: mx_rf E id :: st) σ post := x_putf (ci := 0) (j := 6) (N := 8) (T := TX0) (ty := .boolean) tyX0_ok nmX0 kx0 rfl rfl (mx_in (w := Cond.fieldLink RX0 30 RX0 (TX0 6).2.1 (TX0 6).2.2.1) 96 (by decide +kernel) rfl) (by decide) rfl (by omega) (mx_cH h1 h2) (Nat.le_of_ble_eq_true rfl) (by rw [mx_cH (σ := mx_up σ id 6 v) h1 h2]; simp [mx_up_s, upd]) (by decide +kernel) (by rcases hb with rfl | rfl <;> rfl) (by rcases hb with rfl | rfl <;> rfl) hd k
theorem gfX0_34 {id : Nat} (h1 : 7 ≤ id) (h2 : id < 28) (hd : mx_at cc pc (.getfield 34) 3 n) (k : MX E K RX0 cc nL ret n lv ((.int (σ id 7)) :: st) σ post) : MX E K RX0 cc nL ret pc lv (mx_rf E id :: st) σ post := x_getf (ci := 0) (j := 7) (N := 8) (T := TX0) (v := (.int (σ id 7))) kx0 rfl rfl (mx_in (w := Cond.fieldLink RX0 34 RX0 (TX0 7).2.1 (TX0 7).2.2.1) 99 (by decide +kernel) rfl) (by decide) (by omega) (mx_cH h1 h2) rfl hd k
theorem pfX0_34 {id : Nat} {v : Int32} (h1 : 7 ≤ id) (h2 : id < 28) (hb : v = 0 ∨ v = 1) (hd : mx_at cc pc (.putfield 34) 3 n) (k : MX E K RX0 cc nL ret n lv st (mx_up σ id 7 v) post) : MX E K RX0 cc nL ret pc lv (.int v :: mx_rf E id :: st) σ post := x_putf (ci := 0) (j := 7) (N := 8) (T := TX0) (ty := .boolean) tyX0_ok nmX0 kx0 rfl rfl (mx_in (w := Cond.fieldLink RX0 34 RX0 (TX0 7).2.1 (TX0 7).2.2.1) 99 (by decide +kernel) rfl) (by decide) rfl (by omega) (mx_cH h1 h2) (Nat.le_of_ble_eq_true rfl) (by rw [mx_cH (σ := mx_up σ id 7 v) h1 h2]; simp [mx_up_s, upd]) (by decide +kernel) (by rcases hb with rfl | rfl <;> rfl) (by rcases hb with rfl | rfl <;> rfl) hd k
theorem gfX1_9 {id : Nat} (h1 : 28 ≤ id) (h2 : id < 31) (hd : mx_at cc pc (.getfield 9) 3 n) (k : MX E K RX1 cc nL ret n lv ((.int (σ id 1)) :: st) σ post) : MX E K RX1 cc nL ret pc lv (mx_rf E id :: st) σ post := x_getf (ci := 1) (j := 1) (N := 2) (T := TX1) (v := (.int (σ id 1))) kx1 rfl rfl (mx_in (w := Cond.fieldLink RX1 9 RX1 (TX1 1).2.1 (TX1 1).2.2.1) 150 (by decide +kernel) rfl) (by decide) (by omega) (mx_cR h1 h2) rfl hd k
theorem pfX1_9 {id : Nat} {v : Int32} (h1 : 28 ≤ id) (h2 : id < 31) (hd : mx_at cc pc (.putfield 9) 3 n) (k : MX E K RX1 cc nL ret n lv st (mx_up σ id 1 v) post) : MX E K RX1 cc nL ret pc lv (.int v :: mx_rf E id :: st) σ post := x_putf (ci := 1) (j := 1) (N := 2) (T := TX1) (ty := .int) tyX1_ok nmX1 kx1 rfl rfl (mx_in (w := Cond.fieldLink RX1 9 RX1 (TX1 1).2.1 (TX1 1).2.2.1) 150 (by decide +kernel) rfl) (by decide) rfl (by omega) (mx_cR h1 h2) (Nat.le_of_ble_eq_true rfl) (by rw [mx_cR (σ := mx_up σ id 1 v) h1 h2]; simp [mx_up_s, upd]) (by decide +kernel) rfl rfl hd k
theorem gfX1_21 {id : Nat} (h1 : 28 ≤ id) (h2 : id < 31) (hd : mx_at cc pc (.getfield 21) 3 n) (k : MX E K RX1 cc nL ret n lv ((mx_rf E (id + 3)) :: st) σ post) : MX E K RX1 cc nL ret pc lv (mx_rf E id :: st) σ post := x_getf (ci := 1) (j := 0) (N := 2) (T := TX1) (v := (mx_rf E (id + 3))) kx1 rfl rfl (mx_in (w := Cond.fieldLink RX1 21 RX1 (TX1 0).2.1 (TX1 0).2.2.1) 149 (by decide +kernel) rfl) (by decide) (by omega) (mx_cR h1 h2) rfl hd k
theorem gfX2_11 {id : Nat} (h1 : 1 ≤ id) (h2 : id < 4) (hd : mx_at cc pc (.getfield 11) 3 n) (k : MX E K RX2 cc nL ret n lv ((mx_rf E (id + 3)) :: st) σ post) : MX E K RX2 cc nL ret pc lv (mx_rf E id :: st) σ post := x_getf (ci := 2) (j := 0) (N := 6) (T := TX2) (v := (mx_rf E (id + 3))) kx2 rfl rfl (mx_in (w := Cond.fieldLink RX2 11 RX2 (TX2 0).2.1 (TX2 0).2.2.1) 117 (by decide +kernel) rfl) (by decide) (by omega) (mx_cT h1 h2) rfl hd k
theorem gfX2_18 {id : Nat} (h1 : 1 ≤ id) (h2 : id < 4) (hd : mx_at cc pc (.getfield 18) 3 n) (k : MX E K RX2 cc nL ret n lv ((mx_rf E (id + 6)) :: st) σ post) : MX E K RX2 cc nL ret pc lv (mx_rf E id :: st) σ post := x_getf (ci := 2) (j := 1) (N := 6) (T := TX2) (v := (mx_rf E (id + 6))) kx2 rfl rfl (mx_in (w := Cond.fieldLink RX2 18 RX2 (TX2 1).2.1 (TX2 1).2.2.1) 118 (by decide +kernel) rfl) (by decide) (by omega) (mx_cT h1 h2) rfl hd k
theorem gfX2_22 {id : Nat} (h1 : 1 ≤ id) (h2 : id < 4) (hd : mx_at cc pc (.getfield 22) 3 n) (k : MX E K RX2 cc nL ret n lv ((.int (σ id 2)) :: st) σ post) : MX E K RX2 cc nL ret pc lv (mx_rf E id :: st) σ post := x_getf (ci := 2) (j := 2) (N := 6) (T := TX2) (v := (.int (σ id 2))) kx2 rfl rfl (mx_in (w := Cond.fieldLink RX2 22 RX2 (TX2 2).2.1 (TX2 2).2.2.1) 119 (by decide +kernel) rfl) (by decide) (by omega) (mx_cT h1 h2) rfl hd k
theorem pfX2_22 {id : Nat} {v : Int32} (h1 : 1 ≤ id) (h2 : id < 4) (hd : mx_at cc pc (.putfield 22) 3 n) (k : MX E K RX2 cc nL ret n lv st (mx_up σ id 2 v) post) : MX E K RX2 cc nL ret pc lv (.int v :: mx_rf E id :: st) σ post := x_putf (ci := 2) (j := 2) (N := 6) (T := TX2) (ty := .int) tyX2_ok nmX2 kx2 rfl rfl (mx_in (w := Cond.fieldLink RX2 22 RX2 (TX2 2).2.1 (TX2 2).2.2.1) 119 (by decide +kernel) rfl) (by decide) rfl (by omega) (mx_cT h1 h2) (Nat.le_of_ble_eq_true rfl) (by rw [mx_cT (σ := mx_up σ id 2 v) h1 h2]; simp [mx_up_s, upd]) (by decide +kernel) rfl rfl hd k
theorem gfX2_26 {id : Nat} (h1 : 1 ≤ id) (h2 : id < 4) (hd : mx_at cc pc (.getfield 26) 3 n) (k : MX E K RX2 cc nL ret n lv ((.int (σ id 3)) :: st) σ post) : MX E K RX2 cc nL ret pc lv (mx_rf E id :: st) σ post := x_getf (ci := 2) (j := 3) (N := 6) (T := TX2) (v := (.int (σ id 3))) kx2 rfl rfl (mx_in (w := Cond.fieldLink RX2 26 RX2 (TX2 3).2.1 (TX2 3).2.2.1) 121 (by decide +kernel) rfl) (by decide) (by omega) (mx_cT h1 h2) rfl hd k
theorem pfX2_26 {id : Nat} {v : Int32} (h1 : 1 ≤ id) (h2 : id < 4) (hd : mx_at cc pc (.putfield 26) 3 n) (k : MX E K RX2 cc nL ret n lv st (mx_up σ id 3 v) post) : MX E K RX2 cc nL ret pc lv (.int v :: mx_rf E id :: st) σ post := x_putf (ci := 2) (j := 3) (N := 6) (T := TX2) (ty := .int) tyX2_ok nmX2 kx2 rfl rfl (mx_in (w := Cond.fieldLink RX2 26 RX2 (TX2 3).2.1 (TX2 3).2.2.1) 121 (by decide +kernel) rfl) (by decide) rfl (by omega) (mx_cT h1 h2) (Nat.le_of_ble_eq_true rfl) (by rw [mx_cT (σ := mx_up σ id 3 v) h1 h2]; simp [mx_up_s, upd]) (by decide +kernel) rfl rfl hd k
theorem gfX2_29 {id : Nat} (h1 : 1 ≤ id) (h2 : id < 4) (hd : mx_at cc pc (.getfield 29) 3 n) (k : MX E K RX2 cc nL ret n lv ((.int (σ id 4)) :: st) σ post) : MX E K RX2 cc nL ret pc lv (mx_rf E id :: st) σ post := x_getf (ci := 2) (j := 4) (N := 6) (T := TX2) (v := (.int (σ id 4))) kx2 rfl rfl (mx_in (w := Cond.fieldLink RX2 29 RX2 (TX2 4).2.1 (TX2 4).2.2.1) 123 (by decide +kernel) rfl) (by decide) (by omega) (mx_cT h1 h2) rfl hd k
theorem pfX2_29 {id : Nat} {v : Int32} (h1 : 1 ≤ id) (h2 : id < 4) (hd : mx_at cc pc (.putfield 29) 3 n) (k : MX E K RX2 cc nL ret n lv st (mx_up σ id 4 v) post) : MX E K RX2 cc nL ret pc lv (.int v :: mx_rf E id :: st) σ post := x_putf (ci := 2) (j := 4) (N := 6) (T := TX2) (ty := .int) tyX2_ok nmX2 kx2 rfl rfl (mx_in (w := Cond.fieldLink RX2 29 RX2 (TX2 4).2.1 (TX2 4).2.2.1) 123 (by decide +kernel) rfl) (by decide) rfl (by omega) (mx_cT h1 h2) (Nat.le_of_ble_eq_true rfl) (by rw [mx_cT (σ := mx_up σ id 4 v) h1 h2]; simp [mx_up_s, upd]) (by decide +kernel) rfl rfl hd k
theorem gfX2_32 {id : Nat} (h1 : 1 ≤ id) (h2 : id < 4) (hd : mx_at cc pc (.getfield 32) 3 n) (k : MX E K RX2 cc nL ret n lv ((.int (σ id 5)) :: st) σ post) : MX E K RX2 cc nL ret pc lv (mx_rf E id :: st) σ post := x_getf (ci := 2) (j := 5) (N := 6) (T := TX2) (v := (.int (σ id 5))) kx2 rfl rfl (mx_in (w := Cond.fieldLink RX2 32 RX2 (TX2 5).2.1 (TX2 5).2.2.1) 125 (by decide +kernel) rfl) (by decide) (by omega) (mx_cT h1 h2) rfl hd k
theorem pfX2_32 {id : Nat} {v : Int32} (h1 : 1 ≤ id) (h2 : id < 4) (hd : mx_at cc pc (.putfield 32) 3 n) (k : MX E K RX2 cc nL ret n lv st (mx_up σ id 5 v) post) : MX E K RX2 cc nL ret pc lv (.int v :: mx_rf E id :: st) σ post := x_putf (ci := 2) (j := 5) (N := 6) (T := TX2) (ty := .int) tyX2_ok nmX2 kx2 rfl rfl (mx_in (w := Cond.fieldLink RX2 32 RX2 (TX2 5).2.1 (TX2 5).2.2.1) 125 (by decide +kernel) rfl) (by decide) rfl (by omega) (mx_cT h1 h2) (Nat.le_of_ble_eq_true rfl) (by rw [mx_cT (σ := mx_up σ id 5 v) h1 h2]; simp [mx_up_s, upd]) (by decide +kernel) rfl rfl hd k
theorem gfX2_43 {id : Nat} (h1 : 7 ≤ id) (h2 : id < 28) (hd : mx_at cc pc (.getfield 43) 3 n) (k : MX E K RX2 cc nL ret n lv ((.int (σ id 0)) :: st) σ post) : MX E K RX2 cc nL ret pc lv (mx_rf E id :: st) σ post := x_getf (ci := 0) (j := 0) (N := 8) (T := TX0) (v := (.int (σ id 0))) kx0 rfl rfl (mx_in (w := Cond.fieldLink RX2 43 RX0 (TX0 0).2.1 (TX0 0).2.2.1) 79 (by decide +kernel) rfl) (by decide) (by omega) (mx_cH h1 h2) rfl hd k
theorem pfX2_43 {id : Nat} {v : Int32} (h1 : 7 ≤ id) (h2 : id < 28) (hd : mx_at cc pc (.putfield 43) 3 n) (k : MX E K RX2 cc nL ret n lv st (mx_up σ id 0 v) post) : MX E K RX2 cc nL ret pc lv (.int v :: mx_rf E id :: st) σ post := x_putf (ci := 0) (j := 0) (N := 8) (T := TX0) (ty := .int) tyX0_ok nmX0 kx0 rfl rfl (mx_in (w := Cond.fieldLink RX2 43 RX0 (TX0 0).2.1 (TX0 0).2.2.1) 79 (by decide +kernel) rfl) (by decide) rfl (by omega) (mx_cH h1 h2) (Nat.le_of_ble_eq_true rfl) (by rw [mx_cH (σ := mx_up σ id 0 v) h1 h2]; simp [mx_up_s, upd]) (by decide +kernel) rfl rfl hd k
theorem gfX2_46 {id : Nat} (h1 : 7 ≤ id) (h2 : id < 28) (hd : mx_at cc pc (.getfield 46) 3 n) (k : MX E K RX2 cc nL ret n lv ((.int (σ id 1)) :: st) σ post) : MX E K RX2 cc nL ret pc lv (mx_rf E id :: st) σ post := x_getf (ci := 0) (j := 1) (N := 8) (T := TX0) (v := (.int (σ id 1))) kx0 rfl rfl (mx_in (w := Cond.fieldLink RX2 46 RX0 (TX0 1).2.1 (TX0 1).2.2.1) 82 (by decide +kernel) rfl) (by decide) (by omega) (mx_cH h1 h2) rfl hd k
theorem pfX2_46 {id : Nat} {v : Int32} (h1 : 7 ≤ id) (h2 : id < 28) (hd : mx_at cc pc (.putfield 46) 3 n) (k : MX E K RX2 cc nL ret n lv st (mx_up σ id 1 v) post) : MX E K RX2 cc nL ret pc lv (.int v :: mx_rf E id :: st) σ post := x_putf (ci := 0) (j := 1) (N := 8) (T := TX0) (ty := .int) tyX0_ok nmX0 kx0 rfl rfl (mx_in (w := Cond.fieldLink RX2 46 RX0 (TX0 1).2.1 (TX0 1).2.2.1) 82 (by decide +kernel) rfl) (by decide) rfl (by omega) (mx_cH h1 h2) (Nat.le_of_ble_eq_true rfl) (by rw [mx_cH (σ := mx_up σ id 1 v) h1 h2]; simp [mx_up_s, upd]) (by decide +kernel) rfl rfl hd k
theorem gfX2_49 {id : Nat} (h1 : 7 ≤ id) (h2 : id < 28) (hd : mx_at cc pc (.getfield 49) 3 n) (k : MX E K RX2 cc nL ret n lv ((.int (σ id 2)) :: st) σ post) : MX E K RX2 cc nL ret pc lv (mx_rf E id :: st) σ post := x_getf (ci := 0) (j := 2) (N := 8) (T := TX0) (v := (.int (σ id 2))) kx0 rfl rfl (mx_in (w := Cond.fieldLink RX2 49 RX0 (TX0 2).2.1 (TX0 2).2.2.1) 85 (by decide +kernel) rfl) (by decide) (by omega) (mx_cH h1 h2) rfl hd k
theorem pfX2_49 {id : Nat} {v : Int32} (h1 : 7 ≤ id) (h2 : id < 28) (hd : mx_at cc pc (.putfield 49) 3 n) (k : MX E K RX2 cc nL ret n lv st (mx_up σ id 2 v) post) : MX E K RX2 cc nL ret pc lv (.int v :: mx_rf E id :: st) σ post := x_putf (ci := 0) (j := 2) (N := 8) (T := TX0) (ty := .int) tyX0_ok nmX0 kx0 rfl rfl (mx_in (w := Cond.fieldLink RX2 49 RX0 (TX0 2).2.1 (TX0 2).2.2.1) 85 (by decide +kernel) rfl) (by decide) rfl (by omega) (mx_cH h1 h2) (Nat.le_of_ble_eq_true rfl) (by rw [mx_cH (σ := mx_up σ id 2 v) h1 h2]; simp [mx_up_s, upd]) (by decide +kernel) rfl rfl hd k
theorem gfX2_52 {id : Nat} (h1 : 7 ≤ id) (h2 : id < 28) (hd : mx_at cc pc (.getfield 52) 3 n) (k : MX E K RX2 cc nL ret n lv ((.int (σ id 3)) :: st) σ post) : MX E K RX2 cc nL ret pc lv (mx_rf E id :: st) σ post := x_getf (ci := 0) (j := 3) (N := 8) (T := TX0) (v := (.int (σ id 3))) kx0 rfl rfl (mx_in (w := Cond.fieldLink RX2 52 RX0 (TX0 3).2.1 (TX0 3).2.2.1) 88 (by decide +kernel) rfl) (by decide) (by omega) (mx_cH h1 h2) rfl hd k
theorem pfX2_52 {id : Nat} {v : Int32} (h1 : 7 ≤ id) (h2 : id < 28) (hd : mx_at cc pc (.putfield 52) 3 n) (k : MX E K RX2 cc nL ret n lv st (mx_up σ id 3 v) post) : MX E K RX2 cc nL ret pc lv (.int v :: mx_rf E id :: st) σ post := x_putf (ci := 0) (j := 3) (N := 8) (T := TX0) (ty := .int) tyX0_ok nmX0 kx0 rfl rfl (mx_in (w := Cond.fieldLink RX2 52 RX0 (TX0 3).2.1 (TX0 3).2.2.1) 88 (by decide +kernel) rfl) (by decide) rfl (by omega) (mx_cH h1 h2) (Nat.le_of_ble_eq_true rfl) (by rw [mx_cH (σ := mx_up σ id 3 v) h1 h2]; simp [mx_up_s, upd]) (by decide +kernel) rfl rfl hd k
theorem gfX2_55 {id : Nat} (h1 : 7 ≤ id) (h2 : id < 28) (hd : mx_at cc pc (.getfield 55) 3 n) (k : MX E K RX2 cc nL ret n lv ((.int (σ id 6)) :: st) σ post) : MX E K RX2 cc nL ret pc lv (mx_rf E id :: st) σ post := x_getf (ci := 0) (j := 6) (N := 8) (T := TX0) (v := (.int (σ id 6))) kx0 rfl rfl (mx_in (w := Cond.fieldLink RX2 55 RX0 (TX0 6).2.1 (TX0 6).2.2.1) 97 (by decide +kernel) rfl) (by decide) (by omega) (mx_cH h1 h2) rfl hd k
theorem pfX2_55 {id : Nat} {v : Int32} (h1 : 7 ≤ id) (h2 : id < 28) (hb : v = 0 ∨ v = 1) (hd : mx_at cc pc (.putfield 55) 3 n) (k : MX E K RX2 cc nL ret n lv st (mx_up σ id 6 v) post) : MX E K RX2 cc nL ret pc lv (.int v :: mx_rf E id :: st) σ post := x_putf (ci := 0) (j := 6) (N := 8) (T := TX0) (ty := .boolean) tyX0_ok nmX0 kx0 rfl rfl (mx_in (w := Cond.fieldLink RX2 55 RX0 (TX0 6).2.1 (TX0 6).2.2.1) 97 (by decide +kernel) rfl) (by decide) rfl (by omega) (mx_cH h1 h2) (Nat.le_of_ble_eq_true rfl) (by rw [mx_cH (σ := mx_up σ id 6 v) h1 h2]; simp [mx_up_s, upd]) (by decide +kernel) (by rcases hb with rfl | rfl <;> rfl) (by rcases hb with rfl | rfl <;> rfl) hd k
theorem gfX2_66 {id : Nat} (h1 : 7 ≤ id) (h2 : id < 28) (hd : mx_at cc pc (.getfield 66) 3 n) (k : MX E K RX2 cc nL ret n lv ((.int (σ id 4)) :: st) σ post) : MX E K RX2 cc nL ret pc lv (mx_rf E id :: st) σ post := x_getf (ci := 0) (j := 4) (N := 8) (T := TX0) (v := (.int (σ id 4))) kx0 rfl rfl (mx_in (w := Cond.fieldLink RX2 66 RX0 (TX0 4).2.1 (TX0 4).2.2.1) 91 (by decide +kernel) rfl) (by decide) (by omega) (mx_cH h1 h2) rfl hd k
theorem pfX2_66 {id : Nat} {v : Int32} (h1 : 7 ≤ id) (h2 : id < 28) (hd : mx_at cc pc (.putfield 66) 3 n) (k : MX E K RX2 cc nL ret n lv st (mx_up σ id 4 v) post) : MX E K RX2 cc nL ret pc lv (.int v :: mx_rf E id :: st) σ post := x_putf (ci := 0) (j := 4) (N := 8) (T := TX0) (ty := .int) tyX0_ok nmX0 kx0 rfl rfl (mx_in (w := Cond.fieldLink RX2 66 RX0 (TX0 4).2.1 (TX0 4).2.2.1) 91 (by decide +kernel) rfl) (by decide) rfl (by omega) (mx_cH h1 h2) (Nat.le_of_ble_eq_true rfl) (by rw [mx_cH (σ := mx_up σ id 4 v) h1 h2]; simp [mx_up_s, upd]) (by decide +kernel) rfl rfl hd k
theorem gfX2_69 {id : Nat} (h1 : 7 ≤ id) (h2 : id < 28) (hd : mx_at cc pc (.getfield 69) 3 n) (k : MX E K RX2 cc nL ret n lv ((.int (σ id 5)) :: st) σ post) : MX E K RX2 cc nL ret pc lv (mx_rf E id :: st) σ post := x_getf (ci := 0) (j := 5) (N := 8) (T := TX0) (v := (.int (σ id 5))) kx0 rfl rfl (mx_in (w := Cond.fieldLink RX2 69 RX0 (TX0 5).2.1 (TX0 5).2.2.1) 94 (by decide +kernel) rfl) (by decide) (by omega) (mx_cH h1 h2) rfl hd k
theorem pfX2_69 {id : Nat} {v : Int32} (h1 : 7 ≤ id) (h2 : id < 28) (hd : mx_at cc pc (.putfield 69) 3 n) (k : MX E K RX2 cc nL ret n lv st (mx_up σ id 5 v) post) : MX E K RX2 cc nL ret pc lv (.int v :: mx_rf E id :: st) σ post := x_putf (ci := 0) (j := 5) (N := 8) (T := TX0) (ty := .int) tyX0_ok nmX0 kx0 rfl rfl (mx_in (w := Cond.fieldLink RX2 69 RX0 (TX0 5).2.1 (TX0 5).2.2.1) 94 (by decide +kernel) rfl) (by decide) rfl (by omega) (mx_cH h1 h2) (Nat.le_of_ble_eq_true rfl) (by rw [mx_cH (σ := mx_up σ id 5 v) h1 h2]; simp [mx_up_s, upd]) (by decide +kernel) rfl rfl hd k
theorem gfX4_9 (hd : mx_at cc pc (.getfield 9) 3 n) (k : MX E K RX4 cc nL ret n lv ((mx_rf E 36) :: st) σ post) : MX E K RX4 cc nL ret pc lv (mx_rf E 35 :: st) σ post := x_getf (ci := 4) (j := 0) (N := 13) (T := TX4) (v := (mx_rf E 36)) kx4 rfl rfl (mx_in (w := Cond.fieldLink RX4 9 RX4 (TX4 0).2.1 (TX4 0).2.2.1) 597 (by decide +kernel) rfl) (by decide) (by decide) rfl rfl hd k
theorem gfX4_13 (hd : mx_at cc pc (.getfield 13) 3 n) (k : MX E K RX4 cc nL ret n lv ((mx_rf E 37) :: st) σ post) : MX E K RX4 cc nL ret pc lv (mx_rf E 35 :: st) σ post := x_getf (ci := 4) (j := 1) (N := 13) (T := TX4) (v := (mx_rf E 37)) kx4 rfl rfl (mx_in (w := Cond.fieldLink RX4 13 RX4 (TX4 1).2.1 (TX4 1).2.2.1) 598 (by decide +kernel) rfl) (by decide) (by decide) rfl rfl hd k
theorem gfX4_16 (hd : mx_at cc pc (.getfield 16) 3 n) (k : MX E K RX4 cc nL ret n lv ((mx_rf E 38) :: st) σ post) : MX E K RX4 cc nL ret pc lv (mx_rf E 35 :: st) σ post := x_getf (ci := 4) (j := 2) (N := 13) (T := TX4) (v := (mx_rf E 38)) kx4 rfl rfl (mx_in (w := Cond.fieldLink RX4 16 RX4 (TX4 2).2.1 (TX4 2).2.2.1) 599 (by decide +kernel) rfl) (by decide) (by decide) rfl rfl hd k
theorem gfX4_19 (hd : mx_at cc pc (.getfield 19) 3 n) (k : MX E K RX4 cc nL ret n lv ((mx_rf E 39) :: st) σ post) : MX E K RX4 cc nL ret pc lv (mx_rf E 35 :: st) σ post := x_getf (ci := 4) (j := 3) (N := 13) (T := TX4) (v := (mx_rf E 39)) kx4 rfl rfl (mx_in (w := Cond.fieldLink RX4 19 RX4 (TX4 3).2.1 (TX4 3).2.2.1) 600 (by decide +kernel) rfl) (by decide) (by decide) rfl rfl hd k
theorem gfX4_22 (hd : mx_at cc pc (.getfield 22) 3 n) (k : MX E K RX4 cc nL ret n lv ((mx_rf E 40) :: st) σ post) : MX E K RX4 cc nL ret pc lv (mx_rf E 35 :: st) σ post := x_getf (ci := 4) (j := 5) (N := 13) (T := TX4) (v := (mx_rf E 40)) kx4 rfl rfl (mx_in (w := Cond.fieldLink RX4 22 RX4 (TX4 5).2.1 (TX4 5).2.2.1) 602 (by decide +kernel) rfl) (by decide) (by decide) rfl rfl hd k
theorem gfX4_25 (hd : mx_at cc pc (.getfield 25) 3 n) (k : MX E K RX4 cc nL ret n lv ((mx_rf E 41) :: st) σ post) : MX E K RX4 cc nL ret pc lv (mx_rf E 35 :: st) σ post := x_getf (ci := 4) (j := 6) (N := 13) (T := TX4) (v := (mx_rf E 41)) kx4 rfl rfl (mx_in (w := Cond.fieldLink RX4 25 RX4 (TX4 6).2.1 (TX4 6).2.2.1) 603 (by decide +kernel) rfl) (by decide) (by decide) rfl rfl hd k
theorem gfX4_28 (hd : mx_at cc pc (.getfield 28) 3 n) (k : MX E K RX4 cc nL ret n lv ((mx_rf E 42) :: st) σ post) : MX E K RX4 cc nL ret pc lv (mx_rf E 35 :: st) σ post := x_getf (ci := 4) (j := 7) (N := 13) (T := TX4) (v := (mx_rf E 42)) kx4 rfl rfl (mx_in (w := Cond.fieldLink RX4 28 RX4 (TX4 7).2.1 (TX4 7).2.2.1) 604 (by decide +kernel) rfl) (by decide) (by decide) rfl rfl hd k
theorem gfX4_31 (hd : mx_at cc pc (.getfield 31) 3 n) (k : MX E K RX4 cc nL ret n lv ((mx_rf E 43) :: st) σ post) : MX E K RX4 cc nL ret pc lv (mx_rf E 35 :: st) σ post := x_getf (ci := 4) (j := 11) (N := 13) (T := TX4) (v := (mx_rf E 43)) kx4 rfl rfl (mx_in (w := Cond.fieldLink RX4 31 RX4 (TX4 11).2.1 (TX4 11).2.2.1) 608 (by decide +kernel) rfl) (by decide) (by decide) rfl rfl hd k
theorem gfX4_87 (hd : mx_at cc pc (.getfield 87) 3 n) (k : MX E K RX4 cc nL ret n lv ((.int (σ 35 8)) :: st) σ post) : MX E K RX4 cc nL ret pc lv (mx_rf E 35 :: st) σ post := x_getf (ci := 4) (j := 8) (N := 13) (T := TX4) (v := (.int (σ 35 8))) kx4 rfl rfl (mx_in (w := Cond.fieldLink RX4 87 RX4 (TX4 8).2.1 (TX4 8).2.2.1) 605 (by decide +kernel) rfl) (by decide) (by decide) rfl rfl hd k
theorem pfX4_87 {v : Int32} (hd : mx_at cc pc (.putfield 87) 3 n) (k : MX E K RX4 cc nL ret n lv st (mx_up σ 35 8 v) post) : MX E K RX4 cc nL ret pc lv (.int v :: mx_rf E 35 :: st) σ post := x_putf (ci := 4) (j := 8) (N := 13) (T := TX4) (ty := .int) tyX4_ok nmX4 kx4 rfl rfl (mx_in (w := Cond.fieldLink RX4 87 RX4 (TX4 8).2.1 (TX4 8).2.2.1) 605 (by decide +kernel) rfl) (by decide) rfl (by decide) rfl (Nat.le_of_ble_eq_true rfl) (by unfold mx_cell; simp [mx_up_s, upd]) (by decide +kernel) rfl rfl hd k
theorem gfX4_91 (hd : mx_at cc pc (.getfield 91) 3 n) (k : MX E K RX4 cc nL ret n lv ((.int (σ 35 10)) :: st) σ post) : MX E K RX4 cc nL ret pc lv (mx_rf E 35 :: st) σ post := x_getf (ci := 4) (j := 10) (N := 13) (T := TX4) (v := (.int (σ 35 10))) kx4 rfl rfl (mx_in (w := Cond.fieldLink RX4 91 RX4 (TX4 10).2.1 (TX4 10).2.2.1) 607 (by decide +kernel) rfl) (by decide) (by decide) rfl rfl hd k
theorem pfX4_91 {v : Int32} (hd : mx_at cc pc (.putfield 91) 3 n) (k : MX E K RX4 cc nL ret n lv st (mx_up σ 35 10 v) post) : MX E K RX4 cc nL ret pc lv (.int v :: mx_rf E 35 :: st) σ post := x_putf (ci := 4) (j := 10) (N := 13) (T := TX4) (ty := .int) tyX4_ok nmX4 kx4 rfl rfl (mx_in (w := Cond.fieldLink RX4 91 RX4 (TX4 10).2.1 (TX4 10).2.2.1) 607 (by decide +kernel) rfl) (by decide) rfl (by decide) rfl (Nat.le_of_ble_eq_true rfl) (by unfold mx_cell; simp [mx_up_s, upd]) (by decide +kernel) rfl rfl hd k
theorem gfX4_199 (hd : mx_at cc pc (.getfield 199) 3 n) (k : MX E K RX4 cc nL ret n lv ((.int (σ 35 9)) :: st) σ post) : MX E K RX4 cc nL ret pc lv (mx_rf E 35 :: st) σ post := x_getf (ci := 4) (j := 9) (N := 13) (T := TX4) (v := (.int (σ 35 9))) kx4 rfl rfl (mx_in (w := Cond.fieldLink RX4 199 RX4 (TX4 9).2.1 (TX4 9).2.2.1) 606 (by decide +kernel) rfl) (by decide) (by decide) rfl rfl hd k
theorem pfX4_199 {v : Int32} (hd : mx_at cc pc (.putfield 199) 3 n) (k : MX E K RX4 cc nL ret n lv st (mx_up σ 35 9 v) post) : MX E K RX4 cc nL ret pc lv (.int v :: mx_rf E 35 :: st) σ post := x_putf (ci := 4) (j := 9) (N := 13) (T := TX4) (ty := .int) tyX4_ok nmX4 kx4 rfl rfl (mx_in (w := Cond.fieldLink RX4 199 RX4 (TX4 9).2.1 (TX4 9).2.2.1) 606 (by decide +kernel) rfl) (by decide) rfl (by decide) rfl (Nat.le_of_ble_eq_true rfl) (by unfold mx_cell; simp [mx_up_s, upd]) (by decide +kernel) rfl rfl hd k
theorem gfX4_202 (hd : mx_at cc pc (.getfield 202) 3 n) (k : MX E K RX4 cc nL ret n lv ((.int (σ 35 12)) :: st) σ post) : MX E K RX4 cc nL ret pc lv (mx_rf E 35 :: st) σ post := x_getf (ci := 4) (j := 12) (N := 13) (T := TX4) (v := (.int (σ 35 12))) kx4 rfl rfl (mx_in (w := Cond.fieldLink RX4 202 RX4 (TX4 12).2.1 (TX4 12).2.2.1) 609 (by decide +kernel) rfl) (by decide) (by decide) rfl rfl hd k
theorem pfX4_202 {v : Int32} (hd : mx_at cc pc (.putfield 202) 3 n) (k : MX E K RX4 cc nL ret n lv st (mx_up σ 35 12 v) post) : MX E K RX4 cc nL ret pc lv (.int v :: mx_rf E 35 :: st) σ post := x_putf (ci := 4) (j := 12) (N := 13) (T := TX4) (ty := .int) tyX4_ok nmX4 kx4 rfl rfl (mx_in (w := Cond.fieldLink RX4 202 RX4 (TX4 12).2.1 (TX4 12).2.2.1) 609 (by decide +kernel) rfl) (by decide) rfl (by decide) rfl (Nat.le_of_ble_eq_true rfl) (by unfold mx_cell; simp [mx_up_s, upd]) (by decide +kernel) rfl rfl hd k
theorem gfX4_211 (hd : mx_at cc pc (.getfield 211) 3 n) (k : MX E K RX4 cc nL ret n lv ((.int (σ 35 4)) :: st) σ post) : MX E K RX4 cc nL ret pc lv (mx_rf E 35 :: st) σ post := x_getf (ci := 4) (j := 4) (N := 13) (T := TX4) (v := (.int (σ 35 4))) kx4 rfl rfl (mx_in (w := Cond.fieldLink RX4 211 RX4 (TX4 4).2.1 (TX4 4).2.2.1) 601 (by decide +kernel) rfl) (by decide) (by decide) rfl rfl hd k
theorem pfX4_211 {v : Int32} (hb : v = 0 ∨ v = 1) (hd : mx_at cc pc (.putfield 211) 3 n) (k : MX E K RX4 cc nL ret n lv st (mx_up σ 35 4 v) post) : MX E K RX4 cc nL ret pc lv (.int v :: mx_rf E 35 :: st) σ post := x_putf (ci := 4) (j := 4) (N := 13) (T := TX4) (ty := .boolean) tyX4_ok nmX4 kx4 rfl rfl (mx_in (w := Cond.fieldLink RX4 211 RX4 (TX4 4).2.1 (TX4 4).2.2.1) 601 (by decide +kernel) rfl) (by decide) rfl (by decide) rfl (Nat.le_of_ble_eq_true rfl) (by unfold mx_cell; simp [mx_up_s, upd]) (by decide +kernel) (by rcases hb with rfl | rfl <;> rfl) (by rcases hb with rfl | rfl <;> rfl) hd k
theorem kkX3_271 : Cond.constant RX3 271 (1664525) ∈ mx_tbl := mx_in 572 (by decide +kernel) rfl
theorem kkX3_272 : Cond.constant RX3 272 (1013904223) ∈ mx_tbl := mx_in 573 (by decide +kernel) rfl
theorem kkX3_273 : Cond.constant RX3 273 (2147483647) ∈ mx_tbl := mx_in 574 (by decide +kernel) rfl
theorem kkX4_148 : Cond.constant RX4 148 (1000000000) ∈ mx_tbl := mx_in 795 (by decide +kernel) rfl
theorem kkX4_205 : Cond.constant RX4 205 (1664525) ∈ mx_tbl := mx_in 929 (by decide +kernel) rfl
theorem kkX4_206 : Cond.constant RX4 206 (1013904223) ∈ mx_tbl := mx_in 930 (by decide +kernel) rfl
theorem kkX4_207 : Cond.constant RX4 207 (2147483647) ∈ mx_tbl := mx_in 931 (by decide +kernel) rfl
theorem kkJ6_265 : Cond.constant RJ6 265 (1431655765) ∈ mx_tbl := mx_in 382 (by decide +kernel) rfl
theorem kkJ6_266 : Cond.constant RJ6 266 (858993459) ∈ mx_tbl := mx_in 383 (by decide +kernel) rfl
theorem kkJ6_267 : Cond.constant RJ6 267 (252645135) ∈ mx_tbl := mx_in 384 (by decide +kernel) rfl
theorem kkX3_277 : Cond.constantLong RX3 277 (4000000000000000000) ∈ mx_tbl := mx_in 520 (by decide +kernel) rfl
theorem kkX4_34 : Cond.constantLong RX4 34 (4000000000000000000) ∈ mx_tbl := mx_in 891 (by decide +kernel) rfl
end SPEC
end
