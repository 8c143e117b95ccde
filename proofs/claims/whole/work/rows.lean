section
-- ===== PART A: goes FIRST, ahead of the names: the tables' words, and 'selects' of the private methods out of them =====
/-- a private method of a class that the tables say can be made, by its rows of tables_1 -/
def lw_okq (q : MethodName × Nat) : Prop := (q.1.cls ≠ "java/lang/invoke/MethodHandle" ∧ q.1.cls ≠ "java/lang/invoke/VarHandle") ∧ Cond.instantiable q.1.cls q.2 ∈ tables_1 ∧ Cond.privateMethod q.1 ∈ tables_1 ∧ Cond.instanceMethod q.1 ∈ tables_1
theorem lw_p0 : lw_okq (⟨"RoomToSpare", "refuse", "(I)I"⟩, 8) := ⟨⟨by decide +kernel, by decide +kernel⟩, List.mem_of_getElem? (i := 9) (by decide +kernel), List.mem_of_getElem? (i := 139) (by decide +kernel), List.mem_of_getElem? (i := 140) (by decide +kernel)⟩
theorem lw_p1 : lw_okq (⟨"RoomToSpare", "brokenPlace", "()I"⟩, 8) := ⟨⟨by decide +kernel, by decide +kernel⟩, List.mem_of_getElem? (i := 9) (by decide +kernel), List.mem_of_getElem? (i := 155) (by decide +kernel), List.mem_of_getElem? (i := 156) (by decide +kernel)⟩
theorem lw_p2 : lw_okq (⟨"RoomToSpare", "readStatements", "()I"⟩, 8) := ⟨⟨by decide +kernel, by decide +kernel⟩, List.mem_of_getElem? (i := 9) (by decide +kernel), List.mem_of_getElem? (i := 172) (by decide +kernel), List.mem_of_getElem? (i := 173) (by decide +kernel)⟩
theorem lw_p3 : lw_okq (⟨"RoomToSpare", "comes", "(I)Z"⟩, 8) := ⟨⟨by decide +kernel, by decide +kernel⟩, List.mem_of_getElem? (i := 9) (by decide +kernel), List.mem_of_getElem? (i := 188) (by decide +kernel), List.mem_of_getElem? (i := 189) (by decide +kernel)⟩
theorem lw_p4 : lw_okq (⟨"RoomToSpare", "comesHouse", "(I)Z"⟩, 8) := ⟨⟨by decide +kernel, by decide +kernel⟩, List.mem_of_getElem? (i := 9) (by decide +kernel), List.mem_of_getElem? (i := 192) (by decide +kernel), List.mem_of_getElem? (i := 193) (by decide +kernel)⟩
theorem lw_p5 : lw_okq (⟨"RoomToSpare", "number", "(II)I"⟩, 8) := ⟨⟨by decide +kernel, by decide +kernel⟩, List.mem_of_getElem? (i := 9) (by decide +kernel), List.mem_of_getElem? (i := 196) (by decide +kernel), List.mem_of_getElem? (i := 197) (by decide +kernel)⟩
theorem lw_p6 : lw_okq (⟨"RoomToSpare", "comesPeople", "(I)Z"⟩, 8) := ⟨⟨by decide +kernel, by decide +kernel⟩, List.mem_of_getElem? (i := 9) (by decide +kernel), List.mem_of_getElem? (i := 204) (by decide +kernel), List.mem_of_getElem? (i := 205) (by decide +kernel)⟩
theorem lw_p7 : lw_okq (⟨"RoomToSpare", "comesDust", "(I)Z"⟩, 8) := ⟨⟨by decide +kernel, by decide +kernel⟩, List.mem_of_getElem? (i := 9) (by decide +kernel), List.mem_of_getElem? (i := 213) (by decide +kernel), List.mem_of_getElem? (i := 214) (by decide +kernel)⟩
theorem lw_p8 : lw_okq (⟨"RoomToSpare", "comesTurned", "(I)Z"⟩, 8) := ⟨⟨by decide +kernel, by decide +kernel⟩, List.mem_of_getElem? (i := 9) (by decide +kernel), List.mem_of_getElem? (i := 217) (by decide +kernel), List.mem_of_getElem? (i := 218) (by decide +kernel)⟩
theorem lw_p9 : lw_okq (⟨"RoomToSpare", "comesInspector", "(I)Z"⟩, 8) := ⟨⟨by decide +kernel, by decide +kernel⟩, List.mem_of_getElem? (i := 9) (by decide +kernel), List.mem_of_getElem? (i := 221) (by decide +kernel), List.mem_of_getElem? (i := 222) (by decide +kernel)⟩
theorem lw_p10 : lw_okq (⟨"RoomToSpare", "comesWeeks", "(I)Z"⟩, 8) := ⟨⟨by decide +kernel, by decide +kernel⟩, List.mem_of_getElem? (i := 9) (by decide +kernel), List.mem_of_getElem? (i := 225) (by decide +kernel), List.mem_of_getElem? (i := 226) (by decide +kernel)⟩
theorem lw_p11 : lw_okq (⟨"RoomToSpare$Town", "inspect", "()V"⟩, 6) := ⟨⟨by decide +kernel, by decide +kernel⟩, List.mem_of_getElem? (i := 17) (by decide +kernel), List.mem_of_getElem? (i := 268) (by decide +kernel), List.mem_of_getElem? (i := 269) (by decide +kernel)⟩
theorem lw_p12 : lw_okq (⟨"RoomToSpare$Town", "lose", "(LRoomToSpare$House;I)V"⟩, 6) := ⟨⟨by decide +kernel, by decide +kernel⟩, List.mem_of_getElem? (i := 17) (by decide +kernel), List.mem_of_getElem? (i := 276) (by decide +kernel), List.mem_of_getElem? (i := 277) (by decide +kernel)⟩
theorem lw_p13 : lw_okq (⟨"RoomToSpare", "firstLost", "()I"⟩, 8) := ⟨⟨by decide +kernel, by decide +kernel⟩, List.mem_of_getElem? (i := 9) (by decide +kernel), List.mem_of_getElem? (i := 353) (by decide +kernel), List.mem_of_getElem? (i := 354) (by decide +kernel)⟩
theorem lw_p14 : lw_okq (⟨"RoomToSpare", "weeksTillLost", "(I)I"⟩, 8) := ⟨⟨by decide +kernel, by decide +kernel⟩, List.mem_of_getElem? (i := 9) (by decide +kernel), List.mem_of_getElem? (i := 357) (by decide +kernel), List.mem_of_getElem? (i := 358) (by decide +kernel)⟩
theorem lw_p15 : lw_okq (⟨"RoomToSpare", "keptIfHalfMoves", "(III)I"⟩, 8) := ⟨⟨by decide +kernel, by decide +kernel⟩, List.mem_of_getElem? (i := 9) (by decide +kernel), List.mem_of_getElem? (i := 378) (by decide +kernel), List.mem_of_getElem? (i := 379) (by decide +kernel)⟩
def lw_privs_1 : List (MethodName × Nat) := [(⟨"RoomToSpare", "refuse", "(I)I"⟩, 8), (⟨"RoomToSpare", "brokenPlace", "()I"⟩, 8), (⟨"RoomToSpare", "readStatements", "()I"⟩, 8), (⟨"RoomToSpare", "comes", "(I)Z"⟩, 8), (⟨"RoomToSpare", "comesHouse", "(I)Z"⟩, 8), (⟨"RoomToSpare", "number", "(II)I"⟩, 8), (⟨"RoomToSpare", "comesPeople", "(I)Z"⟩, 8), (⟨"RoomToSpare", "comesDust", "(I)Z"⟩, 8), (⟨"RoomToSpare", "comesTurned", "(I)Z"⟩, 8), (⟨"RoomToSpare", "comesInspector", "(I)Z"⟩, 8), (⟨"RoomToSpare", "comesWeeks", "(I)Z"⟩, 8), (⟨"RoomToSpare$Town", "inspect", "()V"⟩, 6), (⟨"RoomToSpare$Town", "lose", "(LRoomToSpare$House;I)V"⟩, 6), (⟨"RoomToSpare", "firstLost", "()I"⟩, 8), (⟨"RoomToSpare", "weeksTillLost", "(I)I"⟩, 8), (⟨"RoomToSpare", "keptIfHalfMoves", "(III)I"⟩, 8)]
theorem lw_r1 : ∀ q ∈ lw_privs_1, lw_okq q := List.forall_mem_cons.mpr ⟨lw_p0, List.forall_mem_cons.mpr ⟨lw_p1, List.forall_mem_cons.mpr ⟨lw_p2, List.forall_mem_cons.mpr ⟨lw_p3, List.forall_mem_cons.mpr ⟨lw_p4, List.forall_mem_cons.mpr ⟨lw_p5, List.forall_mem_cons.mpr ⟨lw_p6, List.forall_mem_cons.mpr ⟨lw_p7, List.forall_mem_cons.mpr ⟨lw_p8, List.forall_mem_cons.mpr ⟨lw_p9, List.forall_mem_cons.mpr ⟨lw_p10, List.forall_mem_cons.mpr ⟨lw_p11, List.forall_mem_cons.mpr ⟨lw_p12, List.forall_mem_cons.mpr ⟨lw_p13, List.forall_mem_cons.mpr ⟨lw_p14, List.forall_mem_cons.mpr ⟨lw_p15, fun _ h => absurd h List.not_mem_nil⟩⟩⟩⟩⟩⟩⟩⟩⟩⟩⟩⟩⟩⟩⟩⟩
theorem lw_p16 : lw_okq (⟨"RoomToSpare", "noneLostIfAired", "(II)Z"⟩, 8) := ⟨⟨by decide +kernel, by decide +kernel⟩, List.mem_of_getElem? (i := 9) (by decide +kernel), List.mem_of_getElem? (i := 388) (by decide +kernel), List.mem_of_getElem? (i := 389) (by decide +kernel)⟩
theorem lw_p17 : lw_okq (⟨"RoomToSpare", "noneLostWithin", "(I)Z"⟩, 8) := ⟨⟨by decide +kernel, by decide +kernel⟩, List.mem_of_getElem? (i := 9) (by decide +kernel), List.mem_of_getElem? (i := 392) (by decide +kernel), List.mem_of_getElem? (i := 393) (by decide +kernel)⟩
theorem lw_p18 : lw_okq (⟨"RoomToSpare", "lasts", "()I"⟩, 8) := ⟨⟨by decide +kernel, by decide +kernel⟩, List.mem_of_getElem? (i := 9) (by decide +kernel), List.mem_of_getElem? (i := 425) (by decide +kernel), List.mem_of_getElem? (i := 426) (by decide +kernel)⟩
theorem lw_p19 : lw_okq (⟨"RoomToSpare", "worth", "(IZIZI)I"⟩, 8) := ⟨⟨by decide +kernel, by decide +kernel⟩, List.mem_of_getElem? (i := 9) (by decide +kernel), List.mem_of_getElem? (i := 456) (by decide +kernel), List.mem_of_getElem? (i := 457) (by decide +kernel)⟩
theorem lw_p20 : lw_okq (⟨"RoomToSpare", "refuseLong", "(I)J"⟩, 8) := ⟨⟨by decide +kernel, by decide +kernel⟩, List.mem_of_getElem? (i := 9) (by decide +kernel), List.mem_of_getElem? (i := 468) (by decide +kernel), List.mem_of_getElem? (i := 469) (by decide +kernel)⟩
theorem lw_p21 : lw_okq (⟨"RoomToSpare", "isKeptWithGuests", "(III)Z"⟩, 8) := ⟨⟨by decide +kernel, by decide +kernel⟩, List.mem_of_getElem? (i := 9) (by decide +kernel), List.mem_of_getElem? (i := 473) (by decide +kernel), List.mem_of_getElem? (i := 474) (by decide +kernel)⟩
theorem lw_p22 : lw_okq (⟨"RoomToSpare", "dustIsAsTold", "(I)Z"⟩, 8) := ⟨⟨by decide +kernel, by decide +kernel⟩, List.mem_of_getElem? (i := 9) (by decide +kernel), List.mem_of_getElem? (i := 500) (by decide +kernel), List.mem_of_getElem? (i := 501) (by decide +kernel)⟩
theorem lw_p23 : lw_okq (⟨"RoomToSpare", "drawPeople", "(I)I"⟩, 8) := ⟨⟨by decide +kernel, by decide +kernel⟩, List.mem_of_getElem? (i := 9) (by decide +kernel), List.mem_of_getElem? (i := 520) (by decide +kernel), List.mem_of_getElem? (i := 521) (by decide +kernel)⟩
theorem lw_p24 : lw_okq (⟨"RoomToSpare", "refused", "(I)I"⟩, 8) := ⟨⟨by decide +kernel, by decide +kernel⟩, List.mem_of_getElem? (i := 9) (by decide +kernel), List.mem_of_getElem? (i := 539) (by decide +kernel), List.mem_of_getElem? (i := 540) (by decide +kernel)⟩
theorem lw_p25 : lw_okq (⟨"RoomToSpareModel", "no", "(I)I"⟩, 13) := ⟨⟨by decide +kernel, by decide +kernel⟩, List.mem_of_getElem? (i := 543) (by decide +kernel), List.mem_of_getElem? (i := 593) (by decide +kernel), List.mem_of_getElem? (i := 594) (by decide +kernel)⟩
theorem lw_p26 : lw_okq (⟨"RoomToSpareModel", "readsStatement", "()Z"⟩, 13) := ⟨⟨by decide +kernel, by decide +kernel⟩, List.mem_of_getElem? (i := 543) (by decide +kernel), List.mem_of_getElem? (i := 601) (by decide +kernel), List.mem_of_getElem? (i := 602) (by decide +kernel)⟩
theorem lw_p27 : lw_okq (⟨"RoomToSpareModel", "here", "()I"⟩, 13) := ⟨⟨by decide +kernel, by decide +kernel⟩, List.mem_of_getElem? (i := 543) (by decide +kernel), List.mem_of_getElem? (i := 605) (by decide +kernel), List.mem_of_getElem? (i := 606) (by decide +kernel)⟩
theorem lw_p28 : lw_okq (⟨"RoomToSpareModel", "readsKind", "()Z"⟩, 13) := ⟨⟨by decide +kernel, by decide +kernel⟩, List.mem_of_getElem? (i := 543) (by decide +kernel), List.mem_of_getElem? (i := 609) (by decide +kernel), List.mem_of_getElem? (i := 610) (by decide +kernel)⟩
theorem lw_p29 : lw_okq (⟨"RoomToSpareModel", "readsNumber", "(II)Z"⟩, 13) := ⟨⟨by decide +kernel, by decide +kernel⟩, List.mem_of_getElem? (i := 543) (by decide +kernel), List.mem_of_getElem? (i := 616) (by decide +kernel), List.mem_of_getElem? (i := 617) (by decide +kernel)⟩
theorem lw_p30 : lw_okq (⟨"RoomToSpareModel", "isDone", "(I)Z"⟩, 13) := ⟨⟨by decide +kernel, by decide +kernel⟩, List.mem_of_getElem? (i := 543) (by decide +kernel), List.mem_of_getElem? (i := 626) (by decide +kernel), List.mem_of_getElem? (i := 627) (by decide +kernel)⟩
theorem lw_p31 : lw_okq (⟨"RoomToSpareModel", "addsHouse", "()Z"⟩, 13) := ⟨⟨by decide +kernel, by decide +kernel⟩, List.mem_of_getElem? (i := 543) (by decide +kernel), List.mem_of_getElem? (i := 630) (by decide +kernel), List.mem_of_getElem? (i := 631) (by decide +kernel)⟩
def lw_privs_2 : List (MethodName × Nat) := [(⟨"RoomToSpare", "noneLostIfAired", "(II)Z"⟩, 8), (⟨"RoomToSpare", "noneLostWithin", "(I)Z"⟩, 8), (⟨"RoomToSpare", "lasts", "()I"⟩, 8), (⟨"RoomToSpare", "worth", "(IZIZI)I"⟩, 8), (⟨"RoomToSpare", "refuseLong", "(I)J"⟩, 8), (⟨"RoomToSpare", "isKeptWithGuests", "(III)Z"⟩, 8), (⟨"RoomToSpare", "dustIsAsTold", "(I)Z"⟩, 8), (⟨"RoomToSpare", "drawPeople", "(I)I"⟩, 8), (⟨"RoomToSpare", "refused", "(I)I"⟩, 8), (⟨"RoomToSpareModel", "no", "(I)I"⟩, 13), (⟨"RoomToSpareModel", "readsStatement", "()Z"⟩, 13), (⟨"RoomToSpareModel", "here", "()I"⟩, 13), (⟨"RoomToSpareModel", "readsKind", "()Z"⟩, 13), (⟨"RoomToSpareModel", "readsNumber", "(II)Z"⟩, 13), (⟨"RoomToSpareModel", "isDone", "(I)Z"⟩, 13), (⟨"RoomToSpareModel", "addsHouse", "()Z"⟩, 13)]
theorem lw_r2 : ∀ q ∈ lw_privs_2, lw_okq q := List.forall_mem_cons.mpr ⟨lw_p16, List.forall_mem_cons.mpr ⟨lw_p17, List.forall_mem_cons.mpr ⟨lw_p18, List.forall_mem_cons.mpr ⟨lw_p19, List.forall_mem_cons.mpr ⟨lw_p20, List.forall_mem_cons.mpr ⟨lw_p21, List.forall_mem_cons.mpr ⟨lw_p22, List.forall_mem_cons.mpr ⟨lw_p23, List.forall_mem_cons.mpr ⟨lw_p24, List.forall_mem_cons.mpr ⟨lw_p25, List.forall_mem_cons.mpr ⟨lw_p26, List.forall_mem_cons.mpr ⟨lw_p27, List.forall_mem_cons.mpr ⟨lw_p28, List.forall_mem_cons.mpr ⟨lw_p29, List.forall_mem_cons.mpr ⟨lw_p30, List.forall_mem_cons.mpr ⟨lw_p31, fun _ h => absurd h List.not_mem_nil⟩⟩⟩⟩⟩⟩⟩⟩⟩⟩⟩⟩⟩⟩⟩⟩
theorem lw_p32 : lw_okq (⟨"RoomToSpareModel", "isHouse", "(I)Z"⟩, 13) := ⟨⟨by decide +kernel, by decide +kernel⟩, List.mem_of_getElem? (i := 543) (by decide +kernel), List.mem_of_getElem? (i := 637) (by decide +kernel), List.mem_of_getElem? (i := 638) (by decide +kernel)⟩
theorem lw_p33 : lw_okq (⟨"RoomToSpareModel", "setsOf", "(IIII)I"⟩, 13) := ⟨⟨by decide +kernel, by decide +kernel⟩, List.mem_of_getElem? (i := 543) (by decide +kernel), List.mem_of_getElem? (i := 685) (by decide +kernel), List.mem_of_getElem? (i := 686) (by decide +kernel)⟩
theorem lw_p34 : lw_okq (⟨"RoomToSpareModel", "sets", "(II)I"⟩, 13) := ⟨⟨by decide +kernel, by decide +kernel⟩, List.mem_of_getElem? (i := 543) (by decide +kernel), List.mem_of_getElem? (i := 692) (by decide +kernel), List.mem_of_getElem? (i := 693) (by decide +kernel)⟩
theorem lw_p35 : lw_okq (⟨"RoomToSpareModel", "takes", "(I)V"⟩, 13) := ⟨⟨by decide +kernel, by decide +kernel⟩, List.mem_of_getElem? (i := 543) (by decide +kernel), List.mem_of_getElem? (i := 731) (by decide +kernel), List.mem_of_getElem? (i := 732) (by decide +kernel)⟩
theorem lw_p36 : lw_okq (⟨"RoomToSpareModel", "firstLost", "()I"⟩, 13) := ⟨⟨by decide +kernel, by decide +kernel⟩, List.mem_of_getElem? (i := 543) (by decide +kernel), List.mem_of_getElem? (i := 743) (by decide +kernel), List.mem_of_getElem? (i := 744) (by decide +kernel)⟩
theorem lw_p37 : lw_okq (⟨"RoomToSpareModel", "lostOf", "(I)I"⟩, 13) := ⟨⟨by decide +kernel, by decide +kernel⟩, List.mem_of_getElem? (i := 543) (by decide +kernel), List.mem_of_getElem? (i := 748) (by decide +kernel), List.mem_of_getElem? (i := 749) (by decide +kernel)⟩
theorem lw_p38 : lw_okq (⟨"RoomToSpareModel", "whenLost", "(I)I"⟩, 13) := ⟨⟨by decide +kernel, by decide +kernel⟩, List.mem_of_getElem? (i := 543) (by decide +kernel), List.mem_of_getElem? (i := 752) (by decide +kernel), List.mem_of_getElem? (i := 753) (by decide +kernel)⟩
theorem lw_p39 : lw_okq (⟨"RoomToSpareModel", "keptThen", "(I)I"⟩, 13) := ⟨⟨by decide +kernel, by decide +kernel⟩, List.mem_of_getElem? (i := 543) (by decide +kernel), List.mem_of_getElem? (i := 767) (by decide +kernel), List.mem_of_getElem? (i := 768) (by decide +kernel)⟩
theorem lw_p40 : lw_okq (⟨"RoomToSpareModel", "isNoneLost", "(I)Z"⟩, 13) := ⟨⟨by decide +kernel, by decide +kernel⟩, List.mem_of_getElem? (i := 543) (by decide +kernel), List.mem_of_getElem? (i := 779) (by decide +kernel), List.mem_of_getElem? (i := 780) (by decide +kernel)⟩
theorem lw_p41 : lw_okq (⟨"RoomToSpareModel", "spareOnes", "()I"⟩, 13) := ⟨⟨by decide +kernel, by decide +kernel⟩, List.mem_of_getElem? (i := 543) (by decide +kernel), List.mem_of_getElem? (i := 799) (by decide +kernel), List.mem_of_getElem? (i := 800) (by decide +kernel)⟩
theorem lw_p42 : lw_okq (⟨"RoomToSpareModel", "fullest", "()I"⟩, 13) := ⟨⟨by decide +kernel, by decide +kernel⟩, List.mem_of_getElem? (i := 543) (by decide +kernel), List.mem_of_getElem? (i := 803) (by decide +kernel), List.mem_of_getElem? (i := 804) (by decide +kernel)⟩
theorem lw_p43 : lw_okq (⟨"RoomToSpareModel", "dustiest", "()I"⟩, 13) := ⟨⟨by decide +kernel, by decide +kernel⟩, List.mem_of_getElem? (i := 543) (by decide +kernel), List.mem_of_getElem? (i := 807) (by decide +kernel), List.mem_of_getElem? (i := 808) (by decide +kernel)⟩
theorem lw_p44 : lw_okq (⟨"RoomToSpareModel", "lostRun", "()I"⟩, 13) := ⟨⟨by decide +kernel, by decide +kernel⟩, List.mem_of_getElem? (i := 543) (by decide +kernel), List.mem_of_getElem? (i := 819) (by decide +kernel), List.mem_of_getElem? (i := 820) (by decide +kernel)⟩
theorem lw_p45 : lw_okq (⟨"RoomToSpareModel", "hasBy", "(IIIIII)I"⟩, 13) := ⟨⟨by decide +kernel, by decide +kernel⟩, List.mem_of_getElem? (i := 543) (by decide +kernel), List.mem_of_getElem? (i := 827) (by decide +kernel), List.mem_of_getElem? (i := 828) (by decide +kernel)⟩
theorem lw_p46 : lw_okq (⟨"RoomToSpareModel", "lets", "(I)V"⟩, 13) := ⟨⟨by decide +kernel, by decide +kernel⟩, List.mem_of_getElem? (i := 543) (by decide +kernel), List.mem_of_getElem? (i := 831) (by decide +kernel), List.mem_of_getElem? (i := 832) (by decide +kernel)⟩
theorem lw_p47 : lw_okq (⟨"RoomToSpareModel", "noWide", "(I)J"⟩, 13) := ⟨⟨by decide +kernel, by decide +kernel⟩, List.mem_of_getElem? (i := 543) (by decide +kernel), List.mem_of_getElem? (i := 839) (by decide +kernel), List.mem_of_getElem? (i := 840) (by decide +kernel)⟩
def lw_privs_3 : List (MethodName × Nat) := [(⟨"RoomToSpareModel", "isHouse", "(I)Z"⟩, 13), (⟨"RoomToSpareModel", "setsOf", "(IIII)I"⟩, 13), (⟨"RoomToSpareModel", "sets", "(II)I"⟩, 13), (⟨"RoomToSpareModel", "takes", "(I)V"⟩, 13), (⟨"RoomToSpareModel", "firstLost", "()I"⟩, 13), (⟨"RoomToSpareModel", "lostOf", "(I)I"⟩, 13), (⟨"RoomToSpareModel", "whenLost", "(I)I"⟩, 13), (⟨"RoomToSpareModel", "keptThen", "(I)I"⟩, 13), (⟨"RoomToSpareModel", "isNoneLost", "(I)Z"⟩, 13), (⟨"RoomToSpareModel", "spareOnes", "()I"⟩, 13), (⟨"RoomToSpareModel", "fullest", "()I"⟩, 13), (⟨"RoomToSpareModel", "dustiest", "()I"⟩, 13), (⟨"RoomToSpareModel", "lostRun", "()I"⟩, 13), (⟨"RoomToSpareModel", "hasBy", "(IIIIII)I"⟩, 13), (⟨"RoomToSpareModel", "lets", "(I)V"⟩, 13), (⟨"RoomToSpareModel", "noWide", "(I)J"⟩, 13)]
theorem lw_r3 : ∀ q ∈ lw_privs_3, lw_okq q := List.forall_mem_cons.mpr ⟨lw_p32, List.forall_mem_cons.mpr ⟨lw_p33, List.forall_mem_cons.mpr ⟨lw_p34, List.forall_mem_cons.mpr ⟨lw_p35, List.forall_mem_cons.mpr ⟨lw_p36, List.forall_mem_cons.mpr ⟨lw_p37, List.forall_mem_cons.mpr ⟨lw_p38, List.forall_mem_cons.mpr ⟨lw_p39, List.forall_mem_cons.mpr ⟨lw_p40, List.forall_mem_cons.mpr ⟨lw_p41, List.forall_mem_cons.mpr ⟨lw_p42, List.forall_mem_cons.mpr ⟨lw_p43, List.forall_mem_cons.mpr ⟨lw_p44, List.forall_mem_cons.mpr ⟨lw_p45, List.forall_mem_cons.mpr ⟨lw_p46, List.forall_mem_cons.mpr ⟨lw_p47, fun _ h => absurd h List.not_mem_nil⟩⟩⟩⟩⟩⟩⟩⟩⟩⟩⟩⟩⟩⟩⟩⟩
theorem lw_p48 : lw_okq (⟨"RoomToSpareModel", "drawn", "(I)I"⟩, 13) := ⟨⟨by decide +kernel, by decide +kernel⟩, List.mem_of_getElem? (i := 543) (by decide +kernel), List.mem_of_getElem? (i := 877) (by decide +kernel), List.mem_of_getElem? (i := 878) (by decide +kernel)⟩
def lw_privs_4 : List (MethodName × Nat) := [(⟨"RoomToSpareModel", "drawn", "(I)I"⟩, 13)]
theorem lw_r4 : ∀ q ∈ lw_privs_4, lw_okq q := List.forall_mem_cons.mpr ⟨lw_p48, fun _ h => absurd h List.not_mem_nil⟩
def lw_privs : List (MethodName × Nat) := lw_privs_1 ++ (lw_privs_2 ++ (lw_privs_3 ++ (lw_privs_4)))
def lw_tbl : List Cond := k2_sels lw_privs ++ tables_1
theorem lw_privs_ok : ∀ q ∈ lw_privs, lw_okq q := by
  show ∀ q ∈ lw_privs_1 ++ (lw_privs_2 ++ (lw_privs_3 ++ (lw_privs_4))), lw_okq q
  exact List.forall_mem_append.mpr ⟨lw_r1, List.forall_mem_append.mpr ⟨lw_r2, List.forall_mem_append.mpr ⟨lw_r3, lw_r4⟩⟩⟩
end
section
def RX0 : String := "RoomToSpare$House"
def TX0 : u_T := fun k => match k with
  | 0 => ("RoomToSpare$House", "kind", "I", false)
  | 1 => ("RoomToSpare$House", "figure", "I", false)
  | 2 => ("RoomToSpare$House", "rooms", "I", false)
  | 3 => ("RoomToSpare$House", "people", "I", false)
  | 4 => ("RoomToSpare$House", "dust", "I", false)
  | 5 => ("RoomToSpare$House", "dents", "I", false)
  | 6 => ("RoomToSpare$House", "kept", "Z", false)
  | _ => ("RoomToSpare$House", "lets", "Z", false)
def tyX0 : Nat → FieldType := fun k => match k with
  | 0 => .int
  | 1 => .int
  | 2 => .int
  | 3 => .int
  | 4 => .int
  | 5 => .int
  | 6 => .boolean
  | _ => .boolean
abbrev wsX00 : List Cond := u_ws RX0 TX0 8
theorem nmX0 : ∀ a, a < 8 → ∀ b, b < 8 → a ≠ b → (TX0 a).2.1 ≠ (TX0 b).2.1 := by decide +kernel
theorem tyX0_ok : ∀ k, k < 8 → parseFieldDescriptor (TX0 k).2.2.1 = some (tyX0 k) := by decide +kernel
abbrev cX0_init : ByteArray := prog_2_method_1_code
def yX0_init : MethodName := ⟨RX0, "<init>", "()V"⟩
abbrev cX0_become : ByteArray := prog_2_method_2_code
def yX0_become : MethodName := ⟨RX0, "become", "(LRoomToSpare$House;)V"⟩
abbrev cX0_crowd : ByteArray := prog_2_method_3_code
def yX0_crowd : MethodName := ⟨RX0, "crowd", "()I"⟩
abbrev cX0_dustIn : ByteArray := prog_2_method_4_code
def yX0_dustIn : MethodName := ⟨RX0, "dustIn", "(I)I"⟩
abbrev cX0_burns : ByteArray := prog_2_method_5_code
def yX0_burns : MethodName := ⟨RX0, "burns", "()I"⟩
abbrev cX0_childFrom : ByteArray := prog_2_method_6_code
def yX0_childFrom : MethodName := ⟨RX0, "childFrom", "()I"⟩
abbrev cX0_childIsFound : ByteArray := prog_2_method_7_code
def yX0_childIsFound : MethodName := ⟨RX0, "childIsFound", "()Z"⟩
abbrev cX0_addDust : ByteArray := prog_2_method_8_code
def yX0_addDust : MethodName := ⟨RX0, "addDust", "(I)V"⟩
abbrev cX0_dent : ByteArray := prog_2_method_9_code
def yX0_dent : MethodName := ⟨RX0, "dent", "()V"⟩
abbrev cX0_letTheRoom : ByteArray := prog_2_method_10_code
def yX0_letTheRoom : MethodName := ⟨RX0, "letTheRoom", "()V"⟩
abbrev cX0_spendWeek : ByteArray := prog_2_method_11_code
def yX0_spendWeek : MethodName := ⟨RX0, "spendWeek", "(II)I"⟩
def RX1 : String := "RoomToSpare$Row"
def TX1 : u_T := fun k => match k with
  | 0 => ("RoomToSpare$Row", "numbers", "[I", true)
  | _ => ("RoomToSpare$Row", "size", "I", false)
def tyX1 : Nat → FieldType := fun k => match k with
  | 0 => .array .int
  | _ => .int
abbrev wsX10 : List Cond := u_ws RX1 TX1 2
theorem nmX1 : ∀ a, a < 2 → ∀ b, b < 2 → a ≠ b → (TX1 a).2.1 ≠ (TX1 b).2.1 := by decide +kernel
theorem tyX1_ok : ∀ k, k < 2 → parseFieldDescriptor (TX1 k).2.2.1 = some (tyX1 k) := by decide +kernel
abbrev cX1_init : ByteArray := prog_3_method_1_code
def yX1_init : MethodName := ⟨RX1, "<init>", "(I)V"⟩
abbrev cX1_isFull : ByteArray := prog_3_method_2_code
def yX1_isFull : MethodName := ⟨RX1, "isFull", "()Z"⟩
abbrev cX1_add : ByteArray := prog_3_method_3_code
def yX1_add : MethodName := ⟨RX1, "add", "(I)V"⟩
abbrev cX1_at : ByteArray := prog_3_method_4_code
def yX1_at : MethodName := ⟨RX1, "at", "(I)I"⟩
abbrev cX1_drop : ByteArray := prog_3_method_5_code
def yX1_drop : MethodName := ⟨RX1, "drop", "()V"⟩
def RX2 : String := "RoomToSpare$Town"
def TX2 : u_T := fun k => match k with
  | 0 => ("RoomToSpare$Town", "houses", "[LRoomToSpare$House;", true)
  | 1 => ("RoomToSpare$Town", "nowhere", "LRoomToSpare$House;", true)
  | 2 => ("RoomToSpare$Town", "count", "I", false)
  | 3 => ("RoomToSpare$Town", "inspector", "I", false)
  | 4 => ("RoomToSpare$Town", "candles", "I", false)
  | _ => ("RoomToSpare$Town", "week", "I", false)
def tyX2 : Nat → FieldType := fun k => match k with
  | 0 => .array (.object "RoomToSpare$House")
  | 1 => .object "RoomToSpare$House"
  | 2 => .int
  | 3 => .int
  | 4 => .int
  | _ => .int
abbrev wsX20 : List Cond := u_ws RX2 TX2 6
theorem nmX2 : ∀ a, a < 6 → ∀ b, b < 6 → a ≠ b → (TX2 a).2.1 ≠ (TX2 b).2.1 := by decide +kernel
theorem tyX2_ok : ∀ k, k < 6 → parseFieldDescriptor (TX2 k).2.2.1 = some (tyX2 k) := by decide +kernel
abbrev cX2_init : ByteArray := prog_4_method_1_code
def yX2_init : MethodName := ⟨RX2, "<init>", "()V"⟩
abbrev cX2_has : ByteArray := prog_4_method_2_code
def yX2_has : MethodName := ⟨RX2, "has", "(I)Z"⟩
abbrev cX2_at : ByteArray := prog_4_method_3_code
def yX2_at : MethodName := ⟨RX2, "at", "(I)LRoomToSpare$House;"⟩
abbrev cX2_become : ByteArray := prog_4_method_4_code
def yX2_become : MethodName := ⟨RX2, "become", "(LRoomToSpare$Town;)V"⟩
abbrev cX2_build : ByteArray := prog_4_method_5_code
def yX2_build : MethodName := ⟨RX2, "build", "(IIII)V"⟩
abbrev cX2_pass : ByteArray := prog_4_method_6_code
def yX2_pass : MethodName := ⟨RX2, "pass", "(I)V"⟩
abbrev cX2_inspect : ByteArray := prog_4_method_7_code
def yX2_inspect : MethodName := ⟨RX2, "inspect", "()V"⟩
abbrev cX2_lose : ByteArray := prog_4_method_8_code
def yX2_lose : MethodName := ⟨RX2, "lose", "(LRoomToSpare$House;I)V"⟩
abbrev cX2_nextKept : ByteArray := prog_4_method_9_code
def yX2_nextKept : MethodName := ⟨RX2, "nextKept", "(I)I"⟩
abbrev cX2_keptBits : ByteArray := prog_4_method_10_code
def yX2_keptBits : MethodName := ⟨RX2, "keptBits", "()I"⟩
abbrev cX2_howManyKept : ByteArray := prog_4_method_11_code
def yX2_howManyKept : MethodName := ⟨RX2, "howManyKept", "()I"⟩
abbrev cX2_emptyBits : ByteArray := prog_4_method_12_code
def yX2_emptyBits : MethodName := ⟨RX2, "emptyBits", "()I"⟩
abbrev cX2_crowdedBits : ByteArray := prog_4_method_13_code
def yX2_crowdedBits : MethodName := ⟨RX2, "crowdedBits", "()I"⟩
abbrev cX2_allPeople : ByteArray := prog_4_method_14_code
def yX2_allPeople : MethodName := ⟨RX2, "allPeople", "()I"⟩
abbrev cX2_burnsInAWeek : ByteArray := prog_4_method_15_code
def yX2_burnsInAWeek : MethodName := ⟨RX2, "burnsInAWeek", "()I"⟩
abbrev cX2_roomForMore : ByteArray := prog_4_method_16_code
def yX2_roomForMore : MethodName := ⟨RX2, "roomForMore", "()I"⟩
abbrev cX2_fullest : ByteArray := prog_4_method_17_code
def yX2_fullest : MethodName := ⟨RX2, "fullest", "()I"⟩
abbrev cX2_dustiest : ByteArray := prog_4_method_18_code
def yX2_dustiest : MethodName := ⟨RX2, "dustiest", "()I"⟩
abbrev cX2_longestRunOfLost : ByteArray := prog_4_method_19_code
def yX2_longestRunOfLost : MethodName := ⟨RX2, "longestRunOfLost", "()I"⟩
def RX3 : String := "RoomToSpare"
def TX3 : u_T := fun k => match k with
  | 0 => ("RoomToSpare", "now", "LRoomToSpare$Town;", true)
  | 1 => ("RoomToSpare", "thought", "LRoomToSpare$Town;", true)
  | 2 => ("RoomToSpare", "taken", "LRoomToSpare$Town;", true)
  | 3 => ("RoomToSpare", "imageThere", "Z", false)
  | 4 => ("RoomToSpare", "letters", "LRoomToSpare$Row;", true)
  | 5 => ("RoomToSpare", "told", "LRoomToSpare$Row;", true)
  | 6 => ("RoomToSpare", "keptBehind", "LRoomToSpare$Row;", true)
  | _ => ("RoomToSpare", "refusals", "[I", true)
def tyX3 : Nat → FieldType := fun k => match k with
  | 0 => .object "RoomToSpare$Town"
  | 1 => .object "RoomToSpare$Town"
  | 2 => .object "RoomToSpare$Town"
  | 3 => .boolean
  | 4 => .object "RoomToSpare$Row"
  | 5 => .object "RoomToSpare$Row"
  | 6 => .object "RoomToSpare$Row"
  | _ => .array .int
abbrev wsX30 : List Cond := u_ws RX3 TX3 8
theorem nmX3 : ∀ a, a < 8 → ∀ b, b < 8 → a ≠ b → (TX3 a).2.1 ≠ (TX3 b).2.1 := by decide +kernel
theorem tyX3_ok : ∀ k, k < 8 → parseFieldDescriptor (TX3 k).2.2.1 = some (tyX3 k) := by decide +kernel
abbrev cX3_init : ByteArray := prog_1_method_1_code
def yX3_init : MethodName := ⟨RX3, "<init>", "()V"⟩
abbrev cX3_letter : ByteArray := prog_1_method_2_code
def yX3_letter : MethodName := ⟨RX3, "letter", "(I)I"⟩
abbrev cX3_town : ByteArray := prog_1_method_3_code
def yX3_town : MethodName := ⟨RX3, "town", "()I"⟩
abbrev cX3_readStatements : ByteArray := prog_1_method_4_code
def yX3_readStatements : MethodName := ⟨RX3, "readStatements", "()I"⟩
abbrev cX3_brokenPlace : ByteArray := prog_1_method_5_code
def yX3_brokenPlace : MethodName := ⟨RX3, "brokenPlace", "()I"⟩
abbrev cX3_waitsBehind : ByteArray := prog_1_method_6_code
def yX3_waitsBehind : MethodName := ⟨RX3, "waitsBehind", "(II)I"⟩
abbrev cX3_waitsBehindFirst : ByteArray := prog_1_method_7_code
def yX3_waitsBehindFirst : MethodName := ⟨RX3, "waitsBehindFirst", "(I)I"⟩
abbrev cX3_kindOf : ByteArray := prog_1_method_8_code
def yX3_kindOf : MethodName := ⟨RX3, "kindOf", "(I)I"⟩
abbrev cX3_comes : ByteArray := prog_1_method_9_code
def yX3_comes : MethodName := ⟨RX3, "comes", "(I)Z"⟩
abbrev cX3_comesHouse : ByteArray := prog_1_method_10_code
def yX3_comesHouse : MethodName := ⟨RX3, "comesHouse", "(I)Z"⟩
abbrev cX3_comesPeople : ByteArray := prog_1_method_11_code
def yX3_comesPeople : MethodName := ⟨RX3, "comesPeople", "(I)Z"⟩
abbrev cX3_comesDust : ByteArray := prog_1_method_12_code
def yX3_comesDust : MethodName := ⟨RX3, "comesDust", "(I)Z"⟩
abbrev cX3_comesTurned : ByteArray := prog_1_method_13_code
def yX3_comesTurned : MethodName := ⟨RX3, "comesTurned", "(I)Z"⟩
abbrev cX3_comesInspector : ByteArray := prog_1_method_14_code
def yX3_comesInspector : MethodName := ⟨RX3, "comesInspector", "(I)Z"⟩
abbrev cX3_comesWeeks : ByteArray := prog_1_method_15_code
def yX3_comesWeeks : MethodName := ⟨RX3, "comesWeeks", "(I)Z"⟩
abbrev cX3_number : ByteArray := prog_1_method_16_code
def yX3_number : MethodName := ⟨RX3, "number", "(II)I"⟩
abbrev cX3_house : ByteArray := prog_1_method_17_code
def yX3_house : MethodName := ⟨RX3, "house", "(II)I"⟩
abbrev cX3_peoples : ByteArray := prog_1_method_18_code
def yX3_peoples : MethodName := ⟨RX3, "peoples", "(II)I"⟩
abbrev cX3_airs : ByteArray := prog_1_method_19_code
def yX3_airs : MethodName := ⟨RX3, "airs", "(I)I"⟩
abbrev cX3_dents : ByteArray := prog_1_method_20_code
def yX3_dents : MethodName := ⟨RX3, "dents", "(II)I"⟩
abbrev cX3_keeps : ByteArray := prog_1_method_21_code
def yX3_keeps : MethodName := ⟨RX3, "keeps", "(I)I"⟩
abbrev cX3_visits : ByteArray := prog_1_method_22_code
def yX3_visits : MethodName := ⟨RX3, "visits", "(I)I"⟩
abbrev cX3_candles : ByteArray := prog_1_method_23_code
def yX3_candles : MethodName := ⟨RX3, "candles", "(I)I"⟩
abbrev cX3_turn : ByteArray := prog_1_method_24_code
def yX3_turn : MethodName := ⟨RX3, "turn", "(III)I"⟩
abbrev cX3_weeks : ByteArray := prog_1_method_25_code
def yX3_weeks : MethodName := ⟨RX3, "weeks", "(I)I"⟩
abbrev cX3_houseThen : ByteArray := prog_1_method_26_code
def yX3_houseThen : MethodName := ⟨RX3, "houseThen", "(III)I"⟩
abbrev cX3_then : ByteArray := prog_1_method_27_code
def yX3_then : MethodName := ⟨RX3, "then", "(II)I"⟩
abbrev cX3_lost : ByteArray := prog_1_method_28_code
def yX3_lost : MethodName := ⟨RX3, "lost", "(I)I"⟩
abbrev cX3_firstLost : ByteArray := prog_1_method_29_code
def yX3_firstLost : MethodName := ⟨RX3, "firstLost", "()I"⟩
abbrev cX3_weeksTillLost : ByteArray := prog_1_method_30_code
def yX3_weeksTillLost : MethodName := ⟨RX3, "weeksTillLost", "(I)I"⟩
abbrev cX3_dark : ByteArray := prog_1_method_31_code
def yX3_dark : MethodName := ⟨RX3, "dark", "()I"⟩
abbrev cX3_still : ByteArray := prog_1_method_32_code
def yX3_still : MethodName := ⟨RX3, "still", "()I"⟩
abbrev cX3_move : ByteArray := prog_1_method_33_code
def yX3_move : MethodName := ⟨RX3, "move", "(I)I"⟩
abbrev cX3_keptIfHalfMoves : ByteArray := prog_1_method_34_code
def yX3_keptIfHalfMoves : MethodName := ⟨RX3, "keptIfHalfMoves", "(III)I"⟩
abbrev cX3_air : ByteArray := prog_1_method_35_code
def yX3_air : MethodName := ⟨RX3, "air", "(I)I"⟩
abbrev cX3_noneLostIfAired : ByteArray := prog_1_method_36_code
def yX3_noneLostIfAired : MethodName := ⟨RX3, "noneLostIfAired", "(II)Z"⟩
abbrev cX3_noneLostWithin : ByteArray := prog_1_method_37_code
def yX3_noneLostWithin : MethodName := ⟨RX3, "noneLostWithin", "(I)Z"⟩
abbrev cX3_start : ByteArray := prog_1_method_38_code
def yX3_start : MethodName := ⟨RX3, "start", "(II)I"⟩
abbrev cX3_buy : ByteArray := prog_1_method_39_code
def yX3_buy : MethodName := ⟨RX3, "buy", "(I)I"⟩
abbrev cX3_bestKind : ByteArray := prog_1_method_40_code
def yX3_bestKind : MethodName := ⟨RX3, "bestKind", "(II)I"⟩
abbrev cX3_spare : ByteArray := prog_1_method_41_code
def yX3_spare : MethodName := ⟨RX3, "spare", "(I)I"⟩
abbrev cX3_lasts : ByteArray := prog_1_method_42_code
def yX3_lasts : MethodName := ⟨RX3, "lasts", "()I"⟩
abbrev cX3_next : ByteArray := prog_1_method_43_code
def yX3_next : MethodName := ⟨RX3, "next", "(I)I"⟩
abbrev cX3_run : ByteArray := prog_1_method_44_code
def yX3_run : MethodName := ⟨RX3, "run", "(I)I"⟩
abbrev cX3_two : ByteArray := prog_1_method_45_code
def yX3_two : MethodName := ⟨RX3, "two", "(III)I"⟩
abbrev cX3_worth : ByteArray := prog_1_method_46_code
def yX3_worth : MethodName := ⟨RX3, "worth", "(IZIZI)I"⟩
abbrev cX3_guest : ByteArray := prog_1_method_47_code
def yX3_guest : MethodName := ⟨RX3, "guest", "(IIII)J"⟩
abbrev cX3_isKeptWithGuests : ByteArray := prog_1_method_48_code
def yX3_isKeptWithGuests : MethodName := ⟨RX3, "isKeptWithGuests", "(III)Z"⟩
abbrev cX3_power : ByteArray := prog_1_method_49_code
def yX3_power : MethodName := ⟨RX3, "power", "(JI)J"⟩
abbrev cX3_mean : ByteArray := prog_1_method_50_code
def yX3_mean : MethodName := ⟨RX3, "mean", "(I)J"⟩
abbrev cX3_partOf : ByteArray := prog_1_method_51_code
def yX3_partOf : MethodName := ⟨RX3, "partOf", "(JJI)J"⟩
abbrev cX3_commonDivisor : ByteArray := prog_1_method_52_code
def yX3_commonDivisor : MethodName := ⟨RX3, "commonDivisor", "(JJ)J"⟩
abbrev cX3_whatIs : ByteArray := prog_1_method_53_code
def yX3_whatIs : MethodName := ⟨RX3, "whatIs", "(II)I"⟩
abbrev cX3_dustIsAsTold : ByteArray := prog_1_method_54_code
def yX3_dustIsAsTold : MethodName := ⟨RX3, "dustIsAsTold", "(I)Z"⟩
abbrev cX3_row : ByteArray := prog_1_method_55_code
def yX3_row : MethodName := ⟨RX3, "row", "(I)I"⟩
abbrev cX3_judge : ByteArray := prog_1_method_56_code
def yX3_judge : MethodName := ⟨RX3, "judge", "()I"⟩
abbrev cX3_clear : ByteArray := prog_1_method_57_code
def yX3_clear : MethodName := ⟨RX3, "clear", "()I"⟩
abbrev cX3_lots : ByteArray := prog_1_method_58_code
def yX3_lots : MethodName := ⟨RX3, "lots", "(III)I"⟩
abbrev cX3_drawPeople : ByteArray := prog_1_method_59_code
def yX3_drawPeople : MethodName := ⟨RX3, "drawPeople", "(I)I"⟩
abbrev cX3_image : ByteArray := prog_1_method_60_code
def yX3_image : MethodName := ⟨RX3, "image", "()I"⟩
abbrev cX3_on : ByteArray := prog_1_method_61_code
def yX3_on : MethodName := ⟨RX3, "on", "()I"⟩
abbrev cX3_count : ByteArray := prog_1_method_62_code
def yX3_count : MethodName := ⟨RX3, "count", "(I)I"⟩
abbrev cX3_refused : ByteArray := prog_1_method_63_code
def yX3_refused : MethodName := ⟨RX3, "refused", "(I)I"⟩
abbrev cX3_refuse : ByteArray := prog_1_method_64_code
def yX3_refuse : MethodName := ⟨RX3, "refuse", "(I)I"⟩
abbrev cX3_refuseLong : ByteArray := prog_1_method_65_code
def yX3_refuseLong : MethodName := ⟨RX3, "refuseLong", "(I)J"⟩
abbrev cX3_outOf : ByteArray := prog_1_method_66_code
def yX3_outOf : MethodName := ⟨RX3, "outOf", "(III)I"⟩
def RX4 : String := "RoomToSpareModel"
def TX4 : u_T := fun k => match k with
  | 0 => ("RoomToSpareModel", "s", "[I", true)
  | 1 => ("RoomToSpareModel", "m", "[I", true)
  | 2 => ("RoomToSpareModel", "image", "[I", true)
  | 3 => ("RoomToSpareModel", "was", "[I", true)
  | 4 => ("RoomToSpareModel", "hasImage", "Z", false)
  | 5 => ("RoomToSpareModel", "letters", "[I", true)
  | 6 => ("RoomToSpareModel", "row", "[I", true)
  | 7 => ("RoomToSpareModel", "refused", "[I", true)
  | 8 => ("RoomToSpareModel", "letterMany", "I", false)
  | 9 => ("RoomToSpareModel", "rowMany", "I", false)
  | 10 => ("RoomToSpareModel", "place", "I", false)
  | 11 => ("RoomToSpareModel", "numbers", "[I", true)
  | _ => ("RoomToSpareModel", "seed", "I", false)
def tyX4 : Nat → FieldType := fun k => match k with
  | 0 => .array .int
  | 1 => .array .int
  | 2 => .array .int
  | 3 => .array .int
  | 4 => .boolean
  | 5 => .array .int
  | 6 => .array .int
  | 7 => .array .int
  | 8 => .int
  | 9 => .int
  | 10 => .int
  | 11 => .array .int
  | _ => .int
abbrev wsX40 : List Cond := u_ws RX4 TX4 13
theorem nmX4 : ∀ a, a < 13 → ∀ b, b < 13 → a ≠ b → (TX4 a).2.1 ≠ (TX4 b).2.1 := by decide +kernel
theorem tyX4_ok : ∀ k, k < 13 → parseFieldDescriptor (TX4 k).2.2.1 = some (tyX4 k) := by decide +kernel
abbrev cX4_init : ByteArray := prog_6_method_1_code
def yX4_init : MethodName := ⟨RX4, "<init>", "()V"⟩
abbrev cX4_isIn : ByteArray := prog_6_method_2_code
def yX4_isIn : MethodName := ⟨RX4, "isIn", "(III)Z"⟩
abbrev cX4_least : ByteArray := prog_6_method_3_code
def yX4_least : MethodName := ⟨RX4, "least", "(II)I"⟩
abbrev cX4_copies : ByteArray := prog_6_method_4_code
def yX4_copies : MethodName := ⟨RX4, "copies", "([I[I)V"⟩
abbrev cX4_no : ByteArray := prog_6_method_5_code
def yX4_no : MethodName := ⟨RX4, "no", "(I)I"⟩
abbrev cX4_noWide : ByteArray := prog_6_method_6_code
def yX4_noWide : MethodName := ⟨RX4, "noWide", "(I)J"⟩
abbrev cX4_of : ByteArray := prog_6_method_7_code
def yX4_of : MethodName := ⟨RX4, "of", "(II)I"⟩
abbrev cX4_isHouse : ByteArray := prog_6_method_8_code
def yX4_isHouse : MethodName := ⟨RX4, "isHouse", "(I)Z"⟩
abbrev cX4_has : ByteArray := prog_6_method_9_code
def yX4_has : MethodName := ⟨RX4, "has", "(II)Z"⟩
abbrev cX4_bits : ByteArray := prog_6_method_10_code
def yX4_bits : MethodName := ⟨RX4, "bits", "(I)I"⟩
abbrev cX4_dustBy : ByteArray := prog_6_method_11_code
def yX4_dustBy : MethodName := ⟨RX4, "dustBy", "(III)I"⟩
abbrev cX4_burnsBy : ByteArray := prog_6_method_12_code
def yX4_burnsBy : MethodName := ⟨RX4, "burnsBy", "(I)I"⟩
abbrev cX4_foundFrom : ByteArray := prog_6_method_13_code
def yX4_foundFrom : MethodName := ⟨RX4, "foundFrom", "(II)I"⟩
abbrev cX4_crowd : ByteArray := prog_6_method_14_code
def yX4_crowd : MethodName := ⟨RX4, "crowd", "([II)I"⟩
abbrev cX4_isFound : ByteArray := prog_6_method_15_code
def yX4_isFound : MethodName := ⟨RX4, "isFound", "([II)Z"⟩
abbrev cX4_nextKept : ByteArray := prog_6_method_16_code
def yX4_nextKept : MethodName := ⟨RX4, "nextKept", "([II)I"⟩
abbrev cX4_ages : ByteArray := prog_6_method_17_code
def yX4_ages : MethodName := ⟨RX4, "ages", "([II)V"⟩
abbrev cX4_loses : ByteArray := prog_6_method_18_code
def yX4_loses : MethodName := ⟨RX4, "loses", "([II)V"⟩
abbrev cX4_week : ByteArray := prog_6_method_19_code
def yX4_week : MethodName := ⟨RX4, "week", "([I)V"⟩
abbrev cX4_weeksOn : ByteArray := prog_6_method_20_code
def yX4_weeksOn : MethodName := ⟨RX4, "weeksOn", "([II)V"⟩
abbrev cX4_burnsIn : ByteArray := prog_6_method_21_code
def yX4_burnsIn : MethodName := ⟨RX4, "burnsIn", "([I)I"⟩
abbrev cX4_allPeople : ByteArray := prog_6_method_22_code
def yX4_allPeople : MethodName := ⟨RX4, "allPeople", "([I)I"⟩
abbrev cX4_letter : ByteArray := prog_6_method_23_code
def yX4_letter : MethodName := ⟨RX4, "letter", "(I)I"⟩
abbrev cX4_here : ByteArray := prog_6_method_24_code
def yX4_here : MethodName := ⟨RX4, "here", "()I"⟩
abbrev cX4_readsNumber : ByteArray := prog_6_method_25_code
def yX4_readsNumber : MethodName := ⟨RX4, "readsNumber", "(II)Z"⟩
abbrev cX4_kindBy : ByteArray := prog_6_method_26_code
def yX4_kindBy : MethodName := ⟨RX4, "kindBy", "(I)I"⟩
abbrev cX4_readsKind : ByteArray := prog_6_method_27_code
def yX4_readsKind : MethodName := ⟨RX4, "readsKind", "()Z"⟩
abbrev cX4_readsStatement : ByteArray := prog_6_method_28_code
def yX4_readsStatement : MethodName := ⟨RX4, "readsStatement", "()Z"⟩
abbrev cX4_addsHouse : ByteArray := prog_6_method_29_code
def yX4_addsHouse : MethodName := ⟨RX4, "addsHouse", "()Z"⟩
abbrev cX4_isDone : ByteArray := prog_6_method_30_code
def yX4_isDone : MethodName := ⟨RX4, "isDone", "(I)Z"⟩
abbrev cX4_town : ByteArray := prog_6_method_31_code
def yX4_town : MethodName := ⟨RX4, "town", "()I"⟩
abbrev cX4_house : ByteArray := prog_6_method_32_code
def yX4_house : MethodName := ⟨RX4, "house", "(II)I"⟩
abbrev cX4_wrongBy : ByteArray := prog_6_method_33_code
def yX4_wrongBy : MethodName := ⟨RX4, "wrongBy", "(III)I"⟩
abbrev cX4_sets : ByteArray := prog_6_method_34_code
def yX4_sets : MethodName := ⟨RX4, "sets", "(II)I"⟩
abbrev cX4_setsOf : ByteArray := prog_6_method_35_code
def yX4_setsOf : MethodName := ⟨RX4, "setsOf", "(IIII)I"⟩
abbrev cX4_peoples : ByteArray := prog_6_method_36_code
def yX4_peoples : MethodName := ⟨RX4, "peoples", "(II)I"⟩
abbrev cX4_airs : ByteArray := prog_6_method_37_code
def yX4_airs : MethodName := ⟨RX4, "airs", "(I)I"⟩
abbrev cX4_dents : ByteArray := prog_6_method_38_code
def yX4_dents : MethodName := ⟨RX4, "dents", "(II)I"⟩
abbrev cX4_keeps : ByteArray := prog_6_method_39_code
def yX4_keeps : MethodName := ⟨RX4, "keeps", "(I)I"⟩
abbrev cX4_visits : ByteArray := prog_6_method_40_code
def yX4_visits : MethodName := ⟨RX4, "visits", "(I)I"⟩
abbrev cX4_candles : ByteArray := prog_6_method_41_code
def yX4_candles : MethodName := ⟨RX4, "candles", "(I)I"⟩
abbrev cX4_turn : ByteArray := prog_6_method_42_code
def yX4_turn : MethodName := ⟨RX4, "turn", "(III)I"⟩
abbrev cX4_weeks : ByteArray := prog_6_method_43_code
def yX4_weeks : MethodName := ⟨RX4, "weeks", "(I)I"⟩
abbrev cX4_takes : ByteArray := prog_6_method_44_code
def yX4_takes : MethodName := ⟨RX4, "takes", "(I)V"⟩
abbrev cX4_houseThen : ByteArray := prog_6_method_45_code
def yX4_houseThen : MethodName := ⟨RX4, "houseThen", "(III)I"⟩
abbrev cX4_then : ByteArray := prog_6_method_46_code
def yX4_then : MethodName := ⟨RX4, "then", "(II)I"⟩
abbrev cX4_whenLost : ByteArray := prog_6_method_47_code
def yX4_whenLost : MethodName := ⟨RX4, "whenLost", "(I)I"⟩
abbrev cX4_lostOf : ByteArray := prog_6_method_48_code
def yX4_lostOf : MethodName := ⟨RX4, "lostOf", "(I)I"⟩
abbrev cX4_firstLost : ByteArray := prog_6_method_49_code
def yX4_firstLost : MethodName := ⟨RX4, "firstLost", "()I"⟩
abbrev cX4_lost : ByteArray := prog_6_method_50_code
def yX4_lost : MethodName := ⟨RX4, "lost", "(I)I"⟩
abbrev cX4_dark : ByteArray := prog_6_method_51_code
def yX4_dark : MethodName := ⟨RX4, "dark", "()I"⟩
abbrev cX4_keptThen : ByteArray := prog_6_method_52_code
def yX4_keptThen : MethodName := ⟨RX4, "keptThen", "(I)I"⟩
abbrev cX4_still : ByteArray := prog_6_method_53_code
def yX4_still : MethodName := ⟨RX4, "still", "()I"⟩
abbrev cX4_move : ByteArray := prog_6_method_54_code
def yX4_move : MethodName := ⟨RX4, "move", "(I)I"⟩
abbrev cX4_isNoneLost : ByteArray := prog_6_method_55_code
def yX4_isNoneLost : MethodName := ⟨RX4, "isNoneLost", "(I)Z"⟩
abbrev cX4_air : ByteArray := prog_6_method_56_code
def yX4_air : MethodName := ⟨RX4, "air", "(I)I"⟩
abbrev cX4_start : ByteArray := prog_6_method_57_code
def yX4_start : MethodName := ⟨RX4, "start", "(II)I"⟩
abbrev cX4_buy : ByteArray := prog_6_method_58_code
def yX4_buy : MethodName := ⟨RX4, "buy", "(I)I"⟩
abbrev cX4_bestKind : ByteArray := prog_6_method_59_code
def yX4_bestKind : MethodName := ⟨RX4, "bestKind", "(II)I"⟩
abbrev cX4_spareOnes : ByteArray := prog_6_method_60_code
def yX4_spareOnes : MethodName := ⟨RX4, "spareOnes", "()I"⟩
abbrev cX4_fullest : ByteArray := prog_6_method_61_code
def yX4_fullest : MethodName := ⟨RX4, "fullest", "()I"⟩
abbrev cX4_dustiest : ByteArray := prog_6_method_62_code
def yX4_dustiest : MethodName := ⟨RX4, "dustiest", "()I"⟩
abbrev cX4_spare : ByteArray := prog_6_method_63_code
def yX4_spare : MethodName := ⟨RX4, "spare", "(I)I"⟩
abbrev cX4_next : ByteArray := prog_6_method_64_code
def yX4_next : MethodName := ⟨RX4, "next", "(I)I"⟩
abbrev cX4_lostRun : ByteArray := prog_6_method_65_code
def yX4_lostRun : MethodName := ⟨RX4, "lostRun", "()I"⟩
abbrev cX4_run : ByteArray := prog_6_method_66_code
def yX4_run : MethodName := ⟨RX4, "run", "(I)I"⟩
abbrev cX4_lets : ByteArray := prog_6_method_67_code
def yX4_lets : MethodName := ⟨RX4, "lets", "(I)V"⟩
abbrev cX4_hasBy : ByteArray := prog_6_method_68_code
def yX4_hasBy : MethodName := ⟨RX4, "hasBy", "(IIIIII)I"⟩
abbrev cX4_two : ByteArray := prog_6_method_69_code
def yX4_two : MethodName := ⟨RX4, "two", "(III)I"⟩
abbrev cX4_gcd : ByteArray := prog_6_method_70_code
def yX4_gcd : MethodName := ⟨RX4, "gcd", "(JJ)J"⟩
abbrev cX4_partOf : ByteArray := prog_6_method_71_code
def yX4_partOf : MethodName := ⟨RX4, "partOf", "(JJI)J"⟩
abbrev cX4_guest : ByteArray := prog_6_method_72_code
def yX4_guest : MethodName := ⟨RX4, "guest", "(IIII)J"⟩
abbrev cX4_mean : ByteArray := prog_6_method_73_code
def yX4_mean : MethodName := ⟨RX4, "mean", "(I)J"⟩
abbrev cX4_whatIs : ByteArray := prog_6_method_74_code
def yX4_whatIs : MethodName := ⟨RX4, "whatIs", "(II)I"⟩
abbrev cX4_row : ByteArray := prog_6_method_75_code
def yX4_row : MethodName := ⟨RX4, "row", "(I)I"⟩
abbrev cX4_judge : ByteArray := prog_6_method_76_code
def yX4_judge : MethodName := ⟨RX4, "judge", "()I"⟩
abbrev cX4_clear : ByteArray := prog_6_method_77_code
def yX4_clear : MethodName := ⟨RX4, "clear", "()I"⟩
abbrev cX4_drawn : ByteArray := prog_6_method_78_code
def yX4_drawn : MethodName := ⟨RX4, "drawn", "(I)I"⟩
abbrev cX4_lots : ByteArray := prog_6_method_79_code
def yX4_lots : MethodName := ⟨RX4, "lots", "(III)I"⟩
abbrev cX4_image : ByteArray := prog_6_method_80_code
def yX4_image : MethodName := ⟨RX4, "image", "()I"⟩
abbrev cX4_on : ByteArray := prog_6_method_81_code
def yX4_on : MethodName := ⟨RX4, "on", "()I"⟩
abbrev cX4_count : ByteArray := prog_6_method_82_code
def yX4_count : MethodName := ⟨RX4, "count", "(I)I"⟩
def RJ6 : String := "java/lang/Integer"
def TJ6 : u_T := fun k => match k with
  | _ => ("", "", "", false)
def tyJ6 : Nat → FieldType := fun k => match k with
  | _ => .int
abbrev wsJ60 : List Cond := u_ws RJ6 TJ6 0
theorem nmJ6 : ∀ a, a < 0 → ∀ b, b < 0 → a ≠ b → (TJ6 a).2.1 ≠ (TJ6 b).2.1 := by decide +kernel
theorem tyJ6_ok : ∀ k, k < 0 → parseFieldDescriptor (TJ6 k).2.2.1 = some (tyJ6 k) := by decide +kernel
abbrev cJ6_bitCount_0f7a4 : ByteArray := prog_7_method_49_code
def yJ6_bitCount_0f7a4 : MethodName := ⟨RJ6, "bitCount", "(I)I"⟩
def RJ9 : String := "java/lang/Math"
def TJ9 : u_T := fun k => match k with
  | _ => ("", "", "", false)
def tyJ9 : Nat → FieldType := fun k => match k with
  | _ => .int
abbrev wsJ90 : List Cond := u_ws RJ9 TJ9 0
theorem nmJ9 : ∀ a, a < 0 → ∀ b, b < 0 → a ≠ b → (TJ9 a).2.1 ≠ (TJ9 b).2.1 := by decide +kernel
theorem tyJ9_ok : ∀ k, k < 0 → parseFieldDescriptor (TJ9 k).2.2.1 = some (tyJ9 k) := by decide +kernel
abbrev cJ9_max_7cf53 : ByteArray := prog_8_method_65_code
def yJ9_max_7cf53 : MethodName := ⟨RJ9, "max", "(II)I"⟩
abbrev cJ9_min_7cf53 : ByteArray := prog_8_method_69_code
def yJ9_min_7cf53 : MethodName := ⟨RJ9, "min", "(II)I"⟩
def RL : String := "RoomToSpareLaw"
abbrev cL_law : ByteArray := code
def yL_law : MethodName := ⟨RL, "law", "([I)Z"⟩
end
section
/-! ===== THE MEMORY LAYER: after the constructors no cell is made any more; 44 cells, numbered 0 .. 43, hold numbers alone that change. A memory: cell, place -> number. MX: a frame of a method over a memory; MM: a method's contract over memories. ===== -/
abbrev Mem : Type := Nat → Nat → Int32
abbrev mx_E : Type := va_G × (Nat → Nat) × ClassId × ClassId
def mx_cl : List vw_C := [(RX0, TX0, 8), (RX1, TX1, 2), (RX2, TX2, 6), (RX3, TX3, 8), (RX4, TX4, 13)]
abbrev mx_rf (E : mx_E) (k : Nat) : Value := .ref (E.2.1 k)
def mx_n (k : Nat) : Nat := if k = 31 then 96 else if k = 32 then 16 else if k = 33 then 81 else if k = 34 then 7 else if k < 40 then 42 else if k = 40 then 96 else if k = 41 then 16 else if k = 42 then 7 else 4
def mx_cell (E : mx_E) (σ : Mem) (k : Nat) : va_E :=
  if k = 0 then .inr (3, [mx_rf E 1, mx_rf E 2, mx_rf E 3, .int (σ k 3), mx_rf E 28, mx_rf E 29, mx_rf E 30, mx_rf E 34])
  else if k < 4 then .inr (2, [mx_rf E (k + 3), mx_rf E (k + 6), .int (σ k 2), .int (σ k 3), .int (σ k 4), .int (σ k 5)])
  else if k < 7 then .inl (E.2.2.2, 6, .inr (.inr (.inr (.inr (fun i => some (E.2.1 (6 * k - 14 + i)))))))
  else if k < 28 then .inr (0, [.int (σ k 0), .int (σ k 1), .int (σ k 2), .int (σ k 3), .int (σ k 4), .int (σ k 5), .int (σ k 6), .int (σ k 7)])
  else if k < 31 then .inr (1, [mx_rf E (k + 3), .int (σ k 1)])
  else if k = 35 then .inr (4, [mx_rf E 36, mx_rf E 37, mx_rf E 38, mx_rf E 39, .int (σ k 4), mx_rf E 40, mx_rf E 41, mx_rf E 42, .int (σ k 8), .int (σ k 9), .int (σ k 10), mx_rf E 43, .int (σ k 12)])
  else .inl (E.2.2.1, mx_n k, .inl (σ k))
def mx_w (E : mx_E) (σ : Mem) : va_W := (List.range 44).map fun k => (E.2.1 k, mx_cell E σ k)
def mx_ty (E : mx_E) : List (ClassId × FieldType) := [(E.2.2.1, .int), (E.2.2.2, .object RX0)]
def mx_A (E : mx_E) : Nat → Prop := fun q => ∃ k, k < 44 ∧ q = E.2.1 k
def mx_inj (E : mx_E) : Prop := ∀ i j, i < 44 → j < 44 → E.2.1 i = E.2.1 j → i = j
def mx_tbl : List Cond := lw_tbl.filter goodWord
theorem mx_in {w : Cond} (i : Nat) (h : lw_tbl[i]? = some w) (g : goodWord w = true) : w ∈ mx_tbl := List.mem_filter.mpr ⟨List.mem_of_getElem? h, g⟩
theorem mx_good : GoodIn mx_tbl mx_tbl := fun w h => ⟨h, good_of_word (List.mem_filter.mp h).2⟩
theorem mx_goodc {w : Cond} {ws : List Cond} (h : w ∈ mx_tbl) (hw : GoodIn mx_tbl ws) : GoodIn mx_tbl (w :: ws) := fun x hx => (List.mem_cons.mp hx).elim (fun e => e ▸ mx_good w h) (hw x)
def mx_R (K : Nat) : Room := { frames := K, cells := 0, slots := 0, locals := 36 * K }
theorem mx_get {E : mx_E} {σ : Mem} {k : Nat} (h : k < 44) : (mx_w E σ)[k]? = some (E.2.1 k, mx_cell E σ k) := by
  simp [mx_w, List.getElem?_map, List.getElem?_range h]
theorem mx_some {E : mx_E} {σ : Mem} {k : Nat} {q : Nat × va_E} (h : (mx_w E σ)[k]? = some q) : k < 44 ∧ q = (E.2.1 k, mx_cell E σ k) := by
  have hk : k < 44 := by
    have h1 := (List.getElem?_eq_some_iff.mp h).1
    simpa [mx_w] using h1
  exact ⟨hk, Option.some.inj (h.symm.trans (mx_get hk))⟩
theorem mx_D {E : mx_E} {σ : Mem} (h : mx_inj E) : va_D (mx_A E) (mx_w E σ) := by
  refine ⟨fun i j p q hp hq e => ?_, fun k q hq => ?_⟩
  · obtain ⟨h1, rfl⟩ := mx_some hp
    obtain ⟨h2, rfl⟩ := mx_some hq
    exact h i j h1 h2 e
  · obtain ⟨h1, rfl⟩ := mx_some hq
    exact ⟨k, h1, rfl⟩
theorem mx_set {E : mx_E} {σ τ : Mem} {k : Nat} {e : va_E} (hk : k < 44) (he : mx_cell E τ k = e) (ho : ∀ j, j ≠ k → mx_cell E τ j = mx_cell E σ j) : (mx_w E σ).set k (E.2.1 k, e) = mx_w E τ := by
  refine List.ext_getElem? fun j => ?_
  by_cases hj : j < 44
  · rw [mx_get hj]
    by_cases e1 : j = k
    · subst e1
      rw [List.getElem?_set_self (by simpa [mx_w] using hj), he]
    · rw [List.getElem?_set_ne (fun q => e1 q.symm), mx_get hj, ho j e1]
  · rw [List.getElem?_eq_none (by simpa [mx_w] using hj), List.getElem?_eq_none (by simpa [mx_w] using hj)]
theorem mx_cellc {E : mx_E} {σ τ : Mem} {k : Nat} (h : τ k = σ k) : mx_cell E τ k = mx_cell E σ k := by
  unfold mx_cell
  rw [h]
/-- one number put -/
def mx_up (σ : Mem) (k j : Nat) (v : Int32) : Mem := fun a => if a = k then upd (σ a) j v else σ a
theorem mx_up_eq (σ : Mem) (k j : Nat) (v : Int32) (a b : Nat) : mx_up σ k j v a b = if a = k ∧ b = j then v else σ a b := by
  unfold mx_up
  by_cases h : a = k
  · by_cases h2 : b = j <;> simp [h, h2, upd]
  · simp [h]
theorem mx_up_o {σ : Mem} {k j a : Nat} {v : Int32} (h : a ≠ k) : mx_up σ k j v a = σ a := by unfold mx_up; rw [if_neg h]
theorem mx_up_s {σ : Mem} {k j : Nat} {v : Int32} : mx_up σ k j v k = upd (σ k) j v := by unfold mx_up; rw [if_pos rfl]
theorem mx_upw {E : mx_E} {σ : Mem} {k j : Nat} {v : Int32} {e : va_E} (hk : k < 44) (he : mx_cell E (mx_up σ k j v) k = e) : (mx_w E σ).set k (E.2.1 k, e) = mx_w E (mx_up σ k j v) := mx_set hk he (fun _ h => mx_cellc (mx_up_o h))
/-- a whole row put -/
def mx_row (σ : Mem) (k : Nat) (f : Nat → Int32) : Mem := fun a => if a = k then f else σ a
theorem mx_row_o {σ : Mem} {k a : Nat} {f : Nat → Int32} (h : a ≠ k) : mx_row σ k f a = σ a := by unfold mx_row; rw [if_neg h]
theorem mx_row_s {σ : Mem} {k : Nat} {f : Nat → Int32} : mx_row σ k f k = f := by unfold mx_row; rw [if_pos rfl]
theorem mx_up_row (σ : Mem) (k j : Nat) (v : Int32) : mx_up σ k j v = mx_row σ k (upd (σ k) j v) := by
  funext a
  by_cases h : a = k
  · subst h; rw [mx_up_s, mx_row_s]
  · rw [mx_up_o h, mx_row_o h]
theorem mx_row_row (σ : Mem) (k : Nat) (f g : Nat → Int32) : mx_row (mx_row σ k f) k g = mx_row σ k g := by
  funext a
  by_cases h : a = k
  · subst h; rw [mx_row_s, mx_row_s]
  · rw [mx_row_o h, mx_row_o h, mx_row_o h]
theorem mx_row_self (σ : Mem) (k : Nat) : mx_row σ k (σ k) = σ := by
  funext a
  by_cases h : a = k
  · subst h; rw [mx_row_s]
  · rw [mx_row_o h]
/-- decoded: at pc stands this instruction, the next at n -/
def mx_at (cc : ByteArray) (pc : Nat) (i : Instr) (len n : Nat) : Prop := decode cc pc = .ok (i, len) ∧ pc + len = n
def mx_br (cc : ByteArray) (pc : Nat) (i : Instr) (off : Int) (len n tgt : Nat) : Prop := decode cc pc = .ok (i, len) ∧ pc + len = n ∧ (pc : Int) + off = (tgt : Int)
def mx_C (E : mx_E) (own : String) (cc : ByteArray) (nL : Nat) (ret : Option FieldType) (p : Program) (s : State) (m : MethodId) (args : Array Value) (meth : Method) (c : Code) : Prop :=
  p.tables.exec = Jvm.exec ∧ c.code = cc ∧ meth.sig.returnType = ret ∧ c.maxLocals = nL ∧ (∀ w ∈ mx_tbl, w.before args s = true) ∧ s.vm.findClass own = some m.cls ∧ meth.locks = false ∧ va_K E.1 mx_cl (mx_ty E) s ∧ mx_inj E
/-- A FRAME OVER A MEMORY -/
def MX (E : mx_E) (K : Nat) (own : String) (cc : ByteArray) (nL : Nat) (ret : Option FieldType) (pc : Nat) (lv : List (Nat × Value)) (st : List Value) (σ : Mem) (post : Option Value → Mem → Prop) : Prop :=
  ∀ (p : Program) (l : Launch) (e : Env) (s : State) (m : MethodId) (args : Array Value) (below : List Frame) (meth : Method) (c : Code) (H : Heap) (locs : List Loc) (ls : Array Slot) (Qc : Array Value → State → Outcome → State → Prop),
    mx_C E own cc nL ret p s m args meth c → va_P E.1 mx_cl (mx_w E σ) H → va_S (mx_A E) s.heap H locs → lv_has ls nL lv →
    (∀ (v : Option Value) (τ : Mem) (t : State), post v τ → va_P E.1 mx_cl (mx_w E τ) t.heap → va_F (mx_A E) s t → Qc args s (.returned v) t) →
    W p l e (mx_R K) s m args below meth c H locs 0 0 (MQ below Qc args s 0 0 (mx_A E)) (F0 m pc ls st)
def mx_Pc (E : mx_E) (args : List Value) (σ : Mem) : Array Value → State → Prop := va_Pc args (fun U => va_P E.1 mx_cl (mx_w E σ) U.heap ∧ va_K E.1 mx_cl (mx_ty E) U ∧ mx_inj E)
def mx_Qc (E : mx_E) (post : Option Value → Mem → Prop) : Array Value → State → Outcome → State → Prop := fun _ st oc t => (∃ (v : Option Value) (τ : Mem), oc = .returned v ∧ post v τ ∧ va_P E.1 mx_cl (mx_w E τ) t.heap) ∧ va_F (mx_A E) st t
/-- A METHOD OVER MEMORIES -/
def MM (E : mx_E) (K : Nat) (y : MethodName) (cc : ByteArray) (nL : Nat) (ret : Option FieldType) (args : List Value) (σ : Mem) (post : Option Value → Mem → Prop) : Prop :=
  ∀ l : Launch, Met l y (Cond.code y cc nL ret :: mx_tbl) (mx_R K) (mx_Pc E args σ) (mx_Qc E post) 0 0 (mx_A E)
theorem MM.of {E : mx_E} {K : Nat} {y : MethodName} {cc : ByteArray} {nL : Nat} {ret : Option FieldType} {args : List Value} {σ : Mem} {post : Option Value → Mem → Prop} (hy : plainName y.cls = true) (hn : (lg_sl args).length ≤ nL) {lv : List (Nat × Value)} (hlv : lv_args 0 args = lv)
    (h : MX E K y.cls cc nL ret 0 lv [] σ post) : MM E K y cc nL ret args σ post := by
  intro l
  refine Met.ofW (cc := cc) (maxL := nL) (ret := ret) hy rfl ?_
  intro p e s m args' below meth c s₁ B hml hv
  obtain ⟨rfl, hP, hK, hD⟩ := hv
  have hts := atoms_spec B.pre
  have hl := lv_entry args (n := nL) hn
  rw [lg_entry_eq]
  rw [hlv] at hl
  exact h p l e s m args.toArray below meth c s.heap [] _ _ ⟨B.exec, B.bytes, B.returns, hml, fun w hw => hts w (List.mem_cons_of_mem _ hw), findClass_of_methodNamed B.named, B.notSynchronized, hK, hD⟩ hP va_S.rf hl (fun v τ t h1 h2 h3 => ⟨⟨v, τ, rfl, h1, h2⟩, h3⟩)
section MXR
variable {E : mx_E} {K : Nat} {own : String} {cc : ByteArray} {nL : Nat} {ret : Option FieldType} {pc n tgt : Nat} {lv lv' : List (Nat × Value)} {st : List Value} {σ : Mem} {post : Option Value → Mem → Prop}
theorem x_iconst {z : Int} {v : Int32} (hd : mx_at cc pc (.iconst z) 1 n) (hv : Int32.ofInt z = v) (k : MX E K own cc nL ret n lv (.int v :: st) σ post) : MX E K own cc nL ret pc lv st σ post := by
  intro p l e s m args below meth c H locs ls Qc C P S L hq
  obtain ⟨hd, rfl⟩ := hd
  exact lv_iconst C.1 C.2.1 hd hv (k p l e s m args below meth c H locs ls Qc C P S L hq)
theorem x_bipush {z : Int} {v : Int32} (hd : mx_at cc pc (.bipush z) 2 n) (hv : (Int8.ofInt z).toInt32 = v) (k : MX E K own cc nL ret n lv (.int v :: st) σ post) : MX E K own cc nL ret pc lv st σ post := by
  intro p l e s m args below meth c H locs ls Qc C P S L hq
  obtain ⟨hd, rfl⟩ := hd
  exact lv_bipush C.1 C.2.1 hd hv (k p l e s m args below meth c H locs ls Qc C P S L hq)
theorem x_sipush {z : Int} {v : Int32} (hd : mx_at cc pc (.sipush z) 3 n) (hv : (Int16.ofInt z).toInt32 = v) (k : MX E K own cc nL ret n lv (.int v :: st) σ post) : MX E K own cc nL ret pc lv st σ post := by
  intro p l e s m args below meth c H locs ls Qc C P S L hq
  obtain ⟨hd, rfl⟩ := hd
  exact lv_sipush C.1 C.2.1 hd hv (k p l e s m args below meth c H locs ls Qc C P S L hq)
theorem x_lconst {z : Fin 2} {v : Int64} (hd : mx_at cc pc (.lconst z) 1 n) (hv : Int64.ofNat (z : Nat) = v) (k : MX E K own cc nL ret n lv (.long v :: st) σ post) : MX E K own cc nL ret pc lv st σ post := by
  intro p l e s m args below meth c H locs ls Qc C P S L hq
  obtain ⟨hd, rfl⟩ := hd
  exact lv_lconst C.1 C.2.1 hd hv (k p l e s m args below meth c H locs ls Qc C P S L hq)
theorem x_iload_n (q : Nat) {j : Fin 4} {x : Int32} (hd : mx_at cc pc (.iload_n j) 1 n) (hl : lv[q]? = some ((j : Nat), .int x)) (k : MX E K own cc nL ret n lv (.int x :: st) σ post) : MX E K own cc nL ret pc lv st σ post := by
  intro p l e s m args below meth c H locs ls Qc C P S L hq
  obtain ⟨hd, rfl⟩ := hd
  exact lv_iload_n C.1 C.2.1 hd rfl (lv_at L q hl) (k p l e s m args below meth c H locs ls Qc C P S L hq)
theorem x_iload (q : Nat) {j : Nat} {x : Int32} (hd : mx_at cc pc (.iload j) 2 n) (hl : lv[q]? = some (j, .int x)) (k : MX E K own cc nL ret n lv (.int x :: st) σ post) : MX E K own cc nL ret pc lv st σ post := by
  intro p l e s m args below meth c H locs ls Qc C P S L hq
  obtain ⟨hd, rfl⟩ := hd
  exact lv_iload C.1 C.2.1 hd (lv_at L q hl) (k p l e s m args below meth c H locs ls Qc C P S L hq)
theorem x_lload_n (q : Nat) {j : Fin 4} {x : Int64} (hd : mx_at cc pc (.lload_n j) 1 n) (hl : lv[q]? = some ((j : Nat), .long x)) (k : MX E K own cc nL ret n lv (.long x :: st) σ post) : MX E K own cc nL ret pc lv st σ post := by
  intro p l e s m args below meth c H locs ls Qc C P S L hq
  obtain ⟨hd, rfl⟩ := hd
  exact lv_lload_n C.1 C.2.1 hd rfl (lv_at L q hl) (k p l e s m args below meth c H locs ls Qc C P S L hq)
theorem x_lload (q : Nat) {j : Nat} {x : Int64} (hd : mx_at cc pc (.lload j) 2 n) (hl : lv[q]? = some (j, .long x)) (k : MX E K own cc nL ret n lv (.long x :: st) σ post) : MX E K own cc nL ret pc lv st σ post := by
  intro p l e s m args below meth c H locs ls Qc C P S L hq
  obtain ⟨hd, rfl⟩ := hd
  exact lv_lload C.1 C.2.1 hd (lv_at L q hl) (k p l e s m args below meth c H locs ls Qc C P S L hq)
theorem x_aload_n (q : Nat) {j : Fin 4} {x : Nat} (hd : mx_at cc pc (.aload_n j) 1 n) (hl : lv[q]? = some ((j : Nat), .ref x)) (k : MX E K own cc nL ret n lv (.ref x :: st) σ post) : MX E K own cc nL ret pc lv st σ post := by
  intro p l e s m args below meth c H locs ls Qc C P S L hq
  obtain ⟨hd, rfl⟩ := hd
  exact lv_aload_n C.1 C.2.1 hd rfl (lv_at L q hl) (k p l e s m args below meth c H locs ls Qc C P S L hq)
theorem x_aload (q : Nat) {j : Nat} {x : Nat} (hd : mx_at cc pc (.aload j) 2 n) (hl : lv[q]? = some (j, .ref x)) (k : MX E K own cc nL ret n lv (.ref x :: st) σ post) : MX E K own cc nL ret pc lv st σ post := by
  intro p l e s m args below meth c H locs ls Qc C P S L hq
  obtain ⟨hd, rfl⟩ := hd
  exact lv_aload C.1 C.2.1 hd (lv_at L q hl) (k p l e s m args below meth c H locs ls Qc C P S L hq)
theorem x_istore_n {i : Fin 4} {j : Nat} {x : Int32} (hd : mx_at cc pc (.istore_n i) 1 n) (hi : (i : Nat) = j) (hj : j < nL) (hl : (j, Value.int x) :: lv.filter (fun q => !(q.1 == j) && !(q.1 + 1 == j && q.2.category == 2)) = lv') (k : MX E K own cc nL ret n lv' st σ post) : MX E K own cc nL ret pc lv (Value.int x :: st) σ post := by
  intro p l e s m args below meth c H locs ls Qc C P S L hq
  obtain ⟨hd, rfl⟩ := hd
  subst hi
  exact lv_istore_n C.1 C.2.1 hd rfl L hj hl (fun ls' L' => k p l e s m args below meth c H locs ls' Qc C P S L' hq)
theorem x_istore {i : Nat} {j : Nat} {x : Int32} (hd : mx_at cc pc (.istore i) 2 n) (hi : (i : Nat) = j) (hj : j < nL) (hl : (j, Value.int x) :: lv.filter (fun q => !(q.1 == j) && !(q.1 + 1 == j && q.2.category == 2)) = lv') (k : MX E K own cc nL ret n lv' st σ post) : MX E K own cc nL ret pc lv (Value.int x :: st) σ post := by
  intro p l e s m args below meth c H locs ls Qc C P S L hq
  obtain ⟨hd, rfl⟩ := hd
  subst hi
  exact lv_istore C.1 C.2.1 hd L hj hl (fun ls' L' => k p l e s m args below meth c H locs ls' Qc C P S L' hq)
theorem x_lstore_n {i : Fin 4} {j : Nat} {x : Int64} (hd : mx_at cc pc (.lstore_n i) 1 n) (hi : (i : Nat) = j) (hj : j + 1 < nL) (hl : (j, Value.long x) :: lv.filter (fun q => !(q.1 == j) && (!(q.1 == j + 1) && !(q.1 + 1 == j && q.2.category == 2))) = lv') (k : MX E K own cc nL ret n lv' st σ post) : MX E K own cc nL ret pc lv (Value.long x :: st) σ post := by
  intro p l e s m args below meth c H locs ls Qc C P S L hq
  obtain ⟨hd, rfl⟩ := hd
  subst hi
  exact lv_lstore_n C.1 C.2.1 hd rfl L hj hl (fun ls' L' => k p l e s m args below meth c H locs ls' Qc C P S L' hq)
theorem x_lstore {i : Nat} {j : Nat} {x : Int64} (hd : mx_at cc pc (.lstore i) 2 n) (hi : (i : Nat) = j) (hj : j + 1 < nL) (hl : (j, Value.long x) :: lv.filter (fun q => !(q.1 == j) && (!(q.1 == j + 1) && !(q.1 + 1 == j && q.2.category == 2))) = lv') (k : MX E K own cc nL ret n lv' st σ post) : MX E K own cc nL ret pc lv (Value.long x :: st) σ post := by
  intro p l e s m args below meth c H locs ls Qc C P S L hq
  obtain ⟨hd, rfl⟩ := hd
  subst hi
  exact lv_lstore C.1 C.2.1 hd L hj hl (fun ls' L' => k p l e s m args below meth c H locs ls' Qc C P S L' hq)
theorem x_astore_n {i : Fin 4} {j : Nat} {x : Nat} (hd : mx_at cc pc (.astore_n i) 1 n) (hi : (i : Nat) = j) (hj : j < nL) (hl : (j, Value.ref x) :: lv.filter (fun q => !(q.1 == j) && !(q.1 + 1 == j && q.2.category == 2)) = lv') (k : MX E K own cc nL ret n lv' st σ post) : MX E K own cc nL ret pc lv (Value.ref x :: st) σ post := by
  intro p l e s m args below meth c H locs ls Qc C P S L hq
  obtain ⟨hd, rfl⟩ := hd
  subst hi
  exact lv_astore_n C.1 C.2.1 hd rfl L hj hl (fun ls' L' => k p l e s m args below meth c H locs ls' Qc C P S L' hq)
theorem x_astore {i : Nat} {j : Nat} {x : Nat} (hd : mx_at cc pc (.astore i) 2 n) (hi : (i : Nat) = j) (hj : j < nL) (hl : (j, Value.ref x) :: lv.filter (fun q => !(q.1 == j) && !(q.1 + 1 == j && q.2.category == 2)) = lv') (k : MX E K own cc nL ret n lv' st σ post) : MX E K own cc nL ret pc lv (Value.ref x :: st) σ post := by
  intro p l e s m args below meth c H locs ls Qc C P S L hq
  obtain ⟨hd, rfl⟩ := hd
  subst hi
  exact lv_astore C.1 C.2.1 hd L hj hl (fun ls' L' => k p l e s m args below meth c H locs ls' Qc C P S L' hq)
theorem x_iinc {j : Nat} {z : Int} {x v : Int32} (q : Nat) (hd : mx_at cc pc (.iinc j z) 3 n) (hk : lv[q]? = some (j, .int x)) (hv : x + Int32.ofInt z = v) (hj : j < nL) (hl : (j, Value.int v) :: lv.filter (fun q => !(q.1 == j) && !(q.1 + 1 == j && q.2.category == 2)) = lv') (k : MX E K own cc nL ret n lv' st σ post) : MX E K own cc nL ret pc lv st σ post := by
  intro p l e s m args below meth c H locs ls Qc C P S L hq
  obtain ⟨hd, rfl⟩ := hd
  exact lv_iinc C.1 C.2.1 hd L hk hv hj hl (fun ls' L' => k p l e s m args below meth c H locs ls' Qc C P S L' hq)
theorem x_iadd {x y : Int32} (hd : mx_at cc pc .iadd 1 n) (k : MX E K own cc nL ret n lv (.int (x + y) :: st) σ post) : MX E K own cc nL ret pc lv (.int y :: .int x :: st) σ post := by
  intro p l e s m args below meth c H locs ls Qc C P S L hq
  obtain ⟨hd, rfl⟩ := hd
  exact lv_iadd C.1 C.2.1 hd (k p l e s m args below meth c H locs ls Qc C P S L hq)
theorem x_isub {x y : Int32} (hd : mx_at cc pc .isub 1 n) (k : MX E K own cc nL ret n lv (.int (x - y) :: st) σ post) : MX E K own cc nL ret pc lv (.int y :: .int x :: st) σ post := by
  intro p l e s m args below meth c H locs ls Qc C P S L hq
  obtain ⟨hd, rfl⟩ := hd
  exact lv_isub C.1 C.2.1 hd (k p l e s m args below meth c H locs ls Qc C P S L hq)
theorem x_imul {x y : Int32} (hd : mx_at cc pc .imul 1 n) (k : MX E K own cc nL ret n lv (.int (x * y) :: st) σ post) : MX E K own cc nL ret pc lv (.int y :: .int x :: st) σ post := by
  intro p l e s m args below meth c H locs ls Qc C P S L hq
  obtain ⟨hd, rfl⟩ := hd
  exact lv_imul C.1 C.2.1 hd (k p l e s m args below meth c H locs ls Qc C P S L hq)
theorem x_iand {x y : Int32} (hd : mx_at cc pc .iand 1 n) (k : MX E K own cc nL ret n lv (.int (x &&& y) :: st) σ post) : MX E K own cc nL ret pc lv (.int y :: .int x :: st) σ post := by
  intro p l e s m args below meth c H locs ls Qc C P S L hq
  obtain ⟨hd, rfl⟩ := hd
  exact lv_iand C.1 C.2.1 hd (k p l e s m args below meth c H locs ls Qc C P S L hq)
theorem x_ior {x y : Int32} (hd : mx_at cc pc .ior 1 n) (k : MX E K own cc nL ret n lv (.int (x ||| y) :: st) σ post) : MX E K own cc nL ret pc lv (.int y :: .int x :: st) σ post := by
  intro p l e s m args below meth c H locs ls Qc C P S L hq
  obtain ⟨hd, rfl⟩ := hd
  exact lv_ior C.1 C.2.1 hd (k p l e s m args below meth c H locs ls Qc C P S L hq)
theorem x_ixor {x y : Int32} (hd : mx_at cc pc .ixor 1 n) (k : MX E K own cc nL ret n lv (.int (x ^^^ y) :: st) σ post) : MX E K own cc nL ret pc lv (.int y :: .int x :: st) σ post := by
  intro p l e s m args below meth c H locs ls Qc C P S L hq
  obtain ⟨hd, rfl⟩ := hd
  exact lv_ixor C.1 C.2.1 hd (k p l e s m args below meth c H locs ls Qc C P S L hq)
theorem x_ishl {x y : Int32} (hd : mx_at cc pc .ishl 1 n) (k : MX E K own cc nL ret n lv (.int (x <<< (y &&& 31)) :: st) σ post) : MX E K own cc nL ret pc lv (.int y :: .int x :: st) σ post := by
  intro p l e s m args below meth c H locs ls Qc C P S L hq
  obtain ⟨hd, rfl⟩ := hd
  exact lv_ishl C.1 C.2.1 hd (k p l e s m args below meth c H locs ls Qc C P S L hq)
theorem x_ishr {x y : Int32} (hd : mx_at cc pc .ishr 1 n) (k : MX E K own cc nL ret n lv (.int (x >>> (y &&& 31)) :: st) σ post) : MX E K own cc nL ret pc lv (.int y :: .int x :: st) σ post := by
  intro p l e s m args below meth c H locs ls Qc C P S L hq
  obtain ⟨hd, rfl⟩ := hd
  exact lv_ishr C.1 C.2.1 hd (k p l e s m args below meth c H locs ls Qc C P S L hq)
theorem x_ladd {x y : Int64} (hd : mx_at cc pc .ladd 1 n) (k : MX E K own cc nL ret n lv (.long (x + y) :: st) σ post) : MX E K own cc nL ret pc lv (.long y :: .long x :: st) σ post := by
  intro p l e s m args below meth c H locs ls Qc C P S L hq
  obtain ⟨hd, rfl⟩ := hd
  exact lv_ladd C.1 C.2.1 hd (k p l e s m args below meth c H locs ls Qc C P S L hq)
theorem x_lsub {x y : Int64} (hd : mx_at cc pc .lsub 1 n) (k : MX E K own cc nL ret n lv (.long (x - y) :: st) σ post) : MX E K own cc nL ret pc lv (.long y :: .long x :: st) σ post := by
  intro p l e s m args below meth c H locs ls Qc C P S L hq
  obtain ⟨hd, rfl⟩ := hd
  exact lv_lsub C.1 C.2.1 hd (k p l e s m args below meth c H locs ls Qc C P S L hq)
theorem x_lmul {x y : Int64} (hd : mx_at cc pc .lmul 1 n) (k : MX E K own cc nL ret n lv (.long (x * y) :: st) σ post) : MX E K own cc nL ret pc lv (.long y :: .long x :: st) σ post := by
  intro p l e s m args below meth c H locs ls Qc C P S L hq
  obtain ⟨hd, rfl⟩ := hd
  exact lv_lmul C.1 C.2.1 hd (k p l e s m args below meth c H locs ls Qc C P S L hq)
theorem x_idiv {x y : Int32} (hd : mx_at cc pc .idiv 1 n) (hne : ¬ y = 0) (k : MX E K own cc nL ret n lv (.int (x / y) :: st) σ post) : MX E K own cc nL ret pc lv (.int y :: .int x :: st) σ post := by
  intro p l e s m args below meth c H locs ls Qc C P S L hq
  obtain ⟨hd, rfl⟩ := hd
  exact lv_idiv C.1 C.2.1 hd hne (k p l e s m args below meth c H locs ls Qc C P S L hq)
theorem x_ldiv {x y : Int64} (hd : mx_at cc pc .ldiv 1 n) (hne : ¬ y = 0) (k : MX E K own cc nL ret n lv (.long (x / y) :: st) σ post) : MX E K own cc nL ret pc lv (.long y :: .long x :: st) σ post := by
  intro p l e s m args below meth c H locs ls Qc C P S L hq
  obtain ⟨hd, rfl⟩ := hd
  exact lv_ldiv C.1 C.2.1 hd hne (k p l e s m args below meth c H locs ls Qc C P S L hq)
theorem x_irem {x y : Int32} (hd : mx_at cc pc .irem 1 n) (hne : ¬ y = 0) (k : MX E K own cc nL ret n lv (.int (x % y) :: st) σ post) : MX E K own cc nL ret pc lv (.int y :: .int x :: st) σ post := by
  intro p l e s m args below meth c H locs ls Qc C P S L hq
  obtain ⟨hd, rfl⟩ := hd
  exact lv_irem C.1 C.2.1 hd hne (irem_eq_mod x y ▸ (k p l e s m args below meth c H locs ls Qc C P S L hq))
theorem x_lmod (x y : Int64) : x - (x / y) * y = x % y := by
  apply Int64.toInt_inj.mp
  have h1 := Int64.le_toInt (x % y)
  have h2 := Int64.toInt_lt (x % y)
  rw [Int64.toInt_sub, Int64.toInt_mul, Int64.toInt_div, Int.bmod_mul_bmod, Int.sub_bmod_bmod, Int.mul_comm (x.toInt.tdiv y.toInt), ← Int.tmod_def, ← Int64.toInt_mod]
  exact Int.bmod_eq_of_le_mul_two (by omega) (by omega)
theorem x_lrem {x y : Int64} (hd : mx_at cc pc .lrem 1 n) (hne : ¬ y = 0) (k : MX E K own cc nL ret n lv (.long (x % y) :: st) σ post) : MX E K own cc nL ret pc lv (.long y :: .long x :: st) σ post := by
  intro p l e s m args below meth c H locs ls Qc C P S L hq
  obtain ⟨hd, rfl⟩ := hd
  exact lv_lrem C.1 C.2.1 hd hne (x_lmod x y ▸ (k p l e s m args below meth c H locs ls Qc C P S L hq))
theorem x_ineg {x : Int32} (hd : mx_at cc pc .ineg 1 n) (k : MX E K own cc nL ret n lv (.int (-x) :: st) σ post) : MX E K own cc nL ret pc lv (.int x :: st) σ post := by
  intro p l e s m args below meth c H locs ls Qc C P S L hq
  obtain ⟨hd, rfl⟩ := hd
  exact lv_ineg C.1 C.2.1 hd (k p l e s m args below meth c H locs ls Qc C P S L hq)
theorem x_i2l {x : Int32} (hd : mx_at cc pc .i2l 1 n) (k : MX E K own cc nL ret n lv (.long x.toInt64 :: st) σ post) : MX E K own cc nL ret pc lv (.int x :: st) σ post := by
  intro p l e s m args below meth c H locs ls Qc C P S L hq
  obtain ⟨hd, rfl⟩ := hd
  exact lv_i2l C.1 C.2.1 hd rfl (k p l e s m args below meth c H locs ls Qc C P S L hq)
theorem x_l2i {x : Int64} (hd : mx_at cc pc .l2i 1 n) (k : MX E K own cc nL ret n lv (.int x.toInt32 :: st) σ post) : MX E K own cc nL ret pc lv (.long x :: st) σ post := by
  intro p l e s m args below meth c H locs ls Qc C P S L hq
  obtain ⟨hd, rfl⟩ := hd
  exact lv_l2i C.1 C.2.1 hd rfl (k p l e s m args below meth c H locs ls Qc C P S L hq)
theorem x_iushr {x y : Int32} (hd : mx_at cc pc .iushr 1 n) (k : MX E K own cc nL ret n lv (.int (x.toUInt32 >>> (y.toUInt32 &&& Int32.toUInt32 31)).toInt32 :: st) σ post) : MX E K own cc nL ret pc lv (.int y :: .int x :: st) σ post := by
  intro p l e s m args below meth c H locs ls Qc C P S L hq
  obtain ⟨hd, rfl⟩ := hd
  exact lv_iushr C.1 C.2.1 hd rfl (k p l e s m args below meth c H locs ls Qc C P S L hq)
theorem x_lcmp {x y : Int64} (hd : mx_at cc pc .lcmp 1 n) (k : MX E K own cc nL ret n lv (.int (lg_cmp x y) :: st) σ post) : MX E K own cc nL ret pc lv (.long y :: .long x :: st) σ post := by
  intro p l e s m args below meth c H locs ls Qc C P S L hq
  obtain ⟨hd, rfl⟩ := hd
  exact W.lcmp C.1 C.2.1 hd (k p l e s m args below meth c H locs ls Qc C P S L hq)
theorem x_dup {v : Value} (hd : mx_at cc pc .dup 1 n) (hc : v.category = 1) (k : MX E K own cc nL ret n lv (v :: v :: st) σ post) : MX E K own cc nL ret pc lv (v :: st) σ post := by
  intro p l e s m args below meth c H locs ls Qc C P S L hq
  obtain ⟨hd, rfl⟩ := hd
  exact lv_dup C.1 C.2.1 hd hc (k p l e s m args below meth c H locs ls Qc C P S L hq)
theorem x_pop {v : Value} (hd : mx_at cc pc .pop 1 n) (hc : v.category = 1) (k : MX E K own cc nL ret n lv st σ post) : MX E K own cc nL ret pc lv (v :: st) σ post := by
  intro p l e s m args below meth c H locs ls Qc C P S L hq
  obtain ⟨hd, rfl⟩ := hd
  exact lv_pop C.1 C.2.1 hd hc (k p l e s m args below meth c H locs ls Qc C P S L hq)
theorem x_dup2 {u v : Value} (hd : mx_at cc pc .dup2 1 n) (hc : u.category = 1) (hc2 : v.category = 1) (k : MX E K own cc nL ret n lv (u :: v :: u :: v :: st) σ post) : MX E K own cc nL ret pc lv (u :: v :: st) σ post := by
  intro p l e s m args below meth c H locs ls Qc C P S L hq
  obtain ⟨hd, rfl⟩ := hd
  exact lv_dup2_11 C.1 C.2.1 hd hc hc2 (k p l e s m args below meth c H locs ls Qc C P S L hq)
theorem x_goto {off : Int} (hd : mx_br cc pc (.goto off) off 3 n tgt) (k : MX E K own cc nL ret tgt lv st σ post) : MX E K own cc nL ret pc lv st σ post := by
  intro p l e s m args below meth c H locs ls Qc C P S L hq
  exact lv_goto C.1 C.2.1 hd.1 hd.2.2 (k p l e s m args below meth c H locs ls Qc C P S L hq)
theorem x_ifnonnull {off : Int} {x : Nat} (hd : mx_br cc pc (.ifnonnull off) off 3 n tgt) (k : MX E K own cc nL ret tgt lv st σ post) : MX E K own cc nL ret pc lv (.ref x :: st) σ post := by
  intro p l e s m args below meth c H locs ls Qc C P S L hq
  exact lv_ifnonnull C.1 C.2.1 hd.1 hd.2.2 (k p l e s m args below meth c H locs ls Qc C P S L hq)
theorem x_if_eq {off : Int} {x : Int32} (hd : mx_br cc pc (.ifCond .eq off) off 3 n tgt) (kt : x = 0 → MX E K own cc nL ret tgt lv st σ post) (kf : ¬ x = 0 → MX E K own cc nL ret n lv st σ post) : MX E K own cc nL ret pc lv (.int x :: st) σ post := by
  intro p l e s m args below meth c H locs ls Qc C P S L hq
  obtain ⟨hd, rfl, ht⟩ := hd
  exact lv_if_eq C.1 C.2.1 hd ht (fun h => kt h p l e s m args below meth c H locs ls Qc C P S L hq) (fun h => kf h p l e s m args below meth c H locs ls Qc C P S L hq)
theorem x_icmp_eq {off : Int} {x y : Int32} (hd : mx_br cc pc (.if_icmp .eq off) off 3 n tgt) (kt : x = y → MX E K own cc nL ret tgt lv st σ post) (kf : ¬ x = y → MX E K own cc nL ret n lv st σ post) : MX E K own cc nL ret pc lv (.int y :: .int x :: st) σ post := by
  intro p l e s m args below meth c H locs ls Qc C P S L hq
  obtain ⟨hd, rfl, ht⟩ := hd
  exact lv_icmp_eq C.1 C.2.1 hd ht (fun h => kt h p l e s m args below meth c H locs ls Qc C P S L hq) (fun h => kf h p l e s m args below meth c H locs ls Qc C P S L hq)
theorem x_if_ne {off : Int} {x : Int32} (hd : mx_br cc pc (.ifCond .ne off) off 3 n tgt) (kt : ¬ x = 0 → MX E K own cc nL ret tgt lv st σ post) (kf : x = 0 → MX E K own cc nL ret n lv st σ post) : MX E K own cc nL ret pc lv (.int x :: st) σ post := by
  intro p l e s m args below meth c H locs ls Qc C P S L hq
  obtain ⟨hd, rfl, ht⟩ := hd
  exact lv_if_ne C.1 C.2.1 hd ht (fun h => kt h p l e s m args below meth c H locs ls Qc C P S L hq) (fun h => kf h p l e s m args below meth c H locs ls Qc C P S L hq)
theorem x_icmp_ne {off : Int} {x y : Int32} (hd : mx_br cc pc (.if_icmp .ne off) off 3 n tgt) (kt : ¬ x = y → MX E K own cc nL ret tgt lv st σ post) (kf : x = y → MX E K own cc nL ret n lv st σ post) : MX E K own cc nL ret pc lv (.int y :: .int x :: st) σ post := by
  intro p l e s m args below meth c H locs ls Qc C P S L hq
  obtain ⟨hd, rfl, ht⟩ := hd
  exact lv_icmp_ne C.1 C.2.1 hd ht (fun h => kt h p l e s m args below meth c H locs ls Qc C P S L hq) (fun h => kf h p l e s m args below meth c H locs ls Qc C P S L hq)
theorem x_if_lt {off : Int} {x : Int32} (hd : mx_br cc pc (.ifCond .lt off) off 3 n tgt) (kt : x < 0 → MX E K own cc nL ret tgt lv st σ post) (kf : ¬ x < 0 → MX E K own cc nL ret n lv st σ post) : MX E K own cc nL ret pc lv (.int x :: st) σ post := by
  intro p l e s m args below meth c H locs ls Qc C P S L hq
  obtain ⟨hd, rfl, ht⟩ := hd
  exact lv_if_lt C.1 C.2.1 hd ht (fun h => kt h p l e s m args below meth c H locs ls Qc C P S L hq) (fun h => kf h p l e s m args below meth c H locs ls Qc C P S L hq)
theorem x_icmp_lt {off : Int} {x y : Int32} (hd : mx_br cc pc (.if_icmp .lt off) off 3 n tgt) (kt : x < y → MX E K own cc nL ret tgt lv st σ post) (kf : ¬ x < y → MX E K own cc nL ret n lv st σ post) : MX E K own cc nL ret pc lv (.int y :: .int x :: st) σ post := by
  intro p l e s m args below meth c H locs ls Qc C P S L hq
  obtain ⟨hd, rfl, ht⟩ := hd
  exact lv_icmp_lt C.1 C.2.1 hd ht (fun h => kt h p l e s m args below meth c H locs ls Qc C P S L hq) (fun h => kf h p l e s m args below meth c H locs ls Qc C P S L hq)
theorem x_if_ge {off : Int} {x : Int32} (hd : mx_br cc pc (.ifCond .ge off) off 3 n tgt) (kt : 0 ≤ x → MX E K own cc nL ret tgt lv st σ post) (kf : ¬ 0 ≤ x → MX E K own cc nL ret n lv st σ post) : MX E K own cc nL ret pc lv (.int x :: st) σ post := by
  intro p l e s m args below meth c H locs ls Qc C P S L hq
  obtain ⟨hd, rfl, ht⟩ := hd
  exact lv_if_ge C.1 C.2.1 hd ht (fun h => kt h p l e s m args below meth c H locs ls Qc C P S L hq) (fun h => kf h p l e s m args below meth c H locs ls Qc C P S L hq)
theorem x_icmp_ge {off : Int} {x y : Int32} (hd : mx_br cc pc (.if_icmp .ge off) off 3 n tgt) (kt : y ≤ x → MX E K own cc nL ret tgt lv st σ post) (kf : ¬ y ≤ x → MX E K own cc nL ret n lv st σ post) : MX E K own cc nL ret pc lv (.int y :: .int x :: st) σ post := by
  intro p l e s m args below meth c H locs ls Qc C P S L hq
  obtain ⟨hd, rfl, ht⟩ := hd
  exact lv_icmp_ge C.1 C.2.1 hd ht (fun h => kt h p l e s m args below meth c H locs ls Qc C P S L hq) (fun h => kf h p l e s m args below meth c H locs ls Qc C P S L hq)
theorem x_if_gt {off : Int} {x : Int32} (hd : mx_br cc pc (.ifCond .gt off) off 3 n tgt) (kt : 0 < x → MX E K own cc nL ret tgt lv st σ post) (kf : ¬ 0 < x → MX E K own cc nL ret n lv st σ post) : MX E K own cc nL ret pc lv (.int x :: st) σ post := by
  intro p l e s m args below meth c H locs ls Qc C P S L hq
  obtain ⟨hd, rfl, ht⟩ := hd
  exact lv_if_gt C.1 C.2.1 hd ht (fun h => kt h p l e s m args below meth c H locs ls Qc C P S L hq) (fun h => kf h p l e s m args below meth c H locs ls Qc C P S L hq)
theorem x_icmp_gt {off : Int} {x y : Int32} (hd : mx_br cc pc (.if_icmp .gt off) off 3 n tgt) (kt : y < x → MX E K own cc nL ret tgt lv st σ post) (kf : ¬ y < x → MX E K own cc nL ret n lv st σ post) : MX E K own cc nL ret pc lv (.int y :: .int x :: st) σ post := by
  intro p l e s m args below meth c H locs ls Qc C P S L hq
  obtain ⟨hd, rfl, ht⟩ := hd
  exact lv_icmp_gt C.1 C.2.1 hd ht (fun h => kt h p l e s m args below meth c H locs ls Qc C P S L hq) (fun h => kf h p l e s m args below meth c H locs ls Qc C P S L hq)
theorem x_if_le {off : Int} {x : Int32} (hd : mx_br cc pc (.ifCond .le off) off 3 n tgt) (kt : x ≤ 0 → MX E K own cc nL ret tgt lv st σ post) (kf : ¬ x ≤ 0 → MX E K own cc nL ret n lv st σ post) : MX E K own cc nL ret pc lv (.int x :: st) σ post := by
  intro p l e s m args below meth c H locs ls Qc C P S L hq
  obtain ⟨hd, rfl, ht⟩ := hd
  exact lv_if_le C.1 C.2.1 hd ht (fun h => kt h p l e s m args below meth c H locs ls Qc C P S L hq) (fun h => kf h p l e s m args below meth c H locs ls Qc C P S L hq)
theorem x_icmp_le {off : Int} {x y : Int32} (hd : mx_br cc pc (.if_icmp .le off) off 3 n tgt) (kt : x ≤ y → MX E K own cc nL ret tgt lv st σ post) (kf : ¬ x ≤ y → MX E K own cc nL ret n lv st σ post) : MX E K own cc nL ret pc lv (.int y :: .int x :: st) σ post := by
  intro p l e s m args below meth c H locs ls Qc C P S L hq
  obtain ⟨hd, rfl, ht⟩ := hd
  exact lv_icmp_le C.1 C.2.1 hd ht (fun h => kt h p l e s m args below meth c H locs ls Qc C P S L hq) (fun h => kf h p l e s m args below meth c H locs ls Qc C P S L hq)
theorem x_tableIn {dflt lo hi : Int} {offs : Array Int} {len : Nat} {x : Int32} {off : Int} (hd : decode cc pc = .ok (.tableswitch dflt lo hi offs, len)) (h1 : ¬ x.toInt < lo) (h2 : ¬ hi < x.toInt) (ho : offs[(x.toInt - lo).toNat]? = some off) (ht : (pc : Int) + off = (tgt : Int)) (k : MX E K own cc nL ret tgt lv st σ post) : MX E K own cc nL ret pc lv (.int x :: st) σ post := by
  intro p l e s m args below meth c H locs ls Qc C P S L hq
  exact lv_tableIn C.1 C.2.1 hd h1 h2 ho ht (k p l e s m args below meth c H locs ls Qc C P S L hq)
theorem x_tableOut {dflt lo hi : Int} {offs : Array Int} {len : Nat} {x : Int32} (hd : decode cc pc = .ok (.tableswitch dflt lo hi offs, len)) (h : x.toInt < lo ∨ hi < x.toInt) (ht : (pc : Int) + dflt = (tgt : Int)) (k : MX E K own cc nL ret tgt lv st σ post) : MX E K own cc nL ret pc lv (.int x :: st) σ post := by
  intro p l e s m args below meth c H locs ls Qc C P S L hq
  exact lv_tableOut C.1 C.2.1 hd h ht (k p l e s m args below meth c H locs ls Qc C P S L hq)
theorem x_lookup {dflt : Int} {ps : Array (Int × Int)} {len : Nat} {x : Int32} {off : Int} (hd : decode cc pc = .ok (.lookupswitch dflt ps, len)) (hp : (ps.toList.zip (ps.toList.drop 1)).all (fun (a, next) => a.1 < next.1) = true) (ho : Op.lookupswitch.offset ps.toList dflt x.toInt = off) (ht : (pc : Int) + off = (tgt : Int)) (k : MX E K own cc nL ret tgt lv st σ post) : MX E K own cc nL ret pc lv (.int x :: st) σ post := by
  intro p l e s m args below meth c H locs ls Qc C P S L hq
  exact lv_lookup C.1 C.2.1 hd hp ho ht (k p l e s m args below meth c H locs ls Qc C P S L hq)
theorem x_ldc {i : Nat} {v : Int32} (hd : mx_at cc pc (.ldc i) 2 n) (hw : Cond.constant own i v ∈ mx_tbl) (k : MX E K own cc nL ret n lv (.int v :: st) σ post) : MX E K own cc nL ret pc lv st σ post := by
  intro p l e s m args below meth c H locs ls Qc C P S L hq
  obtain ⟨hd, rfl⟩ := hd
  exact lv_ldc C.1 C.2.1 C.2.2.2.2.2.1 (C.2.2.2.2.1 _ hw) hd (k p l e s m args below meth c H locs ls Qc C P S L hq)
theorem x_ldc2 {i : Nat} {v : Int64} (hd : mx_at cc pc (.ldc2_w i) 3 n) (hw : Cond.constantLong own i v ∈ mx_tbl) (k : MX E K own cc nL ret n lv (.long v :: st) σ post) : MX E K own cc nL ret pc lv st σ post := by
  intro p l e s m args below meth c H locs ls Qc C P S L hq
  obtain ⟨hd, rfl⟩ := hd
  exact lv_ldc2 C.1 C.2.1 C.2.2.2.2.2.1 (C.2.2.2.2.1 _ hw) hd (k p l e s m args below meth c H locs ls Qc C P S L hq)
theorem mx_fs {x : ClassId × Class × Nat × Field} : True := trivial
theorem mx_cH {E : mx_E} {σ : Mem} {k : Nat} (h1 : 7 ≤ k) (h2 : k < 28) : mx_cell E σ k = .inr (0, [.int (σ k 0), .int (σ k 1), .int (σ k 2), .int (σ k 3), .int (σ k 4), .int (σ k 5), .int (σ k 6), .int (σ k 7)]) := by
  unfold mx_cell
  rw [if_neg (by omega), if_neg (by omega), if_neg (by omega), if_pos h2]
theorem mx_cT {E : mx_E} {σ : Mem} {k : Nat} (h1 : 1 ≤ k) (h2 : k < 4) : mx_cell E σ k = .inr (2, [mx_rf E (k + 3), mx_rf E (k + 6), .int (σ k 2), .int (σ k 3), .int (σ k 4), .int (σ k 5)]) := by
  unfold mx_cell
  rw [if_neg (by omega), if_pos h2]
theorem mx_cQ {E : mx_E} {σ : Mem} {k : Nat} (h1 : 4 ≤ k) (h2 : k < 7) : mx_cell E σ k = .inl (E.2.2.2, 6, .inr (.inr (.inr (.inr (fun i => some (E.2.1 (6 * k - 14 + i))))))) := by
  unfold mx_cell
  rw [if_neg (by omega), if_neg (by omega), if_pos h2]
theorem mx_cR {E : mx_E} {σ : Mem} {k : Nat} (h1 : 28 ≤ k) (h2 : k < 31) : mx_cell E σ k = .inr (1, [mx_rf E (k + 3), .int (σ k 1)]) := by
  unfold mx_cell
  rw [if_neg (by omega), if_neg (by omega), if_neg (by omega), if_neg (by omega), if_pos h2]
theorem mx_cI {E : mx_E} {σ : Mem} {k : Nat} (h1 : 31 ≤ k) (h2 : k ≠ 35) : mx_cell E σ k = .inl (E.2.2.1, mx_n k, .inl (σ k)) := by
  unfold mx_cell
  rw [if_neg (by omega), if_neg (by omega), if_neg (by omega), if_neg (by omega), if_neg (by omega), if_neg h2]
theorem mx_hin {C : String} {T : u_T} {N : Nat} (h : ∀ w ∈ u_ws C T N, w ∈ lw_tbl) (g : (u_ws C T N).all goodWord = true) : ∀ w ∈ u_ws C T N, w ∈ mx_tbl := fun w hw => List.mem_filter.mpr ⟨h w hw, List.all_eq_true.mp g w hw⟩
/-- a field read, of any cell of the world -/
theorem x_getf {Cn ref : String} {T : u_T} {N ci i id j : Nat} {fs : List Value} {v : Value} (hin : ∀ w ∈ u_ws Cn T N, w ∈ mx_tbl) (hc : mx_cl[ci]? = some (Cn, T, N)) (hT : (T j).1 = ref) (hlink : Cond.fieldLink own i ref (T j).2.1 (T j).2.2.1 ∈ mx_tbl) (hj : j < N) (hid : id < 44) (he : mx_cell E σ id = .inr (ci, fs)) (hv : fs[j]? = some v)
    (hd : mx_at cc pc (.getfield i) 3 n) (k : MX E K own cc nL ret n lv (v :: st) σ post) : MX E K own cc nL ret pc lv (mx_rf E id :: st) σ post := by
  intro p l e s m args below meth c H locs ls Qc C P S L hq
  obtain ⟨hd, rfl⟩ := hd
  exact va_get (C := Cn) (T := T) (N := N) C.1 C.2.1 C.2.2.2.2.1 hin C.2.2.2.2.2.1 C.2.2.2.2.2.2.2.1 P id (by rw [mx_get hid, he]) hc j hj (C.2.2.2.2.1 _ hlink) (fun x h9 => by rw [← hT]; exact h9) hv hd (k p l e s m args below meth c H locs ls Qc C P S L hq)
/-- a number put into a field -/
theorem x_putf {Cn ref : String} {T : u_T} {N ci i id j : Nat} {fs : List Value} {v : Int32} {ty : FieldType} {ty0 : Nat → FieldType} (hty : ∀ k, k < N → parseFieldDescriptor (T k).2.2.1 = some (ty0 k)) (hnm : ∀ a, a < N → ∀ b, b < N → a ≠ b → (T a).2.1 ≠ (T b).2.1) (hin : ∀ w ∈ u_ws Cn T N, w ∈ mx_tbl) (hc : mx_cl[ci]? = some (Cn, T, N)) (hT : (T j).1 = ref) (hlink : Cond.fieldLink own i ref (T j).2.1 (T j).2.2.1 ∈ mx_tbl) (hj : j < N) (hfin : (T j).2.2.2 = false) (hid : id < 44) (he : mx_cell E σ id = .inr (ci, fs)) (hl : j < fs.length) (he2 : mx_cell E (mx_up σ id j v) id = .inr (ci, fs.set j (.int v)))
    (hdsc : parseFieldDescriptor (T j).2.2.1 = some ty) (hn : narrow ty (.int v) = .int v) (hfit : fits ty (.int v) = true)
    (hd : mx_at cc pc (.putfield i) 3 n) (k : MX E K own cc nL ret n lv st (mx_up σ id j v) post) : MX E K own cc nL ret pc lv (.int v :: mx_rf E id :: st) σ post := by
  intro p l e s m args below meth c H locs ls Qc C P S L hq
  obtain ⟨hd, rfl⟩ := hd
  refine va_put (C := Cn) (T := T) (N := N) (ty := ty) C.1 C.2.1 C.2.2.2.2.1 hin ty0 hty hnm C.2.2.2.2.2.1 C.2.2.2.2.2.2.2.1 P (mx_D C.2.2.2.2.2.2.2.2) S id (by rw [mx_get hid, he]) hc j hj (C.2.2.2.2.1 _ hlink) (fun x h9 => by rw [← hT]; exact h9) hfin hdsc hn hfit hl hd (fun H1 locs1 P1 _ S1 => ?_)
  rw [mx_upw hid he2] at P1
  exact k p l e s m args below meth c H1 locs1 ls Qc C P1 S1 L hq
/-- a number of a row read -/
theorem x_iaload {id : Nat} {i : Int32} (h1 : 31 ≤ id) (h2 : id ≠ 35) (h3 : id < 44) (hi : vp_in i (mx_n id)) (hd : mx_at cc pc .iaload 1 n) (k : MX E K own cc nL ret n lv (.int (σ id i.toNatClampNeg) :: st) σ post) : MX E K own cc nL ret pc lv (.int i :: mx_rf E id :: st) σ post := by
  intro p l e s m args below meth c H locs ls Qc C P S L hq
  obtain ⟨hd, rfl⟩ := hd
  exact va_iald C.1 C.2.1 C.2.2.2.2.2.2.2.1 P id 0 (by rw [mx_get h3, mx_cI h1 h2]) rfl hi hd (k p l e s m args below meth c H locs ls Qc C P S L hq)
theorem x_iastore {id : Nat} {i v : Int32} (h1 : 31 ≤ id) (h2 : id ≠ 35) (h3 : id < 44) (hi : vp_in i (mx_n id)) (hd : mx_at cc pc .iastore 1 n) (k : MX E K own cc nL ret n lv st (mx_up σ id i.toNatClampNeg v) post) : MX E K own cc nL ret pc lv (.int v :: .int i :: mx_rf E id :: st) σ post := by
  intro p l e s m args below meth c H locs ls Qc C P S L hq
  obtain ⟨hd, rfl⟩ := hd
  refine va_iast C.1 C.2.1 C.2.2.2.2.2.2.2.1 P (mx_D C.2.2.2.2.2.2.2.2) S id 0 (by rw [mx_get h3, mx_cI h1 h2]) rfl hi hd (fun H1 locs1 P1 _ S1 => ?_)
  rw [mx_upw h3 (by rw [mx_cI h1 h2, mx_up_s])] at P1
  exact k p l e s m args below meth c H1 locs1 ls Qc C P1 S1 L hq
theorem x_alen {id : Nat} (h1 : 31 ≤ id) (h2 : id ≠ 35) (h3 : id < 44) (hd : mx_at cc pc .arraylength 1 n) (k : MX E K own cc nL ret n lv (.int (Int32.ofNat (mx_n id)) :: st) σ post) : MX E K own cc nL ret pc lv (mx_rf E id :: st) σ post := by
  intro p l e s m args below meth c H locs ls Qc C P S L hq
  obtain ⟨hd, rfl⟩ := hd
  exact va_alen C.1 C.2.1 C.2.2.2.2.2.2.2.1 P id 0 (by rw [mx_get h3, mx_cI h1 h2]) rfl rfl hd (k p l e s m args below meth c H locs ls Qc C P S L hq)
theorem x_alenQ {id : Nat} (h1 : 4 ≤ id) (h2 : id < 7) (hd : mx_at cc pc .arraylength 1 n) (k : MX E K own cc nL ret n lv (.int 6 :: st) σ post) : MX E K own cc nL ret pc lv (mx_rf E id :: st) σ post := by
  intro p l e s m args below meth c H locs ls Qc C P S L hq
  obtain ⟨hd, rfl⟩ := hd
  exact va_alen C.1 C.2.1 C.2.2.2.2.2.2.2.1 P id 1 (by rw [mx_get (by omega), mx_cQ h1 h2]) rfl rfl hd (k p l e s m args below meth c H locs ls Qc C P S L hq)
theorem x_aaload {id : Nat} {i : Int32} (h1 : 4 ≤ id) (h2 : id < 7) (hi : vp_in i 6) (hd : mx_at cc pc .aaload 1 n) (k : MX E K own cc nL ret n lv (mx_rf E (6 * id - 14 + i.toNatClampNeg) :: st) σ post) : MX E K own cc nL ret pc lv (.int i :: mx_rf E id :: st) σ post := by
  intro p l e s m args below meth c H locs ls Qc C P S L hq
  obtain ⟨hd, rfl⟩ := hd
  exact va_aldq (f := fun i => some (E.2.1 (6 * id - 14 + i))) C.1 C.2.1 C.2.2.2.2.2.2.2.1 P id 1 (by rw [mx_get (by omega), mx_cQ h1 h2]) rfl hi hd (k p l e s m args below meth c H locs ls Qc C P S L hq)
/-- the ends -/
def mx_i (R : Int32 → Mem → Prop) : Option Value → Mem → Prop := fun v τ => ∃ r : Int32, v = some (.int r) ∧ R r τ
def mx_l (R : Int64 → Mem → Prop) : Option Value → Mem → Prop := fun v τ => ∃ r : Int64, v = some (.long r) ∧ R r τ
def mx_v (R : Mem → Prop) : Option Value → Mem → Prop := fun v τ => v = none ∧ R τ
def mx_r (E : mx_E) (R : Nat → Mem → Prop) : Option Value → Mem → Prop := fun v τ => ∃ k : Nat, v = some (mx_rf E k) ∧ R k τ
theorem x_iret {v : Int32} {R : Int32 → Mem → Prop} (hd : mx_at cc pc .ireturn 1 n) (h : R v σ) : MX E K own cc nL (some .int) pc lv [.int v] σ (mx_i R) := by
  intro p l e s m args below meth c H locs ls Qc C P S L hq
  exact W.iret C.1 C.2.1 C.2.2.1 (fun t ht _ => hq _ σ t ⟨v, rfl, h⟩ (by rw [ht]; exact P) (S.F ht)) S.2.2 hd.1 (hlocks := C.2.2.2.2.2.2.1)
theorem x_zret {v : Int32} {R : Int32 → Mem → Prop} (hd : mx_at cc pc .ireturn 1 n) (hb : v = 0 ∨ v = 1) (h : R v σ) : MX E K own cc nL (some .boolean) pc lv [.int v] σ (mx_i R) := by
  intro p l e s m args below meth c H locs ls Qc C P S L hq
  exact W.zret C.1 C.2.1 C.2.2.1 (by rcases hb with rfl | rfl <;> rfl) (fun t ht _ => hq _ σ t ⟨v, rfl, h⟩ (by rw [ht]; exact P) (S.F ht)) S.2.2 hd.1 (hlocks := C.2.2.2.2.2.2.1)
theorem x_lret {v : Int64} {R : Int64 → Mem → Prop} (hd : mx_at cc pc .lreturn 1 n) (h : R v σ) : MX E K own cc nL (some .long) pc lv [.long v] σ (mx_l R) := by
  intro p l e s m args below meth c H locs ls Qc C P S L hq
  exact W.lret C.1 C.2.1 C.2.2.1 (fun t ht _ => hq _ σ t ⟨v, rfl, h⟩ (by rw [ht]; exact P) (S.F ht)) S.2.2 hd.1 (hlocks := C.2.2.2.2.2.2.1)
theorem x_vret {R : Mem → Prop} (hd : mx_at cc pc .return_ 1 n) (h : R σ) : MX E K own cc nL none pc lv [] σ (mx_v R) := by
  intro p l e s m args below meth c H locs ls Qc C P S L hq
  exact W.vret C.1 C.2.1 C.2.2.1 (fun t ht _ => hq _ σ t ⟨rfl, h⟩ (by rw [ht]; exact P) (S.F ht)) S.2.2 hd.1 (hlocks := C.2.2.2.2.2.2.1)
theorem x_aret {id : Nat} {Cn : String} {R : Nat → Mem → Prop} (hd : mx_at cc pc .areturn 1 n) (h : R id σ) : MX E K own cc nL (some (.object Cn)) pc lv [mx_rf E id] σ (mx_r E R) := by
  intro p l e s m args below meth c H locs ls Qc C P S L hq
  exact W.aret C.1 C.2.1 C.2.2.1 (Or.inl ⟨_, rfl⟩) (Or.inr ⟨_, rfl⟩) (fun t ht _ => hq _ σ t ⟨id, rfl, h⟩ (by rw [ht]; exact P) (S.F ht)) S.2.2 hd.1 (hlocks := C.2.2.2.2.2.2.1)
/-- a weaker end -/
theorem MX.weak {post' : Option Value → Mem → Prop} (h : MX E K own cc nL ret pc lv st σ post) (hp : ∀ v τ, post v τ → post' v τ) : MX E K own cc nL ret pc lv st σ post' := by
  intro p l e s m args below meth c H locs ls Qc C P S L hq
  exact h p l e s m args below meth c H locs ls Qc C P S L (fun v τ t h1 => hq v τ t (hp v τ h1))
/-- calls -/
theorem mx_after {p : Program} {l : Launch} {e : Env} {R : Room} {s : State} {m : MethodId} {args : Array Value} {below : List Frame} {meth : Method} {c : Code} {H : Heap} {locs : List Loc} {Q : State → Prop} {pc' : Nat} {ls : Array Slot} {st0 rest : List Value} {a : Array Value} {post' : Option Value → Mem → Prop}
    (hr : va_Run p l e R s m args below meth c H locs 0 0 0 0 (F0 m pc' ls st0) rest (mx_Qc E post' a) (mx_A E)) (hS : va_S (mx_A E) s.heap H locs)
    (kk : ∀ (v : Option Value) (τ : Mem) (H1 : Heap) (locs1 : List Loc), post' v τ → va_P E.1 mx_cl (mx_w E τ) H1 → va_S (mx_A E) s.heap H1 locs1 → W p l e R s m args below meth c H1 locs1 0 0 Q (F0 m (pc' + 3) ls (v.toList ++ rest))) : W p l e R s m args below meth c H locs 0 0 Q (F0 m pc' ls st0) := by
  intro T hT X
  obtain ⟨v, st₀, t, T', L, h0, X', hL, e1, e2, ⟨⟨v', τ, hv, hp, hP⟩, hz, hk⟩, st⟩ := hr T hT X
  cases hv
  rw [h0] at hz hk
  obtain ⟨t2, a1, b1⟩ := kk v τ T'.heap (locs ++ L) hp (by rw [e1]; exact hP)
    ⟨Nat.le_trans hS.1 (by rw [e1]; exact hz), fun q h1 h2 => by rw [e1, hk q (Nat.lt_of_lt_of_le h1 hS.1) h2]; exact hS.2.1 q h1 h2, fun q hq => by
      rcases List.mem_append.mp hq with h | h
      · exact hS.2.2 q h
      · exact hL q h⟩ T' rfl X'
  exact ⟨t2, st t2 a1, b1⟩
theorem mx_blind {args : List Value} : FrameBlind (mx_Pc E args σ) := fun a U g mk q => by
  obtain ⟨q0, qP, qK, qD⟩ := q
  exact ⟨q0, qP, va_K.moved (u := U) (U := U.calling g mk a) (Vm.Alike.refl U.vm) qK, qD⟩
theorem x_callV {y : MethodName} {cc' : ByteArray} {nL' k' i na id ci : Nat} {ret' : Option FieldType} {As rest : List Value} {post' : Option Value → Mem → Prop} {r : vw_C} {fs : List Value} (hM : MM E k' y cc' nL' ret' (mx_rf E id :: As) σ post') (hk : k' + 1 ≤ K) (hL : nL' ≤ 17)
    (hw1 : Cond.code y cc' nL' ret' ∈ mx_tbl) (hw2 : Cond.methodLink own i y ∈ mx_tbl) (hw3 : Cond.instanceMethod y ∈ mx_tbl) (hw4 : Cond.selects y.cls y y ∈ mx_tbl) (hw5 : Cond.initialized y.cls ∈ mx_tbl)
    (hy : y.cls ≠ "java/lang/invoke/MethodHandle" ∧ y.cls ≠ "java/lang/invoke/VarHandle" ∧ (parseMethodDescriptor y.desc).map (fun d => d.parameters.length) = some na) (hn : As.length = na)
    (hid : id < 44) (he : mx_cell E σ id = .inr (ci, fs)) (hc : mx_cl[ci]? = some r) (hr : r.1 = y.cls) (hst : st = As.reverse ++ mx_rf E id :: rest) (hsm : (rest.map fun v => v.category).sum ≤ 8) (hd : mx_at cc pc (.invokevirtual i) 3 n)
    (k : ∀ (v : Option Value) (τ : Mem), post' v τ → MX E K own cc nL ret n lv (v.toList ++ rest) τ post) : MX E K own cc nL ret pc lv st σ post := by
  intro p l e s m args below meth c H locs ls Qc C P S L hq
  obtain ⟨hd, rfl⟩ := hd
  subst hst
  refine mx_after (post' := post') (va_runV (As := As) (rest := rest) (n := na) (nL := nL) (Ts := mx_tbl) (C := y.cls) ⟨C.1, C.2.1, C.2.2.2.1, C.2.2.2.2.2.1, C.2.2.2.2.1⟩ (hM l) (cwV na C.2.2.2.2.1 ?_ rfl rfl rfl ⟨rfl, hy⟩ ⟨hk, ?_⟩) ⟨mx_blind, ?_, ?_⟩ rfl hn L.1 rfl (lv_room hsm) hd ⟨Nat.le_refl _, Nat.le_refl _⟩) S ?_
  · exact mx_goodc hw2 (mx_goodc hw3 (mx_goodc hw4 (mx_goodc hw5 (mx_goodc hw1 mx_good))))
  · show 8 + (nL' + 11) + 36 * k' ≤ 36 * K
    omega
  · rw [← hr]
    exact va_recv C.2.2.2.2.2.2.2.1 P hc (q0 := id) (by rw [mx_get hid, he])
  · intro U hU hW
    exact ⟨rfl, by rw [hU]; exact P, va_K.moved hW.alike C.2.2.2.2.2.2.2.1, C.2.2.2.2.2.2.2.2⟩
  · intro v τ H1 locs1 hp P1 S1
    exact k v τ hp p l e s m args below meth c H1 locs1 ls Qc C P1 S1 L hq
theorem x_callS {y : MethodName} {cc' : ByteArray} {nL' k' i na : Nat} {ret' : Option FieldType} {As rest : List Value} {post' : Option Value → Mem → Prop} (hM : MM E k' y cc' nL' ret' As σ post') (hk : k' + 1 ≤ K) (hL : nL' ≤ 17)
    (hw1 : Cond.code y cc' nL' ret' ∈ mx_tbl) (hw2 : Cond.methodLink own i y ∈ mx_tbl) (hw3 : Cond.static y ∈ mx_tbl) (hw5 : Cond.initialized y.cls ∈ mx_tbl)
    (hy : y.cls ≠ "java/lang/invoke/MethodHandle" ∧ y.cls ≠ "java/lang/invoke/VarHandle" ∧ (parseMethodDescriptor y.desc).map (fun d => d.parameters.length) = some na) (hn : As.length = na)
    (hst : st = As.reverse ++ rest) (hsm : (rest.map fun v => v.category).sum ≤ 8) (hd : mx_at cc pc (.invokestatic i) 3 n)
    (k : ∀ (v : Option Value) (τ : Mem), post' v τ → MX E K own cc nL ret n lv (v.toList ++ rest) τ post) : MX E K own cc nL ret pc lv st σ post := by
  intro p l e s m args below meth c H locs ls Qc C P S L hq
  obtain ⟨hd, rfl⟩ := hd
  subst hst
  refine mx_after (post' := post') (va_runS (As := As) (rest := rest) (n := na) (nL := nL) (Ts := mx_tbl) (own := own) ⟨C.1, C.2.1, C.2.2.2.1, C.2.2.2.2.2.1, C.2.2.2.2.1⟩ (hM l) ⟨callB_of na C.2.2.2.2.1 (mx_goodc hw1 mx_good) rfl rfl rfl (C.2.2.2.2.1 _ hw5) (C.2.2.2.2.1 _ hw2) hy ⟨hk, ?_⟩, C.2.2.2.2.1 _ hw3⟩ ⟨mx_blind, ?_⟩ rfl hn L.1 rfl (lv_room hsm) hd ⟨Nat.le_refl _, Nat.le_refl _⟩) S ?_
  · show 8 + (nL' + 11) + 36 * k' ≤ 36 * K
    omega
  · intro U hU hW
    exact ⟨rfl, by rw [hU]; exact P, va_K.moved hW.alike C.2.2.2.2.2.2.2.1, C.2.2.2.2.2.2.2.2⟩
  · intro v τ H1 locs1 hp P1 S1
    exact k v τ hp p l e s m args below meth c H1 locs1 ls Qc C P1 S1 L hq
theorem x_min {i : Nat} {x y : Int32} (hw : Cond.methodLink own i Lib.Math.min.name ∈ mx_tbl) (hw2 : Cond.static Lib.Math.min.name ∈ mx_tbl) (hw3 : Cond.initialized "java/lang/Math" ∈ mx_tbl) (hw4 : Cond.code Lib.Math.min.name Lib.Math.min.code 2 (some .int) ∈ mx_tbl) (hk : 1 ≤ K) (hsm : (st.map fun v => v.category).sum + 13 ≤ 36) (hd : mx_at cc pc (.invokestatic i) 3 n) (k : MX E K own cc nL ret n lv (.int (if y < x then y else x) :: st) σ post) : MX E K own cc nL ret pc lv (.int y :: .int x :: st) σ post := by
  intro p l e s m args below meth c H locs ls Qc C P S L hq
  obtain ⟨hd, rfl⟩ := hd
  exact va_mmin C.1 C.2.1 (by rw [C.2.2.2.1]; exact L.1.symm) C.2.2.2.2.2.1 (C.2.2.2.2.1 _ hw) (C.2.2.2.2.1 _ hw2) (C.2.2.2.2.1 _ hw3) (C.2.2.2.2.1 _ hw4) hk (by show _ ≤ 36 * K; omega) (Nat.le_refl _) (Nat.le_refl _) hd (k p l e s m args below meth c H locs ls Qc C P S L hq)
theorem x_max {i : Nat} {x y : Int32} (hw : Cond.methodLink own i Lib.Math.max.name ∈ mx_tbl) (hw2 : Cond.static Lib.Math.max.name ∈ mx_tbl) (hw3 : Cond.initialized "java/lang/Math" ∈ mx_tbl) (hw4 : Cond.code Lib.Math.max.name Lib.Math.max.code 2 (some .int) ∈ mx_tbl) (hk : 1 ≤ K) (hsm : (st.map fun v => v.category).sum + 13 ≤ 36) (hd : mx_at cc pc (.invokestatic i) 3 n) (k : MX E K own cc nL ret n lv (.int (if x < y then y else x) :: st) σ post) : MX E K own cc nL ret pc lv (.int y :: .int x :: st) σ post := by
  intro p l e s m args below meth c H locs ls Qc C P S L hq
  obtain ⟨hd, rfl⟩ := hd
  exact va_mmax C.1 C.2.1 (by rw [C.2.2.2.1]; exact L.1.symm) C.2.2.2.2.2.1 (C.2.2.2.2.1 _ hw) (C.2.2.2.2.1 _ hw2) (C.2.2.2.2.1 _ hw3) (C.2.2.2.2.1 _ hw4) hk (by show _ ≤ 36 * K; omega) (Nat.le_refl _) (Nat.le_refl _) hd (k p l e s m args below meth c H locs ls Qc C P S L hq)
end MXR
/-- a loop upward: what holds at every i up to N, from what holds behind i -/
theorem mx_ind {P : Nat → Prop} (N : Nat) (h : ∀ i, i ≤ N → (∀ j, i < j → j ≤ N → P j) → P i) : ∀ i, i ≤ N → P i := by
  have key : ∀ d i, i ≤ N → N - i ≤ d → P i := by
    intro d
    induction d with
    | zero => intro i hi hd; exact h i hi (fun j h1 h2 => by omega)
    | succ d ih => intro i hi hd; exact h i hi (fun j h1 h2 => ih j h2 (by omega))
  exact fun i hi => key (N - i) i hi (Nat.le_refl _)
end
