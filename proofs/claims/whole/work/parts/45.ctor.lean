/-! ===== THE CONSTRUCTORS ===== -/
def nx_R (K mc ms : Nat) : Room := { frames := K, cells := mc, slots := ms, locals := 36 * K }
/-- what of the tables a call may warm: House() called from its nest mate, rows of houses -/
def nx_W (U : State) : Prop := va_Nw (.methodLinkNest RX2 17 yX0_init RX3) U ∧ va_AO RX0 U
theorem nx_W.blind {U : State} {g : JFrame} {mk : MethodId} {a : Array Value} (h : nx_W U) : nx_W (U.calling g mk a) := ⟨va_tabs (A := #[]) rfl rfl h.1, va_AO.moved (u := U) (U := U.calling g mk a) (Vm.Alike.refl U.vm) h.2⟩
theorem nx_W.warm {s U : State} (hW : s.WarmedH U.vm) (h : nx_W s) : nx_W U := ⟨h.1.warmM hW, h.2.moved hW.alike⟩
theorem nx_oi : Cond.instanceMethod Lib.objectInit ∈ mx_tbl := mx_in 63 (by decide +kernel) rfl
theorem nx_oc : Cond.code Lib.objectInit ⟨#[0xb1]⟩ 1 none ∈ mx_tbl := mx_in 64 (by decide +kernel) rfl
theorem nx_olX0 : Cond.methodLink RX0 3 Lib.objectInit ∈ mx_tbl := mx_in 77 (by decide +kernel) rfl
theorem nx_cX0 : Cond.code yX0_init cX0_init 1 none ∈ mx_tbl := mx_in 76 (by decide +kernel) rfl
theorem nx_iX0 : Cond.instanceMethod yX0_init ∈ mx_tbl := mx_in 75 (by decide +kernel) rfl
theorem nx_sX0 : Cond.instantiable RX0 8 ∈ mx_tbl := mx_in 73 (by decide +kernel) rfl
theorem nx_yX0 : yX0_init.cls ≠ "java/lang/invoke/MethodHandle" ∧ yX0_init.cls ≠ "java/lang/invoke/VarHandle" ∧ (parseMethodDescriptor yX0_init.desc).map (fun d => d.parameters.length) = some 0 := by decide +kernel
theorem nx_olX1 : Cond.methodLink RX1 3 Lib.objectInit ∈ mx_tbl := mx_in 145 (by decide +kernel) rfl
theorem nx_cX1 : Cond.code yX1_init cX1_init 2 none ∈ mx_tbl := mx_in 144 (by decide +kernel) rfl
theorem nx_iX1 : Cond.instanceMethod yX1_init ∈ mx_tbl := mx_in 143 (by decide +kernel) rfl
theorem nx_sX1 : Cond.instantiable RX1 2 ∈ mx_tbl := mx_in 141 (by decide +kernel) rfl
theorem nx_yX1 : yX1_init.cls ≠ "java/lang/invoke/MethodHandle" ∧ yX1_init.cls ≠ "java/lang/invoke/VarHandle" ∧ (parseMethodDescriptor yX1_init.desc).map (fun d => d.parameters.length) = some 1 := by decide +kernel
theorem nx_olX2 : Cond.methodLink RX2 3 Lib.objectInit ∈ mx_tbl := mx_in 70 (by decide +kernel) rfl
theorem nx_cX2 : Cond.code yX2_init cX2_init 2 none ∈ mx_tbl := mx_in 69 (by decide +kernel) rfl
theorem nx_iX2 : Cond.instanceMethod yX2_init ∈ mx_tbl := mx_in 68 (by decide +kernel) rfl
theorem nx_sX2 : Cond.instantiable RX2 6 ∈ mx_tbl := mx_in 66 (by decide +kernel) rfl
theorem nx_yX2 : yX2_init.cls ≠ "java/lang/invoke/MethodHandle" ∧ yX2_init.cls ≠ "java/lang/invoke/VarHandle" ∧ (parseMethodDescriptor yX2_init.desc).map (fun d => d.parameters.length) = some 0 := by decide +kernel
theorem nx_olX3 : Cond.methodLink RX3 1 Lib.objectInit ∈ mx_tbl := mx_in 62 (by decide +kernel) rfl
theorem nx_cX3 : Cond.code yX3_init cX3_init 1 none ∈ mx_tbl := mx_in 61 (by decide +kernel) rfl
theorem nx_iX3 : Cond.instanceMethod yX3_init ∈ mx_tbl := mx_in 60 (by decide +kernel) rfl
theorem nx_sX3 : Cond.instantiable RX3 8 ∈ mx_tbl := mx_in 58 (by decide +kernel) rfl
theorem nx_yX3 : yX3_init.cls ≠ "java/lang/invoke/MethodHandle" ∧ yX3_init.cls ≠ "java/lang/invoke/VarHandle" ∧ (parseMethodDescriptor yX3_init.desc).map (fun d => d.parameters.length) = some 0 := by decide +kernel
theorem nx_olX4 : Cond.methodLink RX4 1 Lib.objectInit ∈ mx_tbl := mx_in 596 (by decide +kernel) rfl
theorem nx_cX4 : Cond.code yX4_init cX4_init 1 none ∈ mx_tbl := mx_in 595 (by decide +kernel) rfl
theorem nx_iX4 : Cond.instanceMethod yX4_init ∈ mx_tbl := mx_in 594 (by decide +kernel) rfl
theorem nx_sX4 : Cond.instantiable RX4 13 ∈ mx_tbl := mx_in 592 (by decide +kernel) rfl
theorem nx_yX4 : yX4_init.cls ≠ "java/lang/invoke/MethodHandle" ∧ yX4_init.cls ≠ "java/lang/invoke/VarHandle" ∧ (parseMethodDescriptor yX4_init.desc).map (fun d => d.parameters.length) = some 0 := by decide +kernel
theorem nx_ai : Cond.arrayClass .int ∈ mx_tbl := mx_in 157 (by decide +kernel) rfl
/-- two classes of rows of one kind are one -/
theorem nx_one {D : va_G} {cl : List vw_C} {tys : List (ClassId × FieldType)} {U : State} {c1 c2 : ClassId} {ty : FieldType} (h : va_K D cl tys U) (i j : Nat) (h1 : tys[i]? = some (c1, ty)) (h2 : tys[j]? = some (c2, ty)) : c2 = c1 := by
  have a := (h.2 i _ h1).2
  have b := (h.2 j _ h2).2
  have key : ∀ c : ClassId, va_RA U c ty → U.vm.findClass ("[" ++ ty.toString) = some c := by
    intro c hc
    cases ty with
    | object C => obtain ⟨-, -, -, -, -, h4⟩ := hc; exact h4
    | _ => exact hc
  exact Option.some.inj ((key c2 b).symm.trans (key c1 a))
/-- the content of a row of references counts only up to its length -/
theorem nx_cq {cA : ClassId} {n : Nat} {f g : Nat → Option Nat} (h : ∀ i, i < n → f i = g i) : vp_cell cA (n, .inr (.inr (.inr (.inr f)))) = vp_cell cA (n, .inr (.inr (.inr (.inr g)))) := by
  rw [vp_cell_q, vp_cell_q]
  unfold arrV
  rw [show (fun j : Fin n => va_rf (f j.1)) = fun j : Fin n => va_rf (g j.1) from funext fun j => by rw [h j.1 j.2]]
theorem nx_fix {D : va_G} {cl : List vw_C} {ws : va_W} {H : Heap} {a n : Nat} {cA : ClassId} {f g : Nat → Option Nat} (k : Nat) (hP : va_P D cl ws H) (hk : ws[k]? = some (a, .inl (cA, n, .inr (.inr (.inr (.inr f)))))) (h : ∀ i, i < n → f i = g i) : va_P D cl (ws.set k (a, .inl (cA, n, .inr (.inr (.inr (.inr g)))))) H := by
  intro j q hq
  by_cases e : j = k
  · subst e
    have hl := (List.getElem?_eq_some_iff.mp hk).1
    rw [List.getElem?_set_self hl] at hq
    cases hq
    have h1 := hP j _ hk
    show H[a]? = some (vp_cell cA _)
    rw [← nx_cq h]
    exact h1
  · rw [List.getElem?_set_ne (fun z => e z.symm)] at hq
    exact hP j q hq
theorem nx_fixD {A : Nat → Prop} {ws : va_W} {a : Nat} {e0 e : va_E} (k : Nat) (hD : va_D A ws) (hk : ws[k]? = some (a, e0)) : va_D A (ws.set k (a, e)) := hD.set hk
set_option maxHeartbeats 4000000 in
set_option maxRecDepth 100000 in
theorem c_X0 (l : Launch) (D : va_G) (h0 sz : Nat) : Met l yX0_init (Cond.code yX0_init cX0_init 1 none :: mx_tbl) (nx_R 1 0 0) (va_Pc [.ref h0] (fun U => U.heap.size = sz ∧ va_P D mx_cl [(h0, .inr (0, [.int 0, .int 0, .int 0, .int 0, .int 0, .int 0, .int 0, .int 0]))] U.heap ∧ va_K D mx_cl [] U ∧ va_D (fun _ => True) [(h0, .inr (0, [.int 0, .int 0, .int 0, .int 0, .int 0, .int 0, .int 0, .int 0]))])) (va_Qv (fun _ : Unit => True) (fun u t => va_P D mx_cl ([(h0, .inr (0, [.int 0, .int 0, .int 1, .int 0, .int 0, .int 0, .int 0, .int 0]))]) t.heap ∧ va_K D mx_cl [] t ∧ va_D (va_A [(h0, .inr (0, [.int 0, .int 0, .int 0, .int 0, .int 0, .int 0, .int 0, .int 0]))] sz) ([(h0, .inr (0, [.int 0, .int 0, .int 1, .int 0, .int 0, .int 0, .int 0, .int 0]))])) (va_A [(h0, .inr (0, [.int 0, .int 0, .int 0, .int 0, .int 0, .int 0, .int 0, .int 0]))] sz)) 0 0 (va_A [(h0, .inr (0, [.int 0, .int 0, .int 0, .int 0, .int 0, .int 0, .int 0, .int 0]))] sz) := by
  refine Met.ofW (cc := cX0_init) (maxL := 1) (ret := none) kpX0 rfl ?_
  intro p e s m args below meth c s₁ B hml hv
  obtain ⟨rfl, hsz, hP, hK, hD0⟩ := hv
  have hx := B.exec
  have hb := B.bytes
  have hr := B.returns
  have hts0 := atoms_spec B.pre
  have hts : ∀ w ∈ mx_tbl, w.before _ s = true := fun w hw => hts0 w (List.mem_cons_of_mem _ hw)
  have hown : s.vm.findClass RX0 = some m.cls := findClass_of_methodNamed B.named
  have hlocks := B.notSynchronized
  have hin : meth.name = "<init>" := (name_of_methodNamed B.named B.method).1
  subst hsz
  have hD := hD0.self (sz := s.heap.size)
  generalize hAe : va_A [(h0, .inr (0, [.int 0, .int 0, .int 0, .int 0, .int 0, .int 0, .int 0, .int 0]))] s.heap.size = A at hD ⊢
  have hA : ∀ q : Nat, s.heap.size ≤ q → A q := fun q h => by rw [← hAe]; exact Or.inr h
  have hS : va_S A s.heap s.heap [] := va_S.rf
  have hP : va_P D mx_cl [(h0, .inr (0, [.int 0, .int 0, .int 0, .int 0, .int 0, .int 0, .int 0, .int 0]))] s.heap := hP
  have hl := lv_entry ([.ref h0]) (n := 1) (Nat.le_of_ble_eq_true rfl)
  rw [lg_entry_eq]
  generalize (lg_sl ([.ref h0]) ++ List.replicate (1 - (lg_sl ([.ref h0])).length) Slot.unset).toArray = ls at hl ⊢
  have hl : lv_has ls 1 [(0, .ref h0)] := hl
  refine lv_aload_n hx hb dX0_init_0.1 rfl (lv_at hl 0 rfl) ?_
  refine W.objInit hx hb hown (hts _ nx_olX0) (hts _ nx_oi) (hts _ nx_oc) rfl (by rw [hml]; exact hl.1) rfl dX0_init_1.1 (Nat.le_of_ble_eq_true rfl) (Nat.le_of_ble_eq_true rfl) ?_
  refine W.eq (g2 := F0 m 4 ls []) rfl ?_
  refine lv_aload_n hx hb dX0_init_4.1 rfl (lv_at hl 0 rfl) ?_
  refine lv_iconst (v := 0) hx hb dX0_init_5.1 (by decide) ?_
  refine va_put (D := D) (ci := 0) (v := .int 0) (ty := .int) (C := RX0) (T := TX0) (N := 8) hx hb hts kx0 tyX0 tyX0_ok nmX0 hown hK hP hD hS 0 rfl rfl 0 (by decide) (hts _ (mx_in (w := Cond.fieldLink RX0 9 RX0 (TX0 0).2.1 (TX0 0).2.2.1) 78 (by decide +kernel) rfl)) (fun _ h9 => h9) rfl (by decide +kernel) rfl rfl (Nat.le_of_ble_eq_true rfl) dX0_init_6.1 (fun H locs hP hD hS => ?_)
  have hP : va_P D mx_cl [(h0, .inr (0, [.int 0, .int 0, .int 0, .int 0, .int 0, .int 0, .int 0, .int 0]))] H := hP
  have hD : va_D A [(h0, .inr (0, [.int 0, .int 0, .int 0, .int 0, .int 0, .int 0, .int 0, .int 0]))] := hD
  refine lv_aload_n hx hb dX0_init_9.1 rfl (lv_at hl 0 rfl) ?_
  refine lv_iconst (v := 0) hx hb dX0_init_10.1 (by decide) ?_
  refine va_put (D := D) (ci := 0) (v := .int 0) (ty := .int) (C := RX0) (T := TX0) (N := 8) hx hb hts kx0 tyX0 tyX0_ok nmX0 hown hK hP hD hS 0 rfl rfl 1 (by decide) (hts _ (mx_in (w := Cond.fieldLink RX0 15 RX0 (TX0 1).2.1 (TX0 1).2.2.1) 81 (by decide +kernel) rfl)) (fun _ h9 => h9) rfl (by decide +kernel) rfl rfl (Nat.le_of_ble_eq_true rfl) dX0_init_11.1 (fun H locs hP hD hS => ?_)
  have hP : va_P D mx_cl [(h0, .inr (0, [.int 0, .int 0, .int 0, .int 0, .int 0, .int 0, .int 0, .int 0]))] H := hP
  have hD : va_D A [(h0, .inr (0, [.int 0, .int 0, .int 0, .int 0, .int 0, .int 0, .int 0, .int 0]))] := hD
  refine lv_aload_n hx hb dX0_init_14.1 rfl (lv_at hl 0 rfl) ?_
  refine lv_iconst (v := 1) hx hb dX0_init_15.1 (by decide) ?_
  refine va_put (D := D) (ci := 0) (v := .int 1) (ty := .int) (C := RX0) (T := TX0) (N := 8) hx hb hts kx0 tyX0 tyX0_ok nmX0 hown hK hP hD hS 0 rfl rfl 2 (by decide) (hts _ (mx_in (w := Cond.fieldLink RX0 18 RX0 (TX0 2).2.1 (TX0 2).2.2.1) 84 (by decide +kernel) rfl)) (fun _ h9 => h9) rfl (by decide +kernel) rfl rfl (Nat.le_of_ble_eq_true rfl) dX0_init_16.1 (fun H locs hP hD hS => ?_)
  have hP : va_P D mx_cl [(h0, .inr (0, [.int 0, .int 0, .int 1, .int 0, .int 0, .int 0, .int 0, .int 0]))] H := hP
  have hD : va_D A [(h0, .inr (0, [.int 0, .int 0, .int 1, .int 0, .int 0, .int 0, .int 0, .int 0]))] := hD
  refine lv_aload_n hx hb dX0_init_19.1 rfl (lv_at hl 0 rfl) ?_
  refine lv_iconst (v := 0) hx hb dX0_init_20.1 (by decide) ?_
  refine va_put (D := D) (ci := 0) (v := .int 0) (ty := .int) (C := RX0) (T := TX0) (N := 8) hx hb hts kx0 tyX0 tyX0_ok nmX0 hown hK hP hD hS 0 rfl rfl 3 (by decide) (hts _ (mx_in (w := Cond.fieldLink RX0 21 RX0 (TX0 3).2.1 (TX0 3).2.2.1) 87 (by decide +kernel) rfl)) (fun _ h9 => h9) rfl (by decide +kernel) rfl rfl (Nat.le_of_ble_eq_true rfl) dX0_init_21.1 (fun H locs hP hD hS => ?_)
  have hP : va_P D mx_cl [(h0, .inr (0, [.int 0, .int 0, .int 1, .int 0, .int 0, .int 0, .int 0, .int 0]))] H := hP
  have hD : va_D A [(h0, .inr (0, [.int 0, .int 0, .int 1, .int 0, .int 0, .int 0, .int 0, .int 0]))] := hD
  refine lv_aload_n hx hb dX0_init_24.1 rfl (lv_at hl 0 rfl) ?_
  refine lv_iconst (v := 0) hx hb dX0_init_25.1 (by decide) ?_
  refine va_put (D := D) (ci := 0) (v := .int 0) (ty := .int) (C := RX0) (T := TX0) (N := 8) hx hb hts kx0 tyX0 tyX0_ok nmX0 hown hK hP hD hS 0 rfl rfl 4 (by decide) (hts _ (mx_in (w := Cond.fieldLink RX0 24 RX0 (TX0 4).2.1 (TX0 4).2.2.1) 90 (by decide +kernel) rfl)) (fun _ h9 => h9) rfl (by decide +kernel) rfl rfl (Nat.le_of_ble_eq_true rfl) dX0_init_26.1 (fun H locs hP hD hS => ?_)
  have hP : va_P D mx_cl [(h0, .inr (0, [.int 0, .int 0, .int 1, .int 0, .int 0, .int 0, .int 0, .int 0]))] H := hP
  have hD : va_D A [(h0, .inr (0, [.int 0, .int 0, .int 1, .int 0, .int 0, .int 0, .int 0, .int 0]))] := hD
  refine lv_aload_n hx hb dX0_init_29.1 rfl (lv_at hl 0 rfl) ?_
  refine lv_iconst (v := 0) hx hb dX0_init_30.1 (by decide) ?_
  refine va_put (D := D) (ci := 0) (v := .int 0) (ty := .int) (C := RX0) (T := TX0) (N := 8) hx hb hts kx0 tyX0 tyX0_ok nmX0 hown hK hP hD hS 0 rfl rfl 5 (by decide) (hts _ (mx_in (w := Cond.fieldLink RX0 27 RX0 (TX0 5).2.1 (TX0 5).2.2.1) 93 (by decide +kernel) rfl)) (fun _ h9 => h9) rfl (by decide +kernel) rfl rfl (Nat.le_of_ble_eq_true rfl) dX0_init_31.1 (fun H locs hP hD hS => ?_)
  have hP : va_P D mx_cl [(h0, .inr (0, [.int 0, .int 0, .int 1, .int 0, .int 0, .int 0, .int 0, .int 0]))] H := hP
  have hD : va_D A [(h0, .inr (0, [.int 0, .int 0, .int 1, .int 0, .int 0, .int 0, .int 0, .int 0]))] := hD
  refine lv_aload_n hx hb dX0_init_34.1 rfl (lv_at hl 0 rfl) ?_
  refine lv_iconst (v := 0) hx hb dX0_init_35.1 (by decide) ?_
  refine va_put (D := D) (ci := 0) (v := .int 0) (ty := .boolean) (C := RX0) (T := TX0) (N := 8) hx hb hts kx0 tyX0 tyX0_ok nmX0 hown hK hP hD hS 0 rfl rfl 6 (by decide) (hts _ (mx_in (w := Cond.fieldLink RX0 30 RX0 (TX0 6).2.1 (TX0 6).2.2.1) 96 (by decide +kernel) rfl)) (fun _ h9 => h9) rfl (by decide +kernel) rfl rfl (Nat.le_of_ble_eq_true rfl) dX0_init_36.1 (fun H locs hP hD hS => ?_)
  have hP : va_P D mx_cl [(h0, .inr (0, [.int 0, .int 0, .int 1, .int 0, .int 0, .int 0, .int 0, .int 0]))] H := hP
  have hD : va_D A [(h0, .inr (0, [.int 0, .int 0, .int 1, .int 0, .int 0, .int 0, .int 0, .int 0]))] := hD
  refine lv_aload_n hx hb dX0_init_39.1 rfl (lv_at hl 0 rfl) ?_
  refine lv_iconst (v := 0) hx hb dX0_init_40.1 (by decide) ?_
  refine va_put (D := D) (ci := 0) (v := .int 0) (ty := .boolean) (C := RX0) (T := TX0) (N := 8) hx hb hts kx0 tyX0 tyX0_ok nmX0 hown hK hP hD hS 0 rfl rfl 7 (by decide) (hts _ (mx_in (w := Cond.fieldLink RX0 34 RX0 (TX0 7).2.1 (TX0 7).2.2.1) 99 (by decide +kernel) rfl)) (fun _ h9 => h9) rfl (by decide +kernel) rfl rfl (Nat.le_of_ble_eq_true rfl) dX0_init_41.1 (fun H locs hP hD hS => ?_)
  have hP : va_P D mx_cl [(h0, .inr (0, [.int 0, .int 0, .int 1, .int 0, .int 0, .int 0, .int 0, .int 0]))] H := hP
  have hD : va_D A [(h0, .inr (0, [.int 0, .int 0, .int 1, .int 0, .int 0, .int 0, .int 0, .int 0]))] := hD
  have hP9 := hP.sub (ws' := [(h0, .inr (0, [.int 0, .int 0, .int 1, .int 0, .int 0, .int 0, .int 0, .int 0]))]) [0] rfl
  have hD9 := hD.sub (ws' := [(h0, .inr (0, [.int 0, .int 0, .int 1, .int 0, .int 0, .int 0, .int 0, .int 0]))]) [0] (by decide +kernel) rfl
  have hK9 := hK.sub (tys' := []) [] rfl
  exact W.vret hx hb hr (fun t ht hW => ⟨⟨(), rfl, trivial, by rw [ht]; exact hP9, va_K.moved hW.alike hK9, hD9⟩, hS.F ht⟩) hS.2.2 dX0_init_44.1
set_option maxHeartbeats 4000000 in
set_option maxRecDepth 100000 in
theorem c_X1 (l : Launch) (D : va_G) (h0 sz : Nat) {n : Int32} {N : Nat} (hn1 : (if (0 : Int32) < n then n else 0) = n) (hn2 : ¬ n < 0) (hn3 : n.toNatClampNeg = N) (hN : N ≤ 100) : Met l yX1_init (Cond.code yX1_init cX1_init 2 none :: mx_tbl) (nx_R 1 1 N) (va_Pc [.ref h0, .int n] (fun U => U.heap.size = sz ∧ va_P D mx_cl [(h0, .inr (1, [.null, .int 0]))] U.heap ∧ va_K D mx_cl [] U ∧ va_D (fun _ => True) [(h0, .inr (1, [.null, .int 0]))])) (va_Qv (fun _ : Nat × ClassId => True) (fun u t => va_P D mx_cl ([(h0, .inr (1, [.ref u.1, .int 0])), (u.1, .inl (u.2, N, .inl (fun _ => 0)))]) t.heap ∧ va_K D mx_cl [(u.2, .int)] t ∧ va_D (va_A [(h0, .inr (1, [.null, .int 0]))] sz) ([(h0, .inr (1, [.ref u.1, .int 0])), (u.1, .inl (u.2, N, .inl (fun _ => 0)))])) (va_A [(h0, .inr (1, [.null, .int 0]))] sz)) 1 N (va_A [(h0, .inr (1, [.null, .int 0]))] sz) := by
  refine Met.ofW (cc := cX1_init) (maxL := 2) (ret := none) kpX1 rfl ?_
  intro p e s m args below meth c s₁ B hml hv
  obtain ⟨rfl, hsz, hP, hK, hD0⟩ := hv
  have hx := B.exec
  have hb := B.bytes
  have hr := B.returns
  have hts0 := atoms_spec B.pre
  have hts : ∀ w ∈ mx_tbl, w.before _ s = true := fun w hw => hts0 w (List.mem_cons_of_mem _ hw)
  have hown : s.vm.findClass RX1 = some m.cls := findClass_of_methodNamed B.named
  have hlocks := B.notSynchronized
  have hin : meth.name = "<init>" := (name_of_methodNamed B.named B.method).1
  subst hsz
  have hD := hD0.self (sz := s.heap.size)
  generalize hAe : va_A [(h0, .inr (1, [.null, .int 0]))] s.heap.size = A at hD ⊢
  have hA : ∀ q : Nat, s.heap.size ≤ q → A q := fun q h => by rw [← hAe]; exact Or.inr h
  have hS : va_S A s.heap s.heap [] := va_S.rf
  have hP : va_P D mx_cl [(h0, .inr (1, [.null, .int 0]))] s.heap := hP
  have hl := lv_entry ([.ref h0, .int n]) (n := 2) (Nat.le_of_ble_eq_true rfl)
  rw [lg_entry_eq]
  generalize (lg_sl ([.ref h0, .int n]) ++ List.replicate (2 - (lg_sl ([.ref h0, .int n])).length) Slot.unset).toArray = ls at hl ⊢
  have hl : lv_has ls 2 [(0, .ref h0), (1, .int n)] := hl
  refine lv_aload_n hx hb dX1_init_0.1 rfl (lv_at hl 0 rfl) ?_
  refine W.objInit hx hb hown (hts _ nx_olX1) (hts _ nx_oi) (hts _ nx_oc) rfl (by rw [hml]; exact hl.1) rfl dX1_init_1.1 (Nat.le_of_ble_eq_true rfl) (Nat.le_of_ble_eq_true rfl) ?_
  refine W.eq (g2 := F0 m 4 ls []) rfl ?_
  refine lv_aload_n hx hb dX1_init_4.1 rfl (lv_at hl 0 rfl) ?_
  refine lv_iconst (v := 0) hx hb dX1_init_5.1 (by decide) ?_
  refine va_put (D := D) (ci := 1) (v := .int 0) (ty := .int) (C := RX1) (T := TX1) (N := 2) hx hb hts kx1 tyX1 tyX1_ok nmX1 hown hK hP hD hS 0 rfl rfl 1 (by decide) (hts _ (mx_in (w := Cond.fieldLink RX1 9 RX1 (TX1 1).2.1 (TX1 1).2.2.1) 150 (by decide +kernel) rfl)) (fun _ h9 => h9) rfl (by decide +kernel) rfl rfl (Nat.le_of_ble_eq_true rfl) dX1_init_6.1 (fun H locs hP hD hS => ?_)
  have hP : va_P D mx_cl [(h0, .inr (1, [.null, .int 0]))] H := hP
  have hD : va_D A [(h0, .inr (1, [.null, .int 0]))] := hD
  refine lv_aload_n hx hb dX1_init_9.1 rfl (lv_at hl 0 rfl) ?_
  refine lv_iconst (v := 0) hx hb dX1_init_10.1 (by decide) ?_
  refine lv_iload_n hx hb dX1_init_11.1 rfl (lv_at hl 1 rfl) ?_
  refine va_mmax hx hb (by rw [hml]; exact hl.1.symm) hown (hts _ (mx_in (w := Cond.methodLink RX1 15 Lib.Math.max.name) 146 (by decide +kernel) rfl)) (hts _ ktm_max) (hts _ knm) (hts _ kcm_max) (Nat.le_of_ble_eq_true rfl) (Nat.le_of_ble_eq_true rfl) (Nat.zero_le _) (Nat.zero_le _) dX1_init_12.1 ?_
  rw [hn1]
  refine va_newa (atype := .int) hx hb (hts _ nx_ai) (ty := .int) rfl hK hP hD hS hA (a0 := (N, .inl (fun _ => 0))) (fun _ => rfl) hn2 (N' := N) hn3 (show N * 4 ≤ 536870912 by omega) (Nat.le_of_ble_eq_true rfl) (show 0 + N ≤ N by omega) dX1_init_15.1 (fun q1 k2 H hK hP hD hS => ?_)
  have hK : va_K D mx_cl [(k2, .int)] s := hK
  have hP : va_P D mx_cl [(h0, .inr (1, [.null, .int 0])), (q1, .inl (k2, N, .inl (fun _ => 0)))] H := hP
  have hD : va_D A [(h0, .inr (1, [.null, .int 0])), (q1, .inl (k2, N, .inl (fun _ => 0)))] := hD
  refine W.widen (k := 1) (n := N) (Nat.le_of_ble_eq_true rfl) (by omega) ?_
  refine va_putF (D := D) (ci := 1) (v := .ref q1) (ty := .array .int) (C := RX1) (T := TX1) (N := 2) hx hb hts kx1 tyX1 tyX1_ok nmX1 hown hK hP hD hS 0 rfl rfl 0 (by decide) (hts _ (mx_in (w := Cond.fieldLink RX1 21 RX1 (TX1 0).2.1 (TX1 0).2.2.1) 149 (by decide +kernel) rfl)) (fun _ h9 => h9) rfl hin rfl (by decide +kernel) rfl rfl (Nat.le_of_ble_eq_true rfl) dX1_init_17.1 (fun H locs hP hD hS => ?_)
  have hP : va_P D mx_cl [(h0, .inr (1, [.ref q1, .int 0])), (q1, .inl (k2, N, .inl (fun _ => 0)))] H := hP
  have hD : va_D A [(h0, .inr (1, [.ref q1, .int 0])), (q1, .inl (k2, N, .inl (fun _ => 0)))] := hD
  have hP9 := hP.sub (ws' := [(h0, .inr (1, [.ref q1, .int 0])), (q1, .inl (k2, N, .inl (fun _ => 0)))]) [0, 1] rfl
  have hD9 := hD.sub (ws' := [(h0, .inr (1, [.ref q1, .int 0])), (q1, .inl (k2, N, .inl (fun _ => 0)))]) [0, 1] (by decide +kernel) rfl
  have hK9 := hK.sub (tys' := [(k2, .int)]) [0] rfl
  exact W.vret hx hb hr (fun t ht hW => ⟨⟨(q1, k2), rfl, trivial, by rw [ht]; exact hP9, va_K.moved hW.alike hK9, hD9⟩, hS.F ht⟩) hS.2.2 dX1_init_20.1
set_option maxHeartbeats 4000000 in
set_option maxRecDepth 100000 in
theorem c_X2 (l : Launch) (D : va_G) (h0 sz : Nat) : Met l yX2_init (Cond.code yX2_init cX2_init 2 none :: mx_tbl) (nx_R 2 8 62) (va_Pc [.ref h0] (fun U => U.heap.size = sz ∧ va_P D mx_cl [(h0, .inr (2, [.null, .null, .int 0, .int 0, .int 0, .int 0]))] U.heap ∧ va_K D mx_cl [] U ∧ va_D (fun _ => True) [(h0, .inr (2, [.null, .null, .int 0, .int 0, .int 0, .int 0]))] ∧ nx_W U)) (va_Qv (fun _ : (Nat → Nat) × ClassId => True) (fun u t => va_P D mx_cl ([(h0, .inr (2, [.ref (u.1 0), .ref (u.1 1), .int 0, .int 0, .int 0, .int 0])), (u.1 0, .inl (u.2, 6, .inr (.inr (.inr (.inr (fun i => some (u.1 (2 + i)))))))), (u.1 1, .inr (0, [.int 0, .int 0, .int 1, .int 0, .int 0, .int 0, .int 0, .int 0])), (u.1 2, .inr (0, [.int 0, .int 0, .int 1, .int 0, .int 0, .int 0, .int 0, .int 0])), (u.1 3, .inr (0, [.int 0, .int 0, .int 1, .int 0, .int 0, .int 0, .int 0, .int 0])), (u.1 4, .inr (0, [.int 0, .int 0, .int 1, .int 0, .int 0, .int 0, .int 0, .int 0])), (u.1 5, .inr (0, [.int 0, .int 0, .int 1, .int 0, .int 0, .int 0, .int 0, .int 0])), (u.1 6, .inr (0, [.int 0, .int 0, .int 1, .int 0, .int 0, .int 0, .int 0, .int 0])), (u.1 7, .inr (0, [.int 0, .int 0, .int 1, .int 0, .int 0, .int 0, .int 0, .int 0]))]) t.heap ∧ va_K D mx_cl [(u.2, .object RX0)] t ∧ va_D (va_A [(h0, .inr (2, [.null, .null, .int 0, .int 0, .int 0, .int 0]))] sz) ([(h0, .inr (2, [.ref (u.1 0), .ref (u.1 1), .int 0, .int 0, .int 0, .int 0])), (u.1 0, .inl (u.2, 6, .inr (.inr (.inr (.inr (fun i => some (u.1 (2 + i)))))))), (u.1 1, .inr (0, [.int 0, .int 0, .int 1, .int 0, .int 0, .int 0, .int 0, .int 0])), (u.1 2, .inr (0, [.int 0, .int 0, .int 1, .int 0, .int 0, .int 0, .int 0, .int 0])), (u.1 3, .inr (0, [.int 0, .int 0, .int 1, .int 0, .int 0, .int 0, .int 0, .int 0])), (u.1 4, .inr (0, [.int 0, .int 0, .int 1, .int 0, .int 0, .int 0, .int 0, .int 0])), (u.1 5, .inr (0, [.int 0, .int 0, .int 1, .int 0, .int 0, .int 0, .int 0, .int 0])), (u.1 6, .inr (0, [.int 0, .int 0, .int 1, .int 0, .int 0, .int 0, .int 0, .int 0])), (u.1 7, .inr (0, [.int 0, .int 0, .int 1, .int 0, .int 0, .int 0, .int 0, .int 0]))])) (va_A [(h0, .inr (2, [.null, .null, .int 0, .int 0, .int 0, .int 0]))] sz)) 8 62 (va_A [(h0, .inr (2, [.null, .null, .int 0, .int 0, .int 0, .int 0]))] sz) := by
  refine Met.ofW (cc := cX2_init) (maxL := 2) (ret := none) kpX2 rfl ?_
  intro p e s m args below meth c s₁ B hml hv
  obtain ⟨rfl, hsz, hP, hK, hD0, hw⟩ := hv
  have hx := B.exec
  have hb := B.bytes
  have hr := B.returns
  have hts0 := atoms_spec B.pre
  have hts : ∀ w ∈ mx_tbl, w.before _ s = true := fun w hw => hts0 w (List.mem_cons_of_mem _ hw)
  have hown : s.vm.findClass RX2 = some m.cls := findClass_of_methodNamed B.named
  have hlocks := B.notSynchronized
  have hin : meth.name = "<init>" := (name_of_methodNamed B.named B.method).1
  subst hsz
  have hD := hD0.self (sz := s.heap.size)
  generalize hAe : va_A [(h0, .inr (2, [.null, .null, .int 0, .int 0, .int 0, .int 0]))] s.heap.size = A at hD ⊢
  have hA : ∀ q : Nat, s.heap.size ≤ q → A q := fun q h => by rw [← hAe]; exact Or.inr h
  have hS : va_S A s.heap s.heap [] := va_S.rf
  have hP : va_P D mx_cl [(h0, .inr (2, [.null, .null, .int 0, .int 0, .int 0, .int 0]))] s.heap := hP
  have hl := lv_entry ([.ref h0]) (n := 2) (Nat.le_of_ble_eq_true rfl)
  rw [lg_entry_eq]
  generalize (lg_sl ([.ref h0]) ++ List.replicate (2 - (lg_sl ([.ref h0])).length) Slot.unset).toArray = ls at hl ⊢
  have hl : lv_has ls 2 [(0, .ref h0)] := hl
  refine lv_aload_n hx hb dX2_init_0.1 rfl (lv_at hl 0 rfl) ?_
  refine W.objInit hx hb hown (hts _ nx_olX2) (hts _ nx_oi) (hts _ nx_oc) rfl (by rw [hml]; exact hl.1) rfl dX2_init_1.1 (Nat.le_of_ble_eq_true rfl) (Nat.le_of_ble_eq_true rfl) ?_
  refine W.eq (g2 := F0 m 4 ls []) rfl ?_
  refine lv_aload_n hx hb dX2_init_4.1 rfl (lv_at hl 0 rfl) ?_
  refine lv_bipush (v := 6) hx hb dX2_init_5.1 (by decide) ?_
  refine va_newq (own := RX2) (C := RX0) hx hb hown (hts _ (mx_in (w := Cond.classLink RX2 9 RX0) 71 (by decide +kernel) rfl)) hw.2 hK hP hD hS hA (N' := 6) (by decide) rfl (Nat.le_of_ble_eq_true rfl) (Nat.le_of_ble_eq_true rfl) (Nat.le_of_ble_eq_true rfl) dX2_init_7.1 (fun q1 k2 H hK hP hD hS => ?_)
  have hK : va_K D mx_cl [(k2, .object RX0)] s := hK
  have hP : va_P D mx_cl [(h0, .inr (2, [.null, .null, .int 0, .int 0, .int 0, .int 0])), (q1, .inl (k2, 6, .inr (.inr (.inr (.inr (fun _ => none))))))] H := hP
  have hD : va_D A [(h0, .inr (2, [.null, .null, .int 0, .int 0, .int 0, .int 0])), (q1, .inl (k2, 6, .inr (.inr (.inr (.inr (fun _ => none))))))] := hD
  refine W.widen (k := 1) (n := 6) (Nat.le_of_ble_eq_true rfl) (Nat.le_of_ble_eq_true rfl) ?_
  refine va_putF (D := D) (ci := 2) (v := .ref q1) (ty := .array (.object "RoomToSpare$House")) (C := RX2) (T := TX2) (N := 6) hx hb hts kx2 tyX2 tyX2_ok nmX2 hown hK hP hD hS 0 rfl rfl 0 (by decide) (hts _ (mx_in (w := Cond.fieldLink RX2 11 RX2 (TX2 0).2.1 (TX2 0).2.2.1) 117 (by decide +kernel) rfl)) (fun _ h9 => h9) rfl hin rfl (by decide +kernel) rfl rfl (Nat.le_of_ble_eq_true rfl) dX2_init_10.1 (fun H locs hP hD hS => ?_)
  have hP : va_P D mx_cl [(h0, .inr (2, [.ref q1, .null, .int 0, .int 0, .int 0, .int 0])), (q1, .inl (k2, 6, .inr (.inr (.inr (.inr (fun _ => none))))))] H := hP
  have hD : va_D A [(h0, .inr (2, [.ref q1, .null, .int 0, .int 0, .int 0, .int 0])), (q1, .inl (k2, 6, .inr (.inr (.inr (.inr (fun _ => none))))))] := hD
  refine lv_aload_n hx hb dX2_init_13.1 rfl (lv_at hl 0 rfl) ?_
  refine va_new (ci := 0) (fs := [.int 0, .int 0, .int 0, .int 0, .int 0, .int 0, .int 0, .int 0]) (C := RX0) (T := TX0) (N := 8) hx hb hts kx0 tyX0 tyX0_ok hown (hts _ (mx_in (w := Cond.classLink RX2 9 RX0) 71 (by decide +kernel) rfl)) (hts _ nx_sX0) (hts _ knX0) hK hP hD hS hA rfl (fun j hj => by rcases (show j = 0 ∨ j = 1 ∨ j = 2 ∨ j = 3 ∨ j = 4 ∨ j = 5 ∨ j = 6 ∨ j = 7 by omega) with rfl | rfl | rfl | rfl | rfl | rfl | rfl | rfl <;> rfl) (Nat.le_of_ble_eq_true rfl) (Nat.le_of_ble_eq_true rfl) dX2_init_14.1 (fun q3 H hP hD hS => ?_)
  have hP : va_P D mx_cl [(h0, .inr (2, [.ref q1, .null, .int 0, .int 0, .int 0, .int 0])), (q1, .inl (k2, 6, .inr (.inr (.inr (.inr (fun _ => none)))))), (q3, .inr (0, [.int 0, .int 0, .int 0, .int 0, .int 0, .int 0, .int 0, .int 0]))] H := hP
  have hD : va_D A [(h0, .inr (2, [.ref q1, .null, .int 0, .int 0, .int 0, .int 0])), (q1, .inl (k2, 6, .inr (.inr (.inr (.inr (fun _ => none)))))), (q3, .inr (0, [.int 0, .int 0, .int 0, .int 0, .int 0, .int 0, .int 0, .int 0]))] := hD
  refine W.widen (k := 2) (n := 14) (Nat.le_of_ble_eq_true rfl) (Nat.le_of_ble_eq_true rfl) ?_
  refine lv_dup hx hb dX2_init_17.1 rfl ?_
  have hPc := hP.sub (ws' := [(q3, .inr (0, [.int 0, .int 0, .int 0, .int 0, .int 0, .int 0, .int 0, .int 0]))]) [2] rfl
  have hDc := hD.sub (ws' := [(q3, .inr (0, [.int 0, .int 0, .int 0, .int 0, .int 0, .int 0, .int 0, .int 0]))]) [2] (by decide) rfl
  have hKc := hK.sub (tys' := []) [] rfl
  have hFc := va_free (wc := [(q3, .inr (0, [.int 0, .int 0, .int 0, .int 0, .int 0, .int 0, .int 0, .int 0]))]) hD hS hA [2] rfl
  refine va_callv (va_runIN (nL := 2) (As := []) (rest := [.ref q3, .ref h0]) ⟨hx, hb, hml, hown, hts⟩ (c_X0 l D q3 H.size) ⟨va_cnB 0 hts (mx_goodc nx_cX0 mx_good) rfl rfl rfl hw.1 (hts _ knX0) nx_yX0 ⟨Nat.le_of_ble_eq_true rfl, Nat.le_of_ble_eq_true rfl⟩, rfl, hts _ nx_iX0⟩ ⟨fun a U g mk q => by obtain ⟨q0, q1, qP, qK, qD⟩ := q; exact ⟨q0, q1, qP, va_K.moved (u := U) (U := U.calling g mk a) (Vm.Alike.refl U.vm) qK, qD⟩, fun U hU hW => ⟨rfl, by rw [hU], by rw [hU]; exact hPc, va_K.moved hW.alike hKc, hDc.weaken (fun _ _ _ _ => trivial)⟩⟩ rfl rfl hl.1 rfl (lv_room (Nat.le_of_ble_eq_true rfl)) dX2_init_18.1 ⟨Nat.le_of_ble_eq_true rfl, Nat.le_of_ble_eq_true rfl⟩) hS (fun q _ h => hFc q h) hFc (fun u t H1 locs ht hvm _ hB hz1 hk1 hS => ?_)
  obtain ⟨hP1, hK1, hD1⟩ := hB
  rw [ht] at hP1
  have hK1 := va_K.moved hvm.symm hK1
  obtain ⟨hP, hD⟩ := va_join (wr := [(h0, .inr (2, [.ref q1, .null, .int 0, .int 0, .int 0, .int 0])), (q1, .inl (k2, 6, .inr (.inr (.inr (.inr (fun _ => none))))))]) (w1 := [(q3, .inr (0, [.int 0, .int 0, .int 1, .int 0, .int 0, .int 0, .int 0, .int 0]))]) hP hD [2] [0, 1] rfl rfl (by decide) (by decide) hk1 hFc hP1 hD1
  have hK := (hK.sub (tys' := [(k2, .object RX0)]) [0] rfl).app hK1
  generalize H1 = H at hP hS ⊢
  have hK : va_K D mx_cl [(k2, .object RX0)] s := hK
  have hP : va_P D mx_cl [(h0, .inr (2, [.ref q1, .null, .int 0, .int 0, .int 0, .int 0])), (q1, .inl (k2, 6, .inr (.inr (.inr (.inr (fun _ => none)))))), (q3, .inr (0, [.int 0, .int 0, .int 1, .int 0, .int 0, .int 0, .int 0, .int 0]))] H := hP
  have hD : va_D A [(h0, .inr (2, [.ref q1, .null, .int 0, .int 0, .int 0, .int 0])), (q1, .inl (k2, 6, .inr (.inr (.inr (.inr (fun _ => none)))))), (q3, .inr (0, [.int 0, .int 0, .int 1, .int 0, .int 0, .int 0, .int 0, .int 0]))] := hD
  refine va_putF (D := D) (ci := 2) (v := .ref q3) (ty := .object "RoomToSpare$House") (C := RX2) (T := TX2) (N := 6) hx hb hts kx2 tyX2 tyX2_ok nmX2 hown hK hP hD hS 0 rfl rfl 1 (by decide) (hts _ (mx_in (w := Cond.fieldLink RX2 18 RX2 (TX2 1).2.1 (TX2 1).2.2.1) 118 (by decide +kernel) rfl)) (fun _ h9 => h9) rfl hin rfl (by decide +kernel) rfl rfl (Nat.le_of_ble_eq_true rfl) dX2_init_21.1 (fun H locs hP hD hS => ?_)
  have hP : va_P D mx_cl [(h0, .inr (2, [.ref q1, .ref q3, .int 0, .int 0, .int 0, .int 0])), (q1, .inl (k2, 6, .inr (.inr (.inr (.inr (fun _ => none)))))), (q3, .inr (0, [.int 0, .int 0, .int 1, .int 0, .int 0, .int 0, .int 0, .int 0]))] H := hP
  have hD : va_D A [(h0, .inr (2, [.ref q1, .ref q3, .int 0, .int 0, .int 0, .int 0])), (q1, .inl (k2, 6, .inr (.inr (.inr (.inr (fun _ => none)))))), (q3, .inr (0, [.int 0, .int 0, .int 1, .int 0, .int 0, .int 0, .int 0, .int 0]))] := hD
  refine lv_aload_n hx hb dX2_init_24.1 rfl (lv_at hl 0 rfl) ?_
  refine lv_iconst (v := 0) hx hb dX2_init_25.1 (by decide) ?_
  refine va_put (D := D) (ci := 2) (v := .int 0) (ty := .int) (C := RX2) (T := TX2) (N := 6) hx hb hts kx2 tyX2 tyX2_ok nmX2 hown hK hP hD hS 0 rfl rfl 2 (by decide) (hts _ (mx_in (w := Cond.fieldLink RX2 22 RX2 (TX2 2).2.1 (TX2 2).2.2.1) 119 (by decide +kernel) rfl)) (fun _ h9 => h9) rfl (by decide +kernel) rfl rfl (Nat.le_of_ble_eq_true rfl) dX2_init_26.1 (fun H locs hP hD hS => ?_)
  have hP : va_P D mx_cl [(h0, .inr (2, [.ref q1, .ref q3, .int 0, .int 0, .int 0, .int 0])), (q1, .inl (k2, 6, .inr (.inr (.inr (.inr (fun _ => none)))))), (q3, .inr (0, [.int 0, .int 0, .int 1, .int 0, .int 0, .int 0, .int 0, .int 0]))] H := hP
  have hD : va_D A [(h0, .inr (2, [.ref q1, .ref q3, .int 0, .int 0, .int 0, .int 0])), (q1, .inl (k2, 6, .inr (.inr (.inr (.inr (fun _ => none)))))), (q3, .inr (0, [.int 0, .int 0, .int 1, .int 0, .int 0, .int 0, .int 0, .int 0]))] := hD
  refine lv_aload_n hx hb dX2_init_29.1 rfl (lv_at hl 0 rfl) ?_
  refine lv_iconst (v := 0) hx hb dX2_init_30.1 (by decide) ?_
  refine va_put (D := D) (ci := 2) (v := .int 0) (ty := .int) (C := RX2) (T := TX2) (N := 6) hx hb hts kx2 tyX2 tyX2_ok nmX2 hown hK hP hD hS 0 rfl rfl 3 (by decide) (hts _ (mx_in (w := Cond.fieldLink RX2 26 RX2 (TX2 3).2.1 (TX2 3).2.2.1) 121 (by decide +kernel) rfl)) (fun _ h9 => h9) rfl (by decide +kernel) rfl rfl (Nat.le_of_ble_eq_true rfl) dX2_init_31.1 (fun H locs hP hD hS => ?_)
  have hP : va_P D mx_cl [(h0, .inr (2, [.ref q1, .ref q3, .int 0, .int 0, .int 0, .int 0])), (q1, .inl (k2, 6, .inr (.inr (.inr (.inr (fun _ => none)))))), (q3, .inr (0, [.int 0, .int 0, .int 1, .int 0, .int 0, .int 0, .int 0, .int 0]))] H := hP
  have hD : va_D A [(h0, .inr (2, [.ref q1, .ref q3, .int 0, .int 0, .int 0, .int 0])), (q1, .inl (k2, 6, .inr (.inr (.inr (.inr (fun _ => none)))))), (q3, .inr (0, [.int 0, .int 0, .int 1, .int 0, .int 0, .int 0, .int 0, .int 0]))] := hD
  refine lv_aload_n hx hb dX2_init_34.1 rfl (lv_at hl 0 rfl) ?_
  refine lv_iconst (v := 0) hx hb dX2_init_35.1 (by decide) ?_
  refine va_put (D := D) (ci := 2) (v := .int 0) (ty := .int) (C := RX2) (T := TX2) (N := 6) hx hb hts kx2 tyX2 tyX2_ok nmX2 hown hK hP hD hS 0 rfl rfl 4 (by decide) (hts _ (mx_in (w := Cond.fieldLink RX2 29 RX2 (TX2 4).2.1 (TX2 4).2.2.1) 123 (by decide +kernel) rfl)) (fun _ h9 => h9) rfl (by decide +kernel) rfl rfl (Nat.le_of_ble_eq_true rfl) dX2_init_36.1 (fun H locs hP hD hS => ?_)
  have hP : va_P D mx_cl [(h0, .inr (2, [.ref q1, .ref q3, .int 0, .int 0, .int 0, .int 0])), (q1, .inl (k2, 6, .inr (.inr (.inr (.inr (fun _ => none)))))), (q3, .inr (0, [.int 0, .int 0, .int 1, .int 0, .int 0, .int 0, .int 0, .int 0]))] H := hP
  have hD : va_D A [(h0, .inr (2, [.ref q1, .ref q3, .int 0, .int 0, .int 0, .int 0])), (q1, .inl (k2, 6, .inr (.inr (.inr (.inr (fun _ => none)))))), (q3, .inr (0, [.int 0, .int 0, .int 1, .int 0, .int 0, .int 0, .int 0, .int 0]))] := hD
  refine lv_aload_n hx hb dX2_init_39.1 rfl (lv_at hl 0 rfl) ?_
  refine lv_iconst (v := 0) hx hb dX2_init_40.1 (by decide) ?_
  refine va_put (D := D) (ci := 2) (v := .int 0) (ty := .int) (C := RX2) (T := TX2) (N := 6) hx hb hts kx2 tyX2 tyX2_ok nmX2 hown hK hP hD hS 0 rfl rfl 5 (by decide) (hts _ (mx_in (w := Cond.fieldLink RX2 32 RX2 (TX2 5).2.1 (TX2 5).2.2.1) 125 (by decide +kernel) rfl)) (fun _ h9 => h9) rfl (by decide +kernel) rfl rfl (Nat.le_of_ble_eq_true rfl) dX2_init_41.1 (fun H locs hP hD hS => ?_)
  have hP : va_P D mx_cl [(h0, .inr (2, [.ref q1, .ref q3, .int 0, .int 0, .int 0, .int 0])), (q1, .inl (k2, 6, .inr (.inr (.inr (.inr (fun _ => none)))))), (q3, .inr (0, [.int 0, .int 0, .int 1, .int 0, .int 0, .int 0, .int 0, .int 0]))] H := hP
  have hD : va_D A [(h0, .inr (2, [.ref q1, .ref q3, .int 0, .int 0, .int 0, .int 0])), (q1, .inl (k2, 6, .inr (.inr (.inr (.inr (fun _ => none)))))), (q3, .inr (0, [.int 0, .int 0, .int 1, .int 0, .int 0, .int 0, .int 0, .int 0]))] := hD
  refine lv_iconst (v := 0) hx hb dX2_init_44.1 (by decide) ?_
  refine lv_istore_n (lv' := [(1, .int 0), (0, .ref h0)]) hx hb dX2_init_45.1 rfl hl (by decide) rfl (fun ls hl => ?_)
  refine lv_iload_n hx hb dX2_init_46.1 rfl (lv_at hl 0 rfl) ?_
  refine lv_aload_n hx hb dX2_init_47.1 rfl (lv_at hl 1 rfl) ?_
  refine va_get (D := D) (ci := 2) (v := .ref q1) (C := RX2) (T := TX2) (N := 6) hx hb hts kx2 hown hK hP 0 rfl rfl 0 (by decide) (hts _ (mx_in (w := Cond.fieldLink RX2 11 RX2 (TX2 0).2.1 (TX2 0).2.2.1) 117 (by decide +kernel) rfl)) (fun _ h9 => h9) rfl dX2_init_48.1 ?_
  refine va_alen hx hb hK hP 1 0 rfl rfl rfl dX2_init_51.1 ?_
  refine lv_icmp_ge (tgt := 74) hx hb dX2_init_52.1 (by decide) (fun cc4 => ?_) (fun cc4 => ?_)
  · exact absurd (show (6 : Int32) ≤ 0 from cc4) (by decide)
  refine lv_aload_n hx hb dX2_init_55.1 rfl (lv_at hl 1 rfl) ?_
  refine va_get (D := D) (ci := 2) (v := .ref q1) (C := RX2) (T := TX2) (N := 6) hx hb hts kx2 hown hK hP 0 rfl rfl 0 (by decide) (hts _ (mx_in (w := Cond.fieldLink RX2 11 RX2 (TX2 0).2.1 (TX2 0).2.2.1) 117 (by decide +kernel) rfl)) (fun _ h9 => h9) rfl dX2_init_56.1 ?_
  refine lv_iload_n hx hb dX2_init_59.1 rfl (lv_at hl 0 rfl) ?_
  refine va_new (ci := 0) (fs := [.int 0, .int 0, .int 0, .int 0, .int 0, .int 0, .int 0, .int 0]) (C := RX0) (T := TX0) (N := 8) hx hb hts kx0 tyX0 tyX0_ok hown (hts _ (mx_in (w := Cond.classLink RX2 9 RX0) 71 (by decide +kernel) rfl)) (hts _ nx_sX0) (hts _ knX0) hK hP hD hS hA rfl (fun j hj => by rcases (show j = 0 ∨ j = 1 ∨ j = 2 ∨ j = 3 ∨ j = 4 ∨ j = 5 ∨ j = 6 ∨ j = 7 by omega) with rfl | rfl | rfl | rfl | rfl | rfl | rfl | rfl <;> rfl) (Nat.le_of_ble_eq_true rfl) (Nat.le_of_ble_eq_true rfl) dX2_init_60.1 (fun q5 H hP hD hS => ?_)
  have hP : va_P D mx_cl [(h0, .inr (2, [.ref q1, .ref q3, .int 0, .int 0, .int 0, .int 0])), (q1, .inl (k2, 6, .inr (.inr (.inr (.inr (fun _ => none)))))), (q3, .inr (0, [.int 0, .int 0, .int 1, .int 0, .int 0, .int 0, .int 0, .int 0])), (q5, .inr (0, [.int 0, .int 0, .int 0, .int 0, .int 0, .int 0, .int 0, .int 0]))] H := hP
  have hD : va_D A [(h0, .inr (2, [.ref q1, .ref q3, .int 0, .int 0, .int 0, .int 0])), (q1, .inl (k2, 6, .inr (.inr (.inr (.inr (fun _ => none)))))), (q3, .inr (0, [.int 0, .int 0, .int 1, .int 0, .int 0, .int 0, .int 0, .int 0])), (q5, .inr (0, [.int 0, .int 0, .int 0, .int 0, .int 0, .int 0, .int 0, .int 0]))] := hD
  refine W.widen (k := 3) (n := 22) (Nat.le_of_ble_eq_true rfl) (Nat.le_of_ble_eq_true rfl) ?_
  refine lv_dup hx hb dX2_init_63.1 rfl ?_
  have hPc := hP.sub (ws' := [(q5, .inr (0, [.int 0, .int 0, .int 0, .int 0, .int 0, .int 0, .int 0, .int 0]))]) [3] rfl
  have hDc := hD.sub (ws' := [(q5, .inr (0, [.int 0, .int 0, .int 0, .int 0, .int 0, .int 0, .int 0, .int 0]))]) [3] (by decide) rfl
  have hKc := hK.sub (tys' := []) [] rfl
  have hFc := va_free (wc := [(q5, .inr (0, [.int 0, .int 0, .int 0, .int 0, .int 0, .int 0, .int 0, .int 0]))]) hD hS hA [3] rfl
  refine va_callv (va_runIN (nL := 2) (As := []) (rest := [.ref q5, .int 0, .ref q1]) ⟨hx, hb, hml, hown, hts⟩ (c_X0 l D q5 H.size) ⟨va_cnB 0 hts (mx_goodc nx_cX0 mx_good) rfl rfl rfl hw.1 (hts _ knX0) nx_yX0 ⟨Nat.le_of_ble_eq_true rfl, Nat.le_of_ble_eq_true rfl⟩, rfl, hts _ nx_iX0⟩ ⟨fun a U g mk q => by obtain ⟨q0, q1, qP, qK, qD⟩ := q; exact ⟨q0, q1, qP, va_K.moved (u := U) (U := U.calling g mk a) (Vm.Alike.refl U.vm) qK, qD⟩, fun U hU hW => ⟨rfl, by rw [hU], by rw [hU]; exact hPc, va_K.moved hW.alike hKc, hDc.weaken (fun _ _ _ _ => trivial)⟩⟩ rfl rfl hl.1 rfl (lv_room (Nat.le_of_ble_eq_true rfl)) dX2_init_64.1 ⟨Nat.le_of_ble_eq_true rfl, Nat.le_of_ble_eq_true rfl⟩) hS (fun q _ h => hFc q h) hFc (fun u t H1 locs ht hvm _ hB hz1 hk1 hS => ?_)
  obtain ⟨hP1, hK1, hD1⟩ := hB
  rw [ht] at hP1
  have hK1 := va_K.moved hvm.symm hK1
  obtain ⟨hP, hD⟩ := va_join (wr := [(h0, .inr (2, [.ref q1, .ref q3, .int 0, .int 0, .int 0, .int 0])), (q1, .inl (k2, 6, .inr (.inr (.inr (.inr (fun _ => none)))))), (q3, .inr (0, [.int 0, .int 0, .int 1, .int 0, .int 0, .int 0, .int 0, .int 0]))]) (w1 := [(q5, .inr (0, [.int 0, .int 0, .int 1, .int 0, .int 0, .int 0, .int 0, .int 0]))]) hP hD [3] [0, 1, 2] rfl rfl (by decide) (by decide) hk1 hFc hP1 hD1
  have hK := (hK.sub (tys' := [(k2, .object RX0)]) [0] rfl).app hK1
  generalize H1 = H at hP hS ⊢
  have hK : va_K D mx_cl [(k2, .object RX0)] s := hK
  have hP : va_P D mx_cl [(h0, .inr (2, [.ref q1, .ref q3, .int 0, .int 0, .int 0, .int 0])), (q1, .inl (k2, 6, .inr (.inr (.inr (.inr (fun _ => none)))))), (q3, .inr (0, [.int 0, .int 0, .int 1, .int 0, .int 0, .int 0, .int 0, .int 0])), (q5, .inr (0, [.int 0, .int 0, .int 1, .int 0, .int 0, .int 0, .int 0, .int 0]))] H := hP
  have hD : va_D A [(h0, .inr (2, [.ref q1, .ref q3, .int 0, .int 0, .int 0, .int 0])), (q1, .inl (k2, 6, .inr (.inr (.inr (.inr (fun _ => none)))))), (q3, .inr (0, [.int 0, .int 0, .int 1, .int 0, .int 0, .int 0, .int 0, .int 0])), (q5, .inr (0, [.int 0, .int 0, .int 1, .int 0, .int 0, .int 0, .int 0, .int 0]))] := hD
  refine va_astq (r := (RX0, TX0, 8)) hx hb hK hP hD hS 1 0 3 0 rfl rfl rfl rfl (vp_in_nI (show 0 < 6 by decide) (by decide)) dX2_init_67.1 (fun H locs hP hD hS => ?_)
  have hP : va_P D mx_cl [(h0, .inr (2, [.ref q1, .ref q3, .int 0, .int 0, .int 0, .int 0])), (q1, .inl (k2, 6, .inr (.inr (.inr (.inr (va_up (fun _ => none) 0 (some q5))))))), (q3, .inr (0, [.int 0, .int 0, .int 1, .int 0, .int 0, .int 0, .int 0, .int 0])), (q5, .inr (0, [.int 0, .int 0, .int 1, .int 0, .int 0, .int 0, .int 0, .int 0]))] H := hP
  have hD : va_D A [(h0, .inr (2, [.ref q1, .ref q3, .int 0, .int 0, .int 0, .int 0])), (q1, .inl (k2, 6, .inr (.inr (.inr (.inr (va_up (fun _ => none) 0 (some q5))))))), (q3, .inr (0, [.int 0, .int 0, .int 1, .int 0, .int 0, .int 0, .int 0, .int 0])), (q5, .inr (0, [.int 0, .int 0, .int 1, .int 0, .int 0, .int 0, .int 0, .int 0]))] := hD
  refine lv_iinc (v := 1) (lv' := [(1, .int 1), (0, .ref h0)]) hx hb dX2_init_68.1 hl (k := 0) rfl (by decide) (by decide) rfl (fun ls hl => ?_)
  refine lv_goto (tgt := 46) hx hb dX2_init_71.1 (by decide) ?_
  refine lv_iload_n hx hb dX2_init_46.1 rfl (lv_at hl 0 rfl) ?_
  refine lv_aload_n hx hb dX2_init_47.1 rfl (lv_at hl 1 rfl) ?_
  refine va_get (D := D) (ci := 2) (v := .ref q1) (C := RX2) (T := TX2) (N := 6) hx hb hts kx2 hown hK hP 0 rfl rfl 0 (by decide) (hts _ (mx_in (w := Cond.fieldLink RX2 11 RX2 (TX2 0).2.1 (TX2 0).2.2.1) 117 (by decide +kernel) rfl)) (fun _ h9 => h9) rfl dX2_init_48.1 ?_
  refine va_alen hx hb hK hP 1 0 rfl rfl rfl dX2_init_51.1 ?_
  refine lv_icmp_ge (tgt := 74) hx hb dX2_init_52.1 (by decide) (fun cc6 => ?_) (fun cc6 => ?_)
  · exact absurd (show (6 : Int32) ≤ 1 from cc6) (by decide)
  refine lv_aload_n hx hb dX2_init_55.1 rfl (lv_at hl 1 rfl) ?_
  refine va_get (D := D) (ci := 2) (v := .ref q1) (C := RX2) (T := TX2) (N := 6) hx hb hts kx2 hown hK hP 0 rfl rfl 0 (by decide) (hts _ (mx_in (w := Cond.fieldLink RX2 11 RX2 (TX2 0).2.1 (TX2 0).2.2.1) 117 (by decide +kernel) rfl)) (fun _ h9 => h9) rfl dX2_init_56.1 ?_
  refine lv_iload_n hx hb dX2_init_59.1 rfl (lv_at hl 0 rfl) ?_
  refine va_new (ci := 0) (fs := [.int 0, .int 0, .int 0, .int 0, .int 0, .int 0, .int 0, .int 0]) (C := RX0) (T := TX0) (N := 8) hx hb hts kx0 tyX0 tyX0_ok hown (hts _ (mx_in (w := Cond.classLink RX2 9 RX0) 71 (by decide +kernel) rfl)) (hts _ nx_sX0) (hts _ knX0) hK hP hD hS hA rfl (fun j hj => by rcases (show j = 0 ∨ j = 1 ∨ j = 2 ∨ j = 3 ∨ j = 4 ∨ j = 5 ∨ j = 6 ∨ j = 7 by omega) with rfl | rfl | rfl | rfl | rfl | rfl | rfl | rfl <;> rfl) (Nat.le_of_ble_eq_true rfl) (Nat.le_of_ble_eq_true rfl) dX2_init_60.1 (fun q7 H hP hD hS => ?_)
  have hP : va_P D mx_cl [(h0, .inr (2, [.ref q1, .ref q3, .int 0, .int 0, .int 0, .int 0])), (q1, .inl (k2, 6, .inr (.inr (.inr (.inr (va_up (fun _ => none) 0 (some q5))))))), (q3, .inr (0, [.int 0, .int 0, .int 1, .int 0, .int 0, .int 0, .int 0, .int 0])), (q5, .inr (0, [.int 0, .int 0, .int 1, .int 0, .int 0, .int 0, .int 0, .int 0])), (q7, .inr (0, [.int 0, .int 0, .int 0, .int 0, .int 0, .int 0, .int 0, .int 0]))] H := hP
  have hD : va_D A [(h0, .inr (2, [.ref q1, .ref q3, .int 0, .int 0, .int 0, .int 0])), (q1, .inl (k2, 6, .inr (.inr (.inr (.inr (va_up (fun _ => none) 0 (some q5))))))), (q3, .inr (0, [.int 0, .int 0, .int 1, .int 0, .int 0, .int 0, .int 0, .int 0])), (q5, .inr (0, [.int 0, .int 0, .int 1, .int 0, .int 0, .int 0, .int 0, .int 0])), (q7, .inr (0, [.int 0, .int 0, .int 0, .int 0, .int 0, .int 0, .int 0, .int 0]))] := hD
  refine W.widen (k := 4) (n := 30) (Nat.le_of_ble_eq_true rfl) (Nat.le_of_ble_eq_true rfl) ?_
  refine lv_dup hx hb dX2_init_63.1 rfl ?_
  have hPc := hP.sub (ws' := [(q7, .inr (0, [.int 0, .int 0, .int 0, .int 0, .int 0, .int 0, .int 0, .int 0]))]) [4] rfl
  have hDc := hD.sub (ws' := [(q7, .inr (0, [.int 0, .int 0, .int 0, .int 0, .int 0, .int 0, .int 0, .int 0]))]) [4] (by decide) rfl
  have hKc := hK.sub (tys' := []) [] rfl
  have hFc := va_free (wc := [(q7, .inr (0, [.int 0, .int 0, .int 0, .int 0, .int 0, .int 0, .int 0, .int 0]))]) hD hS hA [4] rfl
  refine va_callv (va_runIN (nL := 2) (As := []) (rest := [.ref q7, .int 1, .ref q1]) ⟨hx, hb, hml, hown, hts⟩ (c_X0 l D q7 H.size) ⟨va_cnB 0 hts (mx_goodc nx_cX0 mx_good) rfl rfl rfl hw.1 (hts _ knX0) nx_yX0 ⟨Nat.le_of_ble_eq_true rfl, Nat.le_of_ble_eq_true rfl⟩, rfl, hts _ nx_iX0⟩ ⟨fun a U g mk q => by obtain ⟨q0, q1, qP, qK, qD⟩ := q; exact ⟨q0, q1, qP, va_K.moved (u := U) (U := U.calling g mk a) (Vm.Alike.refl U.vm) qK, qD⟩, fun U hU hW => ⟨rfl, by rw [hU], by rw [hU]; exact hPc, va_K.moved hW.alike hKc, hDc.weaken (fun _ _ _ _ => trivial)⟩⟩ rfl rfl hl.1 rfl (lv_room (Nat.le_of_ble_eq_true rfl)) dX2_init_64.1 ⟨Nat.le_of_ble_eq_true rfl, Nat.le_of_ble_eq_true rfl⟩) hS (fun q _ h => hFc q h) hFc (fun u t H1 locs ht hvm _ hB hz1 hk1 hS => ?_)
  obtain ⟨hP1, hK1, hD1⟩ := hB
  rw [ht] at hP1
  have hK1 := va_K.moved hvm.symm hK1
  obtain ⟨hP, hD⟩ := va_join (wr := [(h0, .inr (2, [.ref q1, .ref q3, .int 0, .int 0, .int 0, .int 0])), (q1, .inl (k2, 6, .inr (.inr (.inr (.inr (va_up (fun _ => none) 0 (some q5))))))), (q3, .inr (0, [.int 0, .int 0, .int 1, .int 0, .int 0, .int 0, .int 0, .int 0])), (q5, .inr (0, [.int 0, .int 0, .int 1, .int 0, .int 0, .int 0, .int 0, .int 0]))]) (w1 := [(q7, .inr (0, [.int 0, .int 0, .int 1, .int 0, .int 0, .int 0, .int 0, .int 0]))]) hP hD [4] [0, 1, 2, 3] rfl rfl (by decide) (by decide) hk1 hFc hP1 hD1
  have hK := (hK.sub (tys' := [(k2, .object RX0)]) [0] rfl).app hK1
  generalize H1 = H at hP hS ⊢
  have hK : va_K D mx_cl [(k2, .object RX0)] s := hK
  have hP : va_P D mx_cl [(h0, .inr (2, [.ref q1, .ref q3, .int 0, .int 0, .int 0, .int 0])), (q1, .inl (k2, 6, .inr (.inr (.inr (.inr (va_up (fun _ => none) 0 (some q5))))))), (q3, .inr (0, [.int 0, .int 0, .int 1, .int 0, .int 0, .int 0, .int 0, .int 0])), (q5, .inr (0, [.int 0, .int 0, .int 1, .int 0, .int 0, .int 0, .int 0, .int 0])), (q7, .inr (0, [.int 0, .int 0, .int 1, .int 0, .int 0, .int 0, .int 0, .int 0]))] H := hP
  have hD : va_D A [(h0, .inr (2, [.ref q1, .ref q3, .int 0, .int 0, .int 0, .int 0])), (q1, .inl (k2, 6, .inr (.inr (.inr (.inr (va_up (fun _ => none) 0 (some q5))))))), (q3, .inr (0, [.int 0, .int 0, .int 1, .int 0, .int 0, .int 0, .int 0, .int 0])), (q5, .inr (0, [.int 0, .int 0, .int 1, .int 0, .int 0, .int 0, .int 0, .int 0])), (q7, .inr (0, [.int 0, .int 0, .int 1, .int 0, .int 0, .int 0, .int 0, .int 0]))] := hD
  refine va_astq (r := (RX0, TX0, 8)) hx hb hK hP hD hS 1 0 4 0 rfl rfl rfl rfl (vp_in_nI (show 1 < 6 by decide) (by decide)) dX2_init_67.1 (fun H locs hP hD hS => ?_)
  have hP : va_P D mx_cl [(h0, .inr (2, [.ref q1, .ref q3, .int 0, .int 0, .int 0, .int 0])), (q1, .inl (k2, 6, .inr (.inr (.inr (.inr (va_up (va_up (fun _ => none) 0 (some q5)) 1 (some q7))))))), (q3, .inr (0, [.int 0, .int 0, .int 1, .int 0, .int 0, .int 0, .int 0, .int 0])), (q5, .inr (0, [.int 0, .int 0, .int 1, .int 0, .int 0, .int 0, .int 0, .int 0])), (q7, .inr (0, [.int 0, .int 0, .int 1, .int 0, .int 0, .int 0, .int 0, .int 0]))] H := hP
  have hD : va_D A [(h0, .inr (2, [.ref q1, .ref q3, .int 0, .int 0, .int 0, .int 0])), (q1, .inl (k2, 6, .inr (.inr (.inr (.inr (va_up (va_up (fun _ => none) 0 (some q5)) 1 (some q7))))))), (q3, .inr (0, [.int 0, .int 0, .int 1, .int 0, .int 0, .int 0, .int 0, .int 0])), (q5, .inr (0, [.int 0, .int 0, .int 1, .int 0, .int 0, .int 0, .int 0, .int 0])), (q7, .inr (0, [.int 0, .int 0, .int 1, .int 0, .int 0, .int 0, .int 0, .int 0]))] := hD
  refine lv_iinc (v := 2) (lv' := [(1, .int 2), (0, .ref h0)]) hx hb dX2_init_68.1 hl (k := 0) rfl (by decide) (by decide) rfl (fun ls hl => ?_)
  refine lv_goto (tgt := 46) hx hb dX2_init_71.1 (by decide) ?_
  refine lv_iload_n hx hb dX2_init_46.1 rfl (lv_at hl 0 rfl) ?_
  refine lv_aload_n hx hb dX2_init_47.1 rfl (lv_at hl 1 rfl) ?_
  refine va_get (D := D) (ci := 2) (v := .ref q1) (C := RX2) (T := TX2) (N := 6) hx hb hts kx2 hown hK hP 0 rfl rfl 0 (by decide) (hts _ (mx_in (w := Cond.fieldLink RX2 11 RX2 (TX2 0).2.1 (TX2 0).2.2.1) 117 (by decide +kernel) rfl)) (fun _ h9 => h9) rfl dX2_init_48.1 ?_
  refine va_alen hx hb hK hP 1 0 rfl rfl rfl dX2_init_51.1 ?_
  refine lv_icmp_ge (tgt := 74) hx hb dX2_init_52.1 (by decide) (fun cc8 => ?_) (fun cc8 => ?_)
  · exact absurd (show (6 : Int32) ≤ 2 from cc8) (by decide)
  refine lv_aload_n hx hb dX2_init_55.1 rfl (lv_at hl 1 rfl) ?_
  refine va_get (D := D) (ci := 2) (v := .ref q1) (C := RX2) (T := TX2) (N := 6) hx hb hts kx2 hown hK hP 0 rfl rfl 0 (by decide) (hts _ (mx_in (w := Cond.fieldLink RX2 11 RX2 (TX2 0).2.1 (TX2 0).2.2.1) 117 (by decide +kernel) rfl)) (fun _ h9 => h9) rfl dX2_init_56.1 ?_
  refine lv_iload_n hx hb dX2_init_59.1 rfl (lv_at hl 0 rfl) ?_
  refine va_new (ci := 0) (fs := [.int 0, .int 0, .int 0, .int 0, .int 0, .int 0, .int 0, .int 0]) (C := RX0) (T := TX0) (N := 8) hx hb hts kx0 tyX0 tyX0_ok hown (hts _ (mx_in (w := Cond.classLink RX2 9 RX0) 71 (by decide +kernel) rfl)) (hts _ nx_sX0) (hts _ knX0) hK hP hD hS hA rfl (fun j hj => by rcases (show j = 0 ∨ j = 1 ∨ j = 2 ∨ j = 3 ∨ j = 4 ∨ j = 5 ∨ j = 6 ∨ j = 7 by omega) with rfl | rfl | rfl | rfl | rfl | rfl | rfl | rfl <;> rfl) (Nat.le_of_ble_eq_true rfl) (Nat.le_of_ble_eq_true rfl) dX2_init_60.1 (fun q9 H hP hD hS => ?_)
  have hP : va_P D mx_cl [(h0, .inr (2, [.ref q1, .ref q3, .int 0, .int 0, .int 0, .int 0])), (q1, .inl (k2, 6, .inr (.inr (.inr (.inr (va_up (va_up (fun _ => none) 0 (some q5)) 1 (some q7))))))), (q3, .inr (0, [.int 0, .int 0, .int 1, .int 0, .int 0, .int 0, .int 0, .int 0])), (q5, .inr (0, [.int 0, .int 0, .int 1, .int 0, .int 0, .int 0, .int 0, .int 0])), (q7, .inr (0, [.int 0, .int 0, .int 1, .int 0, .int 0, .int 0, .int 0, .int 0])), (q9, .inr (0, [.int 0, .int 0, .int 0, .int 0, .int 0, .int 0, .int 0, .int 0]))] H := hP
  have hD : va_D A [(h0, .inr (2, [.ref q1, .ref q3, .int 0, .int 0, .int 0, .int 0])), (q1, .inl (k2, 6, .inr (.inr (.inr (.inr (va_up (va_up (fun _ => none) 0 (some q5)) 1 (some q7))))))), (q3, .inr (0, [.int 0, .int 0, .int 1, .int 0, .int 0, .int 0, .int 0, .int 0])), (q5, .inr (0, [.int 0, .int 0, .int 1, .int 0, .int 0, .int 0, .int 0, .int 0])), (q7, .inr (0, [.int 0, .int 0, .int 1, .int 0, .int 0, .int 0, .int 0, .int 0])), (q9, .inr (0, [.int 0, .int 0, .int 0, .int 0, .int 0, .int 0, .int 0, .int 0]))] := hD
  refine W.widen (k := 5) (n := 38) (Nat.le_of_ble_eq_true rfl) (Nat.le_of_ble_eq_true rfl) ?_
  refine lv_dup hx hb dX2_init_63.1 rfl ?_
  have hPc := hP.sub (ws' := [(q9, .inr (0, [.int 0, .int 0, .int 0, .int 0, .int 0, .int 0, .int 0, .int 0]))]) [5] rfl
  have hDc := hD.sub (ws' := [(q9, .inr (0, [.int 0, .int 0, .int 0, .int 0, .int 0, .int 0, .int 0, .int 0]))]) [5] (by decide) rfl
  have hKc := hK.sub (tys' := []) [] rfl
  have hFc := va_free (wc := [(q9, .inr (0, [.int 0, .int 0, .int 0, .int 0, .int 0, .int 0, .int 0, .int 0]))]) hD hS hA [5] rfl
  refine va_callv (va_runIN (nL := 2) (As := []) (rest := [.ref q9, .int 2, .ref q1]) ⟨hx, hb, hml, hown, hts⟩ (c_X0 l D q9 H.size) ⟨va_cnB 0 hts (mx_goodc nx_cX0 mx_good) rfl rfl rfl hw.1 (hts _ knX0) nx_yX0 ⟨Nat.le_of_ble_eq_true rfl, Nat.le_of_ble_eq_true rfl⟩, rfl, hts _ nx_iX0⟩ ⟨fun a U g mk q => by obtain ⟨q0, q1, qP, qK, qD⟩ := q; exact ⟨q0, q1, qP, va_K.moved (u := U) (U := U.calling g mk a) (Vm.Alike.refl U.vm) qK, qD⟩, fun U hU hW => ⟨rfl, by rw [hU], by rw [hU]; exact hPc, va_K.moved hW.alike hKc, hDc.weaken (fun _ _ _ _ => trivial)⟩⟩ rfl rfl hl.1 rfl (lv_room (Nat.le_of_ble_eq_true rfl)) dX2_init_64.1 ⟨Nat.le_of_ble_eq_true rfl, Nat.le_of_ble_eq_true rfl⟩) hS (fun q _ h => hFc q h) hFc (fun u t H1 locs ht hvm _ hB hz1 hk1 hS => ?_)
  obtain ⟨hP1, hK1, hD1⟩ := hB
  rw [ht] at hP1
  have hK1 := va_K.moved hvm.symm hK1
  obtain ⟨hP, hD⟩ := va_join (wr := [(h0, .inr (2, [.ref q1, .ref q3, .int 0, .int 0, .int 0, .int 0])), (q1, .inl (k2, 6, .inr (.inr (.inr (.inr (va_up (va_up (fun _ => none) 0 (some q5)) 1 (some q7))))))), (q3, .inr (0, [.int 0, .int 0, .int 1, .int 0, .int 0, .int 0, .int 0, .int 0])), (q5, .inr (0, [.int 0, .int 0, .int 1, .int 0, .int 0, .int 0, .int 0, .int 0])), (q7, .inr (0, [.int 0, .int 0, .int 1, .int 0, .int 0, .int 0, .int 0, .int 0]))]) (w1 := [(q9, .inr (0, [.int 0, .int 0, .int 1, .int 0, .int 0, .int 0, .int 0, .int 0]))]) hP hD [5] [0, 1, 2, 3, 4] rfl rfl (by decide) (by decide) hk1 hFc hP1 hD1
  have hK := (hK.sub (tys' := [(k2, .object RX0)]) [0] rfl).app hK1
  generalize H1 = H at hP hS ⊢
  have hK : va_K D mx_cl [(k2, .object RX0)] s := hK
  have hP : va_P D mx_cl [(h0, .inr (2, [.ref q1, .ref q3, .int 0, .int 0, .int 0, .int 0])), (q1, .inl (k2, 6, .inr (.inr (.inr (.inr (va_up (va_up (fun _ => none) 0 (some q5)) 1 (some q7))))))), (q3, .inr (0, [.int 0, .int 0, .int 1, .int 0, .int 0, .int 0, .int 0, .int 0])), (q5, .inr (0, [.int 0, .int 0, .int 1, .int 0, .int 0, .int 0, .int 0, .int 0])), (q7, .inr (0, [.int 0, .int 0, .int 1, .int 0, .int 0, .int 0, .int 0, .int 0])), (q9, .inr (0, [.int 0, .int 0, .int 1, .int 0, .int 0, .int 0, .int 0, .int 0]))] H := hP
  have hD : va_D A [(h0, .inr (2, [.ref q1, .ref q3, .int 0, .int 0, .int 0, .int 0])), (q1, .inl (k2, 6, .inr (.inr (.inr (.inr (va_up (va_up (fun _ => none) 0 (some q5)) 1 (some q7))))))), (q3, .inr (0, [.int 0, .int 0, .int 1, .int 0, .int 0, .int 0, .int 0, .int 0])), (q5, .inr (0, [.int 0, .int 0, .int 1, .int 0, .int 0, .int 0, .int 0, .int 0])), (q7, .inr (0, [.int 0, .int 0, .int 1, .int 0, .int 0, .int 0, .int 0, .int 0])), (q9, .inr (0, [.int 0, .int 0, .int 1, .int 0, .int 0, .int 0, .int 0, .int 0]))] := hD
  refine va_astq (r := (RX0, TX0, 8)) hx hb hK hP hD hS 1 0 5 0 rfl rfl rfl rfl (vp_in_nI (show 2 < 6 by decide) (by decide)) dX2_init_67.1 (fun H locs hP hD hS => ?_)
  have hP : va_P D mx_cl [(h0, .inr (2, [.ref q1, .ref q3, .int 0, .int 0, .int 0, .int 0])), (q1, .inl (k2, 6, .inr (.inr (.inr (.inr (va_up (va_up (va_up (fun _ => none) 0 (some q5)) 1 (some q7)) 2 (some q9))))))), (q3, .inr (0, [.int 0, .int 0, .int 1, .int 0, .int 0, .int 0, .int 0, .int 0])), (q5, .inr (0, [.int 0, .int 0, .int 1, .int 0, .int 0, .int 0, .int 0, .int 0])), (q7, .inr (0, [.int 0, .int 0, .int 1, .int 0, .int 0, .int 0, .int 0, .int 0])), (q9, .inr (0, [.int 0, .int 0, .int 1, .int 0, .int 0, .int 0, .int 0, .int 0]))] H := hP
  have hD : va_D A [(h0, .inr (2, [.ref q1, .ref q3, .int 0, .int 0, .int 0, .int 0])), (q1, .inl (k2, 6, .inr (.inr (.inr (.inr (va_up (va_up (va_up (fun _ => none) 0 (some q5)) 1 (some q7)) 2 (some q9))))))), (q3, .inr (0, [.int 0, .int 0, .int 1, .int 0, .int 0, .int 0, .int 0, .int 0])), (q5, .inr (0, [.int 0, .int 0, .int 1, .int 0, .int 0, .int 0, .int 0, .int 0])), (q7, .inr (0, [.int 0, .int 0, .int 1, .int 0, .int 0, .int 0, .int 0, .int 0])), (q9, .inr (0, [.int 0, .int 0, .int 1, .int 0, .int 0, .int 0, .int 0, .int 0]))] := hD
  refine lv_iinc (v := 3) (lv' := [(1, .int 3), (0, .ref h0)]) hx hb dX2_init_68.1 hl (k := 0) rfl (by decide) (by decide) rfl (fun ls hl => ?_)
  refine lv_goto (tgt := 46) hx hb dX2_init_71.1 (by decide) ?_
  refine lv_iload_n hx hb dX2_init_46.1 rfl (lv_at hl 0 rfl) ?_
  refine lv_aload_n hx hb dX2_init_47.1 rfl (lv_at hl 1 rfl) ?_
  refine va_get (D := D) (ci := 2) (v := .ref q1) (C := RX2) (T := TX2) (N := 6) hx hb hts kx2 hown hK hP 0 rfl rfl 0 (by decide) (hts _ (mx_in (w := Cond.fieldLink RX2 11 RX2 (TX2 0).2.1 (TX2 0).2.2.1) 117 (by decide +kernel) rfl)) (fun _ h9 => h9) rfl dX2_init_48.1 ?_
  refine va_alen hx hb hK hP 1 0 rfl rfl rfl dX2_init_51.1 ?_
  refine lv_icmp_ge (tgt := 74) hx hb dX2_init_52.1 (by decide) (fun cc10 => ?_) (fun cc10 => ?_)
  · exact absurd (show (6 : Int32) ≤ 3 from cc10) (by decide)
  refine lv_aload_n hx hb dX2_init_55.1 rfl (lv_at hl 1 rfl) ?_
  refine va_get (D := D) (ci := 2) (v := .ref q1) (C := RX2) (T := TX2) (N := 6) hx hb hts kx2 hown hK hP 0 rfl rfl 0 (by decide) (hts _ (mx_in (w := Cond.fieldLink RX2 11 RX2 (TX2 0).2.1 (TX2 0).2.2.1) 117 (by decide +kernel) rfl)) (fun _ h9 => h9) rfl dX2_init_56.1 ?_
  refine lv_iload_n hx hb dX2_init_59.1 rfl (lv_at hl 0 rfl) ?_
  refine va_new (ci := 0) (fs := [.int 0, .int 0, .int 0, .int 0, .int 0, .int 0, .int 0, .int 0]) (C := RX0) (T := TX0) (N := 8) hx hb hts kx0 tyX0 tyX0_ok hown (hts _ (mx_in (w := Cond.classLink RX2 9 RX0) 71 (by decide +kernel) rfl)) (hts _ nx_sX0) (hts _ knX0) hK hP hD hS hA rfl (fun j hj => by rcases (show j = 0 ∨ j = 1 ∨ j = 2 ∨ j = 3 ∨ j = 4 ∨ j = 5 ∨ j = 6 ∨ j = 7 by omega) with rfl | rfl | rfl | rfl | rfl | rfl | rfl | rfl <;> rfl) (Nat.le_of_ble_eq_true rfl) (Nat.le_of_ble_eq_true rfl) dX2_init_60.1 (fun q11 H hP hD hS => ?_)
  have hP : va_P D mx_cl [(h0, .inr (2, [.ref q1, .ref q3, .int 0, .int 0, .int 0, .int 0])), (q1, .inl (k2, 6, .inr (.inr (.inr (.inr (va_up (va_up (va_up (fun _ => none) 0 (some q5)) 1 (some q7)) 2 (some q9))))))), (q3, .inr (0, [.int 0, .int 0, .int 1, .int 0, .int 0, .int 0, .int 0, .int 0])), (q5, .inr (0, [.int 0, .int 0, .int 1, .int 0, .int 0, .int 0, .int 0, .int 0])), (q7, .inr (0, [.int 0, .int 0, .int 1, .int 0, .int 0, .int 0, .int 0, .int 0])), (q9, .inr (0, [.int 0, .int 0, .int 1, .int 0, .int 0, .int 0, .int 0, .int 0])), (q11, .inr (0, [.int 0, .int 0, .int 0, .int 0, .int 0, .int 0, .int 0, .int 0]))] H := hP
  have hD : va_D A [(h0, .inr (2, [.ref q1, .ref q3, .int 0, .int 0, .int 0, .int 0])), (q1, .inl (k2, 6, .inr (.inr (.inr (.inr (va_up (va_up (va_up (fun _ => none) 0 (some q5)) 1 (some q7)) 2 (some q9))))))), (q3, .inr (0, [.int 0, .int 0, .int 1, .int 0, .int 0, .int 0, .int 0, .int 0])), (q5, .inr (0, [.int 0, .int 0, .int 1, .int 0, .int 0, .int 0, .int 0, .int 0])), (q7, .inr (0, [.int 0, .int 0, .int 1, .int 0, .int 0, .int 0, .int 0, .int 0])), (q9, .inr (0, [.int 0, .int 0, .int 1, .int 0, .int 0, .int 0, .int 0, .int 0])), (q11, .inr (0, [.int 0, .int 0, .int 0, .int 0, .int 0, .int 0, .int 0, .int 0]))] := hD
  refine W.widen (k := 6) (n := 46) (Nat.le_of_ble_eq_true rfl) (Nat.le_of_ble_eq_true rfl) ?_
  refine lv_dup hx hb dX2_init_63.1 rfl ?_
  have hPc := hP.sub (ws' := [(q11, .inr (0, [.int 0, .int 0, .int 0, .int 0, .int 0, .int 0, .int 0, .int 0]))]) [6] rfl
  have hDc := hD.sub (ws' := [(q11, .inr (0, [.int 0, .int 0, .int 0, .int 0, .int 0, .int 0, .int 0, .int 0]))]) [6] (by decide) rfl
  have hKc := hK.sub (tys' := []) [] rfl
  have hFc := va_free (wc := [(q11, .inr (0, [.int 0, .int 0, .int 0, .int 0, .int 0, .int 0, .int 0, .int 0]))]) hD hS hA [6] rfl
  refine va_callv (va_runIN (nL := 2) (As := []) (rest := [.ref q11, .int 3, .ref q1]) ⟨hx, hb, hml, hown, hts⟩ (c_X0 l D q11 H.size) ⟨va_cnB 0 hts (mx_goodc nx_cX0 mx_good) rfl rfl rfl hw.1 (hts _ knX0) nx_yX0 ⟨Nat.le_of_ble_eq_true rfl, Nat.le_of_ble_eq_true rfl⟩, rfl, hts _ nx_iX0⟩ ⟨fun a U g mk q => by obtain ⟨q0, q1, qP, qK, qD⟩ := q; exact ⟨q0, q1, qP, va_K.moved (u := U) (U := U.calling g mk a) (Vm.Alike.refl U.vm) qK, qD⟩, fun U hU hW => ⟨rfl, by rw [hU], by rw [hU]; exact hPc, va_K.moved hW.alike hKc, hDc.weaken (fun _ _ _ _ => trivial)⟩⟩ rfl rfl hl.1 rfl (lv_room (Nat.le_of_ble_eq_true rfl)) dX2_init_64.1 ⟨Nat.le_of_ble_eq_true rfl, Nat.le_of_ble_eq_true rfl⟩) hS (fun q _ h => hFc q h) hFc (fun u t H1 locs ht hvm _ hB hz1 hk1 hS => ?_)
  obtain ⟨hP1, hK1, hD1⟩ := hB
  rw [ht] at hP1
  have hK1 := va_K.moved hvm.symm hK1
  obtain ⟨hP, hD⟩ := va_join (wr := [(h0, .inr (2, [.ref q1, .ref q3, .int 0, .int 0, .int 0, .int 0])), (q1, .inl (k2, 6, .inr (.inr (.inr (.inr (va_up (va_up (va_up (fun _ => none) 0 (some q5)) 1 (some q7)) 2 (some q9))))))), (q3, .inr (0, [.int 0, .int 0, .int 1, .int 0, .int 0, .int 0, .int 0, .int 0])), (q5, .inr (0, [.int 0, .int 0, .int 1, .int 0, .int 0, .int 0, .int 0, .int 0])), (q7, .inr (0, [.int 0, .int 0, .int 1, .int 0, .int 0, .int 0, .int 0, .int 0])), (q9, .inr (0, [.int 0, .int 0, .int 1, .int 0, .int 0, .int 0, .int 0, .int 0]))]) (w1 := [(q11, .inr (0, [.int 0, .int 0, .int 1, .int 0, .int 0, .int 0, .int 0, .int 0]))]) hP hD [6] [0, 1, 2, 3, 4, 5] rfl rfl (by decide) (by decide) hk1 hFc hP1 hD1
  have hK := (hK.sub (tys' := [(k2, .object RX0)]) [0] rfl).app hK1
  generalize H1 = H at hP hS ⊢
  have hK : va_K D mx_cl [(k2, .object RX0)] s := hK
  have hP : va_P D mx_cl [(h0, .inr (2, [.ref q1, .ref q3, .int 0, .int 0, .int 0, .int 0])), (q1, .inl (k2, 6, .inr (.inr (.inr (.inr (va_up (va_up (va_up (fun _ => none) 0 (some q5)) 1 (some q7)) 2 (some q9))))))), (q3, .inr (0, [.int 0, .int 0, .int 1, .int 0, .int 0, .int 0, .int 0, .int 0])), (q5, .inr (0, [.int 0, .int 0, .int 1, .int 0, .int 0, .int 0, .int 0, .int 0])), (q7, .inr (0, [.int 0, .int 0, .int 1, .int 0, .int 0, .int 0, .int 0, .int 0])), (q9, .inr (0, [.int 0, .int 0, .int 1, .int 0, .int 0, .int 0, .int 0, .int 0])), (q11, .inr (0, [.int 0, .int 0, .int 1, .int 0, .int 0, .int 0, .int 0, .int 0]))] H := hP
  have hD : va_D A [(h0, .inr (2, [.ref q1, .ref q3, .int 0, .int 0, .int 0, .int 0])), (q1, .inl (k2, 6, .inr (.inr (.inr (.inr (va_up (va_up (va_up (fun _ => none) 0 (some q5)) 1 (some q7)) 2 (some q9))))))), (q3, .inr (0, [.int 0, .int 0, .int 1, .int 0, .int 0, .int 0, .int 0, .int 0])), (q5, .inr (0, [.int 0, .int 0, .int 1, .int 0, .int 0, .int 0, .int 0, .int 0])), (q7, .inr (0, [.int 0, .int 0, .int 1, .int 0, .int 0, .int 0, .int 0, .int 0])), (q9, .inr (0, [.int 0, .int 0, .int 1, .int 0, .int 0, .int 0, .int 0, .int 0])), (q11, .inr (0, [.int 0, .int 0, .int 1, .int 0, .int 0, .int 0, .int 0, .int 0]))] := hD
  refine va_astq (r := (RX0, TX0, 8)) hx hb hK hP hD hS 1 0 6 0 rfl rfl rfl rfl (vp_in_nI (show 3 < 6 by decide) (by decide)) dX2_init_67.1 (fun H locs hP hD hS => ?_)
  have hP : va_P D mx_cl [(h0, .inr (2, [.ref q1, .ref q3, .int 0, .int 0, .int 0, .int 0])), (q1, .inl (k2, 6, .inr (.inr (.inr (.inr (va_up (va_up (va_up (va_up (fun _ => none) 0 (some q5)) 1 (some q7)) 2 (some q9)) 3 (some q11))))))), (q3, .inr (0, [.int 0, .int 0, .int 1, .int 0, .int 0, .int 0, .int 0, .int 0])), (q5, .inr (0, [.int 0, .int 0, .int 1, .int 0, .int 0, .int 0, .int 0, .int 0])), (q7, .inr (0, [.int 0, .int 0, .int 1, .int 0, .int 0, .int 0, .int 0, .int 0])), (q9, .inr (0, [.int 0, .int 0, .int 1, .int 0, .int 0, .int 0, .int 0, .int 0])), (q11, .inr (0, [.int 0, .int 0, .int 1, .int 0, .int 0, .int 0, .int 0, .int 0]))] H := hP
  have hD : va_D A [(h0, .inr (2, [.ref q1, .ref q3, .int 0, .int 0, .int 0, .int 0])), (q1, .inl (k2, 6, .inr (.inr (.inr (.inr (va_up (va_up (va_up (va_up (fun _ => none) 0 (some q5)) 1 (some q7)) 2 (some q9)) 3 (some q11))))))), (q3, .inr (0, [.int 0, .int 0, .int 1, .int 0, .int 0, .int 0, .int 0, .int 0])), (q5, .inr (0, [.int 0, .int 0, .int 1, .int 0, .int 0, .int 0, .int 0, .int 0])), (q7, .inr (0, [.int 0, .int 0, .int 1, .int 0, .int 0, .int 0, .int 0, .int 0])), (q9, .inr (0, [.int 0, .int 0, .int 1, .int 0, .int 0, .int 0, .int 0, .int 0])), (q11, .inr (0, [.int 0, .int 0, .int 1, .int 0, .int 0, .int 0, .int 0, .int 0]))] := hD
  refine lv_iinc (v := 4) (lv' := [(1, .int 4), (0, .ref h0)]) hx hb dX2_init_68.1 hl (k := 0) rfl (by decide) (by decide) rfl (fun ls hl => ?_)
  refine lv_goto (tgt := 46) hx hb dX2_init_71.1 (by decide) ?_
  refine lv_iload_n hx hb dX2_init_46.1 rfl (lv_at hl 0 rfl) ?_
  refine lv_aload_n hx hb dX2_init_47.1 rfl (lv_at hl 1 rfl) ?_
  refine va_get (D := D) (ci := 2) (v := .ref q1) (C := RX2) (T := TX2) (N := 6) hx hb hts kx2 hown hK hP 0 rfl rfl 0 (by decide) (hts _ (mx_in (w := Cond.fieldLink RX2 11 RX2 (TX2 0).2.1 (TX2 0).2.2.1) 117 (by decide +kernel) rfl)) (fun _ h9 => h9) rfl dX2_init_48.1 ?_
  refine va_alen hx hb hK hP 1 0 rfl rfl rfl dX2_init_51.1 ?_
  refine lv_icmp_ge (tgt := 74) hx hb dX2_init_52.1 (by decide) (fun cc12 => ?_) (fun cc12 => ?_)
  · exact absurd (show (6 : Int32) ≤ 4 from cc12) (by decide)
  refine lv_aload_n hx hb dX2_init_55.1 rfl (lv_at hl 1 rfl) ?_
  refine va_get (D := D) (ci := 2) (v := .ref q1) (C := RX2) (T := TX2) (N := 6) hx hb hts kx2 hown hK hP 0 rfl rfl 0 (by decide) (hts _ (mx_in (w := Cond.fieldLink RX2 11 RX2 (TX2 0).2.1 (TX2 0).2.2.1) 117 (by decide +kernel) rfl)) (fun _ h9 => h9) rfl dX2_init_56.1 ?_
  refine lv_iload_n hx hb dX2_init_59.1 rfl (lv_at hl 0 rfl) ?_
  refine va_new (ci := 0) (fs := [.int 0, .int 0, .int 0, .int 0, .int 0, .int 0, .int 0, .int 0]) (C := RX0) (T := TX0) (N := 8) hx hb hts kx0 tyX0 tyX0_ok hown (hts _ (mx_in (w := Cond.classLink RX2 9 RX0) 71 (by decide +kernel) rfl)) (hts _ nx_sX0) (hts _ knX0) hK hP hD hS hA rfl (fun j hj => by rcases (show j = 0 ∨ j = 1 ∨ j = 2 ∨ j = 3 ∨ j = 4 ∨ j = 5 ∨ j = 6 ∨ j = 7 by omega) with rfl | rfl | rfl | rfl | rfl | rfl | rfl | rfl <;> rfl) (Nat.le_of_ble_eq_true rfl) (Nat.le_of_ble_eq_true rfl) dX2_init_60.1 (fun q13 H hP hD hS => ?_)
  have hP : va_P D mx_cl [(h0, .inr (2, [.ref q1, .ref q3, .int 0, .int 0, .int 0, .int 0])), (q1, .inl (k2, 6, .inr (.inr (.inr (.inr (va_up (va_up (va_up (va_up (fun _ => none) 0 (some q5)) 1 (some q7)) 2 (some q9)) 3 (some q11))))))), (q3, .inr (0, [.int 0, .int 0, .int 1, .int 0, .int 0, .int 0, .int 0, .int 0])), (q5, .inr (0, [.int 0, .int 0, .int 1, .int 0, .int 0, .int 0, .int 0, .int 0])), (q7, .inr (0, [.int 0, .int 0, .int 1, .int 0, .int 0, .int 0, .int 0, .int 0])), (q9, .inr (0, [.int 0, .int 0, .int 1, .int 0, .int 0, .int 0, .int 0, .int 0])), (q11, .inr (0, [.int 0, .int 0, .int 1, .int 0, .int 0, .int 0, .int 0, .int 0])), (q13, .inr (0, [.int 0, .int 0, .int 0, .int 0, .int 0, .int 0, .int 0, .int 0]))] H := hP
  have hD : va_D A [(h0, .inr (2, [.ref q1, .ref q3, .int 0, .int 0, .int 0, .int 0])), (q1, .inl (k2, 6, .inr (.inr (.inr (.inr (va_up (va_up (va_up (va_up (fun _ => none) 0 (some q5)) 1 (some q7)) 2 (some q9)) 3 (some q11))))))), (q3, .inr (0, [.int 0, .int 0, .int 1, .int 0, .int 0, .int 0, .int 0, .int 0])), (q5, .inr (0, [.int 0, .int 0, .int 1, .int 0, .int 0, .int 0, .int 0, .int 0])), (q7, .inr (0, [.int 0, .int 0, .int 1, .int 0, .int 0, .int 0, .int 0, .int 0])), (q9, .inr (0, [.int 0, .int 0, .int 1, .int 0, .int 0, .int 0, .int 0, .int 0])), (q11, .inr (0, [.int 0, .int 0, .int 1, .int 0, .int 0, .int 0, .int 0, .int 0])), (q13, .inr (0, [.int 0, .int 0, .int 0, .int 0, .int 0, .int 0, .int 0, .int 0]))] := hD
  refine W.widen (k := 7) (n := 54) (Nat.le_of_ble_eq_true rfl) (Nat.le_of_ble_eq_true rfl) ?_
  refine lv_dup hx hb dX2_init_63.1 rfl ?_
  have hPc := hP.sub (ws' := [(q13, .inr (0, [.int 0, .int 0, .int 0, .int 0, .int 0, .int 0, .int 0, .int 0]))]) [7] rfl
  have hDc := hD.sub (ws' := [(q13, .inr (0, [.int 0, .int 0, .int 0, .int 0, .int 0, .int 0, .int 0, .int 0]))]) [7] (by decide) rfl
  have hKc := hK.sub (tys' := []) [] rfl
  have hFc := va_free (wc := [(q13, .inr (0, [.int 0, .int 0, .int 0, .int 0, .int 0, .int 0, .int 0, .int 0]))]) hD hS hA [7] rfl
  refine va_callv (va_runIN (nL := 2) (As := []) (rest := [.ref q13, .int 4, .ref q1]) ⟨hx, hb, hml, hown, hts⟩ (c_X0 l D q13 H.size) ⟨va_cnB 0 hts (mx_goodc nx_cX0 mx_good) rfl rfl rfl hw.1 (hts _ knX0) nx_yX0 ⟨Nat.le_of_ble_eq_true rfl, Nat.le_of_ble_eq_true rfl⟩, rfl, hts _ nx_iX0⟩ ⟨fun a U g mk q => by obtain ⟨q0, q1, qP, qK, qD⟩ := q; exact ⟨q0, q1, qP, va_K.moved (u := U) (U := U.calling g mk a) (Vm.Alike.refl U.vm) qK, qD⟩, fun U hU hW => ⟨rfl, by rw [hU], by rw [hU]; exact hPc, va_K.moved hW.alike hKc, hDc.weaken (fun _ _ _ _ => trivial)⟩⟩ rfl rfl hl.1 rfl (lv_room (Nat.le_of_ble_eq_true rfl)) dX2_init_64.1 ⟨Nat.le_of_ble_eq_true rfl, Nat.le_of_ble_eq_true rfl⟩) hS (fun q _ h => hFc q h) hFc (fun u t H1 locs ht hvm _ hB hz1 hk1 hS => ?_)
  obtain ⟨hP1, hK1, hD1⟩ := hB
  rw [ht] at hP1
  have hK1 := va_K.moved hvm.symm hK1
  obtain ⟨hP, hD⟩ := va_join (wr := [(h0, .inr (2, [.ref q1, .ref q3, .int 0, .int 0, .int 0, .int 0])), (q1, .inl (k2, 6, .inr (.inr (.inr (.inr (va_up (va_up (va_up (va_up (fun _ => none) 0 (some q5)) 1 (some q7)) 2 (some q9)) 3 (some q11))))))), (q3, .inr (0, [.int 0, .int 0, .int 1, .int 0, .int 0, .int 0, .int 0, .int 0])), (q5, .inr (0, [.int 0, .int 0, .int 1, .int 0, .int 0, .int 0, .int 0, .int 0])), (q7, .inr (0, [.int 0, .int 0, .int 1, .int 0, .int 0, .int 0, .int 0, .int 0])), (q9, .inr (0, [.int 0, .int 0, .int 1, .int 0, .int 0, .int 0, .int 0, .int 0])), (q11, .inr (0, [.int 0, .int 0, .int 1, .int 0, .int 0, .int 0, .int 0, .int 0]))]) (w1 := [(q13, .inr (0, [.int 0, .int 0, .int 1, .int 0, .int 0, .int 0, .int 0, .int 0]))]) hP hD [7] [0, 1, 2, 3, 4, 5, 6] rfl rfl (by decide) (by decide) hk1 hFc hP1 hD1
  have hK := (hK.sub (tys' := [(k2, .object RX0)]) [0] rfl).app hK1
  generalize H1 = H at hP hS ⊢
  have hK : va_K D mx_cl [(k2, .object RX0)] s := hK
  have hP : va_P D mx_cl [(h0, .inr (2, [.ref q1, .ref q3, .int 0, .int 0, .int 0, .int 0])), (q1, .inl (k2, 6, .inr (.inr (.inr (.inr (va_up (va_up (va_up (va_up (fun _ => none) 0 (some q5)) 1 (some q7)) 2 (some q9)) 3 (some q11))))))), (q3, .inr (0, [.int 0, .int 0, .int 1, .int 0, .int 0, .int 0, .int 0, .int 0])), (q5, .inr (0, [.int 0, .int 0, .int 1, .int 0, .int 0, .int 0, .int 0, .int 0])), (q7, .inr (0, [.int 0, .int 0, .int 1, .int 0, .int 0, .int 0, .int 0, .int 0])), (q9, .inr (0, [.int 0, .int 0, .int 1, .int 0, .int 0, .int 0, .int 0, .int 0])), (q11, .inr (0, [.int 0, .int 0, .int 1, .int 0, .int 0, .int 0, .int 0, .int 0])), (q13, .inr (0, [.int 0, .int 0, .int 1, .int 0, .int 0, .int 0, .int 0, .int 0]))] H := hP
  have hD : va_D A [(h0, .inr (2, [.ref q1, .ref q3, .int 0, .int 0, .int 0, .int 0])), (q1, .inl (k2, 6, .inr (.inr (.inr (.inr (va_up (va_up (va_up (va_up (fun _ => none) 0 (some q5)) 1 (some q7)) 2 (some q9)) 3 (some q11))))))), (q3, .inr (0, [.int 0, .int 0, .int 1, .int 0, .int 0, .int 0, .int 0, .int 0])), (q5, .inr (0, [.int 0, .int 0, .int 1, .int 0, .int 0, .int 0, .int 0, .int 0])), (q7, .inr (0, [.int 0, .int 0, .int 1, .int 0, .int 0, .int 0, .int 0, .int 0])), (q9, .inr (0, [.int 0, .int 0, .int 1, .int 0, .int 0, .int 0, .int 0, .int 0])), (q11, .inr (0, [.int 0, .int 0, .int 1, .int 0, .int 0, .int 0, .int 0, .int 0])), (q13, .inr (0, [.int 0, .int 0, .int 1, .int 0, .int 0, .int 0, .int 0, .int 0]))] := hD
  refine va_astq (r := (RX0, TX0, 8)) hx hb hK hP hD hS 1 0 7 0 rfl rfl rfl rfl (vp_in_nI (show 4 < 6 by decide) (by decide)) dX2_init_67.1 (fun H locs hP hD hS => ?_)
  have hP : va_P D mx_cl [(h0, .inr (2, [.ref q1, .ref q3, .int 0, .int 0, .int 0, .int 0])), (q1, .inl (k2, 6, .inr (.inr (.inr (.inr (va_up (va_up (va_up (va_up (va_up (fun _ => none) 0 (some q5)) 1 (some q7)) 2 (some q9)) 3 (some q11)) 4 (some q13))))))), (q3, .inr (0, [.int 0, .int 0, .int 1, .int 0, .int 0, .int 0, .int 0, .int 0])), (q5, .inr (0, [.int 0, .int 0, .int 1, .int 0, .int 0, .int 0, .int 0, .int 0])), (q7, .inr (0, [.int 0, .int 0, .int 1, .int 0, .int 0, .int 0, .int 0, .int 0])), (q9, .inr (0, [.int 0, .int 0, .int 1, .int 0, .int 0, .int 0, .int 0, .int 0])), (q11, .inr (0, [.int 0, .int 0, .int 1, .int 0, .int 0, .int 0, .int 0, .int 0])), (q13, .inr (0, [.int 0, .int 0, .int 1, .int 0, .int 0, .int 0, .int 0, .int 0]))] H := hP
  have hD : va_D A [(h0, .inr (2, [.ref q1, .ref q3, .int 0, .int 0, .int 0, .int 0])), (q1, .inl (k2, 6, .inr (.inr (.inr (.inr (va_up (va_up (va_up (va_up (va_up (fun _ => none) 0 (some q5)) 1 (some q7)) 2 (some q9)) 3 (some q11)) 4 (some q13))))))), (q3, .inr (0, [.int 0, .int 0, .int 1, .int 0, .int 0, .int 0, .int 0, .int 0])), (q5, .inr (0, [.int 0, .int 0, .int 1, .int 0, .int 0, .int 0, .int 0, .int 0])), (q7, .inr (0, [.int 0, .int 0, .int 1, .int 0, .int 0, .int 0, .int 0, .int 0])), (q9, .inr (0, [.int 0, .int 0, .int 1, .int 0, .int 0, .int 0, .int 0, .int 0])), (q11, .inr (0, [.int 0, .int 0, .int 1, .int 0, .int 0, .int 0, .int 0, .int 0])), (q13, .inr (0, [.int 0, .int 0, .int 1, .int 0, .int 0, .int 0, .int 0, .int 0]))] := hD
  refine lv_iinc (v := 5) (lv' := [(1, .int 5), (0, .ref h0)]) hx hb dX2_init_68.1 hl (k := 0) rfl (by decide) (by decide) rfl (fun ls hl => ?_)
  refine lv_goto (tgt := 46) hx hb dX2_init_71.1 (by decide) ?_
  refine lv_iload_n hx hb dX2_init_46.1 rfl (lv_at hl 0 rfl) ?_
  refine lv_aload_n hx hb dX2_init_47.1 rfl (lv_at hl 1 rfl) ?_
  refine va_get (D := D) (ci := 2) (v := .ref q1) (C := RX2) (T := TX2) (N := 6) hx hb hts kx2 hown hK hP 0 rfl rfl 0 (by decide) (hts _ (mx_in (w := Cond.fieldLink RX2 11 RX2 (TX2 0).2.1 (TX2 0).2.2.1) 117 (by decide +kernel) rfl)) (fun _ h9 => h9) rfl dX2_init_48.1 ?_
  refine va_alen hx hb hK hP 1 0 rfl rfl rfl dX2_init_51.1 ?_
  refine lv_icmp_ge (tgt := 74) hx hb dX2_init_52.1 (by decide) (fun cc14 => ?_) (fun cc14 => ?_)
  · exact absurd (show (6 : Int32) ≤ 5 from cc14) (by decide)
  refine lv_aload_n hx hb dX2_init_55.1 rfl (lv_at hl 1 rfl) ?_
  refine va_get (D := D) (ci := 2) (v := .ref q1) (C := RX2) (T := TX2) (N := 6) hx hb hts kx2 hown hK hP 0 rfl rfl 0 (by decide) (hts _ (mx_in (w := Cond.fieldLink RX2 11 RX2 (TX2 0).2.1 (TX2 0).2.2.1) 117 (by decide +kernel) rfl)) (fun _ h9 => h9) rfl dX2_init_56.1 ?_
  refine lv_iload_n hx hb dX2_init_59.1 rfl (lv_at hl 0 rfl) ?_
  refine va_new (ci := 0) (fs := [.int 0, .int 0, .int 0, .int 0, .int 0, .int 0, .int 0, .int 0]) (C := RX0) (T := TX0) (N := 8) hx hb hts kx0 tyX0 tyX0_ok hown (hts _ (mx_in (w := Cond.classLink RX2 9 RX0) 71 (by decide +kernel) rfl)) (hts _ nx_sX0) (hts _ knX0) hK hP hD hS hA rfl (fun j hj => by rcases (show j = 0 ∨ j = 1 ∨ j = 2 ∨ j = 3 ∨ j = 4 ∨ j = 5 ∨ j = 6 ∨ j = 7 by omega) with rfl | rfl | rfl | rfl | rfl | rfl | rfl | rfl <;> rfl) (Nat.le_of_ble_eq_true rfl) (Nat.le_of_ble_eq_true rfl) dX2_init_60.1 (fun q15 H hP hD hS => ?_)
  have hP : va_P D mx_cl [(h0, .inr (2, [.ref q1, .ref q3, .int 0, .int 0, .int 0, .int 0])), (q1, .inl (k2, 6, .inr (.inr (.inr (.inr (va_up (va_up (va_up (va_up (va_up (fun _ => none) 0 (some q5)) 1 (some q7)) 2 (some q9)) 3 (some q11)) 4 (some q13))))))), (q3, .inr (0, [.int 0, .int 0, .int 1, .int 0, .int 0, .int 0, .int 0, .int 0])), (q5, .inr (0, [.int 0, .int 0, .int 1, .int 0, .int 0, .int 0, .int 0, .int 0])), (q7, .inr (0, [.int 0, .int 0, .int 1, .int 0, .int 0, .int 0, .int 0, .int 0])), (q9, .inr (0, [.int 0, .int 0, .int 1, .int 0, .int 0, .int 0, .int 0, .int 0])), (q11, .inr (0, [.int 0, .int 0, .int 1, .int 0, .int 0, .int 0, .int 0, .int 0])), (q13, .inr (0, [.int 0, .int 0, .int 1, .int 0, .int 0, .int 0, .int 0, .int 0])), (q15, .inr (0, [.int 0, .int 0, .int 0, .int 0, .int 0, .int 0, .int 0, .int 0]))] H := hP
  have hD : va_D A [(h0, .inr (2, [.ref q1, .ref q3, .int 0, .int 0, .int 0, .int 0])), (q1, .inl (k2, 6, .inr (.inr (.inr (.inr (va_up (va_up (va_up (va_up (va_up (fun _ => none) 0 (some q5)) 1 (some q7)) 2 (some q9)) 3 (some q11)) 4 (some q13))))))), (q3, .inr (0, [.int 0, .int 0, .int 1, .int 0, .int 0, .int 0, .int 0, .int 0])), (q5, .inr (0, [.int 0, .int 0, .int 1, .int 0, .int 0, .int 0, .int 0, .int 0])), (q7, .inr (0, [.int 0, .int 0, .int 1, .int 0, .int 0, .int 0, .int 0, .int 0])), (q9, .inr (0, [.int 0, .int 0, .int 1, .int 0, .int 0, .int 0, .int 0, .int 0])), (q11, .inr (0, [.int 0, .int 0, .int 1, .int 0, .int 0, .int 0, .int 0, .int 0])), (q13, .inr (0, [.int 0, .int 0, .int 1, .int 0, .int 0, .int 0, .int 0, .int 0])), (q15, .inr (0, [.int 0, .int 0, .int 0, .int 0, .int 0, .int 0, .int 0, .int 0]))] := hD
  refine W.widen (k := 8) (n := 62) (Nat.le_of_ble_eq_true rfl) (Nat.le_of_ble_eq_true rfl) ?_
  refine lv_dup hx hb dX2_init_63.1 rfl ?_
  have hPc := hP.sub (ws' := [(q15, .inr (0, [.int 0, .int 0, .int 0, .int 0, .int 0, .int 0, .int 0, .int 0]))]) [8] rfl
  have hDc := hD.sub (ws' := [(q15, .inr (0, [.int 0, .int 0, .int 0, .int 0, .int 0, .int 0, .int 0, .int 0]))]) [8] (by decide) rfl
  have hKc := hK.sub (tys' := []) [] rfl
  have hFc := va_free (wc := [(q15, .inr (0, [.int 0, .int 0, .int 0, .int 0, .int 0, .int 0, .int 0, .int 0]))]) hD hS hA [8] rfl
  refine va_callv (va_runIN (nL := 2) (As := []) (rest := [.ref q15, .int 5, .ref q1]) ⟨hx, hb, hml, hown, hts⟩ (c_X0 l D q15 H.size) ⟨va_cnB 0 hts (mx_goodc nx_cX0 mx_good) rfl rfl rfl hw.1 (hts _ knX0) nx_yX0 ⟨Nat.le_of_ble_eq_true rfl, Nat.le_of_ble_eq_true rfl⟩, rfl, hts _ nx_iX0⟩ ⟨fun a U g mk q => by obtain ⟨q0, q1, qP, qK, qD⟩ := q; exact ⟨q0, q1, qP, va_K.moved (u := U) (U := U.calling g mk a) (Vm.Alike.refl U.vm) qK, qD⟩, fun U hU hW => ⟨rfl, by rw [hU], by rw [hU]; exact hPc, va_K.moved hW.alike hKc, hDc.weaken (fun _ _ _ _ => trivial)⟩⟩ rfl rfl hl.1 rfl (lv_room (Nat.le_of_ble_eq_true rfl)) dX2_init_64.1 ⟨Nat.le_of_ble_eq_true rfl, Nat.le_of_ble_eq_true rfl⟩) hS (fun q _ h => hFc q h) hFc (fun u t H1 locs ht hvm _ hB hz1 hk1 hS => ?_)
  obtain ⟨hP1, hK1, hD1⟩ := hB
  rw [ht] at hP1
  have hK1 := va_K.moved hvm.symm hK1
  obtain ⟨hP, hD⟩ := va_join (wr := [(h0, .inr (2, [.ref q1, .ref q3, .int 0, .int 0, .int 0, .int 0])), (q1, .inl (k2, 6, .inr (.inr (.inr (.inr (va_up (va_up (va_up (va_up (va_up (fun _ => none) 0 (some q5)) 1 (some q7)) 2 (some q9)) 3 (some q11)) 4 (some q13))))))), (q3, .inr (0, [.int 0, .int 0, .int 1, .int 0, .int 0, .int 0, .int 0, .int 0])), (q5, .inr (0, [.int 0, .int 0, .int 1, .int 0, .int 0, .int 0, .int 0, .int 0])), (q7, .inr (0, [.int 0, .int 0, .int 1, .int 0, .int 0, .int 0, .int 0, .int 0])), (q9, .inr (0, [.int 0, .int 0, .int 1, .int 0, .int 0, .int 0, .int 0, .int 0])), (q11, .inr (0, [.int 0, .int 0, .int 1, .int 0, .int 0, .int 0, .int 0, .int 0])), (q13, .inr (0, [.int 0, .int 0, .int 1, .int 0, .int 0, .int 0, .int 0, .int 0]))]) (w1 := [(q15, .inr (0, [.int 0, .int 0, .int 1, .int 0, .int 0, .int 0, .int 0, .int 0]))]) hP hD [8] [0, 1, 2, 3, 4, 5, 6, 7] rfl rfl (by decide) (by decide) hk1 hFc hP1 hD1
  have hK := (hK.sub (tys' := [(k2, .object RX0)]) [0] rfl).app hK1
  generalize H1 = H at hP hS ⊢
  have hK : va_K D mx_cl [(k2, .object RX0)] s := hK
  have hP : va_P D mx_cl [(h0, .inr (2, [.ref q1, .ref q3, .int 0, .int 0, .int 0, .int 0])), (q1, .inl (k2, 6, .inr (.inr (.inr (.inr (va_up (va_up (va_up (va_up (va_up (fun _ => none) 0 (some q5)) 1 (some q7)) 2 (some q9)) 3 (some q11)) 4 (some q13))))))), (q3, .inr (0, [.int 0, .int 0, .int 1, .int 0, .int 0, .int 0, .int 0, .int 0])), (q5, .inr (0, [.int 0, .int 0, .int 1, .int 0, .int 0, .int 0, .int 0, .int 0])), (q7, .inr (0, [.int 0, .int 0, .int 1, .int 0, .int 0, .int 0, .int 0, .int 0])), (q9, .inr (0, [.int 0, .int 0, .int 1, .int 0, .int 0, .int 0, .int 0, .int 0])), (q11, .inr (0, [.int 0, .int 0, .int 1, .int 0, .int 0, .int 0, .int 0, .int 0])), (q13, .inr (0, [.int 0, .int 0, .int 1, .int 0, .int 0, .int 0, .int 0, .int 0])), (q15, .inr (0, [.int 0, .int 0, .int 1, .int 0, .int 0, .int 0, .int 0, .int 0]))] H := hP
  have hD : va_D A [(h0, .inr (2, [.ref q1, .ref q3, .int 0, .int 0, .int 0, .int 0])), (q1, .inl (k2, 6, .inr (.inr (.inr (.inr (va_up (va_up (va_up (va_up (va_up (fun _ => none) 0 (some q5)) 1 (some q7)) 2 (some q9)) 3 (some q11)) 4 (some q13))))))), (q3, .inr (0, [.int 0, .int 0, .int 1, .int 0, .int 0, .int 0, .int 0, .int 0])), (q5, .inr (0, [.int 0, .int 0, .int 1, .int 0, .int 0, .int 0, .int 0, .int 0])), (q7, .inr (0, [.int 0, .int 0, .int 1, .int 0, .int 0, .int 0, .int 0, .int 0])), (q9, .inr (0, [.int 0, .int 0, .int 1, .int 0, .int 0, .int 0, .int 0, .int 0])), (q11, .inr (0, [.int 0, .int 0, .int 1, .int 0, .int 0, .int 0, .int 0, .int 0])), (q13, .inr (0, [.int 0, .int 0, .int 1, .int 0, .int 0, .int 0, .int 0, .int 0])), (q15, .inr (0, [.int 0, .int 0, .int 1, .int 0, .int 0, .int 0, .int 0, .int 0]))] := hD
  refine va_astq (r := (RX0, TX0, 8)) hx hb hK hP hD hS 1 0 8 0 rfl rfl rfl rfl (vp_in_nI (show 5 < 6 by decide) (by decide)) dX2_init_67.1 (fun H locs hP hD hS => ?_)
  have hP : va_P D mx_cl [(h0, .inr (2, [.ref q1, .ref q3, .int 0, .int 0, .int 0, .int 0])), (q1, .inl (k2, 6, .inr (.inr (.inr (.inr (va_up (va_up (va_up (va_up (va_up (va_up (fun _ => none) 0 (some q5)) 1 (some q7)) 2 (some q9)) 3 (some q11)) 4 (some q13)) 5 (some q15))))))), (q3, .inr (0, [.int 0, .int 0, .int 1, .int 0, .int 0, .int 0, .int 0, .int 0])), (q5, .inr (0, [.int 0, .int 0, .int 1, .int 0, .int 0, .int 0, .int 0, .int 0])), (q7, .inr (0, [.int 0, .int 0, .int 1, .int 0, .int 0, .int 0, .int 0, .int 0])), (q9, .inr (0, [.int 0, .int 0, .int 1, .int 0, .int 0, .int 0, .int 0, .int 0])), (q11, .inr (0, [.int 0, .int 0, .int 1, .int 0, .int 0, .int 0, .int 0, .int 0])), (q13, .inr (0, [.int 0, .int 0, .int 1, .int 0, .int 0, .int 0, .int 0, .int 0])), (q15, .inr (0, [.int 0, .int 0, .int 1, .int 0, .int 0, .int 0, .int 0, .int 0]))] H := hP
  have hD : va_D A [(h0, .inr (2, [.ref q1, .ref q3, .int 0, .int 0, .int 0, .int 0])), (q1, .inl (k2, 6, .inr (.inr (.inr (.inr (va_up (va_up (va_up (va_up (va_up (va_up (fun _ => none) 0 (some q5)) 1 (some q7)) 2 (some q9)) 3 (some q11)) 4 (some q13)) 5 (some q15))))))), (q3, .inr (0, [.int 0, .int 0, .int 1, .int 0, .int 0, .int 0, .int 0, .int 0])), (q5, .inr (0, [.int 0, .int 0, .int 1, .int 0, .int 0, .int 0, .int 0, .int 0])), (q7, .inr (0, [.int 0, .int 0, .int 1, .int 0, .int 0, .int 0, .int 0, .int 0])), (q9, .inr (0, [.int 0, .int 0, .int 1, .int 0, .int 0, .int 0, .int 0, .int 0])), (q11, .inr (0, [.int 0, .int 0, .int 1, .int 0, .int 0, .int 0, .int 0, .int 0])), (q13, .inr (0, [.int 0, .int 0, .int 1, .int 0, .int 0, .int 0, .int 0, .int 0])), (q15, .inr (0, [.int 0, .int 0, .int 1, .int 0, .int 0, .int 0, .int 0, .int 0]))] := hD
  refine lv_iinc (v := 6) (lv' := [(1, .int 6), (0, .ref h0)]) hx hb dX2_init_68.1 hl (k := 0) rfl (by decide) (by decide) rfl (fun ls hl => ?_)
  refine lv_goto (tgt := 46) hx hb dX2_init_71.1 (by decide) ?_
  refine lv_iload_n hx hb dX2_init_46.1 rfl (lv_at hl 0 rfl) ?_
  refine lv_aload_n hx hb dX2_init_47.1 rfl (lv_at hl 1 rfl) ?_
  refine va_get (D := D) (ci := 2) (v := .ref q1) (C := RX2) (T := TX2) (N := 6) hx hb hts kx2 hown hK hP 0 rfl rfl 0 (by decide) (hts _ (mx_in (w := Cond.fieldLink RX2 11 RX2 (TX2 0).2.1 (TX2 0).2.2.1) 117 (by decide +kernel) rfl)) (fun _ h9 => h9) rfl dX2_init_48.1 ?_
  refine va_alen hx hb hK hP 1 0 rfl rfl rfl dX2_init_51.1 ?_
  refine lv_icmp_ge (tgt := 74) hx hb dX2_init_52.1 (by decide) (fun cc16 => ?_) (fun cc16 => ?_)
  rotate_left
  · exact absurd (show (6 : Int32) ≤ 6 by decide) cc16
  obtain ⟨rf, erf⟩ : ∃ rf : Nat → Nat, rf = fun j => [q1, q3, q5, q7, q9, q11, q13, q15].getD j 0 := ⟨_, rfl⟩
  have hP := nx_fix (g := fun i => some (rf (2 + i))) 1 hP rfl (fun i hi => by rcases (show i = 0 ∨ i = 1 ∨ i = 2 ∨ i = 3 ∨ i = 4 ∨ i = 5 by omega) with rfl | rfl | rfl | rfl | rfl | rfl <;> subst erf <;> rfl)
  have hD := nx_fixD (e := .inl (k2, 6, .inr (.inr (.inr (.inr (fun i => some (rf (2 + i)))))))) 1 hD rfl
  have hP : va_P D mx_cl [(h0, .inr (2, [.ref q1, .ref q3, .int 0, .int 0, .int 0, .int 0])), (q1, .inl (k2, 6, .inr (.inr (.inr (.inr (fun i => some (rf (2 + i)))))))), (q3, .inr (0, [.int 0, .int 0, .int 1, .int 0, .int 0, .int 0, .int 0, .int 0])), (q5, .inr (0, [.int 0, .int 0, .int 1, .int 0, .int 0, .int 0, .int 0, .int 0])), (q7, .inr (0, [.int 0, .int 0, .int 1, .int 0, .int 0, .int 0, .int 0, .int 0])), (q9, .inr (0, [.int 0, .int 0, .int 1, .int 0, .int 0, .int 0, .int 0, .int 0])), (q11, .inr (0, [.int 0, .int 0, .int 1, .int 0, .int 0, .int 0, .int 0, .int 0])), (q13, .inr (0, [.int 0, .int 0, .int 1, .int 0, .int 0, .int 0, .int 0, .int 0])), (q15, .inr (0, [.int 0, .int 0, .int 1, .int 0, .int 0, .int 0, .int 0, .int 0]))] H := hP
  have hD : va_D A [(h0, .inr (2, [.ref q1, .ref q3, .int 0, .int 0, .int 0, .int 0])), (q1, .inl (k2, 6, .inr (.inr (.inr (.inr (fun i => some (rf (2 + i)))))))), (q3, .inr (0, [.int 0, .int 0, .int 1, .int 0, .int 0, .int 0, .int 0, .int 0])), (q5, .inr (0, [.int 0, .int 0, .int 1, .int 0, .int 0, .int 0, .int 0, .int 0])), (q7, .inr (0, [.int 0, .int 0, .int 1, .int 0, .int 0, .int 0, .int 0, .int 0])), (q9, .inr (0, [.int 0, .int 0, .int 1, .int 0, .int 0, .int 0, .int 0, .int 0])), (q11, .inr (0, [.int 0, .int 0, .int 1, .int 0, .int 0, .int 0, .int 0, .int 0])), (q13, .inr (0, [.int 0, .int 0, .int 1, .int 0, .int 0, .int 0, .int 0, .int 0])), (q15, .inr (0, [.int 0, .int 0, .int 1, .int 0, .int 0, .int 0, .int 0, .int 0]))] := hD
  have e0 : q1 = rf 0 := by subst erf; rfl
  have e1 : q3 = rf 1 := by subst erf; rfl
  have e2 : q5 = rf 2 := by subst erf; rfl
  have e3 : q7 = rf 3 := by subst erf; rfl
  have e4 : q9 = rf 4 := by subst erf; rfl
  have e5 : q11 = rf 5 := by subst erf; rfl
  have e6 : q13 = rf 6 := by subst erf; rfl
  have e7 : q15 = rf 7 := by subst erf; rfl
  rw [e0, e1, e2, e3, e4, e5, e6, e7] at hP hD
  have hP9 := hP.sub (ws' := [(h0, .inr (2, [.ref (rf 0), .ref (rf 1), .int 0, .int 0, .int 0, .int 0])), (rf 0, .inl (k2, 6, .inr (.inr (.inr (.inr (fun i => some (rf (2 + i)))))))), (rf 1, .inr (0, [.int 0, .int 0, .int 1, .int 0, .int 0, .int 0, .int 0, .int 0])), (rf 2, .inr (0, [.int 0, .int 0, .int 1, .int 0, .int 0, .int 0, .int 0, .int 0])), (rf 3, .inr (0, [.int 0, .int 0, .int 1, .int 0, .int 0, .int 0, .int 0, .int 0])), (rf 4, .inr (0, [.int 0, .int 0, .int 1, .int 0, .int 0, .int 0, .int 0, .int 0])), (rf 5, .inr (0, [.int 0, .int 0, .int 1, .int 0, .int 0, .int 0, .int 0, .int 0])), (rf 6, .inr (0, [.int 0, .int 0, .int 1, .int 0, .int 0, .int 0, .int 0, .int 0])), (rf 7, .inr (0, [.int 0, .int 0, .int 1, .int 0, .int 0, .int 0, .int 0, .int 0]))]) [0, 1, 2, 3, 4, 5, 6, 7, 8] rfl
  have hD9 := hD.sub (ws' := [(h0, .inr (2, [.ref (rf 0), .ref (rf 1), .int 0, .int 0, .int 0, .int 0])), (rf 0, .inl (k2, 6, .inr (.inr (.inr (.inr (fun i => some (rf (2 + i)))))))), (rf 1, .inr (0, [.int 0, .int 0, .int 1, .int 0, .int 0, .int 0, .int 0, .int 0])), (rf 2, .inr (0, [.int 0, .int 0, .int 1, .int 0, .int 0, .int 0, .int 0, .int 0])), (rf 3, .inr (0, [.int 0, .int 0, .int 1, .int 0, .int 0, .int 0, .int 0, .int 0])), (rf 4, .inr (0, [.int 0, .int 0, .int 1, .int 0, .int 0, .int 0, .int 0, .int 0])), (rf 5, .inr (0, [.int 0, .int 0, .int 1, .int 0, .int 0, .int 0, .int 0, .int 0])), (rf 6, .inr (0, [.int 0, .int 0, .int 1, .int 0, .int 0, .int 0, .int 0, .int 0])), (rf 7, .inr (0, [.int 0, .int 0, .int 1, .int 0, .int 0, .int 0, .int 0, .int 0]))]) [0, 1, 2, 3, 4, 5, 6, 7, 8] (by decide +kernel) rfl
  have hK9 := hK.sub (tys' := [(k2, .object RX0)]) [0] rfl
  exact W.vret hx hb hr (fun t ht hW => ⟨⟨(rf, k2), rfl, trivial, by rw [ht]; exact hP9, va_K.moved hW.alike hK9, hD9⟩, hS.F ht⟩) hS.2.2 dX2_init_74.1
