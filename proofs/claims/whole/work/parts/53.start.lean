/-! ===== THE LAW, from its entry ===== -/
theorem nx_get1 {D : va_G} {rf : Nat → Nat} {kI kQ : ClassId} {e : Nat × va_E} : (nx_C D rf kI kQ ++ [e])[35]? = some e := by
  have hl : (nx_C D rf kI kQ).length = 35 := by simp [nx_C]
  rw [List.getElem?_append_right (by rw [hl]; omega), hl]
  rfl
theorem nx_getC {D : va_G} {rf : Nat → Nat} {kI kQ : ClassId} {e : Nat × va_E} {k : Nat} (h : k < 35) : (nx_C D rf kI kQ ++ [e])[k]? = (nx_C D rf kI kQ)[k]? := List.getElem?_append_left (by simpa [nx_C] using h)
theorem nx_sub {D : va_G} {rf : Nat → Nat} {kI kQ : ClassId} {e : Nat × va_E} : (List.range 35).map (fun i => (nx_C D rf kI kQ ++ [e])[i]?) = (nx_C D rf kI kQ).map some := by
  refine List.ext_getElem? fun k => ?_
  have hl : (nx_C D rf kI kQ).length = 35 := by simp [nx_C]
  by_cases h : k < 35
  · rw [List.getElem?_map, List.getElem?_range h, List.getElem?_map]
    show some ((nx_C D rf kI kQ ++ [e])[k]?) = _
    rw [nx_getC h, List.getElem?_eq_getElem (by omega)]
    rfl
  · rw [List.getElem?_eq_none (by simp; omega), List.getElem?_eq_none (by simp [hl]; omega)]
set_option maxHeartbeats 4000000 in
set_option maxRecDepth 100000 in
theorem whole_start {p : Program} {e : Env} {s : State} {m : MethodId} {below : List Frame} {meth : Method} {c : Code} (l : Launch) (hflags : l.flags = flags0) {b L : Nat} {xs : Nat → Int32} (hL : L ≤ 2560) (C0 : lw_At p s m meth c b L xs) : W p l e room_1 s m #[Value.ref b] below meth c s.heap [] 0 0 (lw_Z below #[Value.ref b] s) (entryFrame m ([Value.ref b] : List Value).toArray 4) := by
  obtain ⟨hx, hb, hr, hml, hown, hts0, hX, hbl, hlocks, hgv⟩ := id C0
  have hts : ∀ w ∈ mx_tbl, w.before #[Value.ref b] s = true := fun w hw => hts0 w (List.mem_filter.mp hw).1
  have hA : ∀ q : Nat, s.heap.size ≤ q → (fun q : Nat => s.heap.size ≤ q) q := fun _ h => h
  have hw : nx_W s := ⟨va_Nw.of rfl (hts0 (.methodLinkNest RX2 17 yX0_init RX3) (List.mem_of_getElem? (i := 74) (by decide +kernel))), va_AO.of (hts0 (.arrayOver (.object RX0)) (List.mem_of_getElem? (i := 72) (by decide +kernel)))⟩
  obtain ⟨c0, iS0, hKn0⟩ := u_known (C := RX0) (T := TX0) (N := 8) (n := 8) hts kx0 (hts _ nx_sX0)
  obtain ⟨c1, iS1, hKn1⟩ := u_known (C := RX1) (T := TX1) (N := 2) (n := 2) hts kx1 (hts _ nx_sX1)
  obtain ⟨c2, iS2, hKn2⟩ := u_known (C := RX2) (T := TX2) (N := 6) (n := 6) hts kx2 (hts _ nx_sX2)
  obtain ⟨c3, iS3, hKn3⟩ := u_known (C := RX3) (T := TX3) (N := 8) (n := 8) hts kx3 (hts _ nx_sX3)
  obtain ⟨c4, iS4, hKn4⟩ := u_known (C := RX4) (T := TX4) (N := 13) (n := 13) hts kx4 (hts _ nx_sX4)
  obtain ⟨dC, dI, hKc⟩ : ∃ (dC : Nat → ClassId) (dI : Nat → Nat → Nat), ∀ (k : Nat) (q : vw_C), mx_cl[k]? = some q → u_Kn s q.1 q.2.1 q.2.2 (dC k) (dI k) := by
    refine ⟨fun k => if k = 0 then c0 else if k = 1 then c1 else if k = 2 then c2 else if k = 3 then c3 else c4, fun k => if k = 0 then iS0 else if k = 1 then iS1 else if k = 2 then iS2 else if k = 3 then iS3 else iS4, ?_⟩
    intro k q hq
    match k, hq with
    | 0, hq => cases hq; exact hKn0
    | 1, hq => cases hq; exact hKn1
    | 2, hq => cases hq; exact hKn2
    | 3, hq => cases hq; exact hKn3
    | 4, hq => cases hq; exact hKn4
    | k + 5, hq => simp [mx_cl] at hq
  obtain ⟨D, eD⟩ : ∃ D : va_G, D = (dC, dI) := ⟨_, rfl⟩
  have hS : va_S (fun q : Nat => s.heap.size ≤ q) s.heap s.heap [] := va_S.rf
  have hK : va_K D mx_cl [] s := ⟨fun k q h => by rw [eD]; exact hKc k q h, fun k q h => by simp at h⟩
  clear hKc eD
  have hP : va_P D mx_cl [] s.heap := fun k q h => by simp at h
  have hD : va_D (fun q : Nat => s.heap.size ≤ q) [] := ⟨fun i j p q h => by simp at h, fun k q h => by simp at h⟩
  have hl := lv_entry ([.ref b]) (n := 4) (Nat.le_of_ble_eq_true rfl)
  rw [lg_entry_eq]
  generalize (lg_sl ([.ref b]) ++ List.replicate (4 - (lg_sl ([.ref b])).length) Slot.unset).toArray = ls at hl ⊢
  have hl : lv_has ls 4 [(0, .ref b)] := hl
  refine va_new (ci := 3) (fs := [.null, .null, .null, .int 0, .null, .null, .null, .null]) (C := RX3) (T := TX3) (N := 8) hx hb hts kx3 tyX3 tyX3_ok hown (hts _ (mx_in (w := Cond.classLink R_law 7 RX3) 57 (by decide +kernel) rfl)) (hts _ nx_sX3) (hts _ knX3) hK hP hD hS hA rfl (fun j hj => by rcases (show j = 0 ∨ j = 1 ∨ j = 2 ∨ j = 3 ∨ j = 4 ∨ j = 5 ∨ j = 6 ∨ j = 7 by omega) with rfl | rfl | rfl | rfl | rfl | rfl | rfl | rfl <;> rfl) (Nat.le_of_ble_eq_true rfl) (Nat.le_of_ble_eq_true rfl) dL_0 (fun q3 H hP hD hS => ?_)
  have hP : va_P D mx_cl [(q3, .inr (3, [.null, .null, .null, .int 0, .null, .null, .null, .null]))] H := hP
  have hD : va_D (fun q : Nat => s.heap.size ≤ q) [(q3, .inr (3, [.null, .null, .null, .int 0, .null, .null, .null, .null]))] := hD
  refine W.widen (k := 1) (n := 8) (Nat.le_of_ble_eq_true rfl) (Nat.le_of_ble_eq_true rfl) ?_
  refine lv_dup hx hb dL_3 rfl ?_
  have hPc := hP.sub (ws' := [(q3, .inr (3, [.null, .null, .null, .int 0, .null, .null, .null, .null]))]) [0] rfl
  have hDc := hD.sub (ws' := [(q3, .inr (3, [.null, .null, .null, .int 0, .null, .null, .null, .null]))]) [0] (by decide) rfl
  have hKc := hK.sub (tys' := []) [] rfl
  have hFc := va_free (wc := [(q3, .inr (3, [.null, .null, .null, .int 0, .null, .null, .null, .null]))]) hD hS hA [0] rfl
  refine va_callv (va_runI (own := R_law) (As := []) (rest := [.ref q3]) ⟨hx, hb, hml, hown, hts⟩ (c_X3 l D q3 H.size) (cwI 0 hts (mx_goodc nx_cX3 mx_good) rfl rfl rfl (hts _ knX3) (hts _ (mx_in (w := Cond.methodLink R_law 9 yX3_init) 59 (by decide +kernel) rfl)) (hts _ nx_iX3) rfl nx_yX3 ⟨Nat.le_of_ble_eq_true rfl, Nat.le_of_ble_eq_true rfl⟩) ⟨fun a U g mk q => by obtain ⟨q0, q1, qP, qK, qD, qW⟩ := q; exact ⟨q0, q1, qP, va_K.moved (u := U) (U := U.calling g mk a) (Vm.Alike.refl U.vm) qK, qD, qW.blind⟩, fun U hU hW => ⟨rfl, by rw [hU], by rw [hU]; exact hPc, va_K.moved hW.alike hKc, hDc.weaken (fun _ _ _ _ => trivial), hw.warm hW⟩⟩ rfl rfl hl.1 rfl (lv_room (Nat.le_of_ble_eq_true rfl)) dL_4 ⟨Nat.le_of_ble_eq_true rfl, Nat.le_of_ble_eq_true rfl⟩) hS (fun q _ h => hFc q h) hFc (fun u t H1 locs ht hvm h3 hB hz1 hk1 hS => ?_)
  obtain ⟨rf, kI, kQ⟩ := u
  obtain ⟨hP1, hK1, hD1⟩ := hB
  rw [ht] at hP1
  have hK1 := va_K.moved hvm.symm hK1
  obtain ⟨hP, hD⟩ := va_join (wr := []) (w1 := nx_C D rf kI kQ) hP hD [0] [] rfl rfl (by decide) (by decide) hk1 hFc hP1 hD1
  have hK : va_K D mx_cl [(kI, .int), (kQ, .object RX0)] s := (hK.sub (tys' := []) [] rfl).app hK1
  clear hk1 hz1 ht hP1 hD1 hPc hDc hFc hKc hK1 hvm
  have h3 : rf 0 = q3 := h3
  have hP : va_P D mx_cl (nx_C D rf kI kQ) H1 := hP
  have hD : va_D (fun q : Nat => s.heap.size ≤ q) (nx_C D rf kI kQ) := hD
  refine W.widen (k := 35) (n := 418) (Nat.le_of_ble_eq_true rfl) (Nat.le_of_ble_eq_true rfl) ?_
  refine lv_astore_n (lv' := [(1, .ref q3), (0, .ref b)]) hx hb dL_7 rfl hl (by decide) rfl (fun ls hl => ?_)
  refine va_new (ci := 4) (fs := [.null, .null, .null, .null, .int 0, .null, .null, .null, .int 0, .int 0, .int 0, .null, .int 0]) (C := RX4) (T := TX4) (N := 13) hx hb hts kx4 tyX4 tyX4_ok hown (hts _ (mx_in (w := Cond.classLink R_law 10 RX4) 591 (by decide +kernel) rfl)) (hts _ nx_sX4) (hts _ knX4) hK hP hD hS hA rfl (fun j hj => by rcases (show j = 0 ∨ j = 1 ∨ j = 2 ∨ j = 3 ∨ j = 4 ∨ j = 5 ∨ j = 6 ∨ j = 7 ∨ j = 8 ∨ j = 9 ∨ j = 10 ∨ j = 11 ∨ j = 12 by omega) with rfl | rfl | rfl | rfl | rfl | rfl | rfl | rfl | rfl | rfl | rfl | rfl | rfl <;> rfl) (Nat.le_of_ble_eq_true rfl) (Nat.le_of_ble_eq_true rfl) dL_8 (fun q4 H hP hD hS => ?_)
  refine W.widen (k := 36) (n := 431) (Nat.le_of_ble_eq_true rfl) (Nat.le_of_ble_eq_true rfl) ?_
  refine lv_dup hx hb dL_11 rfl ?_
  have hg1 : ([35] : List Nat).map (fun i => (nx_C D rf kI kQ ++ [(q4, .inr (4, [.null, .null, .null, .null, .int 0, .null, .null, .null, .int 0, .int 0, .int 0, .null, .int 0]))])[i]?) = [((q4, .inr (4, [.null, .null, .null, .null, .int 0, .null, .null, .null, .int 0, .int 0, .int 0, .null, .int 0])) : Nat × va_E)].map some := congrArg (fun x => [x]) nx_get1
  have hPc : va_P D mx_cl [(q4, .inr (4, [.null, .null, .null, .null, .int 0, .null, .null, .null, .int 0, .int 0, .int 0, .null, .int 0]))] H := hP.by (fun k => 35) (fun k q hq => by
    have hk : k < 1 := (List.getElem?_eq_some_iff.mp hq).1
    rw [show k = 0 by omega] at hq
    rw [nx_get1]; exact hq)
  have hDc := hD.sub (ws' := [(q4, .inr (4, [.null, .null, .null, .null, .int 0, .null, .null, .null, .int 0, .int 0, .int 0, .null, .int 0]))]) [35] (by decide) hg1
  have hKc := hK.sub (tys' := []) [] rfl
  have hFc := va_free (wc := [(q4, .inr (4, [.null, .null, .null, .null, .int 0, .null, .null, .null, .int 0, .int 0, .int 0, .null, .int 0]))]) hD hS hA [35] hg1
  refine va_callv (va_runI (own := R_law) (As := []) (rest := [.ref q4]) ⟨hx, hb, hml, hown, hts⟩ (c_X4 l D q4 H.size) (cwI 0 hts (mx_goodc nx_cX4 mx_good) rfl rfl rfl (hts _ knX4) (hts _ (mx_in (w := Cond.methodLink R_law 12 yX4_init) 593 (by decide +kernel) rfl)) (hts _ nx_iX4) rfl nx_yX4 ⟨Nat.le_of_ble_eq_true rfl, Nat.le_of_ble_eq_true rfl⟩) ⟨fun a U g mk q => by obtain ⟨q0, q1, qP, qK, qD⟩ := q; exact ⟨q0, q1, qP, va_K.moved (u := U) (U := U.calling g mk a) (Vm.Alike.refl U.vm) qK, qD⟩, fun U hU hW => ⟨rfl, by rw [hU], by rw [hU]; exact hPc, va_K.moved hW.alike hKc, hDc.weaken (fun _ _ _ _ => trivial)⟩⟩ rfl rfl hl.1 rfl (lv_room (Nat.le_of_ble_eq_true rfl)) dL_12 ⟨Nat.le_of_ble_eq_true rfl, Nat.le_of_ble_eq_true rfl⟩) hS (fun q _ h => hFc q h) hFc (fun u t H2 locs ht hvm h4 hB hz1 hk1 hS => ?_)
  obtain ⟨rg, kJ⟩ := u
  obtain ⟨hP1, hK1, hD1⟩ := hB
  rw [ht] at hP1
  have hK1 := va_K.moved hvm.symm hK1
  obtain ⟨hP, hD⟩ := va_join (wr := nx_C D rf kI kQ) (w1 := nx_M D rg kJ) hP hD [35] (List.range 35) hg1 nx_sub (by decide +kernel) (by decide) hk1 hFc hP1 hD1
  have hK : va_K D mx_cl [(kI, .int), (kQ, .object RX0), (kJ, .int)] s := hK.app hK1
  obtain rfl : kI = kJ := (nx_one hK 0 2 rfl rfl).symm
  have h4 : rg 0 = q4 := h4
  refine W.widen (k := 44) (n := 722) (Nat.le_of_ble_eq_true rfl) (Nat.le_of_ble_eq_true rfl) ?_
  refine lv_astore_n (lv' := [(2, .ref q4), (1, .ref q3), (0, .ref b)]) hx hb dL_15 rfl hl (by decide) rfl (fun ls hl => ?_)
  refine lv_iconst (v := 0) hx hb dL_16 (by decide) ?_
  refine lv_istore_n (lv' := [(3, .int 0), (2, .ref q4), (1, .ref q3), (0, .ref b)]) hx hb dL_17 rfl hl (by decide) rfl (fun ls hl => ?_)
  have hGG : LOK (p, l, e, s, m, below, meth, c, b, L, xs, (D, nx_rf rf rg, kI, kQ)) := ⟨C0, hL, hK.sub [0, 1] rfl, nx_inj hD, nx_low hD⟩
  exact lw_loop hGG (L + 1) 0 nx_σ nx_SI (Nat.zero_le _) (by show L - 0 ≤ L + 1; omega) H2 locs ls (nx_P hP) hS (by
    show lv_has ls 4 [(3, .int (nI 0)), (2, .ref (nx_rf rf rg 35)), (1, .ref (nx_rf rf rg 0)), (0, .ref b)]
    rw [nx_rfb (by omega), nx_rfa (by omega), h3, h4]
    exact hl)
