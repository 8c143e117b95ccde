set_option maxHeartbeats 4000000 in
theorem qX3_peoples {E : mx_E} {σ : Mem} {n : Nat} {r : Row} (hN : NW σ) (hT : TI σ 1 n r) (hw : wf n r) (house u : Int32) : MX3_peoples E 1 [mx_rf E 0, .int house, .int u] σ (mx_i (fun v τ => (zt_set n r house u 3 30).1 = v ∧ Sz n (zt_set n r house u 3 30).2.2 (zt_set n r house u 3 30).2.1 σ τ)) := by
  refine MM.of (lv := [(0, mx_rf E 0), (1, .int house), (2, .int u)]) kpX3 rfl (Nat.le_of_ble_eq_true rfl) rfl ?_
  have hn6 := hw.1
  refine x_aload_n 0 dX3_peoples_0 rfl ?_
  refine gfX3_10 dX3_peoples_1 ?_
  refine x_iload_n 1 dX3_peoples_4 rfl ?_
  refine clX3_122 (qX2_has (by decide) (by decide) hT.1 house) (by decide) (by decide) (by decide) rfl dX3_peoples_5 (fun r5 τ5 h5 => ?_)
  obtain ⟨rfl, rfl⟩ := h5
  refine x_if_ne dX3_peoples_8 (fun c8 => ?_) (fun c8 => ?_)
  · replace c8 := zb_1 c8
    obtain ⟨h, hh, rfl⟩ := f_inN_t (by omega) c8
    refine x_iload_n 2 dX3_peoples_17 rfl ?_
    refine x_if_ge dX3_peoples_18 (fun c18 => ?_) (fun c18 => ?_)
    · refine x_iload_n 2 dX3_peoples_28 rfl ?_
      refine x_bipush (v := 30) dX3_peoples_29 (by decide) ?_
      refine x_icmp_le dX3_peoples_31 (fun c31 => ?_) (fun c31 => ?_)
      · refine x_aload_n 0 dX3_peoples_41 rfl ?_
        refine gfX3_10 dX3_peoples_42 ?_
        refine x_iload_n 1 dX3_peoples_45 rfl ?_
        refine clX3_125 (qX2_at (by decide) (by decide) hT.1 hn6 hh) (by decide) (by decide) (by decide) rfl dX3_peoples_46 (fun r46 τ46 h46 => ?_)
        obtain ⟨rfl, rfl⟩ := h46
        refine x_astore_n (lv' := [(3, mx_rf E (4 + 6 * 1 + h)), (0, mx_rf E 0), (1, .int (nI h)), (2, .int u)]) dX3_peoples_49 rfl (by decide) rfl ?_
        refine x_aload_n 0 dX3_peoples_50 rfl ?_
        refine gfX3_128 (by omega) (by omega) dX3_peoples_51 ?_
        refine x_top (show σ (4 + 6 * 1 + h) 3 = r (6 + 6 * h + 3) from (hT.2.2.2.2 _ hh).1 3 (by decide)) ?_
        refine x_istore (lv' := [(4, .int (r (6 + 6 * h + 3))), (3, mx_rf E (4 + 6 * 1 + h)), (0, mx_rf E 0), (1, .int (nI h)), (2, .int u)]) dX3_peoples_54 rfl (by decide) rfl ?_
        refine x_aload_n 1 dX3_peoples_56 rfl ?_
        refine x_iload_n 4 dX3_peoples_57 rfl ?_
        refine pfX3_128 (by omega) (by omega) dX3_peoples_58 ?_
        have hT58 : TI (mx_up σ (4 + 6 * 1 + h) 3 u) 1 n (upd r (6 + 6 * h + 3) u) := hT.fld (by decide) hh (by decide)
        have hO58 : Off 1 σ (mx_up σ (4 + 6 * 1 + h) 3 u) := Off.rf.up (inT_h (by omega))
        refine x_iload 0 dX3_peoples_61 rfl ?_
        exact x_iret dX3_peoples_63 (by rw [show zt_set n r (nI h) u 3 30 = ((r (6 + 6 * h + 3) : Int32), 0, (upd r (6 + 6 * h + 3) u)) from by simp only [zt_set, c8, c18, (Int32.not_lt.mpr c18), c31, (Int32.not_lt.mpr c31), show nI 30 = (30 : Int32) from rfl, nI_clamp (show h < 2 ^ 31 by omega), reduceIte, Bool.false_eq_true, Bool.true_eq_false, Bool.true_and, Bool.false_and, Bool.and_true, Bool.and_false, decide_eq_true_eq, decide_true, decide_false, not_true_eq_false, not_false_eq_true, zbT, zbF]]; exact ⟨rfl, Sz.ok hT58 hO58⟩)
      · refine x_aload_n 0 dX3_peoples_34 rfl ?_
        refine x_bipush (v := -6) dX3_peoples_35 (by decide) ?_
        refine clX3_49 (qX3_refuse 6 (by decide) (by decide)) (by decide) rfl dX3_peoples_37 (fun r37 τ37 h37 => ?_)
        obtain ⟨rfl, rfl⟩ := h37
        exact x_iret dX3_peoples_40 (by rw [show zt_set n r (nI h) u 3 30 = ((-6 : Int32), 6, r) from by simp only [zt_set, c8, c18, (Int32.not_lt.mpr c18), c31, (Int32.not_le.mp c31), show nI 30 = (30 : Int32) from rfl, nI_clamp (show h < 2 ^ 31 by omega), reduceIte, Bool.false_eq_true, Bool.true_eq_false, Bool.true_and, Bool.false_and, Bool.and_true, Bool.and_false, decide_eq_true_eq, decide_true, decide_false, not_true_eq_false, not_false_eq_true, zbT, zbF]]; exact ⟨rfl, Sz.no hT⟩)
    · refine x_aload_n 0 dX3_peoples_21 rfl ?_
      refine x_bipush (v := -4) dX3_peoples_22 (by decide) ?_
      refine clX3_49 (qX3_refuse 4 (by decide) (by decide)) (by decide) rfl dX3_peoples_24 (fun r24 τ24 h24 => ?_)
      obtain ⟨rfl, rfl⟩ := h24
      exact x_iret dX3_peoples_27 (by rw [show zt_set n r (nI h) u 3 30 = ((-4 : Int32), 4, r) from by simp only [zt_set, c8, c18, (Int32.not_le.mp c18), show nI 30 = (30 : Int32) from rfl, nI_clamp (show h < 2 ^ 31 by omega), reduceIte, Bool.false_eq_true, Bool.true_eq_false, Bool.true_and, Bool.false_and, Bool.and_true, Bool.and_false, decide_eq_true_eq, decide_true, decide_false, not_true_eq_false, not_false_eq_true, zbT, zbF]]; exact ⟨rfl, Sz.no hT⟩)
  · replace c8 := zb_0 c8
    refine x_aload_n 0 dX3_peoples_11 rfl ?_
    refine x_iconst (v := -1) dX3_peoples_12 (by decide) ?_
    refine clX3_49 (qX3_refuse 1 (by decide) (by decide)) (by decide) rfl dX3_peoples_13 (fun r13 τ13 h13 => ?_)
    obtain ⟨rfl, rfl⟩ := h13
    exact x_iret dX3_peoples_16 (by rw [show zt_set n r house u 3 30 = ((-1 : Int32), 1, r) from by simp only [zt_set, c8, show nI 30 = (30 : Int32) from rfl, reduceIte, Bool.false_eq_true, Bool.true_eq_false, Bool.true_and, Bool.false_and, Bool.and_true, Bool.and_false, decide_eq_true_eq, decide_true, decide_false, not_true_eq_false, not_false_eq_true, zbT, zbF]]; exact ⟨rfl, Sz.no hT⟩)

set_option maxHeartbeats 4000000 in
theorem qX3_dents {E : mx_E} {σ : Mem} {n : Nat} {r : Row} (hN : NW σ) (hT : TI σ 1 n r) (hw : wf n r) (house u : Int32) : MX3_dents E 1 [mx_rf E 0, .int house, .int u] σ (mx_i (fun v τ => (zt_set n r house u 5 9).1 = v ∧ Sz n (zt_set n r house u 5 9).2.2 (zt_set n r house u 5 9).2.1 σ τ)) := by
  refine MM.of (lv := [(0, mx_rf E 0), (1, .int house), (2, .int u)]) kpX3 rfl (Nat.le_of_ble_eq_true rfl) rfl ?_
  have hn6 := hw.1
  refine x_aload_n 0 dX3_dents_0 rfl ?_
  refine gfX3_10 dX3_dents_1 ?_
  refine x_iload_n 1 dX3_dents_4 rfl ?_
  refine clX3_122 (qX2_has (by decide) (by decide) hT.1 house) (by decide) (by decide) (by decide) rfl dX3_dents_5 (fun r5 τ5 h5 => ?_)
  obtain ⟨rfl, rfl⟩ := h5
  refine x_if_ne dX3_dents_8 (fun c8 => ?_) (fun c8 => ?_)
  · replace c8 := zb_1 c8
    obtain ⟨h, hh, rfl⟩ := f_inN_t (by omega) c8
    refine x_iload_n 2 dX3_dents_17 rfl ?_
    refine x_if_ge dX3_dents_18 (fun c18 => ?_) (fun c18 => ?_)
    · refine x_iload_n 2 dX3_dents_28 rfl ?_
      refine x_bipush (v := 9) dX3_dents_29 (by decide) ?_
      refine x_icmp_le dX3_dents_31 (fun c31 => ?_) (fun c31 => ?_)
      · refine x_aload_n 0 dX3_dents_41 rfl ?_
        refine gfX3_10 dX3_dents_42 ?_
        refine x_iload_n 1 dX3_dents_45 rfl ?_
        refine clX3_125 (qX2_at (by decide) (by decide) hT.1 hn6 hh) (by decide) (by decide) (by decide) rfl dX3_dents_46 (fun r46 τ46 h46 => ?_)
        obtain ⟨rfl, rfl⟩ := h46
        refine x_astore_n (lv' := [(3, mx_rf E (4 + 6 * 1 + h)), (0, mx_rf E 0), (1, .int (nI h)), (2, .int u)]) dX3_dents_49 rfl (by decide) rfl ?_
        refine x_aload_n 0 dX3_dents_50 rfl ?_
        refine gfX3_157 (by omega) (by omega) dX3_dents_51 ?_
        refine x_top (show σ (4 + 6 * 1 + h) 5 = r (6 + 6 * h + 5) from (hT.2.2.2.2 _ hh).1 5 (by decide)) ?_
        refine x_istore (lv' := [(4, .int (r (6 + 6 * h + 5))), (3, mx_rf E (4 + 6 * 1 + h)), (0, mx_rf E 0), (1, .int (nI h)), (2, .int u)]) dX3_dents_54 rfl (by decide) rfl ?_
        refine x_aload_n 1 dX3_dents_56 rfl ?_
        refine x_iload_n 4 dX3_dents_57 rfl ?_
        refine pfX3_157 (by omega) (by omega) dX3_dents_58 ?_
        have hT58 : TI (mx_up σ (4 + 6 * 1 + h) 5 u) 1 n (upd r (6 + 6 * h + 5) u) := hT.fld (by decide) hh (by decide)
        have hO58 : Off 1 σ (mx_up σ (4 + 6 * 1 + h) 5 u) := Off.rf.up (inT_h (by omega))
        refine x_iload 0 dX3_dents_61 rfl ?_
        exact x_iret dX3_dents_63 (by rw [show zt_set n r (nI h) u 5 9 = ((r (6 + 6 * h + 5) : Int32), 0, (upd r (6 + 6 * h + 5) u)) from by simp only [zt_set, c8, c18, (Int32.not_lt.mpr c18), c31, (Int32.not_lt.mpr c31), show nI 9 = (9 : Int32) from rfl, nI_clamp (show h < 2 ^ 31 by omega), reduceIte, Bool.false_eq_true, Bool.true_eq_false, Bool.true_and, Bool.false_and, Bool.and_true, Bool.and_false, decide_eq_true_eq, decide_true, decide_false, not_true_eq_false, not_false_eq_true, zbT, zbF]]; exact ⟨rfl, Sz.ok hT58 hO58⟩)
      · refine x_aload_n 0 dX3_dents_34 rfl ?_
        refine x_bipush (v := -6) dX3_dents_35 (by decide) ?_
        refine clX3_49 (qX3_refuse 6 (by decide) (by decide)) (by decide) rfl dX3_dents_37 (fun r37 τ37 h37 => ?_)
        obtain ⟨rfl, rfl⟩ := h37
        exact x_iret dX3_dents_40 (by rw [show zt_set n r (nI h) u 5 9 = ((-6 : Int32), 6, r) from by simp only [zt_set, c8, c18, (Int32.not_lt.mpr c18), c31, (Int32.not_le.mp c31), show nI 9 = (9 : Int32) from rfl, nI_clamp (show h < 2 ^ 31 by omega), reduceIte, Bool.false_eq_true, Bool.true_eq_false, Bool.true_and, Bool.false_and, Bool.and_true, Bool.and_false, decide_eq_true_eq, decide_true, decide_false, not_true_eq_false, not_false_eq_true, zbT, zbF]]; exact ⟨rfl, Sz.no hT⟩)
    · refine x_aload_n 0 dX3_dents_21 rfl ?_
      refine x_bipush (v := -4) dX3_dents_22 (by decide) ?_
      refine clX3_49 (qX3_refuse 4 (by decide) (by decide)) (by decide) rfl dX3_dents_24 (fun r24 τ24 h24 => ?_)
      obtain ⟨rfl, rfl⟩ := h24
      exact x_iret dX3_dents_27 (by rw [show zt_set n r (nI h) u 5 9 = ((-4 : Int32), 4, r) from by simp only [zt_set, c8, c18, (Int32.not_le.mp c18), show nI 9 = (9 : Int32) from rfl, nI_clamp (show h < 2 ^ 31 by omega), reduceIte, Bool.false_eq_true, Bool.true_eq_false, Bool.true_and, Bool.false_and, Bool.and_true, Bool.and_false, decide_eq_true_eq, decide_true, decide_false, not_true_eq_false, not_false_eq_true, zbT, zbF]]; exact ⟨rfl, Sz.no hT⟩)
  · replace c8 := zb_0 c8
    refine x_aload_n 0 dX3_dents_11 rfl ?_
    refine x_iconst (v := -1) dX3_dents_12 (by decide) ?_
    refine clX3_49 (qX3_refuse 1 (by decide) (by decide)) (by decide) rfl dX3_dents_13 (fun r13 τ13 h13 => ?_)
    obtain ⟨rfl, rfl⟩ := h13
    exact x_iret dX3_dents_16 (by rw [show zt_set n r house u 5 9 = ((-1 : Int32), 1, r) from by simp only [zt_set, c8, show nI 9 = (9 : Int32) from rfl, reduceIte, Bool.false_eq_true, Bool.true_eq_false, Bool.true_and, Bool.false_and, Bool.and_true, Bool.and_false, decide_eq_true_eq, decide_true, decide_false, not_true_eq_false, not_false_eq_true, zbT, zbF]]; exact ⟨rfl, Sz.no hT⟩)

set_option maxHeartbeats 4000000 in
theorem qX3_airs {E : mx_E} {σ : Mem} {n : Nat} {r : Row} (hN : NW σ) (hT : TI σ 1 n r) (hw : wf n r) (house : Int32) : MX3_airs E 1 [mx_rf E 0, .int house] σ (mx_i (fun v τ => (zt_airs n r house).1 = v ∧ Sz n (zt_airs n r house).2.2 (zt_airs n r house).2.1 σ τ)) := by
  refine MM.of (lv := [(0, mx_rf E 0), (1, .int house)]) kpX3 rfl (Nat.le_of_ble_eq_true rfl) rfl ?_
  have hn6 := hw.1
  refine x_aload_n 0 dX3_airs_0 rfl ?_
  refine gfX3_10 dX3_airs_1 ?_
  refine x_iload_n 1 dX3_airs_4 rfl ?_
  refine clX3_122 (qX2_has (by decide) (by decide) hT.1 house) (by decide) (by decide) (by decide) rfl dX3_airs_5 (fun r5 τ5 h5 => ?_)
  obtain ⟨rfl, rfl⟩ := h5
  refine x_if_ne dX3_airs_8 (fun c8 => ?_) (fun c8 => ?_)
  · replace c8 := zb_1 c8
    obtain ⟨h, hh, rfl⟩ := f_inN_t (by omega) c8
    refine x_aload_n 0 dX3_airs_17 rfl ?_
    refine gfX3_10 dX3_airs_18 ?_
    refine x_iload_n 1 dX3_airs_21 rfl ?_
    refine clX3_125 (qX2_at (by decide) (by decide) hT.1 hn6 hh) (by decide) (by decide) (by decide) rfl dX3_airs_22 (fun r22 τ22 h22 => ?_)
    obtain ⟨rfl, rfl⟩ := h22
    refine x_astore_n (lv' := [(2, mx_rf E (4 + 6 * 1 + h)), (0, mx_rf E 0), (1, .int (nI h))]) dX3_airs_25 rfl (by decide) rfl ?_
    refine x_aload_n 0 dX3_airs_26 rfl ?_
    refine gfX3_136 (by omega) (by omega) dX3_airs_27 ?_
    refine x_top (show σ (4 + 6 * 1 + h) 6 = zb (f_kept r h) from (hT.2.2.2.2 _ hh).2.1) ?_
    refine x_if_ne dX3_airs_30 (fun c30 => ?_) (fun c30 => ?_)
    · replace c30 := zb_1 c30
      refine x_aload_n 0 dX3_airs_40 rfl ?_
      refine gfX3_133 (by omega) (by omega) dX3_airs_41 ?_
      refine x_top (show σ (4 + 6 * 1 + h) 4 = r (6 + 6 * h + 4) from (hT.2.2.2.2 _ hh).1 4 (by decide)) ?_
      refine x_istore_n (lv' := [(3, .int (r (6 + 6 * h + 4))), (2, mx_rf E (4 + 6 * 1 + h)), (0, mx_rf E 0), (1, .int (nI h))]) dX3_airs_44 rfl (by decide) rfl ?_
      refine x_aload_n 1 dX3_airs_45 rfl ?_
      refine x_iconst (v := 0) dX3_airs_46 (by decide) ?_
      refine pfX3_133 (by omega) (by omega) dX3_airs_47 ?_
      have hT47 : TI (mx_up σ (4 + 6 * 1 + h) 4 0) 1 n (upd r (6 + 6 * h + 4) 0) := hT.fld (by decide) hh (by decide)
      have hO47 : Off 1 σ (mx_up σ (4 + 6 * 1 + h) 4 0) := Off.rf.up (inT_h (by omega))
      refine x_iload_n 0 dX3_airs_50 rfl ?_
      exact x_iret dX3_airs_51 (by rw [show zt_airs n r (nI h) = ((r (6 + 6 * h + 4) : Int32), 0, (upd r (6 + 6 * h + 4) 0)) from by simp only [zt_airs, c8, c30, nI_clamp (show h < 2 ^ 31 by omega), reduceIte, Bool.false_eq_true, Bool.true_eq_false, Bool.true_and, Bool.false_and, Bool.and_true, Bool.and_false, decide_eq_true_eq, decide_true, decide_false, not_true_eq_false, not_false_eq_true, zbT, zbF]]; exact ⟨rfl, Sz.ok hT47 hO47⟩)
    · replace c30 := zb_0 c30
      refine x_aload_n 1 dX3_airs_33 rfl ?_
      refine x_bipush (v := -3) dX3_airs_34 (by decide) ?_
      refine clX3_49 (qX3_refuse 3 (by decide) (by decide)) (by decide) rfl dX3_airs_36 (fun r36 τ36 h36 => ?_)
      obtain ⟨rfl, rfl⟩ := h36
      exact x_iret dX3_airs_39 (by rw [show zt_airs n r (nI h) = ((-3 : Int32), 3, r) from by simp only [zt_airs, c8, c30, nI_clamp (show h < 2 ^ 31 by omega), reduceIte, Bool.false_eq_true, Bool.true_eq_false, Bool.true_and, Bool.false_and, Bool.and_true, Bool.and_false, decide_eq_true_eq, decide_true, decide_false, not_true_eq_false, not_false_eq_true, zbT, zbF]]; exact ⟨rfl, Sz.no hT⟩)
  · replace c8 := zb_0 c8
    refine x_aload_n 0 dX3_airs_11 rfl ?_
    refine x_iconst (v := -1) dX3_airs_12 (by decide) ?_
    refine clX3_49 (qX3_refuse 1 (by decide) (by decide)) (by decide) rfl dX3_airs_13 (fun r13 τ13 h13 => ?_)
    obtain ⟨rfl, rfl⟩ := h13
    exact x_iret dX3_airs_16 (by rw [show zt_airs n r house = ((-1 : Int32), 1, r) from by simp only [zt_airs, c8, reduceIte, Bool.false_eq_true, Bool.true_eq_false, Bool.true_and, Bool.false_and, Bool.and_true, Bool.and_false, decide_eq_true_eq, decide_true, decide_false, not_true_eq_false, not_false_eq_true, zbT, zbF]]; exact ⟨rfl, Sz.no hT⟩)

set_option maxHeartbeats 4000000 in
theorem qX3_visits {E : mx_E} {σ : Mem} {n : Nat} {r : Row} (hN : NW σ) (hT : TI σ 1 n r) (hw : wf n r) (house : Int32) : MX3_visits E 1 [mx_rf E 0, .int house] σ (mx_i (fun v τ => (zt_visits n r house).1 = v ∧ Sz n (zt_visits n r house).2.2 (zt_visits n r house).2.1 σ τ)) := by
  refine MM.of (lv := [(0, mx_rf E 0), (1, .int house)]) kpX3 rfl (Nat.le_of_ble_eq_true rfl) rfl ?_
  have hn6 := hw.1
  refine x_aload_n 0 dX3_visits_0 rfl ?_
  refine gfX3_10 dX3_visits_1 ?_
  refine x_iload_n 1 dX3_visits_4 rfl ?_
  refine clX3_122 (qX2_has (by decide) (by decide) hT.1 house) (by decide) (by decide) (by decide) rfl dX3_visits_5 (fun r5 τ5 h5 => ?_)
  obtain ⟨rfl, rfl⟩ := h5
  refine x_if_ne dX3_visits_8 (fun c8 => ?_) (fun c8 => ?_)
  · replace c8 := zb_1 c8
    obtain ⟨h, hh, rfl⟩ := f_inN_t (by omega) c8
    refine x_aload_n 0 dX3_visits_17 rfl ?_
    refine gfX3_10 dX3_visits_18 ?_
    refine gfX3_139 (by decide) (by decide) dX3_visits_21 ?_
    refine x_top (show σ 1 3 = r 2 from hT.2.1) ?_
    refine x_istore_n (lv' := [(2, .int (r 2)), (0, mx_rf E 0), (1, .int (nI h))]) dX3_visits_24 rfl (by decide) rfl ?_
    refine x_aload_n 1 dX3_visits_25 rfl ?_
    refine gfX3_10 dX3_visits_26 ?_
    refine x_iload_n 2 dX3_visits_29 rfl ?_
    refine pfX3_139 (by decide) (by decide) dX3_visits_30 ?_
    have hT30 : TI (mx_up σ 1 3 (nI h)) 1 n (upd r 2 (nI h)) := hT.insp (by decide) _
    have hO30 : Off 1 σ (mx_up σ 1 3 (nI h)) := Off.rf.up inT_t
    refine x_iload_n 0 dX3_visits_33 rfl ?_
    exact x_iret dX3_visits_34 (by rw [show zt_visits n r (nI h) = ((r 2 : Int32), 0, (upd r 2 (nI h))) from by simp only [zt_visits, c8, nI_clamp (show h < 2 ^ 31 by omega), reduceIte, Bool.false_eq_true, Bool.true_eq_false, Bool.true_and, Bool.false_and, Bool.and_true, Bool.and_false, decide_eq_true_eq, decide_true, decide_false, not_true_eq_false, not_false_eq_true, zbT, zbF]]; exact ⟨rfl, Sz.ok hT30 hO30⟩)
  · replace c8 := zb_0 c8
    refine x_aload_n 0 dX3_visits_11 rfl ?_
    refine x_iconst (v := -1) dX3_visits_12 (by decide) ?_
    refine clX3_49 (qX3_refuse 1 (by decide) (by decide)) (by decide) rfl dX3_visits_13 (fun r13 τ13 h13 => ?_)
    obtain ⟨rfl, rfl⟩ := h13
    exact x_iret dX3_visits_16 (by rw [show zt_visits n r house = ((-1 : Int32), 1, r) from by simp only [zt_visits, c8, reduceIte, Bool.false_eq_true, Bool.true_eq_false, Bool.true_and, Bool.false_and, Bool.and_true, Bool.and_false, decide_eq_true_eq, decide_true, decide_false, not_true_eq_false, not_false_eq_true, zbT, zbF]]; exact ⟨rfl, Sz.no hT⟩)

set_option maxHeartbeats 4000000 in
theorem qX3_candles {E : mx_E} {σ : Mem} {n : Nat} {r : Row} (hN : NW σ) (hT : TI σ 1 n r) (hw : wf n r) (u : Int32) : MX3_candles E 1 [mx_rf E 0, .int u] σ (mx_i (fun v τ => (zt_candles n r u).1 = v ∧ Sz n (zt_candles n r u).2.2 (zt_candles n r u).2.1 σ τ)) := by
  refine MM.of (lv := [(0, mx_rf E 0), (1, .int u)]) kpX3 rfl (Nat.le_of_ble_eq_true rfl) rfl ?_
  have hn6 := hw.1
  refine x_iload_n 1 dX3_candles_0 rfl ?_
  refine x_if_ge dX3_candles_1 (fun c1 => ?_) (fun c1 => ?_)
  · refine x_iload_n 1 dX3_candles_11 rfl ?_
    refine x_sipush (v := 999) dX3_candles_12 (by decide) ?_
    refine x_icmp_le dX3_candles_15 (fun c15 => ?_) (fun c15 => ?_)
    · refine x_aload_n 0 dX3_candles_25 rfl ?_
      refine gfX3_10 dX3_candles_26 ?_
      refine gfX3_45 (by decide) (by decide) dX3_candles_29 ?_
      refine x_top (show σ 1 4 = r 3 from hT.2.2.1) ?_
      refine x_istore_n (lv' := [(2, .int (r 3)), (0, mx_rf E 0), (1, .int u)]) dX3_candles_32 rfl (by decide) rfl ?_
      refine x_aload_n 1 dX3_candles_33 rfl ?_
      refine gfX3_10 dX3_candles_34 ?_
      refine x_iload_n 2 dX3_candles_37 rfl ?_
      refine pfX3_45 (by decide) (by decide) dX3_candles_38 ?_
      have hT38 : TI (mx_up σ 1 4 u) 1 n (upd r 3 u) := hT.cand (by decide) _
      have hO38 : Off 1 σ (mx_up σ 1 4 u) := Off.rf.up inT_t
      refine x_iload_n 0 dX3_candles_41 rfl ?_
      exact x_iret dX3_candles_42 (by rw [show zt_candles n r u = ((r 3 : Int32), 0, (upd r 3 u)) from by simp only [zt_candles, c1, (Int32.not_lt.mpr c1), c15, (Int32.not_lt.mpr c15), reduceIte, Bool.false_eq_true, Bool.true_eq_false, Bool.true_and, Bool.false_and, Bool.and_true, Bool.and_false, decide_eq_true_eq, decide_true, decide_false, not_true_eq_false, not_false_eq_true, zbT, zbF]]; exact ⟨rfl, Sz.ok hT38 hO38⟩)
    · refine x_aload_n 0 dX3_candles_18 rfl ?_
      refine x_bipush (v := -6) dX3_candles_19 (by decide) ?_
      refine clX3_49 (qX3_refuse 6 (by decide) (by decide)) (by decide) rfl dX3_candles_21 (fun r21 τ21 h21 => ?_)
      obtain ⟨rfl, rfl⟩ := h21
      exact x_iret dX3_candles_24 (by rw [show zt_candles n r u = ((-6 : Int32), 6, r) from by simp only [zt_candles, c1, (Int32.not_lt.mpr c1), c15, (Int32.not_le.mp c15), reduceIte, Bool.false_eq_true, Bool.true_eq_false, Bool.true_and, Bool.false_and, Bool.and_true, Bool.and_false, decide_eq_true_eq, decide_true, decide_false, not_true_eq_false, not_false_eq_true, zbT, zbF]]; exact ⟨rfl, Sz.no hT⟩)
  · refine x_aload_n 0 dX3_candles_4 rfl ?_
    refine x_bipush (v := -4) dX3_candles_5 (by decide) ?_
    refine clX3_49 (qX3_refuse 4 (by decide) (by decide)) (by decide) rfl dX3_candles_7 (fun r7 τ7 h7 => ?_)
    obtain ⟨rfl, rfl⟩ := h7
    exact x_iret dX3_candles_10 (by rw [show zt_candles n r u = ((-4 : Int32), 4, r) from by simp only [zt_candles, c1, (Int32.not_le.mp c1), reduceIte, Bool.false_eq_true, Bool.true_eq_false, Bool.true_and, Bool.false_and, Bool.and_true, Bool.and_false, decide_eq_true_eq, decide_true, decide_false, not_true_eq_false, not_false_eq_true, zbT, zbF]]; exact ⟨rfl, Sz.no hT⟩)

set_option maxHeartbeats 4000000 in
theorem qX3_keeps {E : mx_E} {σ : Mem} {n : Nat} {r : Row} (hN : NW σ) (hT : TI σ 1 n r) (hw : wf n r) (house : Int32) : MX3_keeps E 1 [mx_rf E 0, .int house] σ (mx_i (fun v τ => (zt_keeps n r house).1 = v ∧ Sz n (zt_keeps n r house).2.2 (zt_keeps n r house).2.1 σ τ)) := by
  refine MM.of (lv := [(0, mx_rf E 0), (1, .int house)]) kpX3 rfl (Nat.le_of_ble_eq_true rfl) rfl ?_
  have hn6 := hw.1
  refine x_aload_n 0 dX3_keeps_0 rfl ?_
  refine gfX3_10 dX3_keeps_1 ?_
  refine x_iload_n 1 dX3_keeps_4 rfl ?_
  refine clX3_122 (qX2_has (by decide) (by decide) hT.1 house) (by decide) (by decide) (by decide) rfl dX3_keeps_5 (fun r5 τ5 h5 => ?_)
  obtain ⟨rfl, rfl⟩ := h5
  refine x_if_ne dX3_keeps_8 (fun c8 => ?_) (fun c8 => ?_)
  · replace c8 := zb_1 c8
    obtain ⟨h, hh, rfl⟩ := f_inN_t (by omega) c8
    refine x_aload_n 0 dX3_keeps_17 rfl ?_
    refine gfX3_10 dX3_keeps_18 ?_
    refine x_iload_n 1 dX3_keeps_21 rfl ?_
    refine clX3_125 (qX2_at (by decide) (by decide) hT.1 hn6 hh) (by decide) (by decide) (by decide) rfl dX3_keeps_22 (fun r22 τ22 h22 => ?_)
    obtain ⟨rfl, rfl⟩ := h22
    refine x_astore_n (lv' := [(2, mx_rf E (4 + 6 * 1 + h)), (0, mx_rf E 0), (1, .int (nI h))]) dX3_keeps_25 rfl (by decide) rfl ?_
    refine x_aload_n 0 dX3_keeps_26 rfl ?_
    refine x_aload_n 0 dX3_keeps_27 rfl ?_
    refine gfX3_136 (by omega) (by omega) dX3_keeps_28 ?_
    refine x_top (show σ (4 + 6 * 1 + h) 6 = zb (f_kept r h) from (hT.2.2.2.2 _ hh).2.1) ?_
    refine x_if_ne dX3_keeps_31 (fun c31 => ?_) (fun c31 => ?_)
    · replace c31 := zb_1 c31
      refine x_iconst (v := 0) dX3_keeps_38 (by decide) ?_
      refine pfX3_136 (by omega) (by omega) (by decide) dX3_keeps_39 ?_
      have hT39 : TI (mx_up σ (4 + 6 * 1 + h) 6 0) 1 n (f_tog r h) := hT.tog hw (by decide) hh (by rw [c31]; rfl)
      have hO39 : Off 1 σ (mx_up σ (4 + 6 * 1 + h) 6 0) := Off.rf.up (inT_h (by omega))
      refine x_aload_n 0 dX3_keeps_42 rfl ?_
      refine gfX3_136 (by omega) (by omega) dX3_keeps_43 ?_
      refine x_top (show (mx_up σ (4 + 6 * 1 + h) 6 0) (4 + 6 * 1 + h) 6 = zb (f_kept (f_tog r h) h) from (hT39.2.2.2.2 _ hh).2.1) ?_
      refine x_if_eq dX3_keeps_46 (fun c46 => ?_) (fun c46 => ?_)
      · replace c46 := zb_0 c46
        rw [f_tog_k hw hh hh, if_pos rfl, c31] at c46
        refine x_iconst (v := 0) dX3_keeps_53 (by decide) ?_
        exact x_iret dX3_keeps_54 (by rw [show zt_keeps n r (nI h) = (0, 0, f_tog r h) from by unfold zt_keeps; rw [if_pos c8, nI_clamp (show h < 2 ^ 31 by omega), c31]; rfl]; exact ⟨rfl, Sz.ok hT39 hO39⟩)
      · replace c46 := zb_1 c46
        rw [f_tog_k hw hh hh, if_pos rfl, c31] at c46
        exact absurd c46 (by decide)
    · replace c31 := zb_0 c31
      refine x_iconst (v := 1) dX3_keeps_34 (by decide) ?_
      refine x_goto dX3_keeps_35 ?_
      refine pfX3_136 (by omega) (by omega) (by decide) dX3_keeps_39 ?_
      have hT39 : TI (mx_up σ (4 + 6 * 1 + h) 6 1) 1 n (f_tog r h) := hT.tog hw (by decide) hh (by rw [c31]; rfl)
      have hO39 : Off 1 σ (mx_up σ (4 + 6 * 1 + h) 6 1) := Off.rf.up (inT_h (by omega))
      refine x_aload_n 0 dX3_keeps_42 rfl ?_
      refine gfX3_136 (by omega) (by omega) dX3_keeps_43 ?_
      refine x_top (show (mx_up σ (4 + 6 * 1 + h) 6 1) (4 + 6 * 1 + h) 6 = zb (f_kept (f_tog r h) h) from (hT39.2.2.2.2 _ hh).2.1) ?_
      refine x_if_eq dX3_keeps_46 (fun c46 => ?_) (fun c46 => ?_)
      · replace c46 := zb_0 c46
        rw [f_tog_k hw hh hh, if_pos rfl, c31] at c46
        exact absurd c46 (by decide)
      · replace c46 := zb_1 c46
        rw [f_tog_k hw hh hh, if_pos rfl, c31] at c46
        refine x_iconst (v := 1) dX3_keeps_49 (by decide) ?_
        refine x_goto dX3_keeps_50 ?_
        exact x_iret dX3_keeps_54 (by rw [show zt_keeps n r (nI h) = (1, 0, f_tog r h) from by unfold zt_keeps; rw [if_pos c8, nI_clamp (show h < 2 ^ 31 by omega), c31]; rfl]; exact ⟨rfl, Sz.ok hT39 hO39⟩)
  · replace c8 := zb_0 c8
    refine x_aload_n 0 dX3_keeps_11 rfl ?_
    refine x_iconst (v := -1) dX3_keeps_12 (by decide) ?_
    refine clX3_49 (qX3_refuse 1 (by decide) (by decide)) (by decide) rfl dX3_keeps_13 (fun r13 τ13 h13 => ?_)
    obtain ⟨rfl, rfl⟩ := h13
    exact x_iret dX3_keeps_16 (by rw [show zt_keeps n r house = ((-1 : Int32), 1, r) from by simp only [zt_keeps, c8, reduceIte, Bool.false_eq_true, Bool.true_eq_false, Bool.true_and, Bool.false_and, Bool.and_true, Bool.and_false, decide_eq_true_eq, decide_true, decide_false, not_true_eq_false, not_false_eq_true, zbT, zbF]]; exact ⟨rfl, Sz.no hT⟩)

set_option maxHeartbeats 4000000 in
theorem qX3_turn {E : mx_E} {σ : Mem} {n : Nat} {r : Row} (hN : NW σ) (hT : TI σ 1 n r) (hw : wf n r) (house kind figure : Int32) : MX3_turn E 1 [mx_rf E 0, .int house, .int kind, .int figure] σ (mx_i (fun v τ => (zt_turn n r house kind figure).1 = v ∧ Sz n (zt_turn n r house kind figure).2.2 (zt_turn n r house kind figure).2.1 σ τ)) := by
  refine MM.of (lv := [(0, mx_rf E 0), (1, .int house), (2, .int kind), (3, .int figure)]) kpX3 rfl (Nat.le_of_ble_eq_true rfl) rfl ?_
  have hn6 := hw.1
  refine x_aload_n 0 dX3_turn_0 rfl ?_
  refine gfX3_10 dX3_turn_1 ?_
  refine x_iload_n 1 dX3_turn_4 rfl ?_
  refine clX3_122 (qX2_has (by decide) (by decide) hT.1 house) (by decide) (by decide) (by decide) rfl dX3_turn_5 (fun r5 τ5 h5 => ?_)
  obtain ⟨rfl, rfl⟩ := h5
  refine x_if_ne dX3_turn_8 (fun c8 => ?_) (fun c8 => ?_)
  · replace c8 := zb_1 c8
    obtain ⟨h, hh, rfl⟩ := f_inN_t (by omega) c8
    refine x_iload_n 2 dX3_turn_17 rfl ?_
    refine x_if_lt dX3_turn_18 (fun c18 => ?_) (fun c18 => ?_)
    · have hkd := f_in5a c18
      refine x_aload_n 0 dX3_turn_27 rfl ?_
      refine x_bipush (v := -2) dX3_turn_28 (by decide) ?_
      refine clX3_49 (qX3_refuse 2 (by decide) (by decide)) (by decide) rfl dX3_turn_30 (fun r30 τ30 h30 => ?_)
      obtain ⟨rfl, rfl⟩ := h30
      exact x_iret dX3_turn_33 (by rw [show zt_turn n r (nI h) kind figure = ((-2 : Int32), 2, r) from by simp only [zt_turn, c8, c18, (Int32.not_le.mpr c18), nI_clamp (show h < 2 ^ 31 by omega), hkd, reduceIte, Bool.false_eq_true, Bool.true_eq_false, Bool.true_and, Bool.false_and, Bool.and_true, Bool.and_false, decide_eq_true_eq, decide_true, decide_false, not_true_eq_false, not_false_eq_true, zbT, zbF]]; exact ⟨rfl, Sz.no hT⟩)
    · refine x_iload_n 2 dX3_turn_21 rfl ?_
      refine x_bipush (v := 6) dX3_turn_22 (by decide) ?_
      refine x_icmp_lt dX3_turn_24 (fun c24 => ?_) (fun c24 => ?_)
      · have hkd := f_in5T c18 c24
        refine x_iload_n 3 dX3_turn_34 rfl ?_
        refine x_if_ge dX3_turn_35 (fun c35 => ?_) (fun c35 => ?_)
        · refine x_iload_n 3 dX3_turn_45 rfl ?_
          refine x_bipush (v := 9) dX3_turn_46 (by decide) ?_
          refine x_icmp_le dX3_turn_48 (fun c48 => ?_) (fun c48 => ?_)
          · refine x_aload_n 0 dX3_turn_58 rfl ?_
            refine gfX3_10 dX3_turn_59 ?_
            refine x_iload_n 1 dX3_turn_62 rfl ?_
            refine clX3_125 (qX2_at (by decide) (by decide) hT.1 hn6 hh) (by decide) (by decide) (by decide) rfl dX3_turn_63 (fun r63 τ63 h63 => ?_)
            obtain ⟨rfl, rfl⟩ := h63
            refine x_astore (lv' := [(4, mx_rf E (4 + 6 * 1 + h)), (0, mx_rf E 0), (1, .int (nI h)), (2, .int kind), (3, .int figure)]) dX3_turn_66 rfl (by decide) rfl ?_
            refine x_bipush (v := 10) dX3_turn_68 (by decide) ?_
            refine x_aload 0 dX3_turn_70 rfl ?_
            refine gfX3_148 (by omega) (by omega) dX3_turn_72 ?_
            refine x_top (show σ (4 + 6 * 1 + h) 0 = r (6 + 6 * h) from (hT.2.2.2.2 _ hh).1 0 (by decide)) ?_
            refine x_imul dX3_turn_75 ?_
            refine x_aload 0 dX3_turn_76 rfl ?_
            refine gfX3_151 (by omega) (by omega) dX3_turn_78 ?_
            refine x_top (show σ (4 + 6 * 1 + h) 1 = r (6 + 6 * h + 1) from (hT.2.2.2.2 _ hh).1 1 (by decide)) ?_
            refine x_iadd dX3_turn_81 ?_
            refine x_istore (lv' := [(5, .int ((10 * (r (6 + 6 * h))) + (r (6 + 6 * h + 1)))), (4, mx_rf E (4 + 6 * 1 + h)), (0, mx_rf E 0), (1, .int (nI h)), (2, .int kind), (3, .int figure)]) dX3_turn_82 rfl (by decide) rfl ?_
            refine x_aload 1 dX3_turn_84 rfl ?_
            refine x_iload_n 4 dX3_turn_86 rfl ?_
            refine pfX3_148 (by omega) (by omega) dX3_turn_87 ?_
            have hT87 : TI (mx_up σ (4 + 6 * 1 + h) 0 kind) 1 n (upd r (6 + 6 * h) kind) := hT.fld (by decide) hh (by decide)
            have hO87 : Off 1 σ (mx_up σ (4 + 6 * 1 + h) 0 kind) := Off.rf.up (inT_h (by omega))
            refine x_aload 1 dX3_turn_90 rfl ?_
            refine x_iload_n 5 dX3_turn_92 rfl ?_
            refine pfX3_151 (by omega) (by omega) dX3_turn_93 ?_
            have hT93 : TI (mx_up (mx_up σ (4 + 6 * 1 + h) 0 kind) (4 + 6 * 1 + h) 1 figure) 1 n (upd (upd r (6 + 6 * h) kind) (6 + 6 * h + 1) figure) := hT87.fld (by decide) hh (by decide)
            have hO93 : Off 1 σ (mx_up (mx_up σ (4 + 6 * 1 + h) 0 kind) (4 + 6 * 1 + h) 1 figure) := hO87.up (inT_h (by omega))
            refine x_iload 0 dX3_turn_96 rfl ?_
            exact x_iret dX3_turn_98 (by rw [show zt_turn n r (nI h) kind figure = (((10 * (r (6 + 6 * h))) + (r (6 + 6 * h + 1)) : Int32), 0, (upd (upd r (6 + 6 * h) kind) (6 + 6 * h + 1) figure)) from by simp only [zt_turn, c8, c18, (Int32.not_lt.mp c18), c24, (Int32.not_le.mpr c24), c35, (Int32.not_lt.mpr c35), c48, (Int32.not_lt.mpr c48), nI_clamp (show h < 2 ^ 31 by omega), hkd, reduceIte, Bool.false_eq_true, Bool.true_eq_false, Bool.true_and, Bool.false_and, Bool.and_true, Bool.and_false, decide_eq_true_eq, decide_true, decide_false, not_true_eq_false, not_false_eq_true, zbT, zbF]]; exact ⟨rfl, Sz.ok hT93 hO93⟩)
          · refine x_aload_n 0 dX3_turn_51 rfl ?_
            refine x_bipush (v := -6) dX3_turn_52 (by decide) ?_
            refine clX3_49 (qX3_refuse 6 (by decide) (by decide)) (by decide) rfl dX3_turn_54 (fun r54 τ54 h54 => ?_)
            obtain ⟨rfl, rfl⟩ := h54
            exact x_iret dX3_turn_57 (by rw [show zt_turn n r (nI h) kind figure = ((-6 : Int32), 6, r) from by simp only [zt_turn, c8, c18, (Int32.not_lt.mp c18), c24, (Int32.not_le.mpr c24), c35, (Int32.not_lt.mpr c35), c48, (Int32.not_le.mp c48), nI_clamp (show h < 2 ^ 31 by omega), hkd, reduceIte, Bool.false_eq_true, Bool.true_eq_false, Bool.true_and, Bool.false_and, Bool.and_true, Bool.and_false, decide_eq_true_eq, decide_true, decide_false, not_true_eq_false, not_false_eq_true, zbT, zbF]]; exact ⟨rfl, Sz.no hT⟩)
        · refine x_aload_n 0 dX3_turn_38 rfl ?_
          refine x_bipush (v := -4) dX3_turn_39 (by decide) ?_
          refine clX3_49 (qX3_refuse 4 (by decide) (by decide)) (by decide) rfl dX3_turn_41 (fun r41 τ41 h41 => ?_)
          obtain ⟨rfl, rfl⟩ := h41
          exact x_iret dX3_turn_44 (by rw [show zt_turn n r (nI h) kind figure = ((-4 : Int32), 4, r) from by simp only [zt_turn, c8, c18, (Int32.not_lt.mp c18), c24, (Int32.not_le.mpr c24), c35, (Int32.not_le.mp c35), nI_clamp (show h < 2 ^ 31 by omega), hkd, reduceIte, Bool.false_eq_true, Bool.true_eq_false, Bool.true_and, Bool.false_and, Bool.and_true, Bool.and_false, decide_eq_true_eq, decide_true, decide_false, not_true_eq_false, not_false_eq_true, zbT, zbF]]; exact ⟨rfl, Sz.no hT⟩)
      · have hkd := f_in5b c24
        refine x_aload_n 0 dX3_turn_27 rfl ?_
        refine x_bipush (v := -2) dX3_turn_28 (by decide) ?_
        refine clX3_49 (qX3_refuse 2 (by decide) (by decide)) (by decide) rfl dX3_turn_30 (fun r30 τ30 h30 => ?_)
        obtain ⟨rfl, rfl⟩ := h30
        exact x_iret dX3_turn_33 (by rw [show zt_turn n r (nI h) kind figure = ((-2 : Int32), 2, r) from by simp only [zt_turn, c8, c18, (Int32.not_lt.mp c18), c24, (Int32.not_lt.mp c24), nI_clamp (show h < 2 ^ 31 by omega), hkd, reduceIte, Bool.false_eq_true, Bool.true_eq_false, Bool.true_and, Bool.false_and, Bool.and_true, Bool.and_false, decide_eq_true_eq, decide_true, decide_false, not_true_eq_false, not_false_eq_true, zbT, zbF]]; exact ⟨rfl, Sz.no hT⟩)
  · replace c8 := zb_0 c8
    refine x_aload_n 0 dX3_turn_11 rfl ?_
    refine x_iconst (v := -1) dX3_turn_12 (by decide) ?_
    refine clX3_49 (qX3_refuse 1 (by decide) (by decide)) (by decide) rfl dX3_turn_13 (fun r13 τ13 h13 => ?_)
    obtain ⟨rfl, rfl⟩ := h13
    exact x_iret dX3_turn_16 (by rw [show zt_turn n r house kind figure = ((-1 : Int32), 1, r) from by simp only [zt_turn, c8, reduceIte, Bool.false_eq_true, Bool.true_eq_false, Bool.true_and, Bool.false_and, Bool.and_true, Bool.and_false, decide_eq_true_eq, decide_true, decide_false, not_true_eq_false, not_false_eq_true, zbT, zbF]]; exact ⟨rfl, Sz.no hT⟩)

set_option maxHeartbeats 4000000 in
theorem qX3_weeks {E : mx_E} {σ : Mem} {n : Nat} {r : Row} (hN : NW σ) (hT : TI σ 1 n r) (hw : wf n r) (k : Int32) : MX3_weeks E 4 [mx_rf E 0, .int k] σ (mx_i (fun v τ => (zt_weeks n r k).1 = v ∧ Sz n (zt_weeks n r k).2.2 (zt_weeks n r k).2.1 σ τ)) := by
  refine MM.of (lv := [(0, mx_rf E 0), (1, .int k)]) kpX3 rfl (Nat.le_of_ble_eq_true rfl) rfl ?_
  have hn6 := hw.1
  refine x_iload_n 1 dX3_weeks_0 rfl ?_
  refine x_iconst (v := 1) dX3_weeks_1 (by decide) ?_
  refine x_icmp_ge dX3_weeks_2 (fun c2 => ?_) (fun c2 => ?_)
  · refine x_iload_n 1 dX3_weeks_12 rfl ?_
    refine x_bipush (v := 60) dX3_weeks_13 (by decide) ?_
    refine x_icmp_gt dX3_weeks_15 (fun c15 => ?_) (fun c15 => ?_)
    · refine x_aload_n 0 dX3_weeks_33 rfl ?_
      refine x_bipush (v := -6) dX3_weeks_34 (by decide) ?_
      refine clX3_49 (qX3_refuse 6 (by decide) (by decide)) (by decide) rfl dX3_weeks_36 (fun r36 τ36 h36 => ?_)
      obtain ⟨rfl, rfl⟩ := h36
      exact x_iret dX3_weeks_39 (by rw [show zt_weeks n r k = (-6, 6, r) from by simp [zt_weeks, c2, (Int32.not_lt.mpr c2), c15, (Int32.not_le.mpr c15)]]; exact ⟨rfl, Sz.no hT⟩)
    · refine x_aload_n 0 dX3_weeks_18 rfl ?_
      refine gfX3_10 dX3_weeks_19 ?_
      refine gfX3_142 (by decide) (by decide) dX3_weeks_22 ?_
      refine x_top (show σ 1 5 = r 1 from hT.2.2.2.1) ?_
      refine x_iload_n 1 dX3_weeks_25 rfl ?_
      refine x_iadd dX3_weeks_26 ?_
      refine x_sipush (v := 999) dX3_weeks_27 (by decide) ?_
      refine x_icmp_le dX3_weeks_30 (fun c30 => ?_) (fun c30 => ?_)
      · obtain ⟨j, hj1, hj2, rfl⟩ := f_in_ab (a := 1) (b := 60) (by decide) (by decide) (Int32.not_lt.mpr c2) c15
        refine x_aload_n 0 dX3_weeks_40 rfl ?_
        refine gfX3_10 dX3_weeks_41 ?_
        refine x_iload_n 1 dX3_weeks_44 rfl ?_
        refine clX3_145 (qX2_pass (t := 1) (by decide) (by decide) hT hw hN j (by omega)) (by decide) (by decide) (by decide) rfl dX3_weeks_45 (fun τ45 h45 => ?_)
        refine x_aload_n 0 dX3_weeks_48 rfl ?_
        refine gfX3_10 dX3_weeks_49 ?_
        refine clX3_166 (qX2_howManyKept (by decide) (by decide) h45.1 (wf_weeks hw j)) (by decide) (by decide) (by decide) rfl dX3_weeks_52 (fun r52 τ52 h52 => ?_)
        obtain ⟨rfl, rfl⟩ := h52
        exact x_iret dX3_weeks_55 (by rw [show zt_weeks n r (nI j) = (f_bits ((f_weeks n r j) 4), 0, (f_weeks n r j)) from by simp [zt_weeks, c2, (Int32.not_lt.mpr c2), c15, (Int32.not_lt.mp c15), c30, (Int32.not_lt.mpr c30), nI_clamp (show j < 2 ^ 31 by omega)]]; exact ⟨rfl, Sz.ok h45.1 h45.2⟩)
      · refine x_aload_n 0 dX3_weeks_33 rfl ?_
        refine x_bipush (v := -6) dX3_weeks_34 (by decide) ?_
        refine clX3_49 (qX3_refuse 6 (by decide) (by decide)) (by decide) rfl dX3_weeks_36 (fun r36 τ36 h36 => ?_)
        obtain ⟨rfl, rfl⟩ := h36
        exact x_iret dX3_weeks_39 (by rw [show zt_weeks n r k = (-6, 6, r) from by simp [zt_weeks, c2, (Int32.not_lt.mpr c2), c15, (Int32.not_lt.mp c15), c30, (Int32.not_le.mp c30)]]; exact ⟨rfl, Sz.no hT⟩)
  · refine x_aload_n 0 dX3_weeks_5 rfl ?_
    refine x_bipush (v := -4) dX3_weeks_6 (by decide) ?_
    refine clX3_49 (qX3_refuse 4 (by decide) (by decide)) (by decide) rfl dX3_weeks_8 (fun r8 τ8 h8 => ?_)
    obtain ⟨rfl, rfl⟩ := h8
    exact x_iret dX3_weeks_11 (by rw [show zt_weeks n r k = (-4, 4, r) from by simp [zt_weeks, c2, (Int32.not_le.mp c2)]]; exact ⟨rfl, Sz.no hT⟩)
