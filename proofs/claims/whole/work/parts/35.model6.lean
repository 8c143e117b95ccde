set_option maxHeartbeats 4000000 in
theorem qX4_sets {E : mx_E} {σ : Mem} {n : Nat} {r : Row} (h36 : σ 36 = r) (hw : wf n r) (j : Nat) (hj : j < 42) (u : Int32) : MX4_sets E 0 [mx_rf E 35, .int (nI j), .int u] σ (mx_ie (r j) (mx_row σ 36 (upd r j u))) := by
  refine MM.of (lv := [(0, mx_rf E 35), (1, .int (nI j)), (2, .int u)]) kpX4 rfl (Nat.le_of_ble_eq_true rfl) rfl ?_
  have hn6 := hw.1
  refine x_mem (τ := mx_row σ 36 r) (by show σ = mx_row σ 36 r; rw [← h36]; exact (mx_row_self σ 36).symm) ?_
  refine x_aload_n 0 dX4_sets_0 rfl ?_
  refine gfX4_9 dX4_sets_1 ?_
  refine x_iload_n 1 dX4_sets_4 rfl ?_
  refine x_ialdS (j := j) (by decide) (by decide) (by omega) dX4_sets_5 ?_
  refine x_top (show (mx_row σ 36 r) 36 j = r j from (congrFun mx_row_s _)) ?_
  refine x_istore_n (lv' := [(3, .int (r j)), (0, mx_rf E 35), (1, .int (nI j)), (2, .int u)]) dX4_sets_6 rfl (by decide) rfl ?_
  refine x_aload_n 1 dX4_sets_7 rfl ?_
  refine gfX4_9 dX4_sets_8 ?_
  refine x_iload_n 2 dX4_sets_11 rfl ?_
  refine x_iload_n 3 dX4_sets_12 rfl ?_
  refine x_iastR (j := j) (by decide) (by decide) (by omega) dX4_sets_13 ?_
  refine x_iload_n 0 dX4_sets_14 rfl ?_
  exact x_iret dX4_sets_15 ⟨rfl, rfl⟩

set_option maxHeartbeats 4000000 in
theorem qX4_setsOf_3 {E : mx_E} {σ : Mem} {n : Nat} {r : Row} (h36 : σ 36 = r) (hw : wf n r) (house u : Int32) : MX4_setsOf E 2 [mx_rf E 35, .int house, .int 3, .int u, .int 30] σ (mx_i (fun v τ => (zt_set n r house u 3 30).1 = v ∧ Sm (zt_set n r house u 3 30).2.2 (zt_set n r house u 3 30).2.1 σ τ)) := by
  refine MM.of (lv := [(0, mx_rf E 35), (1, .int house), (2, .int 3), (3, .int u), (4, .int 30)]) kpX4 rfl (Nat.le_of_ble_eq_true rfl) rfl ?_
  have hn6 := hw.1
  refine x_mem (τ := mx_row σ 36 r) (by show σ = mx_row σ 36 r; rw [← h36]; exact (mx_row_self σ 36).symm) ?_
  refine x_aload_n 0 dX4_setsOf_0 rfl ?_
  refine x_iload_n 1 dX4_setsOf_1 rfl ?_
  refine clX4_111 (qX4_isHouse mx_row_s hw house) (by decide) rfl dX4_setsOf_2 (fun r2 τ2 h2 => ?_)
  obtain ⟨rfl, rfl⟩ := h2
  refine x_if_eq dX4_setsOf_5 (fun c5 => ?_) (fun c5 => ?_)
  · replace c5 := zb_0 c5
    refine x_iconst (v := -1) dX4_setsOf_18 (by decide) ?_
    refine x_istore (lv' := [(5, .int (-1)), (0, mx_rf E 35), (1, .int house), (2, .int 3), (3, .int u), (4, .int 30)]) dX4_setsOf_19 rfl (by decide) rfl ?_
    refine x_iload 0 dX4_setsOf_21 rfl ?_
    refine x_if_eq dX4_setsOf_23 (fun c => absurd c (by decide)) (fun _ => ?_)
    refine x_aload_n 1 dX4_setsOf_26 rfl ?_
    refine x_iload 0 dX4_setsOf_27 rfl ?_
    refine clX4_36 (qX4_no 1 (by decide) (by decide)) (by decide) rfl dX4_setsOf_29 (fun r29 τ29 h29 => ?_)
    obtain ⟨rfl, rfl⟩ := h29
    refine x_goto dX4_setsOf_32 ?_
    exact x_iret dX4_setsOf_45 (by rw [show zt_set n r house u 3 30 = ((-1 : Int32), 1, r) from by simp only [zt_set, c5, show nI 30 = (30 : Int32) from rfl, reduceIte, Bool.false_eq_true, Bool.true_eq_false, Bool.true_and, Bool.false_and, Bool.and_true, Bool.and_false, decide_eq_true_eq, decide_true, decide_false, not_true_eq_false, not_false_eq_true, zbT, zbF]]; exact ⟨rfl, Qm.no⟩)
  · replace c5 := zb_1 c5
    obtain ⟨h, hh, rfl⟩ := f_inN_t (by omega) c5
    refine x_iload_n 3 dX4_setsOf_8 rfl ?_
    refine x_iconst (v := 0) dX4_setsOf_9 (by decide) ?_
    refine x_iload 4 dX4_setsOf_10 rfl ?_
    refine clX4_128 (qX4_wrongBy u 0 30) (by decide) rfl dX4_setsOf_12 (fun r12 τ12 h12 => ?_)
    obtain ⟨rfl, rfl⟩ := h12
    rcases f_out_c (v := u) (lo := 0) (hi := 30) (l := 0) (h := 30) (by decide) (by decide) rfl rfl with ⟨k1, e⟩ | ⟨k1, k2, e⟩ | ⟨j, hk1, hk2, rfl, k1, k2, e⟩
    · refine x_top (show f_out u 0 30 = -4 from e) ?_
      refine x_goto dX4_setsOf_15 ?_
      refine x_istore (lv' := [(5, .int (-4)), (0, mx_rf E 35), (1, .int (nI h)), (2, .int 3), (3, .int u), (4, .int 30)]) dX4_setsOf_19 rfl (by decide) rfl ?_
      refine x_iload 0 dX4_setsOf_21 rfl ?_
      refine x_if_eq dX4_setsOf_23 (fun c => absurd c (by decide)) (fun _ => ?_)
      refine x_aload_n 1 dX4_setsOf_26 rfl ?_
      refine x_iload 0 dX4_setsOf_27 rfl ?_
      refine clX4_36 (qX4_no 4 (by decide) (by decide)) (by decide) rfl dX4_setsOf_29 (fun r29 τ29 h29 => ?_)
      obtain ⟨rfl, rfl⟩ := h29
      refine x_goto dX4_setsOf_32 ?_
      exact x_iret dX4_setsOf_45 (by rw [show zt_set n r (nI h) u 3 30 = ((-4 : Int32), 4, r) from by simp only [zt_set, c5, k1, show nI 30 = (30 : Int32) from rfl, nI_clamp (show h < 2 ^ 31 by omega), reduceIte, Bool.false_eq_true, Bool.true_eq_false, Bool.true_and, Bool.false_and, Bool.and_true, Bool.and_false, decide_eq_true_eq, decide_true, decide_false, not_true_eq_false, not_false_eq_true, zbT, zbF]]; exact ⟨rfl, Qm.no⟩)
    · refine x_top (show f_out u 0 30 = -6 from e) ?_
      refine x_goto dX4_setsOf_15 ?_
      refine x_istore (lv' := [(5, .int (-6)), (0, mx_rf E 35), (1, .int (nI h)), (2, .int 3), (3, .int u), (4, .int 30)]) dX4_setsOf_19 rfl (by decide) rfl ?_
      refine x_iload 0 dX4_setsOf_21 rfl ?_
      refine x_if_eq dX4_setsOf_23 (fun c => absurd c (by decide)) (fun _ => ?_)
      refine x_aload_n 1 dX4_setsOf_26 rfl ?_
      refine x_iload 0 dX4_setsOf_27 rfl ?_
      refine clX4_36 (qX4_no 6 (by decide) (by decide)) (by decide) rfl dX4_setsOf_29 (fun r29 τ29 h29 => ?_)
      obtain ⟨rfl, rfl⟩ := h29
      refine x_goto dX4_setsOf_32 ?_
      exact x_iret dX4_setsOf_45 (by rw [show zt_set n r (nI h) u 3 30 = ((-6 : Int32), 6, r) from by simp only [zt_set, c5, k1, k2, show nI 30 = (30 : Int32) from rfl, nI_clamp (show h < 2 ^ 31 by omega), reduceIte, Bool.false_eq_true, Bool.true_eq_false, Bool.true_and, Bool.false_and, Bool.and_true, Bool.and_false, decide_eq_true_eq, decide_true, decide_false, not_true_eq_false, not_false_eq_true, zbT, zbF]]; exact ⟨rfl, Qm.no⟩)
    · refine x_top (show f_out (nI j) 0 30 = 0 from e) ?_
      refine x_goto dX4_setsOf_15 ?_
      refine x_istore (lv' := [(5, .int 0), (0, mx_rf E 35), (1, .int (nI h)), (2, .int 3), (3, .int (nI j)), (4, .int 30)]) dX4_setsOf_19 rfl (by decide) rfl ?_
      refine x_iload 0 dX4_setsOf_21 rfl ?_
      refine x_if_eq dX4_setsOf_23 (fun _ => ?_) (fun c => absurd c (by decide))
      refine x_aload_n 1 dX4_setsOf_35 rfl ?_
      refine x_iload_n 2 dX4_setsOf_36 rfl ?_
      refine x_iload_n 3 dX4_setsOf_37 rfl ?_
      refine clX4_44 (qX4_of h 3) (by decide) rfl dX4_setsOf_38 (fun r38 τ38 h38 => ?_)
      obtain ⟨rfl, rfl⟩ := h38
      refine x_iload_n 4 dX4_setsOf_41 rfl ?_
      refine clX4_131 (qX4_sets mx_row_s hw (6 + 6 * h + 3) (by omega) (nI j)) (by decide) rfl dX4_setsOf_42 (fun r42 τ42 h42 => ?_)
      obtain ⟨rfl, rfl⟩ := h42
      refine x_mem (mx_row_row _ _ _ _) ?_
      exact x_iret dX4_setsOf_45 (by rw [show zt_set n r (nI h) (nI j) 3 30 = ((r (6 + 6 * h + 3) : Int32), 0, upd r (6 + 6 * h + 3) (nI j)) from by simp only [zt_set, c5, k1, k2, show nI 30 = (30 : Int32) from rfl, nI_clamp (show h < 2 ^ 31 by omega), nI_clamp (show j < 2 ^ 31 by omega), reduceIte, Bool.false_eq_true, Bool.true_eq_false, Bool.true_and, Bool.false_and, Bool.and_true, Bool.and_false, decide_eq_true_eq, decide_true, decide_false, not_true_eq_false, not_false_eq_true, zbT, zbF]]; exact ⟨rfl, Qm.rf⟩)

set_option maxHeartbeats 4000000 in
theorem qX4_setsOf_5 {E : mx_E} {σ : Mem} {n : Nat} {r : Row} (h36 : σ 36 = r) (hw : wf n r) (house u : Int32) : MX4_setsOf E 2 [mx_rf E 35, .int house, .int 5, .int u, .int 9] σ (mx_i (fun v τ => (zt_set n r house u 5 9).1 = v ∧ Sm (zt_set n r house u 5 9).2.2 (zt_set n r house u 5 9).2.1 σ τ)) := by
  refine MM.of (lv := [(0, mx_rf E 35), (1, .int house), (2, .int 5), (3, .int u), (4, .int 9)]) kpX4 rfl (Nat.le_of_ble_eq_true rfl) rfl ?_
  have hn6 := hw.1
  refine x_mem (τ := mx_row σ 36 r) (by show σ = mx_row σ 36 r; rw [← h36]; exact (mx_row_self σ 36).symm) ?_
  refine x_aload_n 0 dX4_setsOf_0 rfl ?_
  refine x_iload_n 1 dX4_setsOf_1 rfl ?_
  refine clX4_111 (qX4_isHouse mx_row_s hw house) (by decide) rfl dX4_setsOf_2 (fun r2 τ2 h2 => ?_)
  obtain ⟨rfl, rfl⟩ := h2
  refine x_if_eq dX4_setsOf_5 (fun c5 => ?_) (fun c5 => ?_)
  · replace c5 := zb_0 c5
    refine x_iconst (v := -1) dX4_setsOf_18 (by decide) ?_
    refine x_istore (lv' := [(5, .int (-1)), (0, mx_rf E 35), (1, .int house), (2, .int 5), (3, .int u), (4, .int 9)]) dX4_setsOf_19 rfl (by decide) rfl ?_
    refine x_iload 0 dX4_setsOf_21 rfl ?_
    refine x_if_eq dX4_setsOf_23 (fun c => absurd c (by decide)) (fun _ => ?_)
    refine x_aload_n 1 dX4_setsOf_26 rfl ?_
    refine x_iload 0 dX4_setsOf_27 rfl ?_
    refine clX4_36 (qX4_no 1 (by decide) (by decide)) (by decide) rfl dX4_setsOf_29 (fun r29 τ29 h29 => ?_)
    obtain ⟨rfl, rfl⟩ := h29
    refine x_goto dX4_setsOf_32 ?_
    exact x_iret dX4_setsOf_45 (by rw [show zt_set n r house u 5 9 = ((-1 : Int32), 1, r) from by simp only [zt_set, c5, show nI 9 = (9 : Int32) from rfl, reduceIte, Bool.false_eq_true, Bool.true_eq_false, Bool.true_and, Bool.false_and, Bool.and_true, Bool.and_false, decide_eq_true_eq, decide_true, decide_false, not_true_eq_false, not_false_eq_true, zbT, zbF]]; exact ⟨rfl, Qm.no⟩)
  · replace c5 := zb_1 c5
    obtain ⟨h, hh, rfl⟩ := f_inN_t (by omega) c5
    refine x_iload_n 3 dX4_setsOf_8 rfl ?_
    refine x_iconst (v := 0) dX4_setsOf_9 (by decide) ?_
    refine x_iload 4 dX4_setsOf_10 rfl ?_
    refine clX4_128 (qX4_wrongBy u 0 9) (by decide) rfl dX4_setsOf_12 (fun r12 τ12 h12 => ?_)
    obtain ⟨rfl, rfl⟩ := h12
    rcases f_out_c (v := u) (lo := 0) (hi := 9) (l := 0) (h := 9) (by decide) (by decide) rfl rfl with ⟨k1, e⟩ | ⟨k1, k2, e⟩ | ⟨j, hk1, hk2, rfl, k1, k2, e⟩
    · refine x_top (show f_out u 0 9 = -4 from e) ?_
      refine x_goto dX4_setsOf_15 ?_
      refine x_istore (lv' := [(5, .int (-4)), (0, mx_rf E 35), (1, .int (nI h)), (2, .int 5), (3, .int u), (4, .int 9)]) dX4_setsOf_19 rfl (by decide) rfl ?_
      refine x_iload 0 dX4_setsOf_21 rfl ?_
      refine x_if_eq dX4_setsOf_23 (fun c => absurd c (by decide)) (fun _ => ?_)
      refine x_aload_n 1 dX4_setsOf_26 rfl ?_
      refine x_iload 0 dX4_setsOf_27 rfl ?_
      refine clX4_36 (qX4_no 4 (by decide) (by decide)) (by decide) rfl dX4_setsOf_29 (fun r29 τ29 h29 => ?_)
      obtain ⟨rfl, rfl⟩ := h29
      refine x_goto dX4_setsOf_32 ?_
      exact x_iret dX4_setsOf_45 (by rw [show zt_set n r (nI h) u 5 9 = ((-4 : Int32), 4, r) from by simp only [zt_set, c5, k1, show nI 9 = (9 : Int32) from rfl, nI_clamp (show h < 2 ^ 31 by omega), reduceIte, Bool.false_eq_true, Bool.true_eq_false, Bool.true_and, Bool.false_and, Bool.and_true, Bool.and_false, decide_eq_true_eq, decide_true, decide_false, not_true_eq_false, not_false_eq_true, zbT, zbF]]; exact ⟨rfl, Qm.no⟩)
    · refine x_top (show f_out u 0 9 = -6 from e) ?_
      refine x_goto dX4_setsOf_15 ?_
      refine x_istore (lv' := [(5, .int (-6)), (0, mx_rf E 35), (1, .int (nI h)), (2, .int 5), (3, .int u), (4, .int 9)]) dX4_setsOf_19 rfl (by decide) rfl ?_
      refine x_iload 0 dX4_setsOf_21 rfl ?_
      refine x_if_eq dX4_setsOf_23 (fun c => absurd c (by decide)) (fun _ => ?_)
      refine x_aload_n 1 dX4_setsOf_26 rfl ?_
      refine x_iload 0 dX4_setsOf_27 rfl ?_
      refine clX4_36 (qX4_no 6 (by decide) (by decide)) (by decide) rfl dX4_setsOf_29 (fun r29 τ29 h29 => ?_)
      obtain ⟨rfl, rfl⟩ := h29
      refine x_goto dX4_setsOf_32 ?_
      exact x_iret dX4_setsOf_45 (by rw [show zt_set n r (nI h) u 5 9 = ((-6 : Int32), 6, r) from by simp only [zt_set, c5, k1, k2, show nI 9 = (9 : Int32) from rfl, nI_clamp (show h < 2 ^ 31 by omega), reduceIte, Bool.false_eq_true, Bool.true_eq_false, Bool.true_and, Bool.false_and, Bool.and_true, Bool.and_false, decide_eq_true_eq, decide_true, decide_false, not_true_eq_false, not_false_eq_true, zbT, zbF]]; exact ⟨rfl, Qm.no⟩)
    · refine x_top (show f_out (nI j) 0 9 = 0 from e) ?_
      refine x_goto dX4_setsOf_15 ?_
      refine x_istore (lv' := [(5, .int 0), (0, mx_rf E 35), (1, .int (nI h)), (2, .int 5), (3, .int (nI j)), (4, .int 9)]) dX4_setsOf_19 rfl (by decide) rfl ?_
      refine x_iload 0 dX4_setsOf_21 rfl ?_
      refine x_if_eq dX4_setsOf_23 (fun _ => ?_) (fun c => absurd c (by decide))
      refine x_aload_n 1 dX4_setsOf_35 rfl ?_
      refine x_iload_n 2 dX4_setsOf_36 rfl ?_
      refine x_iload_n 3 dX4_setsOf_37 rfl ?_
      refine clX4_44 (qX4_of h 5) (by decide) rfl dX4_setsOf_38 (fun r38 τ38 h38 => ?_)
      obtain ⟨rfl, rfl⟩ := h38
      refine x_iload_n 4 dX4_setsOf_41 rfl ?_
      refine clX4_131 (qX4_sets mx_row_s hw (6 + 6 * h + 5) (by omega) (nI j)) (by decide) rfl dX4_setsOf_42 (fun r42 τ42 h42 => ?_)
      obtain ⟨rfl, rfl⟩ := h42
      refine x_mem (mx_row_row _ _ _ _) ?_
      exact x_iret dX4_setsOf_45 (by rw [show zt_set n r (nI h) (nI j) 5 9 = ((r (6 + 6 * h + 5) : Int32), 0, upd r (6 + 6 * h + 5) (nI j)) from by simp only [zt_set, c5, k1, k2, show nI 9 = (9 : Int32) from rfl, nI_clamp (show h < 2 ^ 31 by omega), nI_clamp (show j < 2 ^ 31 by omega), reduceIte, Bool.false_eq_true, Bool.true_eq_false, Bool.true_and, Bool.false_and, Bool.and_true, Bool.and_false, decide_eq_true_eq, decide_true, decide_false, not_true_eq_false, not_false_eq_true, zbT, zbF]]; exact ⟨rfl, Qm.rf⟩)

set_option maxHeartbeats 4000000 in
theorem qX4_peoples {E : mx_E} {σ : Mem} {n : Nat} {r : Row} (h36 : σ 36 = r) (hw : wf n r) (house u : Int32) : MX4_peoples E 3 [mx_rf E 35, .int house, .int u] σ (mx_i (fun v τ => (zt_set n r house u 3 30).1 = v ∧ Sm (zt_set n r house u 3 30).2.2 (zt_set n r house u 3 30).2.1 σ τ)) := by
  refine MM.of (lv := [(0, mx_rf E 35), (1, .int house), (2, .int u)]) kpX4 rfl (Nat.le_of_ble_eq_true rfl) rfl ?_
  have hn6 := hw.1
  refine x_aload_n 0 dX4_peoples_0 rfl ?_
  refine x_iload_n 1 dX4_peoples_1 rfl ?_
  refine x_iconst (v := 3) dX4_peoples_2 (by decide) ?_
  refine x_iload_n 2 dX4_peoples_3 rfl ?_
  refine x_bipush (v := 30) dX4_peoples_4 (by decide) ?_
  refine clX4_134 (qX4_setsOf_3 h36 hw house u) (by decide) rfl dX4_peoples_6 (fun r6 τ6 h6 => ?_)
  obtain ⟨rfl, hS⟩ := h6
  exact x_iret dX4_peoples_9 ⟨rfl, hS⟩

set_option maxHeartbeats 4000000 in
theorem qX4_dents {E : mx_E} {σ : Mem} {n : Nat} {r : Row} (h36 : σ 36 = r) (hw : wf n r) (house u : Int32) : MX4_dents E 3 [mx_rf E 35, .int house, .int u] σ (mx_i (fun v τ => (zt_set n r house u 5 9).1 = v ∧ Sm (zt_set n r house u 5 9).2.2 (zt_set n r house u 5 9).2.1 σ τ)) := by
  refine MM.of (lv := [(0, mx_rf E 35), (1, .int house), (2, .int u)]) kpX4 rfl (Nat.le_of_ble_eq_true rfl) rfl ?_
  have hn6 := hw.1
  refine x_aload_n 0 dX4_dents_0 rfl ?_
  refine x_iload_n 1 dX4_dents_1 rfl ?_
  refine x_iconst (v := 5) dX4_dents_2 (by decide) ?_
  refine x_iload_n 2 dX4_dents_3 rfl ?_
  refine x_bipush (v := 9) dX4_dents_4 (by decide) ?_
  refine clX4_134 (qX4_setsOf_5 h36 hw house u) (by decide) rfl dX4_dents_6 (fun r6 τ6 h6 => ?_)
  obtain ⟨rfl, hS⟩ := h6
  exact x_iret dX4_dents_9 ⟨rfl, hS⟩

set_option maxHeartbeats 4000000 in
theorem qX4_airs {E : mx_E} {σ : Mem} {n : Nat} {r : Row} (h36 : σ 36 = r) (hw : wf n r) (house : Int32) : MX4_airs E 2 [mx_rf E 35, .int house] σ (mx_i (fun v τ => (zt_airs n r house).1 = v ∧ Sm (zt_airs n r house).2.2 (zt_airs n r house).2.1 σ τ)) := by
  refine MM.of (lv := [(0, mx_rf E 35), (1, .int house)]) kpX4 rfl (Nat.le_of_ble_eq_true rfl) rfl ?_
  have hn6 := hw.1
  refine x_mem (τ := mx_row σ 36 r) (by show σ = mx_row σ 36 r; rw [← h36]; exact (mx_row_self σ 36).symm) ?_
  refine x_aload_n 0 dX4_airs_0 rfl ?_
  refine x_iload_n 1 dX4_airs_1 rfl ?_
  refine clX4_111 (qX4_isHouse mx_row_s hw house) (by decide) rfl dX4_airs_2 (fun r2 τ2 h2 => ?_)
  obtain ⟨rfl, rfl⟩ := h2
  refine x_if_ne dX4_airs_5 (fun c5 => ?_) (fun c5 => ?_)
  · replace c5 := zb_1 c5
    obtain ⟨h, hh, rfl⟩ := f_inN_t (by omega) c5
    refine x_aload_n 0 dX4_airs_14 rfl ?_
    refine gfX4_9 dX4_airs_15 ?_
    refine x_iconst (v := 4) dX4_airs_18 (by decide) ?_
    refine x_ialdS (j := 4) (by decide) (by decide) (by decide) dX4_airs_19 ?_
    refine x_top (show (mx_row σ 36 r) 36 4 = r 4 from (congrFun mx_row_s _)) ?_
    refine x_iload_n 1 dX4_airs_20 rfl ?_
    refine clX4_48 (qX4_has (r 4) (nI h)) (by decide) rfl dX4_airs_21 (fun r21 τ21 h21 => ?_)
    obtain ⟨rfl, rfl⟩ := h21
    refine x_if_eq dX4_airs_24 (fun c24 => ?_) (fun c24 => ?_)
    · replace c24 := zb_0 c24
      refine x_aload_n 0 dX4_airs_40 rfl ?_
      refine x_bipush (v := -3) dX4_airs_41 (by decide) ?_
      refine clX4_36 (qX4_no 3 (by decide) (by decide)) (by decide) rfl dX4_airs_43 (fun r43 τ43 h43 => ?_)
      obtain ⟨rfl, rfl⟩ := h43
      exact x_iret dX4_airs_46 (by rw [show zt_airs n r (nI h) = ((-3 : Int32), 3, r) from by simp only [zt_airs, c5, c24, f_kept, nI_clamp (show h < 2 ^ 31 by omega), reduceIte, Bool.false_eq_true, Bool.true_eq_false, Bool.true_and, Bool.false_and, Bool.and_true, Bool.and_false, decide_eq_true_eq, decide_true, decide_false, not_true_eq_false, not_false_eq_true, zbT, zbF]]; exact ⟨rfl, Qm.no⟩)
    · replace c24 := zb_1 c24
      refine x_aload_n 0 dX4_airs_27 rfl ?_
      refine x_iload_n 1 dX4_airs_28 rfl ?_
      refine x_iconst (v := 4) dX4_airs_29 (by decide) ?_
      refine clX4_44 (qX4_of h 4) (by decide) rfl dX4_airs_30 (fun r30 τ30 h30 => ?_)
      obtain ⟨rfl, rfl⟩ := h30
      refine x_iconst (v := 0) dX4_airs_33 (by decide) ?_
      refine clX4_131 (qX4_sets mx_row_s hw (6 + 6 * h + 4) (by omega) 0) (by decide) rfl dX4_airs_34 (fun r34 τ34 h34 => ?_)
      obtain ⟨rfl, rfl⟩ := h34
      refine x_mem (mx_row_row _ _ _ _) ?_
      refine x_goto dX4_airs_37 ?_
      exact x_iret dX4_airs_46 (by rw [show zt_airs n r (nI h) = ((r (6 + 6 * h + 4) : Int32), 0, upd r (6 + 6 * h + 4) 0) from by simp only [zt_airs, c5, c24, f_kept, nI_clamp (show h < 2 ^ 31 by omega), reduceIte, Bool.false_eq_true, Bool.true_eq_false, Bool.true_and, Bool.false_and, Bool.and_true, Bool.and_false, decide_eq_true_eq, decide_true, decide_false, not_true_eq_false, not_false_eq_true, zbT, zbF]]; exact ⟨rfl, Qm.rf⟩)
  · replace c5 := zb_0 c5
    refine x_aload_n 0 dX4_airs_8 rfl ?_
    refine x_iconst (v := -1) dX4_airs_9 (by decide) ?_
    refine clX4_36 (qX4_no 1 (by decide) (by decide)) (by decide) rfl dX4_airs_10 (fun r10 τ10 h10 => ?_)
    obtain ⟨rfl, rfl⟩ := h10
    exact x_iret dX4_airs_13 (by rw [show zt_airs n r house = ((-1 : Int32), 1, r) from by simp only [zt_airs, c5, f_kept, reduceIte, Bool.false_eq_true, Bool.true_eq_false, Bool.true_and, Bool.false_and, Bool.and_true, Bool.and_false, decide_eq_true_eq, decide_true, decide_false, not_true_eq_false, not_false_eq_true, zbT, zbF]]; exact ⟨rfl, Qm.no⟩)

set_option maxHeartbeats 4000000 in
theorem qX4_visits {E : mx_E} {σ : Mem} {n : Nat} {r : Row} (h36 : σ 36 = r) (hw : wf n r) (house : Int32) : MX4_visits E 2 [mx_rf E 35, .int house] σ (mx_i (fun v τ => (zt_visits n r house).1 = v ∧ Sm (zt_visits n r house).2.2 (zt_visits n r house).2.1 σ τ)) := by
  refine MM.of (lv := [(0, mx_rf E 35), (1, .int house)]) kpX4 rfl (Nat.le_of_ble_eq_true rfl) rfl ?_
  have hn6 := hw.1
  refine x_mem (τ := mx_row σ 36 r) (by show σ = mx_row σ 36 r; rw [← h36]; exact (mx_row_self σ 36).symm) ?_
  refine x_aload_n 0 dX4_visits_0 rfl ?_
  refine x_iload_n 1 dX4_visits_1 rfl ?_
  refine clX4_111 (qX4_isHouse mx_row_s hw house) (by decide) rfl dX4_visits_2 (fun r2 τ2 h2 => ?_)
  obtain ⟨rfl, rfl⟩ := h2
  refine x_if_eq dX4_visits_5 (fun c5 => ?_) (fun c5 => ?_)
  · replace c5 := zb_0 c5
    refine x_aload_n 0 dX4_visits_17 rfl ?_
    refine x_iconst (v := -1) dX4_visits_18 (by decide) ?_
    refine clX4_36 (qX4_no 1 (by decide) (by decide)) (by decide) rfl dX4_visits_19 (fun r19 τ19 h19 => ?_)
    obtain ⟨rfl, rfl⟩ := h19
    exact x_iret dX4_visits_22 (by rw [show zt_visits n r house = ((-1 : Int32), 1, r) from by simp only [zt_visits, c5, reduceIte, Bool.false_eq_true, Bool.true_eq_false, Bool.true_and, Bool.false_and, Bool.and_true, Bool.and_false, decide_eq_true_eq, decide_true, decide_false, not_true_eq_false, not_false_eq_true, zbT, zbF]]; exact ⟨rfl, Qm.no⟩)
  · replace c5 := zb_1 c5
    obtain ⟨h, hh, rfl⟩ := f_inN_t (by omega) c5
    refine x_aload_n 0 dX4_visits_8 rfl ?_
    refine x_iconst (v := 2) dX4_visits_9 (by decide) ?_
    refine x_iload_n 1 dX4_visits_10 rfl ?_
    refine clX4_131 (qX4_sets mx_row_s hw 2 (by omega) (nI h)) (by decide) rfl dX4_visits_11 (fun r11 τ11 h11 => ?_)
    obtain ⟨rfl, rfl⟩ := h11
    refine x_mem (mx_row_row _ _ _ _) ?_
    refine x_goto dX4_visits_14 ?_
    exact x_iret dX4_visits_22 (by rw [show zt_visits n r (nI h) = ((r 2 : Int32), 0, upd r 2 (nI h)) from by simp only [zt_visits, c5, nI_clamp (show h < 2 ^ 31 by omega), reduceIte, Bool.false_eq_true, Bool.true_eq_false, Bool.true_and, Bool.false_and, Bool.and_true, Bool.and_false, decide_eq_true_eq, decide_true, decide_false, not_true_eq_false, not_false_eq_true, zbT, zbF]]; exact ⟨rfl, Qm.rf⟩)

set_option maxHeartbeats 4000000 in
theorem qX4_candles {E : mx_E} {σ : Mem} {n : Nat} {r : Row} (h36 : σ 36 = r) (hw : wf n r) (u : Int32) : MX4_candles E 2 [mx_rf E 35, .int u] σ (mx_i (fun v τ => (zt_candles n r u).1 = v ∧ Sm (zt_candles n r u).2.2 (zt_candles n r u).2.1 σ τ)) := by
  refine MM.of (lv := [(0, mx_rf E 35), (1, .int u)]) kpX4 rfl (Nat.le_of_ble_eq_true rfl) rfl ?_
  have hn6 := hw.1
  refine x_mem (τ := mx_row σ 36 r) (by show σ = mx_row σ 36 r; rw [← h36]; exact (mx_row_self σ 36).symm) ?_
  refine x_iload_n 1 dX4_candles_0 rfl ?_
  refine x_iconst (v := 0) dX4_candles_1 (by decide) ?_
  refine x_sipush (v := 999) dX4_candles_2 (by decide) ?_
  refine clX4_128 (qX4_wrongBy u 0 999) (by decide) rfl dX4_candles_5 (fun r5 τ5 h5 => ?_)
  obtain ⟨rfl, rfl⟩ := h5
  rcases f_out_c (v := u) (lo := 0) (hi := 999) (l := 0) (h := 999) (by decide) (by decide) rfl rfl with ⟨k1, e⟩ | ⟨k1, k2, e⟩ | ⟨j, hk1, hk2, rfl, k1, k2, e⟩
  · refine x_top (show f_out u 0 999 = -4 from e) ?_
    refine x_istore_n (lv' := [(2, .int (-4)), (0, mx_rf E 35), (1, .int u)]) dX4_candles_8 rfl (by decide) rfl ?_
    refine x_iload_n 0 dX4_candles_9 rfl ?_
    refine x_if_eq dX4_candles_10 (fun c => absurd c (by decide)) (fun _ => ?_)
    refine x_aload_n 1 dX4_candles_13 rfl ?_
    refine x_iload_n 0 dX4_candles_14 rfl ?_
    refine clX4_36 (qX4_no 4 (by decide) (by decide)) (by decide) rfl dX4_candles_15 (fun r15 τ15 h15 => ?_)
    obtain ⟨rfl, rfl⟩ := h15
    refine x_goto dX4_candles_18 ?_
    exact x_iret dX4_candles_27 (by rw [show zt_candles n r u = ((-4 : Int32), 4, r) from by simp only [zt_candles, k1, reduceIte, Bool.false_eq_true, Bool.true_eq_false, Bool.true_and, Bool.false_and, Bool.and_true, Bool.and_false, decide_eq_true_eq, decide_true, decide_false, not_true_eq_false, not_false_eq_true, zbT, zbF]]; exact ⟨rfl, Qm.no⟩)
  · refine x_top (show f_out u 0 999 = -6 from e) ?_
    refine x_istore_n (lv' := [(2, .int (-6)), (0, mx_rf E 35), (1, .int u)]) dX4_candles_8 rfl (by decide) rfl ?_
    refine x_iload_n 0 dX4_candles_9 rfl ?_
    refine x_if_eq dX4_candles_10 (fun c => absurd c (by decide)) (fun _ => ?_)
    refine x_aload_n 1 dX4_candles_13 rfl ?_
    refine x_iload_n 0 dX4_candles_14 rfl ?_
    refine clX4_36 (qX4_no 6 (by decide) (by decide)) (by decide) rfl dX4_candles_15 (fun r15 τ15 h15 => ?_)
    obtain ⟨rfl, rfl⟩ := h15
    refine x_goto dX4_candles_18 ?_
    exact x_iret dX4_candles_27 (by rw [show zt_candles n r u = ((-6 : Int32), 6, r) from by simp only [zt_candles, k1, k2, reduceIte, Bool.false_eq_true, Bool.true_eq_false, Bool.true_and, Bool.false_and, Bool.and_true, Bool.and_false, decide_eq_true_eq, decide_true, decide_false, not_true_eq_false, not_false_eq_true, zbT, zbF]]; exact ⟨rfl, Qm.no⟩)
  · refine x_top (show f_out (nI j) 0 999 = 0 from e) ?_
    refine x_istore_n (lv' := [(2, .int 0), (0, mx_rf E 35), (1, .int (nI j))]) dX4_candles_8 rfl (by decide) rfl ?_
    refine x_iload_n 0 dX4_candles_9 rfl ?_
    refine x_if_eq dX4_candles_10 (fun _ => ?_) (fun c => absurd c (by decide))
    refine x_aload_n 1 dX4_candles_21 rfl ?_
    refine x_iconst (v := 3) dX4_candles_22 (by decide) ?_
    refine x_iload_n 2 dX4_candles_23 rfl ?_
    refine clX4_131 (qX4_sets mx_row_s hw 3 (by omega) (nI j)) (by decide) rfl dX4_candles_24 (fun r24 τ24 h24 => ?_)
    obtain ⟨rfl, rfl⟩ := h24
    refine x_mem (mx_row_row _ _ _ _) ?_
    exact x_iret dX4_candles_27 (by rw [show zt_candles n r (nI j) = ((r 3 : Int32), 0, upd r 3 (nI j)) from by simp only [zt_candles, k1, k2, nI_clamp (show j < 2 ^ 31 by omega), reduceIte, Bool.false_eq_true, Bool.true_eq_false, Bool.true_and, Bool.false_and, Bool.and_true, Bool.and_false, decide_eq_true_eq, decide_true, decide_false, not_true_eq_false, not_false_eq_true, zbT, zbF]]; exact ⟨rfl, Qm.rf⟩)

set_option maxHeartbeats 4000000 in
theorem qX4_keeps {E : mx_E} {σ : Mem} {n : Nat} {r : Row} (h36 : σ 36 = r) (hw : wf n r) (house : Int32) : MX4_keeps E 2 [mx_rf E 35, .int house] σ (mx_i (fun v τ => (zt_keeps n r house).1 = v ∧ Sm (zt_keeps n r house).2.2 (zt_keeps n r house).2.1 σ τ)) := by
  refine MM.of (lv := [(0, mx_rf E 35), (1, .int house)]) kpX4 rfl (Nat.le_of_ble_eq_true rfl) rfl ?_
  have hn6 := hw.1
  refine x_mem (τ := mx_row σ 36 r) (by show σ = mx_row σ 36 r; rw [← h36]; exact (mx_row_self σ 36).symm) ?_
  refine x_aload_n 0 dX4_keeps_0 rfl ?_
  refine x_iload_n 1 dX4_keeps_1 rfl ?_
  refine clX4_111 (qX4_isHouse mx_row_s hw house) (by decide) rfl dX4_keeps_2 (fun r2 τ2 h2 => ?_)
  obtain ⟨rfl, rfl⟩ := h2
  refine x_if_ne dX4_keeps_5 (fun c5 => ?_) (fun c5 => ?_)
  · replace c5 := zb_1 c5
    obtain ⟨h, hh, rfl⟩ := f_inN_t (by omega) c5
    refine x_aload_n 0 dX4_keeps_14 rfl ?_
    refine gfX4_9 dX4_keeps_15 ?_
    refine x_iconst (v := 4) dX4_keeps_18 (by decide) ?_
    refine x_dup2 dX4_keeps_19 rfl rfl ?_
    refine x_ialdS (j := 4) (by decide) (by decide) (by decide) dX4_keeps_20 ?_
    refine x_top (show (mx_row σ 36 r) 36 4 = r 4 from (congrFun mx_row_s _)) ?_
    refine x_iconst (v := 1) dX4_keeps_21 (by decide) ?_
    refine x_iload_n 1 dX4_keeps_22 rfl ?_
    refine x_ishl dX4_keeps_23 ?_
    refine x_ixor dX4_keeps_24 ?_
    refine x_iastR (j := 4) (by decide) (by decide) (by decide) dX4_keeps_25 ?_
    refine x_mem (τ := mx_row σ 36 (f_tog r h)) (congrArg (mx_row σ 36) (show upd r 4 ((r 4) ^^^ (1 <<< ((nI h) &&& 31))) = f_tog r h from rfl)) ?_
    refine x_aload_n 0 dX4_keeps_26 rfl ?_
    refine gfX4_9 dX4_keeps_27 ?_
    refine x_iconst (v := 4) dX4_keeps_30 (by decide) ?_
    refine x_ialdS (j := 4) (by decide) (by decide) (by decide) dX4_keeps_31 ?_
    refine x_top (show (mx_row σ 36 (f_tog r h)) 36 4 = (f_tog r h) 4 from (congrFun mx_row_s _)) ?_
    refine x_iload_n 1 dX4_keeps_32 rfl ?_
    refine x_ishr dX4_keeps_33 ?_
    refine x_iconst (v := 1) dX4_keeps_34 (by decide) ?_
    refine x_iand dX4_keeps_35 ?_
    refine x_top (show (((f_tog r h) 4) >>> ((nI h) &&& 31)) &&& 1 = zb (!f_kept r h) from (by rw [f_kept_v (wf_tog hw hh) hh, f_tog_k hw hh hh, if_pos rfl])) ?_
    exact x_iret dX4_keeps_36 (by rw [show zt_keeps n r (nI h) = ((zb (!f_kept r h) : Int32), 0, f_tog r h) from by simp only [zt_keeps, c5, nI_clamp (show h < 2 ^ 31 by omega), reduceIte, Bool.false_eq_true, Bool.true_eq_false, Bool.true_and, Bool.false_and, Bool.and_true, Bool.and_false, decide_eq_true_eq, decide_true, decide_false, not_true_eq_false, not_false_eq_true, zbT, zbF]]; exact ⟨rfl, Qm.rf⟩)
  · replace c5 := zb_0 c5
    refine x_aload_n 0 dX4_keeps_8 rfl ?_
    refine x_iconst (v := -1) dX4_keeps_9 (by decide) ?_
    refine clX4_36 (qX4_no 1 (by decide) (by decide)) (by decide) rfl dX4_keeps_10 (fun r10 τ10 h10 => ?_)
    obtain ⟨rfl, rfl⟩ := h10
    exact x_iret dX4_keeps_13 (by rw [show zt_keeps n r house = ((-1 : Int32), 1, r) from by simp only [zt_keeps, c5, reduceIte, Bool.false_eq_true, Bool.true_eq_false, Bool.true_and, Bool.false_and, Bool.and_true, Bool.and_false, decide_eq_true_eq, decide_true, decide_false, not_true_eq_false, not_false_eq_true, zbT, zbF]]; exact ⟨rfl, Qm.no⟩)

set_option maxHeartbeats 4000000 in
theorem qX4_turn {E : mx_E} {σ : Mem} {n : Nat} {r : Row} (h36 : σ 36 = r) (hw : wf n r) (house kind figure : Int32) : MX4_turn E 2 [mx_rf E 35, .int house, .int kind, .int figure] σ (mx_i (fun v τ => (zt_turn n r house kind figure).1 = v ∧ Sm (zt_turn n r house kind figure).2.2 (zt_turn n r house kind figure).2.1 σ τ)) := by
  refine MM.of (lv := [(0, mx_rf E 35), (1, .int house), (2, .int kind), (3, .int figure)]) kpX4 rfl (Nat.le_of_ble_eq_true rfl) rfl ?_
  have hn6 := hw.1
  refine x_mem (τ := mx_row σ 36 r) (by show σ = mx_row σ 36 r; rw [← h36]; exact (mx_row_self σ 36).symm) ?_
  refine x_aload_n 0 dX4_turn_0 rfl ?_
  refine x_iload_n 1 dX4_turn_1 rfl ?_
  refine clX4_111 (qX4_isHouse mx_row_s hw house) (by decide) rfl dX4_turn_2 (fun r2 τ2 h2 => ?_)
  obtain ⟨rfl, rfl⟩ := h2
  refine x_if_ne dX4_turn_5 (fun c5 => ?_) (fun c5 => ?_)
  · replace c5 := zb_1 c5
    obtain ⟨h, hh, rfl⟩ := f_inN_t (by omega) c5
    refine x_iload_n 2 dX4_turn_12 rfl ?_
    refine x_iconst (v := 0) dX4_turn_13 (by decide) ?_
    refine x_iconst (v := 5) dX4_turn_14 (by decide) ?_
    refine clX4_40 (qX4_isIn kind 0 5) (by decide) rfl dX4_turn_15 (fun r15 τ15 h15 => ?_)
    obtain ⟨rfl, rfl⟩ := h15
    refine x_if_ne dX4_turn_18 (fun c18 => ?_) (fun c18 => ?_)
    · replace c18 := zb_1 c18
      refine x_iload_n 3 dX4_turn_26 rfl ?_
      refine x_iconst (v := 0) dX4_turn_27 (by decide) ?_
      refine x_bipush (v := 9) dX4_turn_28 (by decide) ?_
      refine clX4_128 (qX4_wrongBy figure 0 9) (by decide) rfl dX4_turn_30 (fun r30 τ30 h30 => ?_)
      obtain ⟨rfl, rfl⟩ := h30
      rcases f_out_c (v := figure) (lo := 0) (hi := 9) (l := 0) (h := 9) (by decide) (by decide) rfl rfl with ⟨k1, e⟩ | ⟨k1, k2, e⟩ | ⟨j, hk1, hk2, rfl, k1, k2, e⟩
      · refine x_top (show f_out figure 0 9 = -4 from e) ?_
        refine x_istore (lv' := [(4, .int (-4)), (0, mx_rf E 35), (1, .int (nI h)), (2, .int kind), (3, .int figure)]) dX4_turn_33 rfl (by decide) rfl ?_
        refine x_iload 0 dX4_turn_35 rfl ?_
        refine x_if_eq dX4_turn_37 (fun c => absurd c (by decide)) (fun _ => ?_)
        refine x_aload_n 1 dX4_turn_40 rfl ?_
        refine x_iload 0 dX4_turn_41 rfl ?_
        refine clX4_36 (qX4_no 4 (by decide) (by decide)) (by decide) rfl dX4_turn_43 (fun r43 τ43 h43 => ?_)
        obtain ⟨rfl, rfl⟩ := h43
        exact x_iret dX4_turn_46 (by rw [show zt_turn n r (nI h) kind figure = ((-4 : Int32), 4, r) from by simp only [zt_turn, c5, c18, k1, nI_clamp (show h < 2 ^ 31 by omega), reduceIte, Bool.false_eq_true, Bool.true_eq_false, Bool.true_and, Bool.false_and, Bool.and_true, Bool.and_false, decide_eq_true_eq, decide_true, decide_false, not_true_eq_false, not_false_eq_true, zbT, zbF]]; exact ⟨rfl, Qm.no⟩)
      · refine x_top (show f_out figure 0 9 = -6 from e) ?_
        refine x_istore (lv' := [(4, .int (-6)), (0, mx_rf E 35), (1, .int (nI h)), (2, .int kind), (3, .int figure)]) dX4_turn_33 rfl (by decide) rfl ?_
        refine x_iload 0 dX4_turn_35 rfl ?_
        refine x_if_eq dX4_turn_37 (fun c => absurd c (by decide)) (fun _ => ?_)
        refine x_aload_n 1 dX4_turn_40 rfl ?_
        refine x_iload 0 dX4_turn_41 rfl ?_
        refine clX4_36 (qX4_no 6 (by decide) (by decide)) (by decide) rfl dX4_turn_43 (fun r43 τ43 h43 => ?_)
        obtain ⟨rfl, rfl⟩ := h43
        exact x_iret dX4_turn_46 (by rw [show zt_turn n r (nI h) kind figure = ((-6 : Int32), 6, r) from by simp only [zt_turn, c5, c18, k1, k2, nI_clamp (show h < 2 ^ 31 by omega), reduceIte, Bool.false_eq_true, Bool.true_eq_false, Bool.true_and, Bool.false_and, Bool.and_true, Bool.and_false, decide_eq_true_eq, decide_true, decide_false, not_true_eq_false, not_false_eq_true, zbT, zbF]]; exact ⟨rfl, Qm.no⟩)
      · refine x_top (show f_out (nI j) 0 9 = 0 from e) ?_
        refine x_istore (lv' := [(4, .int 0), (0, mx_rf E 35), (1, .int (nI h)), (2, .int kind), (3, .int (nI j))]) dX4_turn_33 rfl (by decide) rfl ?_
        refine x_iload 0 dX4_turn_35 rfl ?_
        refine x_if_eq dX4_turn_37 (fun _ => ?_) (fun c => absurd c (by decide))
        refine x_bipush (v := 10) dX4_turn_47 (by decide) ?_
        refine x_aload_n 1 dX4_turn_49 rfl ?_
        refine gfX4_9 dX4_turn_50 ?_
        refine x_iload_n 2 dX4_turn_53 rfl ?_
        refine x_iconst (v := 0) dX4_turn_54 (by decide) ?_
        refine clX4_44 (qX4_of0 h) (by decide) rfl dX4_turn_55 (fun r55 τ55 h55 => ?_)
        obtain ⟨rfl, rfl⟩ := h55
        refine x_ialdS (j := 6 + 6 * h) (by decide) (by decide) (by omega) dX4_turn_58 ?_
        refine x_top (show (mx_row σ 36 r) 36 (6 + 6 * h) = r (6 + 6 * h) from (congrFun mx_row_s _)) ?_
        refine x_imul dX4_turn_59 ?_
        refine x_aload_n 1 dX4_turn_60 rfl ?_
        refine gfX4_9 dX4_turn_61 ?_
        refine x_iload_n 2 dX4_turn_64 rfl ?_
        refine x_iconst (v := 1) dX4_turn_65 (by decide) ?_
        refine clX4_44 (qX4_of h 1) (by decide) rfl dX4_turn_66 (fun r66 τ66 h66 => ?_)
        obtain ⟨rfl, rfl⟩ := h66
        refine x_ialdS (j := 6 + 6 * h + 1) (by decide) (by decide) (by omega) dX4_turn_69 ?_
        refine x_top (show (mx_row σ 36 r) 36 (6 + 6 * h + 1) = r (6 + 6 * h + 1) from (congrFun mx_row_s _)) ?_
        refine x_iadd dX4_turn_70 ?_
        refine x_istore (lv' := [(5, .int ((10 * (r (6 + 6 * h))) + (r (6 + 6 * h + 1)))), (4, .int 0), (0, mx_rf E 35), (1, .int (nI h)), (2, .int kind), (3, .int (nI j))]) dX4_turn_71 rfl (by decide) rfl ?_
        refine x_aload_n 2 dX4_turn_73 rfl ?_
        refine gfX4_9 dX4_turn_74 ?_
        refine x_iload_n 3 dX4_turn_77 rfl ?_
        refine x_iconst (v := 0) dX4_turn_78 (by decide) ?_
        refine clX4_44 (qX4_of0 h) (by decide) rfl dX4_turn_79 (fun r79 τ79 h79 => ?_)
        obtain ⟨rfl, rfl⟩ := h79
        refine x_iload_n 4 dX4_turn_82 rfl ?_
        refine x_iastR (j := 6 + 6 * h) (by decide) (by decide) (by omega) dX4_turn_83 ?_
        refine x_aload_n 2 dX4_turn_84 rfl ?_
        refine gfX4_9 dX4_turn_85 ?_
        refine x_iload_n 3 dX4_turn_88 rfl ?_
        refine x_iconst (v := 1) dX4_turn_89 (by decide) ?_
        refine clX4_44 (qX4_of h 1) (by decide) rfl dX4_turn_90 (fun r90 τ90 h90 => ?_)
        obtain ⟨rfl, rfl⟩ := h90
        refine x_iload_n 5 dX4_turn_93 rfl ?_
        refine x_iastR (j := 6 + 6 * h + 1) (by decide) (by decide) (by omega) dX4_turn_94 ?_
        refine x_iload 0 dX4_turn_95 rfl ?_
        exact x_iret dX4_turn_97 (by rw [show zt_turn n r (nI h) kind (nI j) = (((10 * (r (6 + 6 * h))) + (r (6 + 6 * h + 1)) : Int32), 0, upd (upd r (6 + 6 * h) kind) (6 + 6 * h + 1) (nI j)) from by simp only [zt_turn, c5, c18, k1, k2, nI_clamp (show h < 2 ^ 31 by omega), nI_clamp (show j < 2 ^ 31 by omega), reduceIte, Bool.false_eq_true, Bool.true_eq_false, Bool.true_and, Bool.false_and, Bool.and_true, Bool.and_false, decide_eq_true_eq, decide_true, decide_false, not_true_eq_false, not_false_eq_true, zbT, zbF]]; exact ⟨rfl, Qm.rf⟩)
    · replace c18 := zb_0 c18
      refine x_bipush (v := -2) dX4_turn_21 (by decide) ?_
      refine x_goto dX4_turn_23 ?_
      refine x_istore (lv' := [(4, .int (-2)), (0, mx_rf E 35), (1, .int (nI h)), (2, .int kind), (3, .int figure)]) dX4_turn_33 rfl (by decide) rfl ?_
      refine x_iload 0 dX4_turn_35 rfl ?_
      refine x_if_eq dX4_turn_37 (fun c => absurd c (by decide)) (fun _ => ?_)
      refine x_aload_n 1 dX4_turn_40 rfl ?_
      refine x_iload 0 dX4_turn_41 rfl ?_
      refine clX4_36 (qX4_no 2 (by decide) (by decide)) (by decide) rfl dX4_turn_43 (fun r43 τ43 h43 => ?_)
      obtain ⟨rfl, rfl⟩ := h43
      exact x_iret dX4_turn_46 (by rw [show zt_turn n r (nI h) kind figure = ((-2 : Int32), 2, r) from by simp only [zt_turn, c5, c18, nI_clamp (show h < 2 ^ 31 by omega), reduceIte, Bool.false_eq_true, Bool.true_eq_false, Bool.true_and, Bool.false_and, Bool.and_true, Bool.and_false, decide_eq_true_eq, decide_true, decide_false, not_true_eq_false, not_false_eq_true, zbT, zbF]]; exact ⟨rfl, Qm.no⟩)
  · replace c5 := zb_0 c5
    refine x_iconst (v := -1) dX4_turn_8 (by decide) ?_
    refine x_goto dX4_turn_9 ?_
    refine x_istore (lv' := [(4, .int (-1)), (0, mx_rf E 35), (1, .int house), (2, .int kind), (3, .int figure)]) dX4_turn_33 rfl (by decide) rfl ?_
    refine x_iload 0 dX4_turn_35 rfl ?_
    refine x_if_eq dX4_turn_37 (fun c => absurd c (by decide)) (fun _ => ?_)
    refine x_aload_n 1 dX4_turn_40 rfl ?_
    refine x_iload 0 dX4_turn_41 rfl ?_
    refine clX4_36 (qX4_no 1 (by decide) (by decide)) (by decide) rfl dX4_turn_43 (fun r43 τ43 h43 => ?_)
    obtain ⟨rfl, rfl⟩ := h43
    exact x_iret dX4_turn_46 (by rw [show zt_turn n r house kind figure = ((-1 : Int32), 1, r) from by simp only [zt_turn, c5, reduceIte, Bool.false_eq_true, Bool.true_eq_false, Bool.true_and, Bool.false_and, Bool.and_true, Bool.and_false, decide_eq_true_eq, decide_true, decide_false, not_true_eq_false, not_false_eq_true, zbT, zbF]]; exact ⟨rfl, Qm.no⟩)

set_option maxHeartbeats 4000000 in
theorem qX4_weeks {E : mx_E} {σ : Mem} {n : Nat} {r : Row} (h36 : σ 36 = r) (hw : wf n r) (k : Int32) : MX4_weeks E 6 [mx_rf E 35, .int k] σ (mx_i (fun v τ => (zt_weeks n r k).1 = v ∧ Sm (zt_weeks n r k).2.2 (zt_weeks n r k).2.1 σ τ)) := by
  refine MM.of (lv := [(0, mx_rf E 35), (1, .int k)]) kpX4 rfl (Nat.le_of_ble_eq_true rfl) rfl ?_
  have hn6 := hw.1
  refine x_mem (τ := mx_row σ 36 r) (by show σ = mx_row σ 36 r; rw [← h36]; exact (mx_row_self σ 36).symm) ?_
  refine x_iload_n 1 dX4_weeks_0 rfl ?_
  refine x_iconst (v := 1) dX4_weeks_1 (by decide) ?_
  refine x_icmp_ge dX4_weeks_2 (fun c2 => ?_) (fun c2 => ?_)
  · refine x_iload_n 1 dX4_weeks_12 rfl ?_
    refine x_bipush (v := 60) dX4_weeks_13 (by decide) ?_
    refine x_icmp_gt dX4_weeks_15 (fun c15 => ?_) (fun c15 => ?_)
    · refine x_aload_n 0 dX4_weeks_32 rfl ?_
      refine x_bipush (v := -6) dX4_weeks_33 (by decide) ?_
      refine clX4_36 (qX4_no 6 (by decide) (by decide)) (by decide) rfl dX4_weeks_35 (fun r35 τ35 h35 => ?_)
      obtain ⟨rfl, rfl⟩ := h35
      exact x_iret dX4_weeks_38 (by rw [show zt_weeks n r k = (-6, 6, r) from by simp [zt_weeks, c2, (Int32.not_lt.mpr c2), c15, (Int32.not_le.mpr c15)]]; exact ⟨rfl, Qm.no⟩)
    · refine x_aload_n 0 dX4_weeks_18 rfl ?_
      refine gfX4_9 dX4_weeks_19 ?_
      refine x_iconst (v := 1) dX4_weeks_22 (by decide) ?_
      refine x_ialdS (j := 1) (by decide) (by decide) (by decide) dX4_weeks_23 ?_
      refine x_top (show (mx_row σ 36 r) 36 1 = r 1 from (congrFun mx_row_s _)) ?_
      refine x_iload_n 1 dX4_weeks_24 rfl ?_
      refine x_iadd dX4_weeks_25 ?_
      refine x_sipush (v := 999) dX4_weeks_26 (by decide) ?_
      refine x_icmp_le dX4_weeks_29 (fun c29 => ?_) (fun c29 => ?_)
      · obtain ⟨j, hj1, hj2, rfl⟩ := f_in_ab (a := 1) (b := 60) (by decide) (by decide) (Int32.not_lt.mpr c2) c15
        refine x_aload_n 0 dX4_weeks_39 rfl ?_
        refine gfX4_9 dX4_weeks_40 ?_
        refine x_iload_n 1 dX4_weeks_43 rfl ?_
        refine clX4_115 (gX4_weeksOn (by decide) (by decide) mx_row_s n hw j (by omega)) (by decide) rfl dX4_weeks_44 (fun τ44 h44 => ?_)
        obtain rfl := h44
        refine x_mem (mx_row_row _ _ _ _) ?_
        refine x_aload_n 0 dX4_weeks_47 rfl ?_
        refine gfX4_9 dX4_weeks_48 ?_
        refine x_iconst (v := 4) dX4_weeks_51 (by decide) ?_
        refine x_ialdS (j := 4) (by decide) (by decide) (by decide) dX4_weeks_52 ?_
        refine x_top (show (mx_row σ 36 (f_weeks n r j)) 36 4 = (f_weeks n r j) 4 from (congrFun mx_row_s _)) ?_
        refine clX4_138 (qX4_bits ((f_weeks n r j) 4)) (by decide) rfl dX4_weeks_53 (fun r53 τ53 h53 => ?_)
        obtain ⟨rfl, rfl⟩ := h53
        exact x_iret dX4_weeks_56 (by rw [show zt_weeks n r (nI j) = (f_bits ((f_weeks n r j) 4), 0, f_weeks n r j) from by simp [zt_weeks, c2, (Int32.not_lt.mpr c2), c15, (Int32.not_lt.mp c15), c29, (Int32.not_lt.mpr c29), nI_clamp (show j < 2 ^ 31 by omega)]]; exact ⟨rfl, Qm.rf⟩)
      · refine x_aload_n 0 dX4_weeks_32 rfl ?_
        refine x_bipush (v := -6) dX4_weeks_33 (by decide) ?_
        refine clX4_36 (qX4_no 6 (by decide) (by decide)) (by decide) rfl dX4_weeks_35 (fun r35 τ35 h35 => ?_)
        obtain ⟨rfl, rfl⟩ := h35
        exact x_iret dX4_weeks_38 (by rw [show zt_weeks n r k = (-6, 6, r) from by simp [zt_weeks, c2, (Int32.not_lt.mpr c2), c15, (Int32.not_lt.mp c15), c29, (Int32.not_le.mp c29)]]; exact ⟨rfl, Qm.no⟩)
  · refine x_aload_n 0 dX4_weeks_5 rfl ?_
    refine x_bipush (v := -4) dX4_weeks_6 (by decide) ?_
    refine clX4_36 (qX4_no 4 (by decide) (by decide)) (by decide) rfl dX4_weeks_8 (fun r8 τ8 h8 => ?_)
    obtain ⟨rfl, rfl⟩ := h8
    exact x_iret dX4_weeks_11 (by rw [show zt_weeks n r k = (-4, 4, r) from by simp [zt_weeks, c2, (Int32.not_le.mp c2)]]; exact ⟨rfl, Qm.no⟩)

set_option maxHeartbeats 4000000 in
theorem qX4_letter {E : mx_E} {σ : Mem} {n : Nat} {r : Row} {hi : Bool} {ni : Nat} {ri : Row} {lm : Nat} {L : Row} {rm : Nat} {R f : Row} (hM : MI σ (zs n r hi ni ri lm L rm R f)) (ok : (zs n r hi ni ri lm L rm R f).ok) (c : Int32) : MX4_letter E 1 [mx_rf E 35, .int c] σ (mx_i (fun v τ => (a_letter (zs n r hi ni ri lm L rm R f) c).1 = v ∧ MI τ (a_letter (zs n r hi ni ri lm L rm R f) c).2 ∧ FM σ τ)) := by
  refine MM.of (lv := [(0, mx_rf E 35), (1, .int c)]) kpX4 rfl (Nat.le_of_ble_eq_true rfl) rfl ?_
  have h36 : σ 36 = r := hM.1
  have hw : wf n r := ok.1
  have hn6 : n ≤ 6 := hw.1
  have hlm : lm ≤ 96 := ok.2.2.2.1
  have hrm : rm ≤ 16 := ok.2.2.2.2
  have hz2 : σ 35 8 = nI lm := hM.2.2.2.1
  have hz : σ 35 9 = nI rm := hM.2.2.2.2.2.1
  refine x_iload_n 1 dX4_letter_0 rfl ?_
  refine x_if_ge dX4_letter_1 (fun c1 => ?_) (fun c1 => ?_)
  · refine x_iload_n 1 dX4_letter_11 rfl ?_
    refine x_sipush (v := 255) dX4_letter_12 (by decide) ?_
    refine x_icmp_gt dX4_letter_15 (fun c15 => ?_) (fun c15 => ?_)
    · refine x_aload_n 0 dX4_letter_27 rfl ?_
      refine x_bipush (v := -6) dX4_letter_28 (by decide) ?_
      refine clX4_36 (qX4_no 6 (by decide) (by decide)) (by decide) rfl dX4_letter_30 (fun r30 τ30 h30 => ?_)
      obtain ⟨rfl, rfl⟩ := h30
      exact x_iret dX4_letter_33 (by rw [show a_letter (zs n r hi ni ri lm L rm R f) c = ((-6 : Int32), (zs n r hi ni ri lm L rm R f).no 6) from by simp [a_letter, c1, (Int32.not_lt.mpr c1), c15, (Int32.not_le.mpr c15)]]; exact ⟨rfl, hM.q Qm.no, Qm.no.fm⟩)
    · refine x_aload_n 0 dX4_letter_18 rfl ?_
      refine gfX4_87 dX4_letter_19 ?_
      refine x_top (show σ 35 8 = nI lm from hz2) ?_
      refine x_bipush (v := 96) dX4_letter_22 (by decide) ?_
      refine x_icmp_ne dX4_letter_24 (fun c24 => ?_) (fun c24 => ?_)
      · have hfl : ¬ lm = 96 := fun q => c24 (by rw [q]; rfl)
        have hlt : lm < 96 := by omega
        refine x_aload_n 0 dX4_letter_34 rfl ?_
        refine gfX4_22 dX4_letter_35 ?_
        refine x_aload_n 0 dX4_letter_38 rfl ?_
        refine gfX4_87 dX4_letter_39 ?_
        refine x_top (show σ 35 8 = nI lm from hz2) ?_
        refine x_iload_n 1 dX4_letter_42 rfl ?_
        refine x_iast (j := lm) (by decide) (by decide) (by decide) (show lm < 96 by omega) dX4_letter_43 ?_
        refine x_aload_n 0 dX4_letter_44 rfl ?_
        refine x_dup dX4_letter_45 rfl ?_
        refine gfX4_87 dX4_letter_46 ?_
        refine x_top (show (mx_up σ 40 lm c) 35 8 = nI lm from ((congrFun (mx_up_o (by decide)) 8).trans hz2)) ?_
        refine x_iconst (v := 1) dX4_letter_49 (by decide) ?_
        refine x_iadd dX4_letter_50 ?_
        refine x_top (show (nI lm) + 1 = nI (lm + 1) from nI_add lm 1) ?_
        refine pfX4_87 dX4_letter_51 ?_
        refine x_aload_n 0 dX4_letter_54 rfl ?_
        refine gfX4_87 dX4_letter_55 ?_
        refine x_top (show (mx_up (mx_up σ 40 lm c) 35 8 (nI (lm + 1))) 35 8 = nI (lm + 1) from ((congrFun mx_up_s _).trans upd_s)) ?_
        exact x_iret dX4_letter_58 (by rw [show a_letter (zs n r hi ni ri lm L rm R f) c = (nI (lm + 1), zs n r hi ni ri (lm + 1) (upd L lm c) rm R f) from by simp [a_letter, c1, (Int32.not_lt.mpr c1), c15, (Int32.not_lt.mp c15), c24, hfl]]; exact ⟨rfl, hM.addL, fun k hk => (mx_up_o (by omega)).trans (mx_up_o (by omega))⟩)
      · have hfl : lm = 96 := (nI_eq (b := 96) (by omega) (by decide)).mp c24
        refine x_aload_n 0 dX4_letter_27 rfl ?_
        refine x_bipush (v := -6) dX4_letter_28 (by decide) ?_
        refine clX4_36 (qX4_no 6 (by decide) (by decide)) (by decide) rfl dX4_letter_30 (fun r30 τ30 h30 => ?_)
        obtain ⟨rfl, rfl⟩ := h30
        exact x_iret dX4_letter_33 (by rw [show a_letter (zs n r hi ni ri lm L rm R f) c = ((-6 : Int32), (zs n r hi ni ri lm L rm R f).no 6) from by simp [a_letter, c1, (Int32.not_lt.mpr c1), c15, (Int32.not_lt.mp c15), c24, hfl]]; exact ⟨rfl, hM.q Qm.no, Qm.no.fm⟩)
  · refine x_aload_n 0 dX4_letter_4 rfl ?_
    refine x_bipush (v := -4) dX4_letter_5 (by decide) ?_
    refine clX4_36 (qX4_no 4 (by decide) (by decide)) (by decide) rfl dX4_letter_7 (fun r7 τ7 h7 => ?_)
    obtain ⟨rfl, rfl⟩ := h7
    exact x_iret dX4_letter_10 (by rw [show a_letter (zs n r hi ni ri lm L rm R f) c = ((-4 : Int32), (zs n r hi ni ri lm L rm R f).no 4) from by simp [a_letter, c1, (Int32.not_le.mp c1)]]; exact ⟨rfl, hM.q Qm.no, Qm.no.fm⟩)

set_option maxHeartbeats 4000000 in
theorem qX4_row {E : mx_E} {σ : Mem} {n : Nat} {r : Row} {hi : Bool} {ni : Nat} {ri : Row} {lm : Nat} {L : Row} {rm : Nat} {R f : Row} (hM : MI σ (zs n r hi ni ri lm L rm R f)) (ok : (zs n r hi ni ri lm L rm R f).ok) (c : Int32) : MX4_row E 1 [mx_rf E 35, .int c] σ (mx_i (fun v τ => (a_row (zs n r hi ni ri lm L rm R f) c).1 = v ∧ MI τ (a_row (zs n r hi ni ri lm L rm R f) c).2 ∧ FM σ τ)) := by
  refine MM.of (lv := [(0, mx_rf E 35), (1, .int c)]) kpX4 rfl (Nat.le_of_ble_eq_true rfl) rfl ?_
  have h36 : σ 36 = r := hM.1
  have hw : wf n r := ok.1
  have hn6 : n ≤ 6 := hw.1
  have hlm : lm ≤ 96 := ok.2.2.2.1
  have hrm : rm ≤ 16 := ok.2.2.2.2
  have hz2 : σ 35 8 = nI lm := hM.2.2.2.1
  have hz : σ 35 9 = nI rm := hM.2.2.2.2.2.1
  refine x_iload_n 1 dX4_row_0 rfl ?_
  refine x_iconst (v := 0) dX4_row_1 (by decide) ?_
  refine x_bipush (v := 99) dX4_row_2 (by decide) ?_
  refine clX4_128 (qX4_wrongBy c 0 99) (by decide) rfl dX4_row_4 (fun r4 τ4 h4 => ?_)
  obtain ⟨rfl, rfl⟩ := h4
  rcases f_out_c (v := c) (lo := 0) (hi := 99) (l := 0) (h := 99) (by decide) (by decide) rfl rfl with ⟨k1, e⟩ | ⟨k1, k2, e⟩ | ⟨j, hk1, hk2, rfl, k1, k2, e⟩
  · refine x_top (show f_out c 0 99 = -4 from e) ?_
    refine x_istore_n (lv' := [(2, .int (-4)), (0, mx_rf E 35), (1, .int c)]) dX4_row_7 rfl (by decide) rfl ?_
    refine x_iload_n 0 dX4_row_8 rfl ?_
    refine x_if_ne dX4_row_9 (fun _ => ?_) (fun c => absurd c (by decide))
    refine x_iload_n 0 dX4_row_24 rfl ?_
    refine x_if_eq dX4_row_25 (fun c => absurd c (by decide)) (fun _ => ?_)
    refine x_aload_n 1 dX4_row_28 rfl ?_
    refine x_iload_n 0 dX4_row_29 rfl ?_
    refine clX4_36 (qX4_no 4 (by decide) (by decide)) (by decide) rfl dX4_row_30 (fun r30 τ30 h30 => ?_)
    obtain ⟨rfl, rfl⟩ := h30
    exact x_iret dX4_row_33 (by rw [show a_row (zs n r hi ni ri lm L rm R f) c = ((-4 : Int32), (zs n r hi ni ri lm L rm R f).no 4) from by simp [a_row, k1]]; exact ⟨rfl, hM.q Qm.no, Qm.no.fm⟩)
  · refine x_top (show f_out c 0 99 = -6 from e) ?_
    refine x_istore_n (lv' := [(2, .int (-6)), (0, mx_rf E 35), (1, .int c)]) dX4_row_7 rfl (by decide) rfl ?_
    refine x_iload_n 0 dX4_row_8 rfl ?_
    refine x_if_ne dX4_row_9 (fun _ => ?_) (fun c => absurd c (by decide))
    refine x_iload_n 0 dX4_row_24 rfl ?_
    refine x_if_eq dX4_row_25 (fun c => absurd c (by decide)) (fun _ => ?_)
    refine x_aload_n 1 dX4_row_28 rfl ?_
    refine x_iload_n 0 dX4_row_29 rfl ?_
    refine clX4_36 (qX4_no 6 (by decide) (by decide)) (by decide) rfl dX4_row_30 (fun r30 τ30 h30 => ?_)
    obtain ⟨rfl, rfl⟩ := h30
    exact x_iret dX4_row_33 (by rw [show a_row (zs n r hi ni ri lm L rm R f) c = ((-6 : Int32), (zs n r hi ni ri lm L rm R f).no 6) from by simp [a_row, k1, k2]]; exact ⟨rfl, hM.q Qm.no, Qm.no.fm⟩)
  · refine x_top (show f_out (nI j) 0 99 = 0 from e) ?_
    refine x_istore_n (lv' := [(2, .int 0), (0, mx_rf E 35), (1, .int (nI j))]) dX4_row_7 rfl (by decide) rfl ?_
    refine x_iload_n 0 dX4_row_8 rfl ?_
    refine x_if_ne dX4_row_9 (fun c => absurd c (by decide)) (fun _ => ?_)
    refine x_aload_n 1 dX4_row_12 rfl ?_
    refine gfX4_199 dX4_row_13 ?_
    refine x_top (show σ 35 9 = nI rm from hz) ?_
    refine x_bipush (v := 16) dX4_row_16 (by decide) ?_
    refine x_icmp_ne dX4_row_18 (fun c18 => ?_) (fun c18 => ?_)
    · have hfl : ¬ rm = 16 := fun q => c18 (by rw [q]; rfl)
      have hlt : rm < 16 := by omega
      refine x_iload_n 0 dX4_row_24 rfl ?_
      refine x_if_eq dX4_row_25 (fun _ => ?_) (fun c => absurd c (by decide))
      refine x_aload_n 1 dX4_row_34 rfl ?_
      refine gfX4_25 dX4_row_35 ?_
      refine x_aload_n 1 dX4_row_38 rfl ?_
      refine gfX4_199 dX4_row_39 ?_
      refine x_top (show σ 35 9 = nI rm from hz) ?_
      refine x_iload_n 2 dX4_row_42 rfl ?_
      refine x_iast (j := rm) (by decide) (by decide) (by decide) (show rm < 16 by omega) dX4_row_43 ?_
      refine x_aload_n 1 dX4_row_44 rfl ?_
      refine x_dup dX4_row_45 rfl ?_
      refine gfX4_199 dX4_row_46 ?_
      refine x_top (show (mx_up σ 41 rm (nI j)) 35 9 = nI rm from ((congrFun (mx_up_o (by decide)) 9).trans hz)) ?_
      refine x_iconst (v := 1) dX4_row_49 (by decide) ?_
      refine x_iadd dX4_row_50 ?_
      refine x_top (show (nI rm) + 1 = nI (rm + 1) from nI_add rm 1) ?_
      refine pfX4_199 dX4_row_51 ?_
      refine x_aload_n 1 dX4_row_54 rfl ?_
      refine gfX4_199 dX4_row_55 ?_
      refine x_top (show (mx_up (mx_up σ 41 rm (nI j)) 35 9 (nI (rm + 1))) 35 9 = nI (rm + 1) from ((congrFun mx_up_s _).trans upd_s)) ?_
      exact x_iret dX4_row_58 (by rw [show a_row (zs n r hi ni ri lm L rm R f) (nI j) = (nI (rm + 1), zs n r hi ni ri lm L (rm + 1) (upd R rm (nI j)) f) from by simp [a_row, k1, k2, c18, hfl]]; exact ⟨rfl, hM.addR, fun k hk => (mx_up_o (by omega)).trans (mx_up_o (by omega))⟩)
    · have hfl : rm = 16 := (nI_eq (b := 16) (by omega) (by decide)).mp c18
      refine x_bipush (v := -6) dX4_row_21 (by decide) ?_
      refine x_istore_n (lv' := [(2, .int (-6)), (0, mx_rf E 35), (1, .int (nI j))]) dX4_row_23 rfl (by decide) rfl ?_
      refine x_iload_n 0 dX4_row_24 rfl ?_
      refine x_if_eq dX4_row_25 (fun c => absurd c (by decide)) (fun _ => ?_)
      refine x_aload_n 1 dX4_row_28 rfl ?_
      refine x_iload_n 0 dX4_row_29 rfl ?_
      refine clX4_36 (qX4_no 6 (by decide) (by decide)) (by decide) rfl dX4_row_30 (fun r30 τ30 h30 => ?_)
      obtain ⟨rfl, rfl⟩ := h30
      exact x_iret dX4_row_33 (by rw [show a_row (zs n r hi ni ri lm L rm R f) (nI j) = ((-6 : Int32), (zs n r hi ni ri lm L rm R f).no 6) from by simp [a_row, k1, k2, c18, hfl]]; exact ⟨rfl, hM.q Qm.no, Qm.no.fm⟩)

set_option maxHeartbeats 4000000 in
theorem qX4_clear {E : mx_E} {σ : Mem} {n : Nat} {r : Row} {hi : Bool} {ni : Nat} {ri : Row} {lm : Nat} {L : Row} {rm : Nat} {R f : Row} (hM : MI σ (zs n r hi ni ri lm L rm R f)) (ok : (zs n r hi ni ri lm L rm R f).ok)  : MX4_clear E 0 [mx_rf E 35] σ (mx_i (fun v τ => (a_clear (zs n r hi ni ri lm L rm R f)).1 = v ∧ MI τ (a_clear (zs n r hi ni ri lm L rm R f)).2 ∧ FM σ τ)) := by
  refine MM.of (lv := [(0, mx_rf E 35)]) kpX4 rfl (Nat.le_of_ble_eq_true rfl) rfl ?_
  have h36 : σ 36 = r := hM.1
  have hw : wf n r := ok.1
  have hn6 : n ≤ 6 := hw.1
  have hlm : lm ≤ 96 := ok.2.2.2.1
  have hrm : rm ≤ 16 := ok.2.2.2.2
  have hz2 : σ 35 8 = nI lm := hM.2.2.2.1
  have hz : σ 35 9 = nI rm := hM.2.2.2.2.2.1
  refine x_aload_n 0 dX4_clear_0 rfl ?_
  refine gfX4_199 dX4_clear_1 ?_
  refine x_top (show σ 35 9 = nI rm from hz) ?_
  refine x_istore_n (lv' := [(1, .int (nI rm)), (0, mx_rf E 35)]) dX4_clear_4 rfl (by decide) rfl ?_
  refine x_aload_n 1 dX4_clear_5 rfl ?_
  refine x_iconst (v := 0) dX4_clear_6 (by decide) ?_
  refine pfX4_199 dX4_clear_7 ?_
  refine x_iload_n 0 dX4_clear_10 rfl ?_
  exact x_iret dX4_clear_11 ⟨rfl, hM.dropR, fun k hk => mx_up_o (by omega)⟩

set_option maxHeartbeats 4000000 in
theorem qX4_image {E : mx_E} {σ : Mem} {n : Nat} {r : Row} {hi : Bool} {ni : Nat} {ri : Row} {lm : Nat} {L : Row} {rm : Nat} {R f : Row} (hM : MI σ (zs n r hi ni ri lm L rm R f)) (ok : (zs n r hi ni ri lm L rm R f).ok)  : MX4_image E 1 [mx_rf E 35] σ (mx_i (fun v τ => (a_image (zs n r hi ni ri lm L rm R f)).1 = v ∧ MI τ (a_image (zs n r hi ni ri lm L rm R f)).2 ∧ FM σ τ)) := by
  refine MM.of (lv := [(0, mx_rf E 35)]) kpX4 rfl (Nat.le_of_ble_eq_true rfl) rfl ?_
  have h36 : σ 36 = r := hM.1
  have hw : wf n r := ok.1
  have hn6 : n ≤ 6 := hw.1
  have hlm : lm ≤ 96 := ok.2.2.2.1
  have hrm : rm ≤ 16 := ok.2.2.2.2
  have hz2 : σ 35 8 = nI lm := hM.2.2.2.1
  have hz : σ 35 9 = nI rm := hM.2.2.2.2.2.1
  refine x_aload_n 0 dX4_image_0 rfl ?_
  refine gfX4_9 dX4_image_1 ?_
  refine x_aload_n 0 dX4_image_4 rfl ?_
  refine gfX4_16 dX4_image_5 ?_
  refine clX4_121 (qX4_copies (by decide) (by decide) (by decide) (by decide) (by decide) h36) (by decide) rfl dX4_image_8 (fun τ8 h8 => ?_)
  obtain rfl := h8
  refine x_aload_n 0 dX4_image_11 rfl ?_
  refine x_iconst (v := 1) dX4_image_12 (by decide) ?_
  refine pfX4_211 (by decide) dX4_image_13 ?_
  refine x_aload_n 0 dX4_image_16 rfl ?_
  refine gfX4_9 dX4_image_17 ?_
  refine x_iconst (v := 1) dX4_image_20 (by decide) ?_
  refine x_ialdS (j := 1) (by decide) (by decide) (by decide) dX4_image_21 ?_
  refine x_top (show (mx_up (mx_row σ 38 r) 35 4 1) 36 1 = r 1 from (congrFun ((mx_up_o (by decide)).trans ((mx_row_o (by decide)).trans h36)) _)) ?_
  exact x_iret dX4_image_22 ⟨rfl, hM.img, fun k hk => (mx_up_o (by omega)).trans (mx_row_o (by omega))⟩

set_option maxHeartbeats 4000000 in
theorem qX4_on {E : mx_E} {σ : Mem} {n : Nat} {r : Row} {hi : Bool} {ni : Nat} {ri : Row} {lm : Nat} {L : Row} {rm : Nat} {R f : Row} (hM : MI σ (zs n r hi ni ri lm L rm R f)) (ok : (zs n r hi ni ri lm L rm R f).ok)  : MX4_on E 1 [mx_rf E 35] σ (mx_i (fun v τ => (a_on (zs n r hi ni ri lm L rm R f)).1 = v ∧ MI τ (a_on (zs n r hi ni ri lm L rm R f)).2 ∧ FM σ τ)) := by
  refine MM.of (lv := [(0, mx_rf E 35)]) kpX4 rfl (Nat.le_of_ble_eq_true rfl) rfl ?_
  have h36 : σ 36 = r := hM.1
  have hw : wf n r := ok.1
  have hn6 : n ≤ 6 := hw.1
  have hlm : lm ≤ 96 := ok.2.2.2.1
  have hrm : rm ≤ 16 := ok.2.2.2.2
  have hz2 : σ 35 8 = nI lm := hM.2.2.2.1
  have hz : σ 35 9 = nI rm := hM.2.2.2.2.2.1
  refine x_aload_n 0 dX4_on_0 rfl ?_
  refine gfX4_211 dX4_on_1 ?_
  refine x_top (show σ 35 4 = zb hi from hM.2.2.1) ?_
  refine x_if_ne dX4_on_4 (fun c4 => ?_) (fun c4 => ?_)
  · replace c4 := zb_1 c4
    refine x_aload_n 0 dX4_on_14 rfl ?_
    refine gfX4_16 dX4_on_15 ?_
    refine x_aload_n 0 dX4_on_18 rfl ?_
    refine gfX4_9 dX4_on_19 ?_
    refine clX4_121 (qX4_copies (by decide) (by decide) (by decide) (by decide) (by decide) (hM.2.1 c4)) (by decide) rfl dX4_on_22 (fun τ22 h22 => ?_)
    obtain rfl := h22
    refine x_aload_n 0 dX4_on_25 rfl ?_
    refine gfX4_9 dX4_on_26 ?_
    refine x_iconst (v := 1) dX4_on_29 (by decide) ?_
    refine x_ialdS (j := 1) (by decide) (by decide) (by decide) dX4_on_30 ?_
    refine x_top (show (mx_row σ 36 ri) 36 1 = ri 1 from (congrFun mx_row_s _)) ?_
    exact x_iret dX4_on_31 (by rw [show a_on (zs n r hi ni ri lm L rm R f) = (ri 1, zs ni ri hi ni ri lm L rm R f) from if_pos c4]; exact ⟨rfl, hM.on, fun k hk => mx_row_o (by omega)⟩)
  · replace c4 := zb_0 c4
    refine x_aload_n 0 dX4_on_7 rfl ?_
    refine x_bipush (v := -3) dX4_on_8 (by decide) ?_
    refine clX4_36 (qX4_no 3 (by decide) (by decide)) (by decide) rfl dX4_on_10 (fun r10 τ10 h10 => ?_)
    obtain ⟨rfl, rfl⟩ := h10
    exact x_iret dX4_on_13 (by rw [show a_on (zs n r hi ni ri lm L rm R f) = (-3, (zs n r hi ni ri lm L rm R f).no 3) from if_neg (show ¬ hi = true from by rw [c4]; decide)]; exact ⟨rfl, hM.q Qm.no, Qm.no.fm⟩)

set_option maxHeartbeats 4000000 in
theorem qX4_judge {E : mx_E} {σ : Mem} {n : Nat} {r : Row} {hi : Bool} {ni : Nat} {ri : Row} {lm : Nat} {L : Row} {rm : Nat} {R f : Row} (hM : MI σ (zs n r hi ni ri lm L rm R f)) (ok : (zs n r hi ni ri lm L rm R f).ok)  : MX4_judge E 2 [mx_rf E 35] σ (mx_i (fun v τ => (a_judge (zs n r hi ni ri lm L rm R f)).1 = v ∧ MI τ (a_judge (zs n r hi ni ri lm L rm R f)).2 ∧ FM σ τ)) := by
  refine MM.of (lv := [(0, mx_rf E 35)]) kpX4 rfl (Nat.le_of_ble_eq_true rfl) rfl ?_
  have h36 : σ 36 = r := hM.1
  have hw : wf n r := ok.1
  have hn6 : n ≤ 6 := hw.1
  have hlm : lm ≤ 96 := ok.2.2.2.1
  have hrm : rm ≤ 16 := ok.2.2.2.2
  have hz2 : σ 35 8 = nI lm := hM.2.2.2.1
  have hz : σ 35 9 = nI rm := hM.2.2.2.2.2.1
  refine x_aload_n 0 dX4_judge_0 rfl ?_
  refine gfX4_199 dX4_judge_1 ?_
  refine x_top (show σ 35 9 = nI rm from hz) ?_
  refine x_istore_n (lv' := [(1, .int (nI rm)), (0, mx_rf E 35)]) dX4_judge_4 rfl (by decide) rfl ?_
  refine x_aload_n 1 dX4_judge_5 rfl ?_
  refine x_iconst (v := 0) dX4_judge_6 (by decide) ?_
  refine pfX4_199 dX4_judge_7 ?_
  refine x_iconst (v := 0) dX4_judge_10 (by decide) ?_
  refine x_istore_n (lv' := [(2, .int 0), (1, .int (nI rm)), (0, mx_rf E 35)]) dX4_judge_11 rfl (by decide) rfl ?_
  have key12 : ∀ i, i ≤ rm → f_jg n r R rm (rm - i) i = f_jg n r R rm rm 0 → MX E 2 RX4 cX4_judge 3 (some .int) 12 [(2, .int (nI i)), (1, .int (nI rm)), (0, mx_rf E 35)] [] (mx_up σ 35 9 0) (mx_i (fun v τ => (a_judge (zs n r hi ni ri lm L rm R f)).1 = v ∧ MI τ (a_judge (zs n r hi ni ri lm L rm R f)).2 ∧ FM σ τ)) := by
    refine mx_ind rm (fun i hi12 ih12 => ?_)
    intro hg
    refine x_iload_n 0 dX4_judge_12 rfl ?_
    refine x_iload_n 1 dX4_judge_13 rfl ?_
    refine x_icmp_ge dX4_judge_14 (fun c14 => ?_) (fun c14 => ?_)
    · have hx := f_jgE (nI_le_of (by omega) (by omega) c14) hg
      refine x_bipush (v := -9) dX4_judge_52 (by decide) ?_
      exact x_iret dX4_judge_54 ⟨hx, hM.dropR, fun k hk => mx_up_o (by omega)⟩
    · have hlm2 := nI_lt_of (by omega) (by omega) c14
      refine x_aload_n 2 dX4_judge_17 rfl ?_
      refine x_iload_n 0 dX4_judge_18 rfl ?_
      refine clX4_111 (qX4_isHouse ((mx_up_o (by decide)).trans h36) hw (nI i)) (by decide) rfl dX4_judge_19 (fun r19 τ19 h19 => ?_)
      obtain ⟨rfl, rfl⟩ := h19
      refine x_if_eq dX4_judge_22 (fun c22 => ?_) (fun c22 => ?_)
      · replace c22 := zb_0 c22
        have hx := f_jgF hlm2 hg (fun q => by rw [c22] at q; exact absurd q.1 (by decide))
        refine x_iload_n 0 dX4_judge_44 rfl ?_
        exact x_iret dX4_judge_45 ⟨hx, hM.dropR, fun k hk => mx_up_o (by omega)⟩
      · replace c22 := zb_1 c22
        have hin : i < n := f_inN_l (by omega) (by omega) c22
        refine x_aload_n 2 dX4_judge_25 rfl ?_
        refine gfX4_9 dX4_judge_26 ?_
        refine x_iload_n 0 dX4_judge_29 rfl ?_
        refine x_iconst (v := 5) dX4_judge_30 (by decide) ?_
        refine clX4_44 (qX4_of i 5) (by decide) rfl dX4_judge_31 (fun r31 τ31 h31 => ?_)
        obtain ⟨rfl, rfl⟩ := h31
        refine x_ialdS (j := 6 + 6 * i + 5) (by decide) (by decide) (by omega) dX4_judge_34 ?_
        refine x_top (show (mx_up σ 35 9 0) 36 (6 + 6 * i + 5) = r (6 + 6 * i + 5) from (congrFun ((mx_up_o (by decide)).trans h36) _)) ?_
        refine x_aload_n 2 dX4_judge_35 rfl ?_
        refine gfX4_25 dX4_judge_36 ?_
        refine x_iload_n 0 dX4_judge_39 rfl ?_
        refine x_iald (j := i) (by decide) (by decide) (by decide) (show i < 16 by omega) dX4_judge_40 ?_
        refine x_top (show (mx_up σ 35 9 0) 41 i = R i from ((congrFun (mx_up_o (by decide)) i).trans (hM.2.2.2.2.2.2.1 i hlm2))) ?_
        refine x_icmp_eq dX4_judge_41 (fun c41 => ?_) (fun c41 => ?_)
        · refine x_iinc (v := nI (i + 1)) (lv' := [(2, .int (nI (i + 1))), (1, .int (nI rm)), (0, mx_rf E 35)]) 0 dX4_judge_46 rfl (nI_1 _) (by decide) rfl ?_
          refine x_goto dX4_judge_49 ?_
          exact ih12 (i + 1) (by omega) (by omega) (f_jgT hlm2 hg c22 c41)
        · have hx := f_jgF hlm2 hg (fun q => c41 q.2)
          refine x_iload_n 0 dX4_judge_44 rfl ?_
          exact x_iret dX4_judge_45 ⟨hx, hM.dropR, fun k hk => mx_up_o (by omega)⟩
  exact key12 0 (Nat.zero_le _) rfl
