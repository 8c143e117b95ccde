set_option maxHeartbeats 4000000 in
theorem qX3_refuse {E : mx_E} {σ : Mem} (c : Nat) (h1 : 1 ≤ c) (h2 : c < 7) : MX3_refuse E 0 [mx_rf E 0, .int (-nI c)] σ (mx_ie (-nI c) (mx_up σ 34 c (σ 34 c + 1))) := by
  refine MM.of (lv := [(0, mx_rf E 0), (1, .int (-nI c))]) kpX3 rfl (Nat.le_of_ble_eq_true rfl) rfl ?_
  refine x_iload_n 1 dX3_refuse_0 rfl ?_
  refine x_ineg dX3_refuse_1 ?_
  refine x_top (show -(-nI c) = nI c from Int32.neg_neg) ?_
  refine x_istore_n (lv' := [(2, .int (nI c)), (0, mx_rf E 0), (1, .int (-nI c))]) dX3_refuse_2 rfl (by decide) rfl ?_
  refine x_iload_n 0 dX3_refuse_3 rfl ?_
  refine x_if_lt dX3_refuse_4 (fun c4 => ?_) (fun c4 => ?_)
  · exact absurd c4 (nI_pos (by omega))
  · refine x_iload_n 0 dX3_refuse_7 rfl ?_
    refine x_aload_n 1 dX3_refuse_8 rfl ?_
    refine gfX3_41 dX3_refuse_9 ?_
    refine x_alen (by decide) (by decide) (by decide) dX3_refuse_12 ?_
    refine x_icmp_ge dX3_refuse_13 (fun c13 => ?_) (fun c13 => ?_)
    · exact absurd (nI_le_of (b := 7) (by decide) (by omega) c13) (by omega)
    · refine x_aload_n 1 dX3_refuse_16 rfl ?_
      refine gfX3_41 dX3_refuse_17 ?_
      refine x_iload_n 0 dX3_refuse_20 rfl ?_
      refine x_dup2 dX3_refuse_21 rfl rfl ?_
      refine x_iald (j := c) (by decide) (by decide) (by decide) (show c < 7 by omega) dX3_refuse_22 ?_
      refine x_iconst (v := 1) dX3_refuse_23 (by decide) ?_
      refine x_iadd dX3_refuse_24 ?_
      refine x_iast (j := c) (by decide) (by decide) (by decide) (show c < 7 by omega) dX3_refuse_25 ?_
      refine x_iload_n 2 dX3_refuse_26 rfl ?_
      exact x_iret dX3_refuse_27 ⟨rfl, rfl⟩

set_option maxHeartbeats 4000000 in
theorem qX3_outOf {E : mx_E} {σ : Mem} (v lo hi : Int32) : MX3_outOf E 0 [.int v, .int lo, .int hi] σ (mx_ie (f_out v lo hi) σ) := by
  refine MM.of (lv := [(0, .int v), (1, .int lo), (2, .int hi)]) kpX3 rfl (Nat.le_of_ble_eq_true rfl) rfl ?_
  refine x_iload_n 0 dX3_outOf_0 rfl ?_
  refine x_iload_n 1 dX3_outOf_1 rfl ?_
  refine x_icmp_ge dX3_outOf_2 (fun c2 => ?_) (fun c2 => ?_)
  · refine x_iload_n 0 dX3_outOf_8 rfl ?_
    refine x_iload_n 2 dX3_outOf_9 rfl ?_
    refine x_icmp_le dX3_outOf_10 (fun c10 => ?_) (fun c10 => ?_)
    · refine x_iconst (v := 0) dX3_outOf_18 (by decide) ?_
      exact x_iret dX3_outOf_19 ⟨by simp [f_out, c2, (Int32.not_lt.mpr c2), c10, (Int32.not_lt.mpr c10)], rfl⟩
    · refine x_bipush (v := -6) dX3_outOf_13 (by decide) ?_
      refine x_goto dX3_outOf_15 ?_
      exact x_iret dX3_outOf_19 ⟨by simp [f_out, c2, (Int32.not_lt.mpr c2), c10, (Int32.not_le.mp c10)], rfl⟩
  · refine x_bipush (v := -4) dX3_outOf_5 (by decide) ?_
    exact x_iret dX3_outOf_7 ⟨by simp [f_out, c2, (Int32.not_le.mp c2)], rfl⟩

set_option maxHeartbeats 4000000 in
theorem qX3_refuseLong {E : mx_E} {σ : Mem} (c : Nat) (h1 : 1 ≤ c) (h2 : c < 7) : MX3_refuseLong E 1 [mx_rf E 0, .int (-nI c)] σ (mx_le (4000000000000000000 - (-nI c).toInt64) (mx_up σ 34 c (σ 34 c + 1))) := by
  refine MM.of (lv := [(0, mx_rf E 0), (1, .int (-nI c))]) kpX3 rfl (Nat.le_of_ble_eq_true rfl) rfl ?_
  refine x_ldc2 dX3_refuseLong_0 kkX3_277 ?_
  refine x_aload_n 0 dX3_refuseLong_3 rfl ?_
  refine x_iload_n 1 dX3_refuseLong_4 rfl ?_
  refine clX3_49 (qX3_refuse c h1 h2) (by decide) rfl dX3_refuseLong_5 (fun r5 τ5 h5 => ?_)
  obtain ⟨rfl, rfl⟩ := h5
  refine x_i2l dX3_refuseLong_8 ?_
  refine x_lsub dX3_refuseLong_9 ?_
  exact x_lret dX3_refuseLong_10 ⟨rfl, rfl⟩

set_option maxHeartbeats 4000000 in
theorem qX3_house {E : mx_E} {σ : Mem} {n : Nat} {r : Row} (hN : NW σ) (hT : TI σ 1 n r) (hw : wf n r) (house what : Int32) : MX3_house E 3 [mx_rf E 0, .int house, .int what] σ (mx_i (fun v τ => (p_house n r house what).1 = v ∧ Qz (p_house n r house what).2 σ τ)) := by
  refine MM.of (lv := [(0, mx_rf E 0), (1, .int house), (2, .int what)]) kpX3 rfl (Nat.le_of_ble_eq_true rfl) rfl ?_
  have hn6 := hw.1
  refine x_aload_n 0 dX3_house_0 rfl ?_
  refine gfX3_10 dX3_house_1 ?_
  refine x_iload_n 1 dX3_house_4 rfl ?_
  refine clX3_122 (qX2_has (by decide) (by decide) hT.1 house) (by decide) (by decide) (by decide) rfl dX3_house_5 (fun r5 τ5 h5 => ?_)
  obtain ⟨rfl, rfl⟩ := h5
  refine x_if_ne dX3_house_8 (fun c8 => ?_) (fun c8 => ?_)
  · replace c8 := zb_1 c8
    obtain ⟨h, hh, rfl⟩ := f_inN_t (by omega) c8
    refine x_aload_n 0 dX3_house_17 rfl ?_
    refine gfX3_10 dX3_house_18 ?_
    refine x_iload_n 1 dX3_house_21 rfl ?_
    refine clX3_125 (qX2_at (by decide) (by decide) hT.1 hn6 (by omega)) (by decide) (by decide) (by decide) rfl dX3_house_22 (fun r22 τ22 h22 => ?_)
    obtain ⟨rfl, rfl⟩ := h22
    refine x_astore_n (lv' := [(3, mx_rf E (4 + 6 * 1 + h)), (0, mx_rf E 0), (1, .int (nI h)), (2, .int what)]) dX3_house_25 rfl (by decide) rfl ?_
    refine x_iload_n 3 dX3_house_26 rfl ?_
    by_cases c27_0 : what = 0
    · refine x_tableIn (off := 49) (tgt := 76) dX3_house_27 (by rw [c27_0]; decide) (by rw [c27_0]; decide) (by rw [c27_0]; decide) (by decide) ?_
      refine x_aload_n 0 dX3_house_76 rfl ?_
      refine gfX3_148 (by omega) (by omega) dX3_house_77 ?_
      refine x_top (show σ (4 + 6 * 1 + h) 0 = r (6 + 6 * h) from (hT.2.2.2.2 _ (by omega)).1 0 (by decide)) ?_
      exact x_iret dX3_house_80 (by rw [show p_house n r (nI h) what = ((r (6 + 6 * h) : Int32), 0) from by simp [zbT, zbF, f_in002, f_in102, f_in001, f_in101, p_house, c8, nI_clamp (show h < 2 ^ 31 by omega), c27_0, show f_in 0 0 5 = true from by decide, show ((0 : Int32).toNatClampNeg) = 0 from by decide]]; exact ⟨rfl, Qz.rf⟩)
    by_cases c27_1 : what = 1
    · refine x_tableIn (off := 54) (tgt := 81) dX3_house_27 (by rw [c27_1]; decide) (by rw [c27_1]; decide) (by rw [c27_1]; decide) (by decide) ?_
      refine x_aload_n 0 dX3_house_81 rfl ?_
      refine gfX3_151 (by omega) (by omega) dX3_house_82 ?_
      refine x_top (show σ (4 + 6 * 1 + h) 1 = r (6 + 6 * h + 1) from (hT.2.2.2.2 _ (by omega)).1 1 (by decide)) ?_
      exact x_iret dX3_house_85 (by rw [show p_house n r (nI h) what = ((r (6 + 6 * h + 1) : Int32), 0) from by simp [zbT, zbF, f_in002, f_in102, f_in001, f_in101, p_house, c8, nI_clamp (show h < 2 ^ 31 by omega), c27_1, show f_in 1 0 5 = true from by decide, show ((1 : Int32).toNatClampNeg) = 1 from by decide]]; exact ⟨rfl, Qz.rf⟩)
    by_cases c27_2 : what = 2
    · refine x_tableIn (off := 59) (tgt := 86) dX3_house_27 (by rw [c27_2]; decide) (by rw [c27_2]; decide) (by rw [c27_2]; decide) (by decide) ?_
      refine x_aload_n 0 dX3_house_86 rfl ?_
      refine gfX3_154 (by omega) (by omega) dX3_house_87 ?_
      refine x_top (show σ (4 + 6 * 1 + h) 2 = r (6 + 6 * h + 2) from (hT.2.2.2.2 _ (by omega)).1 2 (by decide)) ?_
      exact x_iret dX3_house_90 (by rw [show p_house n r (nI h) what = ((r (6 + 6 * h + 2) : Int32), 0) from by simp [zbT, zbF, f_in002, f_in102, f_in001, f_in101, p_house, c8, nI_clamp (show h < 2 ^ 31 by omega), c27_2, show f_in 2 0 5 = true from by decide, show ((2 : Int32).toNatClampNeg) = 2 from by decide]]; exact ⟨rfl, Qz.rf⟩)
    by_cases c27_3 : what = 3
    · refine x_tableIn (off := 64) (tgt := 91) dX3_house_27 (by rw [c27_3]; decide) (by rw [c27_3]; decide) (by rw [c27_3]; decide) (by decide) ?_
      refine x_aload_n 0 dX3_house_91 rfl ?_
      refine gfX3_128 (by omega) (by omega) dX3_house_92 ?_
      refine x_top (show σ (4 + 6 * 1 + h) 3 = r (6 + 6 * h + 3) from (hT.2.2.2.2 _ (by omega)).1 3 (by decide)) ?_
      exact x_iret dX3_house_95 (by rw [show p_house n r (nI h) what = ((r (6 + 6 * h + 3) : Int32), 0) from by simp [zbT, zbF, f_in002, f_in102, f_in001, f_in101, p_house, c8, nI_clamp (show h < 2 ^ 31 by omega), c27_3, show f_in 3 0 5 = true from by decide, show ((3 : Int32).toNatClampNeg) = 3 from by decide]]; exact ⟨rfl, Qz.rf⟩)
    by_cases c27_4 : what = 4
    · refine x_tableIn (off := 69) (tgt := 96) dX3_house_27 (by rw [c27_4]; decide) (by rw [c27_4]; decide) (by rw [c27_4]; decide) (by decide) ?_
      refine x_aload_n 0 dX3_house_96 rfl ?_
      refine gfX3_133 (by omega) (by omega) dX3_house_97 ?_
      refine x_top (show σ (4 + 6 * 1 + h) 4 = r (6 + 6 * h + 4) from (hT.2.2.2.2 _ (by omega)).1 4 (by decide)) ?_
      exact x_iret dX3_house_100 (by rw [show p_house n r (nI h) what = ((r (6 + 6 * h + 4) : Int32), 0) from by simp [zbT, zbF, f_in002, f_in102, f_in001, f_in101, p_house, c8, nI_clamp (show h < 2 ^ 31 by omega), c27_4, show f_in 4 0 5 = true from by decide, show ((4 : Int32).toNatClampNeg) = 4 from by decide]]; exact ⟨rfl, Qz.rf⟩)
    by_cases c27_5 : what = 5
    · refine x_tableIn (off := 74) (tgt := 101) dX3_house_27 (by rw [c27_5]; decide) (by rw [c27_5]; decide) (by rw [c27_5]; decide) (by decide) ?_
      refine x_aload_n 0 dX3_house_101 rfl ?_
      refine gfX3_157 (by omega) (by omega) dX3_house_102 ?_
      refine x_top (show σ (4 + 6 * 1 + h) 5 = r (6 + 6 * h + 5) from (hT.2.2.2.2 _ (by omega)).1 5 (by decide)) ?_
      exact x_iret dX3_house_105 (by rw [show p_house n r (nI h) what = ((r (6 + 6 * h + 5) : Int32), 0) from by simp [zbT, zbF, f_in002, f_in102, f_in001, f_in101, p_house, c8, nI_clamp (show h < 2 ^ 31 by omega), c27_5, show f_in 5 0 5 = true from by decide, show ((5 : Int32).toNatClampNeg) = 5 from by decide]]; exact ⟨rfl, Qz.rf⟩)
    by_cases c27_6 : what = 6
    · refine x_tableIn (off := 79) (tgt := 106) dX3_house_27 (by rw [c27_6]; decide) (by rw [c27_6]; decide) (by rw [c27_6]; decide) (by decide) ?_
      refine x_aload_n 0 dX3_house_106 rfl ?_
      refine gfX3_136 (by omega) (by omega) dX3_house_107 ?_
      refine x_top (show σ (4 + 6 * 1 + h) 6 = zb (f_kept r h) from (hT.2.2.2.2 _ (by omega)).2.1) ?_
      refine x_if_eq dX3_house_110 (fun c110 => ?_) (fun c110 => ?_)
      · replace c110 := zb_0 c110
        refine x_iconst (v := 0) dX3_house_117 (by decide) ?_
        exact x_iret dX3_house_118 (by rw [show p_house n r (nI h) what = ((0 : Int32), 0) from by simp [zbT, zbF, f_in002, f_in102, f_in001, f_in101, p_house, c8, c110, nI_clamp (show h < 2 ^ 31 by omega), c27_6, show f_in 6 0 5 = false from by decide]]; exact ⟨rfl, Qz.rf⟩)
      · replace c110 := zb_1 c110
        refine x_iconst (v := 1) dX3_house_113 (by decide) ?_
        refine x_goto dX3_house_114 ?_
        exact x_iret dX3_house_118 (by rw [show p_house n r (nI h) what = ((1 : Int32), 0) from by simp [zbT, zbF, f_in002, f_in102, f_in001, f_in101, p_house, c8, c110, nI_clamp (show h < 2 ^ 31 by omega), c27_6, show f_in 6 0 5 = false from by decide]]; exact ⟨rfl, Qz.rf⟩)
    by_cases c27_7 : what = 7
    · refine x_tableIn (off := 92) (tgt := 119) dX3_house_27 (by rw [c27_7]; decide) (by rw [c27_7]; decide) (by rw [c27_7]; decide) (by decide) ?_
      refine x_aload_n 0 dX3_house_119 rfl ?_
      refine clX3_160 (pX0_crowd (by omega) (by omega) (f_lets r h) (hT.2.2.2.2 _ hh).2.2) (by decide) (by omega) (by omega) rfl dX3_house_120 (fun r120 τ120 h120 => ?_)
      obtain ⟨rfl, rfl⟩ := h120
      refine x_top (show f_crowd (σ (4 + 6 * 1 + h) 2) (σ (4 + 6 * 1 + h) 3) (f_lets r h) = f_crowdR r h from f_crowd_hq (hT.2.2.2.2 _ hh)) ?_
      exact x_iret dX3_house_123 (by rw [show p_house n r (nI h) what = ((f_crowdR r h : Int32), 0) from by simp [zbT, zbF, f_in002, f_in102, f_in001, f_in101, p_house, c8, nI_clamp (show h < 2 ^ 31 by omega), c27_7, show f_in 7 0 5 = false from by decide]]; exact ⟨rfl, Qz.rf⟩)
    by_cases c27_8 : what = 8
    · refine x_tableIn (off := 97) (tgt := 124) dX3_house_27 (by rw [c27_8]; decide) (by rw [c27_8]; decide) (by rw [c27_8]; decide) (by decide) ?_
      refine x_aload_n 0 dX3_house_124 rfl ?_
      refine clX3_163 (pX0_childIsFound (by omega) (by omega) (f_kept r h) (f_lets r h) (hT.2.2.2.2 _ hh).2.1 (hT.2.2.2.2 _ hh).2.2 (wf_hk hw hh (hT.2.2.2.2 _ hh)).1) (by decide) (by omega) (by omega) rfl dX3_house_125 (fun r125 τ125 h125 => ?_)
      obtain ⟨rfl, rfl⟩ := h125
      refine x_top (show zb (h_isF (σ (4 + 6 * 1 + h)) (f_kept r h) (f_lets r h)) = zb (f_isF r h) from (by rw [h_isF_eq (hT.2.2.2.2 _ hh)])) ?_
      refine x_if_eq dX3_house_128 (fun c128 => ?_) (fun c128 => ?_)
      · replace c128 := zb_0 c128
        refine x_iconst (v := 0) dX3_house_135 (by decide) ?_
        exact x_iret dX3_house_136 (by rw [show p_house n r (nI h) what = ((0 : Int32), 0) from by simp [zbT, zbF, f_in002, f_in102, f_in001, f_in101, p_house, c8, c128, nI_clamp (show h < 2 ^ 31 by omega), c27_8, show f_in 8 0 5 = false from by decide]]; exact ⟨rfl, Qz.rf⟩)
      · replace c128 := zb_1 c128
        refine x_iconst (v := 1) dX3_house_131 (by decide) ?_
        refine x_goto dX3_house_132 ?_
        exact x_iret dX3_house_136 (by rw [show p_house n r (nI h) what = ((1 : Int32), 0) from by simp [zbT, zbF, f_in002, f_in102, f_in001, f_in101, p_house, c8, c128, nI_clamp (show h < 2 ^ 31 by omega), c27_8, show f_in 8 0 5 = false from by decide]]; exact ⟨rfl, Qz.rf⟩)
    have hsw27 : (what).toInt < 0 ∨ 8 < (what).toInt := by
      have q_c27_0 := lv_neT c27_0 (show (0 : Int32).toInt = 0 from rfl)
      have q_c27_1 := lv_neT c27_1 (show (1 : Int32).toInt = 1 from rfl)
      have q_c27_2 := lv_neT c27_2 (show (2 : Int32).toInt = 2 from rfl)
      have q_c27_3 := lv_neT c27_3 (show (3 : Int32).toInt = 3 from rfl)
      have q_c27_4 := lv_neT c27_4 (show (4 : Int32).toInt = 4 from rfl)
      have q_c27_5 := lv_neT c27_5 (show (5 : Int32).toInt = 5 from rfl)
      have q_c27_6 := lv_neT c27_6 (show (6 : Int32).toInt = 6 from rfl)
      have q_c27_7 := lv_neT c27_7 (show (7 : Int32).toInt = 7 from rfl)
      have q_c27_8 := lv_neT c27_8 (show (8 : Int32).toInt = 8 from rfl)
      omega
    refine x_tableOut (tgt := 137) dX3_house_27 hsw27 (by decide) ?_
    have hf5 : f_in what 0 5 = false := by
      cases q : f_in what 0 5
      · rfl
      · exfalso
        obtain ⟨w, hw5, e⟩ := f_in_t (hi := 5) (by decide) q
        subst e
        rcases (show w = 0 ∨ w = 1 ∨ w = 2 ∨ w = 3 ∨ w = 4 ∨ w = 5 by omega) with rfl | rfl | rfl | rfl | rfl | rfl
        · exact c27_0 rfl
        · exact c27_1 rfl
        · exact c27_2 rfl
        · exact c27_3 rfl
        · exact c27_4 rfl
        · exact c27_5 rfl
    refine x_aload_n 1 dX3_house_137 rfl ?_
    refine x_bipush (v := -2) dX3_house_138 (by decide) ?_
    refine clX3_49 (qX3_refuse 2 (by decide) (by decide)) (by decide) rfl dX3_house_140 (fun r140 τ140 h140 => ?_)
    obtain ⟨rfl, rfl⟩ := h140
    exact x_iret dX3_house_143 (by rw [show p_house n r (nI h) what = ((-2 : Int32), 2) from by simp [zbT, zbF, f_in002, f_in102, f_in001, f_in101, p_house, c8, nI_clamp (show h < 2 ^ 31 by omega), hf5, c27_6, c27_7, c27_8]]; exact ⟨rfl, Qz.no⟩)
  · replace c8 := zb_0 c8
    refine x_aload_n 0 dX3_house_11 rfl ?_
    refine x_iconst (v := -1) dX3_house_12 (by decide) ?_
    refine clX3_49 (qX3_refuse 1 (by decide) (by decide)) (by decide) rfl dX3_house_13 (fun r13 τ13 h13 => ?_)
    obtain ⟨rfl, rfl⟩ := h13
    exact x_iret dX3_house_16 (by rw [show p_house n r house what = ((-1 : Int32), 1) from by simp [zbT, zbF, f_in002, f_in102, f_in001, f_in101, p_house, c8]]; exact ⟨rfl, Qz.no⟩)

set_option maxHeartbeats 4000000 in
theorem qX3_houseThen {E : mx_E} {σ : Mem} {n : Nat} {r : Row} (hN : NW σ) (hT : TI σ 1 n r) (hw : wf n r) (house k what : Int32) : MX3_houseThen E 4 [mx_rf E 0, .int house, .int k, .int what] σ (mx_i (fun v τ => (p_houseThen n r house k what).1 = v ∧ Qz (p_houseThen n r house k what).2 σ τ)) := by
  refine MM.of (lv := [(0, mx_rf E 0), (1, .int house), (2, .int k), (3, .int what)]) kpX3 rfl (Nat.le_of_ble_eq_true rfl) rfl ?_
  have hn6 := hw.1
  refine x_aload_n 0 dX3_houseThen_0 rfl ?_
  refine gfX3_10 dX3_houseThen_1 ?_
  refine x_iload_n 1 dX3_houseThen_4 rfl ?_
  refine clX3_122 (qX2_has (by decide) (by decide) hT.1 house) (by decide) (by decide) (by decide) rfl dX3_houseThen_5 (fun r5 τ5 h5 => ?_)
  obtain ⟨rfl, rfl⟩ := h5
  refine x_if_ne dX3_houseThen_8 (fun c8 => ?_) (fun c8 => ?_)
  · replace c8 := zb_1 c8
    obtain ⟨h, hh, rfl⟩ := f_inN_t (by omega) c8
    refine x_iload_n 2 dX3_houseThen_17 rfl ?_
    refine x_iconst (v := 0) dX3_houseThen_18 (by decide) ?_
    refine x_bipush (v := 60) dX3_houseThen_19 (by decide) ?_
    refine clX3_169 (qX3_outOf k 0 60) (by decide) rfl dX3_houseThen_21 (fun r21 τ21 h21 => ?_)
    obtain ⟨rfl, rfl⟩ := h21
    rcases f_out_c (v := k) (lo := 0) (hi := 60) (l := 0) (h := 60) (by decide) (by decide) rfl rfl with ⟨k1, e⟩ | ⟨k1, k2, e⟩ | ⟨k, hk1, hk2, rfl, k1, k2, e⟩
    · refine x_top (show f_out k 0 60 = -4 from e) ?_
      refine x_istore (lv' := [(4, .int (-4)), (0, mx_rf E 0), (1, .int (nI h)), (2, .int k), (3, .int what)]) dX3_houseThen_24 rfl (by decide) rfl ?_
      refine x_iload 0 dX3_houseThen_26 rfl ?_
      refine x_if_eq dX3_houseThen_28 (fun c => absurd c (by decide)) (fun _ => ?_)
      refine x_aload_n 1 dX3_houseThen_31 rfl ?_
      refine x_iload 0 dX3_houseThen_32 rfl ?_
      refine clX3_49 (qX3_refuse 4 (by decide) (by decide)) (by decide) rfl dX3_houseThen_34 (fun r34 τ34 h34 => ?_)
      obtain ⟨rfl, rfl⟩ := h34
      exact x_iret dX3_houseThen_37 (by rw [show p_houseThen n r (nI h) k what = ((-4 : Int32), 4) from by simp [zbT, zbF, f_in002, f_in102, f_in001, f_in101, p_houseThen, c8, k1, nI_clamp (show h < 2 ^ 31 by omega)]]; exact ⟨rfl, Qz.no⟩)
    · refine x_top (show f_out k 0 60 = -6 from e) ?_
      refine x_istore (lv' := [(4, .int (-6)), (0, mx_rf E 0), (1, .int (nI h)), (2, .int k), (3, .int what)]) dX3_houseThen_24 rfl (by decide) rfl ?_
      refine x_iload 0 dX3_houseThen_26 rfl ?_
      refine x_if_eq dX3_houseThen_28 (fun c => absurd c (by decide)) (fun _ => ?_)
      refine x_aload_n 1 dX3_houseThen_31 rfl ?_
      refine x_iload 0 dX3_houseThen_32 rfl ?_
      refine clX3_49 (qX3_refuse 6 (by decide) (by decide)) (by decide) rfl dX3_houseThen_34 (fun r34 τ34 h34 => ?_)
      obtain ⟨rfl, rfl⟩ := h34
      exact x_iret dX3_houseThen_37 (by rw [show p_houseThen n r (nI h) k what = ((-6 : Int32), 6) from by simp [zbT, zbF, f_in002, f_in102, f_in001, f_in101, p_houseThen, c8, k1, k2, nI_clamp (show h < 2 ^ 31 by omega)]]; exact ⟨rfl, Qz.no⟩)
    · refine x_top (show f_out (nI k) 0 60 = 0 from e) ?_
      refine x_istore (lv' := [(4, .int 0), (0, mx_rf E 0), (1, .int (nI h)), (2, .int (nI k)), (3, .int what)]) dX3_houseThen_24 rfl (by decide) rfl ?_
      refine x_iload 0 dX3_houseThen_26 rfl ?_
      refine x_if_eq dX3_houseThen_28 (fun _ => ?_) (fun c => absurd c (by decide))
      refine x_iload_n 4 dX3_houseThen_38 rfl ?_
      refine x_if_lt dX3_houseThen_39 (fun c39 => ?_) (fun c39 => ?_)
      · have hwt : f_in what 0 2 = false := by unfold f_in; rw [decide_eq_false (Int32.not_le.mpr c39)]; rfl
        refine x_aload_n 1 dX3_houseThen_47 rfl ?_
        refine x_bipush (v := -2) dX3_houseThen_48 (by decide) ?_
        refine clX3_49 (qX3_refuse 2 (by decide) (by decide)) (by decide) rfl dX3_houseThen_50 (fun r50 τ50 h50 => ?_)
        obtain ⟨rfl, rfl⟩ := h50
        exact x_iret dX3_houseThen_53 (by rw [show p_houseThen n r (nI h) (nI k) what = ((-2 : Int32), 2) from by simp [zbT, zbF, f_in002, f_in102, f_in001, f_in101, p_houseThen, c8, k1, k2, c39, (Int32.not_le.mpr c39), nI_clamp (show h < 2 ^ 31 by omega), nI_clamp (show k < 2 ^ 31 by omega), hwt]]; exact ⟨rfl, Qz.no⟩)
      · refine x_iload_n 4 dX3_houseThen_42 rfl ?_
        refine x_iconst (v := 2) dX3_houseThen_43 (by decide) ?_
        refine x_icmp_le dX3_houseThen_44 (fun c44 => ?_) (fun c44 => ?_)
        · have hwt : f_in what 0 2 = true := by unfold f_in; rw [decide_eq_true (Int32.not_lt.mp c39), decide_eq_true c44]; rfl
          refine x_aload_n 1 dX3_houseThen_54 rfl ?_
          refine gfX3_16 dX3_houseThen_55 ?_
          refine x_aload_n 1 dX3_houseThen_58 rfl ?_
          refine gfX3_10 dX3_houseThen_59 ?_
          refine clX3_73 (qX2_become (t := 2) (u := 1) (by decide) (by decide) (by decide) (by decide) (by decide) hT hw) (by decide) (by decide) (by decide) rfl dX3_houseThen_62 (fun τ62 h62 => ?_)
          refine x_aload_n 1 dX3_houseThen_65 rfl ?_
          refine gfX3_16 dX3_houseThen_66 ?_
          refine x_iload_n 3 dX3_houseThen_69 rfl ?_
          refine clX3_145 (qX2_pass (t := 2) (by decide) (by decide) h62.1 hw (hN.off (by decide) (by decide) h62.2) k (by omega)) (by decide) (by decide) (by decide) rfl dX3_houseThen_70 (fun τ70 h70 => ?_)
          have hO70 : Off 2 σ τ70 := h62.2.tr h70.2
          refine x_aload_n 1 dX3_houseThen_73 rfl ?_
          refine gfX3_16 dX3_houseThen_74 ?_
          refine x_iload_n 2 dX3_houseThen_77 rfl ?_
          refine clX3_125 (qX2_at (by decide) (by decide) h70.1.1 hn6 hh) (by decide) (by decide) (by decide) rfl dX3_houseThen_78 (fun r78 τ78 h78 => ?_)
          obtain ⟨rfl, rfl⟩ := h78
          refine x_astore (lv' := [(5, mx_rf E (4 + 6 * 2 + h)), (4, .int 0), (0, mx_rf E 0), (1, .int (nI h)), (2, .int (nI k)), (3, .int what)]) dX3_houseThen_81 rfl (by decide) rfl ?_
          refine x_iload_n 5 dX3_houseThen_83 rfl ?_
          refine x_if_ne dX3_houseThen_84 (fun c84 => ?_) (fun c84 => ?_)
          · refine x_iload_n 5 dX3_houseThen_93 rfl ?_
            refine x_iconst (v := 1) dX3_houseThen_94 (by decide) ?_
            refine x_icmp_ne dX3_houseThen_95 (fun c95 => ?_) (fun c95 => ?_)
            · refine x_aload 0 dX3_houseThen_106 rfl ?_
              refine gfX3_128 (by omega) (by omega) dX3_houseThen_108 ?_
              refine x_top (show τ70 (4 + 6 * 2 + h) 3 = (f_weeks n r k) (6 + 6 * h + 3) from (h70.1.2.2.2.2 _ hh).1 3 (by decide)) ?_
              exact x_iret dX3_houseThen_111 (by rw [show p_houseThen n r (nI h) (nI k) what = (((f_weeks n r k) (6 + 6 * h + 3) : Int32), 0) from by simp [zbT, zbF, f_in002, f_in102, f_in001, f_in101, p_houseThen, c8, k1, k2, c39, (Int32.not_lt.mp c39), c44, (Int32.not_lt.mpr c44), c84, c95, nI_clamp (show h < 2 ^ 31 by omega), nI_clamp (show k < 2 ^ 31 by omega), hwt]]; exact ⟨rfl, Qz.off hO70⟩)
            · refine x_aload 0 dX3_houseThen_98 rfl ?_
              refine gfX3_157 (by omega) (by omega) dX3_houseThen_100 ?_
              refine x_top (show τ70 (4 + 6 * 2 + h) 5 = (f_weeks n r k) (6 + 6 * h + 5) from (h70.1.2.2.2.2 _ hh).1 5 (by decide)) ?_
              refine x_goto dX3_houseThen_103 ?_
              exact x_iret dX3_houseThen_111 (by rw [show p_houseThen n r (nI h) (nI k) what = (((f_weeks n r k) (6 + 6 * h + 5) : Int32), 0) from by simp [zbT, zbF, f_in002, f_in102, f_in001, f_in101, p_houseThen, c8, k1, k2, c39, (Int32.not_lt.mp c39), c44, (Int32.not_lt.mpr c44), c84, c95, nI_clamp (show h < 2 ^ 31 by omega), nI_clamp (show k < 2 ^ 31 by omega), hwt]]; exact ⟨rfl, Qz.off hO70⟩)
          · refine x_aload 0 dX3_houseThen_87 rfl ?_
            refine gfX3_133 (by omega) (by omega) dX3_houseThen_89 ?_
            refine x_top (show τ70 (4 + 6 * 2 + h) 4 = (f_weeks n r k) (6 + 6 * h + 4) from (h70.1.2.2.2.2 _ hh).1 4 (by decide)) ?_
            exact x_iret dX3_houseThen_92 (by rw [show p_houseThen n r (nI h) (nI k) what = (((f_weeks n r k) (6 + 6 * h + 4) : Int32), 0) from by simp [zbT, zbF, f_in002, f_in102, f_in001, f_in101, p_houseThen, c8, k1, k2, c39, (Int32.not_lt.mp c39), c44, (Int32.not_lt.mpr c44), c84, nI_clamp (show h < 2 ^ 31 by omega), nI_clamp (show k < 2 ^ 31 by omega), hwt]]; exact ⟨rfl, Qz.off hO70⟩)
        · have hwt : f_in what 0 2 = false := by unfold f_in; rw [decide_eq_false c44, Bool.and_false]
          refine x_aload_n 1 dX3_houseThen_47 rfl ?_
          refine x_bipush (v := -2) dX3_houseThen_48 (by decide) ?_
          refine clX3_49 (qX3_refuse 2 (by decide) (by decide)) (by decide) rfl dX3_houseThen_50 (fun r50 τ50 h50 => ?_)
          obtain ⟨rfl, rfl⟩ := h50
          exact x_iret dX3_houseThen_53 (by rw [show p_houseThen n r (nI h) (nI k) what = ((-2 : Int32), 2) from by simp [zbT, zbF, f_in002, f_in102, f_in001, f_in101, p_houseThen, c8, k1, k2, c39, (Int32.not_lt.mp c39), c44, (Int32.not_le.mp c44), nI_clamp (show h < 2 ^ 31 by omega), nI_clamp (show k < 2 ^ 31 by omega), hwt]]; exact ⟨rfl, Qz.no⟩)
  · replace c8 := zb_0 c8
    refine x_aload_n 0 dX3_houseThen_11 rfl ?_
    refine x_iconst (v := -1) dX3_houseThen_12 (by decide) ?_
    refine clX3_49 (qX3_refuse 1 (by decide) (by decide)) (by decide) rfl dX3_houseThen_13 (fun r13 τ13 h13 => ?_)
    obtain ⟨rfl, rfl⟩ := h13
    exact x_iret dX3_houseThen_16 (by rw [show p_houseThen n r house k what = ((-1 : Int32), 1) from by simp [zbT, zbF, f_in002, f_in102, f_in001, f_in101, p_houseThen, c8]]; exact ⟨rfl, Qz.no⟩)

set_option maxHeartbeats 4000000 in
theorem qX3_then {E : mx_E} {σ : Mem} {n : Nat} {r : Row} (hN : NW σ) (hT : TI σ 1 n r) (hw : wf n r) (k what : Int32) : MX3_then E 4 [mx_rf E 0, .int k, .int what] σ (mx_i (fun v τ => (p_then n r k what).1 = v ∧ Qz (p_then n r k what).2 σ τ)) := by
  refine MM.of (lv := [(0, mx_rf E 0), (1, .int k), (2, .int what)]) kpX3 rfl (Nat.le_of_ble_eq_true rfl) rfl ?_
  have hn6 := hw.1
  refine x_iload_n 1 dX3_then_0 rfl ?_
  refine x_iconst (v := 0) dX3_then_1 (by decide) ?_
  refine x_bipush (v := 60) dX3_then_2 (by decide) ?_
  refine clX3_169 (qX3_outOf k 0 60) (by decide) rfl dX3_then_4 (fun r4 τ4 h4 => ?_)
  obtain ⟨rfl, rfl⟩ := h4
  rcases f_out_c (v := k) (lo := 0) (hi := 60) (l := 0) (h := 60) (by decide) (by decide) rfl rfl with ⟨k1, e⟩ | ⟨k1, k2, e⟩ | ⟨k, hk1, hk2, rfl, k1, k2, e⟩
  · refine x_top (show f_out k 0 60 = -4 from e) ?_
    refine x_istore_n (lv' := [(3, .int (-4)), (0, mx_rf E 0), (1, .int k), (2, .int what)]) dX3_then_7 rfl (by decide) rfl ?_
    refine x_iload_n 0 dX3_then_8 rfl ?_
    refine x_if_eq dX3_then_9 (fun c => absurd c (by decide)) (fun _ => ?_)
    refine x_aload_n 1 dX3_then_12 rfl ?_
    refine x_iload_n 0 dX3_then_13 rfl ?_
    refine clX3_49 (qX3_refuse 4 (by decide) (by decide)) (by decide) rfl dX3_then_14 (fun r14 τ14 h14 => ?_)
    obtain ⟨rfl, rfl⟩ := h14
    exact x_iret dX3_then_17 (by rw [show p_then n r k what = ((-4 : Int32), 4) from by simp [zbT, zbF, f_in002, f_in102, f_in001, f_in101, p_then, k1]]; exact ⟨rfl, Qz.no⟩)
  · refine x_top (show f_out k 0 60 = -6 from e) ?_
    refine x_istore_n (lv' := [(3, .int (-6)), (0, mx_rf E 0), (1, .int k), (2, .int what)]) dX3_then_7 rfl (by decide) rfl ?_
    refine x_iload_n 0 dX3_then_8 rfl ?_
    refine x_if_eq dX3_then_9 (fun c => absurd c (by decide)) (fun _ => ?_)
    refine x_aload_n 1 dX3_then_12 rfl ?_
    refine x_iload_n 0 dX3_then_13 rfl ?_
    refine clX3_49 (qX3_refuse 6 (by decide) (by decide)) (by decide) rfl dX3_then_14 (fun r14 τ14 h14 => ?_)
    obtain ⟨rfl, rfl⟩ := h14
    exact x_iret dX3_then_17 (by rw [show p_then n r k what = ((-6 : Int32), 6) from by simp [zbT, zbF, f_in002, f_in102, f_in001, f_in101, p_then, k1, k2]]; exact ⟨rfl, Qz.no⟩)
  · refine x_top (show f_out (nI k) 0 60 = 0 from e) ?_
    refine x_istore_n (lv' := [(3, .int 0), (0, mx_rf E 0), (1, .int (nI k)), (2, .int what)]) dX3_then_7 rfl (by decide) rfl ?_
    refine x_iload_n 0 dX3_then_8 rfl ?_
    refine x_if_eq dX3_then_9 (fun _ => ?_) (fun c => absurd c (by decide))
    refine x_iload_n 3 dX3_then_18 rfl ?_
    refine x_if_lt dX3_then_19 (fun c19 => ?_) (fun c19 => ?_)
    · have hwt : f_in what 0 2 = false := by unfold f_in; rw [decide_eq_false (Int32.not_le.mpr c19)]; rfl
      refine x_aload_n 1 dX3_then_27 rfl ?_
      refine x_bipush (v := -2) dX3_then_28 (by decide) ?_
      refine clX3_49 (qX3_refuse 2 (by decide) (by decide)) (by decide) rfl dX3_then_30 (fun r30 τ30 h30 => ?_)
      obtain ⟨rfl, rfl⟩ := h30
      exact x_iret dX3_then_33 (by rw [show p_then n r (nI k) what = ((-2 : Int32), 2) from by simp [zbT, zbF, f_in002, f_in102, f_in001, f_in101, p_then, k1, k2, c19, (Int32.not_le.mpr c19), nI_clamp (show k < 2 ^ 31 by omega), hwt]]; exact ⟨rfl, Qz.no⟩)
    · refine x_iload_n 3 dX3_then_22 rfl ?_
      refine x_iconst (v := 2) dX3_then_23 (by decide) ?_
      refine x_icmp_le dX3_then_24 (fun c24 => ?_) (fun c24 => ?_)
      · have hwt : f_in what 0 2 = true := by unfold f_in; rw [decide_eq_true (Int32.not_lt.mp c19), decide_eq_true c24]; rfl
        refine x_aload_n 1 dX3_then_34 rfl ?_
        refine gfX3_16 dX3_then_35 ?_
        refine x_aload_n 1 dX3_then_38 rfl ?_
        refine gfX3_10 dX3_then_39 ?_
        refine clX3_73 (qX2_become (t := 2) (u := 1) (by decide) (by decide) (by decide) (by decide) (by decide) hT hw) (by decide) (by decide) (by decide) rfl dX3_then_42 (fun τ42 h42 => ?_)
        refine x_aload_n 1 dX3_then_45 rfl ?_
        refine gfX3_16 dX3_then_46 ?_
        refine x_iload_n 2 dX3_then_49 rfl ?_
        refine clX3_145 (qX2_pass (t := 2) (by decide) (by decide) h42.1 hw (hN.off (by decide) (by decide) h42.2) k (by omega)) (by decide) (by decide) (by decide) rfl dX3_then_50 (fun τ50 h50 => ?_)
        have hO50 : Off 2 σ τ50 := h42.2.tr h50.2
        refine x_iload_n 3 dX3_then_53 rfl ?_
        refine x_if_ne dX3_then_54 (fun c54 => ?_) (fun c54 => ?_)
        · refine x_iload_n 3 dX3_then_65 rfl ?_
          refine x_iconst (v := 1) dX3_then_66 (by decide) ?_
          refine x_icmp_ne dX3_then_67 (fun c67 => ?_) (fun c67 => ?_)
          · refine x_aload_n 1 dX3_then_78 rfl ?_
            refine gfX3_16 dX3_then_79 ?_
            refine gfX3_115 (by decide) (by decide) dX3_then_82 ?_
            refine x_top (show τ50 2 2 = nI n from h50.1.1) ?_
            refine x_if_ne dX3_then_85 (fun c85 => ?_) (fun c85 => ?_)
            · have hz : ¬ n = 0 := fun q => c85 (by rw [q]; rfl)
              refine x_aload_n 1 dX3_then_93 rfl ?_
              refine gfX3_16 dX3_then_94 ?_
              refine gfX3_139 (by decide) (by decide) dX3_then_97 ?_
              refine x_top (show τ50 2 3 = (f_weeks n r k) 2 from h50.1.2.1) ?_
              exact x_iret dX3_then_100 (by rw [show p_then n r (nI k) what = (((f_weeks n r k) 2 : Int32), 0) from by simp [zbT, zbF, f_in002, f_in102, f_in001, f_in101, p_then, k1, k2, c19, (Int32.not_lt.mp c19), c24, (Int32.not_lt.mpr c24), c54, c67, c85, nI_clamp (show k < 2 ^ 31 by omega), hwt, hz]]; exact ⟨rfl, Qz.off hO50⟩)
            · have hz : n = 0 := (nI_eq (b := 0) (by omega) (by decide)).mp c85
              refine x_bipush (v := -9) dX3_then_88 (by decide) ?_
              refine x_goto dX3_then_90 ?_
              exact x_iret dX3_then_100 (by rw [show p_then n r (nI k) what = ((-9 : Int32), 0) from by simp [zbT, zbF, f_in002, f_in102, f_in001, f_in101, p_then, k1, k2, c19, (Int32.not_lt.mp c19), c24, (Int32.not_lt.mpr c24), c54, c67, c85, nI_clamp (show k < 2 ^ 31 by omega), hwt, hz]]; exact ⟨rfl, Qz.off hO50⟩)
          · refine x_aload_n 1 dX3_then_70 rfl ?_
            refine gfX3_16 dX3_then_71 ?_
            refine gfX3_45 (by decide) (by decide) dX3_then_74 ?_
            refine x_top (show τ50 2 4 = (f_weeks n r k) 3 from h50.1.2.2.1) ?_
            exact x_iret dX3_then_77 (by rw [show p_then n r (nI k) what = (((f_weeks n r k) 3 : Int32), 0) from by simp [zbT, zbF, f_in002, f_in102, f_in001, f_in101, p_then, k1, k2, c19, (Int32.not_lt.mp c19), c24, (Int32.not_lt.mpr c24), c54, c67, nI_clamp (show k < 2 ^ 31 by omega), hwt]]; exact ⟨rfl, Qz.off hO50⟩)
        · refine x_aload_n 1 dX3_then_57 rfl ?_
          refine gfX3_16 dX3_then_58 ?_
          refine clX3_173 (qX2_keptBits (by decide) (by decide) h50.1 (wf_weeks hw k)) (by decide) (by decide) (by decide) rfl dX3_then_61 (fun r61 τ61 h61 => ?_)
          obtain ⟨rfl, rfl⟩ := h61
          exact x_iret dX3_then_64 (by rw [show p_then n r (nI k) what = (((f_weeks n r k) 4 : Int32), 0) from by simp [zbT, zbF, f_in002, f_in102, f_in001, f_in101, p_then, k1, k2, c19, (Int32.not_lt.mp c19), c24, (Int32.not_lt.mpr c24), c54, nI_clamp (show k < 2 ^ 31 by omega), hwt]]; exact ⟨rfl, Qz.off hO50⟩)
      · have hwt : f_in what 0 2 = false := by unfold f_in; rw [decide_eq_false c24, Bool.and_false]
        refine x_aload_n 1 dX3_then_27 rfl ?_
        refine x_bipush (v := -2) dX3_then_28 (by decide) ?_
        refine clX3_49 (qX3_refuse 2 (by decide) (by decide)) (by decide) rfl dX3_then_30 (fun r30 τ30 h30 => ?_)
        obtain ⟨rfl, rfl⟩ := h30
        exact x_iret dX3_then_33 (by rw [show p_then n r (nI k) what = ((-2 : Int32), 2) from by simp [zbT, zbF, f_in002, f_in102, f_in001, f_in101, p_then, k1, k2, c19, (Int32.not_lt.mp c19), c24, (Int32.not_le.mp c24), nI_clamp (show k < 2 ^ 31 by omega), hwt]]; exact ⟨rfl, Qz.no⟩)

set_option maxHeartbeats 4000000 in
theorem qX3_weeksTillLost {E : mx_E} {σ : Mem} {n : Nat} {r : Row} (hN : NW σ) (hT2 : TI σ 2 n r) (hw : wf n r) {h : Nat} (hh : h < n)  : MX3_weeksTillLost E 4 [mx_rf E 0, .int (nI h)] σ (mx_i (fun v τ => f_when n r h = v ∧ Off 2 σ τ)) := by
  refine MM.of (lv := [(0, mx_rf E 0), (1, .int (nI h))]) kpX3 rfl (Nat.le_of_ble_eq_true rfl) rfl ?_
  have hn6 := hw.1
  refine x_iconst (v := 0) dX3_weeksTillLost_0 (by decide) ?_
  refine x_istore_n (lv' := [(2, .int 0), (0, mx_rf E 0), (1, .int (nI h))]) dX3_weeksTillLost_1 rfl (by decide) rfl ?_
  have key2 : ∀ k, k ≤ 61 → ∀ τ : Mem, TI τ 2 n (f_weeks n r k) → Off 2 σ τ → f_whenG n r h (61 - k) k = f_when n r h → MX E 4 RX3 cX3_weeksTillLost 3 (some .int) 2 [(2, .int (nI k)), (0, mx_rf E 0), (1, .int (nI h))] [] τ (mx_i (fun v τ => f_when n r h = v ∧ Off 2 σ τ)) := by
    refine mx_ind 61 (fun k hi2 ih2 => ?_)
    intro τ hT2 hO hg
    refine x_iload_n 0 dX3_weeksTillLost_2 rfl ?_
    refine x_bipush (v := 60) dX3_weeksTillLost_3 (by decide) ?_
    refine x_icmp_gt dX3_weeksTillLost_5 (fun c5 => ?_) (fun c5 => ?_)
    · have hk : ¬ k ≤ 60 := Nat.not_le.mpr ((nI_ltI (a := 60) (by decide) (by omega)).mp c5)
      refine x_bipush (v := -9) dX3_weeksTillLost_38 (by decide) ?_
      exact x_iret dX3_weeksTillLost_40 ⟨f_whenE hk hg, hO⟩
    · have hk : k ≤ 60 := nI_nlt_le (b := 60) (by omega) (by decide) c5
      refine x_aload_n 1 dX3_weeksTillLost_8 rfl ?_
      refine gfX3_16 dX3_weeksTillLost_9 ?_
      refine x_iload_n 2 dX3_weeksTillLost_12 rfl ?_
      refine clX3_125 (qX2_at (by decide) (by decide) hT2.1 hn6 hh) (by decide) (by decide) (by decide) rfl dX3_weeksTillLost_13 (fun r13 τ13 h13 => ?_)
      obtain ⟨rfl, rfl⟩ := h13
      refine gfX3_136 (by omega) (by omega) dX3_weeksTillLost_16 ?_
      refine x_top (show τ (4 + 6 * 2 + h) 6 = zb (f_kept (f_weeks n r k) h) from (hT2.2.2.2.2 _ hh).2.1) ?_
      refine x_if_ne dX3_weeksTillLost_19 (fun c19 => ?_) (fun c19 => ?_)
      · replace c19 := zb_1 c19
        refine x_aload_n 1 dX3_weeksTillLost_24 rfl ?_
        refine gfX3_16 dX3_weeksTillLost_25 ?_
        refine x_iconst (v := 1) dX3_weeksTillLost_28 (by decide) ?_
        refine clX3_145 (qX2_pass (t := 2) (by decide) (by decide) hT2 (wf_weeks hw k) (hN.off (by decide) (by decide) hO) 1 (by omega)) (by decide) (by decide) (by decide) rfl dX3_weeksTillLost_29 (fun τ29 h29 => ?_)
        have hO29 : Off 2 σ τ29 := hO.tr h29.2
        refine x_iinc (v := nI (k + 1)) (lv' := [(2, .int (nI (k + 1))), (0, mx_rf E 0), (1, .int (nI h))]) 0 dX3_weeksTillLost_32 rfl (nI_1 _) (by decide) rfl ?_
        refine x_goto dX3_weeksTillLost_35 ?_
        exact ih2 (k + 1) (by omega) (by omega) _ (by exact h29.1) (hO29) (f_whenF hk hg c19)
      · replace c19 := zb_0 c19
        refine x_iload_n 0 dX3_weeksTillLost_22 rfl ?_
        exact x_iret dX3_weeksTillLost_23 ⟨f_whenT hk hg c19, hO⟩
  exact key2 0 (Nat.zero_le _) _ hT2 Off.rf rfl

set_option maxHeartbeats 4000000 in
theorem qX3_firstLost {E : mx_E} {σ : Mem} {n : Nat} {r : Row} (hN : NW σ) (hT : TI σ 1 n r) (hw : wf n r)  : MX3_firstLost E 4 [mx_rf E 0] σ (mx_i (fun v τ => f_flG n r 60 1 = v ∧ Off 2 σ τ)) := by
  refine MM.of (lv := [(0, mx_rf E 0)]) kpX3 rfl (Nat.le_of_ble_eq_true rfl) rfl ?_
  have hn6 := hw.1
  refine x_aload_n 0 dX3_firstLost_0 rfl ?_
  refine gfX3_16 dX3_firstLost_1 ?_
  refine x_aload_n 0 dX3_firstLost_4 rfl ?_
  refine gfX3_10 dX3_firstLost_5 ?_
  refine clX3_73 (qX2_become (t := 2) (u := 1) (by decide) (by decide) (by decide) (by decide) (by decide) hT hw) (by decide) (by decide) (by decide) rfl dX3_firstLost_8 (fun τ8 h8 => ?_)
  refine x_iconst (v := 1) dX3_firstLost_11 (by decide) ?_
  refine x_istore_n (lv' := [(1, .int 1), (0, mx_rf E 0)]) dX3_firstLost_12 rfl (by decide) rfl ?_
  have key13 : ∀ k, k ≤ 61 → 1 ≤ k → ∀ τ : Mem, TI τ 2 n (f_weeks n r (k - 1)) → Off 2 σ τ → f_flG n r (61 - k) k = f_flG n r 60 1 → MX E 4 RX3 cX3_firstLost 3 (some .int) 13 [(1, .int (nI k)), (0, mx_rf E 0)] [] τ (mx_i (fun v τ => f_flG n r 60 1 = v ∧ Off 2 σ τ)) := by
    refine mx_ind 61 (fun k hi13 ih13 => ?_)
    intro hk1 τ hT2 hO hg
    refine x_iload_n 0 dX3_firstLost_13 rfl ?_
    refine x_bipush (v := 60) dX3_firstLost_14 (by decide) ?_
    refine x_icmp_gt dX3_firstLost_16 (fun c16 => ?_) (fun c16 => ?_)
    · have hk : ¬ k ≤ 60 := Nat.not_le.mpr ((nI_ltI (a := 60) (by decide) (by omega)).mp c16)
      refine x_bipush (v := -9) dX3_firstLost_82 (by decide) ?_
      exact x_iret dX3_firstLost_84 ⟨f_flGE hk hg, hO⟩
    · have hk : k ≤ 60 := nI_nlt_le (b := 60) (by omega) (by decide) c16
      refine x_aload_n 1 dX3_firstLost_19 rfl ?_
      refine gfX3_16 dX3_firstLost_20 ?_
      refine x_iconst (v := 1) dX3_firstLost_23 (by decide) ?_
      refine clX3_145 (qX2_pass (t := 2) (by decide) (by decide) hT2 (wf_weeks hw (k - 1)) (hN.off (by decide) (by decide) hO) 1 (by omega)) (by decide) (by decide) (by decide) rfl dX3_firstLost_24 (fun τ24 h24 => ?_)
      have hO24 : Off 2 σ τ24 := hO.tr h24.2
      have hT3 : TI τ24 2 n (f_weeks n r k) := by have z := h24.1; rw [f_wk1 hk1] at z; exact z
      have hO := hO24
      refine x_iconst (v := 0) dX3_firstLost_27 (by decide) ?_
      refine x_istore_n (lv' := [(2, .int 0), (1, .int (nI k)), (0, mx_rf E 0)]) dX3_firstLost_28 rfl (by decide) rfl ?_
      have key29 : ∀ i, i ≤ n → f_flU r (f_weeks n r k) (n - i) i = f_flU r (f_weeks n r k) n 0 → MX E 4 RX3 cX3_firstLost 3 (some .int) 29 [(2, .int (nI i)), (1, .int (nI k)), (0, mx_rf E 0)] [] τ24 (mx_i (fun v τ => f_flG n r 60 1 = v ∧ Off 2 σ τ)) := by
        refine mx_ind n (fun i hi29 ih29 => ?_)
        intro hu
        refine x_iload_n 0 dX3_firstLost_29 rfl ?_
        refine x_aload_n 2 dX3_firstLost_30 rfl ?_
        refine gfX3_10 dX3_firstLost_31 ?_
        refine gfX3_115 (by decide) (by decide) dX3_firstLost_34 ?_
        refine x_top (show τ24 1 2 = nI n from (hT.offt hn6 (by decide) (by decide) (by decide) (by decide) (by decide) hO).1) ?_
        refine x_icmp_ge dX3_firstLost_37 (fun c37 => ?_) (fun c37 => ?_)
        · have hgi := nI_le_of (by omega) (by omega) c37
          have hn := f_flUE hgi hu
          refine x_iinc (v := nI (k + 1)) (lv' := [(1, .int (nI (k + 1))), (2, .int (nI i)), (0, mx_rf E 0)]) 1 dX3_firstLost_76 rfl (nI_1 _) (by decide) rfl ?_
          refine x_goto dX3_firstLost_79 ?_
          refine x_lvs [0, 2] rfl ?_
          exact ih13 (k + 1) (by omega) (by omega) (by omega) _ hT3 hO (f_flGF hk hg hn)
        · have hlt := nI_lt_of (by omega) (by omega) c37
          refine x_aload_n 2 dX3_firstLost_40 rfl ?_
          refine gfX3_10 dX3_firstLost_41 ?_
          refine x_iload_n 0 dX3_firstLost_44 rfl ?_
          refine clX3_125 (qX2_at (by decide) (by decide) (hT.offt hn6 (by decide) (by decide) (by decide) (by decide) (by decide) hO).1 hn6 hlt) (by decide) (by decide) (by decide) rfl dX3_firstLost_45 (fun r45 τ45 h45 => ?_)
          obtain ⟨rfl, rfl⟩ := h45
          refine gfX3_136 (by omega) (by omega) dX3_firstLost_48 ?_
          refine x_top (show τ24 (4 + 6 * 1 + i) 6 = zb (f_kept r i) from ((hT.offt hn6 (by decide) (by decide) (by decide) (by decide) (by decide) hO).2.2.2.2 _ hlt).2.1) ?_
          refine x_if_eq dX3_firstLost_51 (fun c51 => ?_) (fun c51 => ?_)
          · replace c51 := zb_0 c51
            refine x_iinc (v := nI (i + 1)) (lv' := [(2, .int (nI (i + 1))), (1, .int (nI k)), (0, mx_rf E 0)]) 0 dX3_firstLost_70 rfl (nI_1 _) (by decide) rfl ?_
            refine x_goto dX3_firstLost_73 ?_
            exact ih29 (i + 1) (by omega) (by omega) (f_flUF hlt hu (Or.inl c51))
          · replace c51 := zb_1 c51
            refine x_aload_n 2 dX3_firstLost_54 rfl ?_
            refine gfX3_16 dX3_firstLost_55 ?_
            refine x_iload_n 0 dX3_firstLost_58 rfl ?_
            refine clX3_125 (qX2_at (by decide) (by decide) hT3.1 hn6 hlt) (by decide) (by decide) (by decide) rfl dX3_firstLost_59 (fun r59 τ59 h59 => ?_)
            obtain ⟨rfl, rfl⟩ := h59
            refine gfX3_136 (by omega) (by omega) dX3_firstLost_62 ?_
            refine x_top (show τ24 (4 + 6 * 2 + i) 6 = zb (f_kept (f_weeks n r k) i) from (hT3.2.2.2.2 _ hlt).2.1) ?_
            refine x_if_ne dX3_firstLost_65 (fun c65 => ?_) (fun c65 => ?_)
            · replace c65 := zb_1 c65
              refine x_iinc (v := nI (i + 1)) (lv' := [(2, .int (nI (i + 1))), (1, .int (nI k)), (0, mx_rf E 0)]) 0 dX3_firstLost_70 rfl (nI_1 _) (by decide) rfl ?_
              refine x_goto dX3_firstLost_73 ?_
              exact ih29 (i + 1) (by omega) (by omega) (f_flUF hlt hu (Or.inr c65))
            · replace c65 := zb_0 c65
              refine x_iload_n 0 dX3_firstLost_68 rfl ?_
              exact x_iret dX3_firstLost_69 ⟨f_flGT hk hg (f_flUT hlt hu c51 c65), hO⟩
      exact key29 0 (Nat.zero_le _) rfl
  exact key13 1 (by omega) (by omega) _ h8.1 h8.2 rfl

set_option maxHeartbeats 4000000 in
theorem qX3_lost {E : mx_E} {σ : Mem} {n : Nat} {r : Row} (hN : NW σ) (hT : TI σ 1 n r) (hw : wf n r) (house : Int32) : MX3_lost E 5 [mx_rf E 0, .int house] σ (mx_i (fun v τ => (p_lost n r house).1 = v ∧ Qz (p_lost n r house).2 σ τ)) := by
  refine MM.of (lv := [(0, mx_rf E 0), (1, .int house)]) kpX3 rfl (Nat.le_of_ble_eq_true rfl) rfl ?_
  have hn6 := hw.1
  refine x_iload_n 1 dX3_lost_0 rfl ?_
  refine x_iconst (v := -1) dX3_lost_1 (by decide) ?_
  refine x_icmp_ne dX3_lost_2 (fun c2 => ?_) (fun c2 => ?_)
  · refine x_aload_n 0 dX3_lost_10 rfl ?_
    refine gfX3_10 dX3_lost_11 ?_
    refine x_iload_n 1 dX3_lost_14 rfl ?_
    refine clX3_122 (qX2_has (by decide) (by decide) hT.1 house) (by decide) (by decide) (by decide) rfl dX3_lost_15 (fun r15 τ15 h15 => ?_)
    obtain ⟨rfl, rfl⟩ := h15
    refine x_if_ne dX3_lost_18 (fun c18 => ?_) (fun c18 => ?_)
    · replace c18 := zb_1 c18
      obtain ⟨h, hh, rfl⟩ := f_inN_t (by omega) c18
      refine x_aload_n 0 dX3_lost_27 rfl ?_
      refine gfX3_16 dX3_lost_28 ?_
      refine x_aload_n 0 dX3_lost_31 rfl ?_
      refine gfX3_10 dX3_lost_32 ?_
      refine clX3_73 (qX2_become (t := 2) (u := 1) (by decide) (by decide) (by decide) (by decide) (by decide) hT hw) (by decide) (by decide) (by decide) rfl dX3_lost_35 (fun τ35 h35 => ?_)
      refine x_aload_n 0 dX3_lost_38 rfl ?_
      refine x_iload_n 1 dX3_lost_39 rfl ?_
      refine clX3_179 (qX3_weeksTillLost (hN.off (by decide) (by decide) h35.2) h35.1 hw hh) (by decide) rfl dX3_lost_40 (fun r40 τ40 h40 => ?_)
      obtain ⟨rfl, hO9⟩ := h40
      have hO8 : Off 2 σ τ40 := h35.2.tr hO9
      exact x_iret dX3_lost_43 (by rw [show p_lost n r (nI h) = ((f_when n r h : Int32), 0) from by simp only [p_lost, c2, c18, nI_clamp (show h < 2 ^ 31 by omega), reduceIte, Bool.false_eq_true, Bool.true_eq_false, Bool.true_and, Bool.false_and, Bool.and_true, Bool.and_false, decide_eq_true_eq, decide_true, decide_false, not_true_eq_false, not_false_eq_true, zbT, zbF]]; exact ⟨rfl, Qz.off hO8⟩)
    · replace c18 := zb_0 c18
      refine x_aload_n 0 dX3_lost_21 rfl ?_
      refine x_iconst (v := -1) dX3_lost_22 (by decide) ?_
      refine clX3_49 (qX3_refuse 1 (by decide) (by decide)) (by decide) rfl dX3_lost_23 (fun r23 τ23 h23 => ?_)
      obtain ⟨rfl, rfl⟩ := h23
      exact x_iret dX3_lost_26 (by rw [show p_lost n r house = ((-1 : Int32), 1) from by simp only [p_lost, c2, c18, reduceIte, Bool.false_eq_true, Bool.true_eq_false, Bool.true_and, Bool.false_and, Bool.and_true, Bool.and_false, decide_eq_true_eq, decide_true, decide_false, not_true_eq_false, not_false_eq_true, zbT, zbF]]; exact ⟨rfl, Qz.no⟩)
  · refine x_aload_n 0 dX3_lost_5 rfl ?_
    refine clX3_176 (qX3_firstLost hN hT hw) (by decide) rfl dX3_lost_6 (fun r6 τ6 h6 => ?_)
    obtain ⟨rfl, hO9⟩ := h6
    exact x_iret dX3_lost_9 (by rw [show p_lost n r house = ((f_flG n r 60 1 : Int32), 0) from by simp only [p_lost, c2, reduceIte, Bool.false_eq_true, Bool.true_eq_false, Bool.true_and, Bool.false_and, Bool.and_true, Bool.and_false, decide_eq_true_eq, decide_true, decide_false, not_true_eq_false, not_false_eq_true, zbT, zbF]]; exact ⟨rfl, Qz.off hO9⟩)

set_option maxHeartbeats 4000000 in
theorem qX3_dark {E : mx_E} {σ : Mem} {n : Nat} {r : Row} (hN : NW σ) (hT : TI σ 1 n r) (hw : wf n r)  : MX3_dark E 4 [mx_rf E 0] σ (mx_i (fun v τ => f_darkG n r 61 0 = v ∧ Qz 0 σ τ)) := by
  refine MM.of (lv := [(0, mx_rf E 0)]) kpX3 rfl (Nat.le_of_ble_eq_true rfl) rfl ?_
  have hn6 := hw.1
  refine x_aload_n 0 dX3_dark_0 rfl ?_
  refine gfX3_16 dX3_dark_1 ?_
  refine x_aload_n 0 dX3_dark_4 rfl ?_
  refine gfX3_10 dX3_dark_5 ?_
  refine clX3_73 (qX2_become (t := 2) (u := 1) (by decide) (by decide) (by decide) (by decide) (by decide) hT hw) (by decide) (by decide) (by decide) rfl dX3_dark_8 (fun τ8 h8 => ?_)
  refine x_iconst (v := 0) dX3_dark_11 (by decide) ?_
  refine x_istore_n (lv' := [(1, .int 0), (0, mx_rf E 0)]) dX3_dark_12 rfl (by decide) rfl ?_
  have key13 : ∀ k, k ≤ 61 → ∀ τ : Mem, TI τ 2 n (f_weeks n r k) → Off 2 σ τ → f_darkG n r (61 - k) k = f_darkG n r 61 0 → MX E 4 RX3 cX3_dark 2 (some .int) 13 [(1, .int (nI k)), (0, mx_rf E 0)] [] τ (mx_i (fun v τ => f_darkG n r 61 0 = v ∧ Qz 0 σ τ)) := by
    refine mx_ind 61 (fun k hi13 ih13 => ?_)
    intro τ hT2 hO hg
    refine x_iload_n 0 dX3_dark_13 rfl ?_
    refine x_bipush (v := 60) dX3_dark_14 (by decide) ?_
    refine x_icmp_gt dX3_dark_16 (fun c16 => ?_) (fun c16 => ?_)
    · have hk : ¬ k ≤ 60 := Nat.not_le.mpr ((nI_ltI (a := 60) (by decide) (by omega)).mp c16)
      refine x_bipush (v := -9) dX3_dark_52 (by decide) ?_
      exact x_iret dX3_dark_54 ⟨f_darkE hk hg, Qz.off hO⟩
    · have hk : k ≤ 60 := nI_nlt_le (b := 60) (by omega) (by decide) c16
      refine x_aload_n 1 dX3_dark_19 rfl ?_
      refine gfX3_16 dX3_dark_20 ?_
      refine gfX3_45 (by decide) (by decide) dX3_dark_23 ?_
      refine x_top (show τ 2 4 = (f_weeks n r k) 3 from hT2.2.2.1) ?_
      refine x_aload_n 1 dX3_dark_26 rfl ?_
      refine gfX3_16 dX3_dark_27 ?_
      refine clX3_182 (qX2_burnsInAWeek (by decide) (by decide) hT2 (wf_weeks hw k)) (by decide) (by decide) (by decide) rfl dX3_dark_30 (fun r30 τ30 h30 => ?_)
      obtain ⟨rfl, rfl⟩ := h30
      refine x_icmp_ge dX3_dark_33 (fun c33 => ?_) (fun c33 => ?_)
      · refine x_aload_n 1 dX3_dark_38 rfl ?_
        refine gfX3_16 dX3_dark_39 ?_
        refine x_iconst (v := 1) dX3_dark_42 (by decide) ?_
        refine clX3_145 (qX2_pass (t := 2) (by decide) (by decide) hT2 (wf_weeks hw k) (hN.off (by decide) (by decide) hO) 1 (by omega)) (by decide) (by decide) (by decide) rfl dX3_dark_43 (fun τ43 h43 => ?_)
        have hO43 : Off 2 σ τ43 := hO.tr h43.2
        refine x_iinc (v := nI (k + 1)) (lv' := [(1, .int (nI (k + 1))), (0, mx_rf E 0)]) 0 dX3_dark_46 rfl (nI_1 _) (by decide) rfl ?_
        refine x_goto dX3_dark_49 ?_
        exact ih13 (k + 1) (by omega) (by omega) _ h43.1 hO43 (f_darkF hk hg (Int32.not_lt.mpr c33))
      · refine x_iload_n 0 dX3_dark_36 rfl ?_
        exact x_iret dX3_dark_37 ⟨f_darkT hk hg (Int32.not_le.mp c33), Qz.off hO⟩
  exact key13 0 (by omega) _ h8.1 h8.2 rfl

set_option maxHeartbeats 4000000 in
theorem qX3_still {E : mx_E} {σ : Mem} {n : Nat} {r : Row} (hN : NW σ) (hT : TI σ 1 n r) (hw : wf n r)  : MX3_still E 4 [mx_rf E 0] σ (mx_i (fun v τ => f_stillG n r 61 0 = v ∧ Qz 0 σ τ)) := by
  refine MM.of (lv := [(0, mx_rf E 0)]) kpX3 rfl (Nat.le_of_ble_eq_true rfl) rfl ?_
  have hn6 := hw.1
  refine x_aload_n 0 dX3_still_0 rfl ?_
  refine gfX3_16 dX3_still_1 ?_
  refine x_aload_n 0 dX3_still_4 rfl ?_
  refine gfX3_10 dX3_still_5 ?_
  refine clX3_73 (qX2_become (t := 2) (u := 1) (by decide) (by decide) (by decide) (by decide) (by decide) hT hw) (by decide) (by decide) (by decide) rfl dX3_still_8 (fun τ8 h8 => ?_)
  refine x_aload_n 0 dX3_still_11 rfl ?_
  refine gfX3_38 dX3_still_12 ?_
  refine clX3_70 (qX1_drop0 (by decide) (by decide)) (by decide) (by decide) (by decide) rfl dX3_still_15 (fun τ15 h15 => ?_)
  obtain rfl := h15
  refine x_iconst (v := 0) dX3_still_18 (by decide) ?_
  refine x_istore_n (lv' := [(1, .int 0), (0, mx_rf E 0)]) dX3_still_19 rfl (by decide) rfl ?_
  have key20 : ∀ k, k ≤ 81 → ∀ τ : Mem, TI τ 2 n (f_weeks n r k) → Of3 σ τ → τ 30 1 = nI k → (∀ j, j < k → τ 33 j = f_keptN n r j) → MX E 4 RX3 cX3_still 2 (some .int) 20 [(1, .int (nI k)), (0, mx_rf E 0)] [] τ (mx_i (fun v τ => f_stillG n r 61 0 = v ∧ Qz 0 σ τ)) := by
    refine mx_ind 81 (fun k hi20 ih20 => ?_)
    intro τ hT2 hO hs hl
    refine x_iload_n 0 dX3_still_20 rfl ?_
    refine x_bipush (v := 80) dX3_still_21 (by decide) ?_
    refine x_icmp_gt dX3_still_23 (fun c23 => ?_) (fun c23 => ?_)
    · have hge := (nI_ltI (a := 80) (by decide) (by omega)).mp c23
      have hk81 : k = 81 := by omega
      subst hk81
      refine x_iconst (v := 0) dX3_still_54 (by decide) ?_
      refine x_istore_n (lv' := [(1, .int 0), (0, mx_rf E 0)]) dX3_still_55 rfl (by decide) rfl ?_
      have key56 : ∀ k, k ≤ 61 → f_stillG n r (61 - k) k = f_stillG n r 61 0 → MX E 4 RX3 cX3_still 2 (some .int) 56 [(1, .int (nI k)), (0, mx_rf E 0)] [] τ (mx_i (fun v τ => f_stillG n r 61 0 = v ∧ Qz 0 σ τ)) := by
        refine mx_ind 61 (fun k hi56 ih56 => ?_)
        intro hg
        refine x_iload_n 0 dX3_still_56 rfl ?_
        refine x_bipush (v := 60) dX3_still_57 (by decide) ?_
        refine x_icmp_gt dX3_still_59 (fun c59 => ?_) (fun c59 => ?_)
        · have hk : ¬ k ≤ 60 := Nat.not_le.mpr ((nI_ltI (a := 60) (by decide) (by omega)).mp c59)
          refine x_bipush (v := -9) dX3_still_92 (by decide) ?_
          exact x_iret dX3_still_94 ⟨f_stillE hk hg, hO.qz⟩
        · have hk : k ≤ 60 := nI_nlt_le (b := 60) (by omega) (by decide) c59
          refine x_aload_n 1 dX3_still_62 rfl ?_
          refine gfX3_38 dX3_still_63 ?_
          refine x_iload_n 0 dX3_still_66 rfl ?_
          refine clX3_77 (qX1_at (k := 30) (by decide) (by decide) 81 (show 81 ≤ 81 by omega) hs k (by omega)) (by decide) (by decide) (by decide) rfl dX3_still_67 (fun r67 τ67 h67 => ?_)
          obtain ⟨rfl, rfl⟩ := h67
          refine x_aload_n 1 dX3_still_70 rfl ?_
          refine gfX3_38 dX3_still_71 ?_
          refine x_iload_n 0 dX3_still_74 rfl ?_
          refine x_bipush (v := 20) dX3_still_75 (by decide) ?_
          refine x_iadd dX3_still_77 ?_
          refine x_top (show (nI k) + 20 = nI (k + 20) from nI_add k 20) ?_
          refine clX3_77 (qX1_at (k := 30) (by decide) (by decide) 81 (show 81 ≤ 81 by omega) hs (k + 20) (by omega)) (by decide) (by decide) (by decide) rfl dX3_still_78 (fun r78 τ78 h78 => ?_)
          obtain ⟨rfl, rfl⟩ := h78
          refine x_icmp_ne dX3_still_81 (fun c81 => ?_) (fun c81 => ?_)
          · refine x_iinc (v := nI (k + 1)) (lv' := [(1, .int (nI (k + 1))), (0, mx_rf E 0)]) 0 dX3_still_86 rfl (nI_1 _) (by decide) rfl ?_
            refine x_goto dX3_still_89 ?_
            exact ih56 (k + 1) (by omega) (by omega) (f_stillF hk hg (fun e => c81 (by rw [hl _ (by omega), hl _ (by omega)]; exact e)))
          · refine x_iload_n 0 dX3_still_84 rfl ?_
            exact x_iret dX3_still_85 ⟨f_stillT hk hg (by rw [← hl _ (by omega), ← hl _ (by omega)]; exact c81), hO.qz⟩
      exact key56 0 (by omega) rfl
    · have hk := nI_nlt_le (b := 80) (by omega) (by decide) c23
      refine x_aload_n 1 dX3_still_26 rfl ?_
      refine gfX3_38 dX3_still_27 ?_
      refine x_aload_n 1 dX3_still_30 rfl ?_
      refine gfX3_16 dX3_still_31 ?_
      refine clX3_166 (qX2_howManyKept (by decide) (by decide) hT2 (wf_weeks hw k)) (by decide) (by decide) (by decide) rfl dX3_still_34 (fun r34 τ34 h34 => ?_)
      obtain ⟨rfl, rfl⟩ := h34
      refine clX3_57 (qX1_add (k := 30) (by decide) (by decide) k (show k ≤ 81 by omega) hs (f_bits (f_weeks n r k 4)) (show k < 81 by omega)) (by decide) (by decide) (by decide) rfl dX3_still_37 (fun τ37 h37 => ?_)
      obtain rfl := h37
      have hT5 : TI (mx_up (mx_up τ 33 k (f_bits (f_weeks n r k 4))) 30 1 (nI (k + 1))) 2 n (f_weeks n r k) := (hT2.up_ne hn6 (by unfold inT; omega)).up_ne hn6 (by unfold inT; omega)
      have hO5 : Of3 σ (mx_up (mx_up τ 33 k (f_bits (f_weeks n r k 4))) 30 1 (nI (k + 1))) := hO.add
      refine x_aload_n 1 dX3_still_40 rfl ?_
      refine gfX3_16 dX3_still_41 ?_
      refine x_iconst (v := 1) dX3_still_44 (by decide) ?_
      refine clX3_145 (qX2_pass (t := 2) (by decide) (by decide) hT5 (wf_weeks hw k) (hN.of3 hO5) 1 (by omega)) (by decide) (by decide) (by decide) rfl dX3_still_45 (fun τ45 h45 => ?_)
      refine x_iinc (v := nI (k + 1)) (lv' := [(1, .int (nI (k + 1))), (0, mx_rf E 0)]) 0 dX3_still_48 rfl (nI_1 _) (by decide) rfl ?_
      refine x_goto dX3_still_51 ?_
      exact ih20 (k + 1) (by omega) (by omega) _ h45.1 (hO5.tr (Of3.off h45.2)) (by rw [h45.2 30 (by unfold inT; omega), mx_up_s]; exact upd_s) (fun j hj => by rw [h45.2 33 (by unfold inT; omega)]; exact f_kb hl j hj)
  exact key20 0 (by omega) _ (h8.1.up_ne hn6 (by unfold inT; omega)) (Of3.off h8.2).drop (by rw [mx_up_s]; exact upd_s) (fun j hj => absurd hj (by omega))

set_option maxHeartbeats 4000000 in
theorem qX3_lasts {E : mx_E} {σ : Mem} {n : Nat} {r : Row} (hN : NW σ) (hT : TI σ 1 n r) (hw : wf n r)  : MX3_lasts E 2 [mx_rf E 0] σ (mx_ie (if f_burnsU r n = 0 then 99 else r 3 / f_burnsU r n) σ) := by
  refine MM.of (lv := [(0, mx_rf E 0)]) kpX3 rfl (Nat.le_of_ble_eq_true rfl) rfl ?_
  have hn6 := hw.1
  refine x_aload_n 0 dX3_lasts_0 rfl ?_
  refine gfX3_10 dX3_lasts_1 ?_
  refine clX3_182 (qX2_burnsInAWeek (by decide) (by decide) hT hw) (by decide) (by decide) (by decide) rfl dX3_lasts_4 (fun r4 τ4 h4 => ?_)
  obtain ⟨rfl, rfl⟩ := h4
  refine x_istore_n (lv' := [(1, .int (f_burnsU r n)), (0, mx_rf E 0)]) dX3_lasts_7 rfl (by decide) rfl ?_
  refine x_iload_n 0 dX3_lasts_8 rfl ?_
  refine x_iconst (v := 1) dX3_lasts_9 (by decide) ?_
  refine x_icmp_ge dX3_lasts_10 (fun c10 => ?_) (fun c10 => ?_)
  · refine x_aload_n 1 dX3_lasts_18 rfl ?_
    refine gfX3_10 dX3_lasts_19 ?_
    refine gfX3_45 (by decide) (by decide) dX3_lasts_22 ?_
    refine x_top (show σ 1 4 = r 3 from hT.2.2.1) ?_
    refine x_iload_n 0 dX3_lasts_25 rfl ?_
    refine x_idiv dX3_lasts_26 (mx_ge1 c10) ?_
    exact x_iret dX3_lasts_27 ⟨by rw [if_neg (mx_ge1 c10)], rfl⟩
  · refine x_bipush (v := 99) dX3_lasts_13 (by decide) ?_
    refine x_goto dX3_lasts_15 ?_
    exact x_iret dX3_lasts_27 ⟨by rw [if_pos (f_burns0 r n hn6 c10)], rfl⟩

set_option maxHeartbeats 4000000 in
theorem qX3_spare {E : mx_E} {σ : Mem} {n : Nat} {r : Row} (hN : NW σ) (hT : TI σ 1 n r) (hw : wf n r) (what : Int32) : MX3_spare E 3 [mx_rf E 0, .int what] σ (mx_i (fun v τ => (p_spare n r what).1 = v ∧ Qz (p_spare n r what).2 σ τ)) := by
  refine MM.of (lv := [(0, mx_rf E 0), (1, .int what)]) kpX3 rfl (Nat.le_of_ble_eq_true rfl) rfl ?_
  have hn6 := hw.1
  refine x_iload_n 1 dX3_spare_0 rfl ?_
  by_cases c1_0 : what = 0
  · refine x_tableIn (off := 35) (tgt := 36) dX3_spare_1 (by rw [c1_0]; decide) (by rw [c1_0]; decide) (by rw [c1_0]; decide) (by decide) ?_
    refine x_aload_n 0 dX3_spare_36 rfl ?_
    refine gfX3_10 dX3_spare_37 ?_
    refine clX3_205 (qX2_roomForMore (by decide) (by decide) hT hw) (by decide) (by decide) (by decide) rfl dX3_spare_40 (fun r40 τ40 h40 => ?_)
    obtain ⟨rfl, rfl⟩ := h40
    exact x_iret dX3_spare_43 (by rw [show p_spare n r what = ((f_spareU r n : Int32), 0) from by simp [zbT, zbF, f_in002, f_in102, f_in001, f_in101, p_spare, c1_0]]; exact ⟨rfl, Qz.rf⟩)
  by_cases c1_1 : what = 1
  · refine x_tableIn (off := 43) (tgt := 44) dX3_spare_1 (by rw [c1_1]; decide) (by rw [c1_1]; decide) (by rw [c1_1]; decide) (by decide) ?_
    refine x_aload_n 0 dX3_spare_44 rfl ?_
    refine gfX3_10 dX3_spare_45 ?_
    refine clX3_208 (qX2_fullest (by decide) (by decide) hT hw) (by decide) (by decide) (by decide) rfl dX3_spare_48 (fun r48 τ48 h48 => ?_)
    obtain ⟨rfl, rfl⟩ := h48
    exact x_iret dX3_spare_51 (by rw [show p_spare n r what = ((f_o9 (f_bestU (f_crowdR r) (f_kept r) n) : Int32), 0) from by simp [zbT, zbF, f_in002, f_in102, f_in001, f_in101, p_spare, c1_1]]; exact ⟨rfl, Qz.rf⟩)
  by_cases c1_2 : what = 2
  · refine x_tableIn (off := 51) (tgt := 52) dX3_spare_1 (by rw [c1_2]; decide) (by rw [c1_2]; decide) (by rw [c1_2]; decide) (by decide) ?_
    refine x_aload_n 0 dX3_spare_52 rfl ?_
    refine gfX3_10 dX3_spare_53 ?_
    refine clX3_211 (qX2_dustiest (by decide) (by decide) hT hw) (by decide) (by decide) (by decide) rfl dX3_spare_56 (fun r56 τ56 h56 => ?_)
    obtain ⟨rfl, rfl⟩ := h56
    exact x_iret dX3_spare_59 (by rw [show p_spare n r what = ((f_o9 (f_bestU (fun x => r (6 + 6 * x + 4)) (f_kept r) n) : Int32), 0) from by simp [zbT, zbF, f_in002, f_in102, f_in001, f_in101, p_spare, c1_2]]; exact ⟨rfl, Qz.rf⟩)
  by_cases c1_3 : what = 3
  · refine x_tableIn (off := 59) (tgt := 60) dX3_spare_1 (by rw [c1_3]; decide) (by rw [c1_3]; decide) (by rw [c1_3]; decide) (by decide) ?_
    refine x_aload_n 0 dX3_spare_60 rfl ?_
    refine gfX3_10 dX3_spare_61 ?_
    refine clX3_182 (qX2_burnsInAWeek (by decide) (by decide) hT hw) (by decide) (by decide) (by decide) rfl dX3_spare_64 (fun r64 τ64 h64 => ?_)
    obtain ⟨rfl, rfl⟩ := h64
    exact x_iret dX3_spare_67 (by rw [show p_spare n r what = ((f_burnsU r n : Int32), 0) from by simp [zbT, zbF, f_in002, f_in102, f_in001, f_in101, p_spare, c1_3]]; exact ⟨rfl, Qz.rf⟩)
  by_cases c1_4 : what = 4
  · refine x_tableIn (off := 67) (tgt := 68) dX3_spare_1 (by rw [c1_4]; decide) (by rw [c1_4]; decide) (by rw [c1_4]; decide) (by decide) ?_
    refine x_aload_n 0 dX3_spare_68 rfl ?_
    refine clX3_214 (qX3_lasts hN hT hw) (by decide) rfl dX3_spare_69 (fun r69 τ69 h69 => ?_)
    obtain ⟨rfl, rfl⟩ := h69
    exact x_iret dX3_spare_72 (by rw [show p_spare n r what = ((if f_burnsU r n = 0 then 99 else r 3 / f_burnsU r n : Int32), 0) from by simp [zbT, zbF, f_in002, f_in102, f_in001, f_in101, p_spare, c1_4]]; exact ⟨rfl, Qz.rf⟩)
  have hsw1 : (what).toInt < 0 ∨ 4 < (what).toInt := by
    have q_c1_0 := lv_neT c1_0 (show (0 : Int32).toInt = 0 from rfl)
    have q_c1_1 := lv_neT c1_1 (show (1 : Int32).toInt = 1 from rfl)
    have q_c1_2 := lv_neT c1_2 (show (2 : Int32).toInt = 2 from rfl)
    have q_c1_3 := lv_neT c1_3 (show (3 : Int32).toInt = 3 from rfl)
    have q_c1_4 := lv_neT c1_4 (show (4 : Int32).toInt = 4 from rfl)
    omega
  refine x_tableOut (tgt := 73) dX3_spare_1 hsw1 (by decide) ?_
  refine x_aload_n 0 dX3_spare_73 rfl ?_
  refine x_bipush (v := -2) dX3_spare_74 (by decide) ?_
  refine clX3_49 (qX3_refuse 2 (by decide) (by decide)) (by decide) rfl dX3_spare_76 (fun r76 τ76 h76 => ?_)
  obtain ⟨rfl, rfl⟩ := h76
  exact x_iret dX3_spare_79 (by rw [show p_spare n r what = ((-2 : Int32), 2) from by simp [zbT, zbF, f_in002, f_in102, f_in001, f_in101, p_spare, c1_0, c1_1, c1_2, c1_3, c1_4]]; exact ⟨rfl, Qz.no⟩)

set_option maxHeartbeats 4000000 in
theorem qX3_next {E : mx_E} {σ : Mem} {n : Nat} {r : Row} (hN : NW σ) (hT : TI σ 1 n r) (hw : wf n r) (house : Int32) : MX3_next E 2 [mx_rf E 0, .int house] σ (mx_i (fun v τ => (p_next n r house).1 = v ∧ Qz (p_next n r house).2 σ τ)) := by
  refine MM.of (lv := [(0, mx_rf E 0), (1, .int house)]) kpX3 rfl (Nat.le_of_ble_eq_true rfl) rfl ?_
  have hn6 := hw.1
  refine x_aload_n 0 dX3_next_0 rfl ?_
  refine gfX3_10 dX3_next_1 ?_
  refine x_iload_n 1 dX3_next_4 rfl ?_
  refine clX3_122 (qX2_has (by decide) (by decide) hT.1 house) (by decide) (by decide) (by decide) rfl dX3_next_5 (fun r5 τ5 h5 => ?_)
  obtain ⟨rfl, rfl⟩ := h5
  refine x_if_eq dX3_next_8 (fun c8 => ?_) (fun c8 => ?_)
  · replace c8 := zb_0 c8
    refine x_aload_n 0 dX3_next_22 rfl ?_
    refine x_iconst (v := -1) dX3_next_23 (by decide) ?_
    refine clX3_49 (qX3_refuse 1 (by decide) (by decide)) (by decide) rfl dX3_next_24 (fun r24 τ24 h24 => ?_)
    obtain ⟨rfl, rfl⟩ := h24
    exact x_iret dX3_next_27 (by rw [show p_next n r house = ((-1 : Int32), 1) from by simp only [p_next, c8, reduceIte, Bool.false_eq_true, Bool.true_eq_false, Bool.true_and, Bool.false_and, Bool.and_true, Bool.and_false, decide_eq_true_eq, decide_true, decide_false, not_true_eq_false, not_false_eq_true, zbT, zbF]]; exact ⟨rfl, Qz.no⟩)
  · replace c8 := zb_1 c8
    obtain ⟨h, hh, rfl⟩ := f_inN_t (by omega) c8
    refine x_aload_n 0 dX3_next_11 rfl ?_
    refine gfX3_10 dX3_next_12 ?_
    refine x_iload_n 1 dX3_next_15 rfl ?_
    refine clX3_217 (qX2_nextKept (by decide) (by decide) hT hw hh) (by decide) (by decide) (by decide) rfl dX3_next_16 (fun r16 τ16 h16 => ?_)
    obtain ⟨rfl, rfl⟩ := h16
    refine x_goto dX3_next_19 ?_
    exact x_iret dX3_next_27 (by rw [show p_next n r (nI h) = ((f_next n r h : Int32), 0) from by simp only [p_next, c8, nI_clamp (show h < 2 ^ 31 by omega), reduceIte, Bool.false_eq_true, Bool.true_eq_false, Bool.true_and, Bool.false_and, Bool.and_true, Bool.and_false, decide_eq_true_eq, decide_true, decide_false, not_true_eq_false, not_false_eq_true, zbT, zbF]]; exact ⟨rfl, Qz.rf⟩)

set_option maxHeartbeats 4000000 in
theorem qX3_run {E : mx_E} {σ : Mem} {n : Nat} {r : Row} (hN : NW σ) (hT : TI σ 1 n r) (hw : wf n r) (what : Int32) : MX3_run E 3 [mx_rf E 0, .int what] σ (mx_i (fun v τ => (p_run n r what).1 = v ∧ Qz (p_run n r what).2 σ τ)) := by
  refine MM.of (lv := [(0, mx_rf E 0), (1, .int what)]) kpX3 rfl (Nat.le_of_ble_eq_true rfl) rfl ?_
  have hn6 := hw.1
  refine x_iload_n 1 dX3_run_0 rfl ?_
  by_cases c1_0 : what = 0
  · refine x_tableIn (off := 27) (tgt := 28) dX3_run_1 (by rw [c1_0]; decide) (by rw [c1_0]; decide) (by rw [c1_0]; decide) (by decide) ?_
    obtain ⟨K, hK, -, e4⟩ := wf_K hw
    have eK : (r 4).toNatClampNeg = K := by rw [e4]; exact nI_clamp (by omega)
    refine x_aload_n 0 dX3_run_28 rfl ?_
    refine gfX3_10 dX3_run_29 ?_
    refine clX3_220 (qX2_longestRunOfLost (by decide) (by decide) hT hw hK e4) (by decide) (by decide) (by decide) rfl dX3_run_32 (fun r32 τ32 h32 => ?_)
    obtain ⟨rfl, rfl⟩ := h32
    exact x_iret dX3_run_35 (by rw [show p_run n r what = ((nI (f_runC n K n) : Int32), 0) from by simp [zbT, zbF, f_in002, f_in102, f_in001, f_in101, p_run, c1_0, eK]]; exact ⟨rfl, Qz.rf⟩)
  by_cases c1_1 : what = 1
  · refine x_tableIn (off := 35) (tgt := 36) dX3_run_1 (by rw [c1_1]; decide) (by rw [c1_1]; decide) (by rw [c1_1]; decide) (by decide) ?_
    refine x_aload_n 0 dX3_run_36 rfl ?_
    refine gfX3_10 dX3_run_37 ?_
    refine clX3_223 (qX2_emptyBits (by decide) (by decide) hT hw) (by decide) (by decide) (by decide) rfl dX3_run_40 (fun r40 τ40 h40 => ?_)
    obtain ⟨rfl, rfl⟩ := h40
    exact x_iret dX3_run_43 (by rw [show p_run n r what = ((f_setU (f_noP r) n : Int32), 0) from by simp [zbT, zbF, f_in002, f_in102, f_in001, f_in101, p_run, c1_1]]; exact ⟨rfl, Qz.rf⟩)
  by_cases c1_2 : what = 2
  · refine x_tableIn (off := 43) (tgt := 44) dX3_run_1 (by rw [c1_2]; decide) (by rw [c1_2]; decide) (by rw [c1_2]; decide) (by decide) ?_
    refine x_aload_n 0 dX3_run_44 rfl ?_
    refine gfX3_10 dX3_run_45 ?_
    refine clX3_226 (qX2_crowdedBits (by decide) (by decide) hT hw) (by decide) (by decide) (by decide) rfl dX3_run_48 (fun r48 τ48 h48 => ?_)
    obtain ⟨rfl, rfl⟩ := h48
    exact x_iret dX3_run_51 (by rw [show p_run n r what = ((f_setU (f_isF r) n : Int32), 0) from by simp [zbT, zbF, f_in002, f_in102, f_in001, f_in101, p_run, c1_2]]; exact ⟨rfl, Qz.rf⟩)
  have hsw1 : (what).toInt < 0 ∨ 2 < (what).toInt := by
    have q_c1_0 := lv_neT c1_0 (show (0 : Int32).toInt = 0 from rfl)
    have q_c1_1 := lv_neT c1_1 (show (1 : Int32).toInt = 1 from rfl)
    have q_c1_2 := lv_neT c1_2 (show (2 : Int32).toInt = 2 from rfl)
    omega
  refine x_tableOut (tgt := 52) dX3_run_1 hsw1 (by decide) ?_
  refine x_aload_n 0 dX3_run_52 rfl ?_
  refine x_bipush (v := -2) dX3_run_53 (by decide) ?_
  refine clX3_49 (qX3_refuse 2 (by decide) (by decide)) (by decide) rfl dX3_run_55 (fun r55 τ55 h55 => ?_)
  obtain ⟨rfl, rfl⟩ := h55
  exact x_iret dX3_run_58 (by rw [show p_run n r what = ((-2 : Int32), 2) from by simp [zbT, zbF, f_in002, f_in102, f_in001, f_in101, p_run, c1_0, c1_1, c1_2]]; exact ⟨rfl, Qz.no⟩)
