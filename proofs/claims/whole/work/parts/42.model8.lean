set_option maxHeartbeats 4000000 in
theorem qX4_addsHouse {E : mx_E} {σ : Mem} {n : Nat} {r : Row} (h36 : σ 36 = r) (hw : wf n r) (w : Row) (hwn : σ 43 = w)  : MX4_addsHouse E 1 [mx_rf E 35] σ (mx_i (fun v τ => Dx (if n = 6 ∨ w 2 < 1 ∨ 30 < w 3 then none else some (n + 1, f_build n r (w 0) (w 1) (w 2) (w 3))) σ τ v)) := by
  refine MM.of (lv := [(0, mx_rf E 35)]) kpX4 rfl (Nat.le_of_ble_eq_true rfl) rfl ?_
  have hn6 := hw.1
  refine x_mem (τ := mx_row σ 36 r) (by show σ = mx_row σ 36 r; rw [← h36]; exact (mx_row_self σ 36).symm) ?_
  refine x_aload_n 0 dX4_addsHouse_0 rfl ?_
  refine gfX4_31 dX4_addsHouse_1 ?_
  refine x_iconst (v := 2) dX4_addsHouse_4 (by decide) ?_
  refine x_iald (j := 2) (by decide) (by decide) (by decide) (by decide) dX4_addsHouse_5 ?_
  refine x_top (show (mx_row σ 36 r) 43 2 = w 2 from ((congrFun (mx_row_o (by decide)) 2).trans (congrFun hwn 2))) ?_
  refine x_iconst (v := 1) dX4_addsHouse_6 (by decide) ?_
  refine x_icmp_lt dX4_addsHouse_7 (fun c7 => ?_) (fun c7 => ?_)
  · have hno : n = 6 ∨ w 2 < 1 ∨ 30 < w 3 := Or.inr (Or.inl c7)
    refine x_iconst (v := 0) dX4_addsHouse_32 (by decide) ?_
    exact x_zret dX4_addsHouse_33 (by decide) (Dx.no (if_pos hno) h36)
  · refine x_aload_n 0 dX4_addsHouse_10 rfl ?_
    refine gfX4_31 dX4_addsHouse_11 ?_
    refine x_iconst (v := 3) dX4_addsHouse_14 (by decide) ?_
    refine x_iald (j := 3) (by decide) (by decide) (by decide) (by decide) dX4_addsHouse_15 ?_
    refine x_top (show (mx_row σ 36 r) 43 3 = w 3 from ((congrFun (mx_row_o (by decide)) 3).trans (congrFun hwn 3))) ?_
    refine x_bipush (v := 30) dX4_addsHouse_16 (by decide) ?_
    refine x_icmp_gt dX4_addsHouse_18 (fun c18 => ?_) (fun c18 => ?_)
    · have hno : n = 6 ∨ w 2 < 1 ∨ 30 < w 3 := Or.inr (Or.inr c18)
      refine x_iconst (v := 0) dX4_addsHouse_32 (by decide) ?_
      exact x_zret dX4_addsHouse_33 (by decide) (Dx.no (if_pos hno) h36)
    · refine x_aload_n 0 dX4_addsHouse_21 rfl ?_
      refine gfX4_9 dX4_addsHouse_22 ?_
      refine x_iconst (v := 0) dX4_addsHouse_25 (by decide) ?_
      refine x_ialdS (j := 0) (by decide) (by decide) (by decide) dX4_addsHouse_26 ?_
      refine x_top (show (mx_row σ 36 r) 36 0 = nI n from ((congrFun mx_row_s 0).trans hw.2.1)) ?_
      refine x_bipush (v := 6) dX4_addsHouse_27 (by decide) ?_
      refine x_icmp_ne dX4_addsHouse_29 (fun c29 => ?_) (fun c29 => ?_)
      · have hn6e : ¬ n = 6 := fun q => c29 (by rw [q]; rfl)
        have hno : ¬ (n = 6 ∨ w 2 < 1 ∨ 30 < w 3) := not_or.mpr ⟨hn6e, not_or.mpr ⟨c7, c18⟩⟩
        refine x_aload_n 0 dX4_addsHouse_34 rfl ?_
        refine gfX4_9 dX4_addsHouse_35 ?_
        refine x_iconst (v := 0) dX4_addsHouse_38 (by decide) ?_
        refine x_ialdS (j := 0) (by decide) (by decide) (by decide) dX4_addsHouse_39 ?_
        refine x_top (show (mx_row σ 36 r) 36 0 = nI n from ((congrFun mx_row_s 0).trans hw.2.1)) ?_
        refine x_istore_n (lv' := [(1, .int (nI n)), (0, mx_rf E 35)]) dX4_addsHouse_40 rfl (by decide) rfl ?_
        refine x_iconst (v := 0) dX4_addsHouse_41 (by decide) ?_
        refine x_istore_n (lv' := [(2, .int 0), (1, .int (nI n)), (0, mx_rf E 35)]) dX4_addsHouse_42 rfl (by decide) rfl ?_
        have key43 : ∀ k, k ≤ 4 → MX E 1 RX4 cX4_addsHouse 3 (some .boolean) 43 [(2, .int (nI k)), (1, .int (nI n)), (0, mx_rf E 35)] [] (mx_row σ 36 (f_nb n r w k)) (mx_i (fun v τ => Dx (if n = 6 ∨ w 2 < 1 ∨ 30 < w 3 then none else some (n + 1, f_build n r (w 0) (w 1) (w 2) (w 3))) σ τ v)) := by
          refine mx_ind 4 (fun k hi43 ih43 => ?_)
          refine x_iload_n 0 dX4_addsHouse_43 rfl ?_
          refine x_iconst (v := 4) dX4_addsHouse_44 (by decide) ?_
          refine x_icmp_ge dX4_addsHouse_45 (fun c45 => ?_) (fun c45 => ?_)
          · have hge := nI_le_of (b := 4) (by decide) (by omega) c45
            have hk4 : k = 4 := by omega
            refine x_aload_n 2 dX4_addsHouse_70 rfl ?_
            refine gfX4_9 dX4_addsHouse_71 ?_
            refine x_iload_n 1 dX4_addsHouse_74 rfl ?_
            refine x_iconst (v := 4) dX4_addsHouse_75 (by decide) ?_
            refine clX4_44 (qX4_of n 4) (by decide) rfl dX4_addsHouse_76 (fun r76 τ76 h76 => ?_)
            obtain ⟨rfl, rfl⟩ := h76
            refine x_iconst (v := 0) dX4_addsHouse_79 (by decide) ?_
            refine x_iastR (j := 6 + 6 * n + 4) (by decide) (by decide) (by omega) dX4_addsHouse_80 ?_
            refine x_aload_n 2 dX4_addsHouse_81 rfl ?_
            refine gfX4_9 dX4_addsHouse_82 ?_
            refine x_iload_n 1 dX4_addsHouse_85 rfl ?_
            refine x_iconst (v := 5) dX4_addsHouse_86 (by decide) ?_
            refine clX4_44 (qX4_of n 5) (by decide) rfl dX4_addsHouse_87 (fun r87 τ87 h87 => ?_)
            obtain ⟨rfl, rfl⟩ := h87
            refine x_iconst (v := 0) dX4_addsHouse_90 (by decide) ?_
            refine x_iastR (j := 6 + 6 * n + 5) (by decide) (by decide) (by omega) dX4_addsHouse_91 ?_
            refine x_aload_n 2 dX4_addsHouse_92 rfl ?_
            refine gfX4_9 dX4_addsHouse_93 ?_
            refine x_iconst (v := 4) dX4_addsHouse_96 (by decide) ?_
            refine x_dup2 dX4_addsHouse_97 rfl rfl ?_
            refine x_ialdS (j := 4) (by decide) (by decide) (by decide) dX4_addsHouse_98 ?_
            refine x_top (show (mx_row σ 36 (upd (upd (f_nb n r w k) (6 + 6 * n + 4) 0) (6 + 6 * n + 5) 0)) 36 4 = (upd (upd (f_nb n r w k) (6 + 6 * n + 4) 0) (6 + 6 * n + 5) 0) 4 from (congrFun mx_row_s _)) ?_
            refine x_iconst (v := 1) dX4_addsHouse_99 (by decide) ?_
            refine x_iload_n 1 dX4_addsHouse_100 rfl ?_
            refine x_ishl dX4_addsHouse_101 ?_
            refine x_ior dX4_addsHouse_102 ?_
            refine x_iastR (j := 4) (by decide) (by decide) (by decide) dX4_addsHouse_103 ?_
            refine x_aload_n 2 dX4_addsHouse_104 rfl ?_
            refine gfX4_9 dX4_addsHouse_105 ?_
            refine x_iconst (v := 0) dX4_addsHouse_108 (by decide) ?_
            refine x_dup2 dX4_addsHouse_109 rfl rfl ?_
            refine x_ialdS (j := 0) (by decide) (by decide) (by decide) dX4_addsHouse_110 ?_
            refine x_top (show (mx_row σ 36 (upd (upd (upd (f_nb n r w k) (6 + 6 * n + 4) 0) (6 + 6 * n + 5) 0) 4 (((upd (upd (f_nb n r w k) (6 + 6 * n + 4) 0) (6 + 6 * n + 5) 0) 4) ||| (1 <<< ((nI n) &&& 31))))) 36 0 = (upd (upd (upd (f_nb n r w k) (6 + 6 * n + 4) 0) (6 + 6 * n + 5) 0) 4 (((upd (upd (f_nb n r w k) (6 + 6 * n + 4) 0) (6 + 6 * n + 5) 0) 4) ||| (1 <<< ((nI n) &&& 31)))) 0 from (congrFun mx_row_s _)) ?_
            refine x_iconst (v := 1) dX4_addsHouse_111 (by decide) ?_
            refine x_iadd dX4_addsHouse_112 ?_
            refine x_iastR (j := 0) (by decide) (by decide) (by decide) dX4_addsHouse_113 ?_
            refine x_mem (τ := mx_row σ 36 (f_build n r (w 0) (w 1) (w 2) (w 3))) (congrArg (mx_row σ 36) (show upd (upd (upd (upd (f_nb n r w k) (6 + 6 * n + 4) 0) (6 + 6 * n + 5) 0) 4 (((upd (upd (f_nb n r w k) (6 + 6 * n + 4) 0) (6 + 6 * n + 5) 0) 4) ||| (1 <<< ((nI n) &&& 31)))) 0 (((upd (upd (upd (f_nb n r w k) (6 + 6 * n + 4) 0) (6 + 6 * n + 5) 0) 4 (((upd (upd (f_nb n r w k) (6 + 6 * n + 4) 0) (6 + 6 * n + 5) 0) 4) ||| (1 <<< ((nI n) &&& 31)))) 0) + 1) = f_build n r (w 0) (w 1) (w 2) (w 3) from (by rw [hk4]; show upd (upd (upd (upd (f_nb n r w 4) _ _) _ _) _ _) _ _ = _; simp only [upd_o (show (4 : Nat) ≠ 6 + 6 * n + 5 by omega), upd_o (show (4 : Nat) ≠ 6 + 6 * n + 4 by omega), upd_o (show (0 : Nat) ≠ 4 by decide), upd_o (show (0 : Nat) ≠ 6 + 6 * n + 5 by omega), upd_o (show (0 : Nat) ≠ 6 + 6 * n + 4 by omega), f_nb_o (show 4 < 6 by decide), f_nb_o (show 0 < 6 by decide), hw.2.1, nI_1]; rfl))) ?_
            refine x_iconst (v := 1) dX4_addsHouse_114 (by decide) ?_
            exact x_zret dX4_addsHouse_115 (by decide) (Dx.ok (if_neg hno))
          · have hlt := nI_lt_of (b := 4) (by decide) (by omega) c45
            refine x_aload_n 2 dX4_addsHouse_48 rfl ?_
            refine gfX4_9 dX4_addsHouse_49 ?_
            refine x_iload_n 1 dX4_addsHouse_52 rfl ?_
            refine x_iload_n 0 dX4_addsHouse_53 rfl ?_
            refine clX4_44 (qX4_of n k) (by decide) rfl dX4_addsHouse_54 (fun r54 τ54 h54 => ?_)
            obtain ⟨rfl, rfl⟩ := h54
            refine x_aload_n 2 dX4_addsHouse_57 rfl ?_
            refine gfX4_31 dX4_addsHouse_58 ?_
            refine x_iload_n 0 dX4_addsHouse_61 rfl ?_
            refine x_iald (j := k) (by decide) (by decide) (by decide) (show k < 4 by omega) dX4_addsHouse_62 ?_
            refine x_top (show (mx_row σ 36 (f_nb n r w k)) 43 k = w k from ((congrFun (mx_row_o (by decide)) k).trans (congrFun hwn k))) ?_
            refine x_iastR (j := 6 + 6 * n + k) (by decide) (by decide) (by omega) dX4_addsHouse_63 ?_
            refine x_iinc (v := nI (k + 1)) (lv' := [(2, .int (nI (k + 1))), (1, .int (nI n)), (0, mx_rf E 35)]) 0 dX4_addsHouse_64 rfl (nI_1 _) (by decide) rfl ?_
            refine x_goto dX4_addsHouse_67 ?_
            exact ih43 (k + 1) (by omega) (by omega)
        exact key43 0 (Nat.zero_le _)
      · have hno : n = 6 ∨ w 2 < 1 ∨ 30 < w 3 := Or.inl ((nI_eq (b := 6) (by omega) (by decide)).mp (by first | exact c29 | exact Decidable.not_not.mp c29))
        refine x_iconst (v := 0) dX4_addsHouse_32 (by decide) ?_
        exact x_zret dX4_addsHouse_33 (by decide) (Dx.no (if_pos hno) h36)

set_option maxHeartbeats 4000000 in
theorem qX4_isDone {E : mx_E} {σ : Mem} {n : Nat} {r : Row} (h36 : σ 36 = r) (hw : wf n r) (w : Row) (hwn : σ 43 = w) {L : Row} {lm p : Nat} (hg : f_gd L lm p) (hnm : Nm L p w)  : MX4_isDone E 6 [mx_rf E 35, .int (L p)] σ (mx_i (fun v τ => Dx (f_st n r L p) σ τ v)) := by
  refine MM.of (lv := [(0, mx_rf E 35), (1, .int (L p))]) kpX4 rfl (Nat.le_of_ble_eq_true rfl) rfl ?_
  have hn6 := hw.1
  refine x_aload_n 0 dX4_isDone_0 rfl ?_
  refine gfX4_31 dX4_isDone_1 ?_
  refine x_iconst (v := 0) dX4_isDone_4 (by decide) ?_
  refine x_iald (j := 0) (by decide) (by decide) (by decide) (by decide) dX4_isDone_5 ?_
  refine x_top (show σ 43 0 = w 0 from (congrFun hwn 0)) ?_
  refine x_istore_n (lv' := [(2, .int (w 0)), (0, mx_rf E 35), (1, .int (L p))]) dX4_isDone_6 rfl (by decide) rfl ?_
  refine x_aload_n 1 dX4_isDone_7 rfl ?_
  refine gfX4_31 dX4_isDone_8 ?_
  refine x_iconst (v := 1) dX4_isDone_11 (by decide) ?_
  refine x_iald (j := 1) (by decide) (by decide) (by decide) (by decide) dX4_isDone_12 ?_
  refine x_top (show σ 43 1 = w 1 from (congrFun hwn 1)) ?_
  refine x_istore_n (lv' := [(3, .int (w 1)), (2, .int (w 0)), (0, mx_rf E 35), (1, .int (L p))]) dX4_isDone_13 rfl (by decide) rfl ?_
  refine x_iload_n 3 dX4_isDone_14 rfl ?_
  by_cases c15_99 : L p = 99
  · refine x_lookup (off := 155) (tgt := 170) dX4_isDone_15 (by decide) (by rw [c15_99]; decide) (by decide) ?_
    have hc : L p = 99 := c15_99
    refine x_mem (τ := mx_row σ 36 r) (by show σ = mx_row σ 36 r; rw [← h36]; exact (mx_row_self σ 36).symm) ?_
    have a0 := hnm.2.2.2.1 hc
    rw [a0]
    refine x_aload_n 2 dX4_isDone_170 rfl ?_
    refine gfX4_9 dX4_isDone_171 ?_
    refine x_iconst (v := 3) dX4_isDone_174 (by decide) ?_
    refine x_iload_n 1 dX4_isDone_175 rfl ?_
    refine x_iastR (j := 3) (by decide) (by decide) (by decide) dX4_isDone_176 ?_
    refine x_iconst (v := 1) dX4_isDone_177 (by decide) ?_
    exact x_zret dX4_isDone_178 (by decide) (Dx.ok (n := n) (r := upd r 3 (f_num L (p + 1) 3)) (by simp [f_st, hc, ]))
  by_cases c15_100 : L p = 100
  · refine x_lookup (off := 62) (tgt := 77) dX4_isDone_15 (by decide) (by rw [c15_100]; decide) (by decide) ?_
    have hc : L p = 100 := c15_100
    refine x_mem (τ := mx_row σ 36 r) (by show σ = mx_row σ 36 r; rw [← h36]; exact (mx_row_self σ 36).symm) ?_
    obtain ⟨hln, hdg⟩ := f_gd0 hg hc 0 3 (by decide) (by decide)
    obtain ⟨h, kh, eh⟩ := hdg 0 1 (by decide)
    obtain ⟨u, ku, eu⟩ := hdg 1 2 (by decide)
    obtain ⟨a0, a1⟩ := hnm.2.1 (Or.inr hc)
    replace eh : f_num L (p + 1) 1 = nI h := eh
    replace eu : f_num L (p + 2) 2 = nI u := eu
    have k10 : 10 ^ 1 = 10 := rfl
    have k100 : 10 ^ 2 = 100 := rfl
    rw [a0, a1, eh, eu, hc]
    refine x_aload_n 2 dX4_isDone_77 rfl ?_
    refine x_iload_n 1 dX4_isDone_78 rfl ?_
    refine clX4_111 (qX4_isHouse mx_row_s hw (nI h)) (by decide) rfl dX4_isDone_79 (fun r79 τ79 h79 => ?_)
    obtain ⟨rfl, rfl⟩ := h79
    refine x_if_eq dX4_isDone_82 (fun c82 => ?_) (fun c82 => ?_)
    · replace c82 := zb_0 c82
      refine x_iconst (v := 0) dX4_isDone_102 (by decide) ?_
      exact x_zret dX4_isDone_103 (by decide) (Dx.no (by simp [f_st, hc, c82, eh, nI_clamp (show h < 2 ^ 31 by omega), eu]) h36)
    · replace c82 := zb_1 c82
      have hh : h < n := f_inN_l (by omega) (by omega) c82
      refine x_iload_n 0 dX4_isDone_85 rfl ?_
      refine x_iload_n 3 dX4_isDone_86 rfl ?_
      refine x_bipush (v := 112) dX4_isDone_87 (by decide) ?_
      refine x_icmp_ne dX4_isDone_89 (fun _ => ?_) (fun c => absurd c (by decide))
      refine x_bipush (v := 20) dX4_isDone_97 (by decide) ?_
      refine x_icmp_le dX4_isDone_99 (fun c99 => ?_) (fun c99 => ?_)
      · refine x_aload_n 2 dX4_isDone_104 rfl ?_
        refine gfX4_9 dX4_isDone_105 ?_
        refine x_iload_n 1 dX4_isDone_108 rfl ?_
        refine x_iload_n 3 dX4_isDone_109 rfl ?_
        refine x_bipush (v := 112) dX4_isDone_110 (by decide) ?_
        refine x_icmp_ne dX4_isDone_112 (fun _ => ?_) (fun c => absurd c (by decide))
        refine x_iconst (v := 4) dX4_isDone_119 (by decide) ?_
        refine clX4_44 (qX4_of h 4) (by decide) rfl dX4_isDone_120 (fun r120 τ120 h120 => ?_)
        obtain ⟨rfl, rfl⟩ := h120
        refine x_iload_n 0 dX4_isDone_123 rfl ?_
        refine x_iastR (j := 6 + 6 * h + 4) (by decide) (by decide) (by omega) dX4_isDone_124 ?_
        refine x_iconst (v := 1) dX4_isDone_125 (by decide) ?_
        exact x_zret dX4_isDone_126 (by decide) (Dx.ok (n := n) (r := upd r (6 + 6 * h + 4) (nI u)) (by simp [f_st, hc, c82, c99, (Int32.not_lt.mpr c99), eh, nI_clamp (show h < 2 ^ 31 by omega), eu]))
      · refine x_iconst (v := 0) dX4_isDone_102 (by decide) ?_
        exact x_zret dX4_isDone_103 (by decide) (Dx.no (by simp [f_st, hc, c82, c99, (Int32.not_le.mp c99), eh, nI_clamp (show h < 2 ^ 31 by omega), eu]) h36)
  by_cases c15_104 : L p = 104
  · refine x_lookup (off := 57) (tgt := 72) dX4_isDone_15 (by decide) (by rw [c15_104]; decide) (by decide) ?_
    have hc : L p = 104 := c15_104
    obtain ⟨a0, a1, a2, a3⟩ := hnm.1 hc
    refine x_aload_n 2 dX4_isDone_72 rfl ?_
    refine clX4_108 (qX4_addsHouse h36 hw w hwn) (by decide) rfl dX4_isDone_73 (fun r73 τ73 h73 => ?_)
    exact x_zret dX4_isDone_76 h73.z (by unfold f_st; rw [if_pos hc, ← a0, ← a1, ← a2, ← a3]; exact h73)
  by_cases c15_105 : L p = 105
  · refine x_lookup (off := 136) (tgt := 151) dX4_isDone_15 (by decide) (by rw [c15_105]; decide) (by decide) ?_
    have hc : L p = 105 := c15_105
    refine x_mem (τ := mx_row σ 36 r) (by show σ = mx_row σ 36 r; rw [← h36]; exact (mx_row_self σ 36).symm) ?_
    obtain ⟨hln, hdg⟩ := f_gd0 hg hc 0 1 (by decide) (by decide)
    obtain ⟨h, kh, eh⟩ := hdg 0 1 (by decide)
    have a0 := hnm.2.2.1 (Or.inr hc)
    replace eh : f_num L (p + 1) 1 = nI h := eh
    have k10 : 10 ^ 1 = 10 := rfl
    rw [a0, eh]
    refine x_aload_n 2 dX4_isDone_151 rfl ?_
    refine x_iload_n 1 dX4_isDone_152 rfl ?_
    refine clX4_111 (qX4_isHouse mx_row_s hw (nI h)) (by decide) rfl dX4_isDone_153 (fun r153 τ153 h153 => ?_)
    obtain ⟨rfl, rfl⟩ := h153
    refine x_if_ne dX4_isDone_156 (fun c156 => ?_) (fun c156 => ?_)
    · replace c156 := zb_1 c156
      have hh : h < n := f_inN_l (by omega) (by omega) c156
      refine x_aload_n 2 dX4_isDone_161 rfl ?_
      refine gfX4_9 dX4_isDone_162 ?_
      refine x_iconst (v := 2) dX4_isDone_165 (by decide) ?_
      refine x_iload_n 1 dX4_isDone_166 rfl ?_
      refine x_iastR (j := 2) (by decide) (by decide) (by decide) dX4_isDone_167 ?_
      refine x_iconst (v := 1) dX4_isDone_168 (by decide) ?_
      exact x_zret dX4_isDone_169 (by decide) (Dx.ok (n := n) (r := upd r 2 (nI h)) (by simp [f_st, hc, c156, eh, nI_clamp (show h < 2 ^ 31 by omega)]))
    · replace c156 := zb_0 c156
      refine x_iconst (v := 0) dX4_isDone_159 (by decide) ?_
      exact x_zret dX4_isDone_160 (by decide) (Dx.no (by simp [f_st, hc, c156, eh, nI_clamp (show h < 2 ^ 31 by omega)]) h36)
  by_cases c15_112 : L p = 112
  · refine x_lookup (off := 62) (tgt := 77) dX4_isDone_15 (by decide) (by rw [c15_112]; decide) (by decide) ?_
    have hc : L p = 112 := c15_112
    refine x_mem (τ := mx_row σ 36 r) (by show σ = mx_row σ 36 r; rw [← h36]; exact (mx_row_self σ 36).symm) ?_
    obtain ⟨hln, hdg⟩ := f_gd0 hg hc 0 3 (by decide) (by decide)
    obtain ⟨h, kh, eh⟩ := hdg 0 1 (by decide)
    obtain ⟨u, ku, eu⟩ := hdg 1 2 (by decide)
    obtain ⟨a0, a1⟩ := hnm.2.1 (Or.inl hc)
    replace eh : f_num L (p + 1) 1 = nI h := eh
    replace eu : f_num L (p + 2) 2 = nI u := eu
    have k10 : 10 ^ 1 = 10 := rfl
    have k100 : 10 ^ 2 = 100 := rfl
    rw [a0, a1, eh, eu, hc]
    refine x_aload_n 2 dX4_isDone_77 rfl ?_
    refine x_iload_n 1 dX4_isDone_78 rfl ?_
    refine clX4_111 (qX4_isHouse mx_row_s hw (nI h)) (by decide) rfl dX4_isDone_79 (fun r79 τ79 h79 => ?_)
    obtain ⟨rfl, rfl⟩ := h79
    refine x_if_eq dX4_isDone_82 (fun c82 => ?_) (fun c82 => ?_)
    · replace c82 := zb_0 c82
      refine x_iconst (v := 0) dX4_isDone_102 (by decide) ?_
      exact x_zret dX4_isDone_103 (by decide) (Dx.no (by simp [f_st, hc, c82, eh, nI_clamp (show h < 2 ^ 31 by omega), eu]) h36)
    · replace c82 := zb_1 c82
      have hh : h < n := f_inN_l (by omega) (by omega) c82
      refine x_iload_n 0 dX4_isDone_85 rfl ?_
      refine x_iload_n 3 dX4_isDone_86 rfl ?_
      refine x_bipush (v := 112) dX4_isDone_87 (by decide) ?_
      refine x_icmp_ne dX4_isDone_89 (fun c => absurd c (by decide)) (fun _ => ?_)
      refine x_bipush (v := 30) dX4_isDone_92 (by decide) ?_
      refine x_goto dX4_isDone_94 ?_
      refine x_icmp_le dX4_isDone_99 (fun c99 => ?_) (fun c99 => ?_)
      · refine x_aload_n 2 dX4_isDone_104 rfl ?_
        refine gfX4_9 dX4_isDone_105 ?_
        refine x_iload_n 1 dX4_isDone_108 rfl ?_
        refine x_iload_n 3 dX4_isDone_109 rfl ?_
        refine x_bipush (v := 112) dX4_isDone_110 (by decide) ?_
        refine x_icmp_ne dX4_isDone_112 (fun c => absurd c (by decide)) (fun _ => ?_)
        refine x_iconst (v := 3) dX4_isDone_115 (by decide) ?_
        refine x_goto dX4_isDone_116 ?_
        refine clX4_44 (qX4_of h 3) (by decide) rfl dX4_isDone_120 (fun r120 τ120 h120 => ?_)
        obtain ⟨rfl, rfl⟩ := h120
        refine x_iload_n 0 dX4_isDone_123 rfl ?_
        refine x_iastR (j := 6 + 6 * h + 3) (by decide) (by decide) (by omega) dX4_isDone_124 ?_
        refine x_iconst (v := 1) dX4_isDone_125 (by decide) ?_
        exact x_zret dX4_isDone_126 (by decide) (Dx.ok (n := n) (r := upd r (6 + 6 * h + 3) (nI u)) (by simp [f_st, hc, c82, c99, (Int32.not_lt.mpr c99), eh, nI_clamp (show h < 2 ^ 31 by omega), eu]))
      · refine x_iconst (v := 0) dX4_isDone_102 (by decide) ?_
        exact x_zret dX4_isDone_103 (by decide) (Dx.no (by simp [f_st, hc, c82, c99, (Int32.not_le.mp c99), eh, nI_clamp (show h < 2 ^ 31 by omega), eu]) h36)
  by_cases c15_120 : L p = 120
  · refine x_lookup (off := 112) (tgt := 127) dX4_isDone_15 (by decide) (by rw [c15_120]; decide) (by decide) ?_
    have hc : L p = 120 := c15_120
    refine x_mem (τ := mx_row σ 36 r) (by show σ = mx_row σ 36 r; rw [← h36]; exact (mx_row_self σ 36).symm) ?_
    obtain ⟨hln, hdg⟩ := f_gd0 hg hc 0 1 (by decide) (by decide)
    obtain ⟨h, kh, eh⟩ := hdg 0 1 (by decide)
    have a0 := hnm.2.2.1 (Or.inl hc)
    replace eh : f_num L (p + 1) 1 = nI h := eh
    have k10 : 10 ^ 1 = 10 := rfl
    rw [a0, eh]
    refine x_aload_n 2 dX4_isDone_127 rfl ?_
    refine x_iload_n 1 dX4_isDone_128 rfl ?_
    refine clX4_111 (qX4_isHouse mx_row_s hw (nI h)) (by decide) rfl dX4_isDone_129 (fun r129 τ129 h129 => ?_)
    obtain ⟨rfl, rfl⟩ := h129
    refine x_if_ne dX4_isDone_132 (fun c132 => ?_) (fun c132 => ?_)
    · replace c132 := zb_1 c132
      have hh : h < n := f_inN_l (by omega) (by omega) c132
      refine x_aload_n 2 dX4_isDone_137 rfl ?_
      refine gfX4_9 dX4_isDone_138 ?_
      refine x_iconst (v := 4) dX4_isDone_141 (by decide) ?_
      refine x_dup2 dX4_isDone_142 rfl rfl ?_
      refine x_ialdS (j := 4) (by decide) (by decide) (by decide) dX4_isDone_143 ?_
      refine x_top (show (mx_row σ 36 r) 36 4 = r 4 from (congrFun mx_row_s _)) ?_
      refine x_iconst (v := 1) dX4_isDone_144 (by decide) ?_
      refine x_iload_n 1 dX4_isDone_145 rfl ?_
      refine x_ishl dX4_isDone_146 ?_
      refine x_ixor dX4_isDone_147 ?_
      refine x_iastR (j := 4) (by decide) (by decide) (by decide) dX4_isDone_148 ?_
      refine x_mem (τ := mx_row σ 36 (f_tog r h)) (congrArg (mx_row σ 36) (show upd r 4 ((r 4) ^^^ (1 <<< ((nI h) &&& 31))) = f_tog r h from rfl)) ?_
      refine x_iconst (v := 1) dX4_isDone_149 (by decide) ?_
      exact x_zret dX4_isDone_150 (by decide) (Dx.ok (n := n) (r := f_tog r h) (by simp [f_st, hc, c132, eh, nI_clamp (show h < 2 ^ 31 by omega)]))
    · replace c132 := zb_0 c132
      refine x_iconst (v := 0) dX4_isDone_135 (by decide) ?_
      exact x_zret dX4_isDone_136 (by decide) (Dx.no (by simp [f_st, hc, c132, eh, nI_clamp (show h < 2 ^ 31 by omega)]) h36)
  refine x_lookup (off := 164) (tgt := 179) dX4_isDone_15 (by decide) (by show Op.lookupswitch.offset _ _ _ = _; rw [lv_osw c15_99 (show (99 : Int32).toInt = 99 from rfl), lv_osw c15_100 (show (100 : Int32).toInt = 100 from rfl), lv_osw c15_104 (show (104 : Int32).toInt = 104 from rfl), lv_osw c15_105 (show (105 : Int32).toInt = 105 from rfl), lv_osw c15_112 (show (112 : Int32).toInt = 112 from rfl), lv_osw c15_120 (show (120 : Int32).toInt = 120 from rfl)]; rfl) (by decide) ?_
  have hc : L p = 119 := by
    by_cases z : L p = 119
    · exact z
    · exact absurd (by unfold f_w1; rw [if_neg c15_104, if_neg c15_112, if_neg c15_100, if_neg c15_99, if_neg z, if_neg c15_120, if_neg c15_105]) hg.1
  refine x_mem (τ := mx_row σ 36 r) (by show σ = mx_row σ 36 r; rw [← h36]; exact (mx_row_self σ 36).symm) ?_
  obtain ⟨hln, hdg⟩ := f_gd0 hg hc 0 2 (by decide) (by decide)
  obtain ⟨u, ku, eu⟩ := hdg 0 2 (by decide)
  have a0 := hnm.2.2.2.2 hc
  replace eu : f_num L (p + 1) 2 = nI u := eu
  have k100 : 10 ^ 2 = 100 := rfl
  rw [a0, eu]
  refine x_iload_n 1 dX4_isDone_179 rfl ?_
  refine x_iconst (v := 1) dX4_isDone_180 (by decide) ?_
  refine x_bipush (v := 60) dX4_isDone_181 (by decide) ?_
  refine clX4_40 (qX4_isIn (nI u) 1 60) (by decide) rfl dX4_isDone_183 (fun r183 τ183 h183 => ?_)
  obtain ⟨rfl, rfl⟩ := h183
  refine x_if_eq dX4_isDone_186 (fun c186 => ?_) (fun c186 => ?_)
  · replace c186 := zb_0 c186
    refine x_iconst (v := 0) dX4_isDone_203 (by decide) ?_
    exact x_zret dX4_isDone_204 (by decide) (Dx.no (by simp [f_st, hc, c186, eu, nI_clamp (show u < 2 ^ 31 by omega)]; exact fun a b => absurd b (f_w60F c186 a)) h36)
  · replace c186 := zb_1 c186
    have hw6 := f_w60T c186
    refine x_aload_n 2 dX4_isDone_189 rfl ?_
    refine gfX4_9 dX4_isDone_190 ?_
    refine x_iconst (v := 1) dX4_isDone_193 (by decide) ?_
    refine x_ialdS (j := 1) (by decide) (by decide) (by decide) dX4_isDone_194 ?_
    refine x_top (show (mx_row σ 36 r) 36 1 = r 1 from (congrFun mx_row_s _)) ?_
    refine x_iload_n 1 dX4_isDone_195 rfl ?_
    refine x_iadd dX4_isDone_196 ?_
    refine x_sipush (v := 999) dX4_isDone_197 (by decide) ?_
    refine x_icmp_le dX4_isDone_200 (fun c200 => ?_) (fun c200 => ?_)
    · refine x_aload_n 2 dX4_isDone_205 rfl ?_
      refine gfX4_9 dX4_isDone_206 ?_
      refine x_iload_n 1 dX4_isDone_209 rfl ?_
      refine clX4_115 (gX4_weeksOn (by decide) (by decide) mx_row_s n hw u (by omega)) (by decide) rfl dX4_isDone_210 (fun τ210 h210 => ?_)
      obtain rfl := h210
      refine x_mem (mx_row_row _ _ _ _) ?_
      refine x_iconst (v := 1) dX4_isDone_213 (by decide) ?_
      exact x_zret dX4_isDone_214 (by decide) (Dx.ok (n := n) (r := f_weeks n r u) (by simp [f_st, hc, c186, hw6.1, hw6.2, c200, (Int32.not_lt.mpr c200), eu, nI_clamp (show u < 2 ^ 31 by omega)]))
    · refine x_iconst (v := 0) dX4_isDone_203 (by decide) ?_
      exact x_zret dX4_isDone_204 (by decide) (Dx.no (by simp [f_st, hc, c186, hw6.1, hw6.2, c200, (Int32.not_le.mp c200), eu, nI_clamp (show u < 2 ^ 31 by omega)]) h36)
