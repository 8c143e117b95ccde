set_option maxHeartbeats 4000000 in
theorem qX4_addsHouse {E : mx_E} {σ : Mem} {n : Nat} {r : Row} (h36 : σ 36 = r) (hw : wf n r) (w : Row) (hwn : σ 43 = w)  : MX4_addsHouse E 1 [mx_rf E 35] σ (mx_i (fun v τ => Dx (if n = 6 ∨ w 2 < 1 ∨ 30 < w 3 then none else some (n + 1, f_build n r (w 0) (w 1) (w 2) (w 3))) σ τ v)) := by
  refine MM.of (lv := [(0, mx_rf E 35)]) kpX4 rfl (Nat.le_of_ble_eq_true rfl) rfl ?_
  have hn6 := hw.1
  refine x_mem (τ := mx_row σ 36 r) (by show σ = mx_row σ 36 r; rw [← h36]; exact (mx_row_self σ 36).symm) ?_
  refine x_aload_n 0 dX4_addsHouse_0 rfl ?_
  refine gfX4_31 dX4_addsHouse_1 ?_
  refine x_iconst (v := 2) dX4_addsHouse_4 (by decide) ?_
  refine x_iald (j := 2) (by decide) (by decide) (by decide) (by decide) dX4_addsHouse_5 ?_
  refine x_top (show (mx_row σ 36 r) 43 2 = w 2 from ((congrFun (mx_row_o (by decide)) 2).trans (congrFun hwn 2))) ?_
  refine x_iconst (v := 1) dX4_addsHouse_6 (by decide) ?_
  refine x_icmp_lt dX4_addsHouse_7 (fun c7 => ?_) (fun c7 => ?_)
  · have hno : n = 6 ∨ w 2 < 1 ∨ 30 < w 3 := Or.inr (Or.inl c7)
    refine x_iconst (v := 0) dX4_addsHouse_32 (by decide) ?_
    exact x_zret dX4_addsHouse_33 (by decide) (Dx.no (if_pos hno) h36)
  · refine x_aload_n 0 dX4_addsHouse_10 rfl ?_
    refine gfX4_31 dX4_addsHouse_11 ?_
    refine x_iconst (v := 3) dX4_addsHouse_14 (by decide) ?_
    refine x_iald (j := 3) (by decide) (by decide) (by decide) (by decide) dX4_addsHouse_15 ?_
    refine x_top (show (mx_row σ 36 r) 43 3 = w 3 from ((congrFun (mx_row_o (by decide)) 3).trans (congrFun hwn 3))) ?_
    refine x_bipush (v := 30) dX4_addsHouse_16 (by decide) ?_
    refine x_icmp_gt dX4_addsHouse_18 (fun c18 => ?_) (fun c18 => ?_)
    · have hno : n = 6 ∨ w 2 < 1 ∨ 30 < w 3 := Or.inr (Or.inr c18)
      refine x_iconst (v := 0) dX4_addsHouse_32 (by decide) ?_
      exact x_zret dX4_addsHouse_33 (by decide) (Dx.no (if_pos hno) h36)
    · refine x_aload_n 0 dX4_addsHouse_21 rfl ?_
      refine gfX4_9 dX4_addsHouse_22 ?_
      refine x_iconst (v := 0) dX4_addsHouse_25 (by decide) ?_
      refine x_ialdS (j := 0) (by decide) (by decide) (by decide) dX4_addsHouse_26 ?_
      refine x_top (show (mx_row σ 36 r) 36 0 = nI n from ((congrFun mx_row_s 0).trans hw.2.1)) ?_
      refine x_bipush (v := 6) dX4_addsHouse_27 (by decide) ?_
      refine x_icmp_ne dX4_addsHouse_29 (fun c29 => ?_) (fun c29 => ?_)
      · have hn6e : ¬ n = 6 := fun q => c29 (by rw [q]; rfl)
        have hno : ¬ (n = 6 ∨ w 2 < 1 ∨ 30 < w 3) := not_or.mpr ⟨hn6e, not_or.mpr ⟨c7, c18⟩⟩
        refine x_aload_n 0 dX4_addsHouse_34 rfl ?_
        refine gfX4_9 dX4_addsHouse_35 ?_
        refine x_iconst (v := 0) dX4_addsHouse_38 (by decide) ?_
        refine x_ialdS (j := 0) (by decide) (by decide) (by decide) dX4_addsHouse_39 ?_
        refine x_top (show (mx_row σ 36 r) 36 0 = nI n from ((congrFun mx_row_s 0).trans hw.2.1)) ?_
        refine x_istore_n (lv' := [(1, .int (nI n)), (0, mx_rf E 35)]) dX4_addsHouse_40 rfl (by decide) rfl ?_
        refine x_iconst (v := 0) dX4_addsHouse_41 (by decide) ?_
        refine x_istore_n (lv' := [(2, .int 0), (1, .int (nI n)), (0, mx_rf E 35)]) dX4_addsHouse_42 rfl (by decide) rfl ?_
        have key43 : ∀ k, k ≤ 4 → MX E 1 RX4 cX4_addsHouse 3 (some .boolean) 43 [(2, .int (nI k)), (1, .int (nI n)), (0, mx_rf E 35)] [] (mx_row σ 36 (f_nb n r w k)) (mx_i (fun v τ => Dx (if n = 6 ∨ w 2 < 1 ∨ 30 < w 3 then none else some (n + 1, f_build n r (w 0) (w 1) (w 2) (w 3))) σ τ v)) := by
          refine mx_ind 4 (fun k hi43 ih43 => ?_)
          refine x_iload_n 0 dX4_addsHouse_43 rfl ?_
          refine x_iconst (v := 4) dX4_addsHouse_44 (by decide) ?_
          refine x_icmp_ge dX4_addsHouse_45 (fun c45 => ?_) (fun c45 => ?_)
          · have hge := nI_le_of (b := 4) (by decide) (by omega) c45
            have hk4 : k = 4 := by omega
            refine x_aload_n 2 dX4_addsHouse_70 rfl ?_
            refine gfX4_9 dX4_addsHouse_71 ?_
            refine x_iload_n 1 dX4_addsHouse_74 rfl ?_
            refine x_iconst (v := 4) dX4_addsHouse_75 (by decide) ?_
            refine clX4_44 (qX4_of n 4) (by decide) rfl dX4_addsHouse_76 (fun r76 τ76 h76 => ?_)
            obtain ⟨rfl, rfl⟩ := h76
            refine x_iconst (v := 0) dX4_addsHouse_79 (by decide) ?_
            refine x_iastR (j := 6 + 6 * n + 4) (by decide) (by decide) (by omega) dX4_addsHouse_80 ?_
            refine x_aload_n 2 dX4_addsHouse_81 rfl ?_
            refine gfX4_9 dX4_addsHouse_82 ?_
            refine x_iload_n 1 dX4_addsHouse_85 rfl ?_
            refine x_iconst (v := 5) dX4_addsHouse_86 (by decide) ?_
            refine clX4_44 (qX4_of n 5) (by decide) rfl dX4_addsHouse_87 (fun r87 τ87 h87 => ?_)
            obtain ⟨rfl, rfl⟩ := h87
            refine x_iconst (v := 0) dX4_addsHouse_90 (by decide) ?_
            refine x_iastR (j := 6 + 6 * n + 5) (by decide) (by decide) (by omega) dX4_addsHouse_91 ?_
            refine x_aload_n 2 dX4_addsHouse_92 rfl ?_
            refine gfX4_9 dX4_addsHouse_93 ?_
            refine x_iconst (v := 4) dX4_addsHouse_96 (by decide) ?_
            refine x_dup2 dX4_addsHouse_97 rfl rfl ?_
            refine x_ialdS (j := 4) (by decide) (by decide) (by decide) dX4_addsHouse_98 ?_
            refine x_top (show (mx_row σ 36 (upd (upd (f_nb n r w k) (6 + 6 * n + 4) 0) (6 + 6 * n + 5) 0)) 36 4 = (upd (upd (f_nb n r w k) (6 + 6 * n + 4) 0) (6 + 6 * n + 5) 0) 4 from (congrFun mx_row_s _)) ?_
            refine x_iconst (v := 1) dX4_addsHouse_99 (by decide) ?_
            refine x_iload_n 1 dX4_addsHouse_100 rfl ?_
            refine x_ishl dX4_addsHouse_101 ?_
            refine x_ior dX4_addsHouse_102 ?_
            refine x_iastR (j := 4) (by decide) (by decide) (by decide) dX4_addsHouse_103 ?_
            refine x_aload_n 2 dX4_addsHouse_104 rfl ?_
            refine gfX4_9 dX4_addsHouse_105 ?_
            refine x_iconst (v := 0) dX4_addsHouse_108 (by decide) ?_
            refine x_dup2 dX4_addsHouse_109 rfl rfl ?_
            refine x_ialdS (j := 0) (by decide) (by decide) (by decide) dX4_addsHouse_110 ?_
            refine x_top (show (mx_row σ 36 (upd (upd (upd (f_nb n r w k) (6 + 6 * n + 4) 0) (6 + 6 * n + 5) 0) 4 (((upd (upd (f_nb n r w k) (6 + 6 * n + 4) 0) (6 + 6 * n + 5) 0) 4) ||| (1 <<< ((nI n) &&& 31))))) 36 0 = (upd (upd (upd (f_nb n r w k) (6 + 6 * n + 4) 0) (6 + 6 * n + 5) 0) 4 (((upd (upd (f_nb n r w k) (6 + 6 * n + 4) 0) (6 + 6 * n + 5) 0) 4) ||| (1 <<< ((nI n) &&& 31)))) 0 from (congrFun mx_row_s _)) ?_
            refine x_iconst (v := 1) dX4_addsHouse_111 (by decide) ?_
            refine x_iadd dX4_addsHouse_112 ?_
            refine x_iastR (j := 0) (by decide) (by decide) (by decide) dX4_addsHouse_113 ?_
            refine x_mem (τ := mx_row σ 36 (f_build n r (w 0) (w 1) (w 2) (w 3))) (congrArg (mx_row σ 36) (show upd (upd (upd (upd (f_nb n r w k) (6 + 6 * n + 4) 0) (6 + 6 * n + 5) 0) 4 (((upd (upd (f_nb n r w k) (6 + 6 * n + 4) 0) (6 + 6 * n + 5) 0) 4) ||| (1 <<< ((nI n) &&& 31)))) 0 (((upd (upd (upd (f_nb n r w k) (6 + 6 * n + 4) 0) (6 + 6 * n + 5) 0) 4 (((upd (upd (f_nb n r w k) (6 + 6 * n + 4) 0) (6 + 6 * n + 5) 0) 4) ||| (1 <<< ((nI n) &&& 31)))) 0) + 1) = f_build n r (w 0) (w 1) (w 2) (w 3) from (by rw [hk4]; show upd (upd (upd (upd (f_nb n r w 4) _ _) _ _) _ _) _ _ = _; simp only [upd_o (show (4 : Nat) ≠ 6 + 6 * n + 5 by omega), upd_o (show (4 : Nat) ≠ 6 + 6 * n + 4 by omega), upd_o (show (0 : Nat) ≠ 4 by decide), upd_o (show (0 : Nat) ≠ 6 + 6 * n + 5 by omega), upd_o (show (0 : Nat) ≠ 6 + 6 * n + 4 by omega), f_nb_o (show 4 < 6 by decide), f_nb_o (show 0 < 6 by decide), hw.2.1, nI_1]; rfl))) ?_
            refine x_iconst (v := 1) dX4_addsHouse_114 (by decide) ?_
            exact x_zret dX4_addsHouse_115 (by decide) (Dx.ok (if_neg hno))
          · have hlt := nI_lt_of (b := 4) (by decide) (by omega) c45
            refine x_aload_n 2 dX4_addsHouse_48 rfl ?_
            refine gfX4_9 dX4_addsHouse_49 ?_
            refine x_iload_n 1 dX4_addsHouse_52 rfl ?_
            refine x_iload_n 0 dX4_addsHouse_53 rfl ?_
            refine clX4_44 (qX4_of n k) (by decide) rfl dX4_addsHouse_54 (fun r54 τ54 h54 => ?_)
            obtain ⟨rfl, rfl⟩ := h54
            refine x_aload_n 2 dX4_addsHouse_57 rfl ?_
            refine gfX4_31 dX4_addsHouse_58 ?_
            refine x_iload_n 0 dX4_addsHouse_61 rfl ?_
            refine x_iald (j := k) (by decide) (by decide) (by decide) (show k < 4 by omega) dX4_addsHouse_62 ?_
            refine x_top (show (mx_row σ 36 (f_nb n r w k)) 43 k = w k from ((congrFun (mx_row_o (by decide)) k).trans (congrFun hwn k))) ?_
            refine x_iastR (j := 6 + 6 * n + k) (by decide) (by decide) (by omega) dX4_addsHouse_63 ?_
            refine x_iinc (v := nI (k + 1)) (lv' := [(2, .int (nI (k + 1))), (1, .int (nI n)), (0, mx_rf E 35)]) 0 dX4_addsHouse_64 rfl (nI_1 _) (by decide) rfl ?_
            refine x_goto dX4_addsHouse_67 ?_
            exact ih43 (k + 1) (by omega) (by omega)
        exact key43 0 (Nat.zero_le _)
      · have hno : n = 6 ∨ w 2 < 1 ∨ 30 < w 3 := Or.inl ((nI_eq (b := 6) (by omega) (by decide)).mp (by first | exact c29 | exact Decidable.not_not.mp c29))
        refine x_iconst (v := 0) dX4_addsHouse_32 (by decide) ?_
        exact x_zret dX4_addsHouse_33 (by decide) (Dx.no (if_pos hno) h36)
