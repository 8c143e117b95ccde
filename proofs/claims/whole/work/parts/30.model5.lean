set_option maxHeartbeats 4000000 in
theorem qX4_whatIs {E : mx_E} {σ : Mem} {n : Nat} {r : Row} (h36 : σ 36 = r) (hw : wf n r) (R : Row) (m : Nat) (hm : m ≤ 16) (hz : σ 35 9 = nI m) (hv : ∀ j, j < m → σ 41 j = R j) (house what : Int32) : MX4_whatIs E 5 [mx_rf E 35, .int house, .int what] σ (mx_i (fun v τ => (p_whatIs n r m R house what).1 = v ∧ Qm (p_whatIs n r m R house what).2 σ τ)) := by
  refine MM.of (lv := [(0, mx_rf E 35), (1, .int house), (2, .int what)]) kpX4 rfl (Nat.le_of_ble_eq_true rfl) rfl ?_
  have hn6 := hw.1
  refine x_mem (τ := mx_row σ 37 (σ 37)) (mx_row_self σ 37).symm ?_
  refine x_aload_n 0 dX4_whatIs_0 rfl ?_
  refine x_iload_n 1 dX4_whatIs_1 rfl ?_
  refine clX4_111 (qX4_isHouse ((mx_row_o (by decide)).trans h36) hw house) (by decide) rfl dX4_whatIs_2 (fun r2 τ2 h2 => ?_)
  obtain ⟨rfl, rfl⟩ := h2
  refine x_if_ne dX4_whatIs_5 (fun c5 => ?_) (fun c5 => ?_)
  · replace c5 := zb_1 c5
    obtain ⟨h, hh, rfl⟩ := f_inN_t (by omega) c5
    refine x_iload_n 2 dX4_whatIs_14 rfl ?_
    refine x_iconst (v := 0) dX4_whatIs_15 (by decide) ?_
    refine x_iconst (v := 1) dX4_whatIs_16 (by decide) ?_
    refine clX4_40 (qX4_isIn what 0 1) (by decide) rfl dX4_whatIs_17 (fun r17 τ17 h17 => ?_)
    obtain ⟨rfl, rfl⟩ := h17
    refine x_if_ne dX4_whatIs_20 (fun c20 => ?_) (fun c20 => ?_)
    · replace c20 := zb_1 c20
      have hwt := c20
      obtain ⟨y, hy, rfl⟩ := f_in_t (hi := 1) (by decide) c20
      rcases (show y = 0 ∨ y = 1 by omega) with rfl | rfl
      · refine x_iconst (v := 0) dX4_whatIs_30 (by decide) ?_
        refine x_istore_n (lv' := [(3, .int 0), (0, mx_rf E 35), (1, .int (nI h)), (2, .int 0)]) dX4_whatIs_31 rfl (by decide) rfl ?_
        refine x_iconst (v := 0) dX4_whatIs_32 (by decide) ?_
        refine x_istore (lv' := [(4, .int 0), (3, .int 0), (0, mx_rf E 35), (1, .int (nI h)), (2, .int 0)]) dX4_whatIs_33 rfl (by decide) rfl ?_
        have key35 : ∀ z, z ≤ 6 → ∀ q : Row, MX E 5 RX4 cX4_whatIs 7 (some .int) 35 [(4, .int (nI z)), (3, .int (f_wi n m r R h 0 z)), (0, mx_rf E 35), (1, .int (nI h)), (2, .int 0)] [] (mx_row σ 37 q) (mx_i (fun v τ => (p_whatIs n r m R (nI h) (nI 0)).1 = v ∧ Qm (p_whatIs n r m R (nI h) (nI 0)).2 σ τ)) := by
          refine mx_ind 6 (fun z hi35 ih35 => ?_)
          intro q
          refine x_iload 0 dX4_whatIs_35 rfl ?_
          refine x_iload_n 4 dX4_whatIs_37 rfl ?_
          refine x_if_ne dX4_whatIs_38 (fun c => absurd c (by decide)) (fun _ => ?_)
          refine x_bipush (v := 6) dX4_whatIs_41 (by decide) ?_
          refine x_goto dX4_whatIs_43 ?_
          refine x_icmp_ge dX4_whatIs_48 (fun c48 => ?_) (fun c48 => ?_)
          · have hge := nI_le_of (b := 6) (by decide) (by omega) c48
            have hzl : z = 6 := by omega
            refine x_iload_n 1 dX4_whatIs_154 rfl ?_
            exact x_iret dX4_whatIs_155 (by rw [show p_whatIs n r m R (nI h) (nI 0) = (f_wi n m r R h 0 z, 0) from by unfold p_whatIs; rw [if_pos c5, if_pos hwt, nI_clamp (show h < 2 ^ 31 by omega), hzl]; rfl]; exact ⟨rfl, (Qm.rf.row (Or.inl rfl))⟩)
          · have hz6 := nI_lt_of (b := 6) (by decide) (by omega) c48
            refine x_iconst (v := 1) dX4_whatIs_51 (by decide) ?_
            refine x_istore (lv' := [(5, .int 1), (4, .int (nI z)), (3, .int (f_wi n m r R h 0 z)), (0, mx_rf E 35), (1, .int (nI h)), (2, .int 0)]) dX4_whatIs_52 rfl (by decide) rfl ?_
            refine x_aload_n 3 dX4_whatIs_54 rfl ?_
            refine gfX4_9 dX4_whatIs_55 ?_
            refine x_aload_n 3 dX4_whatIs_58 rfl ?_
            refine gfX4_13 dX4_whatIs_59 ?_
            refine clX4_121 (qX4_copies (by decide) (by decide) (by decide) (by decide) (by decide) ((mx_row_o (by decide)).trans h36)) (by decide) rfl dX4_whatIs_62 (fun τ62 h62 => ?_)
            obtain rfl := h62
            refine x_mem (mx_row_row _ _ _ _) ?_
            refine x_aload_n 3 dX4_whatIs_65 rfl ?_
            refine gfX4_13 dX4_whatIs_66 ?_
            refine x_iload_n 4 dX4_whatIs_69 rfl ?_
            refine x_iload_n 5 dX4_whatIs_70 rfl ?_
            refine clX4_44 (qX4_of0 h) (by decide) rfl dX4_whatIs_71 (fun r71 τ71 h71 => ?_)
            obtain ⟨rfl, rfl⟩ := h71
            refine x_iload 1 dX4_whatIs_74 rfl ?_
            refine x_iastR (j := 6 + 6 * h) (by decide) (by decide) (by omega) dX4_whatIs_76 ?_
            refine x_mem (τ := mx_row σ 37 (f_cd r h 0 z)) (congrArg (mx_row σ 37) (show upd r (6 + 6 * h) (nI z) = f_cd r h 0 z from rfl)) ?_
            refine x_iconst (v := 0) dX4_whatIs_77 (by decide) ?_
            refine x_istore (lv' := [(6, .int 0), (5, .int 1), (4, .int (nI z)), (3, .int (f_wi n m r R h 0 z)), (0, mx_rf E 35), (1, .int (nI h)), (2, .int 0)]) dX4_whatIs_78 rfl (by decide) rfl ?_
            have key80 : ∀ k, k ≤ m → MX E 5 RX4 cX4_whatIs 7 (some .int) 80 [(6, .int (nI k)), (5, .int (zb (f_asT n (f_cd r h 0 z) R h k))), (4, .int (nI z)), (3, .int (f_wi n m r R h 0 z)), (0, mx_rf E 35), (1, .int (nI h)), (2, .int 0)] [] (mx_row σ 37 (f_weeks n (f_cd r h 0 z) k)) (mx_i (fun v τ => (p_whatIs n r m R (nI h) (nI 0)).1 = v ∧ Qm (p_whatIs n r m R (nI h) (nI 0)).2 σ τ)) := by
              refine mx_ind m (fun k hi80 ih80 => ?_)
              refine x_iload 0 dX4_whatIs_80 rfl ?_
              refine x_aload_n 4 dX4_whatIs_82 rfl ?_
              refine gfX4_199 dX4_whatIs_83 ?_
              refine x_top (show (mx_row σ 37 (f_weeks n (f_cd r h 0 z) k)) 35 9 = nI m from ((congrFun (mx_row_o (by decide)) 9).trans hz)) ?_
              refine x_icmp_ge dX4_whatIs_86 (fun c86 => ?_) (fun c86 => ?_)
              · have hge2 := nI_le_of (by omega) (by omega) c86
                have hkm : k = m := by omega
                refine x_iload_n 3 dX4_whatIs_132 rfl ?_
                refine x_iload 1 dX4_whatIs_133 rfl ?_
                refine x_if_eq dX4_whatIs_135 (fun c135 => ?_) (fun c135 => ?_)
                · replace c135 := zb_0 c135
                  rw [hkm] at c135
                  refine x_iconst (v := 0) dX4_whatIs_145 (by decide) ?_
                  refine x_ior dX4_whatIs_146 ?_
                  refine x_istore_n (lv' := [(3, .int ((f_wi n m r R h 0 z) ||| 0)), (6, .int (nI k)), (5, .int (zb (f_asT n (f_cd r h 0 z) R h k))), (4, .int (nI z)), (0, mx_rf E 35), (1, .int (nI h)), (2, .int 0)]) dX4_whatIs_147 rfl (by decide) rfl ?_
                  refine x_iinc (v := nI (z + 1)) (lv' := [(4, .int (nI (z + 1))), (3, .int ((f_wi n m r R h 0 z) ||| 0)), (6, .int (nI k)), (5, .int (zb (f_asT n (f_cd r h 0 z) R h k))), (0, mx_rf E 35), (1, .int (nI h)), (2, .int 0)]) 3 dX4_whatIs_148 rfl (nI_1 _) (by decide) rfl ?_
                  refine x_goto dX4_whatIs_151 ?_
                  refine x_lvs [0, 1, 4, 5, 6] rfl ?_
                  exact acc_eq (P := fun x => MX E _ _ _ _ _ _ [(4, .int (nI (z + 1))), (3, .int x), (0, mx_rf E 35), (1, .int (nI h)), (2, .int 0)] _ _ _) (f_wi_F2 c135).symm (ih35 (z + 1) (by omega) (by omega) _)
                · replace c135 := zb_1 c135
                  rw [hkm] at c135
                  refine x_iconst (v := 1) dX4_whatIs_138 (by decide) ?_
                  refine x_iload 2 dX4_whatIs_139 rfl ?_
                  refine x_ishl dX4_whatIs_141 ?_
                  refine x_goto dX4_whatIs_142 ?_
                  refine x_ior dX4_whatIs_146 ?_
                  refine x_istore_n (lv' := [(3, .int ((f_wi n m r R h 0 z) ||| (1 <<< ((nI z) &&& 31)))), (6, .int (nI k)), (5, .int (zb (f_asT n (f_cd r h 0 z) R h k))), (4, .int (nI z)), (0, mx_rf E 35), (1, .int (nI h)), (2, .int 0)]) dX4_whatIs_147 rfl (by decide) rfl ?_
                  refine x_iinc (v := nI (z + 1)) (lv' := [(4, .int (nI (z + 1))), (3, .int ((f_wi n m r R h 0 z) ||| (1 <<< ((nI z) &&& 31)))), (6, .int (nI k)), (5, .int (zb (f_asT n (f_cd r h 0 z) R h k))), (0, mx_rf E 35), (1, .int (nI h)), (2, .int 0)]) 3 dX4_whatIs_148 rfl (nI_1 _) (by decide) rfl ?_
                  refine x_goto dX4_whatIs_151 ?_
                  refine x_lvs [0, 1, 4, 5, 6] rfl ?_
                  exact acc_eq (P := fun x => MX E _ _ _ _ _ _ [(4, .int (nI (z + 1))), (3, .int x), (0, mx_rf E 35), (1, .int (nI h)), (2, .int 0)] _ _ _) (f_wi_T c135).symm (ih35 (z + 1) (by omega) (by omega) _)
              · have hlt := nI_lt_of (by omega) (by omega) c86
                refine x_iload 1 dX4_whatIs_89 rfl ?_
                refine x_aload_n 4 dX4_whatIs_91 rfl ?_
                refine gfX4_13 dX4_whatIs_92 ?_
                refine x_iload_n 5 dX4_whatIs_95 rfl ?_
                refine x_iconst (v := 4) dX4_whatIs_96 (by decide) ?_
                refine clX4_44 (qX4_of h 4) (by decide) rfl dX4_whatIs_97 (fun r97 τ97 h97 => ?_)
                obtain ⟨rfl, rfl⟩ := h97
                refine x_ialdS (j := 6 + 6 * h + 4) (by decide) (by decide) (by omega) dX4_whatIs_100 ?_
                refine x_top (show (mx_row σ 37 (f_weeks n (f_cd r h 0 z) k)) 37 (6 + 6 * h + 4) = (f_weeks n (f_cd r h 0 z) k) (6 + 6 * h + 4) from (congrFun mx_row_s _)) ?_
                refine x_aload_n 4 dX4_whatIs_101 rfl ?_
                refine gfX4_25 dX4_whatIs_102 ?_
                refine x_iload 0 dX4_whatIs_105 rfl ?_
                refine x_iald (j := k) (by decide) (by decide) (by decide) (show k < 16 by omega) dX4_whatIs_107 ?_
                refine x_top (show (mx_row σ 37 (f_weeks n (f_cd r h 0 z) k)) 41 k = R k from ((congrFun (mx_row_o (by decide)) k).trans (hv k (by omega)))) ?_
                refine x_icmp_ne dX4_whatIs_108 (fun c108 => ?_) (fun c108 => ?_)
                · refine x_iconst (v := 0) dX4_whatIs_115 (by decide) ?_
                  refine x_iand dX4_whatIs_116 ?_
                  refine x_top (show (zb (f_asT n (f_cd r h 0 z) R h k)) &&& 0 = zb (f_asT n (f_cd r h 0 z) R h (k + 1)) from (by rw [f_asT_s, decide_eq_false c108, Bool.and_false]; exact zb_and0 _)) ?_
                  refine x_istore (lv' := [(5, .int (zb (f_asT n (f_cd r h 0 z) R h (k + 1)))), (6, .int (nI k)), (4, .int (nI z)), (3, .int (f_wi n m r R h 0 z)), (0, mx_rf E 35), (1, .int (nI h)), (2, .int 0)]) dX4_whatIs_117 rfl (by decide) rfl ?_
                  refine x_aload_n 4 dX4_whatIs_119 rfl ?_
                  refine gfX4_13 dX4_whatIs_120 ?_
                  refine clX4_83 (gX4_week (by decide) (by decide) mx_row_s n (wf_weeks (wf_cd0 hw hz6) k)) (by decide) rfl dX4_whatIs_123 (fun τ123 h123 => ?_)
                  obtain rfl := h123
                  refine x_mem (mx_row_row _ _ _ _) ?_
                  refine x_iinc (v := nI (k + 1)) (lv' := [(6, .int (nI (k + 1))), (5, .int (zb (f_asT n (f_cd r h 0 z) R h (k + 1)))), (4, .int (nI z)), (3, .int (f_wi n m r R h 0 z)), (0, mx_rf E 35), (1, .int (nI h)), (2, .int 0)]) 1 dX4_whatIs_126 rfl (nI_1 _) (by decide) rfl ?_
                  refine x_goto dX4_whatIs_129 ?_
                  exact ih80 (k + 1) (by omega) (by omega)
                · refine x_iconst (v := 1) dX4_whatIs_111 (by decide) ?_
                  refine x_goto dX4_whatIs_112 ?_
                  refine x_iand dX4_whatIs_116 ?_
                  refine x_top (show (zb (f_asT n (f_cd r h 0 z) R h k)) &&& 1 = zb (f_asT n (f_cd r h 0 z) R h (k + 1)) from (by rw [f_asT_s, decide_eq_true c108, Bool.and_true]; exact zb_and1 _)) ?_
                  refine x_istore (lv' := [(5, .int (zb (f_asT n (f_cd r h 0 z) R h (k + 1)))), (6, .int (nI k)), (4, .int (nI z)), (3, .int (f_wi n m r R h 0 z)), (0, mx_rf E 35), (1, .int (nI h)), (2, .int 0)]) dX4_whatIs_117 rfl (by decide) rfl ?_
                  refine x_aload_n 4 dX4_whatIs_119 rfl ?_
                  refine gfX4_13 dX4_whatIs_120 ?_
                  refine clX4_83 (gX4_week (by decide) (by decide) mx_row_s n (wf_weeks (wf_cd0 hw hz6) k)) (by decide) rfl dX4_whatIs_123 (fun τ123 h123 => ?_)
                  obtain rfl := h123
                  refine x_mem (mx_row_row _ _ _ _) ?_
                  refine x_iinc (v := nI (k + 1)) (lv' := [(6, .int (nI (k + 1))), (5, .int (zb (f_asT n (f_cd r h 0 z) R h (k + 1)))), (4, .int (nI z)), (3, .int (f_wi n m r R h 0 z)), (0, mx_rf E 35), (1, .int (nI h)), (2, .int 0)]) 1 dX4_whatIs_126 rfl (nI_1 _) (by decide) rfl ?_
                  refine x_goto dX4_whatIs_129 ?_
                  exact ih80 (k + 1) (by omega) (by omega)
            exact key80 0 (Nat.zero_le _)
        exact key35 0 (Nat.zero_le _) _
      · refine x_iconst (v := 0) dX4_whatIs_30 (by decide) ?_
        refine x_istore_n (lv' := [(3, .int 0), (0, mx_rf E 35), (1, .int (nI h)), (2, .int 1)]) dX4_whatIs_31 rfl (by decide) rfl ?_
        refine x_iconst (v := 0) dX4_whatIs_32 (by decide) ?_
        refine x_istore (lv' := [(4, .int 0), (3, .int 0), (0, mx_rf E 35), (1, .int (nI h)), (2, .int 1)]) dX4_whatIs_33 rfl (by decide) rfl ?_
        have key35 : ∀ z, z ≤ 10 → ∀ q : Row, MX E 5 RX4 cX4_whatIs 7 (some .int) 35 [(4, .int (nI z)), (3, .int (f_wi n m r R h 1 z)), (0, mx_rf E 35), (1, .int (nI h)), (2, .int 1)] [] (mx_row σ 37 q) (mx_i (fun v τ => (p_whatIs n r m R (nI h) (nI 1)).1 = v ∧ Qm (p_whatIs n r m R (nI h) (nI 1)).2 σ τ)) := by
          refine mx_ind 10 (fun z hi35 ih35 => ?_)
          intro q
          refine x_iload 0 dX4_whatIs_35 rfl ?_
          refine x_iload_n 4 dX4_whatIs_37 rfl ?_
          refine x_if_ne dX4_whatIs_38 (fun _ => ?_) (fun c => absurd c (by decide))
          refine x_bipush (v := 10) dX4_whatIs_46 (by decide) ?_
          refine x_icmp_ge dX4_whatIs_48 (fun c48 => ?_) (fun c48 => ?_)
          · have hge := nI_le_of (b := 10) (by decide) (by omega) c48
            have hzl : z = 10 := by omega
            refine x_iload_n 1 dX4_whatIs_154 rfl ?_
            exact x_iret dX4_whatIs_155 (by rw [show p_whatIs n r m R (nI h) (nI 1) = (f_wi n m r R h 1 z, 0) from by unfold p_whatIs; rw [if_pos c5, if_pos hwt, nI_clamp (show h < 2 ^ 31 by omega), hzl]; rfl]; exact ⟨rfl, (Qm.rf.row (Or.inl rfl))⟩)
          · have hz6 := nI_lt_of (b := 10) (by decide) (by omega) c48
            refine x_iconst (v := 1) dX4_whatIs_51 (by decide) ?_
            refine x_istore (lv' := [(5, .int 1), (4, .int (nI z)), (3, .int (f_wi n m r R h 1 z)), (0, mx_rf E 35), (1, .int (nI h)), (2, .int 1)]) dX4_whatIs_52 rfl (by decide) rfl ?_
            refine x_aload_n 3 dX4_whatIs_54 rfl ?_
            refine gfX4_9 dX4_whatIs_55 ?_
            refine x_aload_n 3 dX4_whatIs_58 rfl ?_
            refine gfX4_13 dX4_whatIs_59 ?_
            refine clX4_121 (qX4_copies (by decide) (by decide) (by decide) (by decide) (by decide) ((mx_row_o (by decide)).trans h36)) (by decide) rfl dX4_whatIs_62 (fun τ62 h62 => ?_)
            obtain rfl := h62
            refine x_mem (mx_row_row _ _ _ _) ?_
            refine x_aload_n 3 dX4_whatIs_65 rfl ?_
            refine gfX4_13 dX4_whatIs_66 ?_
            refine x_iload_n 4 dX4_whatIs_69 rfl ?_
            refine x_iload_n 5 dX4_whatIs_70 rfl ?_
            refine clX4_44 (qX4_of h 1) (by decide) rfl dX4_whatIs_71 (fun r71 τ71 h71 => ?_)
            obtain ⟨rfl, rfl⟩ := h71
            refine x_iload 1 dX4_whatIs_74 rfl ?_
            refine x_iastR (j := 6 + 6 * h + 1) (by decide) (by decide) (by omega) dX4_whatIs_76 ?_
            refine x_mem (τ := mx_row σ 37 (f_cd r h 1 z)) (congrArg (mx_row σ 37) (show upd r (6 + 6 * h + 1) (nI z) = f_cd r h 1 z from rfl)) ?_
            refine x_iconst (v := 0) dX4_whatIs_77 (by decide) ?_
            refine x_istore (lv' := [(6, .int 0), (5, .int 1), (4, .int (nI z)), (3, .int (f_wi n m r R h 1 z)), (0, mx_rf E 35), (1, .int (nI h)), (2, .int 1)]) dX4_whatIs_78 rfl (by decide) rfl ?_
            have key80 : ∀ k, k ≤ m → MX E 5 RX4 cX4_whatIs 7 (some .int) 80 [(6, .int (nI k)), (5, .int (zb (f_asT n (f_cd r h 1 z) R h k))), (4, .int (nI z)), (3, .int (f_wi n m r R h 1 z)), (0, mx_rf E 35), (1, .int (nI h)), (2, .int 1)] [] (mx_row σ 37 (f_weeks n (f_cd r h 1 z) k)) (mx_i (fun v τ => (p_whatIs n r m R (nI h) (nI 1)).1 = v ∧ Qm (p_whatIs n r m R (nI h) (nI 1)).2 σ τ)) := by
              refine mx_ind m (fun k hi80 ih80 => ?_)
              refine x_iload 0 dX4_whatIs_80 rfl ?_
              refine x_aload_n 4 dX4_whatIs_82 rfl ?_
              refine gfX4_199 dX4_whatIs_83 ?_
              refine x_top (show (mx_row σ 37 (f_weeks n (f_cd r h 1 z) k)) 35 9 = nI m from ((congrFun (mx_row_o (by decide)) 9).trans hz)) ?_
              refine x_icmp_ge dX4_whatIs_86 (fun c86 => ?_) (fun c86 => ?_)
              · have hge2 := nI_le_of (by omega) (by omega) c86
                have hkm : k = m := by omega
                refine x_iload_n 3 dX4_whatIs_132 rfl ?_
                refine x_iload 1 dX4_whatIs_133 rfl ?_
                refine x_if_eq dX4_whatIs_135 (fun c135 => ?_) (fun c135 => ?_)
                · replace c135 := zb_0 c135
                  rw [hkm] at c135
                  refine x_iconst (v := 0) dX4_whatIs_145 (by decide) ?_
                  refine x_ior dX4_whatIs_146 ?_
                  refine x_istore_n (lv' := [(3, .int ((f_wi n m r R h 1 z) ||| 0)), (6, .int (nI k)), (5, .int (zb (f_asT n (f_cd r h 1 z) R h k))), (4, .int (nI z)), (0, mx_rf E 35), (1, .int (nI h)), (2, .int 1)]) dX4_whatIs_147 rfl (by decide) rfl ?_
                  refine x_iinc (v := nI (z + 1)) (lv' := [(4, .int (nI (z + 1))), (3, .int ((f_wi n m r R h 1 z) ||| 0)), (6, .int (nI k)), (5, .int (zb (f_asT n (f_cd r h 1 z) R h k))), (0, mx_rf E 35), (1, .int (nI h)), (2, .int 1)]) 3 dX4_whatIs_148 rfl (nI_1 _) (by decide) rfl ?_
                  refine x_goto dX4_whatIs_151 ?_
                  refine x_lvs [0, 1, 4, 5, 6] rfl ?_
                  exact acc_eq (P := fun x => MX E _ _ _ _ _ _ [(4, .int (nI (z + 1))), (3, .int x), (0, mx_rf E 35), (1, .int (nI h)), (2, .int 1)] _ _ _) (f_wi_F2 c135).symm (ih35 (z + 1) (by omega) (by omega) _)
                · replace c135 := zb_1 c135
                  rw [hkm] at c135
                  refine x_iconst (v := 1) dX4_whatIs_138 (by decide) ?_
                  refine x_iload 2 dX4_whatIs_139 rfl ?_
                  refine x_ishl dX4_whatIs_141 ?_
                  refine x_goto dX4_whatIs_142 ?_
                  refine x_ior dX4_whatIs_146 ?_
                  refine x_istore_n (lv' := [(3, .int ((f_wi n m r R h 1 z) ||| (1 <<< ((nI z) &&& 31)))), (6, .int (nI k)), (5, .int (zb (f_asT n (f_cd r h 1 z) R h k))), (4, .int (nI z)), (0, mx_rf E 35), (1, .int (nI h)), (2, .int 1)]) dX4_whatIs_147 rfl (by decide) rfl ?_
                  refine x_iinc (v := nI (z + 1)) (lv' := [(4, .int (nI (z + 1))), (3, .int ((f_wi n m r R h 1 z) ||| (1 <<< ((nI z) &&& 31)))), (6, .int (nI k)), (5, .int (zb (f_asT n (f_cd r h 1 z) R h k))), (0, mx_rf E 35), (1, .int (nI h)), (2, .int 1)]) 3 dX4_whatIs_148 rfl (nI_1 _) (by decide) rfl ?_
                  refine x_goto dX4_whatIs_151 ?_
                  refine x_lvs [0, 1, 4, 5, 6] rfl ?_
                  exact acc_eq (P := fun x => MX E _ _ _ _ _ _ [(4, .int (nI (z + 1))), (3, .int x), (0, mx_rf E 35), (1, .int (nI h)), (2, .int 1)] _ _ _) (f_wi_T c135).symm (ih35 (z + 1) (by omega) (by omega) _)
              · have hlt := nI_lt_of (by omega) (by omega) c86
                refine x_iload 1 dX4_whatIs_89 rfl ?_
                refine x_aload_n 4 dX4_whatIs_91 rfl ?_
                refine gfX4_13 dX4_whatIs_92 ?_
                refine x_iload_n 5 dX4_whatIs_95 rfl ?_
                refine x_iconst (v := 4) dX4_whatIs_96 (by decide) ?_
                refine clX4_44 (qX4_of h 4) (by decide) rfl dX4_whatIs_97 (fun r97 τ97 h97 => ?_)
                obtain ⟨rfl, rfl⟩ := h97
                refine x_ialdS (j := 6 + 6 * h + 4) (by decide) (by decide) (by omega) dX4_whatIs_100 ?_
                refine x_top (show (mx_row σ 37 (f_weeks n (f_cd r h 1 z) k)) 37 (6 + 6 * h + 4) = (f_weeks n (f_cd r h 1 z) k) (6 + 6 * h + 4) from (congrFun mx_row_s _)) ?_
                refine x_aload_n 4 dX4_whatIs_101 rfl ?_
                refine gfX4_25 dX4_whatIs_102 ?_
                refine x_iload 0 dX4_whatIs_105 rfl ?_
                refine x_iald (j := k) (by decide) (by decide) (by decide) (show k < 16 by omega) dX4_whatIs_107 ?_
                refine x_top (show (mx_row σ 37 (f_weeks n (f_cd r h 1 z) k)) 41 k = R k from ((congrFun (mx_row_o (by decide)) k).trans (hv k (by omega)))) ?_
                refine x_icmp_ne dX4_whatIs_108 (fun c108 => ?_) (fun c108 => ?_)
                · refine x_iconst (v := 0) dX4_whatIs_115 (by decide) ?_
                  refine x_iand dX4_whatIs_116 ?_
                  refine x_top (show (zb (f_asT n (f_cd r h 1 z) R h k)) &&& 0 = zb (f_asT n (f_cd r h 1 z) R h (k + 1)) from (by rw [f_asT_s, decide_eq_false c108, Bool.and_false]; exact zb_and0 _)) ?_
                  refine x_istore (lv' := [(5, .int (zb (f_asT n (f_cd r h 1 z) R h (k + 1)))), (6, .int (nI k)), (4, .int (nI z)), (3, .int (f_wi n m r R h 1 z)), (0, mx_rf E 35), (1, .int (nI h)), (2, .int 1)]) dX4_whatIs_117 rfl (by decide) rfl ?_
                  refine x_aload_n 4 dX4_whatIs_119 rfl ?_
                  refine gfX4_13 dX4_whatIs_120 ?_
                  refine clX4_83 (gX4_week (by decide) (by decide) mx_row_s n (wf_weeks (wf_cd1 hw hz6) k)) (by decide) rfl dX4_whatIs_123 (fun τ123 h123 => ?_)
                  obtain rfl := h123
                  refine x_mem (mx_row_row _ _ _ _) ?_
                  refine x_iinc (v := nI (k + 1)) (lv' := [(6, .int (nI (k + 1))), (5, .int (zb (f_asT n (f_cd r h 1 z) R h (k + 1)))), (4, .int (nI z)), (3, .int (f_wi n m r R h 1 z)), (0, mx_rf E 35), (1, .int (nI h)), (2, .int 1)]) 1 dX4_whatIs_126 rfl (nI_1 _) (by decide) rfl ?_
                  refine x_goto dX4_whatIs_129 ?_
                  exact ih80 (k + 1) (by omega) (by omega)
                · refine x_iconst (v := 1) dX4_whatIs_111 (by decide) ?_
                  refine x_goto dX4_whatIs_112 ?_
                  refine x_iand dX4_whatIs_116 ?_
                  refine x_top (show (zb (f_asT n (f_cd r h 1 z) R h k)) &&& 1 = zb (f_asT n (f_cd r h 1 z) R h (k + 1)) from (by rw [f_asT_s, decide_eq_true c108, Bool.and_true]; exact zb_and1 _)) ?_
                  refine x_istore (lv' := [(5, .int (zb (f_asT n (f_cd r h 1 z) R h (k + 1)))), (6, .int (nI k)), (4, .int (nI z)), (3, .int (f_wi n m r R h 1 z)), (0, mx_rf E 35), (1, .int (nI h)), (2, .int 1)]) dX4_whatIs_117 rfl (by decide) rfl ?_
                  refine x_aload_n 4 dX4_whatIs_119 rfl ?_
                  refine gfX4_13 dX4_whatIs_120 ?_
                  refine clX4_83 (gX4_week (by decide) (by decide) mx_row_s n (wf_weeks (wf_cd1 hw hz6) k)) (by decide) rfl dX4_whatIs_123 (fun τ123 h123 => ?_)
                  obtain rfl := h123
                  refine x_mem (mx_row_row _ _ _ _) ?_
                  refine x_iinc (v := nI (k + 1)) (lv' := [(6, .int (nI (k + 1))), (5, .int (zb (f_asT n (f_cd r h 1 z) R h (k + 1)))), (4, .int (nI z)), (3, .int (f_wi n m r R h 1 z)), (0, mx_rf E 35), (1, .int (nI h)), (2, .int 1)]) 1 dX4_whatIs_126 rfl (nI_1 _) (by decide) rfl ?_
                  refine x_goto dX4_whatIs_129 ?_
                  exact ih80 (k + 1) (by omega) (by omega)
            exact key80 0 (Nat.zero_le _)
        exact key35 0 (Nat.zero_le _) _
    · replace c20 := zb_0 c20
      refine x_aload_n 0 dX4_whatIs_23 rfl ?_
      refine x_bipush (v := -2) dX4_whatIs_24 (by decide) ?_
      refine clX4_36 (qX4_no 2 (by decide) (by decide)) (by decide) rfl dX4_whatIs_26 (fun r26 τ26 h26 => ?_)
      obtain ⟨rfl, rfl⟩ := h26
      exact x_iret dX4_whatIs_29 (by rw [show p_whatIs n r m R (nI h) what = (-2, 2) from by simp [p_whatIs, c5, c20, nI_clamp (show h < 2 ^ 31 by omega)]]; exact ⟨rfl, by rw [mx_row_self]; exact Qm.no⟩)
  · replace c5 := zb_0 c5
    refine x_aload_n 0 dX4_whatIs_8 rfl ?_
    refine x_iconst (v := -1) dX4_whatIs_9 (by decide) ?_
    refine clX4_36 (qX4_no 1 (by decide) (by decide)) (by decide) rfl dX4_whatIs_10 (fun r10 τ10 h10 => ?_)
    obtain ⟨rfl, rfl⟩ := h10
    exact x_iret dX4_whatIs_13 (by rw [show p_whatIs n r m R house what = (-1, 1) from by simp [p_whatIs, c5]]; exact ⟨rfl, by rw [mx_row_self]; exact Qm.no⟩)

set_option maxHeartbeats 4000000 in
theorem qX4_drawn {E : mx_E} {σ : Mem}  : MX4_drawn E 0 [mx_rf E 35, .int 31] σ (mx_ie (f_drw (f_lcg (σ 35 12))) (mx_up σ 35 12 (f_lcg (σ 35 12)))) := by
  refine MM.of (lv := [(0, mx_rf E 35), (1, .int 31)]) kpX4 rfl (Nat.le_of_ble_eq_true rfl) rfl ?_
  refine x_aload_n 0 dX4_drawn_0 rfl ?_
  refine x_aload_n 0 dX4_drawn_1 rfl ?_
  refine gfX4_202 dX4_drawn_2 ?_
  refine x_ldc dX4_drawn_5 kkX4_205 ?_
  refine x_imul dX4_drawn_7 ?_
  refine x_ldc dX4_drawn_8 kkX4_206 ?_
  refine x_iadd dX4_drawn_10 ?_
  refine pfX4_202 dX4_drawn_11 ?_
  refine x_mem (τ := mx_up σ 35 12 (f_lcg (σ 35 12))) rfl ?_
  refine x_aload_n 0 dX4_drawn_14 rfl ?_
  refine gfX4_202 dX4_drawn_15 ?_
  refine x_top (show (mx_up σ 35 12 (f_lcg (σ 35 12))) 35 12 = f_lcg (σ 35 12) from ((congrFun mx_up_s _).trans upd_s)) ?_
  refine x_ldc dX4_drawn_18 kkX4_207 ?_
  refine x_iand dX4_drawn_20 ?_
  refine x_sipush (v := 256) dX4_drawn_21 (by decide) ?_
  refine x_idiv dX4_drawn_24 (by decide) ?_
  refine x_iload_n 1 dX4_drawn_25 rfl ?_
  refine x_irem dX4_drawn_26 (by decide) ?_
  exact x_iret dX4_drawn_27 ⟨rfl, rfl⟩

set_option maxHeartbeats 4000000 in
theorem qX4_lots {E : mx_E} {σ : Mem} {n : Nat} {r : Row} (h36 : σ 36 = r) (hw : wf n r) (years seed what : Int32) : MX4_lots E 6 [mx_rf E 35, .int years, .int seed, .int what] σ (mx_i (fun v τ => (p_lots n r years seed what).1 = v ∧ Qm (p_lots n r years seed what).2 σ τ)) := by
  refine MM.of (lv := [(0, mx_rf E 35), (1, .int years), (2, .int seed), (3, .int what)]) kpX4 rfl (Nat.le_of_ble_eq_true rfl) rfl ?_
  have hn6 := hw.1
  refine x_iload_n 1 dX4_lots_0 rfl ?_
  refine x_iconst (v := 1) dX4_lots_1 (by decide) ?_
  refine x_icmp_ge dX4_lots_2 (fun c2 => ?_) (fun c2 => ?_)
  · refine x_iload_n 1 dX4_lots_12 rfl ?_
    refine x_bipush (v := 20) dX4_lots_13 (by decide) ?_
    refine x_icmp_le dX4_lots_15 (fun c15 => ?_) (fun c15 => ?_)
    · obtain ⟨k, hk1, hk2, rfl⟩ := f_in_ab (a := 1) (b := 20) (by decide) (by decide) (Int32.not_lt.mpr c2) (Int32.not_lt.mpr c15)
      have k1 : ¬ nI k < 1 := Int32.not_lt.mpr c2
      have k2 : ¬ 20 < nI k := Int32.not_lt.mpr c15
      refine x_iload_n 3 dX4_lots_25 rfl ?_
      refine x_iconst (v := 0) dX4_lots_26 (by decide) ?_
      refine x_iconst (v := 1) dX4_lots_27 (by decide) ?_
      refine clX4_40 (qX4_isIn what 0 1) (by decide) rfl dX4_lots_28 (fun r28 τ28 h28 => ?_)
      obtain ⟨rfl, rfl⟩ := h28
      refine x_if_ne dX4_lots_31 (fun c31 => ?_) (fun c31 => ?_)
      · replace c31 := zb_1 c31
        have hwt := c31
        by_cases hw0 : what = 0
        · refine x_aload_n 0 dX4_lots_41 rfl ?_
          refine x_iload_n 2 dX4_lots_42 rfl ?_
          refine pfX4_202 dX4_lots_43 ?_
          refine x_mem (τ := mx_row (mx_up σ 35 12 seed) 37 (σ 37)) (by rw [show σ 37 = mx_up σ 35 12 seed 37 from (mx_up_o (by decide)).symm]; exact (mx_row_self _ _).symm) ?_
          refine x_iconst (v := 0) dX4_lots_46 (by decide) ?_
          refine x_istore (lv' := [(4, .int 0), (0, mx_rf E 35), (1, .int (nI k)), (2, .int seed), (3, .int what)]) dX4_lots_47 rfl (by decide) rfl ?_
          refine x_iconst (v := 0) dX4_lots_49 (by decide) ?_
          refine x_istore (lv' := [(5, .int 0), (4, .int 0), (0, mx_rf E 35), (1, .int (nI k)), (2, .int seed), (3, .int what)]) dX4_lots_50 rfl (by decide) rfl ?_
          have key52 : ∀ y, y ≤ k → ∀ q : Row, MX E 6 RX4 cX4_lots 7 (some .int) 52 [(5, .int (nI y)), (4, .int (f_lk n r seed y)), (0, mx_rf E 35), (1, .int (nI k)), (2, .int seed), (3, .int what)] [] (mx_row (mx_up σ 35 12 (f_ys n seed y)) 37 q) (mx_i (fun v τ => (p_lots n r (nI k) seed what).1 = v ∧ Qm (p_lots n r (nI k) seed what).2 σ τ)) := by
            refine mx_ind k (fun y hi52 ih52 => ?_)
            intro q
            refine x_iload 0 dX4_lots_52 rfl ?_
            refine x_iload_n 3 dX4_lots_54 rfl ?_
            refine x_icmp_ge dX4_lots_55 (fun c55 => ?_) (fun c55 => ?_)
            · have hge := nI_le_of (by omega) (by omega) c55
              have hyk : k = y := by omega
              refine x_iload 1 dX4_lots_161 rfl ?_
              exact x_iret dX4_lots_163 (by rw [show p_lots n r (nI k) seed what = (f_lk n r seed y, 0) from by unfold p_lots; rw [if_neg k1, if_neg k2, if_pos hwt, if_pos hw0, nI_clamp (show k < 2 ^ 31 by omega), hyk]]; exact ⟨rfl, Qm.rf.sdrow⟩)
            · have hlt := nI_lt_of (by omega) (by omega) c55
              refine x_aload_n 2 dX4_lots_58 rfl ?_
              refine gfX4_9 dX4_lots_59 ?_
              refine x_aload_n 2 dX4_lots_62 rfl ?_
              refine gfX4_13 dX4_lots_63 ?_
              refine clX4_121 (qX4_copies (by decide) (by decide) (by decide) (by decide) (by decide) ((mx_row_o (by decide)).trans ((mx_up_o (by decide)).trans h36))) (by decide) rfl dX4_lots_66 (fun τ66 h66 => ?_)
              obtain rfl := h66
              refine x_mem (mx_row_row _ _ _ _) ?_
              refine x_iconst (v := 0) dX4_lots_69 (by decide) ?_
              refine x_istore (lv' := [(6, .int 0), (5, .int (nI y)), (4, .int (f_lk n r seed y)), (0, mx_rf E 35), (1, .int (nI k)), (2, .int seed), (3, .int what)]) dX4_lots_70 rfl (by decide) rfl ?_
              have key72 : ∀ i, i ≤ n → MX E 6 RX4 cX4_lots 7 (some .int) 72 [(6, .int (nI i)), (5, .int (nI y)), (4, .int (f_lk n r seed y)), (0, mx_rf E 35), (1, .int (nI k)), (2, .int seed), (3, .int what)] [] (mx_row (mx_up σ 35 12 (f_sd (f_ys n seed y) i)) 37 (f_dpR r (f_ys n seed y) i)) (mx_i (fun v τ => (p_lots n r (nI k) seed what).1 = v ∧ Qm (p_lots n r (nI k) seed what).2 σ τ)) := by
                refine mx_ind n (fun i hi72 ih72 => ?_)
                refine x_iload 0 dX4_lots_72 rfl ?_
                refine x_aload_n 3 dX4_lots_74 rfl ?_
                refine gfX4_9 dX4_lots_75 ?_
                refine x_iconst (v := 0) dX4_lots_78 (by decide) ?_
                refine x_ialdS (j := 0) (by decide) (by decide) (by decide) dX4_lots_79 ?_
                refine x_top (show (mx_row (mx_up σ 35 12 (f_sd (f_ys n seed y) i)) 37 (f_dpR r (f_ys n seed y) i)) 36 0 = nI n from ((congrFun ((mx_row_o (by decide)).trans ((mx_up_o (by decide)).trans h36)) 0).trans hw.2.1)) ?_
                refine x_icmp_ge dX4_lots_80 (fun c80 => ?_) (fun c80 => ?_)
                · have hge2 := nI_le_of (by omega) (by omega) c80
                  have hin : i = n := by omega
                  refine x_mem (τ := mx_row (mx_up σ 35 12 (f_ys n seed (y + 1))) 37 (f_dpR r (f_ys n seed y) n)) (by rw [hin]; rfl) ?_
                  refine x_aload_n 3 dX4_lots_118 rfl ?_
                  refine gfX4_13 dX4_lots_119 ?_
                  refine x_bipush (v := 12) dX4_lots_122 (by decide) ?_
                  refine clX4_115 (gX4_weeksOn (by decide) (by decide) mx_row_s n (wf_dpR hw n (Nat.le_refl n)) 12 (by omega)) (by decide) rfl dX4_lots_124 (fun τ124 h124 => ?_)
                  obtain rfl := h124
                  refine x_mem (mx_row_row _ _ _ _) ?_
                  refine x_iload 2 dX4_lots_127 rfl ?_
                  refine x_iload_n 6 dX4_lots_129 rfl ?_
                  refine x_if_ne dX4_lots_130 (fun c130 => ?_) (fun c130 => ?_)
                  · exact absurd hw0 c130
                  · refine x_aload_n 3 dX4_lots_133 rfl ?_
                    refine gfX4_13 dX4_lots_134 ?_
                    refine x_iconst (v := 4) dX4_lots_137 (by decide) ?_
                    refine x_ialdS (j := 4) (by decide) (by decide) (by decide) dX4_lots_138 ?_
                    refine x_top (show (mx_row (mx_up σ 35 12 (f_ys n seed (y + 1))) 37 (f_weeks n (f_dpR r (f_ys n seed y) n) 12)) 37 4 = (f_weeks n (f_dpR r (f_ys n seed y) n) 12) 4 from (congrFun mx_row_s _)) ?_
                    refine clX4_138 (qX4_bits ((f_weeks n (f_dpR r (f_ys n seed y) n) 12) 4)) (by decide) rfl dX4_lots_139 (fun r139 τ139 h139 => ?_)
                    obtain ⟨rfl, rfl⟩ := h139
                    refine x_goto dX4_lots_142 ?_
                    refine x_iadd dX4_lots_152 ?_
                    refine x_top (show (f_lk n r seed y) + (f_bits ((f_weeks n (f_dpR r (f_ys n seed y) n) 12) 4)) = f_lk n r seed (y + 1) from rfl) ?_
                    refine x_istore (lv' := [(4, .int (f_lk n r seed (y + 1))), (6, .int (nI i)), (5, .int (nI y)), (0, mx_rf E 35), (1, .int (nI k)), (2, .int seed), (3, .int what)]) dX4_lots_153 rfl (by decide) rfl ?_
                    refine x_iinc (v := nI (y + 1)) (lv' := [(5, .int (nI (y + 1))), (4, .int (f_lk n r seed (y + 1))), (6, .int (nI i)), (0, mx_rf E 35), (1, .int (nI k)), (2, .int seed), (3, .int what)]) 2 dX4_lots_155 rfl (nI_1 _) (by decide) rfl ?_
                    refine x_goto dX4_lots_158 ?_
                    refine x_lvs [0, 1, 3, 4, 5, 6] rfl ?_
                    exact ih52 (y + 1) (by omega) (by omega) _
                · have hlt2 := nI_lt_of (by omega) (by omega) c80
                  refine x_aload_n 3 dX4_lots_83 rfl ?_
                  refine gfX4_13 dX4_lots_84 ?_
                  refine x_iload 0 dX4_lots_87 rfl ?_
                  refine x_iconst (v := 3) dX4_lots_89 (by decide) ?_
                  refine clX4_44 (qX4_of i 3) (by decide) rfl dX4_lots_90 (fun r90 τ90 h90 => ?_)
                  obtain ⟨rfl, rfl⟩ := h90
                  refine x_aload_n 3 dX4_lots_93 rfl ?_
                  refine x_bipush (v := 31) dX4_lots_94 (by decide) ?_
                  refine clX4_208 (qX4_drawn) (by decide) rfl dX4_lots_96 (fun r96 τ96 h96 => ?_)
                  obtain ⟨rfl, rfl⟩ := h96
                  rw [show (mx_row (mx_up σ 35 12 (f_sd (f_ys n seed y) i)) 37 (f_dpR r (f_ys n seed y) i)) 35 12 = (f_sd (f_ys n seed y) i) from (congrFun (mx_row_o (by decide)) 12).trans ((congrFun mx_up_s _).trans upd_s)]
                  refine x_mem (τ := mx_row (mx_up σ 35 12 (f_sd (f_ys n seed y) (i + 1))) 37 (f_dpR r (f_ys n seed y) i)) mx_sd ?_
                  refine x_iastR (j := 6 + 6 * i + 3) (by decide) (by decide) (by omega) dX4_lots_99 ?_
                  refine x_aload_n 3 dX4_lots_100 rfl ?_
                  refine gfX4_13 dX4_lots_101 ?_
                  refine x_iload 0 dX4_lots_104 rfl ?_
                  refine x_iconst (v := 5) dX4_lots_106 (by decide) ?_
                  refine clX4_44 (qX4_of i 5) (by decide) rfl dX4_lots_107 (fun r107 τ107 h107 => ?_)
                  obtain ⟨rfl, rfl⟩ := h107
                  refine x_iconst (v := 0) dX4_lots_110 (by decide) ?_
                  refine x_iastR (j := 6 + 6 * i + 5) (by decide) (by decide) (by omega) dX4_lots_111 ?_
                  refine x_iinc (v := nI (i + 1)) (lv' := [(6, .int (nI (i + 1))), (5, .int (nI y)), (4, .int (f_lk n r seed y)), (0, mx_rf E 35), (1, .int (nI k)), (2, .int seed), (3, .int what)]) 0 dX4_lots_112 rfl (nI_1 _) (by decide) rfl ?_
                  refine x_goto dX4_lots_115 ?_
                  exact ih72 (i + 1) (by omega) (by omega)
              exact key72 0 (Nat.zero_le _)
          exact key52 0 (Nat.zero_le _) _
        · refine x_aload_n 0 dX4_lots_41 rfl ?_
          refine x_iload_n 2 dX4_lots_42 rfl ?_
          refine pfX4_202 dX4_lots_43 ?_
          refine x_mem (τ := mx_row (mx_up σ 35 12 seed) 37 (σ 37)) (by rw [show σ 37 = mx_up σ 35 12 seed 37 from (mx_up_o (by decide)).symm]; exact (mx_row_self _ _).symm) ?_
          refine x_iconst (v := 0) dX4_lots_46 (by decide) ?_
          refine x_istore (lv' := [(4, .int 0), (0, mx_rf E 35), (1, .int (nI k)), (2, .int seed), (3, .int what)]) dX4_lots_47 rfl (by decide) rfl ?_
          refine x_iconst (v := 0) dX4_lots_49 (by decide) ?_
          refine x_istore (lv' := [(5, .int 0), (4, .int 0), (0, mx_rf E 35), (1, .int (nI k)), (2, .int seed), (3, .int what)]) dX4_lots_50 rfl (by decide) rfl ?_
          have key52 : ∀ y, y ≤ k → ∀ q : Row, MX E 6 RX4 cX4_lots 7 (some .int) 52 [(5, .int (nI y)), (4, .int (f_lp n r seed y)), (0, mx_rf E 35), (1, .int (nI k)), (2, .int seed), (3, .int what)] [] (mx_row (mx_up σ 35 12 (f_ys n seed y)) 37 q) (mx_i (fun v τ => (p_lots n r (nI k) seed what).1 = v ∧ Qm (p_lots n r (nI k) seed what).2 σ τ)) := by
            refine mx_ind k (fun y hi52 ih52 => ?_)
            intro q
            refine x_iload 0 dX4_lots_52 rfl ?_
            refine x_iload_n 3 dX4_lots_54 rfl ?_
            refine x_icmp_ge dX4_lots_55 (fun c55 => ?_) (fun c55 => ?_)
            · have hge := nI_le_of (by omega) (by omega) c55
              have hyk : k = y := by omega
              refine x_iload 1 dX4_lots_161 rfl ?_
              exact x_iret dX4_lots_163 (by rw [show p_lots n r (nI k) seed what = (f_lp n r seed y, 0) from by unfold p_lots; rw [if_neg k1, if_neg k2, if_pos hwt, if_neg hw0, nI_clamp (show k < 2 ^ 31 by omega), hyk]]; exact ⟨rfl, Qm.rf.sdrow⟩)
            · have hlt := nI_lt_of (by omega) (by omega) c55
              refine x_aload_n 2 dX4_lots_58 rfl ?_
              refine gfX4_9 dX4_lots_59 ?_
              refine x_aload_n 2 dX4_lots_62 rfl ?_
              refine gfX4_13 dX4_lots_63 ?_
              refine clX4_121 (qX4_copies (by decide) (by decide) (by decide) (by decide) (by decide) ((mx_row_o (by decide)).trans ((mx_up_o (by decide)).trans h36))) (by decide) rfl dX4_lots_66 (fun τ66 h66 => ?_)
              obtain rfl := h66
              refine x_mem (mx_row_row _ _ _ _) ?_
              refine x_iconst (v := 0) dX4_lots_69 (by decide) ?_
              refine x_istore (lv' := [(6, .int 0), (5, .int (nI y)), (4, .int (f_lp n r seed y)), (0, mx_rf E 35), (1, .int (nI k)), (2, .int seed), (3, .int what)]) dX4_lots_70 rfl (by decide) rfl ?_
              have key72 : ∀ i, i ≤ n → MX E 6 RX4 cX4_lots 7 (some .int) 72 [(6, .int (nI i)), (5, .int (nI y)), (4, .int (f_lp n r seed y)), (0, mx_rf E 35), (1, .int (nI k)), (2, .int seed), (3, .int what)] [] (mx_row (mx_up σ 35 12 (f_sd (f_ys n seed y) i)) 37 (f_dpR r (f_ys n seed y) i)) (mx_i (fun v τ => (p_lots n r (nI k) seed what).1 = v ∧ Qm (p_lots n r (nI k) seed what).2 σ τ)) := by
                refine mx_ind n (fun i hi72 ih72 => ?_)
                refine x_iload 0 dX4_lots_72 rfl ?_
                refine x_aload_n 3 dX4_lots_74 rfl ?_
                refine gfX4_9 dX4_lots_75 ?_
                refine x_iconst (v := 0) dX4_lots_78 (by decide) ?_
                refine x_ialdS (j := 0) (by decide) (by decide) (by decide) dX4_lots_79 ?_
                refine x_top (show (mx_row (mx_up σ 35 12 (f_sd (f_ys n seed y) i)) 37 (f_dpR r (f_ys n seed y) i)) 36 0 = nI n from ((congrFun ((mx_row_o (by decide)).trans ((mx_up_o (by decide)).trans h36)) 0).trans hw.2.1)) ?_
                refine x_icmp_ge dX4_lots_80 (fun c80 => ?_) (fun c80 => ?_)
                · have hge2 := nI_le_of (by omega) (by omega) c80
                  have hin : i = n := by omega
                  refine x_mem (τ := mx_row (mx_up σ 35 12 (f_ys n seed (y + 1))) 37 (f_dpR r (f_ys n seed y) n)) (by rw [hin]; rfl) ?_
                  refine x_aload_n 3 dX4_lots_118 rfl ?_
                  refine gfX4_13 dX4_lots_119 ?_
                  refine x_bipush (v := 12) dX4_lots_122 (by decide) ?_
                  refine clX4_115 (gX4_weeksOn (by decide) (by decide) mx_row_s n (wf_dpR hw n (Nat.le_refl n)) 12 (by omega)) (by decide) rfl dX4_lots_124 (fun τ124 h124 => ?_)
                  obtain rfl := h124
                  refine x_mem (mx_row_row _ _ _ _) ?_
                  refine x_iload 2 dX4_lots_127 rfl ?_
                  refine x_iload_n 6 dX4_lots_129 rfl ?_
                  refine x_if_ne dX4_lots_130 (fun c130 => ?_) (fun c130 => ?_)
                  · refine x_aload_n 3 dX4_lots_145 rfl ?_
                    refine gfX4_13 dX4_lots_146 ?_
                    refine clX4_196 (gX4_allPeople (by decide) (by decide) mx_row_s n hn6 (wf_weeks (wf_dpR hw n (Nat.le_refl n)) 12).2.1) (by decide) rfl dX4_lots_149 (fun r149 τ149 h149 => ?_)
                    obtain ⟨rfl, rfl⟩ := h149
                    refine x_iadd dX4_lots_152 ?_
                    refine x_top (show (f_lp n r seed y) + (f_pplU (f_weeks n (f_dpR r (f_ys n seed y) n) 12) n) = f_lp n r seed (y + 1) from rfl) ?_
                    refine x_istore (lv' := [(4, .int (f_lp n r seed (y + 1))), (6, .int (nI i)), (5, .int (nI y)), (0, mx_rf E 35), (1, .int (nI k)), (2, .int seed), (3, .int what)]) dX4_lots_153 rfl (by decide) rfl ?_
                    refine x_iinc (v := nI (y + 1)) (lv' := [(5, .int (nI (y + 1))), (4, .int (f_lp n r seed (y + 1))), (6, .int (nI i)), (0, mx_rf E 35), (1, .int (nI k)), (2, .int seed), (3, .int what)]) 2 dX4_lots_155 rfl (nI_1 _) (by decide) rfl ?_
                    refine x_goto dX4_lots_158 ?_
                    refine x_lvs [0, 1, 3, 4, 5, 6] rfl ?_
                    exact ih52 (y + 1) (by omega) (by omega) _
                  · exact absurd c130 hw0
                · have hlt2 := nI_lt_of (by omega) (by omega) c80
                  refine x_aload_n 3 dX4_lots_83 rfl ?_
                  refine gfX4_13 dX4_lots_84 ?_
                  refine x_iload 0 dX4_lots_87 rfl ?_
                  refine x_iconst (v := 3) dX4_lots_89 (by decide) ?_
                  refine clX4_44 (qX4_of i 3) (by decide) rfl dX4_lots_90 (fun r90 τ90 h90 => ?_)
                  obtain ⟨rfl, rfl⟩ := h90
                  refine x_aload_n 3 dX4_lots_93 rfl ?_
                  refine x_bipush (v := 31) dX4_lots_94 (by decide) ?_
                  refine clX4_208 (qX4_drawn) (by decide) rfl dX4_lots_96 (fun r96 τ96 h96 => ?_)
                  obtain ⟨rfl, rfl⟩ := h96
                  rw [show (mx_row (mx_up σ 35 12 (f_sd (f_ys n seed y) i)) 37 (f_dpR r (f_ys n seed y) i)) 35 12 = (f_sd (f_ys n seed y) i) from (congrFun (mx_row_o (by decide)) 12).trans ((congrFun mx_up_s _).trans upd_s)]
                  refine x_mem (τ := mx_row (mx_up σ 35 12 (f_sd (f_ys n seed y) (i + 1))) 37 (f_dpR r (f_ys n seed y) i)) mx_sd ?_
                  refine x_iastR (j := 6 + 6 * i + 3) (by decide) (by decide) (by omega) dX4_lots_99 ?_
                  refine x_aload_n 3 dX4_lots_100 rfl ?_
                  refine gfX4_13 dX4_lots_101 ?_
                  refine x_iload 0 dX4_lots_104 rfl ?_
                  refine x_iconst (v := 5) dX4_lots_106 (by decide) ?_
                  refine clX4_44 (qX4_of i 5) (by decide) rfl dX4_lots_107 (fun r107 τ107 h107 => ?_)
                  obtain ⟨rfl, rfl⟩ := h107
                  refine x_iconst (v := 0) dX4_lots_110 (by decide) ?_
                  refine x_iastR (j := 6 + 6 * i + 5) (by decide) (by decide) (by omega) dX4_lots_111 ?_
                  refine x_iinc (v := nI (i + 1)) (lv' := [(6, .int (nI (i + 1))), (5, .int (nI y)), (4, .int (f_lp n r seed y)), (0, mx_rf E 35), (1, .int (nI k)), (2, .int seed), (3, .int what)]) 0 dX4_lots_112 rfl (nI_1 _) (by decide) rfl ?_
                  refine x_goto dX4_lots_115 ?_
                  exact ih72 (i + 1) (by omega) (by omega)
              exact key72 0 (Nat.zero_le _)
          exact key52 0 (Nat.zero_le _) _
      · replace c31 := zb_0 c31
        refine x_aload_n 0 dX4_lots_34 rfl ?_
        refine x_bipush (v := -2) dX4_lots_35 (by decide) ?_
        refine clX4_36 (qX4_no 2 (by decide) (by decide)) (by decide) rfl dX4_lots_37 (fun r37 τ37 h37 => ?_)
        obtain ⟨rfl, rfl⟩ := h37
        exact x_iret dX4_lots_40 (by rw [show p_lots n r (nI k) seed what = ((-2 : Int32), 2) from by simp [zbT, zbF, f_in002, f_in102, f_in001, f_in101, p_lots, c2, (Int32.not_lt.mpr c2), c15, (Int32.not_lt.mpr c15), c31]]; exact ⟨rfl, Qm.no⟩)
    · refine x_aload_n 0 dX4_lots_18 rfl ?_
      refine x_bipush (v := -6) dX4_lots_19 (by decide) ?_
      refine clX4_36 (qX4_no 6 (by decide) (by decide)) (by decide) rfl dX4_lots_21 (fun r21 τ21 h21 => ?_)
      obtain ⟨rfl, rfl⟩ := h21
      exact x_iret dX4_lots_24 (by rw [show p_lots n r years seed what = ((-6 : Int32), 6) from by simp [zbT, zbF, f_in002, f_in102, f_in001, f_in101, p_lots, c2, (Int32.not_lt.mpr c2), c15, (Int32.not_le.mp c15)]]; exact ⟨rfl, Qm.no⟩)
  · refine x_aload_n 0 dX4_lots_5 rfl ?_
    refine x_bipush (v := -4) dX4_lots_6 (by decide) ?_
    refine clX4_36 (qX4_no 4 (by decide) (by decide)) (by decide) rfl dX4_lots_8 (fun r8 τ8 h8 => ?_)
    obtain ⟨rfl, rfl⟩ := h8
    exact x_iret dX4_lots_11 (by rw [show p_lots n r years seed what = ((-4 : Int32), 4) from by simp [zbT, zbF, f_in002, f_in102, f_in001, f_in101, p_lots, c2, (Int32.not_le.mp c2)]]; exact ⟨rfl, Qm.no⟩)

set_option maxHeartbeats 4000000 in
theorem qX4_count {E : mx_E} {σ : Mem} {n : Nat} {r : Row} (h36 : σ 36 = r) (hw : wf n r) (m lm : Nat) (hz : σ 35 9 = nI m) (hz2 : σ 35 8 = nI lm) (f : Row) (hf : ∀ j, 1 ≤ j → j < 7 → σ 42 j = f j) (what : Int32) : MX4_count E 2 [mx_rf E 35, .int what] σ (mx_ie (p_count n r m lm f what) σ) := by
  refine MM.of (lv := [(0, mx_rf E 35), (1, .int what)]) kpX4 rfl (Nat.le_of_ble_eq_true rfl) rfl ?_
  have hn6 := hw.1
  refine x_iload_n 1 dX4_count_0 rfl ?_
  refine x_bipush (v := 11) dX4_count_1 (by decide) ?_
  refine x_bipush (v := 16) dX4_count_3 (by decide) ?_
  refine clX4_40 (qX4_isIn what 11 16) (by decide) rfl dX4_count_5 (fun r5 τ5 h5 => ?_)
  obtain ⟨rfl, rfl⟩ := h5
  refine x_if_eq dX4_count_8 (fun c8 => ?_) (fun c8 => ?_)
  · replace c8 := zb_0 c8
    refine x_iload_n 1 dX4_count_21 rfl ?_
    by_cases c22_0 : what = 0
    · refine x_tableIn (off := 46) (tgt := 68) dX4_count_22 (by rw [c22_0]; decide) (by rw [c22_0]; decide) (by rw [c22_0]; decide) (by decide) ?_
      subst c22_0
      refine x_aload_n 0 dX4_count_68 rfl ?_
      refine gfX4_9 dX4_count_69 ?_
      refine x_iload_n 1 dX4_count_72 rfl ?_
      refine x_ialdS (j := 0) (by decide) (by decide) (by decide) dX4_count_73 ?_
      refine x_top (show σ 36 0 = nI n from ((congrFun h36 0).trans hw.2.1)) ?_
      exact x_iret dX4_count_74 ⟨by simp [p_count, f_ref, c8, ], rfl⟩
    by_cases c22_1 : what = 1
    · refine x_tableIn (off := 46) (tgt := 68) dX4_count_22 (by rw [c22_1]; decide) (by rw [c22_1]; decide) (by rw [c22_1]; decide) (by decide) ?_
      subst c22_1
      refine x_aload_n 0 dX4_count_68 rfl ?_
      refine gfX4_9 dX4_count_69 ?_
      refine x_iload_n 1 dX4_count_72 rfl ?_
      refine x_ialdS (j := 1) (by decide) (by decide) (by decide) dX4_count_73 ?_
      refine x_top (show σ 36 1 = r 1 from (congrFun h36 _)) ?_
      exact x_iret dX4_count_74 ⟨by simp [p_count, f_ref, c8, ], rfl⟩
    by_cases c22_2 : what = 2
    · refine x_tableIn (off := 53) (tgt := 75) dX4_count_22 (by rw [c22_2]; decide) (by rw [c22_2]; decide) (by rw [c22_2]; decide) (by decide) ?_
      refine x_aload_n 0 dX4_count_75 rfl ?_
      refine gfX4_9 dX4_count_76 ?_
      refine x_iconst (v := 4) dX4_count_79 (by decide) ?_
      refine x_ialdS (j := 4) (by decide) (by decide) (by decide) dX4_count_80 ?_
      refine x_top (show σ 36 4 = r 4 from (congrFun h36 _)) ?_
      exact x_iret dX4_count_81 ⟨by simp [p_count, f_ref, c8, c22_2], rfl⟩
    by_cases c22_3 : what = 3
    · refine x_tableIn (off := 60) (tgt := 82) dX4_count_22 (by rw [c22_3]; decide) (by rw [c22_3]; decide) (by rw [c22_3]; decide) (by decide) ?_
      refine x_aload_n 0 dX4_count_82 rfl ?_
      refine gfX4_9 dX4_count_83 ?_
      refine clX4_196 (gX4_allPeople (by decide) (by decide) h36 n hn6 hw.2.1) (by decide) rfl dX4_count_86 (fun r86 τ86 h86 => ?_)
      obtain ⟨rfl, rfl⟩ := h86
      exact x_iret dX4_count_89 ⟨by simp [p_count, f_ref, c8, c22_3], rfl⟩
    by_cases c22_4 : what = 4
    · refine x_tableIn (off := 68) (tgt := 90) dX4_count_22 (by rw [c22_4]; decide) (by rw [c22_4]; decide) (by rw [c22_4]; decide) (by decide) ?_
      refine x_aload_n 0 dX4_count_90 rfl ?_
      refine gfX4_9 dX4_count_91 ?_
      refine x_iconst (v := 3) dX4_count_94 (by decide) ?_
      refine x_ialdS (j := 3) (by decide) (by decide) (by decide) dX4_count_95 ?_
      refine x_top (show σ 36 3 = r 3 from (congrFun h36 _)) ?_
      exact x_iret dX4_count_96 ⟨by simp [p_count, f_ref, c8, c22_4], rfl⟩
    by_cases c22_5 : what = 5
    · refine x_tableIn (off := 75) (tgt := 97) dX4_count_22 (by rw [c22_5]; decide) (by rw [c22_5]; decide) (by rw [c22_5]; decide) (by decide) ?_
      refine x_aload_n 0 dX4_count_97 rfl ?_
      refine gfX4_9 dX4_count_98 ?_
      refine x_iconst (v := 2) dX4_count_101 (by decide) ?_
      refine x_ialdS (j := 2) (by decide) (by decide) (by decide) dX4_count_102 ?_
      refine x_top (show σ 36 2 = r 2 from (congrFun h36 _)) ?_
      exact x_iret dX4_count_103 ⟨by simp [p_count, f_ref, c8, c22_5], rfl⟩
    by_cases c22_6 : what = 6
    · refine x_tableIn (off := 82) (tgt := 104) dX4_count_22 (by rw [c22_6]; decide) (by rw [c22_6]; decide) (by rw [c22_6]; decide) (by decide) ?_
      refine x_aload_n 0 dX4_count_104 rfl ?_
      refine gfX4_199 dX4_count_105 ?_
      refine x_top (show σ 35 9 = nI m from hz) ?_
      exact x_iret dX4_count_108 ⟨by simp [p_count, f_ref, c8, c22_6], rfl⟩
    by_cases c22_7 : what = 7
    · refine x_tableIn (off := 87) (tgt := 109) dX4_count_22 (by rw [c22_7]; decide) (by rw [c22_7]; decide) (by rw [c22_7]; decide) (by decide) ?_
      refine x_aload_n 0 dX4_count_109 rfl ?_
      refine gfX4_87 dX4_count_110 ?_
      refine x_top (show σ 35 8 = nI lm from hz2) ?_
      exact x_iret dX4_count_113 ⟨by simp [p_count, f_ref, c8, c22_7], rfl⟩
    have hsw22 : (what).toInt < 0 ∨ 7 < (what).toInt := by
      have q_c22_0 := lv_neT c22_0 (show (0 : Int32).toInt = 0 from rfl)
      have q_c22_1 := lv_neT c22_1 (show (1 : Int32).toInt = 1 from rfl)
      have q_c22_2 := lv_neT c22_2 (show (2 : Int32).toInt = 2 from rfl)
      have q_c22_3 := lv_neT c22_3 (show (3 : Int32).toInt = 3 from rfl)
      have q_c22_4 := lv_neT c22_4 (show (4 : Int32).toInt = 4 from rfl)
      have q_c22_5 := lv_neT c22_5 (show (5 : Int32).toInt = 5 from rfl)
      have q_c22_6 := lv_neT c22_6 (show (6 : Int32).toInt = 6 from rfl)
      have q_c22_7 := lv_neT c22_7 (show (7 : Int32).toInt = 7 from rfl)
      omega
    refine x_tableOut (tgt := 114) dX4_count_22 hsw22 (by decide) ?_
    refine x_bipush (v := -9) dX4_count_114 (by decide) ?_
    exact x_iret dX4_count_116 ⟨by simp [p_count, f_ref, c8, c22_0, c22_1, c22_2, c22_3, c22_4, c22_5, c22_6, c22_7], rfl⟩
  · replace c8 := zb_1 c8
    obtain ⟨j, hj1, hj2, rfl⟩ := f_in_abT c8
    refine x_aload_n 0 dX4_count_11 rfl ?_
    refine gfX4_28 dX4_count_12 ?_
    refine x_iload_n 1 dX4_count_15 rfl ?_
    refine x_bipush (v := 10) dX4_count_16 (by decide) ?_
    refine x_isub dX4_count_18 ?_
    refine x_top (show (nI j) - 10 = nI (j - 10) from (pk_sub (show 10 ≤ j by omega))) ?_
    refine x_iald (j := j - 10) (by decide) (by decide) (by decide) (show j - 10 < 7 by omega) dX4_count_19 ?_
    refine x_top (show σ 42 (j - 10) = f (j - 10) from (hf _ (by omega) (by omega))) ?_
    exact x_iret dX4_count_20 ⟨p_count_j hj1 hj2, rfl⟩
