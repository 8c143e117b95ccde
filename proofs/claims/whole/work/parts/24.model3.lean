set_option maxHeartbeats 4000000 in
theorem qX4_move {E : mx_E} {σ : Mem} {n : Nat} {r : Row} (h36 : σ 36 = r) (hw : wf n r) (k : Int32) : MX4_move E 8 [mx_rf E 35, .int k] σ (mx_i (fun v τ => (p_move n r k).1 = v ∧ Qm (p_move n r k).2 σ τ)) := by
  refine MM.of (lv := [(0, mx_rf E 35), (1, .int k)]) kpX4 rfl (Nat.le_of_ble_eq_true rfl) rfl ?_
  have hn6 := hw.1
  refine x_iload_n 1 dX4_move_0 rfl ?_
  refine x_iconst (v := 0) dX4_move_1 (by decide) ?_
  refine x_bipush (v := 30) dX4_move_2 (by decide) ?_
  refine clX4_128 (qX4_wrongBy k 0 30) (by decide) rfl dX4_move_4 (fun r4 τ4 h4 => ?_)
  obtain ⟨rfl, rfl⟩ := h4
  rcases f_out_c (v := k) (lo := 0) (hi := 30) (l := 0) (h := 30) (by decide) (by decide) rfl rfl with ⟨k1, e⟩ | ⟨k1, k2, e⟩ | ⟨k, hk1, hk2, rfl, k1, k2, e⟩
  · refine x_top (show f_out k 0 30 = -4 from e) ?_
    refine x_istore_n (lv' := [(2, .int (-4)), (0, mx_rf E 35), (1, .int k)]) dX4_move_7 rfl (by decide) rfl ?_
    refine x_iload_n 0 dX4_move_8 rfl ?_
    refine x_if_eq dX4_move_9 (fun c => absurd c (by decide)) (fun _ => ?_)
    refine x_aload_n 1 dX4_move_12 rfl ?_
    refine x_iload_n 0 dX4_move_13 rfl ?_
    refine clX4_36 (qX4_no 4 (by decide) (by decide)) (by decide) rfl dX4_move_14 (fun r14 τ14 h14 => ?_)
    obtain ⟨rfl, rfl⟩ := h14
    exact x_iret dX4_move_17 (by rw [show p_move n r k = ((-4 : Int32), 4) from by simp only [p_move, k1, reduceIte, Bool.false_eq_true, Bool.true_eq_false, Bool.true_and, Bool.false_and, Bool.and_true, Bool.and_false, decide_eq_true_eq, decide_true, decide_false, not_true_eq_false, not_false_eq_true, zbT, zbF]]; exact ⟨rfl, Qm.no⟩)
  · refine x_top (show f_out k 0 30 = -6 from e) ?_
    refine x_istore_n (lv' := [(2, .int (-6)), (0, mx_rf E 35), (1, .int k)]) dX4_move_7 rfl (by decide) rfl ?_
    refine x_iload_n 0 dX4_move_8 rfl ?_
    refine x_if_eq dX4_move_9 (fun c => absurd c (by decide)) (fun _ => ?_)
    refine x_aload_n 1 dX4_move_12 rfl ?_
    refine x_iload_n 0 dX4_move_13 rfl ?_
    refine clX4_36 (qX4_no 6 (by decide) (by decide)) (by decide) rfl dX4_move_14 (fun r14 τ14 h14 => ?_)
    obtain ⟨rfl, rfl⟩ := h14
    exact x_iret dX4_move_17 (by rw [show p_move n r k = ((-6 : Int32), 6) from by simp only [p_move, k1, k2, reduceIte, Bool.false_eq_true, Bool.true_eq_false, Bool.true_and, Bool.false_and, Bool.and_true, Bool.and_false, decide_eq_true_eq, decide_true, decide_false, not_true_eq_false, not_false_eq_true, zbT, zbF]]; exact ⟨rfl, Qm.no⟩)
  · refine x_top (show f_out (nI k) 0 30 = 0 from e) ?_
    refine x_istore_n (lv' := [(2, .int 0), (0, mx_rf E 35), (1, .int (nI k))]) dX4_move_7 rfl (by decide) rfl ?_
    refine x_iload_n 0 dX4_move_8 rfl ?_
    refine x_if_eq dX4_move_9 (fun _ => ?_) (fun c => absurd c (by decide))
    refine x_aload_n 1 dX4_move_18 rfl ?_
    refine x_iload_n 2 dX4_move_19 rfl ?_
    refine clX4_159 (qX4_keptThen h36 hw k (by omega)) (by decide) rfl dX4_move_20 (fun r20 τ20 h20 => ?_)
    obtain ⟨rfl, rfl⟩ := h20
    refine x_istore_n (lv' := [(3, .int (f_keptN n r k)), (2, .int 0), (0, mx_rf E 35), (1, .int (nI k))]) dX4_move_23 rfl (by decide) rfl ?_
    refine x_bipush (v := -9) dX4_move_24 (by decide) ?_
    refine x_istore (lv' := [(4, .int (-9)), (3, .int (f_keptN n r k)), (2, .int 0), (0, mx_rf E 35), (1, .int (nI k))]) dX4_move_26 rfl (by decide) rfl ?_
    refine x_iconst (v := 0) dX4_move_28 (by decide) ?_
    refine x_istore (lv' := [(5, .int 0), (4, .int (-9)), (3, .int (f_keptN n r k)), (2, .int 0), (0, mx_rf E 35), (1, .int (nI k))]) dX4_move_29 rfl (by decide) rfl ?_
    have key31 : ∀ a, a ≤ n → ∀ q : Row, MX E 8 RX4 cX4_move 8 (some .int) 31 [(5, .int (nI a)), (4, .int ((f_mvA n r k a).1)), (3, .int ((f_mvA n r k a).2)), (0, mx_rf E 35), (1, .int (nI k))] [] (mx_row σ 37 q) (mx_i (fun v τ => (p_move n r (nI k)).1 = v ∧ Qm (p_move n r (nI k)).2 σ τ)) := by
      refine mx_ind n (fun a hi31 ih31 => ?_)
      intro q
      refine x_iload 0 dX4_move_31 rfl ?_
      refine x_aload_n 3 dX4_move_33 rfl ?_
      refine gfX4_9 dX4_move_34 ?_
      refine x_iconst (v := 0) dX4_move_37 (by decide) ?_
      refine x_ialdS (j := 0) (by decide) (by decide) (by decide) dX4_move_38 ?_
      refine x_top (show (mx_row σ 37 q) 36 0 = nI n from ((congrFun ((mx_row_o (by decide)).trans h36) 0).trans hw.2.1)) ?_
      refine x_icmp_ge dX4_move_39 (fun c39 => ?_) (fun c39 => ?_)
      · have hge := nI_le_of (by omega) (by omega) c39
        have han : a = n := by omega
        refine x_iload 1 dX4_move_225 rfl ?_
        exact x_iret dX4_move_227 (by rw [show p_move n r (nI k) = ((f_mvA n r k n).1, 0) from by simp only [p_move, k1, k2, nI_clamp (show k < 2 ^ 31 by omega), reduceIte, Bool.false_eq_true, Bool.true_eq_false, Bool.true_and, Bool.false_and, Bool.and_true, Bool.and_false, decide_eq_true_eq, decide_true, decide_false, not_true_eq_false, not_false_eq_true, zbT, zbF]]; exact ⟨by rw [han], (Qm.rf.row (Or.inl rfl))⟩)
      · have ha := nI_lt_of (by omega) (by omega) c39
        refine x_iconst (v := 0) dX4_move_42 (by decide) ?_
        refine x_istore (lv' := [(6, .int 0), (5, .int (nI a)), (4, .int ((f_mvA n r k a).1)), (3, .int ((f_mvA n r k a).2)), (0, mx_rf E 35), (1, .int (nI k))]) dX4_move_43 rfl (by decide) rfl ?_
        have key45 : ∀ b, b ≤ n → ∀ q : Row, MX E 8 RX4 cX4_move 8 (some .int) 45 [(6, .int (nI b)), (5, .int (nI a)), (4, .int ((f_mvB n r k a (f_mvA n r k a) b).1)), (3, .int ((f_mvB n r k a (f_mvA n r k a) b).2)), (0, mx_rf E 35), (1, .int (nI k))] [] (mx_row σ 37 q) (mx_i (fun v τ => (p_move n r (nI k)).1 = v ∧ Qm (p_move n r (nI k)).2 σ τ)) := by
          refine mx_ind n (fun b hi45 ih45 => ?_)
          intro q
          refine x_iload 0 dX4_move_45 rfl ?_
          refine x_aload_n 4 dX4_move_47 rfl ?_
          refine gfX4_9 dX4_move_48 ?_
          refine x_iconst (v := 0) dX4_move_51 (by decide) ?_
          refine x_ialdS (j := 0) (by decide) (by decide) (by decide) dX4_move_52 ?_
          refine x_top (show (mx_row σ 37 q) 36 0 = nI n from ((congrFun ((mx_row_o (by decide)).trans h36) 0).trans hw.2.1)) ?_
          refine x_icmp_ge dX4_move_53 (fun c53 => ?_) (fun c53 => ?_)
          · have hgb := nI_le_of (by omega) (by omega) c53
            have hbn : n = b := by omega
            refine x_iinc (v := nI (a + 1)) (lv' := [(5, .int (nI (a + 1))), (6, .int (nI b)), (4, .int ((f_mvB n r k a (f_mvA n r k a) b).1)), (3, .int ((f_mvB n r k a (f_mvA n r k a) b).2)), (0, mx_rf E 35), (1, .int (nI k))]) 1 dX4_move_219 rfl (nI_1 _) (by decide) rfl ?_
            refine x_goto dX4_move_222 ?_
            refine x_lvs [0, 2, 3, 4, 5] rfl ?_
            exact flM_eq (P := fun x y => MX E _ _ _ _ _ _ [(5, .int (nI (a + 1))), (4, .int x), (3, .int y), (0, mx_rf E 35), (1, .int (nI k))] _ _ _) (show (f_mvB n r k a (f_mvA n r k a) n).1 = _ ∧ (f_mvB n r k a (f_mvA n r k a) n).2 = _ from by rw [hbn]; exact ⟨rfl, rfl⟩) (ih31 (a + 1) (by omega) (by omega) _)
          · have hb := nI_lt_of (by omega) (by omega) c53
            refine x_iload 1 dX4_move_56 rfl ?_
            refine x_iload 0 dX4_move_58 rfl ?_
            refine x_icmp_eq dX4_move_60 (fun c60 => ?_) (fun c60 => ?_)
            · refine x_iinc (v := nI (b + 1)) (lv' := [(6, .int (nI (b + 1))), (5, .int (nI a)), (4, .int ((f_mvB n r k a (f_mvA n r k a) b).1)), (3, .int ((f_mvB n r k a (f_mvA n r k a) b).2)), (0, mx_rf E 35), (1, .int (nI k))]) 0 dX4_move_213 rfl (nI_1 _) (by decide) rfl ?_
              refine x_goto dX4_move_216 ?_
              exact flM_eq (P := fun x y => MX E _ _ _ _ _ _ [(6, .int (nI (b + 1))), (5, .int (nI a)), (4, .int x), (3, .int y), (0, mx_rf E 35), (1, .int (nI k))] _ _ _) (f_mvB_F (fun q => q.1 ((nI_eq (by omega) (by omega)).mp c60))) (ih45 (b + 1) (by omega) (by omega) _)
            · have hab : a ≠ b := fun q => c60 (by rw [q])
              refine x_aload_n 4 dX4_move_63 rfl ?_
              refine gfX4_9 dX4_move_64 ?_
              refine x_iconst (v := 4) dX4_move_67 (by decide) ?_
              refine x_ialdS (j := 4) (by decide) (by decide) (by decide) dX4_move_68 ?_
              refine x_top (show (mx_row σ 37 q) 36 4 = r 4 from (congrFun ((mx_row_o (by decide)).trans h36) _)) ?_
              refine x_iload 1 dX4_move_69 rfl ?_
              refine clX4_48 (qX4_has (r 4) (nI a)) (by decide) rfl dX4_move_71 (fun r71 τ71 h71 => ?_)
              obtain ⟨rfl, rfl⟩ := h71
              refine x_if_eq dX4_move_74 (fun c74 => ?_) (fun c74 => ?_)
              · replace c74 := zb_0 c74
                refine x_iinc (v := nI (b + 1)) (lv' := [(6, .int (nI (b + 1))), (5, .int (nI a)), (4, .int ((f_mvB n r k a (f_mvA n r k a) b).1)), (3, .int ((f_mvB n r k a (f_mvA n r k a) b).2)), (0, mx_rf E 35), (1, .int (nI k))]) 0 dX4_move_213 rfl (nI_1 _) (by decide) rfl ?_
                refine x_goto dX4_move_216 ?_
                exact flM_eq (P := fun x y => MX E _ _ _ _ _ _ [(6, .int (nI (b + 1))), (5, .int (nI a)), (4, .int x), (3, .int y), (0, mx_rf E 35), (1, .int (nI k))] _ _ _) (f_mvB_F (fun q => by rw [show f_kept r a = false from c74] at q; exact absurd q.2.1 (by decide))) (ih45 (b + 1) (by omega) (by omega) _)
              · replace c74 := zb_1 c74
                refine x_aload_n 4 dX4_move_77 rfl ?_
                refine gfX4_9 dX4_move_78 ?_
                refine x_iconst (v := 4) dX4_move_81 (by decide) ?_
                refine x_ialdS (j := 4) (by decide) (by decide) (by decide) dX4_move_82 ?_
                refine x_top (show (mx_row σ 37 q) 36 4 = r 4 from (congrFun ((mx_row_o (by decide)).trans h36) _)) ?_
                refine x_iload 0 dX4_move_83 rfl ?_
                refine clX4_48 (qX4_has (r 4) (nI b)) (by decide) rfl dX4_move_85 (fun r85 τ85 h85 => ?_)
                obtain ⟨rfl, rfl⟩ := h85
                refine x_if_ne dX4_move_88 (fun c88 => ?_) (fun c88 => ?_)
                · replace c88 := zb_1 c88
                  refine x_aload_n 4 dX4_move_94 rfl ?_
                  refine gfX4_9 dX4_move_95 ?_
                  refine x_aload_n 4 dX4_move_98 rfl ?_
                  refine gfX4_13 dX4_move_99 ?_
                  refine clX4_121 (qX4_copies (by decide) (by decide) (by decide) (by decide) (by decide) ((mx_row_o (by decide)).trans h36)) (by decide) rfl dX4_move_102 (fun τ102 h102 => ?_)
                  obtain rfl := h102
                  refine x_mem (mx_row_row _ _ _ _) ?_
                  refine x_aload_n 4 dX4_move_105 rfl ?_
                  refine gfX4_13 dX4_move_106 ?_
                  refine x_iload 1 dX4_move_109 rfl ?_
                  refine x_iconst (v := 3) dX4_move_111 (by decide) ?_
                  refine clX4_44 (qX4_of a 3) (by decide) rfl dX4_move_112 (fun r112 τ112 h112 => ?_)
                  obtain ⟨rfl, rfl⟩ := h112
                  refine x_ialdS (j := 6 + 6 * a + 3) (by decide) (by decide) (by omega) dX4_move_115 ?_
                  refine x_top (show (mx_row σ 37 r) 37 (6 + 6 * a + 3) = r (6 + 6 * a + 3) from (congrFun mx_row_s _)) ?_
                  refine x_iconst (v := 2) dX4_move_116 (by decide) ?_
                  refine x_idiv dX4_move_117 (by decide) ?_
                  refine x_bipush (v := 30) dX4_move_118 (by decide) ?_
                  refine x_aload_n 4 dX4_move_120 rfl ?_
                  refine gfX4_13 dX4_move_121 ?_
                  refine x_iload 0 dX4_move_124 rfl ?_
                  refine x_iconst (v := 3) dX4_move_126 (by decide) ?_
                  refine clX4_44 (qX4_of b 3) (by decide) rfl dX4_move_127 (fun r127 τ127 h127 => ?_)
                  obtain ⟨rfl, rfl⟩ := h127
                  refine x_ialdS (j := 6 + 6 * b + 3) (by decide) (by decide) (by omega) dX4_move_130 ?_
                  refine x_top (show (mx_row σ 37 r) 37 (6 + 6 * b + 3) = r (6 + 6 * b + 3) from (congrFun mx_row_s _)) ?_
                  refine x_isub dX4_move_131 ?_
                  refine clX4_66 (qX4_least ((r (6 + 6 * a + 3)) / 2) (30 - (r (6 + 6 * b + 3)))) (by decide) rfl dX4_move_132 (fun r132 τ132 h132 => ?_)
                  obtain ⟨rfl, rfl⟩ := h132
                  refine x_top (show f_least ((r (6 + 6 * a + 3)) / 2) (30 - (r (6 + 6 * b + 3))) = f_go r a b from rfl) ?_
                  refine x_istore (lv' := [(7, .int (f_go r a b)), (6, .int (nI b)), (5, .int (nI a)), (4, .int ((f_mvB n r k a (f_mvA n r k a) b).1)), (3, .int ((f_mvB n r k a (f_mvA n r k a) b).2)), (0, mx_rf E 35), (1, .int (nI k))]) dX4_move_135 rfl (by decide) rfl ?_
                  refine x_aload_n 5 dX4_move_137 rfl ?_
                  refine gfX4_13 dX4_move_138 ?_
                  refine x_iload 2 dX4_move_141 rfl ?_
                  refine x_iconst (v := 3) dX4_move_143 (by decide) ?_
                  refine clX4_44 (qX4_of a 3) (by decide) rfl dX4_move_144 (fun r144 τ144 h144 => ?_)
                  obtain ⟨rfl, rfl⟩ := h144
                  refine x_dup2 dX4_move_147 rfl rfl ?_
                  refine x_ialdS (j := 6 + 6 * a + 3) (by decide) (by decide) (by omega) dX4_move_148 ?_
                  refine x_top (show (mx_row σ 37 r) 37 (6 + 6 * a + 3) = r (6 + 6 * a + 3) from (congrFun mx_row_s _)) ?_
                  refine x_iload 0 dX4_move_149 rfl ?_
                  refine x_isub dX4_move_151 ?_
                  refine x_iastR (j := 6 + 6 * a + 3) (by decide) (by decide) (by omega) dX4_move_152 ?_
                  refine x_aload_n 5 dX4_move_153 rfl ?_
                  refine gfX4_13 dX4_move_154 ?_
                  refine x_iload 1 dX4_move_157 rfl ?_
                  refine x_iconst (v := 3) dX4_move_159 (by decide) ?_
                  refine clX4_44 (qX4_of b 3) (by decide) rfl dX4_move_160 (fun r160 τ160 h160 => ?_)
                  obtain ⟨rfl, rfl⟩ := h160
                  refine x_dup2 dX4_move_163 rfl rfl ?_
                  refine x_ialdS (j := 6 + 6 * b + 3) (by decide) (by decide) (by omega) dX4_move_164 ?_
                  refine x_top (show (mx_row σ 37 (upd r (6 + 6 * a + 3) ((r (6 + 6 * a + 3)) - (f_go r a b)))) 37 (6 + 6 * b + 3) = (upd r (6 + 6 * a + 3) ((r (6 + 6 * a + 3)) - (f_go r a b))) (6 + 6 * b + 3) from (congrFun mx_row_s _)) ?_
                  refine x_iload 0 dX4_move_165 rfl ?_
                  refine x_iadd dX4_move_167 ?_
                  refine x_iastR (j := 6 + 6 * b + 3) (by decide) (by decide) (by omega) dX4_move_168 ?_
                  refine x_mem (τ := mx_row σ 37 (f_mvRow r a b)) (congrArg (mx_row σ 37) (show upd (upd r (6 + 6 * a + 3) ((r (6 + 6 * a + 3)) - (f_go r a b))) (6 + 6 * b + 3) (((upd r (6 + 6 * a + 3) ((r (6 + 6 * a + 3)) - (f_go r a b))) (6 + 6 * b + 3)) + (f_go r a b)) = f_mvRow r a b from rfl)) ?_
                  refine x_aload_n 5 dX4_move_169 rfl ?_
                  refine gfX4_13 dX4_move_170 ?_
                  refine x_iload_n 6 dX4_move_173 rfl ?_
                  refine clX4_115 (gX4_weeksOn (by decide) (by decide) mx_row_s n (wf_mv hw ha hb hab) k (by omega)) (by decide) rfl dX4_move_174 (fun τ174 h174 => ?_)
                  obtain rfl := h174
                  refine x_mem (mx_row_row _ _ _ _) ?_
                  refine x_aload_n 5 dX4_move_177 rfl ?_
                  refine gfX4_13 dX4_move_178 ?_
                  refine x_iconst (v := 4) dX4_move_181 (by decide) ?_
                  refine x_ialdS (j := 4) (by decide) (by decide) (by decide) dX4_move_182 ?_
                  refine x_top (show (mx_row σ 37 (f_weeks n (f_mvRow r a b) k)) 37 4 = (f_weeks n (f_mvRow r a b) k) 4 from (congrFun mx_row_s _)) ?_
                  refine clX4_138 (qX4_bits ((f_weeks n (f_mvRow r a b) k) 4)) (by decide) rfl dX4_move_183 (fun r183 τ183 h183 => ?_)
                  obtain ⟨rfl, rfl⟩ := h183
                  refine x_top (show f_bits ((f_weeks n (f_mvRow r a b) k) 4) = f_mv n r k a b from rfl) ?_
                  refine x_iload_n 4 dX4_move_186 rfl ?_
                  refine x_icmp_gt dX4_move_187 (fun c187 => ?_) (fun c187 => ?_)
                  · refine x_bipush (v := 10) dX4_move_193 (by decide) ?_
                    refine x_iload 2 dX4_move_195 rfl ?_
                    refine x_imul dX4_move_197 ?_
                    refine x_top (show 10 * (nI a) = nI (10 * a) from pk_mul 10 a) ?_
                    refine x_iload 1 dX4_move_198 rfl ?_
                    refine x_iadd dX4_move_200 ?_
                    refine x_top (show (nI (10 * a)) + (nI b) = nI (10 * a + b) from nI_add (10 * a) b) ?_
                    refine x_istore (lv' := [(4, .int (nI (10 * a + b))), (7, .int (f_go r a b)), (6, .int (nI b)), (5, .int (nI a)), (3, .int ((f_mvB n r k a (f_mvA n r k a) b).2)), (0, mx_rf E 35), (1, .int (nI k))]) dX4_move_201 rfl (by decide) rfl ?_
                    refine x_aload_n 5 dX4_move_203 rfl ?_
                    refine gfX4_13 dX4_move_204 ?_
                    refine x_iconst (v := 4) dX4_move_207 (by decide) ?_
                    refine x_ialdS (j := 4) (by decide) (by decide) (by decide) dX4_move_208 ?_
                    refine x_top (show (mx_row σ 37 (f_weeks n (f_mvRow r a b) k)) 37 4 = (f_weeks n (f_mvRow r a b) k) 4 from (congrFun mx_row_s _)) ?_
                    refine clX4_138 (qX4_bits ((f_weeks n (f_mvRow r a b) k) 4)) (by decide) rfl dX4_move_209 (fun r209 τ209 h209 => ?_)
                    obtain ⟨rfl, rfl⟩ := h209
                    refine x_top (show f_bits ((f_weeks n (f_mvRow r a b) k) 4) = f_mv n r k a b from rfl) ?_
                    refine x_istore_n (lv' := [(3, .int (f_mv n r k a b)), (4, .int (nI (10 * a + b))), (7, .int (f_go r a b)), (6, .int (nI b)), (5, .int (nI a)), (0, mx_rf E 35), (1, .int (nI k))]) dX4_move_212 rfl (by decide) rfl ?_
                    refine x_iinc (v := nI (b + 1)) (lv' := [(6, .int (nI (b + 1))), (3, .int (f_mv n r k a b)), (4, .int (nI (10 * a + b))), (7, .int (f_go r a b)), (5, .int (nI a)), (0, mx_rf E 35), (1, .int (nI k))]) 3 dX4_move_213 rfl (nI_1 _) (by decide) rfl ?_
                    refine x_goto dX4_move_216 ?_
                    refine x_lvs [0, 4, 2, 1, 5, 6] rfl ?_
                    exact flM_eq (P := fun x y => MX E _ _ _ _ _ _ [(6, .int (nI (b + 1))), (5, .int (nI a)), (4, .int x), (3, .int y), (0, mx_rf E 35), (1, .int (nI k))] _ _ _) (f_mvB_T hab c74 c88 c187) (ih45 (b + 1) (by omega) (by omega) _)
                  · refine x_goto dX4_move_190 ?_
                    refine x_iinc (v := nI (b + 1)) (lv' := [(6, .int (nI (b + 1))), (7, .int (f_go r a b)), (5, .int (nI a)), (4, .int ((f_mvB n r k a (f_mvA n r k a) b).1)), (3, .int ((f_mvB n r k a (f_mvA n r k a) b).2)), (0, mx_rf E 35), (1, .int (nI k))]) 1 dX4_move_213 rfl (nI_1 _) (by decide) rfl ?_
                    refine x_goto dX4_move_216 ?_
                    refine x_lvs [0, 2, 3, 4, 5, 6] rfl ?_
                    exact flM_eq (P := fun x y => MX E _ _ _ _ _ _ [(6, .int (nI (b + 1))), (5, .int (nI a)), (4, .int x), (3, .int y), (0, mx_rf E 35), (1, .int (nI k))] _ _ _) (f_mvB_F (fun q => c187 q.2.2.2)) (ih45 (b + 1) (by omega) (by omega) _)
                · replace c88 := zb_0 c88
                  refine x_goto dX4_move_91 ?_
                  refine x_iinc (v := nI (b + 1)) (lv' := [(6, .int (nI (b + 1))), (5, .int (nI a)), (4, .int ((f_mvB n r k a (f_mvA n r k a) b).1)), (3, .int ((f_mvB n r k a (f_mvA n r k a) b).2)), (0, mx_rf E 35), (1, .int (nI k))]) 0 dX4_move_213 rfl (nI_1 _) (by decide) rfl ?_
                  refine x_goto dX4_move_216 ?_
                  exact flM_eq (P := fun x y => MX E _ _ _ _ _ _ [(6, .int (nI (b + 1))), (5, .int (nI a)), (4, .int x), (3, .int y), (0, mx_rf E 35), (1, .int (nI k))] _ _ _) (f_mvB_F (fun q => by rw [show f_kept r b = false from c88] at q; exact absurd q.2.2.1 (by decide))) (ih45 (b + 1) (by omega) (by omega) _)
        exact key45 0 (Nat.zero_le _) _
    refine x_lvs [0, 1, 2, 4, 5] rfl ?_
    exact key31 0 (Nat.zero_le _) _

set_option maxHeartbeats 4000000 in
theorem qX4_isNoneLost {E : mx_E} {σ : Mem} {n : Nat} {r : Row} (h36 : σ 36 = r) (hw : wf n r) {q : Row} (h37 : σ 37 = q) (hwq : wf n q) (k : Nat) (hk : k < 1000) : MX4_isNoneLost E 6 [mx_rf E 35, .int (nI k)] σ (mx_ie (zb (f_none n r q k)) (mx_row σ 37 (f_weeks n q k))) := by
  refine MM.of (lv := [(0, mx_rf E 35), (1, .int (nI k))]) kpX4 rfl (Nat.le_of_ble_eq_true rfl) rfl ?_
  have hn6 := hw.1
  refine x_aload_n 0 dX4_isNoneLost_0 rfl ?_
  refine gfX4_13 dX4_isNoneLost_1 ?_
  refine x_iload_n 1 dX4_isNoneLost_4 rfl ?_
  refine clX4_115 (gX4_weeksOn (by decide) (by decide) h37 n hwq k (by omega)) (by decide) rfl dX4_isNoneLost_5 (fun τ5 h5 => ?_)
  obtain rfl := h5
  refine x_aload_n 0 dX4_isNoneLost_8 rfl ?_
  refine gfX4_13 dX4_isNoneLost_9 ?_
  refine x_iconst (v := 4) dX4_isNoneLost_12 (by decide) ?_
  refine x_ialdS (j := 4) (by decide) (by decide) (by decide) dX4_isNoneLost_13 ?_
  refine x_top (show (mx_row σ 37 (f_weeks n q k)) 37 4 = (f_weeks n q k) 4 from (congrFun mx_row_s _)) ?_
  refine x_aload_n 0 dX4_isNoneLost_14 rfl ?_
  refine gfX4_9 dX4_isNoneLost_15 ?_
  refine x_iconst (v := 4) dX4_isNoneLost_18 (by decide) ?_
  refine x_ialdS (j := 4) (by decide) (by decide) (by decide) dX4_isNoneLost_19 ?_
  refine x_top (show (mx_row σ 37 (f_weeks n q k)) 36 4 = r 4 from (congrFun ((mx_row_o (by decide)).trans h36) _)) ?_
  refine x_icmp_ne dX4_isNoneLost_20 (fun c20 => ?_) (fun c20 => ?_)
  · refine x_iconst (v := 0) dX4_isNoneLost_27 (by decide) ?_
    exact x_zret dX4_isNoneLost_28 (by decide) ⟨zb_f' (decide_eq_false c20), rfl⟩
  · refine x_iconst (v := 1) dX4_isNoneLost_23 (by decide) ?_
    refine x_goto dX4_isNoneLost_24 ?_
    exact x_zret dX4_isNoneLost_28 (by decide) ⟨zb_t' (decide_eq_true c20), rfl⟩

set_option maxHeartbeats 4000000 in
theorem qX4_air {E : mx_E} {σ : Mem} {n : Nat} {r : Row} (h36 : σ 36 = r) (hw : wf n r) (k : Int32) : MX4_air E 8 [mx_rf E 35, .int k] σ (mx_i (fun v τ => (p_air n r k).1 = v ∧ Qm (p_air n r k).2 σ τ)) := by
  refine MM.of (lv := [(0, mx_rf E 35), (1, .int k)]) kpX4 rfl (Nat.le_of_ble_eq_true rfl) rfl ?_
  have hn6 := hw.1
  have h2n : 2 ^ n ≤ 64 := Nat.pow_le_pow_right (n := 2) (by decide) hn6
  refine x_mem (τ := mx_row σ 37 (σ 37)) (mx_row_self σ 37).symm ?_
  refine x_iload_n 1 dX4_air_0 rfl ?_
  refine x_iconst (v := 0) dX4_air_1 (by decide) ?_
  refine x_bipush (v := 30) dX4_air_2 (by decide) ?_
  refine clX4_128 (qX4_wrongBy k 0 30) (by decide) rfl dX4_air_4 (fun r4 τ4 h4 => ?_)
  obtain ⟨rfl, rfl⟩ := h4
  rcases f_out_c (v := k) (lo := 0) (hi := 30) (l := 0) (h := 30) (by decide) (by decide) rfl rfl with ⟨k1, e⟩ | ⟨k1, k2, e⟩ | ⟨k, hk1, hk2, rfl, k1, k2, e⟩
  · refine x_top (show f_out k 0 30 = -4 from e) ?_
    refine x_istore_n (lv' := [(2, .int (-4)), (0, mx_rf E 35), (1, .int k)]) dX4_air_7 rfl (by decide) rfl ?_
    refine x_iload_n 0 dX4_air_8 rfl ?_
    refine x_if_eq dX4_air_9 (fun c => absurd c (by decide)) (fun _ => ?_)
    refine x_aload_n 1 dX4_air_12 rfl ?_
    refine x_iload_n 0 dX4_air_13 rfl ?_
    refine clX4_36 (qX4_no 4 (by decide) (by decide)) (by decide) rfl dX4_air_14 (fun r14 τ14 h14 => ?_)
    obtain ⟨rfl, rfl⟩ := h14
    exact x_iret dX4_air_17 (by rw [show p_air n r k = ((-4 : Int32), 4) from by simp [p_air, k1]]; exact ⟨rfl, by rw [mx_row_self]; exact Qm.no⟩)
  · refine x_top (show f_out k 0 30 = -6 from e) ?_
    refine x_istore_n (lv' := [(2, .int (-6)), (0, mx_rf E 35), (1, .int k)]) dX4_air_7 rfl (by decide) rfl ?_
    refine x_iload_n 0 dX4_air_8 rfl ?_
    refine x_if_eq dX4_air_9 (fun c => absurd c (by decide)) (fun _ => ?_)
    refine x_aload_n 1 dX4_air_12 rfl ?_
    refine x_iload_n 0 dX4_air_13 rfl ?_
    refine clX4_36 (qX4_no 6 (by decide) (by decide)) (by decide) rfl dX4_air_14 (fun r14 τ14 h14 => ?_)
    obtain ⟨rfl, rfl⟩ := h14
    exact x_iret dX4_air_17 (by rw [show p_air n r k = ((-6 : Int32), 6) from by simp [p_air, k1, k2]]; exact ⟨rfl, by rw [mx_row_self]; exact Qm.no⟩)
  · refine x_top (show f_out (nI k) 0 30 = 0 from e) ?_
    refine x_istore_n (lv' := [(2, .int 0), (0, mx_rf E 35), (1, .int (nI k))]) dX4_air_7 rfl (by decide) rfl ?_
    refine x_iload_n 0 dX4_air_8 rfl ?_
    refine x_if_eq dX4_air_9 (fun _ => ?_) (fun c => absurd c (by decide))
    refine x_bipush (v := -9) dX4_air_18 (by decide) ?_
    refine x_istore_n (lv' := [(3, .int (-9)), (2, .int 0), (0, mx_rf E 35), (1, .int (nI k))]) dX4_air_20 rfl (by decide) rfl ?_
    refine x_iconst (v := 0) dX4_air_21 (by decide) ?_
    refine x_istore (lv' := [(4, .int 0), (3, .int (-9)), (2, .int 0), (0, mx_rf E 35), (1, .int (nI k))]) dX4_air_22 rfl (by decide) rfl ?_
    have key24 : ∀ s, s ≤ 2 ^ n → ∀ q : Row, MX E 8 RX4 cX4_air 6 (some .int) 24 [(4, .int (nI s)), (3, .int (f_o9 (f_airU n r k s))), (0, mx_rf E 35), (1, .int (nI k))] [] (mx_row σ 37 q) (mx_i (fun v τ => (p_air n r (nI k)).1 = v ∧ Qm (p_air n r (nI k)).2 σ τ)) := by
      refine mx_ind (2 ^ n) (fun s hi24 ih24 => ?_)
      intro q
      refine x_iload 0 dX4_air_24 rfl ?_
      refine x_iconst (v := 1) dX4_air_26 (by decide) ?_
      refine x_aload_n 2 dX4_air_27 rfl ?_
      refine gfX4_9 dX4_air_28 ?_
      refine x_iconst (v := 0) dX4_air_31 (by decide) ?_
      refine x_ialdS (j := 0) (by decide) (by decide) (by decide) dX4_air_32 ?_
      refine x_top (show (mx_row σ 37 q) 36 0 = nI n from ((congrFun ((mx_row_o (by decide)).trans h36) 0).trans hw.2.1)) ?_
      refine x_ishl dX4_air_33 ?_
      refine x_top (show 1 <<< ((nI n) &&& 31) = nI (2 ^ n) from (f_shl1 hn6)) ?_
      refine x_icmp_ge dX4_air_34 (fun c34 => ?_) (fun c34 => ?_)
      · have hge := nI_le_of (by omega) (by omega) c34
        have hsn : s = 2 ^ n := by omega
        refine x_iload_n 1 dX4_air_126 rfl ?_
        exact x_iret dX4_air_127 (by rw [show p_air n r (nI k) = (f_o9 (f_airU n r k (2 ^ n)), 0) from by simp only [p_air, k1, k2, nI_clamp (show k < 2 ^ 31 by omega), reduceIte, Bool.false_eq_true, Bool.true_eq_false, Bool.true_and, Bool.false_and, Bool.and_true, Bool.and_false, decide_eq_true_eq, decide_true, decide_false, not_true_eq_false, not_false_eq_true, zbT, zbF]]; exact ⟨by rw [hsn], (Qm.rf.row (Or.inl rfl))⟩)
      · have hs := nI_lt_of (by omega) (by omega) c34
        rcases hb : f_airU n r k s with _ | f
        · show MX E 8 RX4 cX4_air 6 (some .int) 37 [(4, .int (nI s)), (3, .int (-9)), (0, mx_rf E 35), (1, .int (nI k))] [] (mx_row σ 37 q) (mx_i (fun v τ => (p_air n r (nI k)).1 = v ∧ Qm (p_air n r (nI k)).2 σ τ))
          have hlt : f_cnt s < f_airL (f_airU n r k s) := by rw [hb]; exact Nat.lt_of_le_of_lt (f_cnt_le6 (by omega)) (by decide)
          refine x_iload_n 1 dX4_air_37 rfl ?_
          refine x_if_lt dX4_air_38 (fun _ => ?_) (fun c => absurd c (by decide))
          refine x_aload_n 2 dX4_air_56 rfl ?_
          refine gfX4_9 dX4_air_57 ?_
          refine x_aload_n 2 dX4_air_60 rfl ?_
          refine gfX4_13 dX4_air_61 ?_
          refine clX4_121 (qX4_copies (by decide) (by decide) (by decide) (by decide) (by decide) ((mx_row_o (by decide)).trans h36)) (by decide) rfl dX4_air_64 (fun τ64 h64 => ?_)
          obtain rfl := h64
          refine x_mem (mx_row_row _ _ _ _) ?_
          refine x_iconst (v := 0) dX4_air_67 (by decide) ?_
          refine x_istore (lv' := [(5, .int 0), (4, .int (nI s)), (3, .int (-9)), (0, mx_rf E 35), (1, .int (nI k))]) dX4_air_68 rfl (by decide) rfl ?_
          have key70 : ∀ i, i ≤ n → MX E 8 RX4 cX4_air 6 (some .int) 70 [(5, .int (nI i)), (4, .int (nI s)), (3, .int (-9)), (0, mx_rf E 35), (1, .int (nI k))] [] (mx_row σ 37 (f_airR r s i)) (mx_i (fun v τ => (p_air n r (nI k)).1 = v ∧ Qm (p_air n r (nI k)).2 σ τ)) := by
            refine mx_ind n (fun i hi70 ih70 => ?_)
            refine x_iload 0 dX4_air_70 rfl ?_
            refine x_aload_n 3 dX4_air_72 rfl ?_
            refine gfX4_9 dX4_air_73 ?_
            refine x_iconst (v := 0) dX4_air_76 (by decide) ?_
            refine x_ialdS (j := 0) (by decide) (by decide) (by decide) dX4_air_77 ?_
            refine x_top (show (mx_row σ 37 (f_airR r s i)) 36 0 = nI n from ((congrFun ((mx_row_o (by decide)).trans h36) 0).trans hw.2.1)) ?_
            refine x_icmp_ge dX4_air_78 (fun c78 => ?_) (fun c78 => ?_)
            · have hgi := nI_le_of (by omega) (by omega) c78
              have hin : i = n := by omega
              refine x_mem (τ := mx_row σ 37 (f_airR r s n)) (congrArg (mx_row σ 37) (show f_airR r s i = f_airR r s n from by rw [hin])) ?_
              refine x_aload_n 3 dX4_air_109 rfl ?_
              refine x_iload_n 4 dX4_air_110 rfl ?_
              refine clX4_162 (qX4_isNoneLost ((mx_row_o (by decide)).trans h36) hw mx_row_s (wf_airR hw s n).1 k (by omega)) (by decide) rfl dX4_air_111 (fun r111 τ111 h111 => ?_)
              obtain ⟨rfl, rfl⟩ := h111
              refine x_mem (mx_row_row _ _ _ _) ?_
              refine x_if_eq dX4_air_114 (fun c114 => ?_) (fun c114 => ?_)
              · replace c114 := zb_0 c114
                refine x_iinc (v := nI (s + 1)) (lv' := [(4, .int (nI (s + 1))), (5, .int (nI i)), (3, .int (-9)), (0, mx_rf E 35), (1, .int (nI k))]) 1 dX4_air_120 rfl (nI_1 _) (by decide) rfl ?_
                refine x_goto dX4_air_123 ?_
                refine x_lvs [0, 2, 3, 4] rfl ?_
                exact acc_eq (P := fun x => MX E _ _ _ _ _ _ [(4, .int (nI (s + 1))), (3, .int x), (0, mx_rf E 35), (1, .int (nI k))] _ _ _) ((f_airM_F (fun z => by rw [show f_airOk n r k s = false from c114] at z; exact absurd z.2 (by decide))).trans (by rw [hb]; rfl)) (ih24 (s + 1) (by omega) (by omega) _)
              · replace c114 := zb_1 c114
                refine x_iload 1 dX4_air_117 rfl ?_
                refine x_istore_n (lv' := [(3, .int (nI s)), (5, .int (nI i)), (4, .int (nI s)), (0, mx_rf E 35), (1, .int (nI k))]) dX4_air_119 rfl (by decide) rfl ?_
                refine x_iinc (v := nI (s + 1)) (lv' := [(4, .int (nI (s + 1))), (3, .int (nI s)), (5, .int (nI i)), (0, mx_rf E 35), (1, .int (nI k))]) 2 dX4_air_120 rfl (nI_1 _) (by decide) rfl ?_
                refine x_goto dX4_air_123 ?_
                refine x_lvs [0, 1, 3, 4] rfl ?_
                exact acc_eq (P := fun x => MX E _ _ _ _ _ _ [(4, .int (nI (s + 1))), (3, .int x), (0, mx_rf E 35), (1, .int (nI k))] _ _ _) (f_airM_T hlt c114) (ih24 (s + 1) (by omega) (by omega) _)
            · have hi := nI_lt_of (by omega) (by omega) c78
              refine x_iload 1 dX4_air_81 rfl ?_
              refine x_iload 0 dX4_air_83 rfl ?_
              refine clX4_48 (qX4_has (nI s) (nI i)) (by decide) rfl dX4_air_85 (fun r85 τ85 h85 => ?_)
              obtain ⟨rfl, rfl⟩ := h85
              refine x_if_eq dX4_air_88 (fun c88 => ?_) (fun c88 => ?_)
              · replace c88 := zb_0 c88
                refine x_mem (τ := mx_row σ 37 (f_airR r s (i + 1))) (congrArg (mx_row σ 37) (show f_airR r s i = f_airR r s (i + 1) from by rw [f_airR_s]; simp only [c88, reduceIte, Bool.false_eq_true])) ?_
                refine x_iinc (v := nI (i + 1)) (lv' := [(5, .int (nI (i + 1))), (4, .int (nI s)), (3, .int (-9)), (0, mx_rf E 35), (1, .int (nI k))]) 0 dX4_air_103 rfl (nI_1 _) (by decide) rfl ?_
                refine x_goto dX4_air_106 ?_
                exact ih70 (i + 1) (by omega) (by omega)
              · replace c88 := zb_1 c88
                refine x_aload_n 3 dX4_air_91 rfl ?_
                refine gfX4_13 dX4_air_92 ?_
                refine x_iload 0 dX4_air_95 rfl ?_
                refine x_iconst (v := 4) dX4_air_97 (by decide) ?_
                refine clX4_44 (qX4_of i 4) (by decide) rfl dX4_air_98 (fun r98 τ98 h98 => ?_)
                obtain ⟨rfl, rfl⟩ := h98
                refine x_iconst (v := 0) dX4_air_101 (by decide) ?_
                refine x_iastR (j := 6 + 6 * i + 4) (by decide) (by decide) (by omega) dX4_air_102 ?_
                refine x_mem (τ := mx_row σ 37 (f_airR r s (i + 1))) (congrArg (mx_row σ 37) (show upd (f_airR r s i) (6 + 6 * i + 4) 0 = f_airR r s (i + 1) from by rw [f_airR_s]; simp only [c88, reduceIte, Bool.false_eq_true])) ?_
                refine x_iinc (v := nI (i + 1)) (lv' := [(5, .int (nI (i + 1))), (4, .int (nI s)), (3, .int (-9)), (0, mx_rf E 35), (1, .int (nI k))]) 0 dX4_air_103 rfl (nI_1 _) (by decide) rfl ?_
                refine x_goto dX4_air_106 ?_
                exact ih70 (i + 1) (by omega) (by omega)
          exact key70 0 (Nat.zero_le _)
        · have hfs := f_airU_lt _ _ _ _ _ hb
          show MX E 8 RX4 cX4_air 6 (some .int) 37 [(4, .int (nI s)), (3, .int (nI f)), (0, mx_rf E 35), (1, .int (nI k))] [] (mx_row σ 37 q) (mx_i (fun v τ => (p_air n r (nI k)).1 = v ∧ Qm (p_air n r (nI k)).2 σ τ))
          refine x_iload_n 1 dX4_air_37 rfl ?_
          refine x_if_lt dX4_air_38 (fun c38 => ?_) (fun c38 => ?_)
          · exact absurd c38 (nI_pos (by omega))
          · refine x_iload 0 dX4_air_41 rfl ?_
            refine clX4_138 (qX4_bits (nI s)) (by decide) rfl dX4_air_43 (fun r43 τ43 h43 => ?_)
            obtain ⟨rfl, rfl⟩ := h43
            refine x_iload_n 1 dX4_air_46 rfl ?_
            refine clX4_138 (qX4_bits (nI f)) (by decide) rfl dX4_air_47 (fun r47 τ47 h47 => ?_)
            obtain ⟨rfl, rfl⟩ := h47
            refine x_icmp_lt dX4_air_50 (fun c50 => ?_) (fun c50 => ?_)
            · have hlt : f_cnt s < f_airL (f_airU n r k s) := by rw [hb]; exact f_bits_gt (by omega) (by omega) c50
              refine x_aload_n 2 dX4_air_56 rfl ?_
              refine gfX4_9 dX4_air_57 ?_
              refine x_aload_n 2 dX4_air_60 rfl ?_
              refine gfX4_13 dX4_air_61 ?_
              refine clX4_121 (qX4_copies (by decide) (by decide) (by decide) (by decide) (by decide) ((mx_row_o (by decide)).trans h36)) (by decide) rfl dX4_air_64 (fun τ64 h64 => ?_)
              obtain rfl := h64
              refine x_mem (mx_row_row _ _ _ _) ?_
              refine x_iconst (v := 0) dX4_air_67 (by decide) ?_
              refine x_istore (lv' := [(5, .int 0), (4, .int (nI s)), (3, .int (nI f)), (0, mx_rf E 35), (1, .int (nI k))]) dX4_air_68 rfl (by decide) rfl ?_
              have key70 : ∀ i, i ≤ n → MX E 8 RX4 cX4_air 6 (some .int) 70 [(5, .int (nI i)), (4, .int (nI s)), (3, .int (nI f)), (0, mx_rf E 35), (1, .int (nI k))] [] (mx_row σ 37 (f_airR r s i)) (mx_i (fun v τ => (p_air n r (nI k)).1 = v ∧ Qm (p_air n r (nI k)).2 σ τ)) := by
                refine mx_ind n (fun i hi70 ih70 => ?_)
                refine x_iload 0 dX4_air_70 rfl ?_
                refine x_aload_n 3 dX4_air_72 rfl ?_
                refine gfX4_9 dX4_air_73 ?_
                refine x_iconst (v := 0) dX4_air_76 (by decide) ?_
                refine x_ialdS (j := 0) (by decide) (by decide) (by decide) dX4_air_77 ?_
                refine x_top (show (mx_row σ 37 (f_airR r s i)) 36 0 = nI n from ((congrFun ((mx_row_o (by decide)).trans h36) 0).trans hw.2.1)) ?_
                refine x_icmp_ge dX4_air_78 (fun c78 => ?_) (fun c78 => ?_)
                · have hgi := nI_le_of (by omega) (by omega) c78
                  have hin : i = n := by omega
                  refine x_mem (τ := mx_row σ 37 (f_airR r s n)) (congrArg (mx_row σ 37) (show f_airR r s i = f_airR r s n from by rw [hin])) ?_
                  refine x_aload_n 3 dX4_air_109 rfl ?_
                  refine x_iload_n 4 dX4_air_110 rfl ?_
                  refine clX4_162 (qX4_isNoneLost ((mx_row_o (by decide)).trans h36) hw mx_row_s (wf_airR hw s n).1 k (by omega)) (by decide) rfl dX4_air_111 (fun r111 τ111 h111 => ?_)
                  obtain ⟨rfl, rfl⟩ := h111
                  refine x_mem (mx_row_row _ _ _ _) ?_
                  refine x_if_eq dX4_air_114 (fun c114 => ?_) (fun c114 => ?_)
                  · replace c114 := zb_0 c114
                    refine x_iinc (v := nI (s + 1)) (lv' := [(4, .int (nI (s + 1))), (5, .int (nI i)), (3, .int (nI f)), (0, mx_rf E 35), (1, .int (nI k))]) 1 dX4_air_120 rfl (nI_1 _) (by decide) rfl ?_
                    refine x_goto dX4_air_123 ?_
                    refine x_lvs [0, 2, 3, 4] rfl ?_
                    exact acc_eq (P := fun x => MX E _ _ _ _ _ _ [(4, .int (nI (s + 1))), (3, .int x), (0, mx_rf E 35), (1, .int (nI k))] _ _ _) ((f_airM_F (fun z => by rw [show f_airOk n r k s = false from c114] at z; exact absurd z.2 (by decide))).trans (by rw [hb]; rfl)) (ih24 (s + 1) (by omega) (by omega) _)
                  · replace c114 := zb_1 c114
                    refine x_iload 1 dX4_air_117 rfl ?_
                    refine x_istore_n (lv' := [(3, .int (nI s)), (5, .int (nI i)), (4, .int (nI s)), (0, mx_rf E 35), (1, .int (nI k))]) dX4_air_119 rfl (by decide) rfl ?_
                    refine x_iinc (v := nI (s + 1)) (lv' := [(4, .int (nI (s + 1))), (3, .int (nI s)), (5, .int (nI i)), (0, mx_rf E 35), (1, .int (nI k))]) 2 dX4_air_120 rfl (nI_1 _) (by decide) rfl ?_
                    refine x_goto dX4_air_123 ?_
                    refine x_lvs [0, 1, 3, 4] rfl ?_
                    exact acc_eq (P := fun x => MX E _ _ _ _ _ _ [(4, .int (nI (s + 1))), (3, .int x), (0, mx_rf E 35), (1, .int (nI k))] _ _ _) (f_airM_T hlt c114) (ih24 (s + 1) (by omega) (by omega) _)
                · have hi := nI_lt_of (by omega) (by omega) c78
                  refine x_iload 1 dX4_air_81 rfl ?_
                  refine x_iload 0 dX4_air_83 rfl ?_
                  refine clX4_48 (qX4_has (nI s) (nI i)) (by decide) rfl dX4_air_85 (fun r85 τ85 h85 => ?_)
                  obtain ⟨rfl, rfl⟩ := h85
                  refine x_if_eq dX4_air_88 (fun c88 => ?_) (fun c88 => ?_)
                  · replace c88 := zb_0 c88
                    refine x_mem (τ := mx_row σ 37 (f_airR r s (i + 1))) (congrArg (mx_row σ 37) (show f_airR r s i = f_airR r s (i + 1) from by rw [f_airR_s]; simp only [c88, reduceIte, Bool.false_eq_true])) ?_
                    refine x_iinc (v := nI (i + 1)) (lv' := [(5, .int (nI (i + 1))), (4, .int (nI s)), (3, .int (nI f)), (0, mx_rf E 35), (1, .int (nI k))]) 0 dX4_air_103 rfl (nI_1 _) (by decide) rfl ?_
                    refine x_goto dX4_air_106 ?_
                    exact ih70 (i + 1) (by omega) (by omega)
                  · replace c88 := zb_1 c88
                    refine x_aload_n 3 dX4_air_91 rfl ?_
                    refine gfX4_13 dX4_air_92 ?_
                    refine x_iload 0 dX4_air_95 rfl ?_
                    refine x_iconst (v := 4) dX4_air_97 (by decide) ?_
                    refine clX4_44 (qX4_of i 4) (by decide) rfl dX4_air_98 (fun r98 τ98 h98 => ?_)
                    obtain ⟨rfl, rfl⟩ := h98
                    refine x_iconst (v := 0) dX4_air_101 (by decide) ?_
                    refine x_iastR (j := 6 + 6 * i + 4) (by decide) (by decide) (by omega) dX4_air_102 ?_
                    refine x_mem (τ := mx_row σ 37 (f_airR r s (i + 1))) (congrArg (mx_row σ 37) (show upd (f_airR r s i) (6 + 6 * i + 4) 0 = f_airR r s (i + 1) from by rw [f_airR_s]; simp only [c88, reduceIte, Bool.false_eq_true])) ?_
                    refine x_iinc (v := nI (i + 1)) (lv' := [(5, .int (nI (i + 1))), (4, .int (nI s)), (3, .int (nI f)), (0, mx_rf E 35), (1, .int (nI k))]) 0 dX4_air_103 rfl (nI_1 _) (by decide) rfl ?_
                    refine x_goto dX4_air_106 ?_
                    exact ih70 (i + 1) (by omega) (by omega)
              exact key70 0 (Nat.zero_le _)
            · have hlt : ¬ f_cnt s < f_airL (f_airU n r k s) := by rw [hb]; exact fun z => c50 (f_bits_lt (by omega) (by omega) z)
              refine x_goto dX4_air_53 ?_
              refine x_iinc (v := nI (s + 1)) (lv' := [(4, .int (nI (s + 1))), (3, .int (nI f)), (0, mx_rf E 35), (1, .int (nI k))]) 0 dX4_air_120 rfl (nI_1 _) (by decide) rfl ?_
              refine x_goto dX4_air_123 ?_
              exact acc_eq (P := fun x => MX E _ _ _ _ _ _ [(4, .int (nI (s + 1))), (3, .int x), (0, mx_rf E 35), (1, .int (nI k))] _ _ _) ((f_airM_F (fun z => hlt z.1)).trans (by rw [hb]; rfl)) (ih24 (s + 1) (by omega) (by omega) _)
    refine x_lvs [0, 1, 3, 4] rfl ?_
    exact key24 0 (Nat.zero_le _) _

set_option maxHeartbeats 4000000 in
theorem qX4_start {E : mx_E} {σ : Mem} {n : Nat} {r : Row} (h36 : σ 36 = r) (hw : wf n r) (k what : Int32) : MX4_start E 7 [mx_rf E 35, .int k, .int what] σ (mx_i (fun v τ => (p_start n r k what).1 = v ∧ Qm (p_start n r k what).2 σ τ)) := by
  refine MM.of (lv := [(0, mx_rf E 35), (1, .int k), (2, .int what)]) kpX4 rfl (Nat.le_of_ble_eq_true rfl) rfl ?_
  have hn6 := hw.1
  refine x_mem (τ := mx_row σ 37 (σ 37)) (mx_row_self σ 37).symm ?_
  refine x_iload_n 1 dX4_start_0 rfl ?_
  refine x_iconst (v := 0) dX4_start_1 (by decide) ?_
  refine x_bipush (v := 30) dX4_start_2 (by decide) ?_
  refine clX4_128 (qX4_wrongBy k 0 30) (by decide) rfl dX4_start_4 (fun r4 τ4 h4 => ?_)
  obtain ⟨rfl, rfl⟩ := h4
  rcases f_out_c (v := k) (lo := 0) (hi := 30) (l := 0) (h := 30) (by decide) (by decide) rfl rfl with ⟨k1, e⟩ | ⟨k1, k2, e⟩ | ⟨k, hk1, hk2, rfl, k1, k2, e⟩
  · refine x_top (show f_out k 0 30 = -4 from e) ?_
    refine x_istore_n (lv' := [(3, .int (-4)), (0, mx_rf E 35), (1, .int k), (2, .int what)]) dX4_start_7 rfl (by decide) rfl ?_
    refine x_iload_n 0 dX4_start_8 rfl ?_
    refine x_if_ne dX4_start_9 (fun _ => ?_) (fun c => absurd c (by decide))
    refine x_iload_n 0 dX4_start_24 rfl ?_
    refine x_if_eq dX4_start_25 (fun c => absurd c (by decide)) (fun _ => ?_)
    refine x_aload_n 1 dX4_start_28 rfl ?_
    refine x_iload_n 0 dX4_start_29 rfl ?_
    refine clX4_36 (qX4_no 4 (by decide) (by decide)) (by decide) rfl dX4_start_30 (fun r30 τ30 h30 => ?_)
    obtain ⟨rfl, rfl⟩ := h30
    exact x_iret dX4_start_33 (by rw [show p_start n r k what = ((-4 : Int32), 4) from by simp only [p_start, k1, reduceIte, Bool.false_eq_true, Bool.true_eq_false, Bool.true_and, Bool.false_and, Bool.and_true, Bool.and_false, decide_eq_true_eq, decide_true, decide_false, not_true_eq_false, not_false_eq_true, zbT, zbF]]; exact ⟨rfl, by rw [mx_row_self]; exact Qm.no⟩)
  · refine x_top (show f_out k 0 30 = -6 from e) ?_
    refine x_istore_n (lv' := [(3, .int (-6)), (0, mx_rf E 35), (1, .int k), (2, .int what)]) dX4_start_7 rfl (by decide) rfl ?_
    refine x_iload_n 0 dX4_start_8 rfl ?_
    refine x_if_ne dX4_start_9 (fun _ => ?_) (fun c => absurd c (by decide))
    refine x_iload_n 0 dX4_start_24 rfl ?_
    refine x_if_eq dX4_start_25 (fun c => absurd c (by decide)) (fun _ => ?_)
    refine x_aload_n 1 dX4_start_28 rfl ?_
    refine x_iload_n 0 dX4_start_29 rfl ?_
    refine clX4_36 (qX4_no 6 (by decide) (by decide)) (by decide) rfl dX4_start_30 (fun r30 τ30 h30 => ?_)
    obtain ⟨rfl, rfl⟩ := h30
    exact x_iret dX4_start_33 (by rw [show p_start n r k what = ((-6 : Int32), 6) from by simp only [p_start, k1, k2, reduceIte, Bool.false_eq_true, Bool.true_eq_false, Bool.true_and, Bool.false_and, Bool.and_true, Bool.and_false, decide_eq_true_eq, decide_true, decide_false, not_true_eq_false, not_false_eq_true, zbT, zbF]]; exact ⟨rfl, by rw [mx_row_self]; exact Qm.no⟩)
  · refine x_top (show f_out (nI k) 0 30 = 0 from e) ?_
    refine x_istore_n (lv' := [(3, .int 0), (0, mx_rf E 35), (1, .int (nI k)), (2, .int what)]) dX4_start_7 rfl (by decide) rfl ?_
    refine x_iload_n 0 dX4_start_8 rfl ?_
    refine x_if_ne dX4_start_9 (fun c => absurd c (by decide)) (fun _ => ?_)
    refine x_iload_n 3 dX4_start_12 rfl ?_
    refine x_iconst (v := 0) dX4_start_13 (by decide) ?_
    refine x_iconst (v := 1) dX4_start_14 (by decide) ?_
    refine clX4_40 (qX4_isIn what 0 1) (by decide) rfl dX4_start_15 (fun r15 τ15 h15 => ?_)
    obtain ⟨rfl, rfl⟩ := h15
    refine x_if_ne dX4_start_18 (fun c18 => ?_) (fun c18 => ?_)
    · replace c18 := zb_1 c18
      refine x_iload_n 0 dX4_start_24 rfl ?_
      refine x_if_eq dX4_start_25 (fun _ => ?_) (fun c => absurd c (by decide))
      refine x_bipush (v := -9) dX4_start_34 (by decide) ?_
      refine x_istore (lv' := [(4, .int (-9)), (3, .int 0), (0, mx_rf E 35), (1, .int (nI k)), (2, .int what)]) dX4_start_36 rfl (by decide) rfl ?_
      refine x_iconst (v := -1) dX4_start_38 (by decide) ?_
      refine x_istore (lv' := [(5, .int (-1)), (4, .int (-9)), (3, .int 0), (0, mx_rf E 35), (1, .int (nI k)), (2, .int what)]) dX4_start_39 rfl (by decide) rfl ?_
      refine x_iconst (v := 0) dX4_start_41 (by decide) ?_
      refine x_istore (lv' := [(6, .int 0), (5, .int (-1)), (4, .int (-9)), (3, .int 0), (0, mx_rf E 35), (1, .int (nI k)), (2, .int what)]) dX4_start_42 rfl (by decide) rfl ?_
      have key44 : ∀ i, i ≤ n → ∀ q : Row, MX E 7 RX4 cX4_start 7 (some .int) 44 [(6, .int (nI i)), (5, .int (f_stB (-1) (f_stU n r k i))), (4, .int (f_stN (f_stU n r k i))), (0, mx_rf E 35), (1, .int (nI k)), (2, .int what)] [] (mx_row σ 37 q) (mx_i (fun v τ => (p_start n r (nI k) what).1 = v ∧ Qm (p_start n r (nI k) what).2 σ τ)) := by
        refine mx_ind n (fun i hi44 ih44 => ?_)
        intro q
        refine x_iload 0 dX4_start_44 rfl ?_
        refine x_aload_n 3 dX4_start_46 rfl ?_
        refine gfX4_9 dX4_start_47 ?_
        refine x_iconst (v := 0) dX4_start_50 (by decide) ?_
        refine x_ialdS (j := 0) (by decide) (by decide) (by decide) dX4_start_51 ?_
        refine x_top (show (mx_row σ 37 q) 36 0 = nI n from ((congrFun ((mx_row_o (by decide)).trans h36) 0).trans hw.2.1)) ?_
        refine x_icmp_ge dX4_start_52 (fun c52 => ?_) (fun c52 => ?_)
        · have hge := nI_le_of (by omega) (by omega) c52
          have hin : i = n := by omega
          refine x_iload 2 dX4_start_120 rfl ?_
          refine x_if_lt dX4_start_122 (fun c122 => ?_) (fun c122 => ?_)
          · rw [hin] at c122
            refine x_iload 2 dX4_start_129 rfl ?_
            refine x_goto dX4_start_131 ?_
            exact x_iret dX4_start_136 (by rw [show p_start n r (nI k) what = (f_stN (f_stU n r k i), 0) from by simp only [p_start, k1, k2, c18, nI_clamp (show k < 2 ^ 31 by omega), reduceIte, Bool.false_eq_true, Bool.true_eq_false, Bool.true_and, Bool.false_and, Bool.and_true, Bool.and_false, decide_eq_true_eq, decide_true, decide_false, not_true_eq_false, not_false_eq_true, zbT, zbF]; rw [hin]; exact congrArg (fun x => (x, 0)) (f_st_4 (fun j b e => by have := f_stU_lt _ _ _ _ _ _ e; omega) c122)]; exact ⟨rfl, (Qm.rf.row (Or.inl rfl))⟩)
          · rw [hin] at c122
            refine x_iload_n 5 dX4_start_125 rfl ?_
            refine x_if_ne dX4_start_126 (fun c126 => ?_) (fun c126 => ?_)
            · refine x_iload 1 dX4_start_134 rfl ?_
              exact x_iret dX4_start_136 (by rw [show p_start n r (nI k) what = (f_stB (-1) (f_stU n r k i), 0) from by simp only [p_start, k1, k2, c18, nI_clamp (show k < 2 ^ 31 by omega), reduceIte, Bool.false_eq_true, Bool.true_eq_false, Bool.true_and, Bool.false_and, Bool.and_true, Bool.and_false, decide_eq_true_eq, decide_true, decide_false, not_true_eq_false, not_false_eq_true, zbT, zbF]; rw [hin]; exact congrArg (fun x => (x, 0)) (f_st_5 c126 c122)]; exact ⟨rfl, (Qm.rf.row (Or.inl rfl))⟩)
            · refine x_iload 2 dX4_start_129 rfl ?_
              refine x_goto dX4_start_131 ?_
              exact x_iret dX4_start_136 (by rw [show p_start n r (nI k) what = (f_stN (f_stU n r k i), 0) from by simp only [p_start, k1, k2, c18, nI_clamp (show k < 2 ^ 31 by omega), reduceIte, Bool.false_eq_true, Bool.true_eq_false, Bool.true_and, Bool.false_and, Bool.and_true, Bool.and_false, decide_eq_true_eq, decide_true, decide_false, not_true_eq_false, not_false_eq_true, zbT, zbF]; rw [hin]; exact congrArg (fun x => (x, 0)) (f_st_1 c126)]; exact ⟨rfl, (Qm.rf.row (Or.inl rfl))⟩)
        · have hi := nI_lt_of (by omega) (by omega) c52
          refine x_aload_n 3 dX4_start_55 rfl ?_
          refine gfX4_9 dX4_start_56 ?_
          refine x_aload_n 3 dX4_start_59 rfl ?_
          refine gfX4_13 dX4_start_60 ?_
          refine clX4_121 (qX4_copies (by decide) (by decide) (by decide) (by decide) (by decide) ((mx_row_o (by decide)).trans h36)) (by decide) rfl dX4_start_63 (fun τ63 h63 => ?_)
          obtain rfl := h63
          refine x_mem (mx_row_row _ _ _ _) ?_
          refine x_aload_n 3 dX4_start_66 rfl ?_
          refine gfX4_13 dX4_start_67 ?_
          refine x_iconst (v := 2) dX4_start_70 (by decide) ?_
          refine x_iload 0 dX4_start_71 rfl ?_
          refine x_iastR (j := 2) (by decide) (by decide) (by decide) dX4_start_73 ?_
          refine x_mem (τ := mx_row σ 37 (upd r 2 (nI i))) (congrArg (mx_row σ 37) (show upd r 2 (nI i) = upd r 2 (nI i) from rfl)) ?_
          refine x_aload_n 3 dX4_start_74 rfl ?_
          refine gfX4_13 dX4_start_75 ?_
          refine x_iload_n 4 dX4_start_78 rfl ?_
          refine clX4_115 (gX4_weeksOn (by decide) (by decide) mx_row_s n (wf_inspAt hw hi) k (by omega)) (by decide) rfl dX4_start_79 (fun τ79 h79 => ?_)
          obtain rfl := h79
          refine x_mem (mx_row_row _ _ _ _) ?_
          refine x_aload_n 3 dX4_start_82 rfl ?_
          refine gfX4_13 dX4_start_83 ?_
          refine x_iconst (v := 4) dX4_start_86 (by decide) ?_
          refine x_ialdS (j := 4) (by decide) (by decide) (by decide) dX4_start_87 ?_
          refine x_top (show (mx_row σ 37 (f_weeks n (upd r 2 (nI i)) k)) 37 4 = (f_weeks n (upd r 2 (nI i)) k) 4 from (congrFun mx_row_s _)) ?_
          refine clX4_138 (qX4_bits ((f_weeks n (upd r 2 (nI i)) k) 4)) (by decide) rfl dX4_start_88 (fun r88 τ88 h88 => ?_)
          obtain ⟨rfl, rfl⟩ := h88
          refine x_iload 1 dX4_start_91 rfl ?_
          refine x_icmp_gt dX4_start_93 (fun c93 => ?_) (fun c93 => ?_)
          · refine x_iload 0 dX4_start_99 rfl ?_
            refine x_istore (lv' := [(4, .int (nI i)), (6, .int (nI i)), (5, .int (f_stB (-1) (f_stU n r k i))), (0, mx_rf E 35), (1, .int (nI k)), (2, .int what)]) dX4_start_101 rfl (by decide) rfl ?_
            refine x_aload_n 3 dX4_start_103 rfl ?_
            refine gfX4_13 dX4_start_104 ?_
            refine x_iconst (v := 4) dX4_start_107 (by decide) ?_
            refine x_ialdS (j := 4) (by decide) (by decide) (by decide) dX4_start_108 ?_
            refine x_top (show (mx_row σ 37 (f_weeks n (upd r 2 (nI i)) k)) 37 4 = (f_weeks n (upd r 2 (nI i)) k) 4 from (congrFun mx_row_s _)) ?_
            refine clX4_138 (qX4_bits ((f_weeks n (upd r 2 (nI i)) k) 4)) (by decide) rfl dX4_start_109 (fun r109 τ109 h109 => ?_)
            obtain ⟨rfl, rfl⟩ := h109
            refine x_istore (lv' := [(5, .int (f_bits ((f_weeks n (upd r 2 (nI i)) k) 4))), (4, .int (nI i)), (6, .int (nI i)), (0, mx_rf E 35), (1, .int (nI k)), (2, .int what)]) dX4_start_112 rfl (by decide) rfl ?_
            refine x_iinc (v := nI (i + 1)) (lv' := [(6, .int (nI (i + 1))), (5, .int (f_bits ((f_weeks n (upd r 2 (nI i)) k) 4))), (4, .int (nI i)), (0, mx_rf E 35), (1, .int (nI k)), (2, .int what)]) 2 dX4_start_114 rfl (nI_1 _) (by decide) rfl ?_
            refine x_goto dX4_start_117 ?_
            exact flM_eq (P := fun x y => MX E _ _ _ _ _ _ [(6, .int (nI (i + 1))), (5, .int y), (4, .int x), (0, mx_rf E 35), (1, .int (nI k)), (2, .int what)] _ _ _) (f_st_T2 c93) (ih44 (i + 1) (by omega) (by omega) _)
          · refine x_goto dX4_start_96 ?_
            refine x_iinc (v := nI (i + 1)) (lv' := [(6, .int (nI (i + 1))), (5, .int (f_stB (-1) (f_stU n r k i))), (4, .int (f_stN (f_stU n r k i))), (0, mx_rf E 35), (1, .int (nI k)), (2, .int what)]) 0 dX4_start_114 rfl (nI_1 _) (by decide) rfl ?_
            refine x_goto dX4_start_117 ?_
            exact flM_eq (P := fun x y => MX E _ _ _ _ _ _ [(6, .int (nI (i + 1))), (5, .int y), (4, .int x), (0, mx_rf E 35), (1, .int (nI k)), (2, .int what)] _ _ _) (f_st_F2 hw hi (by decide) c93) (ih44 (i + 1) (by omega) (by omega) _)
      refine x_lvs [0, 1, 2, 4, 5, 6] rfl ?_
      exact key44 0 (Nat.zero_le _) _
    · replace c18 := zb_0 c18
      refine x_bipush (v := -2) dX4_start_21 (by decide) ?_
      refine x_istore_n (lv' := [(3, .int (-2)), (0, mx_rf E 35), (1, .int (nI k)), (2, .int what)]) dX4_start_23 rfl (by decide) rfl ?_
      refine x_iload_n 0 dX4_start_24 rfl ?_
      refine x_if_eq dX4_start_25 (fun c => absurd c (by decide)) (fun _ => ?_)
      refine x_aload_n 1 dX4_start_28 rfl ?_
      refine x_iload_n 0 dX4_start_29 rfl ?_
      refine clX4_36 (qX4_no 2 (by decide) (by decide)) (by decide) rfl dX4_start_30 (fun r30 τ30 h30 => ?_)
      obtain ⟨rfl, rfl⟩ := h30
      exact x_iret dX4_start_33 (by rw [show p_start n r (nI k) what = ((-2 : Int32), 2) from by simp only [p_start, k1, k2, c18, nI_clamp (show k < 2 ^ 31 by omega), reduceIte, Bool.false_eq_true, Bool.true_eq_false, Bool.true_and, Bool.false_and, Bool.and_true, Bool.and_false, decide_eq_true_eq, decide_true, decide_false, not_true_eq_false, not_false_eq_true, zbT, zbF]]; exact ⟨rfl, by rw [mx_row_self]; exact Qm.no⟩)

set_option maxHeartbeats 4000000 in
theorem qX4_buy {E : mx_E} {σ : Mem} {n : Nat} {r : Row} (h36 : σ 36 = r) (hw : wf n r) (k : Int32) : MX4_buy E 7 [mx_rf E 35, .int k] σ (mx_i (fun v τ => (p_buy n r k).1 = v ∧ Qm (p_buy n r k).2 σ τ)) := by
  refine MM.of (lv := [(0, mx_rf E 35), (1, .int k)]) kpX4 rfl (Nat.le_of_ble_eq_true rfl) rfl ?_
  have hn6 := hw.1
  refine x_mem (τ := mx_row σ 37 (σ 37)) (mx_row_self σ 37).symm ?_
  refine x_iload_n 1 dX4_buy_0 rfl ?_
  refine x_iconst (v := 0) dX4_buy_1 (by decide) ?_
  refine x_bipush (v := 30) dX4_buy_2 (by decide) ?_
  refine clX4_128 (qX4_wrongBy k 0 30) (by decide) rfl dX4_buy_4 (fun r4 τ4 h4 => ?_)
  obtain ⟨rfl, rfl⟩ := h4
  rcases f_out_c (v := k) (lo := 0) (hi := 30) (l := 0) (h := 30) (by decide) (by decide) rfl rfl with ⟨k1, e⟩ | ⟨k1, k2, e⟩ | ⟨k, hk1, hk2, rfl, k1, k2, e⟩
  · refine x_top (show f_out k 0 30 = -4 from e) ?_
    refine x_istore_n (lv' := [(2, .int (-4)), (0, mx_rf E 35), (1, .int k)]) dX4_buy_7 rfl (by decide) rfl ?_
    refine x_iload_n 0 dX4_buy_8 rfl ?_
    refine x_if_eq dX4_buy_9 (fun c => absurd c (by decide)) (fun _ => ?_)
    refine x_aload_n 1 dX4_buy_12 rfl ?_
    refine x_iload_n 0 dX4_buy_13 rfl ?_
    refine clX4_36 (qX4_no 4 (by decide) (by decide)) (by decide) rfl dX4_buy_14 (fun r14 τ14 h14 => ?_)
    obtain ⟨rfl, rfl⟩ := h14
    exact x_iret dX4_buy_17 (by rw [show p_buy n r k = ((-4 : Int32), 4) from by simp only [p_buy, k1, reduceIte, Bool.false_eq_true, Bool.true_eq_false, Bool.true_and, Bool.false_and, Bool.and_true, Bool.and_false, decide_eq_true_eq, decide_true, decide_false, not_true_eq_false, not_false_eq_true, zbT, zbF]]; exact ⟨rfl, by rw [mx_row_self]; exact Qm.no⟩)
  · refine x_top (show f_out k 0 30 = -6 from e) ?_
    refine x_istore_n (lv' := [(2, .int (-6)), (0, mx_rf E 35), (1, .int k)]) dX4_buy_7 rfl (by decide) rfl ?_
    refine x_iload_n 0 dX4_buy_8 rfl ?_
    refine x_if_eq dX4_buy_9 (fun c => absurd c (by decide)) (fun _ => ?_)
    refine x_aload_n 1 dX4_buy_12 rfl ?_
    refine x_iload_n 0 dX4_buy_13 rfl ?_
    refine clX4_36 (qX4_no 6 (by decide) (by decide)) (by decide) rfl dX4_buy_14 (fun r14 τ14 h14 => ?_)
    obtain ⟨rfl, rfl⟩ := h14
    exact x_iret dX4_buy_17 (by rw [show p_buy n r k = ((-6 : Int32), 6) from by simp only [p_buy, k1, k2, reduceIte, Bool.false_eq_true, Bool.true_eq_false, Bool.true_and, Bool.false_and, Bool.and_true, Bool.and_false, decide_eq_true_eq, decide_true, decide_false, not_true_eq_false, not_false_eq_true, zbT, zbF]]; exact ⟨rfl, by rw [mx_row_self]; exact Qm.no⟩)
  · refine x_top (show f_out (nI k) 0 30 = 0 from e) ?_
    refine x_istore_n (lv' := [(2, .int 0), (0, mx_rf E 35), (1, .int (nI k))]) dX4_buy_7 rfl (by decide) rfl ?_
    refine x_iload_n 0 dX4_buy_8 rfl ?_
    refine x_if_eq dX4_buy_9 (fun _ => ?_) (fun c => absurd c (by decide))
    refine x_iconst (v := 0) dX4_buy_18 (by decide) ?_
    refine x_istore_n (lv' := [(3, .int 0), (2, .int 0), (0, mx_rf E 35), (1, .int (nI k))]) dX4_buy_19 rfl (by decide) rfl ?_
    have key20 : ∀ v, v ≤ 301 → ∀ q : Row, f_buyG n r k (301 - v) v = f_buyG n r k 301 0 → MX E 7 RX4 cX4_buy 4 (some .int) 20 [(3, .int (nI v)), (0, mx_rf E 35), (1, .int (nI k))] [] (mx_row σ 37 q) (mx_i (fun v τ => (p_buy n r (nI k)).1 = v ∧ Qm (p_buy n r (nI k)).2 σ τ)) := by
      refine mx_ind 301 (fun v hi20 ih20 => ?_)
      intro q hg
      refine x_iload_n 0 dX4_buy_20 rfl ?_
      refine x_sipush (v := 300) dX4_buy_21 (by decide) ?_
      refine x_icmp_gt dX4_buy_24 (fun c24 => ?_) (fun c24 => ?_)
      · have hv : ¬ v ≤ 300 := Nat.not_le.mpr ((nI_ltI (a := 300) (by decide) (by omega)).mp c24)
        refine x_bipush (v := -9) dX4_buy_61 (by decide) ?_
        exact x_iret dX4_buy_63 (by rw [show p_buy n r (nI k) = (f_buyG n r k 301 0, 0) from by simp only [p_buy, k1, k2, nI_clamp (show k < 2 ^ 31 by omega), reduceIte, Bool.false_eq_true, Bool.true_eq_false, Bool.true_and, Bool.false_and, Bool.and_true, Bool.and_false, decide_eq_true_eq, decide_true, decide_false, not_true_eq_false, not_false_eq_true, zbT, zbF]]; exact ⟨f_buyE hv hg, (Qm.rf.row (Or.inl rfl))⟩)
      · have hv : v ≤ 300 := nI_nlt_le (b := 300) (by omega) (by decide) c24
        refine x_aload_n 1 dX4_buy_27 rfl ?_
        refine gfX4_9 dX4_buy_28 ?_
        refine x_aload_n 1 dX4_buy_31 rfl ?_
        refine gfX4_13 dX4_buy_32 ?_
        refine clX4_121 (qX4_copies (by decide) (by decide) (by decide) (by decide) (by decide) ((mx_row_o (by decide)).trans h36)) (by decide) rfl dX4_buy_35 (fun τ35 h35 => ?_)
        obtain rfl := h35
        refine x_mem (mx_row_row _ _ _ _) ?_
        refine x_aload_n 1 dX4_buy_38 rfl ?_
        refine gfX4_13 dX4_buy_39 ?_
        refine x_iconst (v := 3) dX4_buy_42 (by decide) ?_
        refine x_iload_n 0 dX4_buy_43 rfl ?_
        refine x_iastR (j := 3) (by decide) (by decide) (by decide) dX4_buy_44 ?_
        refine x_mem (τ := mx_row σ 37 (upd r 3 (nI v))) (congrArg (mx_row σ 37) (show upd r 3 (nI v) = upd r 3 (nI v) from rfl)) ?_
        refine x_aload_n 1 dX4_buy_45 rfl ?_
        refine x_iload_n 2 dX4_buy_46 rfl ?_
        refine clX4_162 (qX4_isNoneLost ((mx_row_o (by decide)).trans h36) hw mx_row_s (wf_cand hw) k (by omega)) (by decide) rfl dX4_buy_47 (fun r47 τ47 h47 => ?_)
        obtain ⟨rfl, rfl⟩ := h47
        refine x_mem (mx_row_row _ _ _ _) ?_
        refine x_if_eq dX4_buy_50 (fun c50 => ?_) (fun c50 => ?_)
        · replace c50 := zb_0 c50
          refine x_iinc (v := nI (v + 1)) (lv' := [(3, .int (nI (v + 1))), (0, mx_rf E 35), (1, .int (nI k))]) 0 dX4_buy_55 rfl (nI_1 _) (by decide) rfl ?_
          refine x_goto dX4_buy_58 ?_
          exact ih20 (v + 1) (by omega) (by omega) _ (f_buyF hv hg c50)
        · replace c50 := zb_1 c50
          refine x_iload_n 0 dX4_buy_53 rfl ?_
          exact x_iret dX4_buy_54 (by rw [show p_buy n r (nI k) = (f_buyG n r k 301 0, 0) from by simp only [p_buy, k1, k2, nI_clamp (show k < 2 ^ 31 by omega), reduceIte, Bool.false_eq_true, Bool.true_eq_false, Bool.true_and, Bool.false_and, Bool.and_true, Bool.and_false, decide_eq_true_eq, decide_true, decide_false, not_true_eq_false, not_false_eq_true, zbT, zbF]]; exact ⟨f_buyT hv hg c50, (Qm.rf.row (Or.inl rfl))⟩)
    refine x_lvs [0, 2, 3] rfl ?_
    exact key20 0 (Nat.zero_le _) _ rfl

set_option maxHeartbeats 4000000 in
theorem qX4_bestKind {E : mx_E} {σ : Mem} {n : Nat} {r : Row} (h36 : σ 36 = r) (hw : wf n r) (house what : Int32) : MX4_bestKind E 7 [mx_rf E 35, .int house, .int what] σ (mx_i (fun v τ => (p_bestKind n r house what).1 = v ∧ Qm (p_bestKind n r house what).2 σ τ)) := by
  refine MM.of (lv := [(0, mx_rf E 35), (1, .int house), (2, .int what)]) kpX4 rfl (Nat.le_of_ble_eq_true rfl) rfl ?_
  have hn6 := hw.1
  refine x_mem (τ := mx_row σ 37 (σ 37)) (mx_row_self σ 37).symm ?_
  refine x_aload_n 0 dX4_bestKind_0 rfl ?_
  refine x_iload_n 1 dX4_bestKind_1 rfl ?_
  refine clX4_111 (qX4_isHouse ((mx_row_o (by decide)).trans h36) hw house) (by decide) rfl dX4_bestKind_2 (fun r2 τ2 h2 => ?_)
  obtain ⟨rfl, rfl⟩ := h2
  refine x_if_ne dX4_bestKind_5 (fun c5 => ?_) (fun c5 => ?_)
  · replace c5 := zb_1 c5
    obtain ⟨h, hh, rfl⟩ := f_inN_t (by omega) c5
    refine x_iload_n 2 dX4_bestKind_14 rfl ?_
    refine x_iconst (v := 0) dX4_bestKind_15 (by decide) ?_
    refine x_iconst (v := 1) dX4_bestKind_16 (by decide) ?_
    refine clX4_40 (qX4_isIn what 0 1) (by decide) rfl dX4_bestKind_17 (fun r17 τ17 h17 => ?_)
    obtain ⟨rfl, rfl⟩ := h17
    refine x_if_ne dX4_bestKind_20 (fun c20 => ?_) (fun c20 => ?_)
    · replace c20 := zb_1 c20
      refine x_iconst (v := 0) dX4_bestKind_30 (by decide) ?_
      refine x_istore_n (lv' := [(3, .int 0), (0, mx_rf E 35), (1, .int (nI h)), (2, .int what)]) dX4_bestKind_31 rfl (by decide) rfl ?_
      refine x_iconst (v := -1) dX4_bestKind_32 (by decide) ?_
      refine x_istore (lv' := [(4, .int (-1)), (3, .int 0), (0, mx_rf E 35), (1, .int (nI h)), (2, .int what)]) dX4_bestKind_33 rfl (by decide) rfl ?_
      refine x_iconst (v := 0) dX4_bestKind_35 (by decide) ?_
      refine x_istore (lv' := [(5, .int 0), (4, .int (-1)), (3, .int 0), (0, mx_rf E 35), (1, .int (nI h)), (2, .int what)]) dX4_bestKind_36 rfl (by decide) rfl ?_
      have key38 : ∀ k, k ≤ 6 → ∀ q : Row, MX E 7 RX4 cX4_bestKind 8 (some .int) 38 [(5, .int (nI k)), (4, .int ((f_bkU n r h k).2)), (3, .int (nI (f_bkU n r h k).1)), (0, mx_rf E 35), (1, .int (nI h)), (2, .int what)] [] (mx_row σ 37 q) (mx_i (fun v τ => (p_bestKind n r (nI h) what).1 = v ∧ Qm (p_bestKind n r (nI h) what).2 σ τ)) := by
        refine mx_ind 6 (fun k hi38 ih38 => ?_)
        intro q
        refine x_iload 0 dX4_bestKind_38 rfl ?_
        refine x_bipush (v := 6) dX4_bestKind_40 (by decide) ?_
        refine x_icmp_ge dX4_bestKind_42 (fun c42 => ?_) (fun c42 => ?_)
        · have hge := nI_le_of (b := 6) (by decide) (by omega) c42
          have hk6 : k = 6 := by omega
          refine x_iload_n 5 dX4_bestKind_112 rfl ?_
          refine x_if_ne dX4_bestKind_113 (fun c113 => ?_) (fun c113 => ?_)
          · refine x_iload 1 dX4_bestKind_120 rfl ?_
            refine x_bipush (v := 60) dX4_bestKind_122 (by decide) ?_
            refine x_icmp_le dX4_bestKind_124 (fun c124 => ?_) (fun c124 => ?_)
            · refine x_iload 1 dX4_bestKind_132 rfl ?_
              exact x_iret dX4_bestKind_134 (by rw [show p_bestKind n r (nI h) what = ((f_bkU n r h k).2, 0) from by simp [p_bestKind, c5, c20, nI_clamp (show h < 2 ^ 31 by omega), show f_bkU n r h 6 = f_bkU n r h k from by rw [hk6], c113, f_in001, Int32.not_lt.mpr c124]]; exact ⟨rfl, (Qm.rf.row (Or.inl rfl))⟩)
            · refine x_bipush (v := -9) dX4_bestKind_127 (by decide) ?_
              refine x_goto dX4_bestKind_129 ?_
              exact x_iret dX4_bestKind_134 (by rw [show p_bestKind n r (nI h) what = (-9, 0) from by simp [p_bestKind, c5, c20, nI_clamp (show h < 2 ^ 31 by omega), show f_bkU n r h 6 = f_bkU n r h k from by rw [hk6], c113, f_in001, Int32.not_le.mp c124]]; exact ⟨rfl, (Qm.rf.row (Or.inl rfl))⟩)
          · refine x_iload_n 2 dX4_bestKind_116 rfl ?_
            refine x_goto dX4_bestKind_117 ?_
            exact x_iret dX4_bestKind_134 (by rw [show p_bestKind n r (nI h) what = (nI (f_bkU n r h k).1, 0) from by simp [p_bestKind, c5, c20, nI_clamp (show h < 2 ^ 31 by omega), show f_bkU n r h 6 = f_bkU n r h k from by rw [hk6], c113, f_in001]]; exact ⟨rfl, (Qm.rf.row (Or.inl rfl))⟩)
        · have hk := nI_lt_of (b := 6) (by decide) (by omega) c42
          refine x_aload_n 3 dX4_bestKind_45 rfl ?_
          refine gfX4_9 dX4_bestKind_46 ?_
          refine x_aload_n 3 dX4_bestKind_49 rfl ?_
          refine gfX4_13 dX4_bestKind_50 ?_
          refine clX4_121 (qX4_copies (by decide) (by decide) (by decide) (by decide) (by decide) ((mx_row_o (by decide)).trans h36)) (by decide) rfl dX4_bestKind_53 (fun τ53 h53 => ?_)
          obtain rfl := h53
          refine x_mem (mx_row_row _ _ _ _) ?_
          refine x_aload_n 3 dX4_bestKind_56 rfl ?_
          refine gfX4_13 dX4_bestKind_57 ?_
          refine x_iload_n 4 dX4_bestKind_60 rfl ?_
          refine x_iconst (v := 0) dX4_bestKind_61 (by decide) ?_
          refine clX4_44 (qX4_of0 h) (by decide) rfl dX4_bestKind_62 (fun r62 τ62 h62 => ?_)
          obtain ⟨rfl, rfl⟩ := h62
          refine x_iload 0 dX4_bestKind_65 rfl ?_
          refine x_iastR (j := 6 + 6 * h) (by decide) (by decide) (by omega) dX4_bestKind_67 ?_
          refine x_mem (τ := mx_row σ 37 (upd r (6 + 6 * h) (nI k))) (congrArg (mx_row σ 37) (show upd r (6 + 6 * h) (nI k) = upd r (6 + 6 * h) (nI k) from rfl)) ?_
          refine x_aload_n 3 dX4_bestKind_68 rfl ?_
          refine x_iload_n 4 dX4_bestKind_69 rfl ?_
          refine clX4_145 (qX4_whenLost mx_row_s (wf_kind hw hk) (by omega)) (by decide) rfl dX4_bestKind_70 (fun r70 τ70 h70 => ?_)
          obtain ⟨rfl, q70, rfl⟩ := h70
          refine x_mem (mx_row_row _ _ _ _) ?_
          refine x_istore (lv' := [(6, .int (f_when n (upd r (6 + 6 * h) (nI k)) h)), (5, .int (nI k)), (4, .int ((f_bkU n r h k).2)), (3, .int (nI (f_bkU n r h k).1)), (0, mx_rf E 35), (1, .int (nI h)), (2, .int what)]) dX4_bestKind_73 rfl (by decide) rfl ?_
          refine x_iload 0 dX4_bestKind_75 rfl ?_
          refine x_if_ge dX4_bestKind_77 (fun c77 => ?_) (fun c77 => ?_)
          · have hv : f_bkV n r h k = f_when n (upd r (6 + 6 * h) (nI k)) h := if_neg (Int32.not_lt.mpr c77)
            refine x_iload 0 dX4_bestKind_85 rfl ?_
            refine x_istore (lv' := [(7, .int (f_when n (upd r (6 + 6 * h) (nI k)) h)), (6, .int (f_when n (upd r (6 + 6 * h) (nI k)) h)), (5, .int (nI k)), (4, .int ((f_bkU n r h k).2)), (3, .int (nI (f_bkU n r h k).1)), (0, mx_rf E 35), (1, .int (nI h)), (2, .int what)]) dX4_bestKind_87 rfl (by decide) rfl ?_
            refine x_iload 0 dX4_bestKind_89 rfl ?_
            refine x_iload 3 dX4_bestKind_91 rfl ?_
            refine x_icmp_gt dX4_bestKind_93 (fun c93 => ?_) (fun c93 => ?_)
            · refine x_iload 2 dX4_bestKind_99 rfl ?_
              refine x_istore_n (lv' := [(3, .int (nI k)), (7, .int (f_when n (upd r (6 + 6 * h) (nI k)) h)), (6, .int (f_when n (upd r (6 + 6 * h) (nI k)) h)), (5, .int (nI k)), (4, .int ((f_bkU n r h k).2)), (0, mx_rf E 35), (1, .int (nI h)), (2, .int what)]) dX4_bestKind_101 rfl (by decide) rfl ?_
              refine x_iload 1 dX4_bestKind_102 rfl ?_
              refine x_istore (lv' := [(4, .int (f_when n (upd r (6 + 6 * h) (nI k)) h)), (3, .int (nI k)), (7, .int (f_when n (upd r (6 + 6 * h) (nI k)) h)), (6, .int (f_when n (upd r (6 + 6 * h) (nI k)) h)), (5, .int (nI k)), (0, mx_rf E 35), (1, .int (nI h)), (2, .int what)]) dX4_bestKind_104 rfl (by decide) rfl ?_
              refine x_iinc (v := nI (k + 1)) (lv' := [(5, .int (nI (k + 1))), (4, .int (f_when n (upd r (6 + 6 * h) (nI k)) h)), (3, .int (nI k)), (7, .int (f_when n (upd r (6 + 6 * h) (nI k)) h)), (6, .int (f_when n (upd r (6 + 6 * h) (nI k)) h)), (0, mx_rf E 35), (1, .int (nI h)), (2, .int what)]) 4 dX4_bestKind_106 rfl (nI_1 _) (by decide) rfl ?_
              refine x_goto dX4_bestKind_109 ?_
              refine x_lvs [0, 1, 2, 5, 6, 7] rfl ?_
              exact flM_eq (P := fun x y => MX E _ _ _ _ _ _ [(5, .int (nI (k + 1))), (4, .int y), (3, .int x), (0, mx_rf E 35), (1, .int (nI h)), (2, .int what)] _ _ _) (by rw [f_bkU_T (by rw [hv]; exact c93)]; exact ⟨rfl, hv⟩) (ih38 (k + 1) (by omega) (by omega) _)
            · refine x_goto dX4_bestKind_96 ?_
              refine x_iinc (v := nI (k + 1)) (lv' := [(5, .int (nI (k + 1))), (7, .int (f_when n (upd r (6 + 6 * h) (nI k)) h)), (6, .int (f_when n (upd r (6 + 6 * h) (nI k)) h)), (4, .int ((f_bkU n r h k).2)), (3, .int (nI (f_bkU n r h k).1)), (0, mx_rf E 35), (1, .int (nI h)), (2, .int what)]) 2 dX4_bestKind_106 rfl (nI_1 _) (by decide) rfl ?_
              refine x_goto dX4_bestKind_109 ?_
              refine x_lvs [0, 3, 4, 5, 6, 7] rfl ?_
              exact flM_eq (P := fun x y => MX E _ _ _ _ _ _ [(5, .int (nI (k + 1))), (4, .int y), (3, .int x), (0, mx_rf E 35), (1, .int (nI h)), (2, .int what)] _ _ _) (by rw [(f_bkU_F (by rw [hv]; exact c93)).1]; exact ⟨rfl, rfl⟩) (ih38 (k + 1) (by omega) (by omega) _)
          · have hv : f_bkV n r h k = 61 := if_pos (Int32.not_le.mp c77)
            refine x_bipush (v := 61) dX4_bestKind_80 (by decide) ?_
            refine x_goto dX4_bestKind_82 ?_
            refine x_istore (lv' := [(7, .int 61), (6, .int (f_when n (upd r (6 + 6 * h) (nI k)) h)), (5, .int (nI k)), (4, .int ((f_bkU n r h k).2)), (3, .int (nI (f_bkU n r h k).1)), (0, mx_rf E 35), (1, .int (nI h)), (2, .int what)]) dX4_bestKind_87 rfl (by decide) rfl ?_
            refine x_iload 0 dX4_bestKind_89 rfl ?_
            refine x_iload 3 dX4_bestKind_91 rfl ?_
            refine x_icmp_gt dX4_bestKind_93 (fun c93 => ?_) (fun c93 => ?_)
            · refine x_iload 2 dX4_bestKind_99 rfl ?_
              refine x_istore_n (lv' := [(3, .int (nI k)), (7, .int 61), (6, .int (f_when n (upd r (6 + 6 * h) (nI k)) h)), (5, .int (nI k)), (4, .int ((f_bkU n r h k).2)), (0, mx_rf E 35), (1, .int (nI h)), (2, .int what)]) dX4_bestKind_101 rfl (by decide) rfl ?_
              refine x_iload 1 dX4_bestKind_102 rfl ?_
              refine x_istore (lv' := [(4, .int 61), (3, .int (nI k)), (7, .int 61), (6, .int (f_when n (upd r (6 + 6 * h) (nI k)) h)), (5, .int (nI k)), (0, mx_rf E 35), (1, .int (nI h)), (2, .int what)]) dX4_bestKind_104 rfl (by decide) rfl ?_
              refine x_iinc (v := nI (k + 1)) (lv' := [(5, .int (nI (k + 1))), (4, .int 61), (3, .int (nI k)), (7, .int 61), (6, .int (f_when n (upd r (6 + 6 * h) (nI k)) h)), (0, mx_rf E 35), (1, .int (nI h)), (2, .int what)]) 4 dX4_bestKind_106 rfl (nI_1 _) (by decide) rfl ?_
              refine x_goto dX4_bestKind_109 ?_
              refine x_lvs [0, 1, 2, 5, 6, 7] rfl ?_
              exact flM_eq (P := fun x y => MX E _ _ _ _ _ _ [(5, .int (nI (k + 1))), (4, .int y), (3, .int x), (0, mx_rf E 35), (1, .int (nI h)), (2, .int what)] _ _ _) (by rw [f_bkU_T (by rw [hv]; exact c93)]; exact ⟨rfl, hv⟩) (ih38 (k + 1) (by omega) (by omega) _)
            · refine x_goto dX4_bestKind_96 ?_
              refine x_iinc (v := nI (k + 1)) (lv' := [(5, .int (nI (k + 1))), (7, .int 61), (6, .int (f_when n (upd r (6 + 6 * h) (nI k)) h)), (4, .int ((f_bkU n r h k).2)), (3, .int (nI (f_bkU n r h k).1)), (0, mx_rf E 35), (1, .int (nI h)), (2, .int what)]) 2 dX4_bestKind_106 rfl (nI_1 _) (by decide) rfl ?_
              refine x_goto dX4_bestKind_109 ?_
              refine x_lvs [0, 3, 4, 5, 6, 7] rfl ?_
              exact flM_eq (P := fun x y => MX E _ _ _ _ _ _ [(5, .int (nI (k + 1))), (4, .int y), (3, .int x), (0, mx_rf E 35), (1, .int (nI h)), (2, .int what)] _ _ _) (by rw [(f_bkU_F (by rw [hv]; exact c93)).1]; exact ⟨rfl, rfl⟩) (ih38 (k + 1) (by omega) (by omega) _)
      exact key38 0 (Nat.zero_le _) _
    · replace c20 := zb_0 c20
      refine x_aload_n 0 dX4_bestKind_23 rfl ?_
      refine x_bipush (v := -2) dX4_bestKind_24 (by decide) ?_
      refine clX4_36 (qX4_no 2 (by decide) (by decide)) (by decide) rfl dX4_bestKind_26 (fun r26 τ26 h26 => ?_)
      obtain ⟨rfl, rfl⟩ := h26
      exact x_iret dX4_bestKind_29 (by rw [show p_bestKind n r (nI h) what = ((-2 : Int32), 2) from by simp [p_bestKind, c5, c20, nI_clamp (show h < 2 ^ 31 by omega)]]; exact ⟨rfl, by rw [mx_row_self]; exact Qm.no⟩)
  · replace c5 := zb_0 c5
    refine x_aload_n 0 dX4_bestKind_8 rfl ?_
    refine x_iconst (v := -1) dX4_bestKind_9 (by decide) ?_
    refine clX4_36 (qX4_no 1 (by decide) (by decide)) (by decide) rfl dX4_bestKind_10 (fun r10 τ10 h10 => ?_)
    obtain ⟨rfl, rfl⟩ := h10
    exact x_iret dX4_bestKind_13 (by rw [show p_bestKind n r house what = ((-1 : Int32), 1) from by simp [p_bestKind, c5]]; exact ⟨rfl, by rw [mx_row_self]; exact Qm.no⟩)

set_option maxHeartbeats 4000000 in
theorem qX4_lets {E : mx_E} {σ : Mem} {q : Row} (h37 : σ 37 = q) {h : Nat} (hh : h < 6)  : MX4_lets E 1 [mx_rf E 35, .int (nI h)] σ (mx_ve (mx_row σ 37 (f_letR q h))) := by
  refine MM.of (lv := [(0, mx_rf E 35), (1, .int (nI h))]) kpX4 rfl (Nat.le_of_ble_eq_true rfl) rfl ?_
  refine x_mem (τ := mx_row σ 37 q) (by show σ = mx_row σ 37 q; rw [← h37]; exact (mx_row_self σ 37).symm) ?_
  refine x_aload_n 0 dX4_lets_0 rfl ?_
  refine gfX4_13 dX4_lets_1 ?_
  refine x_iconst (v := 5) dX4_lets_4 (by decide) ?_
  refine x_dup2 dX4_lets_5 rfl rfl ?_
  refine x_ialdS (j := 5) (by decide) (by decide) (by decide) dX4_lets_6 ?_
  refine x_top (show (mx_row σ 37 q) 37 5 = q 5 from (congrFun mx_row_s _)) ?_
  refine x_iconst (v := 1) dX4_lets_7 (by decide) ?_
  refine x_iload_n 1 dX4_lets_8 rfl ?_
  refine x_ishl dX4_lets_9 ?_
  refine x_ior dX4_lets_10 ?_
  refine x_iastR (j := 5) (by decide) (by decide) (by decide) dX4_lets_11 ?_
  refine x_aload_n 0 dX4_lets_12 rfl ?_
  refine gfX4_13 dX4_lets_13 ?_
  refine x_iload_n 1 dX4_lets_16 rfl ?_
  refine x_iconst (v := 4) dX4_lets_17 (by decide) ?_
  refine clX4_44 (qX4_of h 4) (by decide) rfl dX4_lets_18 (fun r18 τ18 h18 => ?_)
  obtain ⟨rfl, rfl⟩ := h18
  refine x_bipush (v := 20) dX4_lets_21 (by decide) ?_
  refine x_aload_n 0 dX4_lets_23 rfl ?_
  refine gfX4_13 dX4_lets_24 ?_
  refine x_iload_n 1 dX4_lets_27 rfl ?_
  refine x_iconst (v := 4) dX4_lets_28 (by decide) ?_
  refine clX4_44 (qX4_of h 4) (by decide) rfl dX4_lets_29 (fun r29 τ29 h29 => ?_)
  obtain ⟨rfl, rfl⟩ := h29
  refine x_ialdS (j := 6 + 6 * h + 4) (by decide) (by decide) (by omega) dX4_lets_32 ?_
  refine x_top (show (mx_row σ 37 (upd q 5 ((q 5) ||| (1 <<< ((nI h) &&& 31))))) 37 (6 + 6 * h + 4) = (upd q 5 ((q 5) ||| (1 <<< ((nI h) &&& 31)))) (6 + 6 * h + 4) from (congrFun mx_row_s _)) ?_
  refine x_iconst (v := 3) dX4_lets_33 (by decide) ?_
  refine x_iadd dX4_lets_34 ?_
  refine clX4_66 (qX4_least 20 (((upd q 5 ((q 5) ||| (1 <<< ((nI h) &&& 31)))) (6 + 6 * h + 4)) + 3)) (by decide) rfl dX4_lets_35 (fun r35 τ35 h35 => ?_)
  obtain ⟨rfl, rfl⟩ := h35
  refine x_iastR (j := 6 + 6 * h + 4) (by decide) (by decide) (by omega) dX4_lets_38 ?_
  refine x_mem (τ := mx_row σ 37 (f_letR q h)) (congrArg (mx_row σ 37) (show upd (upd q 5 ((q 5) ||| (1 <<< ((nI h) &&& 31)))) (6 + 6 * h + 4) (f_least 20 (((upd q 5 ((q 5) ||| (1 <<< ((nI h) &&& 31)))) (6 + 6 * h + 4)) + 3)) = f_letR q h from by unfold f_letR; rw [upd_o (show 6 + 6 * h + 4 ≠ 5 by omega)])) ?_
  exact x_vret dX4_lets_39 rfl

set_option maxHeartbeats 4000000 in
theorem qX4_hasBy_a00 {E : mx_E} {σ : Mem} {n : Nat} {r : Row} (h36 : σ 36 = r) (hw : wf n r) (a b k : Nat) (ha : a < n) (hb : b < n) (hab : a ≠ b) (hk : k < 1000)  : MX4_hasBy E 6 [mx_rf E 35, .int (nI a), .int (nI a), .int 0, .int (nI b), .int 0, .int (nI k)] σ (mx_i (fun v τ => f_worth n r k a a b false false false = v ∧ ∃ q : Row, mx_row σ 37 q = τ)) := by
  refine MM.of (lv := [(0, mx_rf E 35), (1, .int (nI a)), (2, .int (nI a)), (3, .int 0), (4, .int (nI b)), (5, .int 0), (6, .int (nI k))]) kpX4 rfl (Nat.le_of_ble_eq_true rfl) rfl ?_
  have hn6 := hw.1
  refine x_mem (τ := mx_row σ 37 (σ 37)) (mx_row_self σ 37).symm ?_
  refine x_aload_n 0 dX4_hasBy_0 rfl ?_
  refine gfX4_9 dX4_hasBy_1 ?_
  refine x_aload_n 0 dX4_hasBy_4 rfl ?_
  refine gfX4_13 dX4_hasBy_5 ?_
  refine clX4_121 (qX4_copies (by decide) (by decide) (by decide) (by decide) (by decide) ((mx_row_o (by decide)).trans h36)) (by decide) rfl dX4_hasBy_8 (fun τ8 h8 => ?_)
  obtain rfl := h8
  refine x_mem (mx_row_row _ _ _ _) ?_
  refine x_iload_n 3 dX4_hasBy_11 rfl ?_
  refine x_iconst (v := 1) dX4_hasBy_12 (by decide) ?_
  refine x_icmp_ne dX4_hasBy_13 (fun _ => ?_) (fun c => absurd c (by decide))
  refine x_iload 5 dX4_hasBy_21 rfl ?_
  refine x_iconst (v := 1) dX4_hasBy_23 (by decide) ?_
  refine x_icmp_ne dX4_hasBy_24 (fun _ => ?_) (fun c => absurd c (by decide))
  refine x_aload_n 0 dX4_hasBy_33 rfl ?_
  refine gfX4_13 dX4_hasBy_34 ?_
  refine x_iload 6 dX4_hasBy_37 rfl ?_
  refine clX4_115 (gX4_weeksOn (by decide) (by decide) mx_row_s n hw k (by omega)) (by decide) rfl dX4_hasBy_39 (fun τ39 h39 => ?_)
  obtain rfl := h39
  refine x_mem (mx_row_row _ _ _ _) ?_
  refine x_aload_n 0 dX4_hasBy_42 rfl ?_
  refine gfX4_13 dX4_hasBy_43 ?_
  refine x_iconst (v := 4) dX4_hasBy_46 (by decide) ?_
  refine x_ialdS (j := 4) (by decide) (by decide) (by decide) dX4_hasBy_47 ?_
  refine x_top (show (mx_row σ 37 (f_weeks n r k)) 37 4 = (f_weeks n r k) 4 from (congrFun mx_row_s _)) ?_
  refine x_iload_n 1 dX4_hasBy_48 rfl ?_
  refine clX4_48 (qX4_has ((f_weeks n r k) 4) (nI a)) (by decide) rfl dX4_hasBy_49 (fun r49 τ49 h49 => ?_)
  obtain ⟨rfl, rfl⟩ := h49
  refine x_if_eq dX4_hasBy_52 (fun c52 => ?_) (fun c52 => ?_)
  · replace c52 := zb_0 c52
    have c52x : f_kept (f_weeks n r k) a = false := c52
    refine x_iconst (v := 0) dX4_hasBy_59 (by decide) ?_
    refine x_aload_n 0 dX4_hasBy_60 rfl ?_
    refine gfX4_13 dX4_hasBy_61 ?_
    refine x_iload_n 1 dX4_hasBy_64 rfl ?_
    refine x_iconst (v := 5) dX4_hasBy_65 (by decide) ?_
    refine clX4_44 (qX4_of a 5) (by decide) rfl dX4_hasBy_66 (fun r66 τ66 h66 => ?_)
    obtain ⟨rfl, rfl⟩ := h66
    refine x_ialdS (j := 6 + 6 * a + 5) (by decide) (by decide) (by omega) dX4_hasBy_69 ?_
    refine x_top (show (mx_row σ 37 (f_weeks n r k)) 37 (6 + 6 * a + 5) = (f_weeks n r k) (6 + 6 * a + 5) from (congrFun mx_row_s _)) ?_
    refine x_isub dX4_hasBy_70 ?_
    refine x_iconst (v := 2) dX4_hasBy_71 (by decide) ?_
    refine x_iload_n 1 dX4_hasBy_72 rfl ?_
    refine x_iload_n 2 dX4_hasBy_73 rfl ?_
    refine x_icmp_ne dX4_hasBy_74 (fun c74 => ?_) (fun c74 => ?_)
    · exact absurd rfl c74
    · refine x_iload_n 3 dX4_hasBy_77 rfl ?_
      refine x_goto dX4_hasBy_78 ?_
      refine x_imul dX4_hasBy_83 ?_
      refine x_top (show (2 * 0 : Int32) = 0 from by decide) ?_
      refine x_iadd dX4_hasBy_84 ?_
      exact x_iret dX4_hasBy_85 ⟨by unfold f_worth; rw [show f_lt2 r a b false false = r from rfl, c52x]; rfl, _, rfl⟩
  · replace c52 := zb_1 c52
    have c52x : f_kept (f_weeks n r k) a = true := c52
    refine x_iconst (v := 5) dX4_hasBy_55 (by decide) ?_
    refine x_goto dX4_hasBy_56 ?_
    refine x_aload_n 0 dX4_hasBy_60 rfl ?_
    refine gfX4_13 dX4_hasBy_61 ?_
    refine x_iload_n 1 dX4_hasBy_64 rfl ?_
    refine x_iconst (v := 5) dX4_hasBy_65 (by decide) ?_
    refine clX4_44 (qX4_of a 5) (by decide) rfl dX4_hasBy_66 (fun r66 τ66 h66 => ?_)
    obtain ⟨rfl, rfl⟩ := h66
    refine x_ialdS (j := 6 + 6 * a + 5) (by decide) (by decide) (by omega) dX4_hasBy_69 ?_
    refine x_top (show (mx_row σ 37 (f_weeks n r k)) 37 (6 + 6 * a + 5) = (f_weeks n r k) (6 + 6 * a + 5) from (congrFun mx_row_s _)) ?_
    refine x_isub dX4_hasBy_70 ?_
    refine x_iconst (v := 2) dX4_hasBy_71 (by decide) ?_
    refine x_iload_n 1 dX4_hasBy_72 rfl ?_
    refine x_iload_n 2 dX4_hasBy_73 rfl ?_
    refine x_icmp_ne dX4_hasBy_74 (fun c74 => ?_) (fun c74 => ?_)
    · exact absurd rfl c74
    · refine x_iload_n 3 dX4_hasBy_77 rfl ?_
      refine x_goto dX4_hasBy_78 ?_
      refine x_imul dX4_hasBy_83 ?_
      refine x_top (show (2 * 0 : Int32) = 0 from by decide) ?_
      refine x_iadd dX4_hasBy_84 ?_
      exact x_iret dX4_hasBy_85 ⟨by unfold f_worth; rw [show f_lt2 r a b false false = r from rfl, c52x]; rfl, _, rfl⟩

set_option maxHeartbeats 4000000 in
theorem qX4_hasBy_a01 {E : mx_E} {σ : Mem} {n : Nat} {r : Row} (h36 : σ 36 = r) (hw : wf n r) (a b k : Nat) (ha : a < n) (hb : b < n) (hab : a ≠ b) (hk : k < 1000)  : MX4_hasBy E 6 [mx_rf E 35, .int (nI a), .int (nI a), .int 0, .int (nI b), .int 1, .int (nI k)] σ (mx_i (fun v τ => f_worth n r k a a b false true false = v ∧ ∃ q : Row, mx_row σ 37 q = τ)) := by
  refine MM.of (lv := [(0, mx_rf E 35), (1, .int (nI a)), (2, .int (nI a)), (3, .int 0), (4, .int (nI b)), (5, .int 1), (6, .int (nI k))]) kpX4 rfl (Nat.le_of_ble_eq_true rfl) rfl ?_
  have hn6 := hw.1
  refine x_mem (τ := mx_row σ 37 (σ 37)) (mx_row_self σ 37).symm ?_
  refine x_aload_n 0 dX4_hasBy_0 rfl ?_
  refine gfX4_9 dX4_hasBy_1 ?_
  refine x_aload_n 0 dX4_hasBy_4 rfl ?_
  refine gfX4_13 dX4_hasBy_5 ?_
  refine clX4_121 (qX4_copies (by decide) (by decide) (by decide) (by decide) (by decide) ((mx_row_o (by decide)).trans h36)) (by decide) rfl dX4_hasBy_8 (fun τ8 h8 => ?_)
  obtain rfl := h8
  refine x_mem (mx_row_row _ _ _ _) ?_
  refine x_iload_n 3 dX4_hasBy_11 rfl ?_
  refine x_iconst (v := 1) dX4_hasBy_12 (by decide) ?_
  refine x_icmp_ne dX4_hasBy_13 (fun _ => ?_) (fun c => absurd c (by decide))
  refine x_iload 5 dX4_hasBy_21 rfl ?_
  refine x_iconst (v := 1) dX4_hasBy_23 (by decide) ?_
  refine x_icmp_ne dX4_hasBy_24 (fun c => absurd c (by decide)) (fun _ => ?_)
  refine x_aload_n 0 dX4_hasBy_27 rfl ?_
  refine x_iload 4 dX4_hasBy_28 rfl ?_
  refine clX4_177 (qX4_lets mx_row_s (by omega)) (by decide) rfl dX4_hasBy_30 (fun τ30 h30 => ?_)
  obtain rfl := h30
  refine x_mem (mx_row_row _ _ _ _) ?_
  refine x_aload_n 0 dX4_hasBy_33 rfl ?_
  refine gfX4_13 dX4_hasBy_34 ?_
  refine x_iload 6 dX4_hasBy_37 rfl ?_
  refine clX4_115 (gX4_weeksOn (by decide) (by decide) mx_row_s n (wf_let hw hb) k (by omega)) (by decide) rfl dX4_hasBy_39 (fun τ39 h39 => ?_)
  obtain rfl := h39
  refine x_mem (mx_row_row _ _ _ _) ?_
  refine x_aload_n 0 dX4_hasBy_42 rfl ?_
  refine gfX4_13 dX4_hasBy_43 ?_
  refine x_iconst (v := 4) dX4_hasBy_46 (by decide) ?_
  refine x_ialdS (j := 4) (by decide) (by decide) (by decide) dX4_hasBy_47 ?_
  refine x_top (show (mx_row σ 37 (f_weeks n (f_letR r b) k)) 37 4 = (f_weeks n (f_letR r b) k) 4 from (congrFun mx_row_s _)) ?_
  refine x_iload_n 1 dX4_hasBy_48 rfl ?_
  refine clX4_48 (qX4_has ((f_weeks n (f_letR r b) k) 4) (nI a)) (by decide) rfl dX4_hasBy_49 (fun r49 τ49 h49 => ?_)
  obtain ⟨rfl, rfl⟩ := h49
  refine x_if_eq dX4_hasBy_52 (fun c52 => ?_) (fun c52 => ?_)
  · replace c52 := zb_0 c52
    have c52x : f_kept (f_weeks n (f_letR r b) k) a = false := c52
    refine x_iconst (v := 0) dX4_hasBy_59 (by decide) ?_
    refine x_aload_n 0 dX4_hasBy_60 rfl ?_
    refine gfX4_13 dX4_hasBy_61 ?_
    refine x_iload_n 1 dX4_hasBy_64 rfl ?_
    refine x_iconst (v := 5) dX4_hasBy_65 (by decide) ?_
    refine clX4_44 (qX4_of a 5) (by decide) rfl dX4_hasBy_66 (fun r66 τ66 h66 => ?_)
    obtain ⟨rfl, rfl⟩ := h66
    refine x_ialdS (j := 6 + 6 * a + 5) (by decide) (by decide) (by omega) dX4_hasBy_69 ?_
    refine x_top (show (mx_row σ 37 (f_weeks n (f_letR r b) k)) 37 (6 + 6 * a + 5) = (f_weeks n (f_letR r b) k) (6 + 6 * a + 5) from (congrFun mx_row_s _)) ?_
    refine x_isub dX4_hasBy_70 ?_
    refine x_iconst (v := 2) dX4_hasBy_71 (by decide) ?_
    refine x_iload_n 1 dX4_hasBy_72 rfl ?_
    refine x_iload_n 2 dX4_hasBy_73 rfl ?_
    refine x_icmp_ne dX4_hasBy_74 (fun c74 => ?_) (fun c74 => ?_)
    · exact absurd rfl c74
    · refine x_iload_n 3 dX4_hasBy_77 rfl ?_
      refine x_goto dX4_hasBy_78 ?_
      refine x_imul dX4_hasBy_83 ?_
      refine x_top (show (2 * 0 : Int32) = 0 from by decide) ?_
      refine x_iadd dX4_hasBy_84 ?_
      exact x_iret dX4_hasBy_85 ⟨by unfold f_worth; rw [show f_lt2 r a b false true = f_letR r b from rfl, c52x]; rfl, _, rfl⟩
  · replace c52 := zb_1 c52
    have c52x : f_kept (f_weeks n (f_letR r b) k) a = true := c52
    refine x_iconst (v := 5) dX4_hasBy_55 (by decide) ?_
    refine x_goto dX4_hasBy_56 ?_
    refine x_aload_n 0 dX4_hasBy_60 rfl ?_
    refine gfX4_13 dX4_hasBy_61 ?_
    refine x_iload_n 1 dX4_hasBy_64 rfl ?_
    refine x_iconst (v := 5) dX4_hasBy_65 (by decide) ?_
    refine clX4_44 (qX4_of a 5) (by decide) rfl dX4_hasBy_66 (fun r66 τ66 h66 => ?_)
    obtain ⟨rfl, rfl⟩ := h66
    refine x_ialdS (j := 6 + 6 * a + 5) (by decide) (by decide) (by omega) dX4_hasBy_69 ?_
    refine x_top (show (mx_row σ 37 (f_weeks n (f_letR r b) k)) 37 (6 + 6 * a + 5) = (f_weeks n (f_letR r b) k) (6 + 6 * a + 5) from (congrFun mx_row_s _)) ?_
    refine x_isub dX4_hasBy_70 ?_
    refine x_iconst (v := 2) dX4_hasBy_71 (by decide) ?_
    refine x_iload_n 1 dX4_hasBy_72 rfl ?_
    refine x_iload_n 2 dX4_hasBy_73 rfl ?_
    refine x_icmp_ne dX4_hasBy_74 (fun c74 => ?_) (fun c74 => ?_)
    · exact absurd rfl c74
    · refine x_iload_n 3 dX4_hasBy_77 rfl ?_
      refine x_goto dX4_hasBy_78 ?_
      refine x_imul dX4_hasBy_83 ?_
      refine x_top (show (2 * 0 : Int32) = 0 from by decide) ?_
      refine x_iadd dX4_hasBy_84 ?_
      exact x_iret dX4_hasBy_85 ⟨by unfold f_worth; rw [show f_lt2 r a b false true = f_letR r b from rfl, c52x]; rfl, _, rfl⟩

set_option maxHeartbeats 4000000 in
theorem qX4_hasBy_a10 {E : mx_E} {σ : Mem} {n : Nat} {r : Row} (h36 : σ 36 = r) (hw : wf n r) (a b k : Nat) (ha : a < n) (hb : b < n) (hab : a ≠ b) (hk : k < 1000)  : MX4_hasBy E 6 [mx_rf E 35, .int (nI a), .int (nI a), .int 1, .int (nI b), .int 0, .int (nI k)] σ (mx_i (fun v τ => f_worth n r k a a b true false true = v ∧ ∃ q : Row, mx_row σ 37 q = τ)) := by
  refine MM.of (lv := [(0, mx_rf E 35), (1, .int (nI a)), (2, .int (nI a)), (3, .int 1), (4, .int (nI b)), (5, .int 0), (6, .int (nI k))]) kpX4 rfl (Nat.le_of_ble_eq_true rfl) rfl ?_
  have hn6 := hw.1
  refine x_mem (τ := mx_row σ 37 (σ 37)) (mx_row_self σ 37).symm ?_
  refine x_aload_n 0 dX4_hasBy_0 rfl ?_
  refine gfX4_9 dX4_hasBy_1 ?_
  refine x_aload_n 0 dX4_hasBy_4 rfl ?_
  refine gfX4_13 dX4_hasBy_5 ?_
  refine clX4_121 (qX4_copies (by decide) (by decide) (by decide) (by decide) (by decide) ((mx_row_o (by decide)).trans h36)) (by decide) rfl dX4_hasBy_8 (fun τ8 h8 => ?_)
  obtain rfl := h8
  refine x_mem (mx_row_row _ _ _ _) ?_
  refine x_iload_n 3 dX4_hasBy_11 rfl ?_
  refine x_iconst (v := 1) dX4_hasBy_12 (by decide) ?_
  refine x_icmp_ne dX4_hasBy_13 (fun c => absurd c (by decide)) (fun _ => ?_)
  refine x_aload_n 0 dX4_hasBy_16 rfl ?_
  refine x_iload_n 2 dX4_hasBy_17 rfl ?_
  refine clX4_177 (qX4_lets mx_row_s (by omega)) (by decide) rfl dX4_hasBy_18 (fun τ18 h18 => ?_)
  obtain rfl := h18
  refine x_mem (mx_row_row _ _ _ _) ?_
  refine x_iload 5 dX4_hasBy_21 rfl ?_
  refine x_iconst (v := 1) dX4_hasBy_23 (by decide) ?_
  refine x_icmp_ne dX4_hasBy_24 (fun _ => ?_) (fun c => absurd c (by decide))
  refine x_aload_n 0 dX4_hasBy_33 rfl ?_
  refine gfX4_13 dX4_hasBy_34 ?_
  refine x_iload 6 dX4_hasBy_37 rfl ?_
  refine clX4_115 (gX4_weeksOn (by decide) (by decide) mx_row_s n (wf_let hw ha) k (by omega)) (by decide) rfl dX4_hasBy_39 (fun τ39 h39 => ?_)
  obtain rfl := h39
  refine x_mem (mx_row_row _ _ _ _) ?_
  refine x_aload_n 0 dX4_hasBy_42 rfl ?_
  refine gfX4_13 dX4_hasBy_43 ?_
  refine x_iconst (v := 4) dX4_hasBy_46 (by decide) ?_
  refine x_ialdS (j := 4) (by decide) (by decide) (by decide) dX4_hasBy_47 ?_
  refine x_top (show (mx_row σ 37 (f_weeks n (f_letR r a) k)) 37 4 = (f_weeks n (f_letR r a) k) 4 from (congrFun mx_row_s _)) ?_
  refine x_iload_n 1 dX4_hasBy_48 rfl ?_
  refine clX4_48 (qX4_has ((f_weeks n (f_letR r a) k) 4) (nI a)) (by decide) rfl dX4_hasBy_49 (fun r49 τ49 h49 => ?_)
  obtain ⟨rfl, rfl⟩ := h49
  refine x_if_eq dX4_hasBy_52 (fun c52 => ?_) (fun c52 => ?_)
  · replace c52 := zb_0 c52
    have c52x : f_kept (f_weeks n (f_letR r a) k) a = false := c52
    refine x_iconst (v := 0) dX4_hasBy_59 (by decide) ?_
    refine x_aload_n 0 dX4_hasBy_60 rfl ?_
    refine gfX4_13 dX4_hasBy_61 ?_
    refine x_iload_n 1 dX4_hasBy_64 rfl ?_
    refine x_iconst (v := 5) dX4_hasBy_65 (by decide) ?_
    refine clX4_44 (qX4_of a 5) (by decide) rfl dX4_hasBy_66 (fun r66 τ66 h66 => ?_)
    obtain ⟨rfl, rfl⟩ := h66
    refine x_ialdS (j := 6 + 6 * a + 5) (by decide) (by decide) (by omega) dX4_hasBy_69 ?_
    refine x_top (show (mx_row σ 37 (f_weeks n (f_letR r a) k)) 37 (6 + 6 * a + 5) = (f_weeks n (f_letR r a) k) (6 + 6 * a + 5) from (congrFun mx_row_s _)) ?_
    refine x_isub dX4_hasBy_70 ?_
    refine x_iconst (v := 2) dX4_hasBy_71 (by decide) ?_
    refine x_iload_n 1 dX4_hasBy_72 rfl ?_
    refine x_iload_n 2 dX4_hasBy_73 rfl ?_
    refine x_icmp_ne dX4_hasBy_74 (fun c74 => ?_) (fun c74 => ?_)
    · exact absurd rfl c74
    · refine x_iload_n 3 dX4_hasBy_77 rfl ?_
      refine x_goto dX4_hasBy_78 ?_
      refine x_imul dX4_hasBy_83 ?_
      refine x_top (show (2 * 1 : Int32) = 2 from by decide) ?_
      refine x_iadd dX4_hasBy_84 ?_
      exact x_iret dX4_hasBy_85 ⟨by unfold f_worth; rw [show f_lt2 r a b true false = f_letR r a from rfl, c52x]; rfl, _, rfl⟩
  · replace c52 := zb_1 c52
    have c52x : f_kept (f_weeks n (f_letR r a) k) a = true := c52
    refine x_iconst (v := 5) dX4_hasBy_55 (by decide) ?_
    refine x_goto dX4_hasBy_56 ?_
    refine x_aload_n 0 dX4_hasBy_60 rfl ?_
    refine gfX4_13 dX4_hasBy_61 ?_
    refine x_iload_n 1 dX4_hasBy_64 rfl ?_
    refine x_iconst (v := 5) dX4_hasBy_65 (by decide) ?_
    refine clX4_44 (qX4_of a 5) (by decide) rfl dX4_hasBy_66 (fun r66 τ66 h66 => ?_)
    obtain ⟨rfl, rfl⟩ := h66
    refine x_ialdS (j := 6 + 6 * a + 5) (by decide) (by decide) (by omega) dX4_hasBy_69 ?_
    refine x_top (show (mx_row σ 37 (f_weeks n (f_letR r a) k)) 37 (6 + 6 * a + 5) = (f_weeks n (f_letR r a) k) (6 + 6 * a + 5) from (congrFun mx_row_s _)) ?_
    refine x_isub dX4_hasBy_70 ?_
    refine x_iconst (v := 2) dX4_hasBy_71 (by decide) ?_
    refine x_iload_n 1 dX4_hasBy_72 rfl ?_
    refine x_iload_n 2 dX4_hasBy_73 rfl ?_
    refine x_icmp_ne dX4_hasBy_74 (fun c74 => ?_) (fun c74 => ?_)
    · exact absurd rfl c74
    · refine x_iload_n 3 dX4_hasBy_77 rfl ?_
      refine x_goto dX4_hasBy_78 ?_
      refine x_imul dX4_hasBy_83 ?_
      refine x_top (show (2 * 1 : Int32) = 2 from by decide) ?_
      refine x_iadd dX4_hasBy_84 ?_
      exact x_iret dX4_hasBy_85 ⟨by unfold f_worth; rw [show f_lt2 r a b true false = f_letR r a from rfl, c52x]; rfl, _, rfl⟩

set_option maxHeartbeats 4000000 in
theorem qX4_hasBy_a11 {E : mx_E} {σ : Mem} {n : Nat} {r : Row} (h36 : σ 36 = r) (hw : wf n r) (a b k : Nat) (ha : a < n) (hb : b < n) (hab : a ≠ b) (hk : k < 1000)  : MX4_hasBy E 6 [mx_rf E 35, .int (nI a), .int (nI a), .int 1, .int (nI b), .int 1, .int (nI k)] σ (mx_i (fun v τ => f_worth n r k a a b true true true = v ∧ ∃ q : Row, mx_row σ 37 q = τ)) := by
  refine MM.of (lv := [(0, mx_rf E 35), (1, .int (nI a)), (2, .int (nI a)), (3, .int 1), (4, .int (nI b)), (5, .int 1), (6, .int (nI k))]) kpX4 rfl (Nat.le_of_ble_eq_true rfl) rfl ?_
  have hn6 := hw.1
  refine x_mem (τ := mx_row σ 37 (σ 37)) (mx_row_self σ 37).symm ?_
  refine x_aload_n 0 dX4_hasBy_0 rfl ?_
  refine gfX4_9 dX4_hasBy_1 ?_
  refine x_aload_n 0 dX4_hasBy_4 rfl ?_
  refine gfX4_13 dX4_hasBy_5 ?_
  refine clX4_121 (qX4_copies (by decide) (by decide) (by decide) (by decide) (by decide) ((mx_row_o (by decide)).trans h36)) (by decide) rfl dX4_hasBy_8 (fun τ8 h8 => ?_)
  obtain rfl := h8
  refine x_mem (mx_row_row _ _ _ _) ?_
  refine x_iload_n 3 dX4_hasBy_11 rfl ?_
  refine x_iconst (v := 1) dX4_hasBy_12 (by decide) ?_
  refine x_icmp_ne dX4_hasBy_13 (fun c => absurd c (by decide)) (fun _ => ?_)
  refine x_aload_n 0 dX4_hasBy_16 rfl ?_
  refine x_iload_n 2 dX4_hasBy_17 rfl ?_
  refine clX4_177 (qX4_lets mx_row_s (by omega)) (by decide) rfl dX4_hasBy_18 (fun τ18 h18 => ?_)
  obtain rfl := h18
  refine x_mem (mx_row_row _ _ _ _) ?_
  refine x_iload 5 dX4_hasBy_21 rfl ?_
  refine x_iconst (v := 1) dX4_hasBy_23 (by decide) ?_
  refine x_icmp_ne dX4_hasBy_24 (fun c => absurd c (by decide)) (fun _ => ?_)
  refine x_aload_n 0 dX4_hasBy_27 rfl ?_
  refine x_iload 4 dX4_hasBy_28 rfl ?_
  refine clX4_177 (qX4_lets mx_row_s (by omega)) (by decide) rfl dX4_hasBy_30 (fun τ30 h30 => ?_)
  obtain rfl := h30
  refine x_mem (mx_row_row _ _ _ _) ?_
  refine x_aload_n 0 dX4_hasBy_33 rfl ?_
  refine gfX4_13 dX4_hasBy_34 ?_
  refine x_iload 6 dX4_hasBy_37 rfl ?_
  refine clX4_115 (gX4_weeksOn (by decide) (by decide) mx_row_s n (wf_let (wf_let hw ha) hb) k (by omega)) (by decide) rfl dX4_hasBy_39 (fun τ39 h39 => ?_)
  obtain rfl := h39
  refine x_mem (mx_row_row _ _ _ _) ?_
  refine x_aload_n 0 dX4_hasBy_42 rfl ?_
  refine gfX4_13 dX4_hasBy_43 ?_
  refine x_iconst (v := 4) dX4_hasBy_46 (by decide) ?_
  refine x_ialdS (j := 4) (by decide) (by decide) (by decide) dX4_hasBy_47 ?_
  refine x_top (show (mx_row σ 37 (f_weeks n (f_letR (f_letR r a) b) k)) 37 4 = (f_weeks n (f_letR (f_letR r a) b) k) 4 from (congrFun mx_row_s _)) ?_
  refine x_iload_n 1 dX4_hasBy_48 rfl ?_
  refine clX4_48 (qX4_has ((f_weeks n (f_letR (f_letR r a) b) k) 4) (nI a)) (by decide) rfl dX4_hasBy_49 (fun r49 τ49 h49 => ?_)
  obtain ⟨rfl, rfl⟩ := h49
  refine x_if_eq dX4_hasBy_52 (fun c52 => ?_) (fun c52 => ?_)
  · replace c52 := zb_0 c52
    have c52x : f_kept (f_weeks n (f_letR (f_letR r a) b) k) a = false := c52
    refine x_iconst (v := 0) dX4_hasBy_59 (by decide) ?_
    refine x_aload_n 0 dX4_hasBy_60 rfl ?_
    refine gfX4_13 dX4_hasBy_61 ?_
    refine x_iload_n 1 dX4_hasBy_64 rfl ?_
    refine x_iconst (v := 5) dX4_hasBy_65 (by decide) ?_
    refine clX4_44 (qX4_of a 5) (by decide) rfl dX4_hasBy_66 (fun r66 τ66 h66 => ?_)
    obtain ⟨rfl, rfl⟩ := h66
    refine x_ialdS (j := 6 + 6 * a + 5) (by decide) (by decide) (by omega) dX4_hasBy_69 ?_
    refine x_top (show (mx_row σ 37 (f_weeks n (f_letR (f_letR r a) b) k)) 37 (6 + 6 * a + 5) = (f_weeks n (f_letR (f_letR r a) b) k) (6 + 6 * a + 5) from (congrFun mx_row_s _)) ?_
    refine x_isub dX4_hasBy_70 ?_
    refine x_iconst (v := 2) dX4_hasBy_71 (by decide) ?_
    refine x_iload_n 1 dX4_hasBy_72 rfl ?_
    refine x_iload_n 2 dX4_hasBy_73 rfl ?_
    refine x_icmp_ne dX4_hasBy_74 (fun c74 => ?_) (fun c74 => ?_)
    · exact absurd rfl c74
    · refine x_iload_n 3 dX4_hasBy_77 rfl ?_
      refine x_goto dX4_hasBy_78 ?_
      refine x_imul dX4_hasBy_83 ?_
      refine x_top (show (2 * 1 : Int32) = 2 from by decide) ?_
      refine x_iadd dX4_hasBy_84 ?_
      exact x_iret dX4_hasBy_85 ⟨by unfold f_worth; rw [show f_lt2 r a b true true = f_letR (f_letR r a) b from rfl, c52x]; rfl, _, rfl⟩
  · replace c52 := zb_1 c52
    have c52x : f_kept (f_weeks n (f_letR (f_letR r a) b) k) a = true := c52
    refine x_iconst (v := 5) dX4_hasBy_55 (by decide) ?_
    refine x_goto dX4_hasBy_56 ?_
    refine x_aload_n 0 dX4_hasBy_60 rfl ?_
    refine gfX4_13 dX4_hasBy_61 ?_
    refine x_iload_n 1 dX4_hasBy_64 rfl ?_
    refine x_iconst (v := 5) dX4_hasBy_65 (by decide) ?_
    refine clX4_44 (qX4_of a 5) (by decide) rfl dX4_hasBy_66 (fun r66 τ66 h66 => ?_)
    obtain ⟨rfl, rfl⟩ := h66
    refine x_ialdS (j := 6 + 6 * a + 5) (by decide) (by decide) (by omega) dX4_hasBy_69 ?_
    refine x_top (show (mx_row σ 37 (f_weeks n (f_letR (f_letR r a) b) k)) 37 (6 + 6 * a + 5) = (f_weeks n (f_letR (f_letR r a) b) k) (6 + 6 * a + 5) from (congrFun mx_row_s _)) ?_
    refine x_isub dX4_hasBy_70 ?_
    refine x_iconst (v := 2) dX4_hasBy_71 (by decide) ?_
    refine x_iload_n 1 dX4_hasBy_72 rfl ?_
    refine x_iload_n 2 dX4_hasBy_73 rfl ?_
    refine x_icmp_ne dX4_hasBy_74 (fun c74 => ?_) (fun c74 => ?_)
    · exact absurd rfl c74
    · refine x_iload_n 3 dX4_hasBy_77 rfl ?_
      refine x_goto dX4_hasBy_78 ?_
      refine x_imul dX4_hasBy_83 ?_
      refine x_top (show (2 * 1 : Int32) = 2 from by decide) ?_
      refine x_iadd dX4_hasBy_84 ?_
      exact x_iret dX4_hasBy_85 ⟨by unfold f_worth; rw [show f_lt2 r a b true true = f_letR (f_letR r a) b from rfl, c52x]; rfl, _, rfl⟩

set_option maxHeartbeats 4000000 in
theorem qX4_hasBy_b00 {E : mx_E} {σ : Mem} {n : Nat} {r : Row} (h36 : σ 36 = r) (hw : wf n r) (a b k : Nat) (ha : a < n) (hb : b < n) (hab : a ≠ b) (hk : k < 1000)  : MX4_hasBy E 6 [mx_rf E 35, .int (nI b), .int (nI a), .int 0, .int (nI b), .int 0, .int (nI k)] σ (mx_i (fun v τ => f_worth n r k b a b false false false = v ∧ ∃ q : Row, mx_row σ 37 q = τ)) := by
  refine MM.of (lv := [(0, mx_rf E 35), (1, .int (nI b)), (2, .int (nI a)), (3, .int 0), (4, .int (nI b)), (5, .int 0), (6, .int (nI k))]) kpX4 rfl (Nat.le_of_ble_eq_true rfl) rfl ?_
  have hn6 := hw.1
  refine x_mem (τ := mx_row σ 37 (σ 37)) (mx_row_self σ 37).symm ?_
  refine x_aload_n 0 dX4_hasBy_0 rfl ?_
  refine gfX4_9 dX4_hasBy_1 ?_
  refine x_aload_n 0 dX4_hasBy_4 rfl ?_
  refine gfX4_13 dX4_hasBy_5 ?_
  refine clX4_121 (qX4_copies (by decide) (by decide) (by decide) (by decide) (by decide) ((mx_row_o (by decide)).trans h36)) (by decide) rfl dX4_hasBy_8 (fun τ8 h8 => ?_)
  obtain rfl := h8
  refine x_mem (mx_row_row _ _ _ _) ?_
  refine x_iload_n 3 dX4_hasBy_11 rfl ?_
  refine x_iconst (v := 1) dX4_hasBy_12 (by decide) ?_
  refine x_icmp_ne dX4_hasBy_13 (fun _ => ?_) (fun c => absurd c (by decide))
  refine x_iload 5 dX4_hasBy_21 rfl ?_
  refine x_iconst (v := 1) dX4_hasBy_23 (by decide) ?_
  refine x_icmp_ne dX4_hasBy_24 (fun _ => ?_) (fun c => absurd c (by decide))
  refine x_aload_n 0 dX4_hasBy_33 rfl ?_
  refine gfX4_13 dX4_hasBy_34 ?_
  refine x_iload 6 dX4_hasBy_37 rfl ?_
  refine clX4_115 (gX4_weeksOn (by decide) (by decide) mx_row_s n hw k (by omega)) (by decide) rfl dX4_hasBy_39 (fun τ39 h39 => ?_)
  obtain rfl := h39
  refine x_mem (mx_row_row _ _ _ _) ?_
  refine x_aload_n 0 dX4_hasBy_42 rfl ?_
  refine gfX4_13 dX4_hasBy_43 ?_
  refine x_iconst (v := 4) dX4_hasBy_46 (by decide) ?_
  refine x_ialdS (j := 4) (by decide) (by decide) (by decide) dX4_hasBy_47 ?_
  refine x_top (show (mx_row σ 37 (f_weeks n r k)) 37 4 = (f_weeks n r k) 4 from (congrFun mx_row_s _)) ?_
  refine x_iload_n 1 dX4_hasBy_48 rfl ?_
  refine clX4_48 (qX4_has ((f_weeks n r k) 4) (nI b)) (by decide) rfl dX4_hasBy_49 (fun r49 τ49 h49 => ?_)
  obtain ⟨rfl, rfl⟩ := h49
  refine x_if_eq dX4_hasBy_52 (fun c52 => ?_) (fun c52 => ?_)
  · replace c52 := zb_0 c52
    have c52x : f_kept (f_weeks n r k) b = false := c52
    refine x_iconst (v := 0) dX4_hasBy_59 (by decide) ?_
    refine x_aload_n 0 dX4_hasBy_60 rfl ?_
    refine gfX4_13 dX4_hasBy_61 ?_
    refine x_iload_n 1 dX4_hasBy_64 rfl ?_
    refine x_iconst (v := 5) dX4_hasBy_65 (by decide) ?_
    refine clX4_44 (qX4_of b 5) (by decide) rfl dX4_hasBy_66 (fun r66 τ66 h66 => ?_)
    obtain ⟨rfl, rfl⟩ := h66
    refine x_ialdS (j := 6 + 6 * b + 5) (by decide) (by decide) (by omega) dX4_hasBy_69 ?_
    refine x_top (show (mx_row σ 37 (f_weeks n r k)) 37 (6 + 6 * b + 5) = (f_weeks n r k) (6 + 6 * b + 5) from (congrFun mx_row_s _)) ?_
    refine x_isub dX4_hasBy_70 ?_
    refine x_iconst (v := 2) dX4_hasBy_71 (by decide) ?_
    refine x_iload_n 1 dX4_hasBy_72 rfl ?_
    refine x_iload_n 2 dX4_hasBy_73 rfl ?_
    refine x_icmp_ne dX4_hasBy_74 (fun c74 => ?_) (fun c74 => ?_)
    · refine x_iload 5 dX4_hasBy_81 rfl ?_
      refine x_imul dX4_hasBy_83 ?_
      refine x_top (show (2 * 0 : Int32) = 0 from by decide) ?_
      refine x_iadd dX4_hasBy_84 ?_
      exact x_iret dX4_hasBy_85 ⟨by unfold f_worth; rw [show f_lt2 r a b false false = r from rfl, c52x]; rfl, _, rfl⟩
    · exact absurd ((nI_eq (by omega) (by omega)).mp c74) (fun z => hab z.symm)
  · replace c52 := zb_1 c52
    have c52x : f_kept (f_weeks n r k) b = true := c52
    refine x_iconst (v := 5) dX4_hasBy_55 (by decide) ?_
    refine x_goto dX4_hasBy_56 ?_
    refine x_aload_n 0 dX4_hasBy_60 rfl ?_
    refine gfX4_13 dX4_hasBy_61 ?_
    refine x_iload_n 1 dX4_hasBy_64 rfl ?_
    refine x_iconst (v := 5) dX4_hasBy_65 (by decide) ?_
    refine clX4_44 (qX4_of b 5) (by decide) rfl dX4_hasBy_66 (fun r66 τ66 h66 => ?_)
    obtain ⟨rfl, rfl⟩ := h66
    refine x_ialdS (j := 6 + 6 * b + 5) (by decide) (by decide) (by omega) dX4_hasBy_69 ?_
    refine x_top (show (mx_row σ 37 (f_weeks n r k)) 37 (6 + 6 * b + 5) = (f_weeks n r k) (6 + 6 * b + 5) from (congrFun mx_row_s _)) ?_
    refine x_isub dX4_hasBy_70 ?_
    refine x_iconst (v := 2) dX4_hasBy_71 (by decide) ?_
    refine x_iload_n 1 dX4_hasBy_72 rfl ?_
    refine x_iload_n 2 dX4_hasBy_73 rfl ?_
    refine x_icmp_ne dX4_hasBy_74 (fun c74 => ?_) (fun c74 => ?_)
    · refine x_iload 5 dX4_hasBy_81 rfl ?_
      refine x_imul dX4_hasBy_83 ?_
      refine x_top (show (2 * 0 : Int32) = 0 from by decide) ?_
      refine x_iadd dX4_hasBy_84 ?_
      exact x_iret dX4_hasBy_85 ⟨by unfold f_worth; rw [show f_lt2 r a b false false = r from rfl, c52x]; rfl, _, rfl⟩
    · exact absurd ((nI_eq (by omega) (by omega)).mp c74) (fun z => hab z.symm)

set_option maxHeartbeats 4000000 in
theorem qX4_hasBy_b01 {E : mx_E} {σ : Mem} {n : Nat} {r : Row} (h36 : σ 36 = r) (hw : wf n r) (a b k : Nat) (ha : a < n) (hb : b < n) (hab : a ≠ b) (hk : k < 1000)  : MX4_hasBy E 6 [mx_rf E 35, .int (nI b), .int (nI a), .int 0, .int (nI b), .int 1, .int (nI k)] σ (mx_i (fun v τ => f_worth n r k b a b false true true = v ∧ ∃ q : Row, mx_row σ 37 q = τ)) := by
  refine MM.of (lv := [(0, mx_rf E 35), (1, .int (nI b)), (2, .int (nI a)), (3, .int 0), (4, .int (nI b)), (5, .int 1), (6, .int (nI k))]) kpX4 rfl (Nat.le_of_ble_eq_true rfl) rfl ?_
  have hn6 := hw.1
  refine x_mem (τ := mx_row σ 37 (σ 37)) (mx_row_self σ 37).symm ?_
  refine x_aload_n 0 dX4_hasBy_0 rfl ?_
  refine gfX4_9 dX4_hasBy_1 ?_
  refine x_aload_n 0 dX4_hasBy_4 rfl ?_
  refine gfX4_13 dX4_hasBy_5 ?_
  refine clX4_121 (qX4_copies (by decide) (by decide) (by decide) (by decide) (by decide) ((mx_row_o (by decide)).trans h36)) (by decide) rfl dX4_hasBy_8 (fun τ8 h8 => ?_)
  obtain rfl := h8
  refine x_mem (mx_row_row _ _ _ _) ?_
  refine x_iload_n 3 dX4_hasBy_11 rfl ?_
  refine x_iconst (v := 1) dX4_hasBy_12 (by decide) ?_
  refine x_icmp_ne dX4_hasBy_13 (fun _ => ?_) (fun c => absurd c (by decide))
  refine x_iload 5 dX4_hasBy_21 rfl ?_
  refine x_iconst (v := 1) dX4_hasBy_23 (by decide) ?_
  refine x_icmp_ne dX4_hasBy_24 (fun c => absurd c (by decide)) (fun _ => ?_)
  refine x_aload_n 0 dX4_hasBy_27 rfl ?_
  refine x_iload 4 dX4_hasBy_28 rfl ?_
  refine clX4_177 (qX4_lets mx_row_s (by omega)) (by decide) rfl dX4_hasBy_30 (fun τ30 h30 => ?_)
  obtain rfl := h30
  refine x_mem (mx_row_row _ _ _ _) ?_
  refine x_aload_n 0 dX4_hasBy_33 rfl ?_
  refine gfX4_13 dX4_hasBy_34 ?_
  refine x_iload 6 dX4_hasBy_37 rfl ?_
  refine clX4_115 (gX4_weeksOn (by decide) (by decide) mx_row_s n (wf_let hw hb) k (by omega)) (by decide) rfl dX4_hasBy_39 (fun τ39 h39 => ?_)
  obtain rfl := h39
  refine x_mem (mx_row_row _ _ _ _) ?_
  refine x_aload_n 0 dX4_hasBy_42 rfl ?_
  refine gfX4_13 dX4_hasBy_43 ?_
  refine x_iconst (v := 4) dX4_hasBy_46 (by decide) ?_
  refine x_ialdS (j := 4) (by decide) (by decide) (by decide) dX4_hasBy_47 ?_
  refine x_top (show (mx_row σ 37 (f_weeks n (f_letR r b) k)) 37 4 = (f_weeks n (f_letR r b) k) 4 from (congrFun mx_row_s _)) ?_
  refine x_iload_n 1 dX4_hasBy_48 rfl ?_
  refine clX4_48 (qX4_has ((f_weeks n (f_letR r b) k) 4) (nI b)) (by decide) rfl dX4_hasBy_49 (fun r49 τ49 h49 => ?_)
  obtain ⟨rfl, rfl⟩ := h49
  refine x_if_eq dX4_hasBy_52 (fun c52 => ?_) (fun c52 => ?_)
  · replace c52 := zb_0 c52
    have c52x : f_kept (f_weeks n (f_letR r b) k) b = false := c52
    refine x_iconst (v := 0) dX4_hasBy_59 (by decide) ?_
    refine x_aload_n 0 dX4_hasBy_60 rfl ?_
    refine gfX4_13 dX4_hasBy_61 ?_
    refine x_iload_n 1 dX4_hasBy_64 rfl ?_
    refine x_iconst (v := 5) dX4_hasBy_65 (by decide) ?_
    refine clX4_44 (qX4_of b 5) (by decide) rfl dX4_hasBy_66 (fun r66 τ66 h66 => ?_)
    obtain ⟨rfl, rfl⟩ := h66
    refine x_ialdS (j := 6 + 6 * b + 5) (by decide) (by decide) (by omega) dX4_hasBy_69 ?_
    refine x_top (show (mx_row σ 37 (f_weeks n (f_letR r b) k)) 37 (6 + 6 * b + 5) = (f_weeks n (f_letR r b) k) (6 + 6 * b + 5) from (congrFun mx_row_s _)) ?_
    refine x_isub dX4_hasBy_70 ?_
    refine x_iconst (v := 2) dX4_hasBy_71 (by decide) ?_
    refine x_iload_n 1 dX4_hasBy_72 rfl ?_
    refine x_iload_n 2 dX4_hasBy_73 rfl ?_
    refine x_icmp_ne dX4_hasBy_74 (fun c74 => ?_) (fun c74 => ?_)
    · refine x_iload 5 dX4_hasBy_81 rfl ?_
      refine x_imul dX4_hasBy_83 ?_
      refine x_top (show (2 * 1 : Int32) = 2 from by decide) ?_
      refine x_iadd dX4_hasBy_84 ?_
      exact x_iret dX4_hasBy_85 ⟨by unfold f_worth; rw [show f_lt2 r a b false true = f_letR r b from rfl, c52x]; rfl, _, rfl⟩
    · exact absurd ((nI_eq (by omega) (by omega)).mp c74) (fun z => hab z.symm)
  · replace c52 := zb_1 c52
    have c52x : f_kept (f_weeks n (f_letR r b) k) b = true := c52
    refine x_iconst (v := 5) dX4_hasBy_55 (by decide) ?_
    refine x_goto dX4_hasBy_56 ?_
    refine x_aload_n 0 dX4_hasBy_60 rfl ?_
    refine gfX4_13 dX4_hasBy_61 ?_
    refine x_iload_n 1 dX4_hasBy_64 rfl ?_
    refine x_iconst (v := 5) dX4_hasBy_65 (by decide) ?_
    refine clX4_44 (qX4_of b 5) (by decide) rfl dX4_hasBy_66 (fun r66 τ66 h66 => ?_)
    obtain ⟨rfl, rfl⟩ := h66
    refine x_ialdS (j := 6 + 6 * b + 5) (by decide) (by decide) (by omega) dX4_hasBy_69 ?_
    refine x_top (show (mx_row σ 37 (f_weeks n (f_letR r b) k)) 37 (6 + 6 * b + 5) = (f_weeks n (f_letR r b) k) (6 + 6 * b + 5) from (congrFun mx_row_s _)) ?_
    refine x_isub dX4_hasBy_70 ?_
    refine x_iconst (v := 2) dX4_hasBy_71 (by decide) ?_
    refine x_iload_n 1 dX4_hasBy_72 rfl ?_
    refine x_iload_n 2 dX4_hasBy_73 rfl ?_
    refine x_icmp_ne dX4_hasBy_74 (fun c74 => ?_) (fun c74 => ?_)
    · refine x_iload 5 dX4_hasBy_81 rfl ?_
      refine x_imul dX4_hasBy_83 ?_
      refine x_top (show (2 * 1 : Int32) = 2 from by decide) ?_
      refine x_iadd dX4_hasBy_84 ?_
      exact x_iret dX4_hasBy_85 ⟨by unfold f_worth; rw [show f_lt2 r a b false true = f_letR r b from rfl, c52x]; rfl, _, rfl⟩
    · exact absurd ((nI_eq (by omega) (by omega)).mp c74) (fun z => hab z.symm)

set_option maxHeartbeats 4000000 in
theorem qX4_hasBy_b10 {E : mx_E} {σ : Mem} {n : Nat} {r : Row} (h36 : σ 36 = r) (hw : wf n r) (a b k : Nat) (ha : a < n) (hb : b < n) (hab : a ≠ b) (hk : k < 1000)  : MX4_hasBy E 6 [mx_rf E 35, .int (nI b), .int (nI a), .int 1, .int (nI b), .int 0, .int (nI k)] σ (mx_i (fun v τ => f_worth n r k b a b true false false = v ∧ ∃ q : Row, mx_row σ 37 q = τ)) := by
  refine MM.of (lv := [(0, mx_rf E 35), (1, .int (nI b)), (2, .int (nI a)), (3, .int 1), (4, .int (nI b)), (5, .int 0), (6, .int (nI k))]) kpX4 rfl (Nat.le_of_ble_eq_true rfl) rfl ?_
  have hn6 := hw.1
  refine x_mem (τ := mx_row σ 37 (σ 37)) (mx_row_self σ 37).symm ?_
  refine x_aload_n 0 dX4_hasBy_0 rfl ?_
  refine gfX4_9 dX4_hasBy_1 ?_
  refine x_aload_n 0 dX4_hasBy_4 rfl ?_
  refine gfX4_13 dX4_hasBy_5 ?_
  refine clX4_121 (qX4_copies (by decide) (by decide) (by decide) (by decide) (by decide) ((mx_row_o (by decide)).trans h36)) (by decide) rfl dX4_hasBy_8 (fun τ8 h8 => ?_)
  obtain rfl := h8
  refine x_mem (mx_row_row _ _ _ _) ?_
  refine x_iload_n 3 dX4_hasBy_11 rfl ?_
  refine x_iconst (v := 1) dX4_hasBy_12 (by decide) ?_
  refine x_icmp_ne dX4_hasBy_13 (fun c => absurd c (by decide)) (fun _ => ?_)
  refine x_aload_n 0 dX4_hasBy_16 rfl ?_
  refine x_iload_n 2 dX4_hasBy_17 rfl ?_
  refine clX4_177 (qX4_lets mx_row_s (by omega)) (by decide) rfl dX4_hasBy_18 (fun τ18 h18 => ?_)
  obtain rfl := h18
  refine x_mem (mx_row_row _ _ _ _) ?_
  refine x_iload 5 dX4_hasBy_21 rfl ?_
  refine x_iconst (v := 1) dX4_hasBy_23 (by decide) ?_
  refine x_icmp_ne dX4_hasBy_24 (fun _ => ?_) (fun c => absurd c (by decide))
  refine x_aload_n 0 dX4_hasBy_33 rfl ?_
  refine gfX4_13 dX4_hasBy_34 ?_
  refine x_iload 6 dX4_hasBy_37 rfl ?_
  refine clX4_115 (gX4_weeksOn (by decide) (by decide) mx_row_s n (wf_let hw ha) k (by omega)) (by decide) rfl dX4_hasBy_39 (fun τ39 h39 => ?_)
  obtain rfl := h39
  refine x_mem (mx_row_row _ _ _ _) ?_
  refine x_aload_n 0 dX4_hasBy_42 rfl ?_
  refine gfX4_13 dX4_hasBy_43 ?_
  refine x_iconst (v := 4) dX4_hasBy_46 (by decide) ?_
  refine x_ialdS (j := 4) (by decide) (by decide) (by decide) dX4_hasBy_47 ?_
  refine x_top (show (mx_row σ 37 (f_weeks n (f_letR r a) k)) 37 4 = (f_weeks n (f_letR r a) k) 4 from (congrFun mx_row_s _)) ?_
  refine x_iload_n 1 dX4_hasBy_48 rfl ?_
  refine clX4_48 (qX4_has ((f_weeks n (f_letR r a) k) 4) (nI b)) (by decide) rfl dX4_hasBy_49 (fun r49 τ49 h49 => ?_)
  obtain ⟨rfl, rfl⟩ := h49
  refine x_if_eq dX4_hasBy_52 (fun c52 => ?_) (fun c52 => ?_)
  · replace c52 := zb_0 c52
    have c52x : f_kept (f_weeks n (f_letR r a) k) b = false := c52
    refine x_iconst (v := 0) dX4_hasBy_59 (by decide) ?_
    refine x_aload_n 0 dX4_hasBy_60 rfl ?_
    refine gfX4_13 dX4_hasBy_61 ?_
    refine x_iload_n 1 dX4_hasBy_64 rfl ?_
    refine x_iconst (v := 5) dX4_hasBy_65 (by decide) ?_
    refine clX4_44 (qX4_of b 5) (by decide) rfl dX4_hasBy_66 (fun r66 τ66 h66 => ?_)
    obtain ⟨rfl, rfl⟩ := h66
    refine x_ialdS (j := 6 + 6 * b + 5) (by decide) (by decide) (by omega) dX4_hasBy_69 ?_
    refine x_top (show (mx_row σ 37 (f_weeks n (f_letR r a) k)) 37 (6 + 6 * b + 5) = (f_weeks n (f_letR r a) k) (6 + 6 * b + 5) from (congrFun mx_row_s _)) ?_
    refine x_isub dX4_hasBy_70 ?_
    refine x_iconst (v := 2) dX4_hasBy_71 (by decide) ?_
    refine x_iload_n 1 dX4_hasBy_72 rfl ?_
    refine x_iload_n 2 dX4_hasBy_73 rfl ?_
    refine x_icmp_ne dX4_hasBy_74 (fun c74 => ?_) (fun c74 => ?_)
    · refine x_iload 5 dX4_hasBy_81 rfl ?_
      refine x_imul dX4_hasBy_83 ?_
      refine x_top (show (2 * 0 : Int32) = 0 from by decide) ?_
      refine x_iadd dX4_hasBy_84 ?_
      exact x_iret dX4_hasBy_85 ⟨by unfold f_worth; rw [show f_lt2 r a b true false = f_letR r a from rfl, c52x]; rfl, _, rfl⟩
    · exact absurd ((nI_eq (by omega) (by omega)).mp c74) (fun z => hab z.symm)
  · replace c52 := zb_1 c52
    have c52x : f_kept (f_weeks n (f_letR r a) k) b = true := c52
    refine x_iconst (v := 5) dX4_hasBy_55 (by decide) ?_
    refine x_goto dX4_hasBy_56 ?_
    refine x_aload_n 0 dX4_hasBy_60 rfl ?_
    refine gfX4_13 dX4_hasBy_61 ?_
    refine x_iload_n 1 dX4_hasBy_64 rfl ?_
    refine x_iconst (v := 5) dX4_hasBy_65 (by decide) ?_
    refine clX4_44 (qX4_of b 5) (by decide) rfl dX4_hasBy_66 (fun r66 τ66 h66 => ?_)
    obtain ⟨rfl, rfl⟩ := h66
    refine x_ialdS (j := 6 + 6 * b + 5) (by decide) (by decide) (by omega) dX4_hasBy_69 ?_
    refine x_top (show (mx_row σ 37 (f_weeks n (f_letR r a) k)) 37 (6 + 6 * b + 5) = (f_weeks n (f_letR r a) k) (6 + 6 * b + 5) from (congrFun mx_row_s _)) ?_
    refine x_isub dX4_hasBy_70 ?_
    refine x_iconst (v := 2) dX4_hasBy_71 (by decide) ?_
    refine x_iload_n 1 dX4_hasBy_72 rfl ?_
    refine x_iload_n 2 dX4_hasBy_73 rfl ?_
    refine x_icmp_ne dX4_hasBy_74 (fun c74 => ?_) (fun c74 => ?_)
    · refine x_iload 5 dX4_hasBy_81 rfl ?_
      refine x_imul dX4_hasBy_83 ?_
      refine x_top (show (2 * 0 : Int32) = 0 from by decide) ?_
      refine x_iadd dX4_hasBy_84 ?_
      exact x_iret dX4_hasBy_85 ⟨by unfold f_worth; rw [show f_lt2 r a b true false = f_letR r a from rfl, c52x]; rfl, _, rfl⟩
    · exact absurd ((nI_eq (by omega) (by omega)).mp c74) (fun z => hab z.symm)

set_option maxHeartbeats 4000000 in
theorem qX4_hasBy_b11 {E : mx_E} {σ : Mem} {n : Nat} {r : Row} (h36 : σ 36 = r) (hw : wf n r) (a b k : Nat) (ha : a < n) (hb : b < n) (hab : a ≠ b) (hk : k < 1000)  : MX4_hasBy E 6 [mx_rf E 35, .int (nI b), .int (nI a), .int 1, .int (nI b), .int 1, .int (nI k)] σ (mx_i (fun v τ => f_worth n r k b a b true true true = v ∧ ∃ q : Row, mx_row σ 37 q = τ)) := by
  refine MM.of (lv := [(0, mx_rf E 35), (1, .int (nI b)), (2, .int (nI a)), (3, .int 1), (4, .int (nI b)), (5, .int 1), (6, .int (nI k))]) kpX4 rfl (Nat.le_of_ble_eq_true rfl) rfl ?_
  have hn6 := hw.1
  refine x_mem (τ := mx_row σ 37 (σ 37)) (mx_row_self σ 37).symm ?_
  refine x_aload_n 0 dX4_hasBy_0 rfl ?_
  refine gfX4_9 dX4_hasBy_1 ?_
  refine x_aload_n 0 dX4_hasBy_4 rfl ?_
  refine gfX4_13 dX4_hasBy_5 ?_
  refine clX4_121 (qX4_copies (by decide) (by decide) (by decide) (by decide) (by decide) ((mx_row_o (by decide)).trans h36)) (by decide) rfl dX4_hasBy_8 (fun τ8 h8 => ?_)
  obtain rfl := h8
  refine x_mem (mx_row_row _ _ _ _) ?_
  refine x_iload_n 3 dX4_hasBy_11 rfl ?_
  refine x_iconst (v := 1) dX4_hasBy_12 (by decide) ?_
  refine x_icmp_ne dX4_hasBy_13 (fun c => absurd c (by decide)) (fun _ => ?_)
  refine x_aload_n 0 dX4_hasBy_16 rfl ?_
  refine x_iload_n 2 dX4_hasBy_17 rfl ?_
  refine clX4_177 (qX4_lets mx_row_s (by omega)) (by decide) rfl dX4_hasBy_18 (fun τ18 h18 => ?_)
  obtain rfl := h18
  refine x_mem (mx_row_row _ _ _ _) ?_
  refine x_iload 5 dX4_hasBy_21 rfl ?_
  refine x_iconst (v := 1) dX4_hasBy_23 (by decide) ?_
  refine x_icmp_ne dX4_hasBy_24 (fun c => absurd c (by decide)) (fun _ => ?_)
  refine x_aload_n 0 dX4_hasBy_27 rfl ?_
  refine x_iload 4 dX4_hasBy_28 rfl ?_
  refine clX4_177 (qX4_lets mx_row_s (by omega)) (by decide) rfl dX4_hasBy_30 (fun τ30 h30 => ?_)
  obtain rfl := h30
  refine x_mem (mx_row_row _ _ _ _) ?_
  refine x_aload_n 0 dX4_hasBy_33 rfl ?_
  refine gfX4_13 dX4_hasBy_34 ?_
  refine x_iload 6 dX4_hasBy_37 rfl ?_
  refine clX4_115 (gX4_weeksOn (by decide) (by decide) mx_row_s n (wf_let (wf_let hw ha) hb) k (by omega)) (by decide) rfl dX4_hasBy_39 (fun τ39 h39 => ?_)
  obtain rfl := h39
  refine x_mem (mx_row_row _ _ _ _) ?_
  refine x_aload_n 0 dX4_hasBy_42 rfl ?_
  refine gfX4_13 dX4_hasBy_43 ?_
  refine x_iconst (v := 4) dX4_hasBy_46 (by decide) ?_
  refine x_ialdS (j := 4) (by decide) (by decide) (by decide) dX4_hasBy_47 ?_
  refine x_top (show (mx_row σ 37 (f_weeks n (f_letR (f_letR r a) b) k)) 37 4 = (f_weeks n (f_letR (f_letR r a) b) k) 4 from (congrFun mx_row_s _)) ?_
  refine x_iload_n 1 dX4_hasBy_48 rfl ?_
  refine clX4_48 (qX4_has ((f_weeks n (f_letR (f_letR r a) b) k) 4) (nI b)) (by decide) rfl dX4_hasBy_49 (fun r49 τ49 h49 => ?_)
  obtain ⟨rfl, rfl⟩ := h49
  refine x_if_eq dX4_hasBy_52 (fun c52 => ?_) (fun c52 => ?_)
  · replace c52 := zb_0 c52
    have c52x : f_kept (f_weeks n (f_letR (f_letR r a) b) k) b = false := c52
    refine x_iconst (v := 0) dX4_hasBy_59 (by decide) ?_
    refine x_aload_n 0 dX4_hasBy_60 rfl ?_
    refine gfX4_13 dX4_hasBy_61 ?_
    refine x_iload_n 1 dX4_hasBy_64 rfl ?_
    refine x_iconst (v := 5) dX4_hasBy_65 (by decide) ?_
    refine clX4_44 (qX4_of b 5) (by decide) rfl dX4_hasBy_66 (fun r66 τ66 h66 => ?_)
    obtain ⟨rfl, rfl⟩ := h66
    refine x_ialdS (j := 6 + 6 * b + 5) (by decide) (by decide) (by omega) dX4_hasBy_69 ?_
    refine x_top (show (mx_row σ 37 (f_weeks n (f_letR (f_letR r a) b) k)) 37 (6 + 6 * b + 5) = (f_weeks n (f_letR (f_letR r a) b) k) (6 + 6 * b + 5) from (congrFun mx_row_s _)) ?_
    refine x_isub dX4_hasBy_70 ?_
    refine x_iconst (v := 2) dX4_hasBy_71 (by decide) ?_
    refine x_iload_n 1 dX4_hasBy_72 rfl ?_
    refine x_iload_n 2 dX4_hasBy_73 rfl ?_
    refine x_icmp_ne dX4_hasBy_74 (fun c74 => ?_) (fun c74 => ?_)
    · refine x_iload 5 dX4_hasBy_81 rfl ?_
      refine x_imul dX4_hasBy_83 ?_
      refine x_top (show (2 * 1 : Int32) = 2 from by decide) ?_
      refine x_iadd dX4_hasBy_84 ?_
      exact x_iret dX4_hasBy_85 ⟨by unfold f_worth; rw [show f_lt2 r a b true true = f_letR (f_letR r a) b from rfl, c52x]; rfl, _, rfl⟩
    · exact absurd ((nI_eq (by omega) (by omega)).mp c74) (fun z => hab z.symm)
  · replace c52 := zb_1 c52
    have c52x : f_kept (f_weeks n (f_letR (f_letR r a) b) k) b = true := c52
    refine x_iconst (v := 5) dX4_hasBy_55 (by decide) ?_
    refine x_goto dX4_hasBy_56 ?_
    refine x_aload_n 0 dX4_hasBy_60 rfl ?_
    refine gfX4_13 dX4_hasBy_61 ?_
    refine x_iload_n 1 dX4_hasBy_64 rfl ?_
    refine x_iconst (v := 5) dX4_hasBy_65 (by decide) ?_
    refine clX4_44 (qX4_of b 5) (by decide) rfl dX4_hasBy_66 (fun r66 τ66 h66 => ?_)
    obtain ⟨rfl, rfl⟩ := h66
    refine x_ialdS (j := 6 + 6 * b + 5) (by decide) (by decide) (by omega) dX4_hasBy_69 ?_
    refine x_top (show (mx_row σ 37 (f_weeks n (f_letR (f_letR r a) b) k)) 37 (6 + 6 * b + 5) = (f_weeks n (f_letR (f_letR r a) b) k) (6 + 6 * b + 5) from (congrFun mx_row_s _)) ?_
    refine x_isub dX4_hasBy_70 ?_
    refine x_iconst (v := 2) dX4_hasBy_71 (by decide) ?_
    refine x_iload_n 1 dX4_hasBy_72 rfl ?_
    refine x_iload_n 2 dX4_hasBy_73 rfl ?_
    refine x_icmp_ne dX4_hasBy_74 (fun c74 => ?_) (fun c74 => ?_)
    · refine x_iload 5 dX4_hasBy_81 rfl ?_
      refine x_imul dX4_hasBy_83 ?_
      refine x_top (show (2 * 1 : Int32) = 2 from by decide) ?_
      refine x_iadd dX4_hasBy_84 ?_
      exact x_iret dX4_hasBy_85 ⟨by unfold f_worth; rw [show f_lt2 r a b true true = f_letR (f_letR r a) b from rfl, c52x]; rfl, _, rfl⟩
    · exact absurd ((nI_eq (by omega) (by omega)).mp c74) (fun z => hab z.symm)

set_option maxHeartbeats 4000000 in
theorem qX4_two4 {E : mx_E} {σ : Mem} {n : Nat} {r q : Row} (h36 : σ 36 = r) (hw : wf n r) (a b k : Nat) (ha : a < n) (hb : b < n) (hab : a ≠ b) (hk : k < 1000) (hn0 : f_nash n r k a b false false = false) (hn1 : f_nash n r k a b false true = false) (hn2 : f_nash n r k a b true false = false) (hn3 : f_nash n r k a b true true = false) : MX E 8 RX4 cX4_two 8 (some .int) 49 [(5, .int 4), (0, mx_rf E 35), (1, .int (nI a)), (2, .int (nI b)), (3, .int (nI k))] [] (mx_row σ 37 q) (mx_i (fun v υ => f_two n r k a b = v ∧ Qm 0 σ υ)) := by
  have hn6 := hw.1
  refine x_iload 0 dX4_two_49 rfl ?_
  refine x_iconst (v := 4) dX4_two_51 (by decide) ?_
  refine x_icmp_ge dX4_two_52 (fun _ => ?_) (fun c => absurd c (by decide))
  refine x_bipush (v := -9) dX4_two_140 (by decide) ?_
  exact x_iret dX4_two_142 ⟨by simp only [f_two, hn0, hn1, hn2, hn3, reduceIte, Bool.false_eq_true], (Qm.rf.row (Or.inl rfl))⟩

set_option maxHeartbeats 4000000 in
theorem qX4_two3 {E : mx_E} {σ : Mem} {n : Nat} {r q : Row} (h36 : σ 36 = r) (hw : wf n r) (a b k : Nat) (ha : a < n) (hb : b < n) (hab : a ≠ b) (hk : k < 1000) (hn0 : f_nash n r k a b false false = false) (hn1 : f_nash n r k a b false true = false) (hn2 : f_nash n r k a b true false = false) : MX E 8 RX4 cX4_two 8 (some .int) 49 [(5, .int 3), (0, mx_rf E 35), (1, .int (nI a)), (2, .int (nI b)), (3, .int (nI k))] [] (mx_row σ 37 q) (mx_i (fun v υ => f_two n r k a b = v ∧ Qm 0 σ υ)) := by
  have hn6 := hw.1
  refine x_iload 0 dX4_two_49 rfl ?_
  refine x_iconst (v := 4) dX4_two_51 (by decide) ?_
  refine x_icmp_ge dX4_two_52 (fun c => absurd c (by decide)) (fun _ => ?_)
  refine x_iload 0 dX4_two_55 rfl ?_
  refine x_iconst (v := 2) dX4_two_57 (by decide) ?_
  refine x_idiv dX4_two_58 (by decide) ?_
  refine x_top (show (3 / 2 : Int32) = 1 from by decide) ?_
  refine x_istore (lv' := [(6, .int 1), (5, .int 3), (0, mx_rf E 35), (1, .int (nI a)), (2, .int (nI b)), (3, .int (nI k))]) dX4_two_59 rfl (by decide) rfl ?_
  refine x_iload 1 dX4_two_61 rfl ?_
  refine x_iconst (v := 2) dX4_two_63 (by decide) ?_
  refine x_irem dX4_two_64 (by decide) ?_
  refine x_top (show (3 % 2 : Int32) = 1 from by decide) ?_
  refine x_istore (lv' := [(7, .int 1), (6, .int 1), (5, .int 3), (0, mx_rf E 35), (1, .int (nI a)), (2, .int (nI b)), (3, .int (nI k))]) dX4_two_65 rfl (by decide) rfl ?_
  refine x_aload_n 3 dX4_two_67 rfl ?_
  refine x_iload_n 4 dX4_two_68 rfl ?_
  refine x_iload_n 4 dX4_two_69 rfl ?_
  refine x_iconst (v := 1) dX4_two_70 (by decide) ?_
  refine x_iload 1 dX4_two_71 rfl ?_
  refine x_isub dX4_two_73 ?_
  refine x_top (show (1 - 1 : Int32) = 0 from by decide) ?_
  refine x_iload_n 5 dX4_two_74 rfl ?_
  refine x_iload 0 dX4_two_75 rfl ?_
  refine x_iload_n 6 dX4_two_77 rfl ?_
  refine clX4_180 (qX4_hasBy_a01 ((mx_row_o (by decide)).trans h36) hw a b k ha hb hab hk) (by decide) rfl dX4_two_78 (fun r78 τ78 h78 => ?_)
  obtain ⟨rfl, q78, rfl⟩ := h78
  refine x_mem (mx_row_row _ _ _ _) ?_
  refine x_aload_n 3 dX4_two_81 rfl ?_
  refine x_iload_n 4 dX4_two_82 rfl ?_
  refine x_iload_n 4 dX4_two_83 rfl ?_
  refine x_iload 1 dX4_two_84 rfl ?_
  refine x_iload_n 5 dX4_two_86 rfl ?_
  refine x_iload 0 dX4_two_87 rfl ?_
  refine x_iload_n 6 dX4_two_89 rfl ?_
  refine clX4_180 (qX4_hasBy_a11 ((mx_row_o (by decide)).trans h36) hw a b k ha hb hab hk) (by decide) rfl dX4_two_90 (fun r90 τ90 h90 => ?_)
  obtain ⟨rfl, q90, rfl⟩ := h90
  refine x_mem (mx_row_row _ _ _ _) ?_
  refine x_icmp_gt dX4_two_93 (fun c93 => ?_) (fun c93 => ?_)
  · have hn3 : f_nash n r k a b true true = false := f_nash_a (Int32.not_le.mpr c93)
    refine x_iinc (v := 4) (lv' := [(5, .int 4), (7, .int 1), (6, .int 1), (0, mx_rf E 35), (1, .int (nI a)), (2, .int (nI b)), (3, .int (nI k))]) 2 dX4_two_134 rfl (by decide) (by decide) rfl ?_
    refine x_goto dX4_two_137 ?_
    refine x_lvs [0, 3, 4, 5, 6] rfl ?_
    exact qX4_two4 h36 hw a b k ha hb hab hk hn0 hn1 hn2 hn3
  · refine x_aload_n 3 dX4_two_96 rfl ?_
    refine x_iload_n 5 dX4_two_97 rfl ?_
    refine x_iload_n 4 dX4_two_98 rfl ?_
    refine x_iload 1 dX4_two_99 rfl ?_
    refine x_iload_n 5 dX4_two_101 rfl ?_
    refine x_iconst (v := 1) dX4_two_102 (by decide) ?_
    refine x_iload 0 dX4_two_103 rfl ?_
    refine x_isub dX4_two_105 ?_
    refine x_top (show (1 - 1 : Int32) = 0 from by decide) ?_
    refine x_iload_n 6 dX4_two_106 rfl ?_
    refine clX4_180 (qX4_hasBy_b10 ((mx_row_o (by decide)).trans h36) hw a b k ha hb hab hk) (by decide) rfl dX4_two_107 (fun r107 τ107 h107 => ?_)
    obtain ⟨rfl, q107, rfl⟩ := h107
    refine x_mem (mx_row_row _ _ _ _) ?_
    refine x_aload_n 3 dX4_two_110 rfl ?_
    refine x_iload_n 5 dX4_two_111 rfl ?_
    refine x_iload_n 4 dX4_two_112 rfl ?_
    refine x_iload 1 dX4_two_113 rfl ?_
    refine x_iload_n 5 dX4_two_115 rfl ?_
    refine x_iload 0 dX4_two_116 rfl ?_
    refine x_iload_n 6 dX4_two_118 rfl ?_
    refine clX4_180 (qX4_hasBy_b11 ((mx_row_o (by decide)).trans h36) hw a b k ha hb hab hk) (by decide) rfl dX4_two_119 (fun r119 τ119 h119 => ?_)
    obtain ⟨rfl, q119, rfl⟩ := h119
    refine x_mem (mx_row_row _ _ _ _) ?_
    refine x_icmp_gt dX4_two_122 (fun c122 => ?_) (fun c122 => ?_)
    · have hn3 : f_nash n r k a b true true = false := f_nash_b (Int32.not_le.mpr c122)
      refine x_iinc (v := 4) (lv' := [(5, .int 4), (7, .int 1), (6, .int 1), (0, mx_rf E 35), (1, .int (nI a)), (2, .int (nI b)), (3, .int (nI k))]) 2 dX4_two_134 rfl (by decide) (by decide) rfl ?_
      refine x_goto dX4_two_137 ?_
      refine x_lvs [0, 3, 4, 5, 6] rfl ?_
      exact qX4_two4 h36 hw a b k ha hb hab hk hn0 hn1 hn2 hn3
    · have hn3 : f_nash n r k a b true true = true := f_nash_t (Int32.not_lt.mp c93) (Int32.not_lt.mp c122)
      refine x_bipush (v := 10) dX4_two_125 (by decide) ?_
      refine x_iload 1 dX4_two_127 rfl ?_
      refine x_imul dX4_two_129 ?_
      refine x_top (show (10 * 1 : Int32) = 10 from by decide) ?_
      refine x_iload 0 dX4_two_130 rfl ?_
      refine x_iadd dX4_two_132 ?_
      refine x_top (show (10 + 1 : Int32) = 11 from by decide) ?_
      exact x_iret dX4_two_133 ⟨by simp only [f_two, hn0, hn1, hn2, hn3, reduceIte, Bool.false_eq_true], (Qm.rf.row (Or.inl rfl))⟩

set_option maxHeartbeats 4000000 in
theorem qX4_two2 {E : mx_E} {σ : Mem} {n : Nat} {r q : Row} (h36 : σ 36 = r) (hw : wf n r) (a b k : Nat) (ha : a < n) (hb : b < n) (hab : a ≠ b) (hk : k < 1000) (hn0 : f_nash n r k a b false false = false) (hn1 : f_nash n r k a b false true = false) : MX E 8 RX4 cX4_two 8 (some .int) 49 [(5, .int 2), (0, mx_rf E 35), (1, .int (nI a)), (2, .int (nI b)), (3, .int (nI k))] [] (mx_row σ 37 q) (mx_i (fun v υ => f_two n r k a b = v ∧ Qm 0 σ υ)) := by
  have hn6 := hw.1
  refine x_iload 0 dX4_two_49 rfl ?_
  refine x_iconst (v := 4) dX4_two_51 (by decide) ?_
  refine x_icmp_ge dX4_two_52 (fun c => absurd c (by decide)) (fun _ => ?_)
  refine x_iload 0 dX4_two_55 rfl ?_
  refine x_iconst (v := 2) dX4_two_57 (by decide) ?_
  refine x_idiv dX4_two_58 (by decide) ?_
  refine x_top (show (2 / 2 : Int32) = 1 from by decide) ?_
  refine x_istore (lv' := [(6, .int 1), (5, .int 2), (0, mx_rf E 35), (1, .int (nI a)), (2, .int (nI b)), (3, .int (nI k))]) dX4_two_59 rfl (by decide) rfl ?_
  refine x_iload 1 dX4_two_61 rfl ?_
  refine x_iconst (v := 2) dX4_two_63 (by decide) ?_
  refine x_irem dX4_two_64 (by decide) ?_
  refine x_top (show (2 % 2 : Int32) = 0 from by decide) ?_
  refine x_istore (lv' := [(7, .int 0), (6, .int 1), (5, .int 2), (0, mx_rf E 35), (1, .int (nI a)), (2, .int (nI b)), (3, .int (nI k))]) dX4_two_65 rfl (by decide) rfl ?_
  refine x_aload_n 3 dX4_two_67 rfl ?_
  refine x_iload_n 4 dX4_two_68 rfl ?_
  refine x_iload_n 4 dX4_two_69 rfl ?_
  refine x_iconst (v := 1) dX4_two_70 (by decide) ?_
  refine x_iload 1 dX4_two_71 rfl ?_
  refine x_isub dX4_two_73 ?_
  refine x_top (show (1 - 1 : Int32) = 0 from by decide) ?_
  refine x_iload_n 5 dX4_two_74 rfl ?_
  refine x_iload 0 dX4_two_75 rfl ?_
  refine x_iload_n 6 dX4_two_77 rfl ?_
  refine clX4_180 (qX4_hasBy_a00 ((mx_row_o (by decide)).trans h36) hw a b k ha hb hab hk) (by decide) rfl dX4_two_78 (fun r78 τ78 h78 => ?_)
  obtain ⟨rfl, q78, rfl⟩ := h78
  refine x_mem (mx_row_row _ _ _ _) ?_
  refine x_aload_n 3 dX4_two_81 rfl ?_
  refine x_iload_n 4 dX4_two_82 rfl ?_
  refine x_iload_n 4 dX4_two_83 rfl ?_
  refine x_iload 1 dX4_two_84 rfl ?_
  refine x_iload_n 5 dX4_two_86 rfl ?_
  refine x_iload 0 dX4_two_87 rfl ?_
  refine x_iload_n 6 dX4_two_89 rfl ?_
  refine clX4_180 (qX4_hasBy_a10 ((mx_row_o (by decide)).trans h36) hw a b k ha hb hab hk) (by decide) rfl dX4_two_90 (fun r90 τ90 h90 => ?_)
  obtain ⟨rfl, q90, rfl⟩ := h90
  refine x_mem (mx_row_row _ _ _ _) ?_
  refine x_icmp_gt dX4_two_93 (fun c93 => ?_) (fun c93 => ?_)
  · have hn2 : f_nash n r k a b true false = false := f_nash_a (Int32.not_le.mpr c93)
    refine x_iinc (v := 3) (lv' := [(5, .int 3), (7, .int 0), (6, .int 1), (0, mx_rf E 35), (1, .int (nI a)), (2, .int (nI b)), (3, .int (nI k))]) 2 dX4_two_134 rfl (by decide) (by decide) rfl ?_
    refine x_goto dX4_two_137 ?_
    refine x_lvs [0, 3, 4, 5, 6] rfl ?_
    exact qX4_two3 h36 hw a b k ha hb hab hk hn0 hn1 hn2
  · refine x_aload_n 3 dX4_two_96 rfl ?_
    refine x_iload_n 5 dX4_two_97 rfl ?_
    refine x_iload_n 4 dX4_two_98 rfl ?_
    refine x_iload 1 dX4_two_99 rfl ?_
    refine x_iload_n 5 dX4_two_101 rfl ?_
    refine x_iconst (v := 1) dX4_two_102 (by decide) ?_
    refine x_iload 0 dX4_two_103 rfl ?_
    refine x_isub dX4_two_105 ?_
    refine x_top (show (1 - 0 : Int32) = 1 from by decide) ?_
    refine x_iload_n 6 dX4_two_106 rfl ?_
    refine clX4_180 (qX4_hasBy_b11 ((mx_row_o (by decide)).trans h36) hw a b k ha hb hab hk) (by decide) rfl dX4_two_107 (fun r107 τ107 h107 => ?_)
    obtain ⟨rfl, q107, rfl⟩ := h107
    refine x_mem (mx_row_row _ _ _ _) ?_
    refine x_aload_n 3 dX4_two_110 rfl ?_
    refine x_iload_n 5 dX4_two_111 rfl ?_
    refine x_iload_n 4 dX4_two_112 rfl ?_
    refine x_iload 1 dX4_two_113 rfl ?_
    refine x_iload_n 5 dX4_two_115 rfl ?_
    refine x_iload 0 dX4_two_116 rfl ?_
    refine x_iload_n 6 dX4_two_118 rfl ?_
    refine clX4_180 (qX4_hasBy_b10 ((mx_row_o (by decide)).trans h36) hw a b k ha hb hab hk) (by decide) rfl dX4_two_119 (fun r119 τ119 h119 => ?_)
    obtain ⟨rfl, q119, rfl⟩ := h119
    refine x_mem (mx_row_row _ _ _ _) ?_
    refine x_icmp_gt dX4_two_122 (fun c122 => ?_) (fun c122 => ?_)
    · have hn2 : f_nash n r k a b true false = false := f_nash_b (Int32.not_le.mpr c122)
      refine x_iinc (v := 3) (lv' := [(5, .int 3), (7, .int 0), (6, .int 1), (0, mx_rf E 35), (1, .int (nI a)), (2, .int (nI b)), (3, .int (nI k))]) 2 dX4_two_134 rfl (by decide) (by decide) rfl ?_
      refine x_goto dX4_two_137 ?_
      refine x_lvs [0, 3, 4, 5, 6] rfl ?_
      exact qX4_two3 h36 hw a b k ha hb hab hk hn0 hn1 hn2
    · have hn2 : f_nash n r k a b true false = true := f_nash_t (Int32.not_lt.mp c93) (Int32.not_lt.mp c122)
      refine x_bipush (v := 10) dX4_two_125 (by decide) ?_
      refine x_iload 1 dX4_two_127 rfl ?_
      refine x_imul dX4_two_129 ?_
      refine x_top (show (10 * 1 : Int32) = 10 from by decide) ?_
      refine x_iload 0 dX4_two_130 rfl ?_
      refine x_iadd dX4_two_132 ?_
      refine x_top (show (10 + 0 : Int32) = 10 from by decide) ?_
      exact x_iret dX4_two_133 ⟨by simp only [f_two, hn0, hn1, hn2, reduceIte, Bool.false_eq_true], (Qm.rf.row (Or.inl rfl))⟩

set_option maxHeartbeats 4000000 in
theorem qX4_two1 {E : mx_E} {σ : Mem} {n : Nat} {r q : Row} (h36 : σ 36 = r) (hw : wf n r) (a b k : Nat) (ha : a < n) (hb : b < n) (hab : a ≠ b) (hk : k < 1000) (hn0 : f_nash n r k a b false false = false) : MX E 8 RX4 cX4_two 8 (some .int) 49 [(5, .int 1), (0, mx_rf E 35), (1, .int (nI a)), (2, .int (nI b)), (3, .int (nI k))] [] (mx_row σ 37 q) (mx_i (fun v υ => f_two n r k a b = v ∧ Qm 0 σ υ)) := by
  have hn6 := hw.1
  refine x_iload 0 dX4_two_49 rfl ?_
  refine x_iconst (v := 4) dX4_two_51 (by decide) ?_
  refine x_icmp_ge dX4_two_52 (fun c => absurd c (by decide)) (fun _ => ?_)
  refine x_iload 0 dX4_two_55 rfl ?_
  refine x_iconst (v := 2) dX4_two_57 (by decide) ?_
  refine x_idiv dX4_two_58 (by decide) ?_
  refine x_top (show (1 / 2 : Int32) = 0 from by decide) ?_
  refine x_istore (lv' := [(6, .int 0), (5, .int 1), (0, mx_rf E 35), (1, .int (nI a)), (2, .int (nI b)), (3, .int (nI k))]) dX4_two_59 rfl (by decide) rfl ?_
  refine x_iload 1 dX4_two_61 rfl ?_
  refine x_iconst (v := 2) dX4_two_63 (by decide) ?_
  refine x_irem dX4_two_64 (by decide) ?_
  refine x_top (show (1 % 2 : Int32) = 1 from by decide) ?_
  refine x_istore (lv' := [(7, .int 1), (6, .int 0), (5, .int 1), (0, mx_rf E 35), (1, .int (nI a)), (2, .int (nI b)), (3, .int (nI k))]) dX4_two_65 rfl (by decide) rfl ?_
  refine x_aload_n 3 dX4_two_67 rfl ?_
  refine x_iload_n 4 dX4_two_68 rfl ?_
  refine x_iload_n 4 dX4_two_69 rfl ?_
  refine x_iconst (v := 1) dX4_two_70 (by decide) ?_
  refine x_iload 1 dX4_two_71 rfl ?_
  refine x_isub dX4_two_73 ?_
  refine x_top (show (1 - 0 : Int32) = 1 from by decide) ?_
  refine x_iload_n 5 dX4_two_74 rfl ?_
  refine x_iload 0 dX4_two_75 rfl ?_
  refine x_iload_n 6 dX4_two_77 rfl ?_
  refine clX4_180 (qX4_hasBy_a11 ((mx_row_o (by decide)).trans h36) hw a b k ha hb hab hk) (by decide) rfl dX4_two_78 (fun r78 τ78 h78 => ?_)
  obtain ⟨rfl, q78, rfl⟩ := h78
  refine x_mem (mx_row_row _ _ _ _) ?_
  refine x_aload_n 3 dX4_two_81 rfl ?_
  refine x_iload_n 4 dX4_two_82 rfl ?_
  refine x_iload_n 4 dX4_two_83 rfl ?_
  refine x_iload 1 dX4_two_84 rfl ?_
  refine x_iload_n 5 dX4_two_86 rfl ?_
  refine x_iload 0 dX4_two_87 rfl ?_
  refine x_iload_n 6 dX4_two_89 rfl ?_
  refine clX4_180 (qX4_hasBy_a01 ((mx_row_o (by decide)).trans h36) hw a b k ha hb hab hk) (by decide) rfl dX4_two_90 (fun r90 τ90 h90 => ?_)
  obtain ⟨rfl, q90, rfl⟩ := h90
  refine x_mem (mx_row_row _ _ _ _) ?_
  refine x_icmp_gt dX4_two_93 (fun c93 => ?_) (fun c93 => ?_)
  · have hn1 : f_nash n r k a b false true = false := f_nash_a (Int32.not_le.mpr c93)
    refine x_iinc (v := 2) (lv' := [(5, .int 2), (7, .int 1), (6, .int 0), (0, mx_rf E 35), (1, .int (nI a)), (2, .int (nI b)), (3, .int (nI k))]) 2 dX4_two_134 rfl (by decide) (by decide) rfl ?_
    refine x_goto dX4_two_137 ?_
    refine x_lvs [0, 3, 4, 5, 6] rfl ?_
    exact qX4_two2 h36 hw a b k ha hb hab hk hn0 hn1
  · refine x_aload_n 3 dX4_two_96 rfl ?_
    refine x_iload_n 5 dX4_two_97 rfl ?_
    refine x_iload_n 4 dX4_two_98 rfl ?_
    refine x_iload 1 dX4_two_99 rfl ?_
    refine x_iload_n 5 dX4_two_101 rfl ?_
    refine x_iconst (v := 1) dX4_two_102 (by decide) ?_
    refine x_iload 0 dX4_two_103 rfl ?_
    refine x_isub dX4_two_105 ?_
    refine x_top (show (1 - 1 : Int32) = 0 from by decide) ?_
    refine x_iload_n 6 dX4_two_106 rfl ?_
    refine clX4_180 (qX4_hasBy_b00 ((mx_row_o (by decide)).trans h36) hw a b k ha hb hab hk) (by decide) rfl dX4_two_107 (fun r107 τ107 h107 => ?_)
    obtain ⟨rfl, q107, rfl⟩ := h107
    refine x_mem (mx_row_row _ _ _ _) ?_
    refine x_aload_n 3 dX4_two_110 rfl ?_
    refine x_iload_n 5 dX4_two_111 rfl ?_
    refine x_iload_n 4 dX4_two_112 rfl ?_
    refine x_iload 1 dX4_two_113 rfl ?_
    refine x_iload_n 5 dX4_two_115 rfl ?_
    refine x_iload 0 dX4_two_116 rfl ?_
    refine x_iload_n 6 dX4_two_118 rfl ?_
    refine clX4_180 (qX4_hasBy_b01 ((mx_row_o (by decide)).trans h36) hw a b k ha hb hab hk) (by decide) rfl dX4_two_119 (fun r119 τ119 h119 => ?_)
    obtain ⟨rfl, q119, rfl⟩ := h119
    refine x_mem (mx_row_row _ _ _ _) ?_
    refine x_icmp_gt dX4_two_122 (fun c122 => ?_) (fun c122 => ?_)
    · have hn1 : f_nash n r k a b false true = false := f_nash_b (Int32.not_le.mpr c122)
      refine x_iinc (v := 2) (lv' := [(5, .int 2), (7, .int 1), (6, .int 0), (0, mx_rf E 35), (1, .int (nI a)), (2, .int (nI b)), (3, .int (nI k))]) 2 dX4_two_134 rfl (by decide) (by decide) rfl ?_
      refine x_goto dX4_two_137 ?_
      refine x_lvs [0, 3, 4, 5, 6] rfl ?_
      exact qX4_two2 h36 hw a b k ha hb hab hk hn0 hn1
    · have hn1 : f_nash n r k a b false true = true := f_nash_t (Int32.not_lt.mp c93) (Int32.not_lt.mp c122)
      refine x_bipush (v := 10) dX4_two_125 (by decide) ?_
      refine x_iload 1 dX4_two_127 rfl ?_
      refine x_imul dX4_two_129 ?_
      refine x_top (show (10 * 0 : Int32) = 0 from by decide) ?_
      refine x_iload 0 dX4_two_130 rfl ?_
      refine x_iadd dX4_two_132 ?_
      refine x_top (show (0 + 1 : Int32) = 1 from by decide) ?_
      exact x_iret dX4_two_133 ⟨by simp only [f_two, hn0, hn1, reduceIte, Bool.false_eq_true], (Qm.rf.row (Or.inl rfl))⟩

set_option maxHeartbeats 4000000 in
theorem qX4_two0 {E : mx_E} {σ : Mem} {n : Nat} {r q : Row} (h36 : σ 36 = r) (hw : wf n r) (a b k : Nat) (ha : a < n) (hb : b < n) (hab : a ≠ b) (hk : k < 1000)  : MX E 8 RX4 cX4_two 8 (some .int) 49 [(5, .int 0), (0, mx_rf E 35), (1, .int (nI a)), (2, .int (nI b)), (3, .int (nI k))] [] (mx_row σ 37 q) (mx_i (fun v υ => f_two n r k a b = v ∧ Qm 0 σ υ)) := by
  have hn6 := hw.1
  refine x_iload 0 dX4_two_49 rfl ?_
  refine x_iconst (v := 4) dX4_two_51 (by decide) ?_
  refine x_icmp_ge dX4_two_52 (fun c => absurd c (by decide)) (fun _ => ?_)
  refine x_iload 0 dX4_two_55 rfl ?_
  refine x_iconst (v := 2) dX4_two_57 (by decide) ?_
  refine x_idiv dX4_two_58 (by decide) ?_
  refine x_top (show (0 / 2 : Int32) = 0 from by decide) ?_
  refine x_istore (lv' := [(6, .int 0), (5, .int 0), (0, mx_rf E 35), (1, .int (nI a)), (2, .int (nI b)), (3, .int (nI k))]) dX4_two_59 rfl (by decide) rfl ?_
  refine x_iload 1 dX4_two_61 rfl ?_
  refine x_iconst (v := 2) dX4_two_63 (by decide) ?_
  refine x_irem dX4_two_64 (by decide) ?_
  refine x_top (show (0 % 2 : Int32) = 0 from by decide) ?_
  refine x_istore (lv' := [(7, .int 0), (6, .int 0), (5, .int 0), (0, mx_rf E 35), (1, .int (nI a)), (2, .int (nI b)), (3, .int (nI k))]) dX4_two_65 rfl (by decide) rfl ?_
  refine x_aload_n 3 dX4_two_67 rfl ?_
  refine x_iload_n 4 dX4_two_68 rfl ?_
  refine x_iload_n 4 dX4_two_69 rfl ?_
  refine x_iconst (v := 1) dX4_two_70 (by decide) ?_
  refine x_iload 1 dX4_two_71 rfl ?_
  refine x_isub dX4_two_73 ?_
  refine x_top (show (1 - 0 : Int32) = 1 from by decide) ?_
  refine x_iload_n 5 dX4_two_74 rfl ?_
  refine x_iload 0 dX4_two_75 rfl ?_
  refine x_iload_n 6 dX4_two_77 rfl ?_
  refine clX4_180 (qX4_hasBy_a10 ((mx_row_o (by decide)).trans h36) hw a b k ha hb hab hk) (by decide) rfl dX4_two_78 (fun r78 τ78 h78 => ?_)
  obtain ⟨rfl, q78, rfl⟩ := h78
  refine x_mem (mx_row_row _ _ _ _) ?_
  refine x_aload_n 3 dX4_two_81 rfl ?_
  refine x_iload_n 4 dX4_two_82 rfl ?_
  refine x_iload_n 4 dX4_two_83 rfl ?_
  refine x_iload 1 dX4_two_84 rfl ?_
  refine x_iload_n 5 dX4_two_86 rfl ?_
  refine x_iload 0 dX4_two_87 rfl ?_
  refine x_iload_n 6 dX4_two_89 rfl ?_
  refine clX4_180 (qX4_hasBy_a00 ((mx_row_o (by decide)).trans h36) hw a b k ha hb hab hk) (by decide) rfl dX4_two_90 (fun r90 τ90 h90 => ?_)
  obtain ⟨rfl, q90, rfl⟩ := h90
  refine x_mem (mx_row_row _ _ _ _) ?_
  refine x_icmp_gt dX4_two_93 (fun c93 => ?_) (fun c93 => ?_)
  · have hn0 : f_nash n r k a b false false = false := f_nash_a (Int32.not_le.mpr c93)
    refine x_iinc (v := 1) (lv' := [(5, .int 1), (7, .int 0), (6, .int 0), (0, mx_rf E 35), (1, .int (nI a)), (2, .int (nI b)), (3, .int (nI k))]) 2 dX4_two_134 rfl (by decide) (by decide) rfl ?_
    refine x_goto dX4_two_137 ?_
    refine x_lvs [0, 3, 4, 5, 6] rfl ?_
    exact qX4_two1 h36 hw a b k ha hb hab hk hn0
  · refine x_aload_n 3 dX4_two_96 rfl ?_
    refine x_iload_n 5 dX4_two_97 rfl ?_
    refine x_iload_n 4 dX4_two_98 rfl ?_
    refine x_iload 1 dX4_two_99 rfl ?_
    refine x_iload_n 5 dX4_two_101 rfl ?_
    refine x_iconst (v := 1) dX4_two_102 (by decide) ?_
    refine x_iload 0 dX4_two_103 rfl ?_
    refine x_isub dX4_two_105 ?_
    refine x_top (show (1 - 0 : Int32) = 1 from by decide) ?_
    refine x_iload_n 6 dX4_two_106 rfl ?_
    refine clX4_180 (qX4_hasBy_b01 ((mx_row_o (by decide)).trans h36) hw a b k ha hb hab hk) (by decide) rfl dX4_two_107 (fun r107 τ107 h107 => ?_)
    obtain ⟨rfl, q107, rfl⟩ := h107
    refine x_mem (mx_row_row _ _ _ _) ?_
    refine x_aload_n 3 dX4_two_110 rfl ?_
    refine x_iload_n 5 dX4_two_111 rfl ?_
    refine x_iload_n 4 dX4_two_112 rfl ?_
    refine x_iload 1 dX4_two_113 rfl ?_
    refine x_iload_n 5 dX4_two_115 rfl ?_
    refine x_iload 0 dX4_two_116 rfl ?_
    refine x_iload_n 6 dX4_two_118 rfl ?_
    refine clX4_180 (qX4_hasBy_b00 ((mx_row_o (by decide)).trans h36) hw a b k ha hb hab hk) (by decide) rfl dX4_two_119 (fun r119 τ119 h119 => ?_)
    obtain ⟨rfl, q119, rfl⟩ := h119
    refine x_mem (mx_row_row _ _ _ _) ?_
    refine x_icmp_gt dX4_two_122 (fun c122 => ?_) (fun c122 => ?_)
    · have hn0 : f_nash n r k a b false false = false := f_nash_b (Int32.not_le.mpr c122)
      refine x_iinc (v := 1) (lv' := [(5, .int 1), (7, .int 0), (6, .int 0), (0, mx_rf E 35), (1, .int (nI a)), (2, .int (nI b)), (3, .int (nI k))]) 2 dX4_two_134 rfl (by decide) (by decide) rfl ?_
      refine x_goto dX4_two_137 ?_
      refine x_lvs [0, 3, 4, 5, 6] rfl ?_
      exact qX4_two1 h36 hw a b k ha hb hab hk hn0
    · have hn0 : f_nash n r k a b false false = true := f_nash_t (Int32.not_lt.mp c93) (Int32.not_lt.mp c122)
      refine x_bipush (v := 10) dX4_two_125 (by decide) ?_
      refine x_iload 1 dX4_two_127 rfl ?_
      refine x_imul dX4_two_129 ?_
      refine x_top (show (10 * 0 : Int32) = 0 from by decide) ?_
      refine x_iload 0 dX4_two_130 rfl ?_
      refine x_iadd dX4_two_132 ?_
      refine x_top (show (0 + 0 : Int32) = 0 from by decide) ?_
      exact x_iret dX4_two_133 ⟨by simp only [f_two, hn0, reduceIte, Bool.false_eq_true], (Qm.rf.row (Or.inl rfl))⟩

set_option maxHeartbeats 4000000 in
theorem qX4_two {E : mx_E} {σ : Mem} {n : Nat} {r : Row} (h36 : σ 36 = r) (hw : wf n r) (a b k : Int32) : MX4_two E 8 [mx_rf E 35, .int a, .int b, .int k] σ (mx_i (fun v τ => (p_two n r a b k).1 = v ∧ Qm (p_two n r a b k).2 σ τ)) := by
  refine MM.of (lv := [(0, mx_rf E 35), (1, .int a), (2, .int b), (3, .int k)]) kpX4 rfl (Nat.le_of_ble_eq_true rfl) rfl ?_
  have hn6 := hw.1
  refine x_mem (τ := mx_row σ 37 (σ 37)) (mx_row_self σ 37).symm ?_
  refine x_aload_n 0 dX4_two_0 rfl ?_
  refine x_iload_n 1 dX4_two_1 rfl ?_
  refine clX4_111 (qX4_isHouse ((mx_row_o (by decide)).trans h36) hw a) (by decide) rfl dX4_two_2 (fun r2 τ2 h2 => ?_)
  obtain ⟨rfl, rfl⟩ := h2
  refine x_if_eq dX4_two_5 (fun c5 => ?_) (fun c5 => ?_)
  · replace c5 := zb_0 c5
    refine x_iconst (v := -1) dX4_two_31 (by decide) ?_
    refine x_istore (lv' := [(4, .int (-1)), (0, mx_rf E 35), (1, .int a), (2, .int b), (3, .int k)]) dX4_two_32 rfl (by decide) rfl ?_
    refine x_iload 0 dX4_two_34 rfl ?_
    refine x_if_eq dX4_two_36 (fun c => absurd c (by decide)) (fun _ => ?_)
    refine x_aload_n 1 dX4_two_39 rfl ?_
    refine x_iload 0 dX4_two_40 rfl ?_
    refine clX4_36 (qX4_no 1 (by decide) (by decide)) (by decide) rfl dX4_two_42 (fun r42 τ42 h42 => ?_)
    obtain ⟨rfl, rfl⟩ := h42
    exact x_iret dX4_two_45 (by rw [show p_two n r a b k = ((-1 : Int32), 1) from by simp [p_two, c5]]; exact ⟨rfl, by rw [mx_row_self]; exact Qm.no⟩)
  · replace c5 := zb_1 c5
    obtain ⟨a1, ha1, rfl⟩ := f_inN_t (by omega) c5
    refine x_aload_n 0 dX4_two_8 rfl ?_
    refine x_iload_n 2 dX4_two_9 rfl ?_
    refine clX4_111 (qX4_isHouse ((mx_row_o (by decide)).trans h36) hw b) (by decide) rfl dX4_two_10 (fun r10 τ10 h10 => ?_)
    obtain ⟨rfl, rfl⟩ := h10
    refine x_if_eq dX4_two_13 (fun c13 => ?_) (fun c13 => ?_)
    · replace c13 := zb_0 c13
      refine x_iconst (v := -1) dX4_two_31 (by decide) ?_
      refine x_istore (lv' := [(4, .int (-1)), (0, mx_rf E 35), (1, .int (nI a1)), (2, .int b), (3, .int k)]) dX4_two_32 rfl (by decide) rfl ?_
      refine x_iload 0 dX4_two_34 rfl ?_
      refine x_if_eq dX4_two_36 (fun c => absurd c (by decide)) (fun _ => ?_)
      refine x_aload_n 1 dX4_two_39 rfl ?_
      refine x_iload 0 dX4_two_40 rfl ?_
      refine clX4_36 (qX4_no 1 (by decide) (by decide)) (by decide) rfl dX4_two_42 (fun r42 τ42 h42 => ?_)
      obtain ⟨rfl, rfl⟩ := h42
      exact x_iret dX4_two_45 (by rw [show p_two n r (nI a1) b k = ((-1 : Int32), 1) from by simp [p_two, c5, c13, nI_clamp (show a1 < 2 ^ 31 by omega)]]; exact ⟨rfl, by rw [mx_row_self]; exact Qm.no⟩)
    · replace c13 := zb_1 c13
      obtain ⟨b1, hb1, rfl⟩ := f_inN_t (by omega) c13
      refine x_iload_n 1 dX4_two_16 rfl ?_
      refine x_iload_n 2 dX4_two_17 rfl ?_
      refine x_icmp_eq dX4_two_18 (fun c18 => ?_) (fun c18 => ?_)
      · refine x_iconst (v := -1) dX4_two_31 (by decide) ?_
        refine x_istore (lv' := [(4, .int (-1)), (0, mx_rf E 35), (1, .int (nI a1)), (2, .int (nI b1)), (3, .int k)]) dX4_two_32 rfl (by decide) rfl ?_
        refine x_iload 0 dX4_two_34 rfl ?_
        refine x_if_eq dX4_two_36 (fun c => absurd c (by decide)) (fun _ => ?_)
        refine x_aload_n 1 dX4_two_39 rfl ?_
        refine x_iload 0 dX4_two_40 rfl ?_
        refine clX4_36 (qX4_no 1 (by decide) (by decide)) (by decide) rfl dX4_two_42 (fun r42 τ42 h42 => ?_)
        obtain ⟨rfl, rfl⟩ := h42
        exact x_iret dX4_two_45 (by rw [show p_two n r (nI a1) (nI b1) k = ((-1 : Int32), 1) from by simp [p_two, c5, c13, c18, nI_clamp (show a1 < 2 ^ 31 by omega), nI_clamp (show b1 < 2 ^ 31 by omega)]]; exact ⟨rfl, by rw [mx_row_self]; exact Qm.no⟩)
      · refine x_iload_n 3 dX4_two_21 rfl ?_
        refine x_iconst (v := 0) dX4_two_22 (by decide) ?_
        refine x_bipush (v := 30) dX4_two_23 (by decide) ?_
        refine clX4_128 (qX4_wrongBy k 0 30) (by decide) rfl dX4_two_25 (fun r25 τ25 h25 => ?_)
        obtain ⟨rfl, rfl⟩ := h25
        rcases f_out_c (v := k) (lo := 0) (hi := 30) (l := 0) (h := 30) (by decide) (by decide) rfl rfl with ⟨k1, e⟩ | ⟨k1, k2, e⟩ | ⟨k, hk1, hk2, rfl, k1, k2, e⟩
        · refine x_top (show f_out k 0 30 = -4 from e) ?_
          refine x_goto dX4_two_28 ?_
          refine x_istore (lv' := [(4, .int (-4)), (0, mx_rf E 35), (1, .int (nI a1)), (2, .int (nI b1)), (3, .int k)]) dX4_two_32 rfl (by decide) rfl ?_
          refine x_iload 0 dX4_two_34 rfl ?_
          refine x_if_eq dX4_two_36 (fun c => absurd c (by decide)) (fun _ => ?_)
          refine x_aload_n 1 dX4_two_39 rfl ?_
          refine x_iload 0 dX4_two_40 rfl ?_
          refine clX4_36 (qX4_no 4 (by decide) (by decide)) (by decide) rfl dX4_two_42 (fun r42 τ42 h42 => ?_)
          obtain ⟨rfl, rfl⟩ := h42
          exact x_iret dX4_two_45 (by rw [show p_two n r (nI a1) (nI b1) k = ((-4 : Int32), 4) from by simp [p_two, c5, c13, c18, k1, nI_clamp (show a1 < 2 ^ 31 by omega), nI_clamp (show b1 < 2 ^ 31 by omega)]]; exact ⟨rfl, by rw [mx_row_self]; exact Qm.no⟩)
        · refine x_top (show f_out k 0 30 = -6 from e) ?_
          refine x_goto dX4_two_28 ?_
          refine x_istore (lv' := [(4, .int (-6)), (0, mx_rf E 35), (1, .int (nI a1)), (2, .int (nI b1)), (3, .int k)]) dX4_two_32 rfl (by decide) rfl ?_
          refine x_iload 0 dX4_two_34 rfl ?_
          refine x_if_eq dX4_two_36 (fun c => absurd c (by decide)) (fun _ => ?_)
          refine x_aload_n 1 dX4_two_39 rfl ?_
          refine x_iload 0 dX4_two_40 rfl ?_
          refine clX4_36 (qX4_no 6 (by decide) (by decide)) (by decide) rfl dX4_two_42 (fun r42 τ42 h42 => ?_)
          obtain ⟨rfl, rfl⟩ := h42
          exact x_iret dX4_two_45 (by rw [show p_two n r (nI a1) (nI b1) k = ((-6 : Int32), 6) from by simp [p_two, c5, c13, c18, k1, k2, nI_clamp (show a1 < 2 ^ 31 by omega), nI_clamp (show b1 < 2 ^ 31 by omega)]]; exact ⟨rfl, by rw [mx_row_self]; exact Qm.no⟩)
        · refine x_top (show f_out (nI k) 0 30 = 0 from e) ?_
          refine x_goto dX4_two_28 ?_
          refine x_istore (lv' := [(4, .int 0), (0, mx_rf E 35), (1, .int (nI a1)), (2, .int (nI b1)), (3, .int (nI k))]) dX4_two_32 rfl (by decide) rfl ?_
          refine x_iload 0 dX4_two_34 rfl ?_
          refine x_if_eq dX4_two_36 (fun _ => ?_) (fun c => absurd c (by decide))
          refine x_iconst (v := 0) dX4_two_46 (by decide) ?_
          refine x_istore (lv' := [(5, .int 0), (4, .int 0), (0, mx_rf E 35), (1, .int (nI a1)), (2, .int (nI b1)), (3, .int (nI k))]) dX4_two_47 rfl (by decide) rfl ?_
          refine x_lvs (lw := [(5, .int 0), (0, mx_rf E 35), (1, .int (nI a1)), (2, .int (nI b1)), (3, .int (nI k))]) [0, 2, 3, 4, 5] rfl ?_
          rw [show p_two n r (nI a1) (nI b1) (nI k) = (f_two n r k a1 b1, 0) from by simp only [p_two, c5, c13, ne_eq, c18, k1, k2, nI_clamp (show a1 < 2 ^ 31 by omega), nI_clamp (show b1 < 2 ^ 31 by omega), nI_clamp (show k < 2 ^ 31 by omega), and_self, not_false_eq_true, reduceIte, Bool.false_eq_true, Bool.true_eq_false, Bool.true_and, Bool.false_and, Bool.and_true, Bool.and_false, decide_eq_true_eq, decide_true, decide_false, not_true_eq_false, not_false_eq_true, zbT, zbF]]
          exact MX.weak (qX4_two0 h36 hw a1 b1 k ha1 hb1 (fun q => c18 (by rw [q])) (by omega)) (fun v τ z => z)
