set_option maxHeartbeats 4000000 in
theorem qX3_keptIfHalfMoves {E : mx_E} {σ : Mem} {n : Nat} {r : Row} (hN : NW σ) (hT : TI σ 1 n r) (hw : wf n r) (a b k : Nat) (ha : a < n) (hb : b < n) (hab : a ≠ b) (hk : k < 1000)  : MX3_keptIfHalfMoves E 4 [mx_rf E 0, .int (nI a), .int (nI b), .int (nI k)] σ (mx_i (fun v τ => f_mv n r k a b = v ∧ Off 2 σ τ)) := by
  refine MM.of (lv := [(0, mx_rf E 0), (1, .int (nI a)), (2, .int (nI b)), (3, .int (nI k))]) kpX3 rfl (Nat.le_of_ble_eq_true rfl) rfl ?_
  have hn6 := hw.1
  refine x_aload_n 0 dX3_keptIfHalfMoves_0 rfl ?_
  refine gfX3_16 dX3_keptIfHalfMoves_1 ?_
  refine x_aload_n 0 dX3_keptIfHalfMoves_4 rfl ?_
  refine gfX3_10 dX3_keptIfHalfMoves_5 ?_
  refine clX3_73 (qX2_become (t := 2) (u := 1) (by decide) (by decide) (by decide) (by decide) (by decide) hT hw) (by decide) (by decide) (by decide) rfl dX3_keptIfHalfMoves_8 (fun τ8 h8 => ?_)
  refine x_aload_n 0 dX3_keptIfHalfMoves_11 rfl ?_
  refine gfX3_16 dX3_keptIfHalfMoves_12 ?_
  refine x_iload_n 1 dX3_keptIfHalfMoves_15 rfl ?_
  refine clX3_125 (qX2_at (by decide) (by decide) h8.1.1 hn6 ha) (by decide) (by decide) (by decide) rfl dX3_keptIfHalfMoves_16 (fun r16 τ16 h16 => ?_)
  obtain ⟨rfl, rfl⟩ := h16
  refine x_astore (lv' := [(4, mx_rf E (4 + 6 * 2 + a)), (0, mx_rf E 0), (1, .int (nI a)), (2, .int (nI b)), (3, .int (nI k))]) dX3_keptIfHalfMoves_19 rfl (by decide) rfl ?_
  refine x_aload_n 1 dX3_keptIfHalfMoves_21 rfl ?_
  refine gfX3_16 dX3_keptIfHalfMoves_22 ?_
  refine x_iload_n 3 dX3_keptIfHalfMoves_25 rfl ?_
  refine clX3_125 (qX2_at (by decide) (by decide) h8.1.1 hn6 hb) (by decide) (by decide) (by decide) rfl dX3_keptIfHalfMoves_26 (fun r26 τ26 h26 => ?_)
  obtain ⟨rfl, rfl⟩ := h26
  refine x_astore (lv' := [(5, mx_rf E (4 + 6 * 2 + b)), (4, mx_rf E (4 + 6 * 2 + a)), (0, mx_rf E 0), (1, .int (nI a)), (2, .int (nI b)), (3, .int (nI k))]) dX3_keptIfHalfMoves_29 rfl (by decide) rfl ?_
  refine x_aload 1 dX3_keptIfHalfMoves_31 rfl ?_
  refine gfX3_128 (by omega) (by omega) dX3_keptIfHalfMoves_33 ?_
  refine x_top (show τ8 (4 + 6 * 2 + a) 3 = r (6 + 6 * a + 3) from (h8.1.2.2.2.2 _ ha).1 3 (by decide)) ?_
  refine x_iconst (v := 2) dX3_keptIfHalfMoves_36 (by decide) ?_
  refine x_idiv dX3_keptIfHalfMoves_37 (by decide) ?_
  refine x_bipush (v := 30) dX3_keptIfHalfMoves_38 (by decide) ?_
  refine x_aload 0 dX3_keptIfHalfMoves_40 rfl ?_
  refine gfX3_128 (by omega) (by omega) dX3_keptIfHalfMoves_42 ?_
  refine x_top (show τ8 (4 + 6 * 2 + b) 3 = r (6 + 6 * b + 3) from (h8.1.2.2.2.2 _ hb).1 3 (by decide)) ?_
  refine x_isub dX3_keptIfHalfMoves_45 ?_
  refine clX3_188 (by decide) rfl dX3_keptIfHalfMoves_46 ?_
  refine x_top (f_min _ _) ?_
  refine x_istore (lv' := [(6, .int (f_least ((r (6 + 6 * a + 3)) / 2) (30 - (r (6 + 6 * b + 3))))), (5, mx_rf E (4 + 6 * 2 + b)), (4, mx_rf E (4 + 6 * 2 + a)), (0, mx_rf E 0), (1, .int (nI a)), (2, .int (nI b)), (3, .int (nI k))]) dX3_keptIfHalfMoves_49 rfl (by decide) rfl ?_
  refine x_aload 2 dX3_keptIfHalfMoves_51 rfl ?_
  refine x_dup dX3_keptIfHalfMoves_53 rfl ?_
  refine gfX3_128 (by omega) (by omega) dX3_keptIfHalfMoves_54 ?_
  refine x_top (show τ8 (4 + 6 * 2 + a) 3 = r (6 + 6 * a + 3) from (h8.1.2.2.2.2 _ ha).1 3 (by decide)) ?_
  refine x_iload 0 dX3_keptIfHalfMoves_57 rfl ?_
  refine x_isub dX3_keptIfHalfMoves_59 ?_
  refine pfX3_128 (by omega) (by omega) dX3_keptIfHalfMoves_60 ?_
  have hT60 : TI (mx_up τ8 (4 + 6 * 2 + a) 3 ((r (6 + 6 * a + 3)) - (f_least ((r (6 + 6 * a + 3)) / 2) (30 - (r (6 + 6 * b + 3)))))) 2 n (upd r (6 + 6 * a + 3) ((r (6 + 6 * a + 3)) - (f_least ((r (6 + 6 * a + 3)) / 2) (30 - (r (6 + 6 * b + 3)))))) := h8.1.fld (by decide) ha (by decide)
  have hO60 : Off 2 σ (mx_up τ8 (4 + 6 * 2 + a) 3 ((r (6 + 6 * a + 3)) - (f_least ((r (6 + 6 * a + 3)) / 2) (30 - (r (6 + 6 * b + 3)))))) := h8.2.up (inT_h (by omega))
  refine x_aload 1 dX3_keptIfHalfMoves_63 rfl ?_
  refine x_dup dX3_keptIfHalfMoves_65 rfl ?_
  refine gfX3_128 (by omega) (by omega) dX3_keptIfHalfMoves_66 ?_
  refine x_top (show (mx_up τ8 (4 + 6 * 2 + a) 3 ((r (6 + 6 * a + 3)) - (f_least ((r (6 + 6 * a + 3)) / 2) (30 - (r (6 + 6 * b + 3)))))) (4 + 6 * 2 + b) 3 = (upd r (6 + 6 * a + 3) ((r (6 + 6 * a + 3)) - (f_least ((r (6 + 6 * a + 3)) / 2) (30 - (r (6 + 6 * b + 3)))))) (6 + 6 * b + 3) from (hT60.2.2.2.2 _ hb).1 3 (by decide)) ?_
  refine x_iload 0 dX3_keptIfHalfMoves_69 rfl ?_
  refine x_iadd dX3_keptIfHalfMoves_71 ?_
  refine pfX3_128 (by omega) (by omega) dX3_keptIfHalfMoves_72 ?_
  have hT72 : TI (mx_up (mx_up τ8 (4 + 6 * 2 + a) 3 ((r (6 + 6 * a + 3)) - (f_least ((r (6 + 6 * a + 3)) / 2) (30 - (r (6 + 6 * b + 3)))))) (4 + 6 * 2 + b) 3 (((upd r (6 + 6 * a + 3) ((r (6 + 6 * a + 3)) - (f_least ((r (6 + 6 * a + 3)) / 2) (30 - (r (6 + 6 * b + 3)))))) (6 + 6 * b + 3)) + (f_least ((r (6 + 6 * a + 3)) / 2) (30 - (r (6 + 6 * b + 3)))))) 2 n (upd (upd r (6 + 6 * a + 3) ((r (6 + 6 * a + 3)) - (f_least ((r (6 + 6 * a + 3)) / 2) (30 - (r (6 + 6 * b + 3)))))) (6 + 6 * b + 3) (((upd r (6 + 6 * a + 3) ((r (6 + 6 * a + 3)) - (f_least ((r (6 + 6 * a + 3)) / 2) (30 - (r (6 + 6 * b + 3)))))) (6 + 6 * b + 3)) + (f_least ((r (6 + 6 * a + 3)) / 2) (30 - (r (6 + 6 * b + 3)))))) := hT60.fld (by decide) hb (by decide)
  have hO72 : Off 2 σ (mx_up (mx_up τ8 (4 + 6 * 2 + a) 3 ((r (6 + 6 * a + 3)) - (f_least ((r (6 + 6 * a + 3)) / 2) (30 - (r (6 + 6 * b + 3)))))) (4 + 6 * 2 + b) 3 (((upd r (6 + 6 * a + 3) ((r (6 + 6 * a + 3)) - (f_least ((r (6 + 6 * a + 3)) / 2) (30 - (r (6 + 6 * b + 3)))))) (6 + 6 * b + 3)) + (f_least ((r (6 + 6 * a + 3)) / 2) (30 - (r (6 + 6 * b + 3)))))) := hO60.up (inT_h (by omega))
  refine x_aload_n 3 dX3_keptIfHalfMoves_75 rfl ?_
  refine gfX3_16 dX3_keptIfHalfMoves_76 ?_
  refine x_iload_n 6 dX3_keptIfHalfMoves_79 rfl ?_
  refine clX3_145 (qX2_pass (t := 2) (by decide) (by decide) hT72 (wf_mv hw ha hb hab) (hN.off (by decide) (by decide) hO72) k (by omega)) (by decide) (by decide) (by decide) rfl dX3_keptIfHalfMoves_80 (fun τ80 h80 => ?_)
  have hO80 : Off 2 σ τ80 := hO72.tr h80.2
  refine x_aload_n 3 dX3_keptIfHalfMoves_83 rfl ?_
  refine gfX3_16 dX3_keptIfHalfMoves_84 ?_
  refine clX3_166 (qX2_howManyKept (by decide) (by decide) h80.1 (wf_weeks (wf_mv hw ha hb hab) k)) (by decide) (by decide) (by decide) rfl dX3_keptIfHalfMoves_87 (fun r87 τ87 h87 => ?_)
  obtain ⟨rfl, rfl⟩ := h87
  exact x_iret dX3_keptIfHalfMoves_90 ⟨rfl, hO80⟩

set_option maxHeartbeats 4000000 in
theorem qX3_move {E : mx_E} {σ : Mem} {n : Nat} {r : Row} (hN : NW σ) (hT : TI σ 1 n r) (hw : wf n r) (k : Int32) : MX3_move E 5 [mx_rf E 0, .int k] σ (mx_i (fun v τ => (p_move n r k).1 = v ∧ Qz (p_move n r k).2 σ τ)) := by
  refine MM.of (lv := [(0, mx_rf E 0), (1, .int k)]) kpX3 rfl (Nat.le_of_ble_eq_true rfl) rfl ?_
  have hn6 := hw.1
  refine x_iload_n 1 dX3_move_0 rfl ?_
  refine x_iconst (v := 0) dX3_move_1 (by decide) ?_
  refine x_bipush (v := 30) dX3_move_2 (by decide) ?_
  refine clX3_169 (qX3_outOf k 0 30) (by decide) rfl dX3_move_4 (fun r4 τ4 h4 => ?_)
  obtain ⟨rfl, rfl⟩ := h4
  rcases f_out_c (v := k) (lo := 0) (hi := 30) (l := 0) (h := 30) (by decide) (by decide) rfl rfl with ⟨k1, e⟩ | ⟨k1, k2, e⟩ | ⟨k, hk1, hk2, rfl, k1, k2, e⟩
  · refine x_top (show f_out k 0 30 = -4 from e) ?_
    refine x_istore_n (lv' := [(2, .int (-4)), (0, mx_rf E 0), (1, .int k)]) dX3_move_7 rfl (by decide) rfl ?_
    refine x_iload_n 0 dX3_move_8 rfl ?_
    refine x_if_eq dX3_move_9 (fun c => absurd c (by decide)) (fun _ => ?_)
    refine x_aload_n 1 dX3_move_12 rfl ?_
    refine x_iload_n 0 dX3_move_13 rfl ?_
    refine clX3_49 (qX3_refuse 4 (by decide) (by decide)) (by decide) rfl dX3_move_14 (fun r14 τ14 h14 => ?_)
    obtain ⟨rfl, rfl⟩ := h14
    exact x_iret dX3_move_17 (by rw [show p_move n r k = ((-4 : Int32), 4) from by simp only [p_move, k1, reduceIte, Bool.false_eq_true, Bool.true_eq_false, Bool.true_and, Bool.false_and, Bool.and_true, Bool.and_false, decide_eq_true_eq, decide_true, decide_false, not_true_eq_false, not_false_eq_true, zbT, zbF]]; exact ⟨rfl, Qz.no⟩)
  · refine x_top (show f_out k 0 30 = -6 from e) ?_
    refine x_istore_n (lv' := [(2, .int (-6)), (0, mx_rf E 0), (1, .int k)]) dX3_move_7 rfl (by decide) rfl ?_
    refine x_iload_n 0 dX3_move_8 rfl ?_
    refine x_if_eq dX3_move_9 (fun c => absurd c (by decide)) (fun _ => ?_)
    refine x_aload_n 1 dX3_move_12 rfl ?_
    refine x_iload_n 0 dX3_move_13 rfl ?_
    refine clX3_49 (qX3_refuse 6 (by decide) (by decide)) (by decide) rfl dX3_move_14 (fun r14 τ14 h14 => ?_)
    obtain ⟨rfl, rfl⟩ := h14
    exact x_iret dX3_move_17 (by rw [show p_move n r k = ((-6 : Int32), 6) from by simp only [p_move, k1, k2, reduceIte, Bool.false_eq_true, Bool.true_eq_false, Bool.true_and, Bool.false_and, Bool.and_true, Bool.and_false, decide_eq_true_eq, decide_true, decide_false, not_true_eq_false, not_false_eq_true, zbT, zbF]]; exact ⟨rfl, Qz.no⟩)
  · refine x_top (show f_out (nI k) 0 30 = 0 from e) ?_
    refine x_istore_n (lv' := [(2, .int 0), (0, mx_rf E 0), (1, .int (nI k))]) dX3_move_7 rfl (by decide) rfl ?_
    refine x_iload_n 0 dX3_move_8 rfl ?_
    refine x_if_eq dX3_move_9 (fun _ => ?_) (fun c => absurd c (by decide))
    refine x_aload_n 1 dX3_move_18 rfl ?_
    refine gfX3_16 dX3_move_19 ?_
    refine x_aload_n 1 dX3_move_22 rfl ?_
    refine gfX3_10 dX3_move_23 ?_
    refine clX3_73 (qX2_become (t := 2) (u := 1) (by decide) (by decide) (by decide) (by decide) (by decide) hT hw) (by decide) (by decide) (by decide) rfl dX3_move_26 (fun τ26 h26 => ?_)
    refine x_aload_n 1 dX3_move_29 rfl ?_
    refine gfX3_16 dX3_move_30 ?_
    refine x_iload_n 2 dX3_move_33 rfl ?_
    refine clX3_145 (qX2_pass (t := 2) (by decide) (by decide) h26.1 hw (hN.off (by decide) (by decide) h26.2) k (by omega)) (by decide) (by decide) (by decide) rfl dX3_move_34 (fun τ34 h34 => ?_)
    have hO34 : Off 2 σ τ34 := h26.2.tr h34.2
    refine x_aload_n 1 dX3_move_37 rfl ?_
    refine gfX3_16 dX3_move_38 ?_
    refine clX3_166 (qX2_howManyKept (by decide) (by decide) h34.1 (wf_weeks hw k)) (by decide) (by decide) (by decide) rfl dX3_move_41 (fun r41 τ41 h41 => ?_)
    obtain ⟨rfl, rfl⟩ := h41
    refine x_istore_n (lv' := [(3, .int (f_bits ((f_weeks n r k) 4))), (2, .int 0), (0, mx_rf E 0), (1, .int (nI k))]) dX3_move_44 rfl (by decide) rfl ?_
    refine x_bipush (v := -9) dX3_move_45 (by decide) ?_
    refine x_istore (lv' := [(4, .int (-9)), (3, .int (f_bits ((f_weeks n r k) 4))), (2, .int 0), (0, mx_rf E 0), (1, .int (nI k))]) dX3_move_47 rfl (by decide) rfl ?_
    refine x_iconst (v := 0) dX3_move_49 (by decide) ?_
    refine x_istore (lv' := [(5, .int 0), (4, .int (-9)), (3, .int (f_bits ((f_weeks n r k) 4))), (2, .int 0), (0, mx_rf E 0), (1, .int (nI k))]) dX3_move_50 rfl (by decide) rfl ?_
    have key52 : ∀ a, a ≤ n → ∀ τ : Mem, Off 2 σ τ → MX E 5 RX3 cX3_move 8 (some .int) 52 [(5, .int (nI a)), (4, .int ((f_mvA n r k a).1)), (3, .int ((f_mvA n r k a).2)), (0, mx_rf E 0), (1, .int (nI k))] [] τ (mx_i (fun v τ => (p_move n r (nI k)).1 = v ∧ Qz (p_move n r (nI k)).2 σ τ)) := by
      refine mx_ind n (fun a hi52 ih52 => ?_)
      intro τ hO
      refine x_iload 0 dX3_move_52 rfl ?_
      refine x_aload_n 3 dX3_move_54 rfl ?_
      refine gfX3_10 dX3_move_55 ?_
      refine gfX3_115 (by decide) (by decide) dX3_move_58 ?_
      refine x_top (show τ 1 2 = nI n from (hT.offt hn6 (by decide) (by decide) (by decide) (by decide) (by decide) hO).1) ?_
      refine x_icmp_ge dX3_move_61 (fun c61 => ?_) (fun c61 => ?_)
      · have hge := nI_le_of (by omega) (by omega) c61
        have han : a = n := by omega
        refine x_iload 1 dX3_move_158 rfl ?_
        exact x_iret dX3_move_160 (by rw [show p_move n r (nI k) = ((f_mvA n r k n).1, 0) from by simp only [p_move, k1, k2, nI_clamp (show k < 2 ^ 31 by omega), reduceIte, Bool.false_eq_true, Bool.true_eq_false, Bool.true_and, Bool.false_and, Bool.and_true, Bool.and_false, decide_eq_true_eq, decide_true, decide_false, not_true_eq_false, not_false_eq_true, zbT, zbF]]; exact ⟨by rw [han], Qz.off hO⟩)
      · have ha := nI_lt_of (by omega) (by omega) c61
        refine x_iconst (v := 0) dX3_move_64 (by decide) ?_
        refine x_istore (lv' := [(6, .int 0), (5, .int (nI a)), (4, .int ((f_mvA n r k a).1)), (3, .int ((f_mvA n r k a).2)), (0, mx_rf E 0), (1, .int (nI k))]) dX3_move_65 rfl (by decide) rfl ?_
        have key67 : ∀ b, b ≤ n → ∀ τ : Mem, Off 2 σ τ → MX E 5 RX3 cX3_move 8 (some .int) 67 [(6, .int (nI b)), (5, .int (nI a)), (4, .int ((f_mvB n r k a (f_mvA n r k a) b).1)), (3, .int ((f_mvB n r k a (f_mvA n r k a) b).2)), (0, mx_rf E 0), (1, .int (nI k))] [] τ (mx_i (fun v τ => (p_move n r (nI k)).1 = v ∧ Qz (p_move n r (nI k)).2 σ τ)) := by
          refine mx_ind n (fun b hi67 ih67 => ?_)
          intro τ hO
          refine x_iload 0 dX3_move_67 rfl ?_
          refine x_aload_n 4 dX3_move_69 rfl ?_
          refine gfX3_10 dX3_move_70 ?_
          refine gfX3_115 (by decide) (by decide) dX3_move_73 ?_
          refine x_top (show τ 1 2 = nI n from (hT.offt hn6 (by decide) (by decide) (by decide) (by decide) (by decide) hO).1) ?_
          refine x_icmp_ge dX3_move_76 (fun c76 => ?_) (fun c76 => ?_)
          · have hgb := nI_le_of (by omega) (by omega) c76
            have hbn : n = b := by omega
            refine x_iinc (v := nI (a + 1)) (lv' := [(5, .int (nI (a + 1))), (6, .int (nI b)), (4, .int ((f_mvB n r k a (f_mvA n r k a) b).1)), (3, .int ((f_mvB n r k a (f_mvA n r k a) b).2)), (0, mx_rf E 0), (1, .int (nI k))]) 1 dX3_move_152 rfl (nI_1 _) (by decide) rfl ?_
            refine x_goto dX3_move_155 ?_
            refine x_lvs [0, 2, 3, 4, 5] rfl ?_
            exact flM_eq (P := fun x y => MX E _ _ _ _ _ _ [(5, .int (nI (a + 1))), (4, .int x), (3, .int y), (0, mx_rf E 0), (1, .int (nI k))] _ _ _) (show (f_mvB n r k a (f_mvA n r k a) n).1 = _ ∧ (f_mvB n r k a (f_mvA n r k a) n).2 = _ from by rw [hbn]; exact ⟨rfl, rfl⟩) (ih52 (a + 1) (by omega) (by omega) _ hO)
          · have hb := nI_lt_of (by omega) (by omega) c76
            refine x_iload 1 dX3_move_79 rfl ?_
            refine x_iload 0 dX3_move_81 rfl ?_
            refine x_icmp_eq dX3_move_83 (fun c83 => ?_) (fun c83 => ?_)
            · refine x_iinc (v := nI (b + 1)) (lv' := [(6, .int (nI (b + 1))), (5, .int (nI a)), (4, .int ((f_mvB n r k a (f_mvA n r k a) b).1)), (3, .int ((f_mvB n r k a (f_mvA n r k a) b).2)), (0, mx_rf E 0), (1, .int (nI k))]) 0 dX3_move_146 rfl (nI_1 _) (by decide) rfl ?_
              refine x_goto dX3_move_149 ?_
              exact flM_eq (P := fun x y => MX E _ _ _ _ _ _ [(6, .int (nI (b + 1))), (5, .int (nI a)), (4, .int x), (3, .int y), (0, mx_rf E 0), (1, .int (nI k))] _ _ _) (f_mvB_F (fun q => q.1 ((nI_eq (by omega) (by omega)).mp c83))) (ih67 (b + 1) (by omega) (by omega) _ hO)
            · have hab : a ≠ b := fun q => c83 (by rw [q])
              refine x_aload_n 4 dX3_move_86 rfl ?_
              refine gfX3_10 dX3_move_87 ?_
              refine x_iload 1 dX3_move_90 rfl ?_
              refine clX3_125 (qX2_at (by decide) (by decide) (hT.offt hn6 (by decide) (by decide) (by decide) (by decide) (by decide) hO).1 hn6 ha) (by decide) (by decide) (by decide) rfl dX3_move_92 (fun r92 τ92 h92 => ?_)
              obtain ⟨rfl, rfl⟩ := h92
              refine gfX3_136 (by omega) (by omega) dX3_move_95 ?_
              refine x_top (show τ (4 + 6 * 1 + a) 6 = zb (f_kept r a) from ((hT.offt hn6 (by decide) (by decide) (by decide) (by decide) (by decide) hO).2.2.2.2 _ ha).2.1) ?_
              refine x_if_eq dX3_move_98 (fun c98 => ?_) (fun c98 => ?_)
              · replace c98 := zb_0 c98
                refine x_iinc (v := nI (b + 1)) (lv' := [(6, .int (nI (b + 1))), (5, .int (nI a)), (4, .int ((f_mvB n r k a (f_mvA n r k a) b).1)), (3, .int ((f_mvB n r k a (f_mvA n r k a) b).2)), (0, mx_rf E 0), (1, .int (nI k))]) 0 dX3_move_146 rfl (nI_1 _) (by decide) rfl ?_
                refine x_goto dX3_move_149 ?_
                exact flM_eq (P := fun x y => MX E _ _ _ _ _ _ [(6, .int (nI (b + 1))), (5, .int (nI a)), (4, .int x), (3, .int y), (0, mx_rf E 0), (1, .int (nI k))] _ _ _) (f_mvB_F (fun q => by rw [c98] at q; exact absurd q.2.1 (by decide))) (ih67 (b + 1) (by omega) (by omega) _ hO)
              · replace c98 := zb_1 c98
                refine x_aload_n 4 dX3_move_101 rfl ?_
                refine gfX3_10 dX3_move_102 ?_
                refine x_iload 0 dX3_move_105 rfl ?_
                refine clX3_125 (qX2_at (by decide) (by decide) (hT.offt hn6 (by decide) (by decide) (by decide) (by decide) (by decide) hO).1 hn6 hb) (by decide) (by decide) (by decide) rfl dX3_move_107 (fun r107 τ107 h107 => ?_)
                obtain ⟨rfl, rfl⟩ := h107
                refine gfX3_136 (by omega) (by omega) dX3_move_110 ?_
                refine x_top (show τ (4 + 6 * 1 + b) 6 = zb (f_kept r b) from ((hT.offt hn6 (by decide) (by decide) (by decide) (by decide) (by decide) hO).2.2.2.2 _ hb).2.1) ?_
                refine x_if_eq dX3_move_113 (fun c113 => ?_) (fun c113 => ?_)
                · replace c113 := zb_0 c113
                  refine x_iinc (v := nI (b + 1)) (lv' := [(6, .int (nI (b + 1))), (5, .int (nI a)), (4, .int ((f_mvB n r k a (f_mvA n r k a) b).1)), (3, .int ((f_mvB n r k a (f_mvA n r k a) b).2)), (0, mx_rf E 0), (1, .int (nI k))]) 0 dX3_move_146 rfl (nI_1 _) (by decide) rfl ?_
                  refine x_goto dX3_move_149 ?_
                  exact flM_eq (P := fun x y => MX E _ _ _ _ _ _ [(6, .int (nI (b + 1))), (5, .int (nI a)), (4, .int x), (3, .int y), (0, mx_rf E 0), (1, .int (nI k))] _ _ _) (f_mvB_F (fun q => by rw [c113] at q; exact absurd q.2.2.1 (by decide))) (ih67 (b + 1) (by omega) (by omega) _ hO)
                · replace c113 := zb_1 c113
                  refine x_aload_n 4 dX3_move_116 rfl ?_
                  refine x_iload 1 dX3_move_117 rfl ?_
                  refine x_iload 0 dX3_move_119 rfl ?_
                  refine x_iload_n 5 dX3_move_121 rfl ?_
                  refine clX3_185 (qX3_keptIfHalfMoves (hN.off (by decide) (by decide) hO) (hT.offt hn6 (by decide) (by decide) (by decide) (by decide) (by decide) hO) hw a b k ha hb hab (by omega)) (by decide) rfl dX3_move_122 (fun r122 τ122 h122 => ?_)
                  obtain ⟨rfl, hO9⟩ := h122
                  have hO8 := hO.tr hO9
                  refine x_istore (lv' := [(7, .int (f_mv n r k a b)), (6, .int (nI b)), (5, .int (nI a)), (4, .int ((f_mvB n r k a (f_mvA n r k a) b).1)), (3, .int ((f_mvB n r k a (f_mvA n r k a) b).2)), (0, mx_rf E 0), (1, .int (nI k))]) dX3_move_125 rfl (by decide) rfl ?_
                  refine x_iload 0 dX3_move_127 rfl ?_
                  refine x_iload_n 4 dX3_move_129 rfl ?_
                  refine x_icmp_le dX3_move_130 (fun c130 => ?_) (fun c130 => ?_)
                  · refine x_iinc (v := nI (b + 1)) (lv' := [(6, .int (nI (b + 1))), (7, .int (f_mv n r k a b)), (5, .int (nI a)), (4, .int ((f_mvB n r k a (f_mvA n r k a) b).1)), (3, .int ((f_mvB n r k a (f_mvA n r k a) b).2)), (0, mx_rf E 0), (1, .int (nI k))]) 1 dX3_move_146 rfl (nI_1 _) (by decide) rfl ?_
                    refine x_goto dX3_move_149 ?_
                    refine x_lvs [0, 2, 3, 4, 5, 6] rfl ?_
                    exact flM_eq (P := fun x y => MX E _ _ _ _ _ _ [(6, .int (nI (b + 1))), (5, .int (nI a)), (4, .int x), (3, .int y), (0, mx_rf E 0), (1, .int (nI k))] _ _ _) (f_mvB_F (fun q => (Int32.not_lt.mpr c130) q.2.2.2)) (ih67 (b + 1) (by omega) (by omega) _ hO8)
                  · refine x_iload 0 dX3_move_133 rfl ?_
                    refine x_istore_n (lv' := [(3, .int (f_mv n r k a b)), (7, .int (f_mv n r k a b)), (6, .int (nI b)), (5, .int (nI a)), (4, .int ((f_mvB n r k a (f_mvA n r k a) b).1)), (0, mx_rf E 0), (1, .int (nI k))]) dX3_move_135 rfl (by decide) rfl ?_
                    refine x_bipush (v := 10) dX3_move_136 (by decide) ?_
                    refine x_iload 3 dX3_move_138 rfl ?_
                    refine x_imul dX3_move_140 ?_
                    refine x_top (show 10 * (nI a) = nI (10 * a) from pk_mul 10 a) ?_
                    refine x_iload 2 dX3_move_141 rfl ?_
                    refine x_iadd dX3_move_143 ?_
                    refine x_top (show (nI (10 * a)) + (nI b) = nI (10 * a + b) from nI_add (10 * a) b) ?_
                    refine x_istore (lv' := [(4, .int (nI (10 * a + b))), (3, .int (f_mv n r k a b)), (7, .int (f_mv n r k a b)), (6, .int (nI b)), (5, .int (nI a)), (0, mx_rf E 0), (1, .int (nI k))]) dX3_move_144 rfl (by decide) rfl ?_
                    refine x_iinc (v := nI (b + 1)) (lv' := [(6, .int (nI (b + 1))), (4, .int (nI (10 * a + b))), (3, .int (f_mv n r k a b)), (7, .int (f_mv n r k a b)), (5, .int (nI a)), (0, mx_rf E 0), (1, .int (nI k))]) 3 dX3_move_146 rfl (nI_1 _) (by decide) rfl ?_
                    refine x_goto dX3_move_149 ?_
                    refine x_lvs [0, 4, 1, 2, 5, 6] rfl ?_
                    exact flM_eq (P := fun x y => MX E _ _ _ _ _ _ [(6, .int (nI (b + 1))), (5, .int (nI a)), (4, .int x), (3, .int y), (0, mx_rf E 0), (1, .int (nI k))] _ _ _) (f_mvB_T hab c98 c113 (Int32.not_le.mp c130)) (ih67 (b + 1) (by omega) (by omega) _ hO8)
        exact key67 0 (Nat.zero_le _) _ hO
    refine x_lvs [0, 1, 2, 4, 5] rfl ?_
    exact key52 0 (Nat.zero_le _) _ hO34

set_option maxHeartbeats 4000000 in
theorem qX3_noneLostWithin {E : mx_E} {σ : Mem} {n : Nat} {r q : Row} (hN : NW σ) (hT : TI σ 1 n r) (hw : wf n r) (hT2 : TI σ 2 n q) (hwq : wf n q) (h4 : q 4 = r 4) (k : Nat) (hk : k < 1000)  : MX3_noneLostWithin E 4 [mx_rf E 0, .int (nI k)] σ (mx_i (fun v τ => zb (f_none n r q k) = v ∧ Off 2 σ τ)) := by
  refine MM.of (lv := [(0, mx_rf E 0), (1, .int (nI k))]) kpX3 rfl (Nat.le_of_ble_eq_true rfl) rfl ?_
  have hn6 := hw.1
  refine x_aload_n 0 dX3_noneLostWithin_0 rfl ?_
  refine gfX3_10 dX3_noneLostWithin_1 ?_
  refine clX3_173 (qX2_keptBits (by decide) (by decide) hT hw) (by decide) (by decide) (by decide) rfl dX3_noneLostWithin_4 (fun r4 τ4 h4 => ?_)
  obtain ⟨rfl, rfl⟩ := h4
  refine x_istore_n (lv' := [(2, .int (r 4)), (0, mx_rf E 0), (1, .int (nI k))]) dX3_noneLostWithin_7 rfl (by decide) rfl ?_
  refine x_iconst (v := 0) dX3_noneLostWithin_8 (by decide) ?_
  refine x_istore_n (lv' := [(3, .int 0), (2, .int (r 4)), (0, mx_rf E 0), (1, .int (nI k))]) dX3_noneLostWithin_9 rfl (by decide) rfl ?_
  have key10 : ∀ i, i ≤ k → ∀ τ : Mem, TI τ 2 n (f_weeks n q i) → Off 2 σ τ → (∀ x, x < i + 1 → f_weeks n q x 4 = r 4) → MX E 4 RX3 cX3_noneLostWithin 4 (some .boolean) 10 [(3, .int (nI i)), (2, .int (r 4)), (0, mx_rf E 0), (1, .int (nI k))] [] τ (mx_i (fun v τ => zb (f_none n r q k) = v ∧ Off 2 σ τ)) := by
    refine mx_ind k (fun i hi10 ih10 => ?_)
    intro τ hT2 hO hall
    refine x_iload_n 0 dX3_noneLostWithin_10 rfl ?_
    refine x_iload_n 3 dX3_noneLostWithin_11 rfl ?_
    refine x_icmp_ge dX3_noneLostWithin_12 (fun c12 => ?_) (fun c12 => ?_)
    · have hge := nI_le_of (by omega) (by omega) c12
      have hik : i = k := by omega
      refine x_iconst (v := 1) dX3_noneLostWithin_42 (by decide) ?_
      exact x_zret dX3_noneLostWithin_43 (by decide) ⟨zb_t' (decide_eq_true (hall k (by omega))), hO⟩
    · have hlt := nI_lt_of (by omega) (by omega) c12
      refine x_aload_n 2 dX3_noneLostWithin_15 rfl ?_
      refine gfX3_16 dX3_noneLostWithin_16 ?_
      refine x_iconst (v := 1) dX3_noneLostWithin_19 (by decide) ?_
      refine clX3_145 (qX2_pass (t := 2) (by decide) (by decide) hT2 (wf_weeks hwq i) (hN.off (by decide) (by decide) hO) 1 (by omega)) (by decide) (by decide) (by decide) rfl dX3_noneLostWithin_20 (fun τ20 h20 => ?_)
      have hO20 : Off 2 σ τ20 := hO.tr h20.2
      refine x_aload_n 2 dX3_noneLostWithin_23 rfl ?_
      refine gfX3_16 dX3_noneLostWithin_24 ?_
      refine clX3_173 (qX2_keptBits (by decide) (by decide) h20.1 (wf_weeks (wf_weeks hwq i) 1)) (by decide) (by decide) (by decide) rfl dX3_noneLostWithin_27 (fun r27 τ27 h27 => ?_)
      obtain ⟨rfl, rfl⟩ := h27
      refine x_iload_n 1 dX3_noneLostWithin_30 rfl ?_
      refine x_icmp_eq dX3_noneLostWithin_31 (fun c31 => ?_) (fun c31 => ?_)
      · refine x_iinc (v := nI (i + 1)) (lv' := [(3, .int (nI (i + 1))), (2, .int (r 4)), (0, mx_rf E 0), (1, .int (nI k))]) 0 dX3_noneLostWithin_36 rfl (nI_1 _) (by decide) rfl ?_
        refine x_goto dX3_noneLostWithin_39 ?_
        exact ih10 (i + 1) (by omega) (by omega) _ h20.1 hO20 (lt_s hall c31)
      · refine x_iconst (v := 0) dX3_noneLostWithin_34 (by decide) ?_
        exact x_zret dX3_noneLostWithin_35 (by decide) ⟨zb_f' (f_none_F hw hwq h4 (i := i + 1) (by omega) c31), hO20⟩
  exact key10 0 (Nat.zero_le _) _ hT2 Off.rf (fun x hx => by rw [show x = 0 by omega]; exact h4)

set_option maxHeartbeats 4000000 in
theorem qX3_noneLostIfAired {E : mx_E} {σ : Mem} {n : Nat} {r : Row} (hN : NW σ) (hT : TI σ 1 n r) (hw : wf n r) (s k : Nat) (hs : s < 64) (hk : k < 1000)  : MX3_noneLostIfAired E 5 [mx_rf E 0, .int (nI s), .int (nI k)] σ (mx_i (fun v τ => zb (f_airOk n r k s) = v ∧ Off 2 σ τ)) := by
  refine MM.of (lv := [(0, mx_rf E 0), (1, .int (nI s)), (2, .int (nI k))]) kpX3 rfl (Nat.le_of_ble_eq_true rfl) rfl ?_
  have hn6 := hw.1
  refine x_aload_n 0 dX3_noneLostIfAired_0 rfl ?_
  refine gfX3_16 dX3_noneLostIfAired_1 ?_
  refine x_aload_n 0 dX3_noneLostIfAired_4 rfl ?_
  refine gfX3_10 dX3_noneLostIfAired_5 ?_
  refine clX3_73 (qX2_become (t := 2) (u := 1) (by decide) (by decide) (by decide) (by decide) (by decide) hT hw) (by decide) (by decide) (by decide) rfl dX3_noneLostIfAired_8 (fun τ8 h8 => ?_)
  refine x_iconst (v := 0) dX3_noneLostIfAired_11 (by decide) ?_
  refine x_istore_n (lv' := [(3, .int 0), (0, mx_rf E 0), (1, .int (nI s)), (2, .int (nI k))]) dX3_noneLostIfAired_12 rfl (by decide) rfl ?_
  have key13 : ∀ i, i ≤ n → ∀ τ : Mem, TI τ 2 n (f_airR r s i) → Off 2 σ τ → MX E 5 RX3 cX3_noneLostIfAired 4 (some .boolean) 13 [(3, .int (nI i)), (0, mx_rf E 0), (1, .int (nI s)), (2, .int (nI k))] [] τ (mx_i (fun v τ => zb (f_airOk n r k s) = v ∧ Off 2 σ τ)) := by
    refine mx_ind n (fun i hi13 ih13 => ?_)
    intro τ hT2 hO
    refine x_iload_n 0 dX3_noneLostIfAired_13 rfl ?_
    refine x_aload_n 1 dX3_noneLostIfAired_14 rfl ?_
    refine gfX3_16 dX3_noneLostIfAired_15 ?_
    refine gfX3_115 (by decide) (by decide) dX3_noneLostIfAired_18 ?_
    refine x_top (show τ 2 2 = nI n from hT2.1) ?_
    refine x_icmp_ge dX3_noneLostIfAired_21 (fun c21 => ?_) (fun c21 => ?_)
    · have hge := nI_le_of (by omega) (by omega) c21
      have hin : i = n := by omega
      rw [hin] at hT2
      refine x_aload_n 1 dX3_noneLostIfAired_51 rfl ?_
      refine x_iload_n 3 dX3_noneLostIfAired_52 rfl ?_
      refine clX3_202 (qX3_noneLostWithin (hN.off (by decide) (by decide) hO) (hT.offt hn6 (by decide) (by decide) (by decide) (by decide) (by decide) hO) hw hT2 (wf_airR hw s n).1 (wf_airR hw s n).2 k (by omega)) (by decide) rfl dX3_noneLostIfAired_53 (fun r53 τ53 h53 => ?_)
      obtain ⟨rfl, hO9⟩ := h53
      have hO53 := hO.tr hO9
      exact x_zret dX3_noneLostIfAired_56 (zb_01 _) ⟨rfl, hO53⟩
    · have hlt := nI_lt_of (by omega) (by omega) c21
      refine x_iload_n 2 dX3_noneLostIfAired_24 rfl ?_
      refine x_iload_n 0 dX3_noneLostIfAired_25 rfl ?_
      refine x_ishr dX3_noneLostIfAired_26 ?_
      refine x_iconst (v := 1) dX3_noneLostIfAired_27 (by decide) ?_
      refine x_iand dX3_noneLostIfAired_28 ?_
      refine x_iconst (v := 1) dX3_noneLostIfAired_29 (by decide) ?_
      refine x_icmp_ne dX3_noneLostIfAired_30 (fun c30 => ?_) (fun c30 => ?_)
      · refine x_iinc (v := nI (i + 1)) (lv' := [(3, .int (nI (i + 1))), (0, mx_rf E 0), (1, .int (nI s)), (2, .int (nI k))]) 0 dX3_noneLostIfAired_45 rfl (nI_1 _) (by decide) rfl ?_
        refine x_goto dX3_noneLostIfAired_48 ?_
        exact ih13 (i + 1) (by omega) (by omega) _ (by rw [f_airR_s, if_neg (show ¬ f_has (nI s) (nI i) = true from fun z => c30 (of_decide_eq_true z))]; exact hT2) hO
      · refine x_aload_n 1 dX3_noneLostIfAired_33 rfl ?_
        refine gfX3_16 dX3_noneLostIfAired_34 ?_
        refine x_iload_n 0 dX3_noneLostIfAired_37 rfl ?_
        refine clX3_125 (qX2_at (by decide) (by decide) hT2.1 hn6 hlt) (by decide) (by decide) (by decide) rfl dX3_noneLostIfAired_38 (fun r38 τ38 h38 => ?_)
        obtain ⟨rfl, rfl⟩ := h38
        refine x_iconst (v := 0) dX3_noneLostIfAired_41 (by decide) ?_
        refine pfX3_133 (by omega) (by omega) dX3_noneLostIfAired_42 ?_
        have hT42 : TI (mx_up τ (4 + 6 * 2 + i) 4 0) 2 n (upd (f_airR r s i) (6 + 6 * i + 4) (0)) := hT2.fld (by decide) hlt (by decide)
        have hO42 : Off 2 σ (mx_up τ (4 + 6 * 2 + i) 4 0) := hO.up (inT_h (by omega))
        refine x_iinc (v := nI (i + 1)) (lv' := [(3, .int (nI (i + 1))), (0, mx_rf E 0), (1, .int (nI s)), (2, .int (nI k))]) 0 dX3_noneLostIfAired_45 rfl (nI_1 _) (by decide) rfl ?_
        refine x_goto dX3_noneLostIfAired_48 ?_
        exact ih13 (i + 1) (by omega) (by omega) _ (by rw [f_airR_s, if_pos (show f_has (nI s) (nI i) = true from decide_eq_true c30)]; exact hT42) hO42
  exact key13 0 (Nat.zero_le _) _ h8.1 h8.2

set_option maxHeartbeats 4000000 in
theorem qX3_air {E : mx_E} {σ : Mem} {n : Nat} {r : Row} (hN : NW σ) (hT : TI σ 1 n r) (hw : wf n r) (k : Int32) : MX3_air E 6 [mx_rf E 0, .int k] σ (mx_i (fun v τ => (p_air n r k).1 = v ∧ Qz (p_air n r k).2 σ τ)) := by
  refine MM.of (lv := [(0, mx_rf E 0), (1, .int k)]) kpX3 rfl (Nat.le_of_ble_eq_true rfl) rfl ?_
  have hn6 := hw.1
  have h2n : 2 ^ n ≤ 64 := Nat.pow_le_pow_right (n := 2) (by decide) hn6
  refine x_iload_n 1 dX3_air_0 rfl ?_
  refine x_iconst (v := 0) dX3_air_1 (by decide) ?_
  refine x_bipush (v := 30) dX3_air_2 (by decide) ?_
  refine clX3_169 (qX3_outOf k 0 30) (by decide) rfl dX3_air_4 (fun r4 τ4 h4 => ?_)
  obtain ⟨rfl, rfl⟩ := h4
  rcases f_out_c (v := k) (lo := 0) (hi := 30) (l := 0) (h := 30) (by decide) (by decide) rfl rfl with ⟨k1, e⟩ | ⟨k1, k2, e⟩ | ⟨k, hk1, hk2, rfl, k1, k2, e⟩
  · refine x_top (show f_out k 0 30 = -4 from e) ?_
    refine x_istore_n (lv' := [(2, .int (-4)), (0, mx_rf E 0), (1, .int k)]) dX3_air_7 rfl (by decide) rfl ?_
    refine x_iload_n 0 dX3_air_8 rfl ?_
    refine x_if_eq dX3_air_9 (fun c => absurd c (by decide)) (fun _ => ?_)
    refine x_aload_n 1 dX3_air_12 rfl ?_
    refine x_iload_n 0 dX3_air_13 rfl ?_
    refine clX3_49 (qX3_refuse 4 (by decide) (by decide)) (by decide) rfl dX3_air_14 (fun r14 τ14 h14 => ?_)
    obtain ⟨rfl, rfl⟩ := h14
    exact x_iret dX3_air_17 (by rw [show p_air n r k = ((-4 : Int32), 4) from by simp only [p_air, k1, reduceIte, Bool.false_eq_true, Bool.true_eq_false, Bool.true_and, Bool.false_and, Bool.and_true, Bool.and_false, decide_eq_true_eq, decide_true, decide_false, not_true_eq_false, not_false_eq_true, zbT, zbF]]; exact ⟨rfl, Qz.no⟩)
  · refine x_top (show f_out k 0 30 = -6 from e) ?_
    refine x_istore_n (lv' := [(2, .int (-6)), (0, mx_rf E 0), (1, .int k)]) dX3_air_7 rfl (by decide) rfl ?_
    refine x_iload_n 0 dX3_air_8 rfl ?_
    refine x_if_eq dX3_air_9 (fun c => absurd c (by decide)) (fun _ => ?_)
    refine x_aload_n 1 dX3_air_12 rfl ?_
    refine x_iload_n 0 dX3_air_13 rfl ?_
    refine clX3_49 (qX3_refuse 6 (by decide) (by decide)) (by decide) rfl dX3_air_14 (fun r14 τ14 h14 => ?_)
    obtain ⟨rfl, rfl⟩ := h14
    exact x_iret dX3_air_17 (by rw [show p_air n r k = ((-6 : Int32), 6) from by simp only [p_air, k1, k2, reduceIte, Bool.false_eq_true, Bool.true_eq_false, Bool.true_and, Bool.false_and, Bool.and_true, Bool.and_false, decide_eq_true_eq, decide_true, decide_false, not_true_eq_false, not_false_eq_true, zbT, zbF]]; exact ⟨rfl, Qz.no⟩)
  · refine x_top (show f_out (nI k) 0 30 = 0 from e) ?_
    refine x_istore_n (lv' := [(2, .int 0), (0, mx_rf E 0), (1, .int (nI k))]) dX3_air_7 rfl (by decide) rfl ?_
    refine x_iload_n 0 dX3_air_8 rfl ?_
    refine x_if_eq dX3_air_9 (fun _ => ?_) (fun c => absurd c (by decide))
    refine x_bipush (v := -9) dX3_air_18 (by decide) ?_
    refine x_istore_n (lv' := [(3, .int (-9)), (2, .int 0), (0, mx_rf E 0), (1, .int (nI k))]) dX3_air_20 rfl (by decide) rfl ?_
    refine x_bipush (v := 7) dX3_air_21 (by decide) ?_
    refine x_istore (lv' := [(4, .int 7), (3, .int (-9)), (2, .int 0), (0, mx_rf E 0), (1, .int (nI k))]) dX3_air_23 rfl (by decide) rfl ?_
    refine x_iconst (v := 0) dX3_air_25 (by decide) ?_
    refine x_istore (lv' := [(5, .int 0), (4, .int 7), (3, .int (-9)), (2, .int 0), (0, mx_rf E 0), (1, .int (nI k))]) dX3_air_26 rfl (by decide) rfl ?_
    have key28 : ∀ s, s ≤ 2 ^ n → ∀ τ : Mem, Off 2 σ τ → MX E 6 RX3 cX3_air 7 (some .int) 28 [(5, .int (nI s)), (4, .int (nI (f_airL (f_airU n r k s)))), (3, .int (f_o9 (f_airU n r k s))), (0, mx_rf E 0), (1, .int (nI k))] [] τ (mx_i (fun v τ => (p_air n r (nI k)).1 = v ∧ Qz (p_air n r (nI k)).2 σ τ)) := by
      refine mx_ind (2 ^ n) (fun s hi28 ih28 => ?_)
      intro τ hO
      refine x_iload 0 dX3_air_28 rfl ?_
      refine x_iconst (v := 1) dX3_air_30 (by decide) ?_
      refine x_aload_n 3 dX3_air_31 rfl ?_
      refine gfX3_10 dX3_air_32 ?_
      refine gfX3_115 (by decide) (by decide) dX3_air_35 ?_
      refine x_top (show τ 1 2 = nI n from (hT.offt hn6 (by decide) (by decide) (by decide) (by decide) (by decide) hO).1) ?_
      refine x_ishl dX3_air_38 ?_
      refine x_top (show 1 <<< ((nI n) &&& 31) = nI (2 ^ n) from (f_shl1 hn6)) ?_
      refine x_icmp_ge dX3_air_39 (fun c39 => ?_) (fun c39 => ?_)
      · have hge := nI_le_of (by omega) (by omega) c39
        have hsn : s = 2 ^ n := by omega
        refine x_iload_n 2 dX3_air_79 rfl ?_
        exact x_iret dX3_air_80 (by rw [show p_air n r (nI k) = (f_o9 (f_airU n r k (2 ^ n)), 0) from by simp only [p_air, k1, k2, nI_clamp (show k < 2 ^ 31 by omega), reduceIte, Bool.false_eq_true, Bool.true_eq_false, Bool.true_and, Bool.false_and, Bool.and_true, Bool.and_false, decide_eq_true_eq, decide_true, decide_false, not_true_eq_false, not_false_eq_true, zbT, zbF]]; exact ⟨by rw [hsn], Qz.off hO⟩)
      · have hs := nI_lt_of (by omega) (by omega) c39
        have hL := f_airL_le n r k s
        have hc := f_cnt_le s
        refine x_iload 0 dX3_air_42 rfl ?_
        refine clX3_193 (qJ6_bitCount s (by omega)) (by decide) rfl dX3_air_44 (fun r44 τ44 h44 => ?_)
        obtain ⟨rfl, rfl⟩ := h44
        refine x_istore (lv' := [(6, .int (nI (f_cnt s))), (5, .int (nI s)), (4, .int (nI (f_airL (f_airU n r k s)))), (3, .int (f_o9 (f_airU n r k s))), (0, mx_rf E 0), (1, .int (nI k))]) dX3_air_47 rfl (by decide) rfl ?_
        refine x_iload 0 dX3_air_49 rfl ?_
        refine x_iload 2 dX3_air_51 rfl ?_
        refine x_icmp_ge dX3_air_53 (fun c53 => ?_) (fun c53 => ?_)
        · have c53x : ¬ f_cnt s < f_airL (f_airU n r k s) := Nat.not_lt.mpr (nI_le_of (by omega) (by omega) c53)
          refine x_iinc (v := nI (s + 1)) (lv' := [(5, .int (nI (s + 1))), (6, .int (nI (f_cnt s))), (4, .int (nI (f_airL (f_airU n r k s)))), (3, .int (f_o9 (f_airU n r k s))), (0, mx_rf E 0), (1, .int (nI k))]) 1 dX3_air_73 rfl (nI_1 _) (by decide) rfl ?_
          refine x_goto dX3_air_76 ?_
          refine x_lvs [0, 2, 3, 4, 5] rfl ?_
          exact flM_eq (P := fun x y => MX E _ _ _ _ _ _ [(5, .int (nI (s + 1))), (4, .int x), (3, .int y), (0, mx_rf E 0), (1, .int (nI k))] _ _ _) (f_air_F (fun z => c53x z.1)) (ih28 (s + 1) (by omega) (by omega) _ hO)
        · have c53x : f_cnt s < f_airL (f_airU n r k s) := nI_lt_of (by omega) (by omega) c53
          refine x_aload_n 4 dX3_air_56 rfl ?_
          refine x_iload 1 dX3_air_57 rfl ?_
          refine x_iload_n 5 dX3_air_59 rfl ?_
          refine clX3_198 (qX3_noneLostIfAired (hN.off (by decide) (by decide) hO) (hT.offt hn6 (by decide) (by decide) (by decide) (by decide) (by decide) hO) hw s k (by omega) (by omega)) (by decide) rfl dX3_air_60 (fun r60 τ60 h60 => ?_)
          obtain ⟨rfl, hO9⟩ := h60
          have hO8 := hO.tr hO9
          refine x_if_eq dX3_air_63 (fun c63 => ?_) (fun c63 => ?_)
          · replace c63 := zb_0 c63
            refine x_iinc (v := nI (s + 1)) (lv' := [(5, .int (nI (s + 1))), (6, .int (nI (f_cnt s))), (4, .int (nI (f_airL (f_airU n r k s)))), (3, .int (f_o9 (f_airU n r k s))), (0, mx_rf E 0), (1, .int (nI k))]) 1 dX3_air_73 rfl (nI_1 _) (by decide) rfl ?_
            refine x_goto dX3_air_76 ?_
            refine x_lvs [0, 2, 3, 4, 5] rfl ?_
            exact flM_eq (P := fun x y => MX E _ _ _ _ _ _ [(5, .int (nI (s + 1))), (4, .int x), (3, .int y), (0, mx_rf E 0), (1, .int (nI k))] _ _ _) (f_air_F (fun z => by rw [c63] at z; exact absurd z.2 (by decide))) (ih28 (s + 1) (by omega) (by omega) _ hO8)
          · replace c63 := zb_1 c63
            refine x_iload 0 dX3_air_66 rfl ?_
            refine x_istore (lv' := [(4, .int (nI (f_cnt s))), (6, .int (nI (f_cnt s))), (5, .int (nI s)), (3, .int (f_o9 (f_airU n r k s))), (0, mx_rf E 0), (1, .int (nI k))]) dX3_air_68 rfl (by decide) rfl ?_
            refine x_iload 2 dX3_air_70 rfl ?_
            refine x_istore_n (lv' := [(3, .int (nI s)), (4, .int (nI (f_cnt s))), (6, .int (nI (f_cnt s))), (5, .int (nI s)), (0, mx_rf E 0), (1, .int (nI k))]) dX3_air_72 rfl (by decide) rfl ?_
            refine x_iinc (v := nI (s + 1)) (lv' := [(5, .int (nI (s + 1))), (3, .int (nI s)), (4, .int (nI (f_cnt s))), (6, .int (nI (f_cnt s))), (0, mx_rf E 0), (1, .int (nI k))]) 3 dX3_air_73 rfl (nI_1 _) (by decide) rfl ?_
            refine x_goto dX3_air_76 ?_
            refine x_lvs [0, 2, 1, 4, 5] rfl ?_
            exact flM_eq (P := fun x y => MX E _ _ _ _ _ _ [(5, .int (nI (s + 1))), (4, .int x), (3, .int y), (0, mx_rf E 0), (1, .int (nI k))] _ _ _) (f_air_T c53x c63) (ih28 (s + 1) (by omega) (by omega) _ hO8)
    refine x_lvs [0, 1, 2, 4, 5] rfl ?_
    exact key28 0 (Nat.zero_le _) _ Off.rf

set_option maxHeartbeats 4000000 in
theorem qX3_buy {E : mx_E} {σ : Mem} {n : Nat} {r : Row} (hN : NW σ) (hT : TI σ 1 n r) (hw : wf n r) (k : Int32) : MX3_buy E 5 [mx_rf E 0, .int k] σ (mx_i (fun v τ => (p_buy n r k).1 = v ∧ Qz (p_buy n r k).2 σ τ)) := by
  refine MM.of (lv := [(0, mx_rf E 0), (1, .int k)]) kpX3 rfl (Nat.le_of_ble_eq_true rfl) rfl ?_
  have hn6 := hw.1
  refine x_iload_n 1 dX3_buy_0 rfl ?_
  refine x_iconst (v := 0) dX3_buy_1 (by decide) ?_
  refine x_bipush (v := 30) dX3_buy_2 (by decide) ?_
  refine clX3_169 (qX3_outOf k 0 30) (by decide) rfl dX3_buy_4 (fun r4 τ4 h4 => ?_)
  obtain ⟨rfl, rfl⟩ := h4
  rcases f_out_c (v := k) (lo := 0) (hi := 30) (l := 0) (h := 30) (by decide) (by decide) rfl rfl with ⟨k1, e⟩ | ⟨k1, k2, e⟩ | ⟨k, hk1, hk2, rfl, k1, k2, e⟩
  · refine x_top (show f_out k 0 30 = -4 from e) ?_
    refine x_istore_n (lv' := [(2, .int (-4)), (0, mx_rf E 0), (1, .int k)]) dX3_buy_7 rfl (by decide) rfl ?_
    refine x_iload_n 0 dX3_buy_8 rfl ?_
    refine x_if_eq dX3_buy_9 (fun c => absurd c (by decide)) (fun _ => ?_)
    refine x_aload_n 1 dX3_buy_12 rfl ?_
    refine x_iload_n 0 dX3_buy_13 rfl ?_
    refine clX3_49 (qX3_refuse 4 (by decide) (by decide)) (by decide) rfl dX3_buy_14 (fun r14 τ14 h14 => ?_)
    obtain ⟨rfl, rfl⟩ := h14
    exact x_iret dX3_buy_17 (by rw [show p_buy n r k = ((-4 : Int32), 4) from by simp only [p_buy, k1, reduceIte, Bool.false_eq_true, Bool.true_eq_false, Bool.true_and, Bool.false_and, Bool.and_true, Bool.and_false, decide_eq_true_eq, decide_true, decide_false, not_true_eq_false, not_false_eq_true, zbT, zbF]]; exact ⟨rfl, Qz.no⟩)
  · refine x_top (show f_out k 0 30 = -6 from e) ?_
    refine x_istore_n (lv' := [(2, .int (-6)), (0, mx_rf E 0), (1, .int k)]) dX3_buy_7 rfl (by decide) rfl ?_
    refine x_iload_n 0 dX3_buy_8 rfl ?_
    refine x_if_eq dX3_buy_9 (fun c => absurd c (by decide)) (fun _ => ?_)
    refine x_aload_n 1 dX3_buy_12 rfl ?_
    refine x_iload_n 0 dX3_buy_13 rfl ?_
    refine clX3_49 (qX3_refuse 6 (by decide) (by decide)) (by decide) rfl dX3_buy_14 (fun r14 τ14 h14 => ?_)
    obtain ⟨rfl, rfl⟩ := h14
    exact x_iret dX3_buy_17 (by rw [show p_buy n r k = ((-6 : Int32), 6) from by simp only [p_buy, k1, k2, reduceIte, Bool.false_eq_true, Bool.true_eq_false, Bool.true_and, Bool.false_and, Bool.and_true, Bool.and_false, decide_eq_true_eq, decide_true, decide_false, not_true_eq_false, not_false_eq_true, zbT, zbF]]; exact ⟨rfl, Qz.no⟩)
  · refine x_top (show f_out (nI k) 0 30 = 0 from e) ?_
    refine x_istore_n (lv' := [(2, .int 0), (0, mx_rf E 0), (1, .int (nI k))]) dX3_buy_7 rfl (by decide) rfl ?_
    refine x_iload_n 0 dX3_buy_8 rfl ?_
    refine x_if_eq dX3_buy_9 (fun _ => ?_) (fun c => absurd c (by decide))
    refine x_iconst (v := 0) dX3_buy_18 (by decide) ?_
    refine x_istore_n (lv' := [(3, .int 0), (2, .int 0), (0, mx_rf E 0), (1, .int (nI k))]) dX3_buy_19 rfl (by decide) rfl ?_
    have key20 : ∀ v, v ≤ 301 → ∀ τ : Mem, Off 2 σ τ → f_buyG n r k (301 - v) v = f_buyG n r k 301 0 → MX E 5 RX3 cX3_buy 4 (some .int) 20 [(3, .int (nI v)), (0, mx_rf E 0), (1, .int (nI k))] [] τ (mx_i (fun v τ => (p_buy n r (nI k)).1 = v ∧ Qz (p_buy n r (nI k)).2 σ τ)) := by
      refine mx_ind 301 (fun v hi20 ih20 => ?_)
      intro τ hO hg
      refine x_iload_n 0 dX3_buy_20 rfl ?_
      refine x_sipush (v := 300) dX3_buy_21 (by decide) ?_
      refine x_icmp_gt dX3_buy_24 (fun c24 => ?_) (fun c24 => ?_)
      · have hv : ¬ v ≤ 300 := Nat.not_le.mpr ((nI_ltI (a := 300) (by decide) (by omega)).mp c24)
        refine x_bipush (v := -9) dX3_buy_62 (by decide) ?_
        exact x_iret dX3_buy_64 (by rw [show p_buy n r (nI k) = (f_buyG n r k 301 0, 0) from by simp only [p_buy, k1, k2, nI_clamp (show k < 2 ^ 31 by omega), reduceIte, Bool.false_eq_true, Bool.true_eq_false, Bool.true_and, Bool.false_and, Bool.and_true, Bool.and_false, decide_eq_true_eq, decide_true, decide_false, not_true_eq_false, not_false_eq_true, zbT, zbF]]; exact ⟨f_buyE hv hg, Qz.off hO⟩)
      · have hv : v ≤ 300 := nI_nlt_le (b := 300) (by omega) (by decide) c24
        refine x_aload_n 1 dX3_buy_27 rfl ?_
        refine gfX3_16 dX3_buy_28 ?_
        refine x_aload_n 1 dX3_buy_31 rfl ?_
        refine gfX3_10 dX3_buy_32 ?_
        refine clX3_73 (qX2_become (t := 2) (u := 1) (by decide) (by decide) (by decide) (by decide) (by decide) (hT.offt hn6 (by decide) (by decide) (by decide) (by decide) (by decide) hO) hw) (by decide) (by decide) (by decide) rfl dX3_buy_35 (fun τ35 h35 => ?_)
        refine x_aload_n 1 dX3_buy_38 rfl ?_
        refine gfX3_16 dX3_buy_39 ?_
        refine x_iload_n 0 dX3_buy_42 rfl ?_
        refine pfX3_45 (by decide) (by decide) dX3_buy_43 ?_
        have hT43 : TI (mx_up τ35 2 4 (nI v)) 2 n (upd r 3 (nI v)) := h35.1.cand (by decide) _
        have hO43 : Off 2 σ (mx_up τ35 2 4 (nI v)) := (hO.tr h35.2).up inT_t
        refine x_aload_n 1 dX3_buy_46 rfl ?_
        refine x_iload_n 2 dX3_buy_47 rfl ?_
        refine clX3_202 (qX3_noneLostWithin (hN.off (by decide) (by decide) hO43) (hT.offt hn6 (by decide) (by decide) (by decide) (by decide) (by decide) hO43) hw hT43 (wf_cand hw) (upd_o (by decide)) k (by omega)) (by decide) rfl dX3_buy_48 (fun r48 τ48 h48 => ?_)
        obtain ⟨rfl, hO9⟩ := h48
        have hO48 := hO43.tr hO9
        refine x_if_eq dX3_buy_51 (fun c51 => ?_) (fun c51 => ?_)
        · replace c51 := zb_0 c51
          refine x_iinc (v := nI (v + 1)) (lv' := [(3, .int (nI (v + 1))), (0, mx_rf E 0), (1, .int (nI k))]) 0 dX3_buy_56 rfl (nI_1 _) (by decide) rfl ?_
          refine x_goto dX3_buy_59 ?_
          exact ih20 (v + 1) (by omega) (by omega) _ hO48 (f_buyF hv hg c51)
        · replace c51 := zb_1 c51
          refine x_iload_n 0 dX3_buy_54 rfl ?_
          exact x_iret dX3_buy_55 (by rw [show p_buy n r (nI k) = (f_buyG n r k 301 0, 0) from by simp only [p_buy, k1, k2, nI_clamp (show k < 2 ^ 31 by omega), reduceIte, Bool.false_eq_true, Bool.true_eq_false, Bool.true_and, Bool.false_and, Bool.and_true, Bool.and_false, decide_eq_true_eq, decide_true, decide_false, not_true_eq_false, not_false_eq_true, zbT, zbF]]; exact ⟨f_buyT hv hg c51, Qz.off hO48⟩)
    refine x_lvs [0, 2, 3] rfl ?_
    exact key20 0 (Nat.zero_le _) _ Off.rf rfl

set_option maxHeartbeats 4000000 in
theorem qX3_start {E : mx_E} {σ : Mem} {n : Nat} {r : Row} (hN : NW σ) (hT : TI σ 1 n r) (hw : wf n r) (k what : Int32) : MX3_start E 5 [mx_rf E 0, .int k, .int what] σ (mx_i (fun v τ => (p_start n r k what).1 = v ∧ Qz (p_start n r k what).2 σ τ)) := by
  refine MM.of (lv := [(0, mx_rf E 0), (1, .int k), (2, .int what)]) kpX3 rfl (Nat.le_of_ble_eq_true rfl) rfl ?_
  have hn6 := hw.1
  refine x_iload_n 1 dX3_start_0 rfl ?_
  refine x_iconst (v := 0) dX3_start_1 (by decide) ?_
  refine x_bipush (v := 30) dX3_start_2 (by decide) ?_
  refine clX3_169 (qX3_outOf k 0 30) (by decide) rfl dX3_start_4 (fun r4 τ4 h4 => ?_)
  obtain ⟨rfl, rfl⟩ := h4
  rcases f_out_c (v := k) (lo := 0) (hi := 30) (l := 0) (h := 30) (by decide) (by decide) rfl rfl with ⟨k1, e⟩ | ⟨k1, k2, e⟩ | ⟨k, hk1, hk2, rfl, k1, k2, e⟩
  · refine x_top (show f_out k 0 30 = -4 from e) ?_
    refine x_istore_n (lv' := [(3, .int (-4)), (0, mx_rf E 0), (1, .int k), (2, .int what)]) dX3_start_7 rfl (by decide) rfl ?_
    refine x_iload_n 0 dX3_start_8 rfl ?_
    refine x_if_eq dX3_start_9 (fun c => absurd c (by decide)) (fun _ => ?_)
    refine x_aload_n 1 dX3_start_12 rfl ?_
    refine x_iload_n 0 dX3_start_13 rfl ?_
    refine clX3_49 (qX3_refuse 4 (by decide) (by decide)) (by decide) rfl dX3_start_14 (fun r14 τ14 h14 => ?_)
    obtain ⟨rfl, rfl⟩ := h14
    exact x_iret dX3_start_17 (by rw [show p_start n r k what = ((-4 : Int32), 4) from by simp only [p_start, k1, reduceIte, Bool.false_eq_true, Bool.true_eq_false, Bool.true_and, Bool.false_and, Bool.and_true, Bool.and_false, decide_eq_true_eq, decide_true, decide_false, not_true_eq_false, not_false_eq_true, zbT, zbF]]; exact ⟨rfl, Qz.no⟩)
  · refine x_top (show f_out k 0 30 = -6 from e) ?_
    refine x_istore_n (lv' := [(3, .int (-6)), (0, mx_rf E 0), (1, .int k), (2, .int what)]) dX3_start_7 rfl (by decide) rfl ?_
    refine x_iload_n 0 dX3_start_8 rfl ?_
    refine x_if_eq dX3_start_9 (fun c => absurd c (by decide)) (fun _ => ?_)
    refine x_aload_n 1 dX3_start_12 rfl ?_
    refine x_iload_n 0 dX3_start_13 rfl ?_
    refine clX3_49 (qX3_refuse 6 (by decide) (by decide)) (by decide) rfl dX3_start_14 (fun r14 τ14 h14 => ?_)
    obtain ⟨rfl, rfl⟩ := h14
    exact x_iret dX3_start_17 (by rw [show p_start n r k what = ((-6 : Int32), 6) from by simp only [p_start, k1, k2, reduceIte, Bool.false_eq_true, Bool.true_eq_false, Bool.true_and, Bool.false_and, Bool.and_true, Bool.and_false, decide_eq_true_eq, decide_true, decide_false, not_true_eq_false, not_false_eq_true, zbT, zbF]]; exact ⟨rfl, Qz.no⟩)
  · refine x_top (show f_out (nI k) 0 30 = 0 from e) ?_
    refine x_istore_n (lv' := [(3, .int 0), (0, mx_rf E 0), (1, .int (nI k)), (2, .int what)]) dX3_start_7 rfl (by decide) rfl ?_
    refine x_iload_n 0 dX3_start_8 rfl ?_
    refine x_if_eq dX3_start_9 (fun _ => ?_) (fun c => absurd c (by decide))
    refine x_iload_n 3 dX3_start_18 rfl ?_
    refine x_if_lt dX3_start_19 (fun c19 => ?_) (fun c19 => ?_)
    · have hwt : f_in what 0 1 = false := by unfold f_in; rw [decide_eq_false (Int32.not_le.mpr c19)]; rfl
      refine x_aload_n 1 dX3_start_27 rfl ?_
      refine x_bipush (v := -2) dX3_start_28 (by decide) ?_
      refine clX3_49 (qX3_refuse 2 (by decide) (by decide)) (by decide) rfl dX3_start_30 (fun r30 τ30 h30 => ?_)
      obtain ⟨rfl, rfl⟩ := h30
      exact x_iret dX3_start_33 (by rw [show p_start n r (nI k) what = ((-2 : Int32), 2) from by simp only [p_start, k1, k2, c19, (Int32.not_le.mpr c19), nI_clamp (show k < 2 ^ 31 by omega), hwt, reduceIte, Bool.false_eq_true, Bool.true_eq_false, Bool.true_and, Bool.false_and, Bool.and_true, Bool.and_false, decide_eq_true_eq, decide_true, decide_false, not_true_eq_false, not_false_eq_true, zbT, zbF]]; exact ⟨rfl, Qz.no⟩)
    · refine x_iload_n 3 dX3_start_22 rfl ?_
      refine x_iconst (v := 1) dX3_start_23 (by decide) ?_
      refine x_icmp_le dX3_start_24 (fun c24 => ?_) (fun c24 => ?_)
      · have hwt : f_in what 0 1 = true := by unfold f_in; rw [decide_eq_true (Int32.not_lt.mp c19), decide_eq_true c24]; rfl
        refine x_bipush (v := -9) dX3_start_34 (by decide) ?_
        refine x_istore (lv' := [(4, .int (-9)), (3, .int 0), (0, mx_rf E 0), (1, .int (nI k)), (2, .int what)]) dX3_start_36 rfl (by decide) rfl ?_
        refine x_bipush (v := -9) dX3_start_38 (by decide) ?_
        refine x_istore (lv' := [(5, .int (-9)), (4, .int (-9)), (3, .int 0), (0, mx_rf E 0), (1, .int (nI k)), (2, .int what)]) dX3_start_40 rfl (by decide) rfl ?_
        refine x_iconst (v := 0) dX3_start_42 (by decide) ?_
        refine x_istore (lv' := [(6, .int 0), (5, .int (-9)), (4, .int (-9)), (3, .int 0), (0, mx_rf E 0), (1, .int (nI k)), (2, .int what)]) dX3_start_43 rfl (by decide) rfl ?_
        have key45 : ∀ i, i ≤ n → ∀ τ : Mem, Off 2 σ τ → MX E 5 RX3 cX3_start 8 (some .int) 45 [(6, .int (nI i)), (5, .int (f_stB (-9) (f_stU n r k i))), (4, .int (f_stN (f_stU n r k i))), (0, mx_rf E 0), (1, .int (nI k)), (2, .int what)] [] τ (mx_i (fun v τ => (p_start n r (nI k) what).1 = v ∧ Qz (p_start n r (nI k) what).2 σ τ)) := by
          refine mx_ind n (fun i hi45 ih45 => ?_)
          intro τ hO
          refine x_iload 0 dX3_start_45 rfl ?_
          refine x_aload_n 3 dX3_start_47 rfl ?_
          refine gfX3_10 dX3_start_48 ?_
          refine gfX3_115 (by decide) (by decide) dX3_start_51 ?_
          refine x_top (show τ 1 2 = nI n from (hT.offt hn6 (by decide) (by decide) (by decide) (by decide) (by decide) hO).1) ?_
          refine x_icmp_ge dX3_start_54 (fun c54 => ?_) (fun c54 => ?_)
          · have hge := nI_le_of (by omega) (by omega) c54
            have hin : n = i := by omega
            refine x_iload_n 5 dX3_start_115 rfl ?_
            refine x_if_ne dX3_start_116 (fun c116 => ?_) (fun c116 => ?_)
            · refine x_iload 1 dX3_start_124 rfl ?_
              exact x_iret dX3_start_126 (by rw [show p_start n r (nI k) what = (f_stB (-9) (f_stU n r k i), 0) from by simp only [p_start, k1, k2, hwt, nI_clamp (show k < 2 ^ 31 by omega), reduceIte, Bool.false_eq_true, Bool.true_eq_false, Bool.true_and, Bool.false_and, Bool.and_true, Bool.and_false, decide_eq_true_eq, decide_true, decide_false, not_true_eq_false, not_false_eq_true, zbT, zbF]; rw [hin]; exact congrArg (fun x => (x, 0)) (f_st_2 c116)]; exact ⟨rfl, Qz.off hO⟩)
            · refine x_iload 2 dX3_start_119 rfl ?_
              refine x_goto dX3_start_121 ?_
              exact x_iret dX3_start_126 (by rw [show p_start n r (nI k) what = (f_stN (f_stU n r k i), 0) from by simp only [p_start, k1, k2, hwt, nI_clamp (show k < 2 ^ 31 by omega), reduceIte, Bool.false_eq_true, Bool.true_eq_false, Bool.true_and, Bool.false_and, Bool.and_true, Bool.and_false, decide_eq_true_eq, decide_true, decide_false, not_true_eq_false, not_false_eq_true, zbT, zbF]; rw [hin]; exact congrArg (fun x => (x, 0)) (f_st_1 c116)]; exact ⟨rfl, Qz.off hO⟩)
          · have hi := nI_lt_of (by omega) (by omega) c54
            refine x_aload_n 3 dX3_start_57 rfl ?_
            refine gfX3_16 dX3_start_58 ?_
            refine x_aload_n 3 dX3_start_61 rfl ?_
            refine gfX3_10 dX3_start_62 ?_
            refine clX3_73 (qX2_become (t := 2) (u := 1) (by decide) (by decide) (by decide) (by decide) (by decide) (hT.offt hn6 (by decide) (by decide) (by decide) (by decide) (by decide) hO) hw) (by decide) (by decide) (by decide) rfl dX3_start_65 (fun τ65 h65 => ?_)
            refine x_aload_n 3 dX3_start_68 rfl ?_
            refine gfX3_16 dX3_start_69 ?_
            refine x_iload 0 dX3_start_72 rfl ?_
            refine pfX3_139 (by decide) (by decide) dX3_start_74 ?_
            have hT74 : TI (mx_up τ65 2 3 (nI i)) 2 n (upd r 2 (nI i)) := h65.1.insp (by decide) _
            have hO74 : Off 2 σ (mx_up τ65 2 3 (nI i)) := (hO.tr h65.2).up inT_t
            refine x_aload_n 3 dX3_start_77 rfl ?_
            refine gfX3_16 dX3_start_78 ?_
            refine x_iload_n 4 dX3_start_81 rfl ?_
            refine clX3_145 (qX2_pass (t := 2) (by decide) (by decide) hT74 (wf_inspAt hw hi) (hN.off (by decide) (by decide) hO74) k (by omega)) (by decide) (by decide) (by decide) rfl dX3_start_82 (fun τ82 h82 => ?_)
            have hO82 : Off 2 σ τ82 := hO74.tr h82.2
            refine x_aload_n 3 dX3_start_85 rfl ?_
            refine gfX3_16 dX3_start_86 ?_
            refine clX3_166 (qX2_howManyKept (by decide) (by decide) h82.1 (wf_weeks (wf_inspAt hw hi) k)) (by decide) (by decide) (by decide) rfl dX3_start_89 (fun r89 τ89 h89 => ?_)
            obtain ⟨rfl, rfl⟩ := h89
            refine x_istore (lv' := [(7, .int (f_bits ((f_weeks n (upd r (2) (nI i)) k) 4))), (6, .int (nI i)), (5, .int (f_stB (-9) (f_stU n r k i))), (4, .int (f_stN (f_stU n r k i))), (0, mx_rf E 0), (1, .int (nI k)), (2, .int what)]) dX3_start_92 rfl (by decide) rfl ?_
            refine x_iload 0 dX3_start_94 rfl ?_
            refine x_iload 2 dX3_start_96 rfl ?_
            refine x_icmp_le dX3_start_98 (fun c98 => ?_) (fun c98 => ?_)
            · refine x_iinc (v := nI (i + 1)) (lv' := [(6, .int (nI (i + 1))), (7, .int (f_bits ((f_weeks n (upd r (2) (nI i)) k) 4))), (5, .int (f_stB (-9) (f_stU n r k i))), (4, .int (f_stN (f_stU n r k i))), (0, mx_rf E 0), (1, .int (nI k)), (2, .int what)]) 1 dX3_start_109 rfl (nI_1 _) (by decide) rfl ?_
              refine x_goto dX3_start_112 ?_
              refine x_lvs [0, 2, 3, 4, 5, 6] rfl ?_
              exact flM_eq (P := fun x y => MX E _ _ _ _ _ _ [(6, .int (nI (i + 1))), (5, .int y), (4, .int x), (0, mx_rf E 0), (1, .int (nI k)), (2, .int what)] _ _ _) (f_st_F2 hw hi (by decide) (Int32.not_lt.mpr c98)) (ih45 (i + 1) (by omega) (by omega) _ hO82)
            · refine x_iload 0 dX3_start_101 rfl ?_
              refine x_istore (lv' := [(5, .int (f_bits ((f_weeks n (upd r (2) (nI i)) k) 4))), (7, .int (f_bits ((f_weeks n (upd r (2) (nI i)) k) 4))), (6, .int (nI i)), (4, .int (f_stN (f_stU n r k i))), (0, mx_rf E 0), (1, .int (nI k)), (2, .int what)]) dX3_start_103 rfl (by decide) rfl ?_
              refine x_iload 2 dX3_start_105 rfl ?_
              refine x_istore (lv' := [(4, .int (nI i)), (5, .int (f_bits ((f_weeks n (upd r (2) (nI i)) k) 4))), (7, .int (f_bits ((f_weeks n (upd r (2) (nI i)) k) 4))), (6, .int (nI i)), (0, mx_rf E 0), (1, .int (nI k)), (2, .int what)]) dX3_start_107 rfl (by decide) rfl ?_
              refine x_iinc (v := nI (i + 1)) (lv' := [(6, .int (nI (i + 1))), (4, .int (nI i)), (5, .int (f_bits ((f_weeks n (upd r (2) (nI i)) k) 4))), (7, .int (f_bits ((f_weeks n (upd r (2) (nI i)) k) 4))), (0, mx_rf E 0), (1, .int (nI k)), (2, .int what)]) 3 dX3_start_109 rfl (nI_1 _) (by decide) rfl ?_
              refine x_goto dX3_start_112 ?_
              refine x_lvs [0, 2, 1, 4, 5, 6] rfl ?_
              exact flM_eq (P := fun x y => MX E _ _ _ _ _ _ [(6, .int (nI (i + 1))), (5, .int y), (4, .int x), (0, mx_rf E 0), (1, .int (nI k)), (2, .int what)] _ _ _) (f_st_T2 (Int32.not_le.mp c98)) (ih45 (i + 1) (by omega) (by omega) _ hO82)
        refine x_lvs [0, 1, 2, 4, 5, 6] rfl ?_
        exact key45 0 (Nat.zero_le _) _ Off.rf
      · have hwt : f_in what 0 1 = false := by unfold f_in; rw [decide_eq_false c24, Bool.and_false]
        refine x_aload_n 1 dX3_start_27 rfl ?_
        refine x_bipush (v := -2) dX3_start_28 (by decide) ?_
        refine clX3_49 (qX3_refuse 2 (by decide) (by decide)) (by decide) rfl dX3_start_30 (fun r30 τ30 h30 => ?_)
        obtain ⟨rfl, rfl⟩ := h30
        exact x_iret dX3_start_33 (by rw [show p_start n r (nI k) what = ((-2 : Int32), 2) from by simp only [p_start, k1, k2, c19, (Int32.not_lt.mp c19), c24, (Int32.not_le.mp c24), nI_clamp (show k < 2 ^ 31 by omega), hwt, reduceIte, Bool.false_eq_true, Bool.true_eq_false, Bool.true_and, Bool.false_and, Bool.and_true, Bool.and_false, decide_eq_true_eq, decide_true, decide_false, not_true_eq_false, not_false_eq_true, zbT, zbF]]; exact ⟨rfl, Qz.no⟩)

set_option maxHeartbeats 4000000 in
theorem qX3_bestKind {E : mx_E} {σ : Mem} {n : Nat} {r : Row} (hN : NW σ) (hT : TI σ 1 n r) (hw : wf n r) (house what : Int32) : MX3_bestKind E 5 [mx_rf E 0, .int house, .int what] σ (mx_i (fun v τ => (p_bestKind n r house what).1 = v ∧ Qz (p_bestKind n r house what).2 σ τ)) := by
  refine MM.of (lv := [(0, mx_rf E 0), (1, .int house), (2, .int what)]) kpX3 rfl (Nat.le_of_ble_eq_true rfl) rfl ?_
  have hn6 := hw.1
  refine x_aload_n 0 dX3_bestKind_0 rfl ?_
  refine gfX3_10 dX3_bestKind_1 ?_
  refine x_iload_n 1 dX3_bestKind_4 rfl ?_
  refine clX3_122 (qX2_has (by decide) (by decide) hT.1 house) (by decide) (by decide) (by decide) rfl dX3_bestKind_5 (fun r5 τ5 h5 => ?_)
  obtain ⟨rfl, rfl⟩ := h5
  refine x_if_ne dX3_bestKind_8 (fun c8 => ?_) (fun c8 => ?_)
  · replace c8 := zb_1 c8
    obtain ⟨h, hh, rfl⟩ := f_inN_t (by omega) c8
    refine x_iload_n 2 dX3_bestKind_17 rfl ?_
    refine x_if_lt dX3_bestKind_18 (fun c18 => ?_) (fun c18 => ?_)
    · have hwt : f_in what 0 1 = false := by unfold f_in; rw [decide_eq_false (Int32.not_le.mpr c18)]; rfl
      refine x_aload_n 0 dX3_bestKind_26 rfl ?_
      refine x_bipush (v := -2) dX3_bestKind_27 (by decide) ?_
      refine clX3_49 (qX3_refuse 2 (by decide) (by decide)) (by decide) rfl dX3_bestKind_29 (fun r29 τ29 h29 => ?_)
      obtain ⟨rfl, rfl⟩ := h29
      exact x_iret dX3_bestKind_32 (by rw [show p_bestKind n r (nI h) what = ((-2 : Int32), 2) from by simp only [p_bestKind, c8, c18, (Int32.not_le.mpr c18), nI_clamp (show h < 2 ^ 31 by omega), hwt, reduceIte, Bool.false_eq_true, Bool.true_eq_false, Bool.true_and, Bool.false_and, Bool.and_true, Bool.and_false, decide_eq_true_eq, decide_true, decide_false, not_true_eq_false, not_false_eq_true, zbT, zbF]]; exact ⟨rfl, Qz.no⟩)
    · refine x_iload_n 2 dX3_bestKind_21 rfl ?_
      refine x_iconst (v := 1) dX3_bestKind_22 (by decide) ?_
      refine x_icmp_le dX3_bestKind_23 (fun c23 => ?_) (fun c23 => ?_)
      · have hwt : f_in what 0 1 = true := by unfold f_in; rw [decide_eq_true (Int32.not_lt.mp c18), decide_eq_true c23]; rfl
        refine x_bipush (v := -9) dX3_bestKind_33 (by decide) ?_
        refine x_istore_n (lv' := [(3, .int (-9)), (0, mx_rf E 0), (1, .int (nI h)), (2, .int what)]) dX3_bestKind_35 rfl (by decide) rfl ?_
        refine x_iconst (v := -1) dX3_bestKind_36 (by decide) ?_
        refine x_istore (lv' := [(4, .int (-1)), (3, .int (-9)), (0, mx_rf E 0), (1, .int (nI h)), (2, .int what)]) dX3_bestKind_37 rfl (by decide) rfl ?_
        refine x_iconst (v := 0) dX3_bestKind_39 (by decide) ?_
        refine x_istore (lv' := [(5, .int 0), (4, .int (-1)), (3, .int (-9)), (0, mx_rf E 0), (1, .int (nI h)), (2, .int what)]) dX3_bestKind_40 rfl (by decide) rfl ?_
        have key42 : ∀ k, k ≤ 6 → ∀ τ : Mem, Off 2 σ τ → MX E 5 RX3 cX3_bestKind 8 (some .int) 42 [(5, .int (nI k)), (4, .int ((f_bkU n r h k).2)), (3, .int (f_bkG n r h k)), (0, mx_rf E 0), (1, .int (nI h)), (2, .int what)] [] τ (mx_i (fun v τ => (p_bestKind n r (nI h) what).1 = v ∧ Qz (p_bestKind n r (nI h) what).2 σ τ)) := by
          refine mx_ind 6 (fun k hi42 ih42 => ?_)
          intro τ hO
          refine x_iload 0 dX3_bestKind_42 rfl ?_
          refine x_bipush (v := 6) dX3_bestKind_44 (by decide) ?_
          refine x_icmp_ge dX3_bestKind_46 (fun c46 => ?_) (fun c46 => ?_)
          · have hge := nI_le_of (b := 6) (by decide) (by omega) c46
            have hk6 : k = 6 := by omega
            refine x_iload_n 5 dX3_bestKind_116 rfl ?_
            refine x_if_ne dX3_bestKind_117 (fun c117 => ?_) (fun c117 => ?_)
            · refine x_iload 1 dX3_bestKind_122 rfl ?_
              refine x_bipush (v := 60) dX3_bestKind_124 (by decide) ?_
              refine x_icmp_le dX3_bestKind_126 (fun c126 => ?_) (fun c126 => ?_)
              · refine x_iload 1 dX3_bestKind_134 rfl ?_
                exact x_iret dX3_bestKind_136 (by rw [show p_bestKind n r (nI h) what = ((f_bkU n r h k).2, 0) from by simp [p_bestKind, c8, hwt, f_in001, nI_clamp (show h < 2 ^ 31 by omega), show f_bkU n r h 6 = f_bkU n r h k from by rw [hk6], show f_bkG n r h k = nI (f_bkU n r h k).1 from by unfold f_bkG; rw [if_neg (by omega)], c117, (Int32.not_lt.mpr c126)]]; exact ⟨rfl, Qz.off hO⟩)
              · refine x_bipush (v := -9) dX3_bestKind_129 (by decide) ?_
                refine x_goto dX3_bestKind_131 ?_
                exact x_iret dX3_bestKind_136 (by rw [show p_bestKind n r (nI h) what = (-9, 0) from by simp [p_bestKind, c8, hwt, f_in001, nI_clamp (show h < 2 ^ 31 by omega), show f_bkU n r h 6 = f_bkU n r h k from by rw [hk6], show f_bkG n r h k = nI (f_bkU n r h k).1 from by unfold f_bkG; rw [if_neg (by omega)], c117, (Int32.not_le.mp c126)]]; exact ⟨rfl, Qz.off hO⟩)
            · refine x_iload_n 2 dX3_bestKind_120 rfl ?_
              exact x_iret dX3_bestKind_121 (by rw [show p_bestKind n r (nI h) what = (f_bkG n r h k, 0) from by simp [p_bestKind, c8, hwt, f_in001, nI_clamp (show h < 2 ^ 31 by omega), show f_bkU n r h 6 = f_bkU n r h k from by rw [hk6], show f_bkG n r h k = nI (f_bkU n r h k).1 from by unfold f_bkG; rw [if_neg (by omega)], c117]]; exact ⟨rfl, Qz.off hO⟩)
          · have hk := nI_lt_of (b := 6) (by decide) (by omega) c46
            refine x_aload_n 3 dX3_bestKind_49 rfl ?_
            refine gfX3_16 dX3_bestKind_50 ?_
            refine x_aload_n 3 dX3_bestKind_53 rfl ?_
            refine gfX3_10 dX3_bestKind_54 ?_
            refine clX3_73 (qX2_become (t := 2) (u := 1) (by decide) (by decide) (by decide) (by decide) (by decide) (hT.offt hn6 (by decide) (by decide) (by decide) (by decide) (by decide) hO) hw) (by decide) (by decide) (by decide) rfl dX3_bestKind_57 (fun τ57 h57 => ?_)
            refine x_aload_n 3 dX3_bestKind_60 rfl ?_
            refine gfX3_16 dX3_bestKind_61 ?_
            refine x_iload_n 4 dX3_bestKind_64 rfl ?_
            refine clX3_125 (qX2_at (by decide) (by decide) h57.1.1 hn6 hh) (by decide) (by decide) (by decide) rfl dX3_bestKind_65 (fun r65 τ65 h65 => ?_)
            obtain ⟨rfl, rfl⟩ := h65
            refine x_iload 0 dX3_bestKind_68 rfl ?_
            refine pfX3_148 (by omega) (by omega) dX3_bestKind_70 ?_
            have hT70 : TI (mx_up τ57 (4 + 6 * 2 + h) 0 (nI k)) 2 n (upd r (6 + 6 * h) (nI k)) := h57.1.fld (by decide) hh (by decide)
            have hO70 : Off 2 σ (mx_up τ57 (4 + 6 * 2 + h) 0 (nI k)) := (hO.tr h57.2).up (inT_h (by omega))
            refine x_aload_n 3 dX3_bestKind_73 rfl ?_
            refine x_iload_n 4 dX3_bestKind_74 rfl ?_
            refine clX3_179 (qX3_weeksTillLost (hN.off (by decide) (by decide) hO70) hT70 (wf_kind hw hk) hh) (by decide) rfl dX3_bestKind_75 (fun r75 τ75 h75 => ?_)
            obtain ⟨rfl, hO9⟩ := h75
            have hO8 : Off 2 σ τ75 := hO70.tr hO9
            refine x_istore (lv' := [(6, .int (f_when n (upd r (6 + 6 * h) (nI k)) h)), (5, .int (nI k)), (4, .int ((f_bkU n r h k).2)), (3, .int (f_bkG n r h k)), (0, mx_rf E 0), (1, .int (nI h)), (2, .int what)]) dX3_bestKind_78 rfl (by decide) rfl ?_
            refine x_iload 0 dX3_bestKind_80 rfl ?_
            refine x_bipush (v := -9) dX3_bestKind_82 (by decide) ?_
            refine x_icmp_ne dX3_bestKind_84 (fun c84 => ?_) (fun c84 => ?_)
            · refine x_iload 0 dX3_bestKind_92 rfl ?_
              refine x_istore (lv' := [(7, .int (f_when n (upd r (6 + 6 * h) (nI k)) h)), (6, .int (f_when n (upd r (6 + 6 * h) (nI k)) h)), (5, .int (nI k)), (4, .int ((f_bkU n r h k).2)), (3, .int (f_bkG n r h k)), (0, mx_rf E 0), (1, .int (nI h)), (2, .int what)]) dX3_bestKind_94 rfl (by decide) rfl ?_
              refine x_iload 0 dX3_bestKind_96 rfl ?_
              refine x_iload 3 dX3_bestKind_98 rfl ?_
              refine x_icmp_le dX3_bestKind_100 (fun c100 => ?_) (fun c100 => ?_)
              · refine x_iinc (v := nI (k + 1)) (lv' := [(5, .int (nI (k + 1))), (7, .int (f_when n (upd r (6 + 6 * h) (nI k)) h)), (6, .int (f_when n (upd r (6 + 6 * h) (nI k)) h)), (4, .int ((f_bkU n r h k).2)), (3, .int (f_bkG n r h k)), (0, mx_rf E 0), (1, .int (nI h)), (2, .int what)]) 2 dX3_bestKind_110 rfl (nI_1 _) (by decide) rfl ?_
                refine x_goto dX3_bestKind_113 ?_
                refine x_lvs [0, 3, 4, 5, 6, 7] rfl ?_
                exact flM_eq (P := fun x y => MX E _ _ _ _ _ _ [(5, .int (nI (k + 1))), (4, .int y), (3, .int x), (0, mx_rf E 0), (1, .int (nI h)), (2, .int what)] _ _ _) (f_bkG_F (by rw [f_bkV_n c84]; exact Int32.not_lt.mpr c100)) (ih42 (k + 1) (by omega) (by omega) _ hO8)
              · refine x_iload 0 dX3_bestKind_103 rfl ?_
                refine x_istore (lv' := [(4, .int (f_when n (upd r (6 + 6 * h) (nI k)) h)), (7, .int (f_when n (upd r (6 + 6 * h) (nI k)) h)), (6, .int (f_when n (upd r (6 + 6 * h) (nI k)) h)), (5, .int (nI k)), (3, .int (f_bkG n r h k)), (0, mx_rf E 0), (1, .int (nI h)), (2, .int what)]) dX3_bestKind_105 rfl (by decide) rfl ?_
                refine x_iload 3 dX3_bestKind_107 rfl ?_
                refine x_istore_n (lv' := [(3, .int (nI k)), (4, .int (f_when n (upd r (6 + 6 * h) (nI k)) h)), (7, .int (f_when n (upd r (6 + 6 * h) (nI k)) h)), (6, .int (f_when n (upd r (6 + 6 * h) (nI k)) h)), (5, .int (nI k)), (0, mx_rf E 0), (1, .int (nI h)), (2, .int what)]) dX3_bestKind_109 rfl (by decide) rfl ?_
                refine x_iinc (v := nI (k + 1)) (lv' := [(5, .int (nI (k + 1))), (3, .int (nI k)), (4, .int (f_when n (upd r (6 + 6 * h) (nI k)) h)), (7, .int (f_when n (upd r (6 + 6 * h) (nI k)) h)), (6, .int (f_when n (upd r (6 + 6 * h) (nI k)) h)), (0, mx_rf E 0), (1, .int (nI h)), (2, .int what)]) 4 dX3_bestKind_110 rfl (nI_1 _) (by decide) rfl ?_
                refine x_goto dX3_bestKind_113 ?_
                refine x_lvs [0, 2, 1, 5, 6, 7] rfl ?_
                exact flM_eq (P := fun x y => MX E _ _ _ _ _ _ [(5, .int (nI (k + 1))), (4, .int y), (3, .int x), (0, mx_rf E 0), (1, .int (nI h)), (2, .int what)] _ _ _) (by rw [← f_bkV_n c84]; exact f_bkG_T (by rw [f_bkV_n c84]; exact Int32.not_le.mp c100)) (ih42 (k + 1) (by omega) (by omega) _ hO8)
            · refine x_bipush (v := 61) dX3_bestKind_87 (by decide) ?_
              refine x_goto dX3_bestKind_89 ?_
              refine x_istore (lv' := [(7, .int 61), (6, .int (f_when n (upd r (6 + 6 * h) (nI k)) h)), (5, .int (nI k)), (4, .int ((f_bkU n r h k).2)), (3, .int (f_bkG n r h k)), (0, mx_rf E 0), (1, .int (nI h)), (2, .int what)]) dX3_bestKind_94 rfl (by decide) rfl ?_
              refine x_iload 0 dX3_bestKind_96 rfl ?_
              refine x_iload 3 dX3_bestKind_98 rfl ?_
              refine x_icmp_le dX3_bestKind_100 (fun c100 => ?_) (fun c100 => ?_)
              · refine x_iinc (v := nI (k + 1)) (lv' := [(5, .int (nI (k + 1))), (7, .int 61), (6, .int (f_when n (upd r (6 + 6 * h) (nI k)) h)), (4, .int ((f_bkU n r h k).2)), (3, .int (f_bkG n r h k)), (0, mx_rf E 0), (1, .int (nI h)), (2, .int what)]) 2 dX3_bestKind_110 rfl (nI_1 _) (by decide) rfl ?_
                refine x_goto dX3_bestKind_113 ?_
                refine x_lvs [0, 3, 4, 5, 6, 7] rfl ?_
                exact flM_eq (P := fun x y => MX E _ _ _ _ _ _ [(5, .int (nI (k + 1))), (4, .int y), (3, .int x), (0, mx_rf E 0), (1, .int (nI h)), (2, .int what)] _ _ _) (f_bkG_F (by rw [f_bkV_9 c84]; exact Int32.not_lt.mpr c100)) (ih42 (k + 1) (by omega) (by omega) _ hO8)
              · refine x_iload 0 dX3_bestKind_103 rfl ?_
                refine x_istore (lv' := [(4, .int 61), (7, .int 61), (6, .int (f_when n (upd r (6 + 6 * h) (nI k)) h)), (5, .int (nI k)), (3, .int (f_bkG n r h k)), (0, mx_rf E 0), (1, .int (nI h)), (2, .int what)]) dX3_bestKind_105 rfl (by decide) rfl ?_
                refine x_iload 3 dX3_bestKind_107 rfl ?_
                refine x_istore_n (lv' := [(3, .int (nI k)), (4, .int 61), (7, .int 61), (6, .int (f_when n (upd r (6 + 6 * h) (nI k)) h)), (5, .int (nI k)), (0, mx_rf E 0), (1, .int (nI h)), (2, .int what)]) dX3_bestKind_109 rfl (by decide) rfl ?_
                refine x_iinc (v := nI (k + 1)) (lv' := [(5, .int (nI (k + 1))), (3, .int (nI k)), (4, .int 61), (7, .int 61), (6, .int (f_when n (upd r (6 + 6 * h) (nI k)) h)), (0, mx_rf E 0), (1, .int (nI h)), (2, .int what)]) 4 dX3_bestKind_110 rfl (nI_1 _) (by decide) rfl ?_
                refine x_goto dX3_bestKind_113 ?_
                refine x_lvs [0, 2, 1, 5, 6, 7] rfl ?_
                exact flM_eq (P := fun x y => MX E _ _ _ _ _ _ [(5, .int (nI (k + 1))), (4, .int y), (3, .int x), (0, mx_rf E 0), (1, .int (nI h)), (2, .int what)] _ _ _) (by rw [← f_bkV_9 c84]; exact f_bkG_T (by rw [f_bkV_9 c84]; exact Int32.not_le.mp c100)) (ih42 (k + 1) (by omega) (by omega) _ hO8)
        exact key42 0 (Nat.zero_le _) _ Off.rf
      · have hwt : f_in what 0 1 = false := by unfold f_in; rw [decide_eq_false c23, Bool.and_false]
        refine x_aload_n 0 dX3_bestKind_26 rfl ?_
        refine x_bipush (v := -2) dX3_bestKind_27 (by decide) ?_
        refine clX3_49 (qX3_refuse 2 (by decide) (by decide)) (by decide) rfl dX3_bestKind_29 (fun r29 τ29 h29 => ?_)
        obtain ⟨rfl, rfl⟩ := h29
        exact x_iret dX3_bestKind_32 (by rw [show p_bestKind n r (nI h) what = ((-2 : Int32), 2) from by simp only [p_bestKind, c8, c18, (Int32.not_lt.mp c18), c23, (Int32.not_le.mp c23), nI_clamp (show h < 2 ^ 31 by omega), hwt, reduceIte, Bool.false_eq_true, Bool.true_eq_false, Bool.true_and, Bool.false_and, Bool.and_true, Bool.and_false, decide_eq_true_eq, decide_true, decide_false, not_true_eq_false, not_false_eq_true, zbT, zbF]]; exact ⟨rfl, Qz.no⟩)
  · replace c8 := zb_0 c8
    refine x_aload_n 0 dX3_bestKind_11 rfl ?_
    refine x_iconst (v := -1) dX3_bestKind_12 (by decide) ?_
    refine clX3_49 (qX3_refuse 1 (by decide) (by decide)) (by decide) rfl dX3_bestKind_13 (fun r13 τ13 h13 => ?_)
    obtain ⟨rfl, rfl⟩ := h13
    exact x_iret dX3_bestKind_16 (by rw [show p_bestKind n r house what = ((-1 : Int32), 1) from by simp only [p_bestKind, c8, reduceIte, Bool.false_eq_true, Bool.true_eq_false, Bool.true_and, Bool.false_and, Bool.and_true, Bool.and_false, decide_eq_true_eq, decide_true, decide_false, not_true_eq_false, not_false_eq_true, zbT, zbF]]; exact ⟨rfl, Qz.no⟩)

set_option maxHeartbeats 4000000 in
theorem qX3_worth {E : mx_E} {σ : Mem} {n : Nat} {r : Row} (hN : NW σ) (hT : TI σ 1 n r) (hw : wf n r) (a b k : Nat) (x y : Bool) (ha : a < n) (hb : b < n) (hk : k < 1000)  : MX3_worth E 5 [mx_rf E 0, .int (nI a), .int (zb x), .int (nI b), .int (zb y), .int (nI k)] σ (mx_i (fun v τ => f_worth n r k a a b x y x = v ∧ Off 2 σ τ)) := by
  refine MM.of (lv := [(0, mx_rf E 0), (1, .int (nI a)), (2, .int (zb x)), (3, .int (nI b)), (4, .int (zb y)), (5, .int (nI k))]) kpX3 rfl (Nat.le_of_ble_eq_true rfl) rfl ?_
  have hn6 := hw.1
  refine x_aload_n 0 dX3_worth_0 rfl ?_
  refine gfX3_16 dX3_worth_1 ?_
  refine x_aload_n 0 dX3_worth_4 rfl ?_
  refine gfX3_10 dX3_worth_5 ?_
  refine clX3_73 (qX2_become (t := 2) (u := 1) (by decide) (by decide) (by decide) (by decide) (by decide) hT hw) (by decide) (by decide) (by decide) rfl dX3_worth_8 (fun τ8 h8 => ?_)
  refine x_iload_n 2 dX3_worth_11 rfl ?_
  refine x_if_eq dX3_worth_12 (fun c12 => ?_) (fun c12 => ?_)
  · replace c12 := zb_0 c12
    refine x_iload 4 dX3_worth_26 rfl ?_
    refine x_if_eq dX3_worth_28 (fun c28 => ?_) (fun c28 => ?_)
    · replace c28 := zb_0 c28
      have hTl : TI (τ8) 2 n (f_lt2 r a b x y) := by rw [show f_lt2 r a b x y = r from by simp only [f_lt2, c12, c28, reduceIte, Bool.false_eq_true]]; exact h8.1
      refine x_aload_n 0 dX3_worth_42 rfl ?_
      refine gfX3_16 dX3_worth_43 ?_
      refine x_iload 5 dX3_worth_46 rfl ?_
      refine clX3_145 (qX2_pass (t := 2) (by decide) (by decide) hTl (wf_lt2 hw ha hb x y) (hN.off (by decide) (by decide) h8.2) k (by omega)) (by decide) (by decide) (by decide) rfl dX3_worth_48 (fun τ48 h48 => ?_)
      have hO48 : Off 2 σ τ48 := h8.2.tr h48.2
      refine x_aload_n 0 dX3_worth_51 rfl ?_
      refine gfX3_16 dX3_worth_52 ?_
      refine x_iload_n 1 dX3_worth_55 rfl ?_
      refine clX3_125 (qX2_at (by decide) (by decide) h48.1.1 hn6 ha) (by decide) (by decide) (by decide) rfl dX3_worth_56 (fun r56 τ56 h56 => ?_)
      obtain ⟨rfl, rfl⟩ := h56
      refine x_astore (lv' := [(6, mx_rf E (4 + 6 * 2 + a)), (0, mx_rf E 0), (1, .int (nI a)), (2, .int (zb x)), (3, .int (nI b)), (4, .int (zb y)), (5, .int (nI k))]) dX3_worth_59 rfl (by decide) rfl ?_
      refine x_aload 0 dX3_worth_61 rfl ?_
      refine gfX3_136 (by omega) (by omega) dX3_worth_63 ?_
      refine x_top (show τ48 (4 + 6 * 2 + a) 6 = zb (f_kept (f_weeks n (f_lt2 r a b x y) k) a) from (h48.1.2.2.2.2 _ ha).2.1) ?_
      refine x_if_eq dX3_worth_66 (fun c66 => ?_) (fun c66 => ?_)
      · replace c66 := zb_0 c66
        refine x_iconst (v := 0) dX3_worth_73 (by decide) ?_
        refine x_aload 0 dX3_worth_74 rfl ?_
        refine gfX3_157 (by omega) (by omega) dX3_worth_76 ?_
        refine x_top (show τ48 (4 + 6 * 2 + a) 5 = (f_weeks n (f_lt2 r a b x y) k) (6 + 6 * a + 5) from (h48.1.2.2.2.2 _ ha).1 5 (by decide)) ?_
        refine x_isub dX3_worth_79 ?_
        refine x_iload_n 3 dX3_worth_80 rfl ?_
        refine x_top (show zb x = 0 from (by rw [c12]; rfl)) ?_
        refine x_if_eq dX3_worth_81 (fun _ => ?_) (fun c => absurd c (by decide))
        refine x_iconst (v := 0) dX3_worth_88 (by decide) ?_
        refine x_iadd dX3_worth_89 ?_
        exact x_iret dX3_worth_90 ⟨by unfold f_worth; rw [c66, show (if x = true then (2 : Int32) else 0) = 0 from by rw [c12]; rfl]; rfl, hO48⟩
      · replace c66 := zb_1 c66
        refine x_iconst (v := 5) dX3_worth_69 (by decide) ?_
        refine x_goto dX3_worth_70 ?_
        refine x_aload 0 dX3_worth_74 rfl ?_
        refine gfX3_157 (by omega) (by omega) dX3_worth_76 ?_
        refine x_top (show τ48 (4 + 6 * 2 + a) 5 = (f_weeks n (f_lt2 r a b x y) k) (6 + 6 * a + 5) from (h48.1.2.2.2.2 _ ha).1 5 (by decide)) ?_
        refine x_isub dX3_worth_79 ?_
        refine x_iload_n 3 dX3_worth_80 rfl ?_
        refine x_top (show zb x = 0 from (by rw [c12]; rfl)) ?_
        refine x_if_eq dX3_worth_81 (fun _ => ?_) (fun c => absurd c (by decide))
        refine x_iconst (v := 0) dX3_worth_88 (by decide) ?_
        refine x_iadd dX3_worth_89 ?_
        exact x_iret dX3_worth_90 ⟨by unfold f_worth; rw [c66, show (if x = true then (2 : Int32) else 0) = 0 from by rw [c12]; rfl]; rfl, hO48⟩
    · replace c28 := zb_1 c28
      refine x_aload_n 0 dX3_worth_31 rfl ?_
      refine gfX3_16 dX3_worth_32 ?_
      refine x_iload_n 3 dX3_worth_35 rfl ?_
      refine clX3_125 (qX2_at (by decide) (by decide) h8.1.1 hn6 hb) (by decide) (by decide) (by decide) rfl dX3_worth_36 (fun r36 τ36 h36 => ?_)
      obtain ⟨rfl, rfl⟩ := h36
      refine clX3_233 (pX0_letTheRoom (by omega) (by omega)) (by decide) (by omega) (by omega) rfl dX3_worth_39 (fun τ39 h39 => ?_)
      obtain rfl := h39
      have hT39 := h8.1.let hw (by decide) hb
      have hO39 : Off 2 σ (mx_row τ8 (4 + 6 * 2 + b) (upd (upd (τ8 (4 + 6 * 2 + b)) 7 1) 4 (f_least 20 (τ8 (4 + 6 * 2 + b) 4 + 3)))) := h8.2.row (inT_h (by omega))
      have hTl : TI (mx_row τ8 (4 + 6 * 2 + b) (upd (upd (τ8 (4 + 6 * 2 + b)) 7 1) 4 (f_least 20 (τ8 (4 + 6 * 2 + b) 4 + 3)))) 2 n (f_lt2 r a b x y) := by rw [show f_lt2 r a b x y = (f_letR r b) from by simp only [f_lt2, c12, c28, reduceIte, Bool.false_eq_true]]; exact hT39
      refine x_aload_n 0 dX3_worth_42 rfl ?_
      refine gfX3_16 dX3_worth_43 ?_
      refine x_iload 5 dX3_worth_46 rfl ?_
      refine clX3_145 (qX2_pass (t := 2) (by decide) (by decide) hTl (wf_lt2 hw ha hb x y) (hN.off (by decide) (by decide) hO39) k (by omega)) (by decide) (by decide) (by decide) rfl dX3_worth_48 (fun τ48 h48 => ?_)
      have hO48 : Off 2 σ τ48 := hO39.tr h48.2
      refine x_aload_n 0 dX3_worth_51 rfl ?_
      refine gfX3_16 dX3_worth_52 ?_
      refine x_iload_n 1 dX3_worth_55 rfl ?_
      refine clX3_125 (qX2_at (by decide) (by decide) h48.1.1 hn6 ha) (by decide) (by decide) (by decide) rfl dX3_worth_56 (fun r56 τ56 h56 => ?_)
      obtain ⟨rfl, rfl⟩ := h56
      refine x_astore (lv' := [(6, mx_rf E (4 + 6 * 2 + a)), (0, mx_rf E 0), (1, .int (nI a)), (2, .int (zb x)), (3, .int (nI b)), (4, .int (zb y)), (5, .int (nI k))]) dX3_worth_59 rfl (by decide) rfl ?_
      refine x_aload 0 dX3_worth_61 rfl ?_
      refine gfX3_136 (by omega) (by omega) dX3_worth_63 ?_
      refine x_top (show τ48 (4 + 6 * 2 + a) 6 = zb (f_kept (f_weeks n (f_lt2 r a b x y) k) a) from (h48.1.2.2.2.2 _ ha).2.1) ?_
      refine x_if_eq dX3_worth_66 (fun c66 => ?_) (fun c66 => ?_)
      · replace c66 := zb_0 c66
        refine x_iconst (v := 0) dX3_worth_73 (by decide) ?_
        refine x_aload 0 dX3_worth_74 rfl ?_
        refine gfX3_157 (by omega) (by omega) dX3_worth_76 ?_
        refine x_top (show τ48 (4 + 6 * 2 + a) 5 = (f_weeks n (f_lt2 r a b x y) k) (6 + 6 * a + 5) from (h48.1.2.2.2.2 _ ha).1 5 (by decide)) ?_
        refine x_isub dX3_worth_79 ?_
        refine x_iload_n 3 dX3_worth_80 rfl ?_
        refine x_top (show zb x = 0 from (by rw [c12]; rfl)) ?_
        refine x_if_eq dX3_worth_81 (fun _ => ?_) (fun c => absurd c (by decide))
        refine x_iconst (v := 0) dX3_worth_88 (by decide) ?_
        refine x_iadd dX3_worth_89 ?_
        exact x_iret dX3_worth_90 ⟨by unfold f_worth; rw [c66, show (if x = true then (2 : Int32) else 0) = 0 from by rw [c12]; rfl]; rfl, hO48⟩
      · replace c66 := zb_1 c66
        refine x_iconst (v := 5) dX3_worth_69 (by decide) ?_
        refine x_goto dX3_worth_70 ?_
        refine x_aload 0 dX3_worth_74 rfl ?_
        refine gfX3_157 (by omega) (by omega) dX3_worth_76 ?_
        refine x_top (show τ48 (4 + 6 * 2 + a) 5 = (f_weeks n (f_lt2 r a b x y) k) (6 + 6 * a + 5) from (h48.1.2.2.2.2 _ ha).1 5 (by decide)) ?_
        refine x_isub dX3_worth_79 ?_
        refine x_iload_n 3 dX3_worth_80 rfl ?_
        refine x_top (show zb x = 0 from (by rw [c12]; rfl)) ?_
        refine x_if_eq dX3_worth_81 (fun _ => ?_) (fun c => absurd c (by decide))
        refine x_iconst (v := 0) dX3_worth_88 (by decide) ?_
        refine x_iadd dX3_worth_89 ?_
        exact x_iret dX3_worth_90 ⟨by unfold f_worth; rw [c66, show (if x = true then (2 : Int32) else 0) = 0 from by rw [c12]; rfl]; rfl, hO48⟩
  · replace c12 := zb_1 c12
    refine x_aload_n 0 dX3_worth_15 rfl ?_
    refine gfX3_16 dX3_worth_16 ?_
    refine x_iload_n 1 dX3_worth_19 rfl ?_
    refine clX3_125 (qX2_at (by decide) (by decide) h8.1.1 hn6 ha) (by decide) (by decide) (by decide) rfl dX3_worth_20 (fun r20 τ20 h20 => ?_)
    obtain ⟨rfl, rfl⟩ := h20
    refine clX3_233 (pX0_letTheRoom (by omega) (by omega)) (by decide) (by omega) (by omega) rfl dX3_worth_23 (fun τ23 h23 => ?_)
    obtain rfl := h23
    have hT23 := h8.1.let hw (by decide) ha
    have hO23 : Off 2 σ (mx_row τ8 (4 + 6 * 2 + a) (upd (upd (τ8 (4 + 6 * 2 + a)) 7 1) 4 (f_least 20 (τ8 (4 + 6 * 2 + a) 4 + 3)))) := h8.2.row (inT_h (by omega))
    refine x_iload 4 dX3_worth_26 rfl ?_
    refine x_if_eq dX3_worth_28 (fun c28 => ?_) (fun c28 => ?_)
    · replace c28 := zb_0 c28
      have hTl : TI (mx_row τ8 (4 + 6 * 2 + a) (upd (upd (τ8 (4 + 6 * 2 + a)) 7 1) 4 (f_least 20 (τ8 (4 + 6 * 2 + a) 4 + 3)))) 2 n (f_lt2 r a b x y) := by rw [show f_lt2 r a b x y = (f_letR r a) from by simp only [f_lt2, c12, c28, reduceIte, Bool.false_eq_true]]; exact hT23
      refine x_aload_n 0 dX3_worth_42 rfl ?_
      refine gfX3_16 dX3_worth_43 ?_
      refine x_iload 5 dX3_worth_46 rfl ?_
      refine clX3_145 (qX2_pass (t := 2) (by decide) (by decide) hTl (wf_lt2 hw ha hb x y) (hN.off (by decide) (by decide) hO23) k (by omega)) (by decide) (by decide) (by decide) rfl dX3_worth_48 (fun τ48 h48 => ?_)
      have hO48 : Off 2 σ τ48 := hO23.tr h48.2
      refine x_aload_n 0 dX3_worth_51 rfl ?_
      refine gfX3_16 dX3_worth_52 ?_
      refine x_iload_n 1 dX3_worth_55 rfl ?_
      refine clX3_125 (qX2_at (by decide) (by decide) h48.1.1 hn6 ha) (by decide) (by decide) (by decide) rfl dX3_worth_56 (fun r56 τ56 h56 => ?_)
      obtain ⟨rfl, rfl⟩ := h56
      refine x_astore (lv' := [(6, mx_rf E (4 + 6 * 2 + a)), (0, mx_rf E 0), (1, .int (nI a)), (2, .int (zb x)), (3, .int (nI b)), (4, .int (zb y)), (5, .int (nI k))]) dX3_worth_59 rfl (by decide) rfl ?_
      refine x_aload 0 dX3_worth_61 rfl ?_
      refine gfX3_136 (by omega) (by omega) dX3_worth_63 ?_
      refine x_top (show τ48 (4 + 6 * 2 + a) 6 = zb (f_kept (f_weeks n (f_lt2 r a b x y) k) a) from (h48.1.2.2.2.2 _ ha).2.1) ?_
      refine x_if_eq dX3_worth_66 (fun c66 => ?_) (fun c66 => ?_)
      · replace c66 := zb_0 c66
        refine x_iconst (v := 0) dX3_worth_73 (by decide) ?_
        refine x_aload 0 dX3_worth_74 rfl ?_
        refine gfX3_157 (by omega) (by omega) dX3_worth_76 ?_
        refine x_top (show τ48 (4 + 6 * 2 + a) 5 = (f_weeks n (f_lt2 r a b x y) k) (6 + 6 * a + 5) from (h48.1.2.2.2.2 _ ha).1 5 (by decide)) ?_
        refine x_isub dX3_worth_79 ?_
        refine x_iload_n 3 dX3_worth_80 rfl ?_
        refine x_top (show zb x = 1 from (by rw [c12]; rfl)) ?_
        refine x_if_eq dX3_worth_81 (fun c => absurd c (by decide)) (fun _ => ?_)
        refine x_iconst (v := 2) dX3_worth_84 (by decide) ?_
        refine x_goto dX3_worth_85 ?_
        refine x_iadd dX3_worth_89 ?_
        exact x_iret dX3_worth_90 ⟨by unfold f_worth; rw [c66, show (if x = true then (2 : Int32) else 0) = 2 from by rw [c12]; rfl]; rfl, hO48⟩
      · replace c66 := zb_1 c66
        refine x_iconst (v := 5) dX3_worth_69 (by decide) ?_
        refine x_goto dX3_worth_70 ?_
        refine x_aload 0 dX3_worth_74 rfl ?_
        refine gfX3_157 (by omega) (by omega) dX3_worth_76 ?_
        refine x_top (show τ48 (4 + 6 * 2 + a) 5 = (f_weeks n (f_lt2 r a b x y) k) (6 + 6 * a + 5) from (h48.1.2.2.2.2 _ ha).1 5 (by decide)) ?_
        refine x_isub dX3_worth_79 ?_
        refine x_iload_n 3 dX3_worth_80 rfl ?_
        refine x_top (show zb x = 1 from (by rw [c12]; rfl)) ?_
        refine x_if_eq dX3_worth_81 (fun c => absurd c (by decide)) (fun _ => ?_)
        refine x_iconst (v := 2) dX3_worth_84 (by decide) ?_
        refine x_goto dX3_worth_85 ?_
        refine x_iadd dX3_worth_89 ?_
        exact x_iret dX3_worth_90 ⟨by unfold f_worth; rw [c66, show (if x = true then (2 : Int32) else 0) = 2 from by rw [c12]; rfl]; rfl, hO48⟩
    · replace c28 := zb_1 c28
      refine x_aload_n 0 dX3_worth_31 rfl ?_
      refine gfX3_16 dX3_worth_32 ?_
      refine x_iload_n 3 dX3_worth_35 rfl ?_
      refine clX3_125 (qX2_at (by decide) (by decide) hT23.1 hn6 hb) (by decide) (by decide) (by decide) rfl dX3_worth_36 (fun r36 τ36 h36 => ?_)
      obtain ⟨rfl, rfl⟩ := h36
      refine clX3_233 (pX0_letTheRoom (by omega) (by omega)) (by decide) (by omega) (by omega) rfl dX3_worth_39 (fun τ39 h39 => ?_)
      obtain rfl := h39
      have hT39 := hT23.let (wf_let hw ha) (by decide) hb
      have hO39 : Off 2 σ (mx_row (mx_row τ8 (4 + 6 * 2 + a) (upd (upd (τ8 (4 + 6 * 2 + a)) 7 1) 4 (f_least 20 (τ8 (4 + 6 * 2 + a) 4 + 3)))) (4 + 6 * 2 + b) (upd (upd ((mx_row τ8 (4 + 6 * 2 + a) (upd (upd (τ8 (4 + 6 * 2 + a)) 7 1) 4 (f_least 20 (τ8 (4 + 6 * 2 + a) 4 + 3)))) (4 + 6 * 2 + b)) 7 1) 4 (f_least 20 ((mx_row τ8 (4 + 6 * 2 + a) (upd (upd (τ8 (4 + 6 * 2 + a)) 7 1) 4 (f_least 20 (τ8 (4 + 6 * 2 + a) 4 + 3)))) (4 + 6 * 2 + b) 4 + 3)))) := hO23.row (inT_h (by omega))
      have hTl : TI (mx_row (mx_row τ8 (4 + 6 * 2 + a) (upd (upd (τ8 (4 + 6 * 2 + a)) 7 1) 4 (f_least 20 (τ8 (4 + 6 * 2 + a) 4 + 3)))) (4 + 6 * 2 + b) (upd (upd ((mx_row τ8 (4 + 6 * 2 + a) (upd (upd (τ8 (4 + 6 * 2 + a)) 7 1) 4 (f_least 20 (τ8 (4 + 6 * 2 + a) 4 + 3)))) (4 + 6 * 2 + b)) 7 1) 4 (f_least 20 ((mx_row τ8 (4 + 6 * 2 + a) (upd (upd (τ8 (4 + 6 * 2 + a)) 7 1) 4 (f_least 20 (τ8 (4 + 6 * 2 + a) 4 + 3)))) (4 + 6 * 2 + b) 4 + 3)))) 2 n (f_lt2 r a b x y) := by rw [show f_lt2 r a b x y = (f_letR (f_letR r a) b) from by simp only [f_lt2, c12, c28, reduceIte, Bool.false_eq_true]]; exact hT39
      refine x_aload_n 0 dX3_worth_42 rfl ?_
      refine gfX3_16 dX3_worth_43 ?_
      refine x_iload 5 dX3_worth_46 rfl ?_
      refine clX3_145 (qX2_pass (t := 2) (by decide) (by decide) hTl (wf_lt2 hw ha hb x y) (hN.off (by decide) (by decide) hO39) k (by omega)) (by decide) (by decide) (by decide) rfl dX3_worth_48 (fun τ48 h48 => ?_)
      have hO48 : Off 2 σ τ48 := hO39.tr h48.2
      refine x_aload_n 0 dX3_worth_51 rfl ?_
      refine gfX3_16 dX3_worth_52 ?_
      refine x_iload_n 1 dX3_worth_55 rfl ?_
      refine clX3_125 (qX2_at (by decide) (by decide) h48.1.1 hn6 ha) (by decide) (by decide) (by decide) rfl dX3_worth_56 (fun r56 τ56 h56 => ?_)
      obtain ⟨rfl, rfl⟩ := h56
      refine x_astore (lv' := [(6, mx_rf E (4 + 6 * 2 + a)), (0, mx_rf E 0), (1, .int (nI a)), (2, .int (zb x)), (3, .int (nI b)), (4, .int (zb y)), (5, .int (nI k))]) dX3_worth_59 rfl (by decide) rfl ?_
      refine x_aload 0 dX3_worth_61 rfl ?_
      refine gfX3_136 (by omega) (by omega) dX3_worth_63 ?_
      refine x_top (show τ48 (4 + 6 * 2 + a) 6 = zb (f_kept (f_weeks n (f_lt2 r a b x y) k) a) from (h48.1.2.2.2.2 _ ha).2.1) ?_
      refine x_if_eq dX3_worth_66 (fun c66 => ?_) (fun c66 => ?_)
      · replace c66 := zb_0 c66
        refine x_iconst (v := 0) dX3_worth_73 (by decide) ?_
        refine x_aload 0 dX3_worth_74 rfl ?_
        refine gfX3_157 (by omega) (by omega) dX3_worth_76 ?_
        refine x_top (show τ48 (4 + 6 * 2 + a) 5 = (f_weeks n (f_lt2 r a b x y) k) (6 + 6 * a + 5) from (h48.1.2.2.2.2 _ ha).1 5 (by decide)) ?_
        refine x_isub dX3_worth_79 ?_
        refine x_iload_n 3 dX3_worth_80 rfl ?_
        refine x_top (show zb x = 1 from (by rw [c12]; rfl)) ?_
        refine x_if_eq dX3_worth_81 (fun c => absurd c (by decide)) (fun _ => ?_)
        refine x_iconst (v := 2) dX3_worth_84 (by decide) ?_
        refine x_goto dX3_worth_85 ?_
        refine x_iadd dX3_worth_89 ?_
        exact x_iret dX3_worth_90 ⟨by unfold f_worth; rw [c66, show (if x = true then (2 : Int32) else 0) = 2 from by rw [c12]; rfl]; rfl, hO48⟩
      · replace c66 := zb_1 c66
        refine x_iconst (v := 5) dX3_worth_69 (by decide) ?_
        refine x_goto dX3_worth_70 ?_
        refine x_aload 0 dX3_worth_74 rfl ?_
        refine gfX3_157 (by omega) (by omega) dX3_worth_76 ?_
        refine x_top (show τ48 (4 + 6 * 2 + a) 5 = (f_weeks n (f_lt2 r a b x y) k) (6 + 6 * a + 5) from (h48.1.2.2.2.2 _ ha).1 5 (by decide)) ?_
        refine x_isub dX3_worth_79 ?_
        refine x_iload_n 3 dX3_worth_80 rfl ?_
        refine x_top (show zb x = 1 from (by rw [c12]; rfl)) ?_
        refine x_if_eq dX3_worth_81 (fun c => absurd c (by decide)) (fun _ => ?_)
        refine x_iconst (v := 2) dX3_worth_84 (by decide) ?_
        refine x_goto dX3_worth_85 ?_
        refine x_iadd dX3_worth_89 ?_
        exact x_iret dX3_worth_90 ⟨by unfold f_worth; rw [c66, show (if x = true then (2 : Int32) else 0) = 2 from by rw [c12]; rfl]; rfl, hO48⟩

set_option maxHeartbeats 4000000 in
theorem qX3_two4 {E : mx_E} {σ τ : Mem} {n : Nat} {r : Row} (hN : NW σ) (hT : TI σ 1 n r) (hw : wf n r) (a b k : Nat) (ha : a < n) (hb : b < n) (hab : a ≠ b) (hk : k < 1000) (hO : Off 2 σ τ) (hn0 : f_nash n r k a b false false = false) (hn1 : f_nash n r k a b false true = false) (hn2 : f_nash n r k a b true false = false) (hn3 : f_nash n r k a b true true = false) : MX E 7 RX3 cX3_two 9 (some .int) 57 [(5, .int 4), (0, mx_rf E 0), (1, .int (nI a)), (2, .int (nI b)), (3, .int (nI k))] [] τ (mx_i (fun v υ => f_two n r k a b = v ∧ Qz 0 σ υ)) := by
  have hn6 := hw.1
  refine x_iload 0 dX3_two_57 rfl ?_
  refine x_iconst (v := 4) dX3_two_59 (by decide) ?_
  refine x_icmp_ge dX3_two_60 (fun _ => ?_) (fun c => absurd c (by decide))
  refine x_bipush (v := -9) dX3_two_198 (by decide) ?_
  exact x_iret dX3_two_200 ⟨by simp only [f_two, hn0, hn1, hn2, hn3, reduceIte, Bool.false_eq_true], Qz.off hO⟩

set_option maxHeartbeats 4000000 in
theorem qX3_two3 {E : mx_E} {σ τ : Mem} {n : Nat} {r : Row} (hN : NW σ) (hT : TI σ 1 n r) (hw : wf n r) (a b k : Nat) (ha : a < n) (hb : b < n) (hab : a ≠ b) (hk : k < 1000) (hO : Off 2 σ τ) (hn0 : f_nash n r k a b false false = false) (hn1 : f_nash n r k a b false true = false) (hn2 : f_nash n r k a b true false = false) : MX E 7 RX3 cX3_two 9 (some .int) 57 [(5, .int 3), (0, mx_rf E 0), (1, .int (nI a)), (2, .int (nI b)), (3, .int (nI k))] [] τ (mx_i (fun v υ => f_two n r k a b = v ∧ Qz 0 σ υ)) := by
  have hn6 := hw.1
  refine x_iload 0 dX3_two_57 rfl ?_
  refine x_iconst (v := 4) dX3_two_59 (by decide) ?_
  refine x_icmp_ge dX3_two_60 (fun c => absurd c (by decide)) (fun _ => ?_)
  refine x_iload 0 dX3_two_63 rfl ?_
  refine x_iconst (v := 2) dX3_two_65 (by decide) ?_
  refine x_icmp_lt dX3_two_66 (fun c => absurd c (by decide)) (fun _ => ?_)
  refine x_iconst (v := 1) dX3_two_69 (by decide) ?_
  refine x_goto dX3_two_70 ?_
  refine x_istore (lv' := [(6, .int 1), (5, .int 3), (0, mx_rf E 0), (1, .int (nI a)), (2, .int (nI b)), (3, .int (nI k))]) dX3_two_74 rfl (by decide) rfl ?_
  refine x_iload 1 dX3_two_76 rfl ?_
  refine x_iconst (v := 2) dX3_two_78 (by decide) ?_
  refine x_irem dX3_two_79 (by decide) ?_
  refine x_top (show (3 % 2 : Int32) = 1 from by decide) ?_
  refine x_iconst (v := 1) dX3_two_80 (by decide) ?_
  refine x_icmp_ne dX3_two_81 (fun c => absurd c (by decide)) (fun _ => ?_)
  refine x_iconst (v := 1) dX3_two_84 (by decide) ?_
  refine x_goto dX3_two_85 ?_
  refine x_istore (lv' := [(7, .int 1), (6, .int 1), (5, .int 3), (0, mx_rf E 0), (1, .int (nI a)), (2, .int (nI b)), (3, .int (nI k))]) dX3_two_89 rfl (by decide) rfl ?_
  refine x_aload_n 3 dX3_two_91 rfl ?_
  refine x_iload_n 4 dX3_two_92 rfl ?_
  refine x_iload 1 dX3_two_93 rfl ?_
  refine x_iload_n 5 dX3_two_95 rfl ?_
  refine x_iload 0 dX3_two_96 rfl ?_
  refine x_iload_n 6 dX3_two_98 rfl ?_
  refine clX3_229 (qX3_worth (hN.off (by decide) (by decide) hO) (hT.offt hn6 (by decide) (by decide) (by decide) (by decide) (by decide) hO) hw a b k true true ha hb (by omega)) (by decide) rfl dX3_two_99 (fun r99 τ99 h99 => ?_)
  obtain ⟨rfl, hO9⟩ := h99
  have hO99 := hO.tr hO9
  refine x_aload_n 3 dX3_two_102 rfl ?_
  refine x_iload_n 4 dX3_two_103 rfl ?_
  refine x_iload 1 dX3_two_104 rfl ?_
  refine x_if_ne dX3_two_106 (fun _ => ?_) (fun c => absurd c (by decide))
  refine x_iconst (v := 0) dX3_two_113 (by decide) ?_
  refine x_iload_n 5 dX3_two_114 rfl ?_
  refine x_iload 0 dX3_two_115 rfl ?_
  refine x_iload_n 6 dX3_two_117 rfl ?_
  refine clX3_229 (qX3_worth (hN.off (by decide) (by decide) hO99) (hT.offt hn6 (by decide) (by decide) (by decide) (by decide) (by decide) hO99) hw a b k false true ha hb (by omega)) (by decide) rfl dX3_two_118 (fun r118 τ118 h118 => ?_)
  obtain ⟨rfl, hO9⟩ := h118
  have hO118 := hO99.tr hO9
  refine x_icmp_lt dX3_two_121 (fun c121 => ?_) (fun c121 => ?_)
  · have hn3 : f_nash n r k a b true true = false := f_nash_a (Int32.not_le.mpr c121)
    refine x_iconst (v := 0) dX3_two_128 (by decide) ?_
    refine x_istore (lv' := [(8, .int 0), (7, .int 1), (6, .int 1), (5, .int 3), (0, mx_rf E 0), (1, .int (nI a)), (2, .int (nI b)), (3, .int (nI k))]) dX3_two_129 rfl (by decide) rfl ?_
    refine x_iload 0 dX3_two_131 rfl ?_
    refine x_if_eq dX3_two_133 (fun _ => ?_) (fun c => absurd c (by decide))
    refine x_iinc (v := 4) (lv' := [(5, .int 4), (8, .int 0), (7, .int 1), (6, .int 1), (0, mx_rf E 0), (1, .int (nI a)), (2, .int (nI b)), (3, .int (nI k))]) 3 dX3_two_192 rfl (by decide) (by decide) rfl ?_
    refine x_goto dX3_two_195 ?_
    refine x_lvs [0, 4, 5, 6, 7] rfl ?_
    exact qX3_two4 hN hT hw a b k ha hb hab hk hO118 hn0 hn1 hn2 hn3
  · refine x_iconst (v := 1) dX3_two_124 (by decide) ?_
    refine x_goto dX3_two_125 ?_
    refine x_istore (lv' := [(8, .int 1), (7, .int 1), (6, .int 1), (5, .int 3), (0, mx_rf E 0), (1, .int (nI a)), (2, .int (nI b)), (3, .int (nI k))]) dX3_two_129 rfl (by decide) rfl ?_
    refine x_iload 0 dX3_two_131 rfl ?_
    refine x_if_eq dX3_two_133 (fun c => absurd c (by decide)) (fun _ => ?_)
    refine x_aload_n 4 dX3_two_136 rfl ?_
    refine x_iload_n 6 dX3_two_137 rfl ?_
    refine x_iload 1 dX3_two_138 rfl ?_
    refine x_iload_n 5 dX3_two_140 rfl ?_
    refine x_iload 2 dX3_two_141 rfl ?_
    refine x_iload_n 7 dX3_two_143 rfl ?_
    refine clX3_229 (qX3_worth (hN.off (by decide) (by decide) hO118) (hT.offt hn6 (by decide) (by decide) (by decide) (by decide) (by decide) hO118) hw b a k true true hb ha (by omega)) (by decide) rfl dX3_two_144 (fun r144 τ144 h144 => ?_)
    obtain ⟨rfl, hO9⟩ := h144
    have hO144 := hO118.tr hO9
    refine x_top (show f_worth n r k b b a true true true = f_worth n r k b a b true true true from by unfold f_worth; rw [f_lt2_c (fun q => hab q.symm)]) ?_
    refine x_aload_n 4 dX3_two_147 rfl ?_
    refine x_iload_n 6 dX3_two_148 rfl ?_
    refine x_iload 1 dX3_two_149 rfl ?_
    refine x_if_ne dX3_two_151 (fun _ => ?_) (fun c => absurd c (by decide))
    refine x_iconst (v := 0) dX3_two_158 (by decide) ?_
    refine x_iload_n 5 dX3_two_159 rfl ?_
    refine x_iload 2 dX3_two_160 rfl ?_
    refine x_iload_n 7 dX3_two_162 rfl ?_
    refine clX3_229 (qX3_worth (hN.off (by decide) (by decide) hO144) (hT.offt hn6 (by decide) (by decide) (by decide) (by decide) (by decide) hO144) hw b a k false true hb ha (by omega)) (by decide) rfl dX3_two_163 (fun r163 τ163 h163 => ?_)
    obtain ⟨rfl, hO9⟩ := h163
    have hO163 := hO144.tr hO9
    refine x_top (show f_worth n r k b b a false true false = f_worth n r k b a b true false false from by unfold f_worth; rw [f_lt2_c (fun q => hab q.symm)]) ?_
    refine x_icmp_lt dX3_two_166 (fun c166 => ?_) (fun c166 => ?_)
    · have hn3 : f_nash n r k a b true true = false := f_nash_b (Int32.not_le.mpr c166)
      refine x_iinc (v := 4) (lv' := [(5, .int 4), (8, .int 1), (7, .int 1), (6, .int 1), (0, mx_rf E 0), (1, .int (nI a)), (2, .int (nI b)), (3, .int (nI k))]) 3 dX3_two_192 rfl (by decide) (by decide) rfl ?_
      refine x_goto dX3_two_195 ?_
      refine x_lvs [0, 4, 5, 6, 7] rfl ?_
      exact qX3_two4 hN hT hw a b k ha hb hab hk hO163 hn0 hn1 hn2 hn3
    · have hn3 : f_nash n r k a b true true = true := f_nash_t (Int32.not_lt.mp c121) (Int32.not_lt.mp c166)
      refine x_iload 2 dX3_two_169 rfl ?_
      refine x_if_eq dX3_two_171 (fun c => absurd c (by decide)) (fun _ => ?_)
      refine x_bipush (v := 10) dX3_two_174 (by decide) ?_
      refine x_goto dX3_two_176 ?_
      refine x_iload 1 dX3_two_180 rfl ?_
      refine x_if_eq dX3_two_182 (fun c => absurd c (by decide)) (fun _ => ?_)
      refine x_iconst (v := 1) dX3_two_185 (by decide) ?_
      refine x_goto dX3_two_186 ?_
      refine x_iadd dX3_two_190 ?_
      refine x_top (show (10 + 1 : Int32) = 11 from by decide) ?_
      exact x_iret dX3_two_191 ⟨by simp only [f_two, hn0, hn1, hn2, hn3, reduceIte, Bool.false_eq_true], Qz.off hO163⟩

set_option maxHeartbeats 4000000 in
theorem qX3_two2 {E : mx_E} {σ τ : Mem} {n : Nat} {r : Row} (hN : NW σ) (hT : TI σ 1 n r) (hw : wf n r) (a b k : Nat) (ha : a < n) (hb : b < n) (hab : a ≠ b) (hk : k < 1000) (hO : Off 2 σ τ) (hn0 : f_nash n r k a b false false = false) (hn1 : f_nash n r k a b false true = false) : MX E 7 RX3 cX3_two 9 (some .int) 57 [(5, .int 2), (0, mx_rf E 0), (1, .int (nI a)), (2, .int (nI b)), (3, .int (nI k))] [] τ (mx_i (fun v υ => f_two n r k a b = v ∧ Qz 0 σ υ)) := by
  have hn6 := hw.1
  refine x_iload 0 dX3_two_57 rfl ?_
  refine x_iconst (v := 4) dX3_two_59 (by decide) ?_
  refine x_icmp_ge dX3_two_60 (fun c => absurd c (by decide)) (fun _ => ?_)
  refine x_iload 0 dX3_two_63 rfl ?_
  refine x_iconst (v := 2) dX3_two_65 (by decide) ?_
  refine x_icmp_lt dX3_two_66 (fun c => absurd c (by decide)) (fun _ => ?_)
  refine x_iconst (v := 1) dX3_two_69 (by decide) ?_
  refine x_goto dX3_two_70 ?_
  refine x_istore (lv' := [(6, .int 1), (5, .int 2), (0, mx_rf E 0), (1, .int (nI a)), (2, .int (nI b)), (3, .int (nI k))]) dX3_two_74 rfl (by decide) rfl ?_
  refine x_iload 1 dX3_two_76 rfl ?_
  refine x_iconst (v := 2) dX3_two_78 (by decide) ?_
  refine x_irem dX3_two_79 (by decide) ?_
  refine x_top (show (2 % 2 : Int32) = 0 from by decide) ?_
  refine x_iconst (v := 1) dX3_two_80 (by decide) ?_
  refine x_icmp_ne dX3_two_81 (fun _ => ?_) (fun c => absurd c (by decide))
  refine x_iconst (v := 0) dX3_two_88 (by decide) ?_
  refine x_istore (lv' := [(7, .int 0), (6, .int 1), (5, .int 2), (0, mx_rf E 0), (1, .int (nI a)), (2, .int (nI b)), (3, .int (nI k))]) dX3_two_89 rfl (by decide) rfl ?_
  refine x_aload_n 3 dX3_two_91 rfl ?_
  refine x_iload_n 4 dX3_two_92 rfl ?_
  refine x_iload 1 dX3_two_93 rfl ?_
  refine x_iload_n 5 dX3_two_95 rfl ?_
  refine x_iload 0 dX3_two_96 rfl ?_
  refine x_iload_n 6 dX3_two_98 rfl ?_
  refine clX3_229 (qX3_worth (hN.off (by decide) (by decide) hO) (hT.offt hn6 (by decide) (by decide) (by decide) (by decide) (by decide) hO) hw a b k true false ha hb (by omega)) (by decide) rfl dX3_two_99 (fun r99 τ99 h99 => ?_)
  obtain ⟨rfl, hO9⟩ := h99
  have hO99 := hO.tr hO9
  refine x_aload_n 3 dX3_two_102 rfl ?_
  refine x_iload_n 4 dX3_two_103 rfl ?_
  refine x_iload 1 dX3_two_104 rfl ?_
  refine x_if_ne dX3_two_106 (fun _ => ?_) (fun c => absurd c (by decide))
  refine x_iconst (v := 0) dX3_two_113 (by decide) ?_
  refine x_iload_n 5 dX3_two_114 rfl ?_
  refine x_iload 0 dX3_two_115 rfl ?_
  refine x_iload_n 6 dX3_two_117 rfl ?_
  refine clX3_229 (qX3_worth (hN.off (by decide) (by decide) hO99) (hT.offt hn6 (by decide) (by decide) (by decide) (by decide) (by decide) hO99) hw a b k false false ha hb (by omega)) (by decide) rfl dX3_two_118 (fun r118 τ118 h118 => ?_)
  obtain ⟨rfl, hO9⟩ := h118
  have hO118 := hO99.tr hO9
  refine x_icmp_lt dX3_two_121 (fun c121 => ?_) (fun c121 => ?_)
  · have hn2 : f_nash n r k a b true false = false := f_nash_a (Int32.not_le.mpr c121)
    refine x_iconst (v := 0) dX3_two_128 (by decide) ?_
    refine x_istore (lv' := [(8, .int 0), (7, .int 0), (6, .int 1), (5, .int 2), (0, mx_rf E 0), (1, .int (nI a)), (2, .int (nI b)), (3, .int (nI k))]) dX3_two_129 rfl (by decide) rfl ?_
    refine x_iload 0 dX3_two_131 rfl ?_
    refine x_if_eq dX3_two_133 (fun _ => ?_) (fun c => absurd c (by decide))
    refine x_iinc (v := 3) (lv' := [(5, .int 3), (8, .int 0), (7, .int 0), (6, .int 1), (0, mx_rf E 0), (1, .int (nI a)), (2, .int (nI b)), (3, .int (nI k))]) 3 dX3_two_192 rfl (by decide) (by decide) rfl ?_
    refine x_goto dX3_two_195 ?_
    refine x_lvs [0, 4, 5, 6, 7] rfl ?_
    exact qX3_two3 hN hT hw a b k ha hb hab hk hO118 hn0 hn1 hn2
  · refine x_iconst (v := 1) dX3_two_124 (by decide) ?_
    refine x_goto dX3_two_125 ?_
    refine x_istore (lv' := [(8, .int 1), (7, .int 0), (6, .int 1), (5, .int 2), (0, mx_rf E 0), (1, .int (nI a)), (2, .int (nI b)), (3, .int (nI k))]) dX3_two_129 rfl (by decide) rfl ?_
    refine x_iload 0 dX3_two_131 rfl ?_
    refine x_if_eq dX3_two_133 (fun c => absurd c (by decide)) (fun _ => ?_)
    refine x_aload_n 4 dX3_two_136 rfl ?_
    refine x_iload_n 6 dX3_two_137 rfl ?_
    refine x_iload 1 dX3_two_138 rfl ?_
    refine x_iload_n 5 dX3_two_140 rfl ?_
    refine x_iload 2 dX3_two_141 rfl ?_
    refine x_iload_n 7 dX3_two_143 rfl ?_
    refine clX3_229 (qX3_worth (hN.off (by decide) (by decide) hO118) (hT.offt hn6 (by decide) (by decide) (by decide) (by decide) (by decide) hO118) hw b a k false true hb ha (by omega)) (by decide) rfl dX3_two_144 (fun r144 τ144 h144 => ?_)
    obtain ⟨rfl, hO9⟩ := h144
    have hO144 := hO118.tr hO9
    refine x_top (show f_worth n r k b b a false true false = f_worth n r k b a b true false false from by unfold f_worth; rw [f_lt2_c (fun q => hab q.symm)]) ?_
    refine x_aload_n 4 dX3_two_147 rfl ?_
    refine x_iload_n 6 dX3_two_148 rfl ?_
    refine x_iload 1 dX3_two_149 rfl ?_
    refine x_if_ne dX3_two_151 (fun c => absurd c (by decide)) (fun _ => ?_)
    refine x_iconst (v := 1) dX3_two_154 (by decide) ?_
    refine x_goto dX3_two_155 ?_
    refine x_iload_n 5 dX3_two_159 rfl ?_
    refine x_iload 2 dX3_two_160 rfl ?_
    refine x_iload_n 7 dX3_two_162 rfl ?_
    refine clX3_229 (qX3_worth (hN.off (by decide) (by decide) hO144) (hT.offt hn6 (by decide) (by decide) (by decide) (by decide) (by decide) hO144) hw b a k true true hb ha (by omega)) (by decide) rfl dX3_two_163 (fun r163 τ163 h163 => ?_)
    obtain ⟨rfl, hO9⟩ := h163
    have hO163 := hO144.tr hO9
    refine x_top (show f_worth n r k b b a true true true = f_worth n r k b a b true true true from by unfold f_worth; rw [f_lt2_c (fun q => hab q.symm)]) ?_
    refine x_icmp_lt dX3_two_166 (fun c166 => ?_) (fun c166 => ?_)
    · have hn2 : f_nash n r k a b true false = false := f_nash_b (Int32.not_le.mpr c166)
      refine x_iinc (v := 3) (lv' := [(5, .int 3), (8, .int 1), (7, .int 0), (6, .int 1), (0, mx_rf E 0), (1, .int (nI a)), (2, .int (nI b)), (3, .int (nI k))]) 3 dX3_two_192 rfl (by decide) (by decide) rfl ?_
      refine x_goto dX3_two_195 ?_
      refine x_lvs [0, 4, 5, 6, 7] rfl ?_
      exact qX3_two3 hN hT hw a b k ha hb hab hk hO163 hn0 hn1 hn2
    · have hn2 : f_nash n r k a b true false = true := f_nash_t (Int32.not_lt.mp c121) (Int32.not_lt.mp c166)
      refine x_iload 2 dX3_two_169 rfl ?_
      refine x_if_eq dX3_two_171 (fun c => absurd c (by decide)) (fun _ => ?_)
      refine x_bipush (v := 10) dX3_two_174 (by decide) ?_
      refine x_goto dX3_two_176 ?_
      refine x_iload 1 dX3_two_180 rfl ?_
      refine x_if_eq dX3_two_182 (fun _ => ?_) (fun c => absurd c (by decide))
      refine x_iconst (v := 0) dX3_two_189 (by decide) ?_
      refine x_iadd dX3_two_190 ?_
      refine x_top (show (10 + 0 : Int32) = 10 from by decide) ?_
      exact x_iret dX3_two_191 ⟨by simp only [f_two, hn0, hn1, hn2, reduceIte, Bool.false_eq_true], Qz.off hO163⟩

set_option maxHeartbeats 4000000 in
theorem qX3_two1 {E : mx_E} {σ τ : Mem} {n : Nat} {r : Row} (hN : NW σ) (hT : TI σ 1 n r) (hw : wf n r) (a b k : Nat) (ha : a < n) (hb : b < n) (hab : a ≠ b) (hk : k < 1000) (hO : Off 2 σ τ) (hn0 : f_nash n r k a b false false = false) : MX E 7 RX3 cX3_two 9 (some .int) 57 [(5, .int 1), (0, mx_rf E 0), (1, .int (nI a)), (2, .int (nI b)), (3, .int (nI k))] [] τ (mx_i (fun v υ => f_two n r k a b = v ∧ Qz 0 σ υ)) := by
  have hn6 := hw.1
  refine x_iload 0 dX3_two_57 rfl ?_
  refine x_iconst (v := 4) dX3_two_59 (by decide) ?_
  refine x_icmp_ge dX3_two_60 (fun c => absurd c (by decide)) (fun _ => ?_)
  refine x_iload 0 dX3_two_63 rfl ?_
  refine x_iconst (v := 2) dX3_two_65 (by decide) ?_
  refine x_icmp_lt dX3_two_66 (fun _ => ?_) (fun c => absurd c (by decide))
  refine x_iconst (v := 0) dX3_two_73 (by decide) ?_
  refine x_istore (lv' := [(6, .int 0), (5, .int 1), (0, mx_rf E 0), (1, .int (nI a)), (2, .int (nI b)), (3, .int (nI k))]) dX3_two_74 rfl (by decide) rfl ?_
  refine x_iload 1 dX3_two_76 rfl ?_
  refine x_iconst (v := 2) dX3_two_78 (by decide) ?_
  refine x_irem dX3_two_79 (by decide) ?_
  refine x_top (show (1 % 2 : Int32) = 1 from by decide) ?_
  refine x_iconst (v := 1) dX3_two_80 (by decide) ?_
  refine x_icmp_ne dX3_two_81 (fun c => absurd c (by decide)) (fun _ => ?_)
  refine x_iconst (v := 1) dX3_two_84 (by decide) ?_
  refine x_goto dX3_two_85 ?_
  refine x_istore (lv' := [(7, .int 1), (6, .int 0), (5, .int 1), (0, mx_rf E 0), (1, .int (nI a)), (2, .int (nI b)), (3, .int (nI k))]) dX3_two_89 rfl (by decide) rfl ?_
  refine x_aload_n 3 dX3_two_91 rfl ?_
  refine x_iload_n 4 dX3_two_92 rfl ?_
  refine x_iload 1 dX3_two_93 rfl ?_
  refine x_iload_n 5 dX3_two_95 rfl ?_
  refine x_iload 0 dX3_two_96 rfl ?_
  refine x_iload_n 6 dX3_two_98 rfl ?_
  refine clX3_229 (qX3_worth (hN.off (by decide) (by decide) hO) (hT.offt hn6 (by decide) (by decide) (by decide) (by decide) (by decide) hO) hw a b k false true ha hb (by omega)) (by decide) rfl dX3_two_99 (fun r99 τ99 h99 => ?_)
  obtain ⟨rfl, hO9⟩ := h99
  have hO99 := hO.tr hO9
  refine x_aload_n 3 dX3_two_102 rfl ?_
  refine x_iload_n 4 dX3_two_103 rfl ?_
  refine x_iload 1 dX3_two_104 rfl ?_
  refine x_if_ne dX3_two_106 (fun c => absurd c (by decide)) (fun _ => ?_)
  refine x_iconst (v := 1) dX3_two_109 (by decide) ?_
  refine x_goto dX3_two_110 ?_
  refine x_iload_n 5 dX3_two_114 rfl ?_
  refine x_iload 0 dX3_two_115 rfl ?_
  refine x_iload_n 6 dX3_two_117 rfl ?_
  refine clX3_229 (qX3_worth (hN.off (by decide) (by decide) hO99) (hT.offt hn6 (by decide) (by decide) (by decide) (by decide) (by decide) hO99) hw a b k true true ha hb (by omega)) (by decide) rfl dX3_two_118 (fun r118 τ118 h118 => ?_)
  obtain ⟨rfl, hO9⟩ := h118
  have hO118 := hO99.tr hO9
  refine x_icmp_lt dX3_two_121 (fun c121 => ?_) (fun c121 => ?_)
  · have hn1 : f_nash n r k a b false true = false := f_nash_a (Int32.not_le.mpr c121)
    refine x_iconst (v := 0) dX3_two_128 (by decide) ?_
    refine x_istore (lv' := [(8, .int 0), (7, .int 1), (6, .int 0), (5, .int 1), (0, mx_rf E 0), (1, .int (nI a)), (2, .int (nI b)), (3, .int (nI k))]) dX3_two_129 rfl (by decide) rfl ?_
    refine x_iload 0 dX3_two_131 rfl ?_
    refine x_if_eq dX3_two_133 (fun _ => ?_) (fun c => absurd c (by decide))
    refine x_iinc (v := 2) (lv' := [(5, .int 2), (8, .int 0), (7, .int 1), (6, .int 0), (0, mx_rf E 0), (1, .int (nI a)), (2, .int (nI b)), (3, .int (nI k))]) 3 dX3_two_192 rfl (by decide) (by decide) rfl ?_
    refine x_goto dX3_two_195 ?_
    refine x_lvs [0, 4, 5, 6, 7] rfl ?_
    exact qX3_two2 hN hT hw a b k ha hb hab hk hO118 hn0 hn1
  · refine x_iconst (v := 1) dX3_two_124 (by decide) ?_
    refine x_goto dX3_two_125 ?_
    refine x_istore (lv' := [(8, .int 1), (7, .int 1), (6, .int 0), (5, .int 1), (0, mx_rf E 0), (1, .int (nI a)), (2, .int (nI b)), (3, .int (nI k))]) dX3_two_129 rfl (by decide) rfl ?_
    refine x_iload 0 dX3_two_131 rfl ?_
    refine x_if_eq dX3_two_133 (fun c => absurd c (by decide)) (fun _ => ?_)
    refine x_aload_n 4 dX3_two_136 rfl ?_
    refine x_iload_n 6 dX3_two_137 rfl ?_
    refine x_iload 1 dX3_two_138 rfl ?_
    refine x_iload_n 5 dX3_two_140 rfl ?_
    refine x_iload 2 dX3_two_141 rfl ?_
    refine x_iload_n 7 dX3_two_143 rfl ?_
    refine clX3_229 (qX3_worth (hN.off (by decide) (by decide) hO118) (hT.offt hn6 (by decide) (by decide) (by decide) (by decide) (by decide) hO118) hw b a k true false hb ha (by omega)) (by decide) rfl dX3_two_144 (fun r144 τ144 h144 => ?_)
    obtain ⟨rfl, hO9⟩ := h144
    have hO144 := hO118.tr hO9
    refine x_top (show f_worth n r k b b a true false true = f_worth n r k b a b false true true from by unfold f_worth; rw [f_lt2_c (fun q => hab q.symm)]) ?_
    refine x_aload_n 4 dX3_two_147 rfl ?_
    refine x_iload_n 6 dX3_two_148 rfl ?_
    refine x_iload 1 dX3_two_149 rfl ?_
    refine x_if_ne dX3_two_151 (fun _ => ?_) (fun c => absurd c (by decide))
    refine x_iconst (v := 0) dX3_two_158 (by decide) ?_
    refine x_iload_n 5 dX3_two_159 rfl ?_
    refine x_iload 2 dX3_two_160 rfl ?_
    refine x_iload_n 7 dX3_two_162 rfl ?_
    refine clX3_229 (qX3_worth (hN.off (by decide) (by decide) hO144) (hT.offt hn6 (by decide) (by decide) (by decide) (by decide) (by decide) hO144) hw b a k false false hb ha (by omega)) (by decide) rfl dX3_two_163 (fun r163 τ163 h163 => ?_)
    obtain ⟨rfl, hO9⟩ := h163
    have hO163 := hO144.tr hO9
    refine x_top (show f_worth n r k b b a false false false = f_worth n r k b a b false false false from by unfold f_worth; rw [f_lt2_c (fun q => hab q.symm)]) ?_
    refine x_icmp_lt dX3_two_166 (fun c166 => ?_) (fun c166 => ?_)
    · have hn1 : f_nash n r k a b false true = false := f_nash_b (Int32.not_le.mpr c166)
      refine x_iinc (v := 2) (lv' := [(5, .int 2), (8, .int 1), (7, .int 1), (6, .int 0), (0, mx_rf E 0), (1, .int (nI a)), (2, .int (nI b)), (3, .int (nI k))]) 3 dX3_two_192 rfl (by decide) (by decide) rfl ?_
      refine x_goto dX3_two_195 ?_
      refine x_lvs [0, 4, 5, 6, 7] rfl ?_
      exact qX3_two2 hN hT hw a b k ha hb hab hk hO163 hn0 hn1
    · have hn1 : f_nash n r k a b false true = true := f_nash_t (Int32.not_lt.mp c121) (Int32.not_lt.mp c166)
      refine x_iload 2 dX3_two_169 rfl ?_
      refine x_if_eq dX3_two_171 (fun _ => ?_) (fun c => absurd c (by decide))
      refine x_iconst (v := 0) dX3_two_179 (by decide) ?_
      refine x_iload 1 dX3_two_180 rfl ?_
      refine x_if_eq dX3_two_182 (fun c => absurd c (by decide)) (fun _ => ?_)
      refine x_iconst (v := 1) dX3_two_185 (by decide) ?_
      refine x_goto dX3_two_186 ?_
      refine x_iadd dX3_two_190 ?_
      refine x_top (show (0 + 1 : Int32) = 1 from by decide) ?_
      exact x_iret dX3_two_191 ⟨by simp only [f_two, hn0, hn1, reduceIte, Bool.false_eq_true], Qz.off hO163⟩

set_option maxHeartbeats 4000000 in
theorem qX3_two0 {E : mx_E} {σ τ : Mem} {n : Nat} {r : Row} (hN : NW σ) (hT : TI σ 1 n r) (hw : wf n r) (a b k : Nat) (ha : a < n) (hb : b < n) (hab : a ≠ b) (hk : k < 1000) (hO : Off 2 σ τ)  : MX E 7 RX3 cX3_two 9 (some .int) 57 [(5, .int 0), (0, mx_rf E 0), (1, .int (nI a)), (2, .int (nI b)), (3, .int (nI k))] [] τ (mx_i (fun v υ => f_two n r k a b = v ∧ Qz 0 σ υ)) := by
  have hn6 := hw.1
  refine x_iload 0 dX3_two_57 rfl ?_
  refine x_iconst (v := 4) dX3_two_59 (by decide) ?_
  refine x_icmp_ge dX3_two_60 (fun c => absurd c (by decide)) (fun _ => ?_)
  refine x_iload 0 dX3_two_63 rfl ?_
  refine x_iconst (v := 2) dX3_two_65 (by decide) ?_
  refine x_icmp_lt dX3_two_66 (fun _ => ?_) (fun c => absurd c (by decide))
  refine x_iconst (v := 0) dX3_two_73 (by decide) ?_
  refine x_istore (lv' := [(6, .int 0), (5, .int 0), (0, mx_rf E 0), (1, .int (nI a)), (2, .int (nI b)), (3, .int (nI k))]) dX3_two_74 rfl (by decide) rfl ?_
  refine x_iload 1 dX3_two_76 rfl ?_
  refine x_iconst (v := 2) dX3_two_78 (by decide) ?_
  refine x_irem dX3_two_79 (by decide) ?_
  refine x_top (show (0 % 2 : Int32) = 0 from by decide) ?_
  refine x_iconst (v := 1) dX3_two_80 (by decide) ?_
  refine x_icmp_ne dX3_two_81 (fun _ => ?_) (fun c => absurd c (by decide))
  refine x_iconst (v := 0) dX3_two_88 (by decide) ?_
  refine x_istore (lv' := [(7, .int 0), (6, .int 0), (5, .int 0), (0, mx_rf E 0), (1, .int (nI a)), (2, .int (nI b)), (3, .int (nI k))]) dX3_two_89 rfl (by decide) rfl ?_
  refine x_aload_n 3 dX3_two_91 rfl ?_
  refine x_iload_n 4 dX3_two_92 rfl ?_
  refine x_iload 1 dX3_two_93 rfl ?_
  refine x_iload_n 5 dX3_two_95 rfl ?_
  refine x_iload 0 dX3_two_96 rfl ?_
  refine x_iload_n 6 dX3_two_98 rfl ?_
  refine clX3_229 (qX3_worth (hN.off (by decide) (by decide) hO) (hT.offt hn6 (by decide) (by decide) (by decide) (by decide) (by decide) hO) hw a b k false false ha hb (by omega)) (by decide) rfl dX3_two_99 (fun r99 τ99 h99 => ?_)
  obtain ⟨rfl, hO9⟩ := h99
  have hO99 := hO.tr hO9
  refine x_aload_n 3 dX3_two_102 rfl ?_
  refine x_iload_n 4 dX3_two_103 rfl ?_
  refine x_iload 1 dX3_two_104 rfl ?_
  refine x_if_ne dX3_two_106 (fun c => absurd c (by decide)) (fun _ => ?_)
  refine x_iconst (v := 1) dX3_two_109 (by decide) ?_
  refine x_goto dX3_two_110 ?_
  refine x_iload_n 5 dX3_two_114 rfl ?_
  refine x_iload 0 dX3_two_115 rfl ?_
  refine x_iload_n 6 dX3_two_117 rfl ?_
  refine clX3_229 (qX3_worth (hN.off (by decide) (by decide) hO99) (hT.offt hn6 (by decide) (by decide) (by decide) (by decide) (by decide) hO99) hw a b k true false ha hb (by omega)) (by decide) rfl dX3_two_118 (fun r118 τ118 h118 => ?_)
  obtain ⟨rfl, hO9⟩ := h118
  have hO118 := hO99.tr hO9
  refine x_icmp_lt dX3_two_121 (fun c121 => ?_) (fun c121 => ?_)
  · have hn0 : f_nash n r k a b false false = false := f_nash_a (Int32.not_le.mpr c121)
    refine x_iconst (v := 0) dX3_two_128 (by decide) ?_
    refine x_istore (lv' := [(8, .int 0), (7, .int 0), (6, .int 0), (5, .int 0), (0, mx_rf E 0), (1, .int (nI a)), (2, .int (nI b)), (3, .int (nI k))]) dX3_two_129 rfl (by decide) rfl ?_
    refine x_iload 0 dX3_two_131 rfl ?_
    refine x_if_eq dX3_two_133 (fun _ => ?_) (fun c => absurd c (by decide))
    refine x_iinc (v := 1) (lv' := [(5, .int 1), (8, .int 0), (7, .int 0), (6, .int 0), (0, mx_rf E 0), (1, .int (nI a)), (2, .int (nI b)), (3, .int (nI k))]) 3 dX3_two_192 rfl (by decide) (by decide) rfl ?_
    refine x_goto dX3_two_195 ?_
    refine x_lvs [0, 4, 5, 6, 7] rfl ?_
    exact qX3_two1 hN hT hw a b k ha hb hab hk hO118 hn0
  · refine x_iconst (v := 1) dX3_two_124 (by decide) ?_
    refine x_goto dX3_two_125 ?_
    refine x_istore (lv' := [(8, .int 1), (7, .int 0), (6, .int 0), (5, .int 0), (0, mx_rf E 0), (1, .int (nI a)), (2, .int (nI b)), (3, .int (nI k))]) dX3_two_129 rfl (by decide) rfl ?_
    refine x_iload 0 dX3_two_131 rfl ?_
    refine x_if_eq dX3_two_133 (fun c => absurd c (by decide)) (fun _ => ?_)
    refine x_aload_n 4 dX3_two_136 rfl ?_
    refine x_iload_n 6 dX3_two_137 rfl ?_
    refine x_iload 1 dX3_two_138 rfl ?_
    refine x_iload_n 5 dX3_two_140 rfl ?_
    refine x_iload 2 dX3_two_141 rfl ?_
    refine x_iload_n 7 dX3_two_143 rfl ?_
    refine clX3_229 (qX3_worth (hN.off (by decide) (by decide) hO118) (hT.offt hn6 (by decide) (by decide) (by decide) (by decide) (by decide) hO118) hw b a k false false hb ha (by omega)) (by decide) rfl dX3_two_144 (fun r144 τ144 h144 => ?_)
    obtain ⟨rfl, hO9⟩ := h144
    have hO144 := hO118.tr hO9
    refine x_top (show f_worth n r k b b a false false false = f_worth n r k b a b false false false from by unfold f_worth; rw [f_lt2_c (fun q => hab q.symm)]) ?_
    refine x_aload_n 4 dX3_two_147 rfl ?_
    refine x_iload_n 6 dX3_two_148 rfl ?_
    refine x_iload 1 dX3_two_149 rfl ?_
    refine x_if_ne dX3_two_151 (fun c => absurd c (by decide)) (fun _ => ?_)
    refine x_iconst (v := 1) dX3_two_154 (by decide) ?_
    refine x_goto dX3_two_155 ?_
    refine x_iload_n 5 dX3_two_159 rfl ?_
    refine x_iload 2 dX3_two_160 rfl ?_
    refine x_iload_n 7 dX3_two_162 rfl ?_
    refine clX3_229 (qX3_worth (hN.off (by decide) (by decide) hO144) (hT.offt hn6 (by decide) (by decide) (by decide) (by decide) (by decide) hO144) hw b a k true false hb ha (by omega)) (by decide) rfl dX3_two_163 (fun r163 τ163 h163 => ?_)
    obtain ⟨rfl, hO9⟩ := h163
    have hO163 := hO144.tr hO9
    refine x_top (show f_worth n r k b b a true false true = f_worth n r k b a b false true true from by unfold f_worth; rw [f_lt2_c (fun q => hab q.symm)]) ?_
    refine x_icmp_lt dX3_two_166 (fun c166 => ?_) (fun c166 => ?_)
    · have hn0 : f_nash n r k a b false false = false := f_nash_b (Int32.not_le.mpr c166)
      refine x_iinc (v := 1) (lv' := [(5, .int 1), (8, .int 1), (7, .int 0), (6, .int 0), (0, mx_rf E 0), (1, .int (nI a)), (2, .int (nI b)), (3, .int (nI k))]) 3 dX3_two_192 rfl (by decide) (by decide) rfl ?_
      refine x_goto dX3_two_195 ?_
      refine x_lvs [0, 4, 5, 6, 7] rfl ?_
      exact qX3_two1 hN hT hw a b k ha hb hab hk hO163 hn0
    · have hn0 : f_nash n r k a b false false = true := f_nash_t (Int32.not_lt.mp c121) (Int32.not_lt.mp c166)
      refine x_iload 2 dX3_two_169 rfl ?_
      refine x_if_eq dX3_two_171 (fun _ => ?_) (fun c => absurd c (by decide))
      refine x_iconst (v := 0) dX3_two_179 (by decide) ?_
      refine x_iload 1 dX3_two_180 rfl ?_
      refine x_if_eq dX3_two_182 (fun _ => ?_) (fun c => absurd c (by decide))
      refine x_iconst (v := 0) dX3_two_189 (by decide) ?_
      refine x_iadd dX3_two_190 ?_
      refine x_top (show (0 + 0 : Int32) = 0 from by decide) ?_
      exact x_iret dX3_two_191 ⟨by simp only [f_two, hn0, reduceIte, Bool.false_eq_true], Qz.off hO163⟩

set_option maxHeartbeats 4000000 in
theorem qX3_two {E : mx_E} {σ : Mem} {n : Nat} {r : Row} (hN : NW σ) (hT : TI σ 1 n r) (hw : wf n r) (a b k : Int32) : MX3_two E 7 [mx_rf E 0, .int a, .int b, .int k] σ (mx_i (fun v τ => (p_two n r a b k).1 = v ∧ Qz (p_two n r a b k).2 σ τ)) := by
  refine MM.of (lv := [(0, mx_rf E 0), (1, .int a), (2, .int b), (3, .int k)]) kpX3 rfl (Nat.le_of_ble_eq_true rfl) rfl ?_
  have hn6 := hw.1
  refine x_aload_n 0 dX3_two_0 rfl ?_
  refine gfX3_10 dX3_two_1 ?_
  refine x_iload_n 1 dX3_two_4 rfl ?_
  refine clX3_122 (qX2_has (by decide) (by decide) hT.1 a) (by decide) (by decide) (by decide) rfl dX3_two_5 (fun r5 τ5 h5 => ?_)
  obtain ⟨rfl, rfl⟩ := h5
  refine x_if_eq dX3_two_8 (fun c8 => ?_) (fun c8 => ?_)
  · replace c8 := zb_0 c8
    refine x_aload_n 0 dX3_two_27 rfl ?_
    refine x_iconst (v := -1) dX3_two_28 (by decide) ?_
    refine clX3_49 (qX3_refuse 1 (by decide) (by decide)) (by decide) rfl dX3_two_29 (fun r29 τ29 h29 => ?_)
    obtain ⟨rfl, rfl⟩ := h29
    exact x_iret dX3_two_32 (by rw [show p_two n r a b k = (-1, 1) from by simp [p_two, c8]]; exact ⟨rfl, Qz.no⟩)
  · replace c8 := zb_1 c8
    obtain ⟨a1, ha1, rfl⟩ := f_inN_t (by omega) c8
    refine x_aload_n 0 dX3_two_11 rfl ?_
    refine gfX3_10 dX3_two_12 ?_
    refine x_iload_n 2 dX3_two_15 rfl ?_
    refine clX3_122 (qX2_has (by decide) (by decide) hT.1 b) (by decide) (by decide) (by decide) rfl dX3_two_16 (fun r16 τ16 h16 => ?_)
    obtain ⟨rfl, rfl⟩ := h16
    refine x_if_eq dX3_two_19 (fun c19 => ?_) (fun c19 => ?_)
    · replace c19 := zb_0 c19
      refine x_aload_n 0 dX3_two_27 rfl ?_
      refine x_iconst (v := -1) dX3_two_28 (by decide) ?_
      refine clX3_49 (qX3_refuse 1 (by decide) (by decide)) (by decide) rfl dX3_two_29 (fun r29 τ29 h29 => ?_)
      obtain ⟨rfl, rfl⟩ := h29
      exact x_iret dX3_two_32 (by rw [show p_two n r (nI a1) b k = (-1, 1) from by simp [p_two, c8, c19]]; exact ⟨rfl, Qz.no⟩)
    · replace c19 := zb_1 c19
      obtain ⟨b1, hb1, rfl⟩ := f_inN_t (by omega) c19
      refine x_iload_n 1 dX3_two_22 rfl ?_
      refine x_iload_n 2 dX3_two_23 rfl ?_
      refine x_icmp_ne dX3_two_24 (fun c24 => ?_) (fun c24 => ?_)
      · refine x_iload_n 3 dX3_two_33 rfl ?_
        refine x_iconst (v := 0) dX3_two_34 (by decide) ?_
        refine x_bipush (v := 30) dX3_two_35 (by decide) ?_
        refine clX3_169 (qX3_outOf k 0 30) (by decide) rfl dX3_two_37 (fun r37 τ37 h37 => ?_)
        obtain ⟨rfl, rfl⟩ := h37
        rcases f_out_c (v := k) (lo := 0) (hi := 30) (l := 0) (h := 30) (by decide) (by decide) rfl rfl with ⟨k1, e⟩ | ⟨k1, k2, e⟩ | ⟨k, hk1, hk2, rfl, k1, k2, e⟩
        · refine x_top (show f_out k 0 30 = -4 from e) ?_
          refine x_istore (lv' := [(4, .int (-4)), (0, mx_rf E 0), (1, .int (nI a1)), (2, .int (nI b1)), (3, .int k)]) dX3_two_40 rfl (by decide) rfl ?_
          refine x_iload 0 dX3_two_42 rfl ?_
          refine x_if_eq dX3_two_44 (fun c => absurd c (by decide)) (fun _ => ?_)
          refine x_aload_n 1 dX3_two_47 rfl ?_
          refine x_iload 0 dX3_two_48 rfl ?_
          refine clX3_49 (qX3_refuse 4 (by decide) (by decide)) (by decide) rfl dX3_two_50 (fun r50 τ50 h50 => ?_)
          obtain ⟨rfl, rfl⟩ := h50
          exact x_iret dX3_two_53 (by rw [show p_two n r (nI a1) (nI b1) k = ((-4 : Int32), 4) from by simp [zbT, zbF, f_in002, f_in102, f_in001, f_in101, p_two, c8, c19, c24, k1, nI_clamp (show a1 < 2 ^ 31 by omega), nI_clamp (show b1 < 2 ^ 31 by omega)]]; exact ⟨rfl, Qz.no⟩)
        · refine x_top (show f_out k 0 30 = -6 from e) ?_
          refine x_istore (lv' := [(4, .int (-6)), (0, mx_rf E 0), (1, .int (nI a1)), (2, .int (nI b1)), (3, .int k)]) dX3_two_40 rfl (by decide) rfl ?_
          refine x_iload 0 dX3_two_42 rfl ?_
          refine x_if_eq dX3_two_44 (fun c => absurd c (by decide)) (fun _ => ?_)
          refine x_aload_n 1 dX3_two_47 rfl ?_
          refine x_iload 0 dX3_two_48 rfl ?_
          refine clX3_49 (qX3_refuse 6 (by decide) (by decide)) (by decide) rfl dX3_two_50 (fun r50 τ50 h50 => ?_)
          obtain ⟨rfl, rfl⟩ := h50
          exact x_iret dX3_two_53 (by rw [show p_two n r (nI a1) (nI b1) k = ((-6 : Int32), 6) from by simp [zbT, zbF, f_in002, f_in102, f_in001, f_in101, p_two, c8, c19, c24, k1, k2, nI_clamp (show a1 < 2 ^ 31 by omega), nI_clamp (show b1 < 2 ^ 31 by omega)]]; exact ⟨rfl, Qz.no⟩)
        · refine x_top (show f_out (nI k) 0 30 = 0 from e) ?_
          refine x_istore (lv' := [(4, .int 0), (0, mx_rf E 0), (1, .int (nI a1)), (2, .int (nI b1)), (3, .int (nI k))]) dX3_two_40 rfl (by decide) rfl ?_
          refine x_iload 0 dX3_two_42 rfl ?_
          refine x_if_eq dX3_two_44 (fun _ => ?_) (fun c => absurd c (by decide))
          refine x_iconst (v := 0) dX3_two_54 (by decide) ?_
          refine x_istore (lv' := [(5, .int 0), (4, .int 0), (0, mx_rf E 0), (1, .int (nI a1)), (2, .int (nI b1)), (3, .int (nI k))]) dX3_two_55 rfl (by decide) rfl ?_
          refine x_lvs (lw := [(5, .int 0), (0, mx_rf E 0), (1, .int (nI a1)), (2, .int (nI b1)), (3, .int (nI k))]) [0, 2, 3, 4, 5] rfl ?_
          rw [show p_two n r (nI a1) (nI b1) (nI k) = (f_two n r k a1 b1, 0) from by simp only [p_two, c8, c19, ne_eq, c24, k1, k2, nI_clamp (show a1 < 2 ^ 31 by omega), nI_clamp (show b1 < 2 ^ 31 by omega), nI_clamp (show k < 2 ^ 31 by omega), and_self, not_false_eq_true, reduceIte, Bool.false_eq_true, Bool.true_eq_false, Bool.true_and, Bool.false_and, Bool.and_true, Bool.and_false, decide_eq_true_eq, decide_true, decide_false, not_true_eq_false, not_false_eq_true, zbT, zbF]]
          exact MX.weak (qX3_two0 hN hT hw a1 b1 k ha1 hb1 (fun q => c24 (by rw [q])) (by omega) Off.rf) (fun v τ z => z)
      · refine x_aload_n 0 dX3_two_27 rfl ?_
        refine x_iconst (v := -1) dX3_two_28 (by decide) ?_
        refine clX3_49 (qX3_refuse 1 (by decide) (by decide)) (by decide) rfl dX3_two_29 (fun r29 τ29 h29 => ?_)
        obtain ⟨rfl, rfl⟩ := h29
        exact x_iret dX3_two_32 (by rw [show p_two n r (nI a1) (nI b1) k = (-1, 1) from by simp [p_two, c8, c19, c24]]; exact ⟨rfl, Qz.no⟩)
