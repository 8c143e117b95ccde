set_option maxHeartbeats 4000000 in
theorem qX4_town {E : mx_E} {σ : Mem} {n : Nat} {r : Row} {hi : Bool} {ni : Nat} {ri : Row} {lm : Nat} {L : Row} {rm : Nat} {R f : Row} (hM : MI σ (zs n r hi ni ri lm L rm R f)) (ok : (zs n r hi ni ri lm L rm R f).ok)  : MX4_town E 7 [mx_rf E 35] σ (mx_i (fun v τ => (a_town (zs n r hi ni ri lm L rm R f)).1 = v ∧ MI τ (a_town (zs n r hi ni ri lm L rm R f)).2 ∧ FM σ τ)) := by
  refine MM.of (lv := [(0, mx_rf E 35)]) kpX4 rfl (Nat.le_of_ble_eq_true rfl) rfl ?_
  have h36 : σ 36 = r := hM.1
  have hw : wf n r := ok.1
  have hn6 : n ≤ 6 := hw.1
  have hlm : lm ≤ 96 := ok.2.2.2.1
  have hrm : rm ≤ 16 := ok.2.2.2.2
  have hz2 : σ 35 8 = nI lm := hM.2.2.2.1
  have hz : σ 35 9 = nI rm := hM.2.2.2.2.2.1
  have hL : ∀ j, j < lm → σ 40 j = L j := hM.2.2.2.2.1
  have h5 : r 5 = 0 := ok.2.1
  have hb0 : 0 < lm ∨ f_brk L lm = some 0 := by
    rcases Nat.eq_zero_or_pos lm with q | q
    · subst q; exact Or.inr rfl
    · exact Or.inl q
  have hs0 : f_scan L lm (lm - 0) 0 (-1) = f_brk L lm ∨ ¬ 0 < lm := by
    rcases Nat.eq_zero_or_pos lm with q | q
    · exact Or.inr (by omega)
    · exact Or.inl (by unfold f_brk; rw [if_neg (by omega)]; rfl)
  refine x_aload_n 0 dX4_town_0 rfl ?_
  refine x_iconst (v := 0) dX4_town_1 (by decide) ?_
  refine pfX4_91 dX4_town_2 ?_
  refine x_mem (τ := mx_up σ 35 10 (nI 0)) rfl ?_
  refine x_iconst (v := 0) dX4_town_5 (by decide) ?_
  refine x_istore_n (lv' := [(1, .int 0), (0, mx_rf E 35)]) dX4_town_6 rfl (by decide) rfl ?_
  refine x_bipush (v := -9) dX4_town_7 (by decide) ?_
  refine x_istore_n (lv' := [(2, .int (-9)), (1, .int 0), (0, mx_rf E 35)]) dX4_town_9 rfl (by decide) rfl ?_
  have key10 : ∀ p, p ≤ lm → ∀ (c : Nat) (τ : Mem), TM σ τ p r → c + f_ns L (lm - p) p = f_ns L lm 0 → (p < lm ∨ f_brk L lm = some p) → (f_scan L lm (lm - p) p (-1) = f_brk L lm ∨ ¬ p < lm) → (p = 0 ∨ L (p - 1) = 59) → MX E 7 RX4 cX4_town 6 (some .int) 10 [(1, .int (nI c)), (2, .int (-9)), (0, mx_rf E 35)] [] τ (mx_i (fun v τ => (a_town (zs n r hi ni ri lm L rm R f)).1 = v ∧ MI τ (a_town (zs n r hi ni ri lm L rm R f)).2 ∧ FM σ τ)) := by
    refine mx_ind lm (fun p hi10 ih10 => ?_)
    intro c τ ht hcn hp0 hsc hst
    refine x_aload_n 2 dX4_town_10 rfl ?_
    refine clX4_118 (qX4_readsStatement hlm ((ht.2.1 8 (by decide)).trans hz2) (fun j hj => (congrFun (ht.1 40 (by decide) (by decide) (by decide) (by decide)) j).trans (hL j hj)) ht.2.2.2 (by omega)) (by decide) rfl dX4_town_11 (fun r11 τ11 h11 => ?_)
    obtain ⟨w, rfl, rfl, hnm⟩ := h11
    have ht11 := ht.rd (w := w) (q2 := (f_rd L lm p).2)
    have hrd := f_rd_ok (B := f_brk L lm) hi10 hp0 hsc
    refine x_if_ne dX4_town_14 (fun c14 => ?_) (fun c14 => ?_)
    · replace c14 := zb_1 c14
      obtain ⟨hgd, hrd2, hsc2⟩ : f_gd L lm p ∧ (f_rd L lm p).2 = f_end L p ∧ f_scan L lm (lm - (f_rd L lm p).2) (f_rd L lm p).2 (-1) = f_brk L lm := by
        rcases hrd with ⟨-, a, b, d⟩ | ⟨a, -⟩
        · exact ⟨a, b, d⟩
        · rw [c14] at a; exact absurd a (by decide)
      rw [hrd2] at ht11 hsc2 ⊢
      have hel : f_end L p ≤ lm := (f_gd_end hgd).1
      have hcn2 : c + 1 + f_ns L (lm - f_end L p) (f_end L p) = f_ns L lm 0 := by have := f_ns_st hgd hst; omega
      refine x_iinc (v := nI (c + 1)) (lv' := [(1, .int (nI (c + 1))), (2, .int (-9)), (0, mx_rf E 35)]) 0 dX4_town_26 rfl (nI_1 _) (by decide) rfl ?_
      refine x_iload_n 1 dX4_town_29 rfl ?_
      refine x_bipush (v := -9) dX4_town_30 (by decide) ?_
      refine x_icmp_ne dX4_town_32 (fun c => absurd c (by decide)) (fun _ => ?_)
      refine x_aload_n 2 dX4_town_35 rfl ?_
      refine gfX4_91 dX4_town_36 ?_
      refine x_top (show (mx_rd τ w (f_end L p)) 35 10 = nI (f_end L p) from ht11.2.2.2) ?_
      refine x_aload_n 2 dX4_town_39 rfl ?_
      refine gfX4_87 dX4_town_40 ?_
      refine x_top (show (mx_rd τ w (f_end L p)) 35 8 = nI lm from ((ht11.2.1 8 (by decide)).trans hz2)) ?_
      refine x_icmp_lt dX4_town_43 (fun c43 => ?_) (fun c43 => ?_)
      · have hlt2 := (nI_ltI (by omega) (by omega)).mp c43
        exact ih10 (f_end L p) f_end_lt hel (c + 1) _ ht11 hcn2 (Or.inl hlt2) (Or.inl hsc2) (Or.inr (f_gd_end hgd).2)
      · have hge2 : lm ≤ f_end L p := Nat.le_of_not_lt (fun q => c43 ((nI_ltI (by omega) (by omega)).mpr q))
        have hbn : f_brk L lm = none := (f_scanE (B := f_brk L lm) hge2 hsc2).trans (if_pos rfl)
        refine x_aload_n 2 dX4_town_46 rfl ?_
        refine gfX4_9 dX4_town_47 ?_
        refine x_aload_n 2 dX4_town_50 rfl ?_
        refine gfX4_19 dX4_town_51 ?_
        refine clX4_121 (qX4_copies (by decide) (by decide) (by decide) (by decide) (by decide) ht11.2.2.1) (by decide) rfl dX4_town_54 (fun τ54 h54 => ?_)
        obtain rfl := h54
        have ht54 := ht11.was (r2 := r)
        refine x_aload_n 2 dX4_town_57 rfl ?_
        refine x_iconst (v := 0) dX4_town_58 (by decide) ?_
        refine pfX4_91 dX4_town_59 ?_
        refine x_mem (τ := mx_up (mx_row (mx_rd τ w (f_end L p)) 39 r) 35 10 (nI 0)) rfl ?_
        have ht59 := ht54.pl (q2 := 0)
        have hgood := (f_good hbn).2
        have hm39 : (mx_up (mx_row (mx_rd τ w (f_end L p)) 39 r) 35 10 (nI 0)) 39 = r := by rw [mx_up_o (by decide)]; exact mx_row_s
        have hmany : c + 1 = f_ns L lm 0 := by rw [show f_end L p = lm by omega, Nat.sub_self] at hcn2; exact hcn2
        have key62 : ∀ x, x ≤ lm → ∀ (k n1 : Nat) (r1 : Row) (τ : Mem), TM σ τ x r1 → τ 39 = r → wf n1 r1 → r1 5 = 0 → f_tg n r L (lm - x) x k n1 r1 = f_tg n r L lm 0 0 n r → k + f_ns L (lm - x) x = f_ns L lm 0 → (x = 0 ∨ L (x - 1) = 59) → MX E 7 RX4 cX4_town 6 (some .int) 62 [(1, .int (nI (c + 1))), (2, .int (-9)), (0, mx_rf E 35)] [] τ (mx_i (fun v τ => (a_town (zs n r hi ni ri lm L rm R f)).1 = v ∧ MI τ (a_town (zs n r hi ni ri lm L rm R f)).2 ∧ FM σ τ)) := by
          refine mx_ind lm (fun x hi62 ih62 => ?_)
          intro k n1 r1 τ ht2 h39 hw1 h51 hgo hkn hst2
          refine x_iload_n 1 dX4_town_62 rfl ?_
          refine x_bipush (v := -9) dX4_town_63 (by decide) ?_
          refine x_icmp_ne dX4_town_65 (fun c => absurd c (by decide)) (fun _ => ?_)
          refine x_aload_n 2 dX4_town_68 rfl ?_
          refine gfX4_91 dX4_town_69 ?_
          refine x_top (show τ 35 10 = nI x from ht2.2.2.2) ?_
          refine x_aload_n 2 dX4_town_72 rfl ?_
          refine gfX4_87 dX4_town_73 ?_
          refine x_top (show τ 35 8 = nI lm from ((ht2.2.1 8 (by decide)).trans hz2)) ?_
          refine x_icmp_ge dX4_town_76 (fun c76 => ?_) (fun c76 => ?_)
          · have hge3 := nI_le_of (by omega) (by omega) c76
            have hx := hgo.symm.trans (f_tgE hge3 rfl)
            have hkc : k = c + 1 := by rw [show lm - x = 0 by omega] at hkn; rw [hmany]; exact hkn
            refine x_aload_n 2 dX4_town_128 rfl ?_
            refine x_iconst (v := 0) dX4_town_129 (by decide) ?_
            refine pfX4_87 dX4_town_130 ?_
            refine x_iload_n 1 dX4_town_133 rfl ?_
            refine x_bipush (v := -9) dX4_town_134 (by decide) ?_
            refine x_icmp_ne dX4_town_136 (fun c => absurd c (by decide)) (fun _ => ?_)
            refine x_iload_n 0 dX4_town_139 rfl ?_
            refine x_goto dX4_town_140 ?_
            exact x_iret dX4_town_144 (by rw [a_town_n (s := (zs n r hi ni ri lm L rm R f)) hbn]; exact ⟨(congrArg Prod.fst hx).trans (by rw [← hkc]), by rw [show f_tg (ZS.n (zs n r hi ni ri lm L rm R f)) (ZS.r (zs n r hi ni ri lm L rm R f)) (ZS.L (zs n r hi ni ri lm L rm R f)) (ZS.lm (zs n r hi ni ri lm L rm R f)) 0 0 (ZS.n (zs n r hi ni ri lm L rm R f)) (ZS.r (zs n r hi ni ri lm L rm R f)) = _ from hx]; exact hM.tm ht2, ht2.fm⟩)
          · have hlt3 := nI_lt_of (by omega) (by omega) c76
            have hgd := hgood x hlt3 hst2
            refine x_aload_n 2 dX4_town_79 rfl ?_
            refine gfX4_91 dX4_town_80 ?_
            refine x_top (show τ 35 10 = nI x from ht2.2.2.2) ?_
            refine x_istore_n (lv' := [(3, .int (nI x)), (1, .int (nI (c + 1))), (2, .int (-9)), (0, mx_rf E 35)]) dX4_town_83 rfl (by decide) rfl ?_
            refine x_aload_n 3 dX4_town_84 rfl ?_
            refine clX4_94 (qX4_here (p := x) hlm ((ht2.2.1 8 (by decide)).trans hz2) (fun j hj => (congrFun (ht2.1 40 (by decide) (by decide) (by decide) (by decide)) j).trans (hL j hj)) ht2.2.2.2 (by omega)) (by decide) rfl dX4_town_85 (fun r85 τ85 h85 => ?_)
            obtain ⟨rfl, rfl⟩ := h85
            refine x_top (show f_here L lm x = L x from (f_here_l hlt3)) ?_
            refine x_istore (lv' := [(4, .int (L x)), (3, .int (nI x)), (1, .int (nI (c + 1))), (2, .int (-9)), (0, mx_rf E 35)]) dX4_town_88 rfl (by decide) rfl ?_
            refine x_aload_n 4 dX4_town_90 rfl ?_
            refine clX4_118 (qX4_readsStatement hlm ((ht2.2.1 8 (by decide)).trans hz2) (fun j hj => (congrFun (ht2.1 40 (by decide) (by decide) (by decide) (by decide)) j).trans (hL j hj)) ht2.2.2.2 (by omega)) (by decide) rfl dX4_town_91 (fun r91 τ91 h91 => ?_)
            obtain ⟨w, rfl, rfl, hnm⟩ := h91
            have hge_ := f_gd_rd hgd
            rw [hge_] at hnm ⊢
            replace hnm := hnm rfl
            have ht91 := ht2.rd (w := w) (q2 := f_end L x)
            refine x_istore (lv' := [(5, .int 1), (4, .int (L x)), (3, .int (nI x)), (1, .int (nI (c + 1))), (2, .int (-9)), (0, mx_rf E 35)]) dX4_town_94 rfl (by decide) rfl ?_
            refine x_aload_n 5 dX4_town_96 rfl ?_
            refine x_iload 1 dX4_town_97 rfl ?_
            refine clX4_125 (qX4_isDone ht91.2.2.1 hw1 w mx_rd_n hgd hnm) (by decide) rfl dX4_town_99 (fun r99 τ99 h99 => ?_)
            have hD := h99
            refine x_if_eq dX4_town_102 (fun c102 => ?_) (fun c102 => ?_)
            · obtain ⟨hs, rfl⟩ : f_st n1 r1 L x = none ∧ mx_rd τ w (f_end L x) = τ99 := by
                rcases hD with ⟨n2, r2, a, b, d⟩ | ⟨a, b, d⟩
                · exact absurd (b.symm.trans c102) (by decide)
                · exact ⟨a, d⟩
              have hx := f_tgF hlt3 hgo hst2 hs
              have h39b : mx_rd τ w (f_end L x) 39 = r := by rw [mx_rd_o (by decide) (by decide)]; exact h39
              refine x_sipush (v := -2000) dX4_town_108 (by decide) ?_
              refine x_iload_n 2 dX4_town_111 rfl ?_
              refine x_isub dX4_town_112 ?_
              refine x_istore_n (lv' := [(2, .int ((-2000) - (nI x))), (5, .int 1), (4, .int (L x)), (3, .int (nI x)), (1, .int (nI (c + 1))), (0, mx_rf E 35)]) dX4_town_113 rfl (by decide) rfl ?_
              refine x_aload_n 5 dX4_town_114 rfl ?_
              refine gfX4_19 dX4_town_115 ?_
              refine x_aload_n 5 dX4_town_118 rfl ?_
              refine gfX4_9 dX4_town_119 ?_
              refine clX4_121 (qX4_copies (by decide) (by decide) (by decide) (by decide) (by decide) h39b) (by decide) rfl dX4_town_122 (fun τ122 h122 => ?_)
              obtain rfl := h122
              have ht122 := ht91.row (r2 := r)
              refine x_goto dX4_town_125 ?_
              refine x_iload_n 0 dX4_town_62 rfl ?_
              refine x_bipush (v := -9) dX4_town_63 (by decide) ?_
              refine x_icmp_ne dX4_town_65 (fun c65 => ?_) (fun c65 => ?_)
              · refine x_aload_n 5 dX4_town_128 rfl ?_
                refine x_iconst (v := 0) dX4_town_129 (by decide) ?_
                refine pfX4_87 dX4_town_130 ?_
                refine x_iload_n 0 dX4_town_133 rfl ?_
                refine x_bipush (v := -9) dX4_town_134 (by decide) ?_
                refine x_icmp_ne dX4_town_136 (fun c136 => ?_) (fun c136 => ?_)
                · refine x_iload_n 0 dX4_town_143 rfl ?_
                  exact x_iret dX4_town_144 (by rw [a_town_n (s := (zs n r hi ni ri lm L rm R f)) hbn]; exact ⟨congrArg Prod.fst hx.symm |>.symm, by rw [show f_tg (ZS.n (zs n r hi ni ri lm L rm R f)) (ZS.r (zs n r hi ni ri lm L rm R f)) (ZS.L (zs n r hi ni ri lm L rm R f)) (ZS.lm (zs n r hi ni ri lm L rm R f)) 0 0 (ZS.n (zs n r hi ni ri lm L rm R f)) (ZS.r (zs n r hi ni ri lm L rm R f)) = _ from hx]; exact hM.tm ht122, ht122.fm⟩)
                · exact absurd c136 (f_n2000 (by omega))
              · exact absurd c65 (f_n2000 (by omega))
            · obtain ⟨n2, r2, hs, rfl⟩ : ∃ n2 r2, f_st n1 r1 L x = some (n2, r2) ∧ mx_row (mx_rd τ w (f_end L x)) 36 r2 = τ99 := by
                rcases hD with ⟨n2, r2, a, b, d⟩ | ⟨a, b, d⟩
                · exact ⟨n2, r2, a, d⟩
                · exact absurd b c102
              have ht97 := ht91.row (r2 := r2)
              have h39b : mx_row (mx_rd τ w (f_end L x)) 36 r2 39 = r := by rw [mx_row_o (by decide), mx_rd_o (by decide) (by decide)]; exact h39
              refine x_goto dX4_town_105 ?_
              refine x_lvs [3, 4, 5] rfl ?_
              exact ih62 (f_end L x) f_end_lt (f_gd_end hgd).1 (k + 1) n2 r2 _ ht97 h39b (f_st_wf hw1 h51 hgd hs).1 (f_st_wf hw1 h51 hgd hs).2 (by rw [← f_tg_st hgd hst2 hs]; exact hgo) (by have := f_ns_st hgd hst2; omega) (Or.inr (f_gd_end hgd).2)
        exact key62 0 (Nat.zero_le _) 0 n r _ ht59 hm39 hw h5 rfl (Nat.zero_add _) (Or.inl rfl)
    · replace c14 := zb_0 c14
      have hB : f_brk L lm = some (f_rd L lm p).2 := by
        rcases hrd with ⟨a, -⟩ | ⟨-, b⟩
        · rw [c14] at a; exact absurd a (by decide)
        · exact b
      have hq9 := f_brk_le hB
      refine x_sipush (v := -1000) dX4_town_17 (by decide) ?_
      refine x_aload_n 2 dX4_town_20 rfl ?_
      refine gfX4_91 dX4_town_21 ?_
      refine x_top (show (mx_rd τ w (f_rd L lm p).2) 35 10 = nI ((f_rd L lm p).2) from ht11.2.2.2) ?_
      refine x_isub dX4_town_24 ?_
      refine x_istore_n (lv' := [(2, .int ((-1000) - (nI ((f_rd L lm p).2)))), (1, .int (nI c)), (0, mx_rf E 35)]) dX4_town_25 rfl (by decide) rfl ?_
      refine x_iinc (v := nI (c + 1)) (lv' := [(1, .int (nI (c + 1))), (2, .int ((-1000) - (nI ((f_rd L lm p).2)))), (0, mx_rf E 35)]) 1 dX4_town_26 rfl (nI_1 _) (by decide) rfl ?_
      refine x_iload_n 1 dX4_town_29 rfl ?_
      refine x_bipush (v := -9) dX4_town_30 (by decide) ?_
      refine x_icmp_ne dX4_town_32 (fun c32 => ?_) (fun c32 => ?_)
      · refine x_aload_n 2 dX4_town_46 rfl ?_
        refine gfX4_9 dX4_town_47 ?_
        refine x_aload_n 2 dX4_town_50 rfl ?_
        refine gfX4_19 dX4_town_51 ?_
        refine clX4_121 (qX4_copies (by decide) (by decide) (by decide) (by decide) (by decide) ht11.2.2.1) (by decide) rfl dX4_town_54 (fun τ54 h54 => ?_)
        obtain rfl := h54
        have ht54 := ht11.was (r2 := r)
        refine x_aload_n 2 dX4_town_57 rfl ?_
        refine x_iconst (v := 0) dX4_town_58 (by decide) ?_
        refine pfX4_91 dX4_town_59 ?_
        refine x_mem (τ := mx_up (mx_row (mx_rd τ w (f_rd L lm p).2) 39 r) 35 10 (nI 0)) rfl ?_
        have ht59 := ht54.pl (q2 := 0)
        refine x_iload_n 1 dX4_town_62 rfl ?_
        refine x_bipush (v := -9) dX4_town_63 (by decide) ?_
        refine x_icmp_ne dX4_town_65 (fun c65 => ?_) (fun c65 => ?_)
        · refine x_aload_n 2 dX4_town_128 rfl ?_
          refine x_iconst (v := 0) dX4_town_129 (by decide) ?_
          refine pfX4_87 dX4_town_130 ?_
          refine x_iload_n 1 dX4_town_133 rfl ?_
          refine x_bipush (v := -9) dX4_town_134 (by decide) ?_
          refine x_icmp_ne dX4_town_136 (fun c136 => ?_) (fun c136 => ?_)
          · refine x_iload_n 1 dX4_town_143 rfl ?_
            exact x_iret dX4_town_144 (by rw [a_town_s (s := (zs n r hi ni ri lm L rm R f)) hB]; exact ⟨rfl, hM.tm ht59, ht59.fm⟩)
          · exact absurd c136 (f_n1000 (by omega))
        · exact absurd c65 (f_n1000 (by omega))
      · exact absurd c32 (f_n1000 (by omega))
  refine x_lvs [1, 0, 2] rfl ?_
  exact key10 0 (Nat.zero_le _) 0 _ (TM.start h36) (Nat.zero_add _) hb0 hs0 (Or.inl rfl)
