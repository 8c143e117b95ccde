set_option maxHeartbeats 4000000 in
theorem qX4_gcd {E : mx_E} {σ : Mem} {g a0 b0 : Nat} (h : f_gI g 0 a0 b0) : MX4_gcd E 0 [.long (lN a0), .long (lN b0)] σ (mx_le (lN g) σ) := by
  refine MM.of (lv := [(0, .long (lN a0)), (2, .long (lN b0))]) kpX4 rfl (Nat.le_of_ble_eq_true rfl) rfl ?_
  refine x_lload_n 0 dX4_gcd_0 rfl ?_
  refine x_lstore (lv' := [(4, .long (lN a0)), (0, .long (lN a0)), (2, .long (lN b0))]) dX4_gcd_1 rfl (by decide) rfl ?_
  refine x_lload_n 2 dX4_gcd_3 rfl ?_
  refine x_lstore (lv' := [(6, .long (lN b0)), (4, .long (lN a0)), (0, .long (lN a0)), (2, .long (lN b0))]) dX4_gcd_4 rfl (by decide) rfl ?_
  have key6 : ∀ i, i ≤ 1000 → ∀ a b : Nat, f_gI g i a b → MX E 0 RX4 cX4_gcd 10 (some .long) 6 [(6, .long (lN b)), (4, .long (lN a)), (0, .long (lN a0)), (2, .long (lN b0))] [] σ (mx_le (lN g) σ) := by
    refine mx_ind 1000 (fun i hi6 ih6 => ?_)
    intro a b hg
    refine x_lload 0 dX4_gcd_6 rfl ?_
    refine x_lconst (v := lN 0) dX4_gcd_8 rfl ?_
    refine x_lcmp dX4_gcd_9 ?_
    refine x_if_eq dX4_gcd_10 (fun c10 => ?_) (fun c10 => ?_)
    · have hb0 : b = 0 := (lg_lN0 (Nat.lt_trans hg.2.2.2.1 (by decide))).mp c10
      refine x_lload 1 dX4_gcd_31 rfl ?_
      exact x_lret dX4_gcd_33 ⟨by rw [f_gI_e hg hb0], rfl⟩
    · have hb0 : ¬ b = 0 := fun q => c10 ((lg_lN0 (Nat.lt_trans hg.2.2.2.1 (by decide))).mpr q)
      have hlt := f_gI_lt hg hb0
      refine x_lload 1 dX4_gcd_13 rfl ?_
      refine x_lload 0 dX4_gcd_15 rfl ?_
      refine x_lrem dX4_gcd_17 (wN_ne0 (Nat.lt_trans hg.2.2.2.1 (by decide)) (Nat.pos_of_ne_zero hb0)) ?_
      refine x_topL (show lN a % lN b = lN (a % b) from wN_rem (Nat.lt_trans hg.2.2.1 (by decide)) (Nat.lt_trans hg.2.2.2.1 (by decide))) ?_
      refine x_lstore (lv' := [(8, .long (lN (a % b))), (6, .long (lN b)), (4, .long (lN a)), (0, .long (lN a0)), (2, .long (lN b0))]) dX4_gcd_18 rfl (by decide) rfl ?_
      refine x_lload 1 dX4_gcd_20 rfl ?_
      refine x_lstore (lv' := [(4, .long (lN b)), (8, .long (lN (a % b))), (6, .long (lN b)), (0, .long (lN a0)), (2, .long (lN b0))]) dX4_gcd_22 rfl (by decide) rfl ?_
      refine x_lload 1 dX4_gcd_24 rfl ?_
      refine x_lstore (lv' := [(6, .long (lN (a % b))), (4, .long (lN b)), (8, .long (lN (a % b))), (0, .long (lN a0)), (2, .long (lN b0))]) dX4_gcd_26 rfl (by decide) rfl ?_
      refine x_goto dX4_gcd_28 ?_
      refine x_lvs [0, 1, 3, 4] rfl ?_
      exact ih6 (i + 1) (by omega) (by omega) _ _ (f_gI_s hg hb0)
  exact key6 0 (Nat.zero_le _) _ _ h

theorem f_part0 {c : Nat} {what : Int32} (hc : 0 < c) (h : f_in what 0 1 = true) : what.toInt64 = f_part 0 c what := by
  obtain ⟨y, hy, rfl⟩ := f_in_t (hi := 1) (by decide) h
  unfold f_part
  rw [Nat.gcd_zero_right, Nat.div_self hc, Nat.zero_div]
  rcases (show y = 0 ∨ y = 1 by omega) with rfl | rfl
  · rw [if_pos (by rfl)]; rfl
  · rw [if_neg (by decide)]; rfl

set_option maxHeartbeats 4000000 in
theorem qX4_partOf {E : mx_E} {σ : Mem} {a b c : Nat} (ha : a < 2 ^ 40) (hb : b < 2 ^ 40) (h0 : ¬ a = 0 → b = c) (hc : 0 < c) (what : Int32) (hw : f_in what 0 1 = true) : MX4_partOf E 1 [.long (lN a), .long (lN b), .int what] σ (mx_le (f_part a c what) σ) := by
  refine MM.of (lv := [(0, .long (lN a)), (2, .long (lN b)), (4, .int what)]) kpX4 rfl (Nat.le_of_ble_eq_true rfl) rfl ?_
  refine x_lload_n 0 dX4_partOf_0 rfl ?_
  refine x_lconst (v := lN 0) dX4_partOf_1 rfl ?_
  refine x_lcmp dX4_partOf_2 ?_
  refine x_if_ne dX4_partOf_3 (fun c3 => ?_) (fun c3 => ?_)
  · have ha0 : ¬ a = 0 := fun q => c3 ((lg_lN0 (Nat.lt_trans ha (by decide))).mpr q)
    have ebc := h0 ha0
    refine x_iload 2 dX4_partOf_10 rfl ?_
    refine x_if_ne dX4_partOf_12 (fun c12 => ?_) (fun c12 => ?_)
    · refine x_lload_n 1 dX4_partOf_19 rfl ?_
      refine x_lload_n 0 dX4_partOf_20 rfl ?_
      refine x_lload_n 1 dX4_partOf_21 rfl ?_
      refine clX4_184 (qX4_gcd (f_gI_0 ha hb (Nat.pos_of_ne_zero ha0))) (by decide) rfl dX4_partOf_22 (fun r22 τ22 h22 => ?_)
      obtain ⟨rfl, rfl⟩ := h22
      refine x_ldiv dX4_partOf_25 (wN_ne0 (Nat.lt_of_le_of_lt (Nat.gcd_le_left _ (Nat.pos_of_ne_zero ha0)) (Nat.lt_trans ha (by decide))) (Nat.gcd_pos_of_pos_left _ (Nat.pos_of_ne_zero ha0))) ?_
      refine x_topL (show lN b / lN (Nat.gcd a b) = lN (b / (Nat.gcd a b)) from wN_div (Nat.lt_trans (by assumption) (by decide)) (Nat.lt_of_le_of_lt (Nat.gcd_le_left _ (Nat.pos_of_ne_zero ha0)) (Nat.lt_trans ha (by decide)))) ?_
      exact x_lret dX4_partOf_26 ⟨by unfold f_part; rw [if_neg c12, Nat.gcd_comm, ebc], rfl⟩
    · refine x_lload_n 0 dX4_partOf_15 rfl ?_
      refine x_goto dX4_partOf_16 ?_
      refine x_lload_n 0 dX4_partOf_20 rfl ?_
      refine x_lload_n 1 dX4_partOf_21 rfl ?_
      refine clX4_184 (qX4_gcd (f_gI_0 ha hb (Nat.pos_of_ne_zero ha0))) (by decide) rfl dX4_partOf_22 (fun r22 τ22 h22 => ?_)
      obtain ⟨rfl, rfl⟩ := h22
      refine x_ldiv dX4_partOf_25 (wN_ne0 (Nat.lt_of_le_of_lt (Nat.gcd_le_left _ (Nat.pos_of_ne_zero ha0)) (Nat.lt_trans ha (by decide))) (Nat.gcd_pos_of_pos_left _ (Nat.pos_of_ne_zero ha0))) ?_
      refine x_topL (show lN a / lN (Nat.gcd a b) = lN (a / (Nat.gcd a b)) from wN_div (Nat.lt_trans (by assumption) (by decide)) (Nat.lt_of_le_of_lt (Nat.gcd_le_left _ (Nat.pos_of_ne_zero ha0)) (Nat.lt_trans ha (by decide)))) ?_
      exact x_lret dX4_partOf_26 ⟨by unfold f_part; rw [if_pos c12, Nat.gcd_comm, ebc], rfl⟩
  · have ha0 : a = 0 := (lg_lN0 (Nat.lt_trans ha (by decide))).mp (by first | exact c3 | exact Decidable.not_not.mp c3)
    refine x_iload 2 dX4_partOf_6 rfl ?_
    refine x_i2l dX4_partOf_8 ?_
    exact x_lret dX4_partOf_9 ⟨by rw [ha0]; exact (f_part0 hc hw).symm, rfl⟩

set_option maxHeartbeats 4000000 in
theorem qX4_mean {E : mx_E} {σ : Mem} {n : Nat} {r : Row} (h36 : σ 36 = r) (hw : wf n r) (what : Int32) : MX4_mean E 2 [mx_rf E 35, .int what] σ (mx_l (fun v τ => (p_mean n r what).1 = v ∧ Qm (p_mean n r what).2 σ τ)) := by
  refine MM.of (lv := [(0, mx_rf E 35), (1, .int what)]) kpX4 rfl (Nat.le_of_ble_eq_true rfl) rfl ?_
  have hn6 := hw.1
  obtain ⟨p, hp, ep⟩ := f_pplU_N hw n (Nat.le_refl n)
  have epc : (f_pplU r n).toNatClampNeg = p := by rw [ep]; exact nI_clamp (by omega)
  have hm1 : 1 ≤ Nat.max 1 n := Nat.le_max_left 1 n
  refine x_iload_n 1 dX4_mean_0 rfl ?_
  refine x_iconst (v := 0) dX4_mean_1 (by decide) ?_
  refine x_iconst (v := 1) dX4_mean_2 (by decide) ?_
  refine clX4_40 (qX4_isIn what 0 1) (by decide) rfl dX4_mean_3 (fun r3 τ3 h3 => ?_)
  obtain ⟨rfl, rfl⟩ := h3
  refine x_if_eq dX4_mean_6 (fun c6 => ?_) (fun c6 => ?_)
  · replace c6 := zb_0 c6
    refine x_aload_n 0 dX4_mean_31 rfl ?_
    refine x_bipush (v := -2) dX4_mean_32 (by decide) ?_
    refine clX4_188 (qX4_noWide 2 (by decide) (by decide)) (by decide) rfl dX4_mean_34 (fun r34 τ34 h34 => ?_)
    obtain ⟨rfl, rfl⟩ := h34
    exact x_lret dX4_mean_37 (by rw [show p_mean n r what = (4000000000000000000 - (-nI 2).toInt64, 2) from by simp [p_mean, c6]]; exact ⟨rfl, Qm.no⟩)
  · replace c6 := zb_1 c6
    refine x_aload_n 0 dX4_mean_9 rfl ?_
    refine gfX4_9 dX4_mean_10 ?_
    refine clX4_196 (gX4_allPeople (by decide) (by decide) h36 n hn6 hw.2.1) (by decide) rfl dX4_mean_13 (fun r13 τ13 h13 => ?_)
    obtain ⟨rfl, rfl⟩ := h13
    refine x_top (show f_pplU r n = nI p from ep) ?_
    refine x_i2l dX4_mean_16 ?_
    refine x_topL (show (nI p : Int32).toInt64 = lN p from wN_int (n := p) (by omega)) ?_
    refine x_aload_n 0 dX4_mean_17 rfl ?_
    refine gfX4_9 dX4_mean_18 ?_
    refine x_iconst (v := 0) dX4_mean_21 (by decide) ?_
    refine x_ialdS (j := 0) (by decide) (by decide) (by decide) dX4_mean_22 ?_
    refine x_top (show σ 36 0 = nI n from ((congrFun h36 0).trans hw.2.1)) ?_
    refine x_i2l dX4_mean_23 ?_
    refine x_topL (show (nI n : Int32).toInt64 = lN n from wN_int (n := n) (by omega)) ?_
    refine x_iload_n 1 dX4_mean_24 rfl ?_
    refine clX4_192 (qX4_partOf (Nat.lt_of_le_of_lt hp (Nat.lt_of_le_of_lt (Nat.mul_le_mul_left 30 hn6) (by decide))) (Nat.lt_of_le_of_lt hn6 (by decide)) (fun q => (Nat.max_eq_right (by omega)).symm) hm1 what c6) (by decide) rfl dX4_mean_25 (fun r25 τ25 h25 => ?_)
    obtain ⟨rfl, rfl⟩ := h25
    refine x_goto dX4_mean_28 ?_
    exact x_lret dX4_mean_37 (by rw [show p_mean n r what = (f_part p (Nat.max 1 n) what, 0) from by unfold p_mean; rw [c6, if_pos rfl, epc]]; exact ⟨rfl, Qm.rf⟩)

theorem f_ch_T {d s j : Nat} (c : f_bit s j = true) : f_ch d s j * 1 = f_ch d s (j + 1) := by
  show _ = f_ch d s j * _
  rw [if_pos c]
theorem f_ch_F {d s j : Nat} (c : f_bit s j = false) : f_ch d s j * d = f_ch d s (j + 1) := by
  show _ = f_ch d s j * _
  rw [if_neg (by rw [c]; decide)]
theorem f_gsM_T {n h t d s j : Nat} {r : Row} (hj : j = t) (c : f_kept (f_gs n r h s j) h = true) : f_gsum n r h t d s + f_ch d s j = f_gsum n r h t d (s + 1) := by
  subst hj
  show _ = f_gsum n r h j d s + _
  rw [if_pos c]
theorem f_gsM_F {n h t d s j : Nat} {r : Row} (hj : j = t) (c : f_kept (f_gs n r h s j) h = false) : f_gsum n r h t d s + 0 = f_gsum n r h t d (s + 1) := by
  subst hj
  show _ = f_gsum n r h j d s + _
  rw [if_neg (by rw [c]; decide)]

set_option maxHeartbeats 4000000 in
theorem qX4_guest {E : mx_E} {σ : Mem} {n : Nat} {r : Row} (h36 : σ 36 = r) (hw : wf n r) (house t odds what : Int32) : MX4_guest E 7 [mx_rf E 35, .int house, .int t, .int odds, .int what] σ (mx_l (fun v τ => (p_guest n r house t odds what).1 = v ∧ Qm (p_guest n r house t odds what).2 σ τ)) := by
  refine MM.of (lv := [(0, mx_rf E 35), (1, .int house), (2, .int t), (3, .int odds), (4, .int what)]) kpX4 rfl (Nat.le_of_ble_eq_true rfl) rfl ?_
  have hn6 := hw.1
  refine x_mem (τ := mx_row σ 37 (σ 37)) (mx_row_self σ 37).symm ?_
  refine x_aload_n 0 dX4_guest_0 rfl ?_
  refine x_iload_n 1 dX4_guest_1 rfl ?_
  refine clX4_111 (qX4_isHouse ((mx_row_o (by decide)).trans h36) hw house) (by decide) rfl dX4_guest_2 (fun r2 τ2 h2 => ?_)
  obtain ⟨rfl, rfl⟩ := h2
  refine x_if_ne dX4_guest_5 (fun c5 => ?_) (fun c5 => ?_)
  · replace c5 := zb_1 c5
    obtain ⟨h, hh, rfl⟩ := f_inN_t (by omega) c5
    refine x_iload_n 2 dX4_guest_14 rfl ?_
    refine x_if_lt dX4_guest_15 (fun c15 => ?_) (fun c15 => ?_)
    · refine x_aload_n 0 dX4_guest_23 rfl ?_
      refine x_bipush (v := -4) dX4_guest_24 (by decide) ?_
      refine clX4_188 (qX4_noWide 4 (by decide) (by decide)) (by decide) rfl dX4_guest_26 (fun r26 τ26 h26 => ?_)
      obtain ⟨rfl, rfl⟩ := h26
      exact x_lret dX4_guest_29 (by rw [show p_guest n r (nI h) t odds what = (4000000000000000000 - (-nI 4).toInt64, 4) from by simp [p_guest, c5, c15, (Int32.not_le.mpr c15), nI_clamp (show h < 2 ^ 31 by omega)]]; exact ⟨rfl, by rw [mx_row_self]; exact Qm.no⟩)
    · refine x_iload_n 3 dX4_guest_18 rfl ?_
      refine x_iconst (v := 2) dX4_guest_19 (by decide) ?_
      refine x_icmp_ge dX4_guest_20 (fun c20 => ?_) (fun c20 => ?_)
      · obtain ⟨t1, -, ht31, rfl⟩ := f_lo (a := 0) c15 (by decide)
        obtain ⟨od, ho2, ho31, rfl⟩ := f_lo (a := 2) (Int32.not_lt.mpr c20) (by decide)
        refine x_iload_n 2 dX4_guest_30 rfl ?_
        refine x_bipush (v := 7) dX4_guest_31 (by decide) ?_
        refine x_icmp_gt dX4_guest_33 (fun c33 => ?_) (fun c33 => ?_)
        · refine x_aload_n 0 dX4_guest_42 rfl ?_
          refine x_bipush (v := -6) dX4_guest_43 (by decide) ?_
          refine clX4_188 (qX4_noWide 6 (by decide) (by decide)) (by decide) rfl dX4_guest_45 (fun r45 τ45 h45 => ?_)
          obtain ⟨rfl, rfl⟩ := h45
          exact x_lret dX4_guest_48 (by rw [show p_guest n r (nI h) (nI t1) (nI od) what = (4000000000000000000 - (-nI 6).toInt64, 6) from by simp [p_guest, c5, c15, (Int32.not_lt.mp c15), c20, (Int32.not_lt.mpr c20), c33, (Int32.not_le.mpr c33), nI_clamp (show h < 2 ^ 31 by omega)]]; exact ⟨rfl, by rw [mx_row_self]; exact Qm.no⟩)
        · refine x_iload_n 3 dX4_guest_36 rfl ?_
          refine x_bipush (v := 20) dX4_guest_37 (by decide) ?_
          refine x_icmp_le dX4_guest_39 (fun c39 => ?_) (fun c39 => ?_)
          · have ht : t1 ≤ 7 := nI_nlt_le (b := 7) (by omega) (by decide) c33
            have hod : od ≤ 20 := nI_le_of (a := 20) (by omega) (by decide) c39
            have h2t : 2 ^ t1 ≤ 2 ^ 7 := Nat.pow_le_pow_right (by decide) ht
            refine x_iload 4 dX4_guest_49 rfl ?_
            refine x_iconst (v := 0) dX4_guest_51 (by decide) ?_
            refine x_iconst (v := 1) dX4_guest_52 (by decide) ?_
            refine clX4_40 (qX4_isIn what 0 1) (by decide) rfl dX4_guest_53 (fun r53 τ53 h53 => ?_)
            obtain ⟨rfl, rfl⟩ := h53
            refine x_if_ne dX4_guest_56 (fun c56 => ?_) (fun c56 => ?_)
            · replace c56 := zb_1 c56
              refine x_lconst (v := lN 0) dX4_guest_66 rfl ?_
              refine x_lstore (lv' := [(5, .long (lN 0)), (0, mx_rf E 35), (1, .int (nI h)), (2, .int (nI t1)), (3, .int (nI od)), (4, .int what)]) dX4_guest_67 rfl (by decide) rfl ?_
              refine x_lconst (v := lN 1) dX4_guest_69 rfl ?_
              refine x_lstore (lv' := [(7, .long (lN 1)), (5, .long (lN 0)), (0, mx_rf E 35), (1, .int (nI h)), (2, .int (nI t1)), (3, .int (nI od)), (4, .int what)]) dX4_guest_70 rfl (by decide) rfl ?_
              refine x_iconst (v := 0) dX4_guest_72 (by decide) ?_
              refine x_istore (lv' := [(9, .int 0), (7, .long (lN 1)), (5, .long (lN 0)), (0, mx_rf E 35), (1, .int (nI h)), (2, .int (nI t1)), (3, .int (nI od)), (4, .int what)]) dX4_guest_73 rfl (by decide) rfl ?_
              have key75 : ∀ i, i ≤ t1 → MX E 7 RX4 cX4_guest 13 (some .long) 75 [(9, .int (nI i)), (7, .long (lN (od ^ i))), (5, .long (lN 0)), (0, mx_rf E 35), (1, .int (nI h)), (2, .int (nI t1)), (3, .int (nI od)), (4, .int what)] [] (mx_row σ 37 (σ 37)) (mx_l (fun v τ => (p_guest n r (nI h) (nI t1) (nI od) what).1 = v ∧ Qm (p_guest n r (nI h) (nI t1) (nI od) what).2 σ τ)) := by
                refine mx_ind t1 (fun i hi75 ih75 => ?_)
                refine x_iload 0 dX4_guest_75 rfl ?_
                refine x_iload_n 5 dX4_guest_77 rfl ?_
                refine x_icmp_ge dX4_guest_78 (fun c78 => ?_) (fun c78 => ?_)
                · have hge := nI_le_of (by omega) (by omega) c78
                  have hit : i = t1 := by omega
                  refine x_iconst (v := 0) dX4_guest_94 (by decide) ?_
                  refine x_istore (lv' := [(9, .int 0), (7, .long (lN (od ^ i))), (5, .long (lN 0)), (0, mx_rf E 35), (1, .int (nI h)), (2, .int (nI t1)), (3, .int (nI od)), (4, .int what)]) dX4_guest_95 rfl (by decide) rfl ?_
                  have key97 : ∀ s, s ≤ 2 ^ t1 → ∀ q : Row, MX E 7 RX4 cX4_guest 13 (some .long) 97 [(9, .int (nI s)), (7, .long (lN (od ^ i))), (5, .long (lN (f_gsum n r h t1 (od - 1) s))), (0, mx_rf E 35), (1, .int (nI h)), (2, .int (nI t1)), (3, .int (nI od)), (4, .int what)] [] (mx_row σ 37 q) (mx_l (fun v τ => (p_guest n r (nI h) (nI t1) (nI od) what).1 = v ∧ Qm (p_guest n r (nI h) (nI t1) (nI od) what).2 σ τ)) := by
                    refine mx_ind (2 ^ t1) (fun s hi97 ih97 => ?_)
                    intro q
                    refine x_iload 0 dX4_guest_97 rfl ?_
                    refine x_iconst (v := 1) dX4_guest_99 (by decide) ?_
                    refine x_iload_n 5 dX4_guest_100 rfl ?_
                    refine x_ishl dX4_guest_101 ?_
                    refine x_top (show 1 <<< ((nI t1) &&& 31) = nI (2 ^ t1) from (f_shl7 ht)) ?_
                    refine x_icmp_ge dX4_guest_102 (fun c102 => ?_) (fun c102 => ?_)
                    · have hge2 := nI_le_of (by omega) (by omega) c102
                      have hst : 2 ^ t1 = s := by omega
                      refine x_lload 2 dX4_guest_244 rfl ?_
                      refine x_lload 1 dX4_guest_246 rfl ?_
                      refine x_iload 7 dX4_guest_248 rfl ?_
                      refine clX4_192 (qX4_partOf (by rw [← hst]; exact f_gsum_lt (by omega) ht) (f_gpow hod (by omega)) (fun _ => rfl) (Nat.pow_pos (by omega)) what c56) (by decide) rfl dX4_guest_250 (fun r250 τ250 h250 => ?_)
                      obtain ⟨rfl, rfl⟩ := h250
                      exact x_lret dX4_guest_253 (by rw [show p_guest n r (nI h) (nI t1) (nI od) what = (f_part (f_gsum n r h t1 (od - 1) s) (od ^ i) what, 0) from by unfold p_guest; rw [if_pos c5, if_neg (not_or.mpr ⟨c15, Int32.not_lt.mpr c20⟩), if_neg (not_or.mpr ⟨c33, Int32.not_lt.mpr c39⟩), if_pos c56, nI_clamp (show h < 2 ^ 31 by omega), nI_clamp ht31, nI_clamp ho31, hst, hit]]; exact ⟨rfl, (Qm.rf.row (Or.inl rfl))⟩)
                    · have hs := nI_lt_of (by omega) (by omega) c102
                      refine x_lconst (v := lN 1) dX4_guest_105 rfl ?_
                      refine x_lstore (lv' := [(10, .long (lN 1)), (9, .int (nI s)), (7, .long (lN (od ^ i))), (5, .long (lN (f_gsum n r h t1 (od - 1) s))), (0, mx_rf E 35), (1, .int (nI h)), (2, .int (nI t1)), (3, .int (nI od)), (4, .int what)]) dX4_guest_106 rfl (by decide) rfl ?_
                      refine x_aload_n 4 dX4_guest_108 rfl ?_
                      refine gfX4_9 dX4_guest_109 ?_
                      refine x_aload_n 4 dX4_guest_112 rfl ?_
                      refine gfX4_13 dX4_guest_113 ?_
                      refine clX4_121 (qX4_copies (by decide) (by decide) (by decide) (by decide) (by decide) ((mx_row_o (by decide)).trans h36)) (by decide) rfl dX4_guest_116 (fun τ116 h116 => ?_)
                      obtain rfl := h116
                      refine x_mem (mx_row_row _ _ _ _) ?_
                      refine x_iconst (v := 0) dX4_guest_119 (by decide) ?_
                      refine x_istore (lv' := [(12, .int 0), (10, .long (lN 1)), (9, .int (nI s)), (7, .long (lN (od ^ i))), (5, .long (lN (f_gsum n r h t1 (od - 1) s))), (0, mx_rf E 35), (1, .int (nI h)), (2, .int (nI t1)), (3, .int (nI od)), (4, .int what)]) dX4_guest_120 rfl (by decide) rfl ?_
                      have key122 : ∀ j, j ≤ t1 → MX E 7 RX4 cX4_guest 13 (some .long) 122 [(12, .int (nI j)), (10, .long (lN (f_ch (od - 1) s j))), (9, .int (nI s)), (7, .long (lN (od ^ i))), (5, .long (lN (f_gsum n r h t1 (od - 1) s))), (0, mx_rf E 35), (1, .int (nI h)), (2, .int (nI t1)), (3, .int (nI od)), (4, .int what)] [] (mx_row σ 37 (f_gs n r h s j)) (mx_l (fun v τ => (p_guest n r (nI h) (nI t1) (nI od) what).1 = v ∧ Qm (p_guest n r (nI h) (nI t1) (nI od) what).2 σ τ)) := by
                        refine mx_ind t1 (fun j hi122 ih122 => ?_)
                        refine x_iload 0 dX4_guest_122 rfl ?_
                        refine x_iload_n 7 dX4_guest_124 rfl ?_
                        refine x_icmp_ge dX4_guest_125 (fun c125 => ?_) (fun c125 => ?_)
                        · have hge2 := nI_le_of (by omega) (by omega) c125
                          have hjt : j = t1 := by omega
                          refine x_lload 4 dX4_guest_214 rfl ?_
                          refine x_aload_n 5 dX4_guest_216 rfl ?_
                          refine gfX4_13 dX4_guest_217 ?_
                          refine x_iconst (v := 4) dX4_guest_220 (by decide) ?_
                          refine x_ialdS (j := 4) (by decide) (by decide) (by decide) dX4_guest_221 ?_
                          refine x_top (show (mx_row σ 37 (f_gs n r h s j)) 37 4 = (f_gs n r h s j) 4 from (congrFun mx_row_s _)) ?_
                          refine x_iload_n 6 dX4_guest_222 rfl ?_
                          refine clX4_48 (qX4_has ((f_gs n r h s j) 4) (nI h)) (by decide) rfl dX4_guest_223 (fun r223 τ223 h223 => ?_)
                          obtain ⟨rfl, rfl⟩ := h223
                          refine x_if_eq dX4_guest_226 (fun c226 => ?_) (fun c226 => ?_)
                          · replace c226 := zb_0 c226
                            refine x_lconst (v := lN 0) dX4_guest_234 rfl ?_
                            refine x_ladd dX4_guest_235 ?_
                            refine x_topL (show (lN (f_gsum n r h t1 (od - 1) s)) + (lN 0) = lN (f_gsum n r h t1 (od - 1) s + 0) from wN_add _ _) ?_
                            refine x_lstore (lv' := [(5, .long (lN (f_gsum n r h t1 (od - 1) s + 0))), (12, .int (nI j)), (10, .long (lN (f_ch (od - 1) s j))), (9, .int (nI s)), (7, .long (lN (od ^ i))), (0, mx_rf E 35), (1, .int (nI h)), (2, .int (nI t1)), (3, .int (nI od)), (4, .int what)]) dX4_guest_236 rfl (by decide) rfl ?_
                            refine x_iinc (v := nI (s + 1)) (lv' := [(9, .int (nI (s + 1))), (5, .long (lN (f_gsum n r h t1 (od - 1) s + 0))), (12, .int (nI j)), (10, .long (lN (f_ch (od - 1) s j))), (7, .long (lN (od ^ i))), (0, mx_rf E 35), (1, .int (nI h)), (2, .int (nI t1)), (3, .int (nI od)), (4, .int what)]) 3 dX4_guest_238 rfl (nI_1 _) (by decide) rfl ?_
                            refine x_goto dX4_guest_241 ?_
                            refine x_lvs [0, 4, 1, 5, 6, 7, 8, 9] rfl ?_
                            exact nat_eq (P := fun x => MX E _ _ _ _ _ _ [(9, .int (nI (s + 1))), (7, .long (lN (od ^ i))), (5, .long (lN x)), (0, mx_rf E 35), (1, .int (nI h)), (2, .int (nI t1)), (3, .int (nI od)), (4, .int what)] _ _ _) ((f_gsM_F hjt c226).symm) (ih97 (s + 1) (by omega) (by omega) _)
                          · replace c226 := zb_1 c226
                            refine x_lload 1 dX4_guest_229 rfl ?_
                            refine x_goto dX4_guest_231 ?_
                            refine x_ladd dX4_guest_235 ?_
                            refine x_topL (show (lN (f_gsum n r h t1 (od - 1) s)) + (lN (f_ch (od - 1) s j)) = lN (f_gsum n r h t1 (od - 1) s + (f_ch (od - 1) s j)) from wN_add _ _) ?_
                            refine x_lstore (lv' := [(5, .long (lN (f_gsum n r h t1 (od - 1) s + (f_ch (od - 1) s j)))), (12, .int (nI j)), (10, .long (lN (f_ch (od - 1) s j))), (9, .int (nI s)), (7, .long (lN (od ^ i))), (0, mx_rf E 35), (1, .int (nI h)), (2, .int (nI t1)), (3, .int (nI od)), (4, .int what)]) dX4_guest_236 rfl (by decide) rfl ?_
                            refine x_iinc (v := nI (s + 1)) (lv' := [(9, .int (nI (s + 1))), (5, .long (lN (f_gsum n r h t1 (od - 1) s + (f_ch (od - 1) s j)))), (12, .int (nI j)), (10, .long (lN (f_ch (od - 1) s j))), (7, .long (lN (od ^ i))), (0, mx_rf E 35), (1, .int (nI h)), (2, .int (nI t1)), (3, .int (nI od)), (4, .int what)]) 3 dX4_guest_238 rfl (nI_1 _) (by decide) rfl ?_
                            refine x_goto dX4_guest_241 ?_
                            refine x_lvs [0, 4, 1, 5, 6, 7, 8, 9] rfl ?_
                            exact nat_eq (P := fun x => MX E _ _ _ _ _ _ [(9, .int (nI (s + 1))), (7, .long (lN (od ^ i))), (5, .long (lN x)), (0, mx_rf E 35), (1, .int (nI h)), (2, .int (nI t1)), (3, .int (nI od)), (4, .int what)] _ _ _) ((f_gsM_T hjt c226).symm) (ih97 (s + 1) (by omega) (by omega) _)
                        · have hj := nI_lt_of (by omega) (by omega) c125
                          refine x_lload 1 dX4_guest_128 rfl ?_
                          refine x_iload 2 dX4_guest_130 rfl ?_
                          refine x_iload 0 dX4_guest_132 rfl ?_
                          refine clX4_48 (qX4_has (nI s) (nI j)) (by decide) rfl dX4_guest_134 (fun r134 τ134 h134 => ?_)
                          obtain ⟨rfl, rfl⟩ := h134
                          refine x_if_eq dX4_guest_137 (fun c137 => ?_) (fun c137 => ?_)
                          · replace c137 := zb_0 c137
                            refine x_iload_n 8 dX4_guest_144 rfl ?_
                            refine x_iconst (v := 1) dX4_guest_145 (by decide) ?_
                            refine x_isub dX4_guest_146 ?_
                            refine x_top (show (nI od) - 1 = nI (od - 1) from (pk_sub (show 1 ≤ od by omega))) ?_
                            refine x_i2l dX4_guest_147 ?_
                            refine x_topL (show (nI (od - 1) : Int32).toInt64 = lN (od - 1) from wN_int (n := od - 1) (by omega)) ?_
                            refine x_lmul dX4_guest_148 ?_
                            refine x_topL (show (lN (f_ch (od - 1) s j)) * (lN (od - 1)) = lN ((f_ch (od - 1) s j) * (od - 1)) from wN_mul _ _) ?_
                            refine x_topL (show lN ((f_ch (od - 1) s j) * (od - 1)) = lN (f_ch (od - 1) s (j + 1)) from (congrArg lN (f_ch_F c137))) ?_
                            refine x_lstore (lv' := [(10, .long (lN (f_ch (od - 1) s (j + 1)))), (12, .int (nI j)), (9, .int (nI s)), (7, .long (lN (od ^ i))), (5, .long (lN (f_gsum n r h t1 (od - 1) s))), (0, mx_rf E 35), (1, .int (nI h)), (2, .int (nI t1)), (3, .int (nI od)), (4, .int what)]) dX4_guest_149 rfl (by decide) rfl ?_
                            refine x_iload 2 dX4_guest_151 rfl ?_
                            refine x_iload 1 dX4_guest_153 rfl ?_
                            refine clX4_48 (qX4_has (nI s) (nI j)) (by decide) rfl dX4_guest_155 (fun r155 τ155 h155 => ?_)
                            obtain ⟨rfl, rfl⟩ := h155
                            refine x_if_eq dX4_guest_158 (fun c158 => ?_) (fun c158 => ?_)
                            · replace c158 := zb_0 c158
                              refine x_aload_n 5 dX4_guest_201 rfl ?_
                              refine gfX4_13 dX4_guest_202 ?_
                              refine clX4_83 (gX4_week (by decide) (by decide) mx_row_s n (wf_gs hw h s j)) (by decide) rfl dX4_guest_205 (fun τ205 h205 => ?_)
                              obtain rfl := h205
                              refine x_mem (mx_row_row _ _ _ _) ?_
                              refine x_mem (τ := mx_row σ 37 (f_gs n r h s (j + 1))) (congrArg (mx_row σ 37) (show f_week n (f_gs n r h s j) = f_gs n r h s (j + 1) from (f_gs_1 c158).symm)) ?_
                              refine x_iinc (v := nI (j + 1)) (lv' := [(12, .int (nI (j + 1))), (10, .long (lN (f_ch (od - 1) s (j + 1)))), (9, .int (nI s)), (7, .long (lN (od ^ i))), (5, .long (lN (f_gsum n r h t1 (od - 1) s))), (0, mx_rf E 35), (1, .int (nI h)), (2, .int (nI t1)), (3, .int (nI od)), (4, .int what)]) 1 dX4_guest_208 rfl (nI_1 _) (by decide) rfl ?_
                              refine x_goto dX4_guest_211 ?_
                              exact ih122 (j + 1) (by omega) (by omega)
                            · replace c158 := zb_1 c158
                              refine x_aload_n 5 dX4_guest_161 rfl ?_
                              refine gfX4_13 dX4_guest_162 ?_
                              refine x_iconst (v := 4) dX4_guest_165 (by decide) ?_
                              refine x_ialdS (j := 4) (by decide) (by decide) (by decide) dX4_guest_166 ?_
                              refine x_top (show (mx_row σ 37 (f_gs n r h s j)) 37 4 = (f_gs n r h s j) 4 from (congrFun mx_row_s _)) ?_
                              refine x_iload_n 6 dX4_guest_167 rfl ?_
                              refine clX4_48 (qX4_has ((f_gs n r h s j) 4) (nI h)) (by decide) rfl dX4_guest_168 (fun r168 τ168 h168 => ?_)
                              obtain ⟨rfl, rfl⟩ := h168
                              refine x_if_eq dX4_guest_171 (fun c171 => ?_) (fun c171 => ?_)
                              · replace c171 := zb_0 c171
                                refine x_aload_n 5 dX4_guest_201 rfl ?_
                                refine gfX4_13 dX4_guest_202 ?_
                                refine clX4_83 (gX4_week (by decide) (by decide) mx_row_s n (wf_gs hw h s j)) (by decide) rfl dX4_guest_205 (fun τ205 h205 => ?_)
                                obtain rfl := h205
                                refine x_mem (mx_row_row _ _ _ _) ?_
                                refine x_mem (τ := mx_row σ 37 (f_gs n r h s (j + 1))) (congrArg (mx_row σ 37) (show f_week n (f_gs n r h s j) = f_gs n r h s (j + 1) from (f_gs_2 c171).symm)) ?_
                                refine x_iinc (v := nI (j + 1)) (lv' := [(12, .int (nI (j + 1))), (10, .long (lN (f_ch (od - 1) s (j + 1)))), (9, .int (nI s)), (7, .long (lN (od ^ i))), (5, .long (lN (f_gsum n r h t1 (od - 1) s))), (0, mx_rf E 35), (1, .int (nI h)), (2, .int (nI t1)), (3, .int (nI od)), (4, .int what)]) 1 dX4_guest_208 rfl (nI_1 _) (by decide) rfl ?_
                                refine x_goto dX4_guest_211 ?_
                                exact ih122 (j + 1) (by omega) (by omega)
                              · replace c171 := zb_1 c171
                                refine x_aload_n 5 dX4_guest_174 rfl ?_
                                refine gfX4_13 dX4_guest_175 ?_
                                refine x_iload_n 6 dX4_guest_178 rfl ?_
                                refine x_iconst (v := 5) dX4_guest_179 (by decide) ?_
                                refine clX4_44 (qX4_of h 5) (by decide) rfl dX4_guest_180 (fun r180 τ180 h180 => ?_)
                                obtain ⟨rfl, rfl⟩ := h180
                                refine x_bipush (v := 9) dX4_guest_183 (by decide) ?_
                                refine x_aload_n 5 dX4_guest_185 rfl ?_
                                refine gfX4_13 dX4_guest_186 ?_
                                refine x_iload_n 6 dX4_guest_189 rfl ?_
                                refine x_iconst (v := 5) dX4_guest_190 (by decide) ?_
                                refine clX4_44 (qX4_of h 5) (by decide) rfl dX4_guest_191 (fun r191 τ191 h191 => ?_)
                                obtain ⟨rfl, rfl⟩ := h191
                                refine x_ialdS (j := 6 + 6 * h + 5) (by decide) (by decide) (by omega) dX4_guest_194 ?_
                                refine x_top (show (mx_row σ 37 (f_gs n r h s j)) 37 (6 + 6 * h + 5) = (f_gs n r h s j) (6 + 6 * h + 5) from (congrFun mx_row_s _)) ?_
                                refine x_iconst (v := 1) dX4_guest_195 (by decide) ?_
                                refine x_iadd dX4_guest_196 ?_
                                refine clX4_66 (qX4_least 9 (((f_gs n r h s j) (6 + 6 * h + 5)) + 1)) (by decide) rfl dX4_guest_197 (fun r197 τ197 h197 => ?_)
                                obtain ⟨rfl, rfl⟩ := h197
                                refine x_iastR (j := 6 + 6 * h + 5) (by decide) (by decide) (by omega) dX4_guest_200 ?_
                                refine x_mem (τ := mx_row σ 37 (upd (f_gs n r h s j) (6 + 6 * h + 5) (f_least 9 (f_gs n r h s j (6 + 6 * h + 5) + 1)))) (congrArg (mx_row σ 37) (show upd (f_gs n r h s j) (6 + 6 * h + 5) (f_least 9 (((f_gs n r h s j) (6 + 6 * h + 5)) + 1)) = upd (f_gs n r h s j) (6 + 6 * h + 5) (f_least 9 (f_gs n r h s j (6 + 6 * h + 5) + 1)) from rfl)) ?_
                                refine x_aload_n 5 dX4_guest_201 rfl ?_
                                refine gfX4_13 dX4_guest_202 ?_
                                refine clX4_83 (gX4_week (by decide) (by decide) mx_row_s n (wf_dent (wf_gs hw h s j))) (by decide) rfl dX4_guest_205 (fun τ205 h205 => ?_)
                                obtain rfl := h205
                                refine x_mem (mx_row_row _ _ _ _) ?_
                                refine x_mem (τ := mx_row σ 37 (f_gs n r h s (j + 1))) (congrArg (mx_row σ 37) (show f_week n (upd (f_gs n r h s j) (6 + 6 * h + 5) (f_least 9 (f_gs n r h s j (6 + 6 * h + 5) + 1))) = f_gs n r h s (j + 1) from (f_gs_T c158 c171).symm)) ?_
                                refine x_iinc (v := nI (j + 1)) (lv' := [(12, .int (nI (j + 1))), (10, .long (lN (f_ch (od - 1) s (j + 1)))), (9, .int (nI s)), (7, .long (lN (od ^ i))), (5, .long (lN (f_gsum n r h t1 (od - 1) s))), (0, mx_rf E 35), (1, .int (nI h)), (2, .int (nI t1)), (3, .int (nI od)), (4, .int what)]) 1 dX4_guest_208 rfl (nI_1 _) (by decide) rfl ?_
                                refine x_goto dX4_guest_211 ?_
                                exact ih122 (j + 1) (by omega) (by omega)
                          · replace c137 := zb_1 c137
                            refine x_lconst (v := lN 1) dX4_guest_140 rfl ?_
                            refine x_goto dX4_guest_141 ?_
                            refine x_lmul dX4_guest_148 ?_
                            refine x_topL (show (lN (f_ch (od - 1) s j)) * (lN 1) = lN ((f_ch (od - 1) s j) * 1) from wN_mul _ _) ?_
                            refine x_topL (show lN ((f_ch (od - 1) s j) * 1) = lN (f_ch (od - 1) s (j + 1)) from (congrArg lN (f_ch_T c137))) ?_
                            refine x_lstore (lv' := [(10, .long (lN (f_ch (od - 1) s (j + 1)))), (12, .int (nI j)), (9, .int (nI s)), (7, .long (lN (od ^ i))), (5, .long (lN (f_gsum n r h t1 (od - 1) s))), (0, mx_rf E 35), (1, .int (nI h)), (2, .int (nI t1)), (3, .int (nI od)), (4, .int what)]) dX4_guest_149 rfl (by decide) rfl ?_
                            refine x_iload 2 dX4_guest_151 rfl ?_
                            refine x_iload 1 dX4_guest_153 rfl ?_
                            refine clX4_48 (qX4_has (nI s) (nI j)) (by decide) rfl dX4_guest_155 (fun r155 τ155 h155 => ?_)
                            obtain ⟨rfl, rfl⟩ := h155
                            refine x_if_eq dX4_guest_158 (fun c158 => ?_) (fun c158 => ?_)
                            · replace c158 := zb_0 c158
                              refine x_aload_n 5 dX4_guest_201 rfl ?_
                              refine gfX4_13 dX4_guest_202 ?_
                              refine clX4_83 (gX4_week (by decide) (by decide) mx_row_s n (wf_gs hw h s j)) (by decide) rfl dX4_guest_205 (fun τ205 h205 => ?_)
                              obtain rfl := h205
                              refine x_mem (mx_row_row _ _ _ _) ?_
                              refine x_mem (τ := mx_row σ 37 (f_gs n r h s (j + 1))) (congrArg (mx_row σ 37) (show f_week n (f_gs n r h s j) = f_gs n r h s (j + 1) from (f_gs_1 c158).symm)) ?_
                              refine x_iinc (v := nI (j + 1)) (lv' := [(12, .int (nI (j + 1))), (10, .long (lN (f_ch (od - 1) s (j + 1)))), (9, .int (nI s)), (7, .long (lN (od ^ i))), (5, .long (lN (f_gsum n r h t1 (od - 1) s))), (0, mx_rf E 35), (1, .int (nI h)), (2, .int (nI t1)), (3, .int (nI od)), (4, .int what)]) 1 dX4_guest_208 rfl (nI_1 _) (by decide) rfl ?_
                              refine x_goto dX4_guest_211 ?_
                              exact ih122 (j + 1) (by omega) (by omega)
                            · replace c158 := zb_1 c158
                              refine x_aload_n 5 dX4_guest_161 rfl ?_
                              refine gfX4_13 dX4_guest_162 ?_
                              refine x_iconst (v := 4) dX4_guest_165 (by decide) ?_
                              refine x_ialdS (j := 4) (by decide) (by decide) (by decide) dX4_guest_166 ?_
                              refine x_top (show (mx_row σ 37 (f_gs n r h s j)) 37 4 = (f_gs n r h s j) 4 from (congrFun mx_row_s _)) ?_
                              refine x_iload_n 6 dX4_guest_167 rfl ?_
                              refine clX4_48 (qX4_has ((f_gs n r h s j) 4) (nI h)) (by decide) rfl dX4_guest_168 (fun r168 τ168 h168 => ?_)
                              obtain ⟨rfl, rfl⟩ := h168
                              refine x_if_eq dX4_guest_171 (fun c171 => ?_) (fun c171 => ?_)
                              · replace c171 := zb_0 c171
                                refine x_aload_n 5 dX4_guest_201 rfl ?_
                                refine gfX4_13 dX4_guest_202 ?_
                                refine clX4_83 (gX4_week (by decide) (by decide) mx_row_s n (wf_gs hw h s j)) (by decide) rfl dX4_guest_205 (fun τ205 h205 => ?_)
                                obtain rfl := h205
                                refine x_mem (mx_row_row _ _ _ _) ?_
                                refine x_mem (τ := mx_row σ 37 (f_gs n r h s (j + 1))) (congrArg (mx_row σ 37) (show f_week n (f_gs n r h s j) = f_gs n r h s (j + 1) from (f_gs_2 c171).symm)) ?_
                                refine x_iinc (v := nI (j + 1)) (lv' := [(12, .int (nI (j + 1))), (10, .long (lN (f_ch (od - 1) s (j + 1)))), (9, .int (nI s)), (7, .long (lN (od ^ i))), (5, .long (lN (f_gsum n r h t1 (od - 1) s))), (0, mx_rf E 35), (1, .int (nI h)), (2, .int (nI t1)), (3, .int (nI od)), (4, .int what)]) 1 dX4_guest_208 rfl (nI_1 _) (by decide) rfl ?_
                                refine x_goto dX4_guest_211 ?_
                                exact ih122 (j + 1) (by omega) (by omega)
                              · replace c171 := zb_1 c171
                                refine x_aload_n 5 dX4_guest_174 rfl ?_
                                refine gfX4_13 dX4_guest_175 ?_
                                refine x_iload_n 6 dX4_guest_178 rfl ?_
                                refine x_iconst (v := 5) dX4_guest_179 (by decide) ?_
                                refine clX4_44 (qX4_of h 5) (by decide) rfl dX4_guest_180 (fun r180 τ180 h180 => ?_)
                                obtain ⟨rfl, rfl⟩ := h180
                                refine x_bipush (v := 9) dX4_guest_183 (by decide) ?_
                                refine x_aload_n 5 dX4_guest_185 rfl ?_
                                refine gfX4_13 dX4_guest_186 ?_
                                refine x_iload_n 6 dX4_guest_189 rfl ?_
                                refine x_iconst (v := 5) dX4_guest_190 (by decide) ?_
                                refine clX4_44 (qX4_of h 5) (by decide) rfl dX4_guest_191 (fun r191 τ191 h191 => ?_)
                                obtain ⟨rfl, rfl⟩ := h191
                                refine x_ialdS (j := 6 + 6 * h + 5) (by decide) (by decide) (by omega) dX4_guest_194 ?_
                                refine x_top (show (mx_row σ 37 (f_gs n r h s j)) 37 (6 + 6 * h + 5) = (f_gs n r h s j) (6 + 6 * h + 5) from (congrFun mx_row_s _)) ?_
                                refine x_iconst (v := 1) dX4_guest_195 (by decide) ?_
                                refine x_iadd dX4_guest_196 ?_
                                refine clX4_66 (qX4_least 9 (((f_gs n r h s j) (6 + 6 * h + 5)) + 1)) (by decide) rfl dX4_guest_197 (fun r197 τ197 h197 => ?_)
                                obtain ⟨rfl, rfl⟩ := h197
                                refine x_iastR (j := 6 + 6 * h + 5) (by decide) (by decide) (by omega) dX4_guest_200 ?_
                                refine x_mem (τ := mx_row σ 37 (upd (f_gs n r h s j) (6 + 6 * h + 5) (f_least 9 (f_gs n r h s j (6 + 6 * h + 5) + 1)))) (congrArg (mx_row σ 37) (show upd (f_gs n r h s j) (6 + 6 * h + 5) (f_least 9 (((f_gs n r h s j) (6 + 6 * h + 5)) + 1)) = upd (f_gs n r h s j) (6 + 6 * h + 5) (f_least 9 (f_gs n r h s j (6 + 6 * h + 5) + 1)) from rfl)) ?_
                                refine x_aload_n 5 dX4_guest_201 rfl ?_
                                refine gfX4_13 dX4_guest_202 ?_
                                refine clX4_83 (gX4_week (by decide) (by decide) mx_row_s n (wf_dent (wf_gs hw h s j))) (by decide) rfl dX4_guest_205 (fun τ205 h205 => ?_)
                                obtain rfl := h205
                                refine x_mem (mx_row_row _ _ _ _) ?_
                                refine x_mem (τ := mx_row σ 37 (f_gs n r h s (j + 1))) (congrArg (mx_row σ 37) (show f_week n (upd (f_gs n r h s j) (6 + 6 * h + 5) (f_least 9 (f_gs n r h s j (6 + 6 * h + 5) + 1))) = f_gs n r h s (j + 1) from (f_gs_T c158 c171).symm)) ?_
                                refine x_iinc (v := nI (j + 1)) (lv' := [(12, .int (nI (j + 1))), (10, .long (lN (f_ch (od - 1) s (j + 1)))), (9, .int (nI s)), (7, .long (lN (od ^ i))), (5, .long (lN (f_gsum n r h t1 (od - 1) s))), (0, mx_rf E 35), (1, .int (nI h)), (2, .int (nI t1)), (3, .int (nI od)), (4, .int what)]) 1 dX4_guest_208 rfl (nI_1 _) (by decide) rfl ?_
                                refine x_goto dX4_guest_211 ?_
                                exact ih122 (j + 1) (by omega) (by omega)
                      exact key122 0 (Nat.zero_le _)
                  exact key97 0 (Nat.zero_le _) _
                · have hlt := nI_lt_of (by omega) (by omega) c78
                  refine x_lload 1 dX4_guest_81 rfl ?_
                  refine x_iload_n 6 dX4_guest_83 rfl ?_
                  refine x_i2l dX4_guest_84 ?_
                  refine x_topL (show (nI od : Int32).toInt64 = lN od from wN_int (n := od) (by omega)) ?_
                  refine x_lmul dX4_guest_85 ?_
                  refine x_topL (show (lN (od ^ i)) * (lN od) = lN ((od ^ i) * od) from wN_mul _ _) ?_
                  refine x_topL (show lN ((od ^ i) * od) = lN (od ^ (i + 1)) from rfl) ?_
                  refine x_lstore (lv' := [(7, .long (lN (od ^ (i + 1)))), (9, .int (nI i)), (5, .long (lN 0)), (0, mx_rf E 35), (1, .int (nI h)), (2, .int (nI t1)), (3, .int (nI od)), (4, .int what)]) dX4_guest_86 rfl (by decide) rfl ?_
                  refine x_iinc (v := nI (i + 1)) (lv' := [(9, .int (nI (i + 1))), (7, .long (lN (od ^ (i + 1)))), (5, .long (lN 0)), (0, mx_rf E 35), (1, .int (nI h)), (2, .int (nI t1)), (3, .int (nI od)), (4, .int what)]) 1 dX4_guest_88 rfl (nI_1 _) (by decide) rfl ?_
                  refine x_goto dX4_guest_91 ?_
                  exact ih75 (i + 1) (by omega) (by omega)
              exact key75 0 (Nat.zero_le _)
            · replace c56 := zb_0 c56
              refine x_aload_n 0 dX4_guest_59 rfl ?_
              refine x_bipush (v := -2) dX4_guest_60 (by decide) ?_
              refine clX4_188 (qX4_noWide 2 (by decide) (by decide)) (by decide) rfl dX4_guest_62 (fun r62 τ62 h62 => ?_)
              obtain ⟨rfl, rfl⟩ := h62
              exact x_lret dX4_guest_65 (by rw [show p_guest n r (nI h) (nI t1) (nI od) what = (4000000000000000000 - (-nI 2).toInt64, 2) from by simp [p_guest, c5, c15, (Int32.not_lt.mp c15), c20, (Int32.not_lt.mpr c20), c33, (Int32.not_lt.mp c33), c39, (Int32.not_lt.mpr c39), c56, nI_clamp (show h < 2 ^ 31 by omega)]]; exact ⟨rfl, by rw [mx_row_self]; exact Qm.no⟩)
          · refine x_aload_n 0 dX4_guest_42 rfl ?_
            refine x_bipush (v := -6) dX4_guest_43 (by decide) ?_
            refine clX4_188 (qX4_noWide 6 (by decide) (by decide)) (by decide) rfl dX4_guest_45 (fun r45 τ45 h45 => ?_)
            obtain ⟨rfl, rfl⟩ := h45
            exact x_lret dX4_guest_48 (by rw [show p_guest n r (nI h) (nI t1) (nI od) what = (4000000000000000000 - (-nI 6).toInt64, 6) from by simp [p_guest, c5, c15, (Int32.not_lt.mp c15), c20, (Int32.not_lt.mpr c20), c33, (Int32.not_lt.mp c33), c39, (Int32.not_le.mp c39), nI_clamp (show h < 2 ^ 31 by omega)]]; exact ⟨rfl, by rw [mx_row_self]; exact Qm.no⟩)
      · refine x_aload_n 0 dX4_guest_23 rfl ?_
        refine x_bipush (v := -4) dX4_guest_24 (by decide) ?_
        refine clX4_188 (qX4_noWide 4 (by decide) (by decide)) (by decide) rfl dX4_guest_26 (fun r26 τ26 h26 => ?_)
        obtain ⟨rfl, rfl⟩ := h26
        exact x_lret dX4_guest_29 (by rw [show p_guest n r (nI h) t odds what = (4000000000000000000 - (-nI 4).toInt64, 4) from by simp [p_guest, c5, c15, (Int32.not_lt.mp c15), c20, (Int32.not_le.mp c20), nI_clamp (show h < 2 ^ 31 by omega)]]; exact ⟨rfl, by rw [mx_row_self]; exact Qm.no⟩)
  · replace c5 := zb_0 c5
    refine x_aload_n 0 dX4_guest_8 rfl ?_
    refine x_iconst (v := -1) dX4_guest_9 (by decide) ?_
    refine clX4_188 (qX4_noWide 1 (by decide) (by decide)) (by decide) rfl dX4_guest_10 (fun r10 τ10 h10 => ?_)
    obtain ⟨rfl, rfl⟩ := h10
    exact x_lret dX4_guest_13 (by rw [show p_guest n r house t odds what = (4000000000000000000 - (-nI 1).toInt64, 1) from by simp [p_guest, c5]]; exact ⟨rfl, by rw [mx_row_self]; exact Qm.no⟩)
