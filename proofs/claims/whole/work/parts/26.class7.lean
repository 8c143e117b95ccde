set_option maxHeartbeats 4000000 in
theorem qX3_power {E : mx_E} {σ : Mem} (d k : Nat) (hk : k < 1000) : MX3_power E 0 [.long (lN d), .int (nI k)] σ (mx_le (lN (d ^ k)) σ) := by
  refine MM.of (lv := [(0, .long (lN d)), (2, .int (nI k))]) kpX3 rfl (Nat.le_of_ble_eq_true rfl) rfl ?_
  refine x_lconst (v := lN 1) dX3_power_0 rfl ?_
  refine x_lstore_n (lv' := [(3, .long (lN 1)), (0, .long (lN d)), (2, .int (nI k))]) dX3_power_1 rfl (by decide) rfl ?_
  refine x_iconst (v := 0) dX3_power_2 (by decide) ?_
  refine x_istore (lv' := [(5, .int 0), (3, .long (lN 1)), (0, .long (lN d)), (2, .int (nI k))]) dX3_power_3 rfl (by decide) rfl ?_
  have key5 : ∀ i, i ≤ k → MX E 0 RX3 cX3_power 6 (some .long) 5 [(5, .int (nI i)), (3, .long (lN (d ^ i))), (0, .long (lN d)), (2, .int (nI k))] [] σ (mx_le (lN (d ^ k)) σ) := by
    refine mx_ind k (fun i hi5 ih5 => ?_)
    refine x_iload 0 dX3_power_5 rfl ?_
    refine x_iload_n 3 dX3_power_7 rfl ?_
    refine x_icmp_ge dX3_power_8 (fun c8 => ?_) (fun c8 => ?_)
    · have hge := nI_le_of (by omega) (by omega) c8
      have hik : i = k := by omega
      refine x_lload_n 1 dX3_power_21 rfl ?_
      exact x_lret dX3_power_22 ⟨by rw [hik], rfl⟩
    · have hlt := nI_lt_of (by omega) (by omega) c8
      refine x_lload_n 1 dX3_power_11 rfl ?_
      refine x_lload_n 2 dX3_power_12 rfl ?_
      refine x_lmul dX3_power_13 ?_
      refine x_topL (show (lN (d ^ i)) * (lN d) = lN ((d ^ i) * d) from wN_mul _ _) ?_
      refine x_topL (show lN ((d ^ i) * d) = lN (d ^ (i + 1)) from rfl) ?_
      refine x_lstore_n (lv' := [(3, .long (lN (d ^ (i + 1)))), (5, .int (nI i)), (0, .long (lN d)), (2, .int (nI k))]) dX3_power_14 rfl (by decide) rfl ?_
      refine x_iinc (v := nI (i + 1)) (lv' := [(5, .int (nI (i + 1))), (3, .long (lN (d ^ (i + 1)))), (0, .long (lN d)), (2, .int (nI k))]) 1 dX3_power_15 rfl (nI_1 _) (by decide) rfl ?_
      refine x_goto dX3_power_18 ?_
      exact ih5 (i + 1) (by omega) (by omega)
  exact key5 0 (Nat.zero_le _)

set_option maxHeartbeats 4000000 in
theorem qX3_commonDivisor {E : mx_E} {σ : Mem} {g a0 b0 : Nat} (h : f_gI g 0 a0 b0) : MX3_commonDivisor E 0 [.long (lN a0), .long (lN b0)] σ (mx_le (lN g) σ) := by
  refine MM.of (lv := [(0, .long (lN a0)), (2, .long (lN b0))]) kpX3 rfl (Nat.le_of_ble_eq_true rfl) rfl ?_
  refine x_lload_n 0 dX3_commonDivisor_0 rfl ?_
  refine x_lstore (lv' := [(4, .long (lN a0)), (0, .long (lN a0)), (2, .long (lN b0))]) dX3_commonDivisor_1 rfl (by decide) rfl ?_
  refine x_lload_n 2 dX3_commonDivisor_3 rfl ?_
  refine x_lstore (lv' := [(6, .long (lN b0)), (4, .long (lN a0)), (0, .long (lN a0)), (2, .long (lN b0))]) dX3_commonDivisor_4 rfl (by decide) rfl ?_
  refine x_iconst (v := 0) dX3_commonDivisor_6 (by decide) ?_
  refine x_istore (lv' := [(8, .int 0), (6, .long (lN b0)), (4, .long (lN a0)), (0, .long (lN a0)), (2, .long (lN b0))]) dX3_commonDivisor_7 rfl (by decide) rfl ?_
  have key9 : ∀ i, i ≤ 1000 → ∀ a b : Nat, f_gI g i a b → MX E 0 RX3 cX3_commonDivisor 11 (some .long) 9 [(8, .int (nI i)), (6, .long (lN b)), (4, .long (lN a)), (0, .long (lN a0)), (2, .long (lN b0))] [] σ (mx_le (lN g) σ) := by
    refine mx_ind 1000 (fun i hi9 ih9 => ?_)
    intro a b hg
    refine x_iload 0 dX3_commonDivisor_9 rfl ?_
    refine x_sipush (v := 1000) dX3_commonDivisor_11 (by decide) ?_
    refine x_icmp_ge dX3_commonDivisor_14 (fun c14 => ?_) (fun c14 => ?_)
    · have hge := nI_le_of (b := 1000) (by decide) (by omega) c14
      have hik : i = 1000 := by omega
      rw [hik] at hg
      refine x_lload 2 dX3_commonDivisor_45 rfl ?_
      exact x_lret dX3_commonDivisor_47 ⟨by rw [f_gI_1 hg], rfl⟩
    · have hlt := nI_lt_of (b := 1000) (by decide) (by omega) c14
      refine x_lload 1 dX3_commonDivisor_17 rfl ?_
      refine x_lconst (v := lN 0) dX3_commonDivisor_19 rfl ?_
      refine x_lcmp dX3_commonDivisor_20 ?_
      refine x_if_eq dX3_commonDivisor_21 (fun c21 => ?_) (fun c21 => ?_)
      · have hb0 : b = 0 := (lg_lN0 (Nat.lt_trans hg.2.2.2.1 (by decide))).mp c21
        refine x_lload 2 dX3_commonDivisor_45 rfl ?_
        exact x_lret dX3_commonDivisor_47 ⟨by rw [f_gI_e hg hb0], rfl⟩
      · have hb0 : ¬ b = 0 := fun q => c21 ((lg_lN0 (Nat.lt_trans hg.2.2.2.1 (by decide))).mpr q)
        refine x_lload 2 dX3_commonDivisor_24 rfl ?_
        refine x_lload 1 dX3_commonDivisor_26 rfl ?_
        refine x_lrem dX3_commonDivisor_28 (wN_ne0 (Nat.lt_trans hg.2.2.2.1 (by decide)) (Nat.pos_of_ne_zero hb0)) ?_
        refine x_topL (show lN a % lN b = lN (a % b) from wN_rem (Nat.lt_trans hg.2.2.1 (by decide)) (Nat.lt_trans hg.2.2.2.1 (by decide))) ?_
        refine x_lstore (lv' := [(9, .long (lN (a % b))), (8, .int (nI i)), (6, .long (lN b)), (4, .long (lN a)), (0, .long (lN a0)), (2, .long (lN b0))]) dX3_commonDivisor_29 rfl (by decide) rfl ?_
        refine x_lload 2 dX3_commonDivisor_31 rfl ?_
        refine x_lstore (lv' := [(4, .long (lN b)), (9, .long (lN (a % b))), (8, .int (nI i)), (6, .long (lN b)), (0, .long (lN a0)), (2, .long (lN b0))]) dX3_commonDivisor_33 rfl (by decide) rfl ?_
        refine x_lload 1 dX3_commonDivisor_35 rfl ?_
        refine x_lstore (lv' := [(6, .long (lN (a % b))), (4, .long (lN b)), (9, .long (lN (a % b))), (8, .int (nI i)), (0, .long (lN a0)), (2, .long (lN b0))]) dX3_commonDivisor_37 rfl (by decide) rfl ?_
        refine x_iinc (v := nI (i + 1)) (lv' := [(8, .int (nI (i + 1))), (6, .long (lN (a % b))), (4, .long (lN b)), (9, .long (lN (a % b))), (0, .long (lN a0)), (2, .long (lN b0))]) 3 dX3_commonDivisor_39 rfl (nI_1 _) (by decide) rfl ?_
        refine x_goto dX3_commonDivisor_42 ?_
        refine x_lvs [0, 1, 2, 4, 5] rfl ?_
        exact ih9 (i + 1) (by omega) (by omega) _ _ (f_gI_s hg hb0)
  exact key9 0 (Nat.zero_le _) _ _ h

set_option maxHeartbeats 4000000 in
theorem qX3_partOf {E : mx_E} {σ : Mem} {a b : Nat} (ha : a < 2 ^ 40) (hb : b < 2 ^ 40) (h0 : 0 < b) (what : Int32) : MX3_partOf E 1 [.long (lN a), .long (lN b), .int what] σ (mx_le (f_part a b what) σ) := by
  refine MM.of (lv := [(0, .long (lN a)), (2, .long (lN b)), (4, .int what)]) kpX3 rfl (Nat.le_of_ble_eq_true rfl) rfl ?_
  have hg0 : 0 < Nat.gcd b a := Nat.gcd_pos_of_pos_left _ h0
  have hgb : Nat.gcd b a ≤ b := Nat.gcd_le_left _ h0
  refine x_lload_n 1 dX3_partOf_0 rfl ?_
  refine x_lload_n 0 dX3_partOf_1 rfl ?_
  refine clX3_261 (qX3_commonDivisor (f_gI_0 hb ha h0)) (by decide) rfl dX3_partOf_2 (fun r2 τ2 h2 => ?_)
  obtain ⟨rfl, rfl⟩ := h2
  refine x_lstore (lv' := [(5, .long (lN (Nat.gcd b a))), (0, .long (lN a)), (2, .long (lN b)), (4, .int what)]) dX3_partOf_5 rfl (by decide) rfl ?_
  refine x_lload 0 dX3_partOf_7 rfl ?_
  refine x_lconst (v := lN 1) dX3_partOf_9 rfl ?_
  refine x_lcmp dX3_partOf_10 ?_
  refine x_if_ge dX3_partOf_11 (fun c11 => ?_) (fun c11 => ?_)
  · refine x_iload 3 dX3_partOf_18 rfl ?_
    refine x_if_ne dX3_partOf_20 (fun c20 => ?_) (fun c20 => ?_)
    · refine x_lload_n 2 dX3_partOf_30 rfl ?_
      refine x_lload 0 dX3_partOf_31 rfl ?_
      refine x_ldiv dX3_partOf_33 (wN_ne0 (by omega) (by omega)) ?_
      refine x_topL (show lN b / lN (Nat.gcd b a) = lN (b / (Nat.gcd b a)) from wN_div (by omega) (by omega)) ?_
      exact x_lret dX3_partOf_34 ⟨by unfold f_part; rw [if_neg c20], rfl⟩
    · refine x_lload_n 1 dX3_partOf_23 rfl ?_
      refine x_lload 0 dX3_partOf_24 rfl ?_
      refine x_ldiv dX3_partOf_26 (wN_ne0 (by omega) (by omega)) ?_
      refine x_topL (show lN a / lN (Nat.gcd b a) = lN (a / (Nat.gcd b a)) from wN_div (by omega) (by omega)) ?_
      refine x_goto dX3_partOf_27 ?_
      exact x_lret dX3_partOf_34 ⟨by unfold f_part; rw [if_pos c20], rfl⟩
  · exact absurd ((lg_lN1 (by omega)).mpr hg0) c11

theorem f_max1 {n : Nat} (hn : n ≤ 6) : (if (1 : Int32) < nI n then nI n else 1) = nI (Nat.max 1 n) := by
  have e : ∀ n : Fin 7, (if (1 : Int32) < nI n.val then nI n.val else 1) = nI (Nat.max 1 n.val) := by decide +kernel
  exact e ⟨n, by omega⟩
theorem f_pplU_N {n : Nat} {r : Row} (hw : wf n r) : ∀ i, i ≤ n → ∃ p, p ≤ 30 * i ∧ f_pplU r i = nI p
  | 0, _ => ⟨0, by omega, rfl⟩
  | i + 1, h => by
    obtain ⟨p, hp, e⟩ := f_pplU_N hw i (by omega)
    obtain ⟨-, -, q, hq, e2⟩ := hw.2.2.2.2.2 i (by omega)
    refine ⟨p + q, by omega, ?_⟩
    show f_pplU r i + r (6 + 6 * i + 3) = _
    rw [e, e2, nI_add]

set_option maxHeartbeats 4000000 in
theorem qX3_mean {E : mx_E} {σ : Mem} {n : Nat} {r : Row} (hN : NW σ) (hT : TI σ 1 n r) (hw : wf n r) (what : Int32) : MX3_mean E 2 [mx_rf E 0, .int what] σ (mx_l (fun v τ => (p_mean n r what).1 = v ∧ Qz (p_mean n r what).2 σ τ)) := by
  refine MM.of (lv := [(0, mx_rf E 0), (1, .int what)]) kpX3 rfl (Nat.le_of_ble_eq_true rfl) rfl ?_
  have hn6 := hw.1
  obtain ⟨p, hp, ep⟩ := f_pplU_N hw n (Nat.le_refl n)
  have epc : (f_pplU r n).toNatClampNeg = p := by rw [ep]; exact nI_clamp (by omega)
  have hm1 : 1 ≤ Nat.max 1 n := Nat.le_max_left 1 n
  have hm6 : Nat.max 1 n ≤ 6 := Nat.max_le.mpr ⟨by omega, hn6⟩
  refine x_iload_n 1 dX3_mean_0 rfl ?_
  refine x_if_lt dX3_mean_1 (fun c1 => ?_) (fun c1 => ?_)
  · have hwt : f_in what 0 1 = false := by unfold f_in; rw [decide_eq_false (Int32.not_le.mpr c1)]; rfl
    refine x_aload_n 0 dX3_mean_9 rfl ?_
    refine x_bipush (v := -2) dX3_mean_10 (by decide) ?_
    refine clX3_236 (qX3_refuseLong 2 (by decide) (by decide)) (by decide) rfl dX3_mean_12 (fun r12 τ12 h12 => ?_)
    obtain ⟨rfl, rfl⟩ := h12
    exact x_lret dX3_mean_15 (by rw [show p_mean n r what = (4000000000000000000 - (-nI 2).toInt64, 2) from by simp [p_mean, c1, (Int32.not_le.mpr c1), hwt]]; exact ⟨rfl, Qz.no⟩)
  · refine x_iload_n 1 dX3_mean_4 rfl ?_
    refine x_iconst (v := 1) dX3_mean_5 (by decide) ?_
    refine x_icmp_le dX3_mean_6 (fun c6 => ?_) (fun c6 => ?_)
    · have hwt : f_in what 0 1 = true := by unfold f_in; rw [decide_eq_true (Int32.not_lt.mp c1), decide_eq_true c6]; rfl
      refine x_aload_n 0 dX3_mean_16 rfl ?_
      refine gfX3_10 dX3_mean_17 ?_
      refine clX3_255 (qX2_allPeople (by decide) (by decide) hT hw) (by decide) (by decide) (by decide) rfl dX3_mean_20 (fun r20 τ20 h20 => ?_)
      obtain ⟨rfl, rfl⟩ := h20
      refine x_top (show f_pplU r n = nI p from ep) ?_
      refine x_i2l dX3_mean_23 ?_
      refine x_topL (show (nI p : Int32).toInt64 = lN p from wN_int (n := p) (by omega)) ?_
      refine x_iconst (v := 1) dX3_mean_24 (by decide) ?_
      refine x_aload_n 0 dX3_mean_25 rfl ?_
      refine gfX3_10 dX3_mean_26 ?_
      refine gfX3_115 (by decide) (by decide) dX3_mean_29 ?_
      refine x_top (show σ 1 2 = nI n from hT.1) ?_
      refine clX3_258 (by decide) rfl dX3_mean_32 ?_
      refine x_top (show (if 1 < nI n then nI n else 1) = nI (Nat.max 1 n) from (f_max1 hn6)) ?_
      refine x_i2l dX3_mean_35 ?_
      refine x_topL (show (nI (Nat.max 1 n) : Int32).toInt64 = lN (Nat.max 1 n) from wN_int (n := Nat.max 1 n) (by omega)) ?_
      refine x_iload_n 1 dX3_mean_36 rfl ?_
      refine clX3_248 (qX3_partOf (Nat.lt_of_le_of_lt hp (Nat.lt_of_le_of_lt (Nat.mul_le_mul_left 30 hn6) (by decide))) (Nat.lt_of_le_of_lt hm6 (by decide)) hm1 what) (by decide) rfl dX3_mean_37 (fun r37 τ37 h37 => ?_)
      obtain ⟨rfl, rfl⟩ := h37
      exact x_lret dX3_mean_40 (by rw [show p_mean n r what = (f_part p (Nat.max 1 n) what, 0) from by unfold p_mean; rw [hwt, if_pos rfl, epc]]; exact ⟨rfl, Qz.rf⟩)
    · have hwt : f_in what 0 1 = false := by unfold f_in; rw [decide_eq_false c6, Bool.and_false]
      refine x_aload_n 0 dX3_mean_9 rfl ?_
      refine x_bipush (v := -2) dX3_mean_10 (by decide) ?_
      refine clX3_236 (qX3_refuseLong 2 (by decide) (by decide)) (by decide) rfl dX3_mean_12 (fun r12 τ12 h12 => ?_)
      obtain ⟨rfl, rfl⟩ := h12
      exact x_lret dX3_mean_15 (by rw [show p_mean n r what = (4000000000000000000 - (-nI 2).toInt64, 2) from by simp [p_mean, c1, (Int32.not_lt.mp c1), c6, (Int32.not_le.mp c6), hwt]]; exact ⟨rfl, Qz.no⟩)

set_option maxHeartbeats 4000000 in
theorem qX3_isKeptWithGuests {E : mx_E} {σ : Mem} {n : Nat} {r : Row} (hN : NW σ) (hT : TI σ 1 n r) (hw : wf n r) (h t s : Nat) (hh : h < n) (ht : t ≤ 7) (hs : s < 128)  : MX3_isKeptWithGuests E 5 [mx_rf E 0, .int (nI h), .int (nI t), .int (nI s)] σ (mx_i (fun v τ => zb (f_kept (f_gs n r h s t) h) = v ∧ Off 2 σ τ)) := by
  refine MM.of (lv := [(0, mx_rf E 0), (1, .int (nI h)), (2, .int (nI t)), (3, .int (nI s))]) kpX3 rfl (Nat.le_of_ble_eq_true rfl) rfl ?_
  have hn6 := hw.1
  refine x_aload_n 0 dX3_isKeptWithGuests_0 rfl ?_
  refine gfX3_16 dX3_isKeptWithGuests_1 ?_
  refine x_aload_n 0 dX3_isKeptWithGuests_4 rfl ?_
  refine gfX3_10 dX3_isKeptWithGuests_5 ?_
  refine clX3_73 (qX2_become (t := 2) (u := 1) (by decide) (by decide) (by decide) (by decide) (by decide) hT hw) (by decide) (by decide) (by decide) rfl dX3_isKeptWithGuests_8 (fun τ8 h8 => ?_)
  refine x_iconst (v := 0) dX3_isKeptWithGuests_11 (by decide) ?_
  refine x_istore (lv' := [(4, .int 0), (0, mx_rf E 0), (1, .int (nI h)), (2, .int (nI t)), (3, .int (nI s))]) dX3_isKeptWithGuests_12 rfl (by decide) rfl ?_
  have key14 : ∀ i, i ≤ t → ∀ τ : Mem, TI τ 2 n (f_gs n r h s i) → Off 2 σ τ → MX E 5 RX3 cX3_isKeptWithGuests 6 (some .boolean) 14 [(4, .int (nI i)), (0, mx_rf E 0), (1, .int (nI h)), (2, .int (nI t)), (3, .int (nI s))] [] τ (mx_i (fun v τ => zb (f_kept (f_gs n r h s t) h) = v ∧ Off 2 σ τ)) := by
    refine mx_ind t (fun i hi14 ih14 => ?_)
    intro τ hT2 hO
    refine x_iload 0 dX3_isKeptWithGuests_14 rfl ?_
    refine x_iload_n 3 dX3_isKeptWithGuests_16 rfl ?_
    refine x_icmp_ge dX3_isKeptWithGuests_17 (fun c17 => ?_) (fun c17 => ?_)
    · have hge := nI_le_of (by omega) (by omega) c17
      have hit : i = t := by omega
      rw [hit] at hT2
      refine x_aload_n 1 dX3_isKeptWithGuests_67 rfl ?_
      refine gfX3_16 dX3_isKeptWithGuests_68 ?_
      refine x_iload_n 2 dX3_isKeptWithGuests_71 rfl ?_
      refine clX3_125 (qX2_at (by decide) (by decide) hT2.1 hn6 hh) (by decide) (by decide) (by decide) rfl dX3_isKeptWithGuests_72 (fun r72 τ72 h72 => ?_)
      obtain ⟨rfl, rfl⟩ := h72
      refine gfX3_136 (by omega) (by omega) dX3_isKeptWithGuests_75 ?_
      refine x_top (show τ (4 + 6 * 2 + h) 6 = zb (f_kept (f_gs n r h s t) h) from (hT2.2.2.2.2 _ hh).2.1) ?_
      exact x_zret dX3_isKeptWithGuests_78 (zb_01 _) ⟨rfl, hO⟩
    · have hlt := nI_lt_of (by omega) (by omega) c17
      refine x_aload_n 1 dX3_isKeptWithGuests_20 rfl ?_
      refine gfX3_16 dX3_isKeptWithGuests_21 ?_
      refine x_iload_n 2 dX3_isKeptWithGuests_24 rfl ?_
      refine clX3_125 (qX2_at (by decide) (by decide) hT2.1 hn6 hh) (by decide) (by decide) (by decide) rfl dX3_isKeptWithGuests_25 (fun r25 τ25 h25 => ?_)
      obtain ⟨rfl, rfl⟩ := h25
      refine x_astore (lv' := [(5, mx_rf E (4 + 6 * 2 + h)), (4, .int (nI i)), (0, mx_rf E 0), (1, .int (nI h)), (2, .int (nI t)), (3, .int (nI s))]) dX3_isKeptWithGuests_28 rfl (by decide) rfl ?_
      refine x_aload 0 dX3_isKeptWithGuests_30 rfl ?_
      refine gfX3_136 (by omega) (by omega) dX3_isKeptWithGuests_32 ?_
      refine x_top (show τ (4 + 6 * 2 + h) 6 = zb (f_kept (f_gs n r h s i) h) from (hT2.2.2.2.2 _ hh).2.1) ?_
      refine x_if_eq dX3_isKeptWithGuests_35 (fun c35 => ?_) (fun c35 => ?_)
      · replace c35 := zb_0 c35
        refine x_aload_n 2 dX3_isKeptWithGuests_53 rfl ?_
        refine gfX3_16 dX3_isKeptWithGuests_54 ?_
        refine x_iconst (v := 1) dX3_isKeptWithGuests_57 (by decide) ?_
        refine clX3_145 (qX2_pass (t := 2) (by decide) (by decide) hT2 (wf_gs hw h s i) (hN.off (by decide) (by decide) hO) 1 (by omega)) (by decide) (by decide) (by decide) rfl dX3_isKeptWithGuests_58 (fun τ58 h58 => ?_)
        have hO58 : Off 2 σ τ58 := hO.tr h58.2
        refine x_iinc (v := nI (i + 1)) (lv' := [(4, .int (nI (i + 1))), (5, mx_rf E (4 + 6 * 2 + h)), (0, mx_rf E 0), (1, .int (nI h)), (2, .int (nI t)), (3, .int (nI s))]) 1 dX3_isKeptWithGuests_61 rfl (nI_1 _) (by decide) rfl ?_
        refine x_goto dX3_isKeptWithGuests_64 ?_
        refine x_lvs [0, 2, 3, 4, 5] rfl ?_
        exact ih14 (i + 1) (by omega) (by omega) _ (by rw [f_gs_2 c35]; exact h58.1) hO58
      · replace c35 := zb_1 c35
        refine x_iload_n 5 dX3_isKeptWithGuests_38 rfl ?_
        refine x_iload 1 dX3_isKeptWithGuests_39 rfl ?_
        refine x_ishr dX3_isKeptWithGuests_41 ?_
        refine x_iconst (v := 1) dX3_isKeptWithGuests_42 (by decide) ?_
        refine x_iand dX3_isKeptWithGuests_43 ?_
        refine x_iconst (v := 1) dX3_isKeptWithGuests_44 (by decide) ?_
        refine x_icmp_ne dX3_isKeptWithGuests_45 (fun c45 => ?_) (fun c45 => ?_)
        · refine x_aload_n 2 dX3_isKeptWithGuests_53 rfl ?_
          refine gfX3_16 dX3_isKeptWithGuests_54 ?_
          refine x_iconst (v := 1) dX3_isKeptWithGuests_57 (by decide) ?_
          refine clX3_145 (qX2_pass (t := 2) (by decide) (by decide) hT2 (wf_gs hw h s i) (hN.off (by decide) (by decide) hO) 1 (by omega)) (by decide) (by decide) (by decide) rfl dX3_isKeptWithGuests_58 (fun τ58 h58 => ?_)
          have hO58 : Off 2 σ τ58 := hO.tr h58.2
          refine x_iinc (v := nI (i + 1)) (lv' := [(4, .int (nI (i + 1))), (5, mx_rf E (4 + 6 * 2 + h)), (0, mx_rf E 0), (1, .int (nI h)), (2, .int (nI t)), (3, .int (nI s))]) 1 dX3_isKeptWithGuests_61 rfl (nI_1 _) (by decide) rfl ?_
          refine x_goto dX3_isKeptWithGuests_64 ?_
          refine x_lvs [0, 2, 3, 4, 5] rfl ?_
          exact ih14 (i + 1) (by omega) (by omega) _ (by rw [f_gs_1 (decide_eq_false c45)]; exact h58.1) hO58
        · refine x_aload 0 dX3_isKeptWithGuests_48 rfl ?_
          refine clX3_252 (pX0_dent (by omega) (by omega)) (by decide) (by omega) (by omega) rfl dX3_isKeptWithGuests_50 (fun τ50 h50 => ?_)
          obtain rfl := h50
          refine x_mem (τ := mx_up τ (4 + 6 * 2 + h) 5 (f_least 9 ((f_gs n r h s i) (6 + 6 * h + 5) + 1))) (by rw [mx_up_row, (hT2.2.2.2.2 _ hh).1 5 (by decide)]) ?_
          have hT50 : TI (mx_up τ (4 + 6 * 2 + h) 5 (f_least 9 ((f_gs n r h s i) (6 + 6 * h + 5) + 1))) 2 n (upd (f_gs n r h s i) (6 + 6 * h + 5) (f_least 9 ((f_gs n r h s i) (6 + 6 * h + 5) + 1))) := hT2.fld (by decide) hh (by decide)
          have hO50 : Off 2 σ (mx_up τ (4 + 6 * 2 + h) 5 (f_least 9 ((f_gs n r h s i) (6 + 6 * h + 5) + 1))) := hO.up (inT_h (by omega))
          refine x_aload_n 2 dX3_isKeptWithGuests_53 rfl ?_
          refine gfX3_16 dX3_isKeptWithGuests_54 ?_
          refine x_iconst (v := 1) dX3_isKeptWithGuests_57 (by decide) ?_
          refine clX3_145 (qX2_pass (t := 2) (by decide) (by decide) hT50 (wf_dent (wf_gs hw h s i)) (hN.off (by decide) (by decide) hO50) 1 (by omega)) (by decide) (by decide) (by decide) rfl dX3_isKeptWithGuests_58 (fun τ58 h58 => ?_)
          have hO58 : Off 2 σ τ58 := hO50.tr h58.2
          refine x_iinc (v := nI (i + 1)) (lv' := [(4, .int (nI (i + 1))), (5, mx_rf E (4 + 6 * 2 + h)), (0, mx_rf E 0), (1, .int (nI h)), (2, .int (nI t)), (3, .int (nI s))]) 1 dX3_isKeptWithGuests_61 rfl (nI_1 _) (by decide) rfl ?_
          refine x_goto dX3_isKeptWithGuests_64 ?_
          refine x_lvs [0, 2, 3, 4, 5] rfl ?_
          exact ih14 (i + 1) (by omega) (by omega) _ (by rw [f_gs_T (decide_eq_true c45) c35]; exact h58.1) hO58
  exact key14 0 (Nat.zero_le _) _ h8.1 h8.2

theorem f_shl7 {t : Nat} (ht : t ≤ 7) : (1 : Int32) <<< (nI t &&& 31) = nI (2 ^ t) := by
  have e : ∀ t : Fin 8, (1 : Int32) <<< (nI t.val &&& 31) = nI (2 ^ t.val) := by decide +kernel
  exact e ⟨t, by omega⟩
theorem f_cnt_t {s t : Nat} (ht : t ≤ 7) (hs : s < 2 ^ t) : f_cnt s ≤ t := by
  have h7 : (2 : Nat) ^ t ≤ 2 ^ 7 := Nat.pow_le_pow_right (by decide) ht
  have e : ∀ t : Fin 8, ∀ s : Fin 128, s.val < 2 ^ t.val → f_cnt s.val ≤ t.val := by decide +kernel
  exact e ⟨t, by omega⟩ ⟨s, by omega⟩ hs
theorem f_gsum_T {n h t d s : Nat} {r : Row} (ht : t ≤ 7) (hs : s < 2 ^ t) (c : f_kept (f_gs n r h s t) h = true) : f_gsum n r h t d s + d ^ (t - f_cnt s) = f_gsum n r h t d (s + 1) := by
  show _ = f_gsum n r h t d s + _
  rw [if_pos c, f_ch_cnt ht hs]
theorem f_gsum_F {n h t d s : Nat} {r : Row} (c : f_kept (f_gs n r h s t) h = false) : f_gsum n r h t d s = f_gsum n r h t d (s + 1) := by
  show _ = f_gsum n r h t d s + _
  rw [if_neg (by rw [c]; decide), Nat.add_zero]
theorem f_gpow {od t : Nat} (h : od ≤ 20) (ht : t ≤ 7) : od ^ t < 2 ^ 40 := Nat.lt_of_le_of_lt (Nat.le_trans (Nat.pow_le_pow_left h t) (Nat.pow_le_pow_right (by decide) ht)) (by decide)
theorem f_gsum_lt {n h t d : Nat} {r : Row} (hd : d ≤ 19) (ht : t ≤ 7) : f_gsum n r h t d (2 ^ t) < 2 ^ 40 := Nat.lt_of_le_of_lt (f_gsum_le hd ht _) (Nat.lt_of_le_of_lt (Nat.mul_le_mul_right _ (Nat.pow_le_pow_right (by decide) ht)) (by decide))
theorem f_lo {v : Int32} {a : Nat} (h : ¬ v < nI a) (ha : a < 2 ^ 31) : ∃ j, a ≤ j ∧ j < 2 ^ 31 ∧ v = nI j := by
  have h0 : ¬ v < 0 := fun q => h (by
    rw [fa_lt] at q ⊢
    rw [nI_toInt ha]
    have : (0 : Int32).toInt = 0 := by decide
    omega)
  obtain ⟨j, hj, e⟩ := nI_of h0
  subst e
  exact ⟨j, Nat.le_of_not_lt (fun q => h (nI_lt q ha)), hj, rfl⟩

theorem nat_eq {P : Nat → Prop} {a b : Nat} (h : a = b) (k : P a) : P b := h ▸ k

set_option maxHeartbeats 4000000 in
theorem qX3_guest {E : mx_E} {σ : Mem} {n : Nat} {r : Row} (hN : NW σ) (hT : TI σ 1 n r) (hw : wf n r) (house t odds what : Int32) : MX3_guest E 6 [mx_rf E 0, .int house, .int t, .int odds, .int what] σ (mx_l (fun v τ => (p_guest n r house t odds what).1 = v ∧ Qz (p_guest n r house t odds what).2 σ τ)) := by
  refine MM.of (lv := [(0, mx_rf E 0), (1, .int house), (2, .int t), (3, .int odds), (4, .int what)]) kpX3 rfl (Nat.le_of_ble_eq_true rfl) rfl ?_
  have hn6 := hw.1
  refine x_aload_n 0 dX3_guest_0 rfl ?_
  refine gfX3_10 dX3_guest_1 ?_
  refine x_iload_n 1 dX3_guest_4 rfl ?_
  refine clX3_122 (qX2_has (by decide) (by decide) hT.1 house) (by decide) (by decide) (by decide) rfl dX3_guest_5 (fun r5 τ5 h5 => ?_)
  obtain ⟨rfl, rfl⟩ := h5
  refine x_if_ne dX3_guest_8 (fun c8 => ?_) (fun c8 => ?_)
  · replace c8 := zb_1 c8
    obtain ⟨h, hh, rfl⟩ := f_inN_t (by omega) c8
    refine x_iload_n 2 dX3_guest_17 rfl ?_
    refine x_if_lt dX3_guest_18 (fun c18 => ?_) (fun c18 => ?_)
    · refine x_aload_n 0 dX3_guest_26 rfl ?_
      refine x_bipush (v := -4) dX3_guest_27 (by decide) ?_
      refine clX3_236 (qX3_refuseLong 4 (by decide) (by decide)) (by decide) rfl dX3_guest_29 (fun r29 τ29 h29 => ?_)
      obtain ⟨rfl, rfl⟩ := h29
      exact x_lret dX3_guest_32 (by rw [show p_guest n r (nI h) t odds what = (4000000000000000000 - (-nI 4).toInt64, 4) from by simp [p_guest, c8, c18, (Int32.not_le.mpr c18), nI_clamp (show h < 2 ^ 31 by omega)]]; exact ⟨rfl, Qz.no⟩)
    · refine x_iload_n 3 dX3_guest_21 rfl ?_
      refine x_iconst (v := 2) dX3_guest_22 (by decide) ?_
      refine x_icmp_ge dX3_guest_23 (fun c23 => ?_) (fun c23 => ?_)
      · obtain ⟨t1, -, ht31, rfl⟩ := f_lo (a := 0) c18 (by decide)
        obtain ⟨od, ho2, ho31, rfl⟩ := f_lo (a := 2) (Int32.not_lt.mpr c23) (by decide)
        refine x_iload_n 2 dX3_guest_33 rfl ?_
        refine x_bipush (v := 7) dX3_guest_34 (by decide) ?_
        refine x_icmp_gt dX3_guest_36 (fun c36 => ?_) (fun c36 => ?_)
        · refine x_aload_n 0 dX3_guest_45 rfl ?_
          refine x_bipush (v := -6) dX3_guest_46 (by decide) ?_
          refine clX3_236 (qX3_refuseLong 6 (by decide) (by decide)) (by decide) rfl dX3_guest_48 (fun r48 τ48 h48 => ?_)
          obtain ⟨rfl, rfl⟩ := h48
          exact x_lret dX3_guest_51 (by rw [show p_guest n r (nI h) (nI t1) (nI od) what = (4000000000000000000 - (-nI 6).toInt64, 6) from by simp [p_guest, c8, c18, (Int32.not_lt.mp c18), c23, (Int32.not_lt.mpr c23), c36, (Int32.not_le.mpr c36), nI_clamp (show h < 2 ^ 31 by omega)]]; exact ⟨rfl, Qz.no⟩)
        · refine x_iload_n 3 dX3_guest_39 rfl ?_
          refine x_bipush (v := 20) dX3_guest_40 (by decide) ?_
          refine x_icmp_le dX3_guest_42 (fun c42 => ?_) (fun c42 => ?_)
          · have ht : t1 ≤ 7 := nI_nlt_le (b := 7) (by omega) (by decide) c36
            have hod : od ≤ 20 := nI_le_of (a := 20) (by omega) (by decide) c42
            have h2t : 2 ^ t1 ≤ 2 ^ 7 := Nat.pow_le_pow_right (by decide) ht
            refine x_iload 4 dX3_guest_52 rfl ?_
            refine x_if_lt dX3_guest_54 (fun c54 => ?_) (fun c54 => ?_)
            · have hwt : f_in what 0 1 = false := by unfold f_in; rw [decide_eq_false (Int32.not_le.mpr c54)]; rfl
              refine x_aload_n 0 dX3_guest_63 rfl ?_
              refine x_bipush (v := -2) dX3_guest_64 (by decide) ?_
              refine clX3_236 (qX3_refuseLong 2 (by decide) (by decide)) (by decide) rfl dX3_guest_66 (fun r66 τ66 h66 => ?_)
              obtain ⟨rfl, rfl⟩ := h66
              exact x_lret dX3_guest_69 (by rw [show p_guest n r (nI h) (nI t1) (nI od) what = (4000000000000000000 - (-nI 2).toInt64, 2) from by simp [p_guest, c8, c18, (Int32.not_lt.mp c18), c23, (Int32.not_lt.mpr c23), c36, (Int32.not_lt.mp c36), c42, (Int32.not_lt.mpr c42), c54, (Int32.not_le.mpr c54), nI_clamp (show h < 2 ^ 31 by omega), hwt]]; exact ⟨rfl, Qz.no⟩)
            · refine x_iload 4 dX3_guest_57 rfl ?_
              refine x_iconst (v := 1) dX3_guest_59 (by decide) ?_
              refine x_icmp_le dX3_guest_60 (fun c60 => ?_) (fun c60 => ?_)
              · have hwt : f_in what 0 1 = true := by unfold f_in; rw [decide_eq_true (Int32.not_lt.mp c54), decide_eq_true c60]; rfl
                refine x_lconst (v := lN 0) dX3_guest_70 rfl ?_
                refine x_lstore (lv' := [(5, .long (lN 0)), (0, mx_rf E 0), (1, .int (nI h)), (2, .int (nI t1)), (3, .int (nI od)), (4, .int what)]) dX3_guest_71 rfl (by decide) rfl ?_
                refine x_iconst (v := 0) dX3_guest_73 (by decide) ?_
                refine x_istore (lv' := [(7, .int 0), (5, .long (lN 0)), (0, mx_rf E 0), (1, .int (nI h)), (2, .int (nI t1)), (3, .int (nI od)), (4, .int what)]) dX3_guest_74 rfl (by decide) rfl ?_
                have key76 : ∀ s, s ≤ 2 ^ t1 → ∀ τ : Mem, Off 2 σ τ → MX E 6 RX3 cX3_guest 8 (some .long) 76 [(7, .int (nI s)), (5, .long (lN (f_gsum n r h t1 (od - 1) s))), (0, mx_rf E 0), (1, .int (nI h)), (2, .int (nI t1)), (3, .int (nI od)), (4, .int what)] [] τ (mx_l (fun v τ => (p_guest n r (nI h) (nI t1) (nI od) what).1 = v ∧ Qz (p_guest n r (nI h) (nI t1) (nI od) what).2 σ τ)) := by
                  refine mx_ind (2 ^ t1) (fun s hi76 ih76 => ?_)
                  intro τ hO
                  refine x_iload 0 dX3_guest_76 rfl ?_
                  refine x_iconst (v := 1) dX3_guest_78 (by decide) ?_
                  refine x_iload_n 4 dX3_guest_79 rfl ?_
                  refine x_ishl dX3_guest_80 ?_
                  refine x_top (show 1 <<< ((nI t1) &&& 31) = nI (2 ^ t1) from (f_shl7 ht)) ?_
                  refine x_icmp_ge dX3_guest_81 (fun c81 => ?_) (fun c81 => ?_)
                  · have hge := nI_le_of (by omega) (by omega) c81
                    have hst : 2 ^ t1 = s := by omega
                    refine x_lload 1 dX3_guest_120 rfl ?_
                    refine x_iload_n 5 dX3_guest_122 rfl ?_
                    refine x_i2l dX3_guest_123 ?_
                    refine x_topL (show (nI od : Int32).toInt64 = lN od from wN_int (n := od) (by omega)) ?_
                    refine x_iload_n 4 dX3_guest_124 rfl ?_
                    refine clX3_244 (qX3_power od t1 (by omega)) (by decide) rfl dX3_guest_125 (fun r125 τ125 h125 => ?_)
                    obtain ⟨rfl, rfl⟩ := h125
                    refine x_iload 6 dX3_guest_128 rfl ?_
                    refine clX3_248 (qX3_partOf (by rw [← hst]; exact f_gsum_lt (by omega) ht) (f_gpow hod ht) (Nat.pow_pos (by omega)) what) (by decide) rfl dX3_guest_130 (fun r130 τ130 h130 => ?_)
                    obtain ⟨rfl, rfl⟩ := h130
                    exact x_lret dX3_guest_133 (by rw [show p_guest n r (nI h) (nI t1) (nI od) what = (f_part (f_gsum n r h t1 (od - 1) s) (od ^ t1) what, 0) from by unfold p_guest; rw [if_pos c8, if_neg (not_or.mpr ⟨c18, (Int32.not_lt.mpr c23)⟩), if_neg (not_or.mpr ⟨c36, (Int32.not_lt.mpr c42)⟩), if_pos hwt, nI_clamp (show h < 2 ^ 31 by omega), nI_clamp ht31, nI_clamp ho31, hst]]; exact ⟨rfl, Qz.off hO⟩)
                  · have hs := nI_lt_of (by omega) (by omega) c81
                    have hct := f_cnt_t ht hs
                    have hcl := f_cnt_le s
                    refine x_aload_n 2 dX3_guest_84 rfl ?_
                    refine x_iload_n 3 dX3_guest_85 rfl ?_
                    refine x_iload_n 4 dX3_guest_86 rfl ?_
                    refine x_iload 0 dX3_guest_87 rfl ?_
                    refine clX3_240 (qX3_isKeptWithGuests (hN.off (by decide) (by decide) hO) (hT.offt hn6 (by decide) (by decide) (by decide) (by decide) (by decide) hO) hw h t1 s hh (by omega) (by omega)) (by decide) rfl dX3_guest_89 (fun r89 τ89 h89 => ?_)
                    obtain ⟨rfl, hO9⟩ := h89
                    have hO8 := hO.tr hO9
                    refine x_if_eq dX3_guest_92 (fun c92 => ?_) (fun c92 => ?_)
                    · replace c92 := zb_0 c92
                      refine x_iinc (v := nI (s + 1)) (lv' := [(7, .int (nI (s + 1))), (5, .long (lN (f_gsum n r h t1 (od - 1) s))), (0, mx_rf E 0), (1, .int (nI h)), (2, .int (nI t1)), (3, .int (nI od)), (4, .int what)]) 0 dX3_guest_114 rfl (nI_1 _) (by decide) rfl ?_
                      refine x_goto dX3_guest_117 ?_
                      exact nat_eq (P := fun x => MX E _ _ _ _ _ _ [(7, .int (nI (s + 1))), (5, .long (lN x)), (0, mx_rf E 0), (1, .int (nI h)), (2, .int (nI t1)), (3, .int (nI od)), (4, .int what)] _ _ _) (f_gsum_F c92).symm (ih76 (s + 1) (by omega) (by omega) _ hO8)
                    · replace c92 := zb_1 c92
                      refine x_lload 1 dX3_guest_95 rfl ?_
                      refine x_iload_n 5 dX3_guest_97 rfl ?_
                      refine x_iconst (v := 1) dX3_guest_98 (by decide) ?_
                      refine x_isub dX3_guest_99 ?_
                      refine x_top (show (nI od) - 1 = nI (od - 1) from (pk_sub (show 1 ≤ od by omega))) ?_
                      refine x_i2l dX3_guest_100 ?_
                      refine x_topL (show (nI (od - 1) : Int32).toInt64 = lN (od - 1) from wN_int (n := od - 1) (by omega)) ?_
                      refine x_iload_n 4 dX3_guest_101 rfl ?_
                      refine x_iload 0 dX3_guest_102 rfl ?_
                      refine clX3_193 (qJ6_bitCount s (by omega)) (by decide) rfl dX3_guest_104 (fun r104 τ104 h104 => ?_)
                      obtain ⟨rfl, rfl⟩ := h104
                      refine x_isub dX3_guest_107 ?_
                      refine x_top (show (nI t1) - (nI (f_cnt s)) = nI (t1 - f_cnt s) from (pk_sub hct)) ?_
                      refine clX3_244 (qX3_power (od - 1) (t1 - f_cnt s) (by omega)) (by decide) rfl dX3_guest_108 (fun r108 τ108 h108 => ?_)
                      obtain ⟨rfl, rfl⟩ := h108
                      refine x_ladd dX3_guest_111 ?_
                      refine x_topL (show (lN (f_gsum n r h t1 (od - 1) s)) + (lN ((od - 1) ^ (t1 - f_cnt s))) = lN (f_gsum n r h t1 (od - 1) s + ((od - 1) ^ (t1 - f_cnt s))) from wN_add _ _) ?_
                      refine x_lstore (lv' := [(5, .long (lN (f_gsum n r h t1 (od - 1) s + ((od - 1) ^ (t1 - f_cnt s))))), (7, .int (nI s)), (0, mx_rf E 0), (1, .int (nI h)), (2, .int (nI t1)), (3, .int (nI od)), (4, .int what)]) dX3_guest_112 rfl (by decide) rfl ?_
                      refine x_iinc (v := nI (s + 1)) (lv' := [(7, .int (nI (s + 1))), (5, .long (lN (f_gsum n r h t1 (od - 1) s + ((od - 1) ^ (t1 - f_cnt s))))), (0, mx_rf E 0), (1, .int (nI h)), (2, .int (nI t1)), (3, .int (nI od)), (4, .int what)]) 1 dX3_guest_114 rfl (nI_1 _) (by decide) rfl ?_
                      refine x_goto dX3_guest_117 ?_
                      exact nat_eq (P := fun x => MX E _ _ _ _ _ _ [(7, .int (nI (s + 1))), (5, .long (lN x)), (0, mx_rf E 0), (1, .int (nI h)), (2, .int (nI t1)), (3, .int (nI od)), (4, .int what)] _ _ _) (f_gsum_T ht hs c92).symm (ih76 (s + 1) (by omega) (by omega) _ hO8)
                exact key76 0 (Nat.zero_le _) _ Off.rf
              · have hwt : f_in what 0 1 = false := by unfold f_in; rw [decide_eq_false c60, Bool.and_false]
                refine x_aload_n 0 dX3_guest_63 rfl ?_
                refine x_bipush (v := -2) dX3_guest_64 (by decide) ?_
                refine clX3_236 (qX3_refuseLong 2 (by decide) (by decide)) (by decide) rfl dX3_guest_66 (fun r66 τ66 h66 => ?_)
                obtain ⟨rfl, rfl⟩ := h66
                exact x_lret dX3_guest_69 (by rw [show p_guest n r (nI h) (nI t1) (nI od) what = (4000000000000000000 - (-nI 2).toInt64, 2) from by simp [p_guest, c8, c18, (Int32.not_lt.mp c18), c23, (Int32.not_lt.mpr c23), c36, (Int32.not_lt.mp c36), c42, (Int32.not_lt.mpr c42), c54, (Int32.not_lt.mp c54), c60, (Int32.not_le.mp c60), nI_clamp (show h < 2 ^ 31 by omega), hwt]]; exact ⟨rfl, Qz.no⟩)
          · refine x_aload_n 0 dX3_guest_45 rfl ?_
            refine x_bipush (v := -6) dX3_guest_46 (by decide) ?_
            refine clX3_236 (qX3_refuseLong 6 (by decide) (by decide)) (by decide) rfl dX3_guest_48 (fun r48 τ48 h48 => ?_)
            obtain ⟨rfl, rfl⟩ := h48
            exact x_lret dX3_guest_51 (by rw [show p_guest n r (nI h) (nI t1) (nI od) what = (4000000000000000000 - (-nI 6).toInt64, 6) from by simp [p_guest, c8, c18, (Int32.not_lt.mp c18), c23, (Int32.not_lt.mpr c23), c36, (Int32.not_lt.mp c36), c42, (Int32.not_le.mp c42), nI_clamp (show h < 2 ^ 31 by omega)]]; exact ⟨rfl, Qz.no⟩)
      · refine x_aload_n 0 dX3_guest_26 rfl ?_
        refine x_bipush (v := -4) dX3_guest_27 (by decide) ?_
        refine clX3_236 (qX3_refuseLong 4 (by decide) (by decide)) (by decide) rfl dX3_guest_29 (fun r29 τ29 h29 => ?_)
        obtain ⟨rfl, rfl⟩ := h29
        exact x_lret dX3_guest_32 (by rw [show p_guest n r (nI h) t odds what = (4000000000000000000 - (-nI 4).toInt64, 4) from by simp [p_guest, c8, c18, (Int32.not_lt.mp c18), c23, (Int32.not_le.mp c23), nI_clamp (show h < 2 ^ 31 by omega)]]; exact ⟨rfl, Qz.no⟩)
  · replace c8 := zb_0 c8
    refine x_aload_n 0 dX3_guest_11 rfl ?_
    refine x_iconst (v := -1) dX3_guest_12 (by decide) ?_
    refine clX3_236 (qX3_refuseLong 1 (by decide) (by decide)) (by decide) rfl dX3_guest_13 (fun r13 τ13 h13 => ?_)
    obtain ⟨rfl, rfl⟩ := h13
    exact x_lret dX3_guest_16 (by rw [show p_guest n r house t odds what = (4000000000000000000 - (-nI 1).toInt64, 1) from by simp [p_guest, c8]]; exact ⟨rfl, Qz.no⟩)
