set_option maxHeartbeats 4000000 in
theorem qX2_pass {E : mx_E} {σ : Mem} {t n : Nat} (ht1 : 1 ≤ t) (ht2 : t < 4) {r : Row} (hT : TI σ t n r) (hw : wf n r) (hN : NW σ) (w : Nat) (hw9 : w < 1000) : MX2_pass E 3 [mx_rf E t, .int (nI w)] σ (mx_v (fun τ => TI τ t n (f_weeks n r w) ∧ Off t σ τ)) := by
  refine MM.of (lv := [(0, mx_rf E t), (1, .int (nI w))]) kpX2 rfl (Nat.le_of_ble_eq_true rfl) rfl ?_
  have hn6 := hw.1
  refine x_iconst (v := 0) dX2_pass_0 (by decide) ?_
  refine x_istore_n (lv' := [(2, .int 0), (0, mx_rf E t), (1, .int (nI w))]) dX2_pass_1 rfl (by decide) rfl ?_
  have key2 : ∀ j, j ≤ w → ∀ (τ : Mem) (q : Row), q = f_weeks n r j → TI τ t n q → wf n q → Off t σ τ → MX E 3 RX2 cX2_pass 5 none 2 [(2, .int (nI j)), (0, mx_rf E t), (1, .int (nI w))] [] τ (mx_v (fun τ => TI τ t n (f_weeks n r w) ∧ Off t σ τ)) := by
    refine mx_ind w (fun j hi2 ih2 => ?_)
    intro τ q eq hT hw2 hO
    refine x_iload_n 0 dX2_pass_2 rfl ?_
    refine x_iload_n 2 dX2_pass_3 rfl ?_
    refine x_icmp_ge dX2_pass_4 (fun c4 => ?_) (fun c4 => ?_)
    · have hge := nI_le_of (by omega) (by omega) c4
      have hjw : j = w := by omega
      exact x_vret dX2_pass_80 ⟨by rw [← hjw, ← eq]; exact hT, hO⟩
    · have hltj := nI_lt_of (by omega) (by omega) c4
      refine x_aload_n 1 dX2_pass_7 rfl ?_
      refine x_dup dX2_pass_8 rfl ?_
      refine gfX2_32 (by omega) (by omega) dX2_pass_9 ?_
      refine x_top (show τ t 5 = q 1 from hT.2.2.2.1) ?_
      refine x_iconst (v := 1) dX2_pass_12 (by decide) ?_
      refine x_iadd dX2_pass_13 ?_
      refine pfX2_32 (by omega) (by omega) dX2_pass_14 ?_
      have hT1 : TI (mx_up τ t 5 ((q 1) + 1)) t n (upd q 1 (q 1 + 1)) := hT.week ht1 _
      have hO1 : Off t σ (mx_up τ t 5 ((q 1) + 1)) := hO.up inT_t
      have hwq1 := wf_week1 hw2 (q 1 + 1)
      refine x_iconst (v := 0) dX2_pass_17 (by decide) ?_
      refine x_istore_n (lv' := [(3, .int 0), (2, .int (nI j)), (0, mx_rf E t), (1, .int (nI w))]) dX2_pass_18 rfl (by decide) rfl ?_
      have key19 : ∀ i, i ≤ n → ∀ (υ : Mem) (Q : Row), Q = f_ageU (upd q 1 (q 1 + 1)) i → TI υ t n Q → wf n Q → Off t σ υ → MX E 3 RX2 cX2_pass 5 none 19 [(3, .int (nI i)), (2, .int (nI j)), (0, mx_rf E t), (1, .int (nI w))] [] υ (mx_v (fun τ => TI τ t n (f_weeks n r w) ∧ Off t σ τ)) := by
        refine mx_ind n (fun i hi19 ih19 => ?_)
        intro υ Q eQ hT hwQ hO
        refine x_iload_n 0 dX2_pass_19 rfl ?_
        refine x_aload_n 2 dX2_pass_20 rfl ?_
        refine gfX2_22 (by omega) (by omega) dX2_pass_21 ?_
        refine x_top (show υ t 2 = nI n from hT.1) ?_
        refine x_icmp_ge dX2_pass_24 (fun c24 => ?_) (fun c24 => ?_)
        · have eQn : Q = f_ageU (upd q 1 (q 1 + 1)) n := by rw [eQ]; exact f_ageU_end hn6 hi19 c24
          refine x_aload_n 2 dX2_pass_70 rfl ?_
          refine clX2_63 (qX2_inspect ht1 ht2 hT hwQ (hN.off ht1 ht2 hO)) (by decide) (by omega) (by omega) rfl dX2_pass_71 (fun τ71 h71 => ?_)
          refine x_iinc (v := nI (j + 1)) (lv' := [(2, .int (nI (j + 1))), (3, .int (nI i)), (0, mx_rf E t), (1, .int (nI w))]) 1 dX2_pass_74 rfl (nI_1 _) (by decide) rfl ?_
          refine x_goto dX2_pass_77 ?_
          refine x_lvs [0, 2, 3] rfl ?_
          exact ih2 (j + 1) (by omega) (by omega) _ (f_insp n Q) (by rw [eQn, eq]; rfl) h71.1 (wf_insp hwQ) (hO.tr h71.2)
        · have hlt := nI_lt_of (by omega) (by omega) c24
          refine x_aload_n 2 dX2_pass_27 rfl ?_
          refine x_iload_n 0 dX2_pass_28 rfl ?_
          refine clX2_35 (qX2_at (by omega) (by omega) hT.1 hn6 hlt) (by decide) (by omega) (by omega) rfl dX2_pass_29 (fun r29 τ29 h29 => ?_)
          obtain ⟨rfl, rfl⟩ := h29
          refine x_astore (lv' := [(4, mx_rf E (4 + 6 * t + i)), (3, .int (nI i)), (2, .int (nI j)), (0, mx_rf E t), (1, .int (nI w))]) dX2_pass_32 rfl (by decide) rfl ?_
          refine x_aload 0 dX2_pass_34 rfl ?_
          refine gfX2_55 (by omega) (by omega) dX2_pass_36 ?_
          refine x_top (show υ (4 + 6 * t + i) 6 = zb (f_kept Q i) from (hT.2.2.2.2 _ hlt).2.1) ?_
          refine x_if_eq dX2_pass_39 (fun c39 => ?_) (fun c39 => ?_)
          · replace c39 := zb_0 c39
            refine x_iinc (v := nI (i + 1)) (lv' := [(3, .int (nI (i + 1))), (4, mx_rf E (4 + 6 * t + i)), (2, .int (nI j)), (0, mx_rf E t), (1, .int (nI w))]) 1 dX2_pass_64 rfl (nI_1 _) (by decide) rfl ?_
            refine x_goto dX2_pass_67 ?_
            refine x_lvs [0, 2, 3, 4] rfl ?_
            exact ih19 (i + 1) (by omega) (by omega) _ Q (by rw [f_ageU_s, ← eQ, c39]; simp) hT hwQ hO
          · replace c39 := zb_1 c39
            refine x_aload_n 3 dX2_pass_42 rfl ?_
            refine x_dup dX2_pass_43 rfl ?_
            refine gfX2_29 (by omega) (by omega) dX2_pass_44 ?_
            refine x_top (show υ t 4 = Q 3 from hT.2.2.1) ?_
            refine x_aload 0 dX2_pass_47 rfl ?_
            refine x_aload_n 3 dX2_pass_49 rfl ?_
            refine gfX2_32 (by omega) (by omega) dX2_pass_50 ?_
            refine x_top (show υ t 5 = Q 1 from hT.2.2.2.1) ?_
            refine x_aload_n 3 dX2_pass_53 rfl ?_
            refine gfX2_29 (by omega) (by omega) dX2_pass_54 ?_
            refine x_top (show υ t 4 = Q 3 from hT.2.2.1) ?_
            refine clX2_59 (pX0_spendWeek (by omega) (by omega) (Q 1) (Q 3) (f_kept Q i) (f_lets Q i) (hT.2.2.2.2 _ hlt).2.1 (hT.2.2.2.2 _ hlt).2.2 (wf_hk hwQ hlt (hT.2.2.2.2 _ hlt)).1 (wf_hk hwQ hlt (hT.2.2.2.2 _ hlt)).2) (by decide) (by omega) (by omega) rfl dX2_pass_57 (fun r57 τ57 h57 => ?_)
            obtain ⟨rfl, rfl⟩ := h57
            refine x_isub dX2_pass_60 ?_
            refine pfX2_29 (by omega) (by omega) dX2_pass_61 ?_
            have hT3 : TI (mx_up (mx_row υ (4 + 6 * t + i) (h_sp (υ (4 + 6 * t + i)) (Q 1) (Q 3) (f_kept Q i) (f_lets Q i))) t 4 ((Q 3) - (h_spR (υ (4 + 6 * t + i)) (Q 3)))) t n (f_ages Q i) := hT.ages ht1 hlt
            have hO3 : Off t σ (mx_up (mx_row υ (4 + 6 * t + i) (h_sp (υ (4 + 6 * t + i)) (Q 1) (Q 3) (f_kept Q i) (f_lets Q i))) t 4 ((Q 3) - (h_spR (υ (4 + 6 * t + i)) (Q 3)))) := (hO.row (inT_h (by omega))).up inT_t
            refine x_iinc (v := nI (i + 1)) (lv' := [(3, .int (nI (i + 1))), (4, mx_rf E (4 + 6 * t + i)), (2, .int (nI j)), (0, mx_rf E t), (1, .int (nI w))]) 1 dX2_pass_64 rfl (nI_1 _) (by decide) rfl ?_
            refine x_goto dX2_pass_67 ?_
            refine x_lvs [0, 2, 3, 4] rfl ?_
            exact ih19 (i + 1) (by omega) (by omega) _ (f_ages Q i) (by rw [f_ageU_s, ← eQ, if_pos c39]) hT3 (by rw [show f_ages Q i = f_ageU (upd q 1 (q 1 + 1)) (i + 1) by rw [f_ageU_s, ← eQ, if_pos c39]]; exact wf_ageU hwq1 _) hO3
      exact key19 0 (Nat.zero_le _) _ _ rfl hT1 hwq1 hO1
  exact key2 0 (Nat.zero_le _) σ r rfl hT hw Off.rf

theorem acc_eq {P : Int32 → Prop} {x y : Int32} (h : y = x) (p : P y) : P x := h ▸ p

set_option maxHeartbeats 4000000 in
theorem qX2_keptBits {E : mx_E} {σ : Mem} {t n : Nat} (ht1 : 1 ≤ t) (ht2 : t < 4) {r : Row} (hT : TI σ t n r) (hw : wf n r)  : MX2_keptBits E 1 [mx_rf E t] σ (mx_ie (r 4) σ) := by
  refine MM.of (lv := [(0, mx_rf E t)]) kpX2 rfl (Nat.le_of_ble_eq_true rfl) rfl ?_
  have hn6 := hw.1
  obtain ⟨K, hK, hKn, e4⟩ := wf_K hw
  refine x_iconst (v := 0) dX2_keptBits_0 (by decide) ?_
  refine x_istore_n (lv' := [(1, .int 0), (0, mx_rf E t)]) dX2_keptBits_1 rfl (by decide) rfl ?_
  refine x_iconst (v := 0) dX2_keptBits_2 (by decide) ?_
  refine x_istore_n (lv' := [(2, .int 0), (1, .int 0), (0, mx_rf E t)]) dX2_keptBits_3 rfl (by decide) rfl ?_
  have key4 : ∀ i, i ≤ n → MX E 1 RX2 cX2_keptBits 3 (some .int) 4 [(2, .int (nI i)), (1, .int (nI (K % 2 ^ i))), (0, mx_rf E t)] [] σ (mx_ie (r 4) σ) := by
    refine mx_ind n (fun i hi4 ih4 => ?_)
    refine x_iload_n 0 dX2_keptBits_4 rfl ?_
    refine x_aload_n 2 dX2_keptBits_5 rfl ?_
    refine gfX2_22 (by omega) (by omega) dX2_keptBits_6 ?_
    refine x_top (show σ t 2 = nI n from hT.1) ?_
    refine x_icmp_ge dX2_keptBits_9 (fun c9 => ?_) (fun c9 => ?_)
    · have hge := nI_le_of (by omega) (by omega) c9
      have hin : i = n := by omega
      refine x_iload_n 1 dX2_keptBits_35 rfl ?_
      exact x_iret dX2_keptBits_36 ⟨by rw [hin, Nat.mod_eq_of_lt hKn]; exact e4, rfl⟩
    · have hlt := nI_lt_of (by omega) (by omega) c9
      have hkt : f_kept r i = K.testBit i := wf_kt (n := n) hK e4 (by omega)
      refine x_aload_n 2 dX2_keptBits_12 rfl ?_
      refine x_iload_n 0 dX2_keptBits_13 rfl ?_
      refine clX2_35 (qX2_at (by omega) (by omega) hT.1 hn6 hlt) (by decide) (by omega) (by omega) rfl dX2_keptBits_14 (fun r14 τ14 h14 => ?_)
      obtain ⟨rfl, rfl⟩ := h14
      refine gfX2_55 (by omega) (by omega) dX2_keptBits_17 ?_
      refine x_top (show σ (4 + 6 * t + i) 6 = zb (f_kept r i) from (hT.2.2.2.2 _ hlt).2.1) ?_
      refine x_if_eq dX2_keptBits_20 (fun c20 => ?_) (fun c20 => ?_)
      · replace c20 := zb_0 c20
        refine x_iinc (v := nI (i + 1)) (lv' := [(2, .int (nI (i + 1))), (1, .int (nI (K % 2 ^ i))), (0, mx_rf E t)]) 0 dX2_keptBits_29 rfl (nI_1 _) (by decide) rfl ?_
        refine x_goto dX2_keptBits_32 ?_
        exact acc_eq (P := fun x => MX E _ _ _ _ _ _ [(2, .int (nI (i + 1))), (1, .int x), (0, mx_rf E t)] _ _ _) (by rw [f_orN ⟨K, hK⟩ ⟨i, by omega⟩ (by rw [← hkt]; exact c20)]) (ih4 (i + 1) (by omega) (by omega))
      · replace c20 := zb_1 c20
        refine x_iload_n 1 dX2_keptBits_23 rfl ?_
        refine x_iconst (v := 1) dX2_keptBits_24 (by decide) ?_
        refine x_iload_n 0 dX2_keptBits_25 rfl ?_
        refine x_ishl dX2_keptBits_26 ?_
        refine x_ior dX2_keptBits_27 ?_
        refine x_top (show (nI (K % 2 ^ i)) ||| (1 <<< ((nI i) &&& 31)) = nI (K % 2 ^ (i + 1)) from f_orB ⟨K, hK⟩ ⟨i, by omega⟩ (by rw [← hkt]; exact c20)) ?_
        refine x_istore_n (lv' := [(1, .int (nI (K % 2 ^ (i + 1)))), (2, .int (nI i)), (0, mx_rf E t)]) dX2_keptBits_28 rfl (by decide) rfl ?_
        refine x_iinc (v := nI (i + 1)) (lv' := [(2, .int (nI (i + 1))), (1, .int (nI (K % 2 ^ (i + 1)))), (0, mx_rf E t)]) 1 dX2_keptBits_29 rfl (nI_1 _) (by decide) rfl ?_
        refine x_goto dX2_keptBits_32 ?_
        exact ih4 (i + 1) (by omega) (by omega)
  exact acc_eq (P := fun x => MX E _ _ _ _ _ _ [(2, .int 0), (1, .int x), (0, mx_rf E t)] _ _ _) (by rw [Nat.pow_zero, Nat.mod_one]; rfl) (key4 0 (Nat.zero_le _))

theorem bitc : ∀ K : Fin 128, ((((((((nI K.val) - ((((nI K.val).toUInt32 >>> ((1 : Int32).toUInt32 &&& Int32.toUInt32 31)).toInt32) &&& 1431655765)) &&& 858993459) + (((((nI K.val) - ((((nI K.val).toUInt32 >>> ((1 : Int32).toUInt32 &&& Int32.toUInt32 31)).toInt32) &&& 1431655765)).toUInt32 >>> ((2 : Int32).toUInt32 &&& Int32.toUInt32 31)).toInt32) &&& 858993459)) + ((((((nI K.val) - ((((nI K.val).toUInt32 >>> ((1 : Int32).toUInt32 &&& Int32.toUInt32 31)).toInt32) &&& 1431655765)) &&& 858993459) + (((((nI K.val) - ((((nI K.val).toUInt32 >>> ((1 : Int32).toUInt32 &&& Int32.toUInt32 31)).toInt32) &&& 1431655765)).toUInt32 >>> ((2 : Int32).toUInt32 &&& Int32.toUInt32 31)).toInt32) &&& 858993459)).toUInt32 >>> ((4 : Int32).toUInt32 &&& Int32.toUInt32 31)).toInt32)) &&& 252645135) + ((((((((nI K.val) - ((((nI K.val).toUInt32 >>> ((1 : Int32).toUInt32 &&& Int32.toUInt32 31)).toInt32) &&& 1431655765)) &&& 858993459) + (((((nI K.val) - ((((nI K.val).toUInt32 >>> ((1 : Int32).toUInt32 &&& Int32.toUInt32 31)).toInt32) &&& 1431655765)).toUInt32 >>> ((2 : Int32).toUInt32 &&& Int32.toUInt32 31)).toInt32) &&& 858993459)) + ((((((nI K.val) - ((((nI K.val).toUInt32 >>> ((1 : Int32).toUInt32 &&& Int32.toUInt32 31)).toInt32) &&& 1431655765)) &&& 858993459) + (((((nI K.val) - ((((nI K.val).toUInt32 >>> ((1 : Int32).toUInt32 &&& Int32.toUInt32 31)).toInt32) &&& 1431655765)).toUInt32 >>> ((2 : Int32).toUInt32 &&& Int32.toUInt32 31)).toInt32) &&& 858993459)).toUInt32 >>> ((4 : Int32).toUInt32 &&& Int32.toUInt32 31)).toInt32)) &&& 252645135).toUInt32 >>> ((8 : Int32).toUInt32 &&& Int32.toUInt32 31)).toInt32)) + (((((((((nI K.val) - ((((nI K.val).toUInt32 >>> ((1 : Int32).toUInt32 &&& Int32.toUInt32 31)).toInt32) &&& 1431655765)) &&& 858993459) + (((((nI K.val) - ((((nI K.val).toUInt32 >>> ((1 : Int32).toUInt32 &&& Int32.toUInt32 31)).toInt32) &&& 1431655765)).toUInt32 >>> ((2 : Int32).toUInt32 &&& Int32.toUInt32 31)).toInt32) &&& 858993459)) + ((((((nI K.val) - ((((nI K.val).toUInt32 >>> ((1 : Int32).toUInt32 &&& Int32.toUInt32 31)).toInt32) &&& 1431655765)) &&& 858993459) + (((((nI K.val) - ((((nI K.val).toUInt32 >>> ((1 : Int32).toUInt32 &&& Int32.toUInt32 31)).toInt32) &&& 1431655765)).toUInt32 >>> ((2 : Int32).toUInt32 &&& Int32.toUInt32 31)).toInt32) &&& 858993459)).toUInt32 >>> ((4 : Int32).toUInt32 &&& Int32.toUInt32 31)).toInt32)) &&& 252645135) + ((((((((nI K.val) - ((((nI K.val).toUInt32 >>> ((1 : Int32).toUInt32 &&& Int32.toUInt32 31)).toInt32) &&& 1431655765)) &&& 858993459) + (((((nI K.val) - ((((nI K.val).toUInt32 >>> ((1 : Int32).toUInt32 &&& Int32.toUInt32 31)).toInt32) &&& 1431655765)).toUInt32 >>> ((2 : Int32).toUInt32 &&& Int32.toUInt32 31)).toInt32) &&& 858993459)) + ((((((nI K.val) - ((((nI K.val).toUInt32 >>> ((1 : Int32).toUInt32 &&& Int32.toUInt32 31)).toInt32) &&& 1431655765)) &&& 858993459) + (((((nI K.val) - ((((nI K.val).toUInt32 >>> ((1 : Int32).toUInt32 &&& Int32.toUInt32 31)).toInt32) &&& 1431655765)).toUInt32 >>> ((2 : Int32).toUInt32 &&& Int32.toUInt32 31)).toInt32) &&& 858993459)).toUInt32 >>> ((4 : Int32).toUInt32 &&& Int32.toUInt32 31)).toInt32)) &&& 252645135).toUInt32 >>> ((8 : Int32).toUInt32 &&& Int32.toUInt32 31)).toInt32)).toUInt32 >>> ((16 : Int32).toUInt32 &&& Int32.toUInt32 31)).toInt32)) &&& 63 = nI (f_cnt K.val) := by decide +kernel

set_option maxHeartbeats 4000000 in
theorem qJ6_bitCount {E : mx_E} {σ : Mem} (K : Nat) (hK : K < 128) : MJ6_bitCount_0f7a4 E 0 [.int (nI K)] σ (mx_ie (nI (f_cnt K)) σ) := by
  refine MM.of (lv := [(0, .int (nI K))]) kpJ6 rfl (Nat.le_of_ble_eq_true rfl) rfl ?_
  refine x_iload_n 0 dJ6_bitCount_0f7a4_0 rfl ?_
  refine x_iload_n 0 dJ6_bitCount_0f7a4_1 rfl ?_
  refine x_iconst (v := 1) dJ6_bitCount_0f7a4_2 (by decide) ?_
  refine x_iushr dJ6_bitCount_0f7a4_3 ?_
  refine x_ldcw dJ6_bitCount_0f7a4_4 kkJ6_265 ?_
  refine x_iand dJ6_bitCount_0f7a4_7 ?_
  refine x_isub dJ6_bitCount_0f7a4_8 ?_
  refine x_istore_n (lv' := [(0, .int ((nI K) - ((((nI K).toUInt32 >>> ((1 : Int32).toUInt32 &&& Int32.toUInt32 31)).toInt32) &&& 1431655765)))]) dJ6_bitCount_0f7a4_9 rfl (by decide) rfl ?_
  refine x_iload_n 0 dJ6_bitCount_0f7a4_10 rfl ?_
  refine x_ldcw dJ6_bitCount_0f7a4_11 kkJ6_266 ?_
  refine x_iand dJ6_bitCount_0f7a4_14 ?_
  refine x_iload_n 0 dJ6_bitCount_0f7a4_15 rfl ?_
  refine x_iconst (v := 2) dJ6_bitCount_0f7a4_16 (by decide) ?_
  refine x_iushr dJ6_bitCount_0f7a4_17 ?_
  refine x_ldcw dJ6_bitCount_0f7a4_18 kkJ6_266 ?_
  refine x_iand dJ6_bitCount_0f7a4_21 ?_
  refine x_iadd dJ6_bitCount_0f7a4_22 ?_
  refine x_istore_n (lv' := [(0, .int ((((nI K) - ((((nI K).toUInt32 >>> ((1 : Int32).toUInt32 &&& Int32.toUInt32 31)).toInt32) &&& 1431655765)) &&& 858993459) + (((((nI K) - ((((nI K).toUInt32 >>> ((1 : Int32).toUInt32 &&& Int32.toUInt32 31)).toInt32) &&& 1431655765)).toUInt32 >>> ((2 : Int32).toUInt32 &&& Int32.toUInt32 31)).toInt32) &&& 858993459)))]) dJ6_bitCount_0f7a4_23 rfl (by decide) rfl ?_
  refine x_iload_n 0 dJ6_bitCount_0f7a4_24 rfl ?_
  refine x_iload_n 0 dJ6_bitCount_0f7a4_25 rfl ?_
  refine x_iconst (v := 4) dJ6_bitCount_0f7a4_26 (by decide) ?_
  refine x_iushr dJ6_bitCount_0f7a4_27 ?_
  refine x_iadd dJ6_bitCount_0f7a4_28 ?_
  refine x_ldcw dJ6_bitCount_0f7a4_29 kkJ6_267 ?_
  refine x_iand dJ6_bitCount_0f7a4_32 ?_
  refine x_istore_n (lv' := [(0, .int ((((((nI K) - ((((nI K).toUInt32 >>> ((1 : Int32).toUInt32 &&& Int32.toUInt32 31)).toInt32) &&& 1431655765)) &&& 858993459) + (((((nI K) - ((((nI K).toUInt32 >>> ((1 : Int32).toUInt32 &&& Int32.toUInt32 31)).toInt32) &&& 1431655765)).toUInt32 >>> ((2 : Int32).toUInt32 &&& Int32.toUInt32 31)).toInt32) &&& 858993459)) + ((((((nI K) - ((((nI K).toUInt32 >>> ((1 : Int32).toUInt32 &&& Int32.toUInt32 31)).toInt32) &&& 1431655765)) &&& 858993459) + (((((nI K) - ((((nI K).toUInt32 >>> ((1 : Int32).toUInt32 &&& Int32.toUInt32 31)).toInt32) &&& 1431655765)).toUInt32 >>> ((2 : Int32).toUInt32 &&& Int32.toUInt32 31)).toInt32) &&& 858993459)).toUInt32 >>> ((4 : Int32).toUInt32 &&& Int32.toUInt32 31)).toInt32)) &&& 252645135))]) dJ6_bitCount_0f7a4_33 rfl (by decide) rfl ?_
  refine x_iload_n 0 dJ6_bitCount_0f7a4_34 rfl ?_
  refine x_iload_n 0 dJ6_bitCount_0f7a4_35 rfl ?_
  refine x_bipush (v := 8) dJ6_bitCount_0f7a4_36 (by decide) ?_
  refine x_iushr dJ6_bitCount_0f7a4_38 ?_
  refine x_iadd dJ6_bitCount_0f7a4_39 ?_
  refine x_istore_n (lv' := [(0, .int (((((((nI K) - ((((nI K).toUInt32 >>> ((1 : Int32).toUInt32 &&& Int32.toUInt32 31)).toInt32) &&& 1431655765)) &&& 858993459) + (((((nI K) - ((((nI K).toUInt32 >>> ((1 : Int32).toUInt32 &&& Int32.toUInt32 31)).toInt32) &&& 1431655765)).toUInt32 >>> ((2 : Int32).toUInt32 &&& Int32.toUInt32 31)).toInt32) &&& 858993459)) + ((((((nI K) - ((((nI K).toUInt32 >>> ((1 : Int32).toUInt32 &&& Int32.toUInt32 31)).toInt32) &&& 1431655765)) &&& 858993459) + (((((nI K) - ((((nI K).toUInt32 >>> ((1 : Int32).toUInt32 &&& Int32.toUInt32 31)).toInt32) &&& 1431655765)).toUInt32 >>> ((2 : Int32).toUInt32 &&& Int32.toUInt32 31)).toInt32) &&& 858993459)).toUInt32 >>> ((4 : Int32).toUInt32 &&& Int32.toUInt32 31)).toInt32)) &&& 252645135) + ((((((((nI K) - ((((nI K).toUInt32 >>> ((1 : Int32).toUInt32 &&& Int32.toUInt32 31)).toInt32) &&& 1431655765)) &&& 858993459) + (((((nI K) - ((((nI K).toUInt32 >>> ((1 : Int32).toUInt32 &&& Int32.toUInt32 31)).toInt32) &&& 1431655765)).toUInt32 >>> ((2 : Int32).toUInt32 &&& Int32.toUInt32 31)).toInt32) &&& 858993459)) + ((((((nI K) - ((((nI K).toUInt32 >>> ((1 : Int32).toUInt32 &&& Int32.toUInt32 31)).toInt32) &&& 1431655765)) &&& 858993459) + (((((nI K) - ((((nI K).toUInt32 >>> ((1 : Int32).toUInt32 &&& Int32.toUInt32 31)).toInt32) &&& 1431655765)).toUInt32 >>> ((2 : Int32).toUInt32 &&& Int32.toUInt32 31)).toInt32) &&& 858993459)).toUInt32 >>> ((4 : Int32).toUInt32 &&& Int32.toUInt32 31)).toInt32)) &&& 252645135).toUInt32 >>> ((8 : Int32).toUInt32 &&& Int32.toUInt32 31)).toInt32)))]) dJ6_bitCount_0f7a4_40 rfl (by decide) rfl ?_
  refine x_iload_n 0 dJ6_bitCount_0f7a4_41 rfl ?_
  refine x_iload_n 0 dJ6_bitCount_0f7a4_42 rfl ?_
  refine x_bipush (v := 16) dJ6_bitCount_0f7a4_43 (by decide) ?_
  refine x_iushr dJ6_bitCount_0f7a4_45 ?_
  refine x_iadd dJ6_bitCount_0f7a4_46 ?_
  refine x_istore_n (lv' := [(0, .int ((((((((nI K) - ((((nI K).toUInt32 >>> ((1 : Int32).toUInt32 &&& Int32.toUInt32 31)).toInt32) &&& 1431655765)) &&& 858993459) + (((((nI K) - ((((nI K).toUInt32 >>> ((1 : Int32).toUInt32 &&& Int32.toUInt32 31)).toInt32) &&& 1431655765)).toUInt32 >>> ((2 : Int32).toUInt32 &&& Int32.toUInt32 31)).toInt32) &&& 858993459)) + ((((((nI K) - ((((nI K).toUInt32 >>> ((1 : Int32).toUInt32 &&& Int32.toUInt32 31)).toInt32) &&& 1431655765)) &&& 858993459) + (((((nI K) - ((((nI K).toUInt32 >>> ((1 : Int32).toUInt32 &&& Int32.toUInt32 31)).toInt32) &&& 1431655765)).toUInt32 >>> ((2 : Int32).toUInt32 &&& Int32.toUInt32 31)).toInt32) &&& 858993459)).toUInt32 >>> ((4 : Int32).toUInt32 &&& Int32.toUInt32 31)).toInt32)) &&& 252645135) + ((((((((nI K) - ((((nI K).toUInt32 >>> ((1 : Int32).toUInt32 &&& Int32.toUInt32 31)).toInt32) &&& 1431655765)) &&& 858993459) + (((((nI K) - ((((nI K).toUInt32 >>> ((1 : Int32).toUInt32 &&& Int32.toUInt32 31)).toInt32) &&& 1431655765)).toUInt32 >>> ((2 : Int32).toUInt32 &&& Int32.toUInt32 31)).toInt32) &&& 858993459)) + ((((((nI K) - ((((nI K).toUInt32 >>> ((1 : Int32).toUInt32 &&& Int32.toUInt32 31)).toInt32) &&& 1431655765)) &&& 858993459) + (((((nI K) - ((((nI K).toUInt32 >>> ((1 : Int32).toUInt32 &&& Int32.toUInt32 31)).toInt32) &&& 1431655765)).toUInt32 >>> ((2 : Int32).toUInt32 &&& Int32.toUInt32 31)).toInt32) &&& 858993459)).toUInt32 >>> ((4 : Int32).toUInt32 &&& Int32.toUInt32 31)).toInt32)) &&& 252645135).toUInt32 >>> ((8 : Int32).toUInt32 &&& Int32.toUInt32 31)).toInt32)) + (((((((((nI K) - ((((nI K).toUInt32 >>> ((1 : Int32).toUInt32 &&& Int32.toUInt32 31)).toInt32) &&& 1431655765)) &&& 858993459) + (((((nI K) - ((((nI K).toUInt32 >>> ((1 : Int32).toUInt32 &&& Int32.toUInt32 31)).toInt32) &&& 1431655765)).toUInt32 >>> ((2 : Int32).toUInt32 &&& Int32.toUInt32 31)).toInt32) &&& 858993459)) + ((((((nI K) - ((((nI K).toUInt32 >>> ((1 : Int32).toUInt32 &&& Int32.toUInt32 31)).toInt32) &&& 1431655765)) &&& 858993459) + (((((nI K) - ((((nI K).toUInt32 >>> ((1 : Int32).toUInt32 &&& Int32.toUInt32 31)).toInt32) &&& 1431655765)).toUInt32 >>> ((2 : Int32).toUInt32 &&& Int32.toUInt32 31)).toInt32) &&& 858993459)).toUInt32 >>> ((4 : Int32).toUInt32 &&& Int32.toUInt32 31)).toInt32)) &&& 252645135) + ((((((((nI K) - ((((nI K).toUInt32 >>> ((1 : Int32).toUInt32 &&& Int32.toUInt32 31)).toInt32) &&& 1431655765)) &&& 858993459) + (((((nI K) - ((((nI K).toUInt32 >>> ((1 : Int32).toUInt32 &&& Int32.toUInt32 31)).toInt32) &&& 1431655765)).toUInt32 >>> ((2 : Int32).toUInt32 &&& Int32.toUInt32 31)).toInt32) &&& 858993459)) + ((((((nI K) - ((((nI K).toUInt32 >>> ((1 : Int32).toUInt32 &&& Int32.toUInt32 31)).toInt32) &&& 1431655765)) &&& 858993459) + (((((nI K) - ((((nI K).toUInt32 >>> ((1 : Int32).toUInt32 &&& Int32.toUInt32 31)).toInt32) &&& 1431655765)).toUInt32 >>> ((2 : Int32).toUInt32 &&& Int32.toUInt32 31)).toInt32) &&& 858993459)).toUInt32 >>> ((4 : Int32).toUInt32 &&& Int32.toUInt32 31)).toInt32)) &&& 252645135).toUInt32 >>> ((8 : Int32).toUInt32 &&& Int32.toUInt32 31)).toInt32)).toUInt32 >>> ((16 : Int32).toUInt32 &&& Int32.toUInt32 31)).toInt32)))]) dJ6_bitCount_0f7a4_47 rfl (by decide) rfl ?_
  refine x_iload_n 0 dJ6_bitCount_0f7a4_48 rfl ?_
  refine x_bipush (v := 63) dJ6_bitCount_0f7a4_49 (by decide) ?_
  refine x_iand dJ6_bitCount_0f7a4_51 ?_
  exact x_iret dJ6_bitCount_0f7a4_52 ⟨(bitc ⟨K, hK⟩).symm, rfl⟩

set_option maxHeartbeats 4000000 in
theorem qX2_howManyKept {E : mx_E} {σ : Mem} {t n : Nat} (ht1 : 1 ≤ t) (ht2 : t < 4) {r : Row} (hT : TI σ t n r) (hw : wf n r)  : MX2_howManyKept E 2 [mx_rf E t] σ (mx_ie (f_bits (r 4)) σ) := by
  refine MM.of (lv := [(0, mx_rf E t)]) kpX2 rfl (Nat.le_of_ble_eq_true rfl) rfl ?_
  obtain ⟨K, hK, hKn, e4⟩ := wf_K hw
  refine x_aload_n 0 dX2_howManyKept_0 rfl ?_
  refine clX2_85 (qX2_keptBits (by omega) (by omega) hT hw) (by decide) (by omega) (by omega) rfl dX2_howManyKept_1 (fun r1 τ1 h1 => ?_)
  obtain ⟨rfl, rfl⟩ := h1
  refine x_top (show r 4 = nI K from e4) ?_
  refine clX2_89 (qJ6_bitCount K (by omega)) (by decide) rfl dX2_howManyKept_4 (fun r4 τ4 h4 => ?_)
  obtain ⟨rfl, rfl⟩ := h4
  exact x_iret dX2_howManyKept_7 ⟨by rw [e4]; exact f_cnt_bits ⟨K, hK⟩, rfl⟩

set_option maxHeartbeats 4000000 in
theorem qX2_emptyBits {E : mx_E} {σ : Mem} {t n : Nat} (ht1 : 1 ≤ t) (ht2 : t < 4) {r : Row} (hT : TI σ t n r) (hw : wf n r)  : MX2_emptyBits E 1 [mx_rf E t] σ (mx_ie (f_setU (f_noP r) n) σ) := by
  refine MM.of (lv := [(0, mx_rf E t)]) kpX2 rfl (Nat.le_of_ble_eq_true rfl) rfl ?_
  have hn6 := hw.1
  refine x_iconst (v := 0) dX2_emptyBits_0 (by decide) ?_
  refine x_istore_n (lv' := [(1, .int 0), (0, mx_rf E t)]) dX2_emptyBits_1 rfl (by decide) rfl ?_
  refine x_iconst (v := 0) dX2_emptyBits_2 (by decide) ?_
  refine x_istore_n (lv' := [(2, .int 0), (1, .int 0), (0, mx_rf E t)]) dX2_emptyBits_3 rfl (by decide) rfl ?_
  have key4 : ∀ i, i ≤ n → MX E 1 RX2 cX2_emptyBits 3 (some .int) 4 [(2, .int (nI i)), (1, .int (f_setU (f_noP r) i)), (0, mx_rf E t)] [] σ (mx_ie (f_setU (f_noP r) n) σ) := by
    refine mx_ind n (fun i hi4 ih4 => ?_)
    refine x_iload_n 0 dX2_emptyBits_4 rfl ?_
    refine x_aload_n 2 dX2_emptyBits_5 rfl ?_
    refine gfX2_22 (by omega) (by omega) dX2_emptyBits_6 ?_
    refine x_top (show σ t 2 = nI n from hT.1) ?_
    refine x_icmp_ge dX2_emptyBits_9 (fun c9 => ?_) (fun c9 => ?_)
    · have hge := nI_le_of (by omega) (by omega) c9
      have hin : i = n := by omega
      refine x_iload_n 1 dX2_emptyBits_35 rfl ?_
      exact x_iret dX2_emptyBits_36 ⟨by rw [hin], rfl⟩
    · have hlt := nI_lt_of (by omega) (by omega) c9
      refine x_aload_n 2 dX2_emptyBits_12 rfl ?_
      refine x_iload_n 0 dX2_emptyBits_13 rfl ?_
      refine clX2_35 (qX2_at (by omega) (by omega) hT.1 hn6 hlt) (by decide) (by omega) (by omega) rfl dX2_emptyBits_14 (fun r14 τ14 h14 => ?_)
      obtain ⟨rfl, rfl⟩ := h14
      refine gfX2_52 (by omega) (by omega) dX2_emptyBits_17 ?_
      refine x_top (show σ (4 + 6 * t + i) 3 = r (6 + 6 * i + 3) from (hT.2.2.2.2 _ hlt).1 3 (by decide)) ?_
      refine x_if_ne dX2_emptyBits_20 (fun c20 => ?_) (fun c20 => ?_)
      · refine x_iinc (v := nI (i + 1)) (lv' := [(2, .int (nI (i + 1))), (1, .int (f_setU (f_noP r) i)), (0, mx_rf E t)]) 0 dX2_emptyBits_29 rfl (nI_1 _) (by decide) rfl ?_
        refine x_goto dX2_emptyBits_32 ?_
        exact acc_eq (P := fun x => MX E _ _ _ _ _ _ [(2, .int (nI (i + 1))), (1, .int x), (0, mx_rf E t)] _ _ _) (f_setU_f (decide_eq_false c20)) (ih4 (i + 1) (by omega) (by omega))
      · refine x_iload_n 1 dX2_emptyBits_23 rfl ?_
        refine x_iconst (v := 1) dX2_emptyBits_24 (by decide) ?_
        refine x_iload_n 0 dX2_emptyBits_25 rfl ?_
        refine x_ishl dX2_emptyBits_26 ?_
        refine x_ior dX2_emptyBits_27 ?_
        refine x_top (show (f_setU (f_noP r) i) ||| (1 <<< ((nI i) &&& 31)) = f_setU (f_noP r) (i + 1) from (f_setU_t (decide_eq_true c20)).symm) ?_
        refine x_istore_n (lv' := [(1, .int (f_setU (f_noP r) (i + 1))), (2, .int (nI i)), (0, mx_rf E t)]) dX2_emptyBits_28 rfl (by decide) rfl ?_
        refine x_iinc (v := nI (i + 1)) (lv' := [(2, .int (nI (i + 1))), (1, .int (f_setU (f_noP r) (i + 1))), (0, mx_rf E t)]) 1 dX2_emptyBits_29 rfl (nI_1 _) (by decide) rfl ?_
        refine x_goto dX2_emptyBits_32 ?_
        exact ih4 (i + 1) (by omega) (by omega)
  exact key4 0 (Nat.zero_le _)

set_option maxHeartbeats 4000000 in
theorem qX2_crowdedBits {E : mx_E} {σ : Mem} {t n : Nat} (ht1 : 1 ≤ t) (ht2 : t < 4) {r : Row} (hT : TI σ t n r) (hw : wf n r)  : MX2_crowdedBits E 2 [mx_rf E t] σ (mx_ie (f_setU (f_isF r) n) σ) := by
  refine MM.of (lv := [(0, mx_rf E t)]) kpX2 rfl (Nat.le_of_ble_eq_true rfl) rfl ?_
  have hn6 := hw.1
  refine x_iconst (v := 0) dX2_crowdedBits_0 (by decide) ?_
  refine x_istore_n (lv' := [(1, .int 0), (0, mx_rf E t)]) dX2_crowdedBits_1 rfl (by decide) rfl ?_
  refine x_iconst (v := 0) dX2_crowdedBits_2 (by decide) ?_
  refine x_istore_n (lv' := [(2, .int 0), (1, .int 0), (0, mx_rf E t)]) dX2_crowdedBits_3 rfl (by decide) rfl ?_
  have key4 : ∀ i, i ≤ n → MX E 2 RX2 cX2_crowdedBits 3 (some .int) 4 [(2, .int (nI i)), (1, .int (f_setU (f_isF r) i)), (0, mx_rf E t)] [] σ (mx_ie (f_setU (f_isF r) n) σ) := by
    refine mx_ind n (fun i hi4 ih4 => ?_)
    refine x_iload_n 0 dX2_crowdedBits_4 rfl ?_
    refine x_aload_n 2 dX2_crowdedBits_5 rfl ?_
    refine gfX2_22 (by omega) (by omega) dX2_crowdedBits_6 ?_
    refine x_top (show σ t 2 = nI n from hT.1) ?_
    refine x_icmp_ge dX2_crowdedBits_9 (fun c9 => ?_) (fun c9 => ?_)
    · have hge := nI_le_of (by omega) (by omega) c9
      have hin : i = n := by omega
      refine x_iload_n 1 dX2_crowdedBits_35 rfl ?_
      exact x_iret dX2_crowdedBits_36 ⟨by rw [hin], rfl⟩
    · have hlt := nI_lt_of (by omega) (by omega) c9
      refine x_aload_n 2 dX2_crowdedBits_12 rfl ?_
      refine x_iload_n 0 dX2_crowdedBits_13 rfl ?_
      refine clX2_35 (qX2_at (by omega) (by omega) hT.1 hn6 hlt) (by decide) (by omega) (by omega) rfl dX2_crowdedBits_14 (fun r14 τ14 h14 => ?_)
      obtain ⟨rfl, rfl⟩ := h14
      refine clX2_94 (pX0_childIsFound (by omega) (by omega) (f_kept r i) (f_lets r i) (hT.2.2.2.2 _ hlt).2.1 (hT.2.2.2.2 _ hlt).2.2 (wf_hk hw hlt (hT.2.2.2.2 _ hlt)).1) (by decide) (by omega) (by omega) rfl dX2_crowdedBits_17 (fun r17 τ17 h17 => ?_)
      obtain ⟨rfl, rfl⟩ := h17
      refine x_top (show zb (h_isF (σ (4 + 6 * t + i)) (f_kept r i) (f_lets r i)) = zb (f_isF r i) from (by rw [h_isF_eq (hT.2.2.2.2 _ hlt)])) ?_
      refine x_if_eq dX2_crowdedBits_20 (fun c20 => ?_) (fun c20 => ?_)
      · replace c20 := zb_0 c20
        refine x_iinc (v := nI (i + 1)) (lv' := [(2, .int (nI (i + 1))), (1, .int (f_setU (f_isF r) i)), (0, mx_rf E t)]) 0 dX2_crowdedBits_29 rfl (nI_1 _) (by decide) rfl ?_
        refine x_goto dX2_crowdedBits_32 ?_
        exact acc_eq (P := fun x => MX E _ _ _ _ _ _ [(2, .int (nI (i + 1))), (1, .int x), (0, mx_rf E t)] _ _ _) (f_setU_f c20) (ih4 (i + 1) (by omega) (by omega))
      · replace c20 := zb_1 c20
        refine x_iload_n 1 dX2_crowdedBits_23 rfl ?_
        refine x_iconst (v := 1) dX2_crowdedBits_24 (by decide) ?_
        refine x_iload_n 0 dX2_crowdedBits_25 rfl ?_
        refine x_ishl dX2_crowdedBits_26 ?_
        refine x_ior dX2_crowdedBits_27 ?_
        refine x_top (show (f_setU (f_isF r) i) ||| (1 <<< ((nI i) &&& 31)) = f_setU (f_isF r) (i + 1) from (f_setU_t c20).symm) ?_
        refine x_istore_n (lv' := [(1, .int (f_setU (f_isF r) (i + 1))), (2, .int (nI i)), (0, mx_rf E t)]) dX2_crowdedBits_28 rfl (by decide) rfl ?_
        refine x_iinc (v := nI (i + 1)) (lv' := [(2, .int (nI (i + 1))), (1, .int (f_setU (f_isF r) (i + 1))), (0, mx_rf E t)]) 1 dX2_crowdedBits_29 rfl (nI_1 _) (by decide) rfl ?_
        refine x_goto dX2_crowdedBits_32 ?_
        exact ih4 (i + 1) (by omega) (by omega)
  exact key4 0 (Nat.zero_le _)

set_option maxHeartbeats 4000000 in
theorem qX2_allPeople {E : mx_E} {σ : Mem} {t n : Nat} (ht1 : 1 ≤ t) (ht2 : t < 4) {r : Row} (hT : TI σ t n r) (hw : wf n r)  : MX2_allPeople E 1 [mx_rf E t] σ (mx_ie (f_pplU r n) σ) := by
  refine MM.of (lv := [(0, mx_rf E t)]) kpX2 rfl (Nat.le_of_ble_eq_true rfl) rfl ?_
  have hn6 := hw.1
  refine x_iconst (v := 0) dX2_allPeople_0 (by decide) ?_
  refine x_istore_n (lv' := [(1, .int 0), (0, mx_rf E t)]) dX2_allPeople_1 rfl (by decide) rfl ?_
  refine x_iconst (v := 0) dX2_allPeople_2 (by decide) ?_
  refine x_istore_n (lv' := [(2, .int 0), (1, .int 0), (0, mx_rf E t)]) dX2_allPeople_3 rfl (by decide) rfl ?_
  have key4 : ∀ i, i ≤ n → MX E 1 RX2 cX2_allPeople 3 (some .int) 4 [(2, .int (nI i)), (1, .int (f_pplU r i)), (0, mx_rf E t)] [] σ (mx_ie (f_pplU r n) σ) := by
    refine mx_ind n (fun i hi4 ih4 => ?_)
    refine x_iload_n 0 dX2_allPeople_4 rfl ?_
    refine x_aload_n 2 dX2_allPeople_5 rfl ?_
    refine gfX2_22 (by omega) (by omega) dX2_allPeople_6 ?_
    refine x_top (show σ t 2 = nI n from hT.1) ?_
    refine x_icmp_ge dX2_allPeople_9 (fun c9 => ?_) (fun c9 => ?_)
    · have hge := nI_le_of (by omega) (by omega) c9
      have hin : i = n := by omega
      refine x_iload_n 1 dX2_allPeople_29 rfl ?_
      exact x_iret dX2_allPeople_30 ⟨by rw [hin], rfl⟩
    · have hlt := nI_lt_of (by omega) (by omega) c9
      refine x_iload_n 1 dX2_allPeople_12 rfl ?_
      refine x_aload_n 2 dX2_allPeople_13 rfl ?_
      refine x_iload_n 0 dX2_allPeople_14 rfl ?_
      refine clX2_35 (qX2_at (by omega) (by omega) hT.1 hn6 hlt) (by decide) (by omega) (by omega) rfl dX2_allPeople_15 (fun r15 τ15 h15 => ?_)
      obtain ⟨rfl, rfl⟩ := h15
      refine gfX2_52 (by omega) (by omega) dX2_allPeople_18 ?_
      refine x_top (show σ (4 + 6 * t + i) 3 = r (6 + 6 * i + 3) from (hT.2.2.2.2 _ hlt).1 3 (by decide)) ?_
      refine x_iadd dX2_allPeople_21 ?_
      refine x_top (show (f_pplU r i) + (r (6 + 6 * i + 3)) = f_pplU r (i + 1) from rfl) ?_
      refine x_istore_n (lv' := [(1, .int (f_pplU r (i + 1))), (2, .int (nI i)), (0, mx_rf E t)]) dX2_allPeople_22 rfl (by decide) rfl ?_
      refine x_iinc (v := nI (i + 1)) (lv' := [(2, .int (nI (i + 1))), (1, .int (f_pplU r (i + 1))), (0, mx_rf E t)]) 1 dX2_allPeople_23 rfl (nI_1 _) (by decide) rfl ?_
      refine x_goto dX2_allPeople_26 ?_
      exact ih4 (i + 1) (by omega) (by omega)
  exact key4 0 (Nat.zero_le _)

set_option maxHeartbeats 4000000 in
theorem qX2_burnsInAWeek {E : mx_E} {σ : Mem} {t n : Nat} (ht1 : 1 ≤ t) (ht2 : t < 4) {r : Row} (hT : TI σ t n r) (hw : wf n r)  : MX2_burnsInAWeek E 1 [mx_rf E t] σ (mx_ie (f_burnsU r n) σ) := by
  refine MM.of (lv := [(0, mx_rf E t)]) kpX2 rfl (Nat.le_of_ble_eq_true rfl) rfl ?_
  have hn6 := hw.1
  refine x_iconst (v := 0) dX2_burnsInAWeek_0 (by decide) ?_
  refine x_istore_n (lv' := [(1, .int 0), (0, mx_rf E t)]) dX2_burnsInAWeek_1 rfl (by decide) rfl ?_
  refine x_iconst (v := 0) dX2_burnsInAWeek_2 (by decide) ?_
  refine x_istore_n (lv' := [(2, .int 0), (1, .int 0), (0, mx_rf E t)]) dX2_burnsInAWeek_3 rfl (by decide) rfl ?_
  have key4 : ∀ i, i ≤ n → MX E 1 RX2 cX2_burnsInAWeek 3 (some .int) 4 [(2, .int (nI i)), (1, .int (f_burnsU r i)), (0, mx_rf E t)] [] σ (mx_ie (f_burnsU r n) σ) := by
    refine mx_ind n (fun i hi4 ih4 => ?_)
    refine x_iload_n 0 dX2_burnsInAWeek_4 rfl ?_
    refine x_aload_n 2 dX2_burnsInAWeek_5 rfl ?_
    refine gfX2_22 (by omega) (by omega) dX2_burnsInAWeek_6 ?_
    refine x_top (show σ t 2 = nI n from hT.1) ?_
    refine x_icmp_ge dX2_burnsInAWeek_9 (fun c9 => ?_) (fun c9 => ?_)
    · have hge := nI_le_of (by omega) (by omega) c9
      have hin : i = n := by omega
      refine x_iload_n 1 dX2_burnsInAWeek_40 rfl ?_
      exact x_iret dX2_burnsInAWeek_41 ⟨by rw [hin], rfl⟩
    · have hlt := nI_lt_of (by omega) (by omega) c9
      refine x_aload_n 2 dX2_burnsInAWeek_12 rfl ?_
      refine x_iload_n 0 dX2_burnsInAWeek_13 rfl ?_
      refine clX2_35 (qX2_at (by omega) (by omega) hT.1 hn6 hlt) (by decide) (by omega) (by omega) rfl dX2_burnsInAWeek_14 (fun r14 τ14 h14 => ?_)
      obtain ⟨rfl, rfl⟩ := h14
      refine gfX2_55 (by omega) (by omega) dX2_burnsInAWeek_17 ?_
      refine x_top (show σ (4 + 6 * t + i) 6 = zb (f_kept r i) from (hT.2.2.2.2 _ hlt).2.1) ?_
      refine x_if_eq dX2_burnsInAWeek_20 (fun c20 => ?_) (fun c20 => ?_)
      · replace c20 := zb_0 c20
        refine x_iinc (v := nI (i + 1)) (lv' := [(2, .int (nI (i + 1))), (1, .int (f_burnsU r i)), (0, mx_rf E t)]) 0 dX2_burnsInAWeek_34 rfl (nI_1 _) (by decide) rfl ?_
        refine x_goto dX2_burnsInAWeek_37 ?_
        exact acc_eq (P := fun x => MX E _ _ _ _ _ _ [(2, .int (nI (i + 1))), (1, .int x), (0, mx_rf E t)] _ _ _) (f_burnsU_f c20) (ih4 (i + 1) (by omega) (by omega))
      · replace c20 := zb_1 c20
        refine x_iload_n 1 dX2_burnsInAWeek_23 rfl ?_
        refine x_aload_n 2 dX2_burnsInAWeek_24 rfl ?_
        refine x_iload_n 0 dX2_burnsInAWeek_25 rfl ?_
        refine clX2_35 (qX2_at (by omega) (by omega) hT.1 hn6 hlt) (by decide) (by omega) (by omega) rfl dX2_burnsInAWeek_26 (fun r26 τ26 h26 => ?_)
        obtain ⟨rfl, rfl⟩ := h26
        refine clX2_98 (pX0_burns (by omega) (by omega)) (by decide) (by omega) (by omega) rfl dX2_burnsInAWeek_29 (fun r29 τ29 h29 => ?_)
        obtain ⟨rfl, rfl⟩ := h29
        refine x_top (show f_burns (σ (4 + 6 * t + i) 0) = f_burns (r (6 + 6 * i)) from (by rw [show σ (4 + 6 * t + i) 0 = r (6 + 6 * i) from (hT.2.2.2.2 _ hlt).1 0 (by decide)])) ?_
        refine x_iadd dX2_burnsInAWeek_32 ?_
        refine x_top (show (f_burnsU r i) + (f_burns (r (6 + 6 * i))) = f_burnsU r (i + 1) from (f_burnsU_t c20).symm) ?_
        refine x_istore_n (lv' := [(1, .int (f_burnsU r (i + 1))), (2, .int (nI i)), (0, mx_rf E t)]) dX2_burnsInAWeek_33 rfl (by decide) rfl ?_
        refine x_iinc (v := nI (i + 1)) (lv' := [(2, .int (nI (i + 1))), (1, .int (f_burnsU r (i + 1))), (0, mx_rf E t)]) 1 dX2_burnsInAWeek_34 rfl (nI_1 _) (by decide) rfl ?_
        refine x_goto dX2_burnsInAWeek_37 ?_
        exact ih4 (i + 1) (by omega) (by omega)
  exact key4 0 (Nat.zero_le _)

set_option maxHeartbeats 4000000 in
theorem qX2_roomForMore {E : mx_E} {σ : Mem} {t n : Nat} (ht1 : 1 ≤ t) (ht2 : t < 4) {r : Row} (hT : TI σ t n r) (hw : wf n r)  : MX2_roomForMore E 1 [mx_rf E t] σ (mx_ie (f_spareU r n) σ) := by
  refine MM.of (lv := [(0, mx_rf E t)]) kpX2 rfl (Nat.le_of_ble_eq_true rfl) rfl ?_
  have hn6 := hw.1
  refine x_iconst (v := 0) dX2_roomForMore_0 (by decide) ?_
  refine x_istore_n (lv' := [(1, .int 0), (0, mx_rf E t)]) dX2_roomForMore_1 rfl (by decide) rfl ?_
  refine x_iconst (v := 0) dX2_roomForMore_2 (by decide) ?_
  refine x_istore_n (lv' := [(2, .int 0), (1, .int 0), (0, mx_rf E t)]) dX2_roomForMore_3 rfl (by decide) rfl ?_
  have key4 : ∀ i, i ≤ n → MX E 1 RX2 cX2_roomForMore 4 (some .int) 4 [(2, .int (nI i)), (1, .int (f_spareU r i)), (0, mx_rf E t)] [] σ (mx_ie (f_spareU r n) σ) := by
    refine mx_ind n (fun i hi4 ih4 => ?_)
    refine x_iload_n 0 dX2_roomForMore_4 rfl ?_
    refine x_aload_n 2 dX2_roomForMore_5 rfl ?_
    refine gfX2_22 (by omega) (by omega) dX2_roomForMore_6 ?_
    refine x_top (show σ t 2 = nI n from hT.1) ?_
    refine x_icmp_ge dX2_roomForMore_9 (fun c9 => ?_) (fun c9 => ?_)
    · have hge := nI_le_of (by omega) (by omega) c9
      have hin : i = n := by omega
      refine x_iload_n 1 dX2_roomForMore_48 rfl ?_
      exact x_iret dX2_roomForMore_49 ⟨by rw [hin], rfl⟩
    · have hlt := nI_lt_of (by omega) (by omega) c9
      refine x_aload_n 2 dX2_roomForMore_12 rfl ?_
      refine x_iload_n 0 dX2_roomForMore_13 rfl ?_
      refine clX2_35 (qX2_at (by omega) (by omega) hT.1 hn6 hlt) (by decide) (by omega) (by omega) rfl dX2_roomForMore_14 (fun r14 τ14 h14 => ?_)
      obtain ⟨rfl, rfl⟩ := h14
      refine x_astore_n (lv' := [(3, mx_rf E (4 + 6 * t + i)), (2, .int (nI i)), (1, .int (f_spareU r i)), (0, mx_rf E t)]) dX2_roomForMore_17 rfl (by decide) rfl ?_
      refine x_aload_n 0 dX2_roomForMore_18 rfl ?_
      refine gfX2_55 (by omega) (by omega) dX2_roomForMore_19 ?_
      refine x_top (show σ (4 + 6 * t + i) 6 = zb (f_kept r i) from (hT.2.2.2.2 _ hlt).2.1) ?_
      refine x_if_eq dX2_roomForMore_22 (fun c22 => ?_) (fun c22 => ?_)
      · replace c22 := zb_0 c22
        refine x_iinc (v := nI (i + 1)) (lv' := [(2, .int (nI (i + 1))), (3, mx_rf E (4 + 6 * t + i)), (1, .int (f_spareU r i)), (0, mx_rf E t)]) 1 dX2_roomForMore_42 rfl (nI_1 _) (by decide) rfl ?_
        refine x_goto dX2_roomForMore_45 ?_
        refine x_lvs [0, 2, 3] rfl ?_
        exact acc_eq (P := fun x => MX E _ _ _ _ _ _ [(2, .int (nI (i + 1))), (1, .int x), (0, mx_rf E t)] _ _ _) (f_spareU_f c22) (ih4 (i + 1) (by omega) (by omega))
      · replace c22 := zb_1 c22
        refine x_iload_n 2 dX2_roomForMore_25 rfl ?_
        refine x_aload_n 0 dX2_roomForMore_26 rfl ?_
        refine gfX2_49 (by omega) (by omega) dX2_roomForMore_27 ?_
        refine x_top (show σ (4 + 6 * t + i) 2 = r (6 + 6 * i + 2) from (hT.2.2.2.2 _ hlt).1 2 (by decide)) ?_
        refine x_aload_n 0 dX2_roomForMore_30 rfl ?_
        refine clX2_101 (pX0_crowd (by omega) (by omega) (f_lets r i) (hT.2.2.2.2 _ hlt).2.2) (by decide) (by omega) (by omega) rfl dX2_roomForMore_31 (fun r31 τ31 h31 => ?_)
        obtain ⟨rfl, rfl⟩ := h31
        refine x_top (show f_crowd (σ (4 + 6 * t + i) 2) (σ (4 + 6 * t + i) 3) (f_lets r i) = f_crowdR r i from f_crowd_hq (hT.2.2.2.2 _ hlt)) ?_
        refine x_imul dX2_roomForMore_34 ?_
        refine x_aload_n 0 dX2_roomForMore_35 rfl ?_
        refine gfX2_52 (by omega) (by omega) dX2_roomForMore_36 ?_
        refine x_top (show σ (4 + 6 * t + i) 3 = r (6 + 6 * i + 3) from (hT.2.2.2.2 _ hlt).1 3 (by decide)) ?_
        refine x_isub dX2_roomForMore_39 ?_
        refine x_iadd dX2_roomForMore_40 ?_
        refine x_top (show (f_spareU r i) + (((r (6 + 6 * i + 2)) * (f_crowdR r i)) - (r (6 + 6 * i + 3))) = f_spareU r (i + 1) from (by rw [f_spareU_t c22, Int32.mul_comm (f_crowdR r i)])) ?_
        refine x_istore_n (lv' := [(1, .int (f_spareU r (i + 1))), (3, mx_rf E (4 + 6 * t + i)), (2, .int (nI i)), (0, mx_rf E t)]) dX2_roomForMore_41 rfl (by decide) rfl ?_
        refine x_iinc (v := nI (i + 1)) (lv' := [(2, .int (nI (i + 1))), (1, .int (f_spareU r (i + 1))), (3, mx_rf E (4 + 6 * t + i)), (0, mx_rf E t)]) 2 dX2_roomForMore_42 rfl (nI_1 _) (by decide) rfl ?_
        refine x_goto dX2_roomForMore_45 ?_
        refine x_lvs [0, 1, 3] rfl ?_
        exact ih4 (i + 1) (by omega) (by omega)
  exact key4 0 (Nat.zero_le _)

set_option maxHeartbeats 4000000 in
theorem qX2_fullest {E : mx_E} {σ : Mem} {t n : Nat} (ht1 : 1 ≤ t) (ht2 : t < 4) {r : Row} (hT : TI σ t n r) (hw : wf n r)  : MX2_fullest E 1 [mx_rf E t] σ (mx_ie (f_o9 (f_bestU (f_crowdR r) (f_kept r) n)) σ) := by
  refine MM.of (lv := [(0, mx_rf E t)]) kpX2 rfl (Nat.le_of_ble_eq_true rfl) rfl ?_
  have hn6 := hw.1
  refine x_bipush (v := -9) dX2_fullest_0 (by decide) ?_
  refine x_istore_n (lv' := [(1, .int (-9)), (0, mx_rf E t)]) dX2_fullest_2 rfl (by decide) rfl ?_
  refine x_iconst (v := 0) dX2_fullest_3 (by decide) ?_
  refine x_istore_n (lv' := [(2, .int 0), (1, .int (-9)), (0, mx_rf E t)]) dX2_fullest_4 rfl (by decide) rfl ?_
  have key5 : ∀ i, i ≤ n → MX E 1 RX2 cX2_fullest 3 (some .int) 5 [(2, .int (nI i)), (1, .int (f_o9 (f_bestU (f_crowdR r) (f_kept r) i))), (0, mx_rf E t)] [] σ (mx_ie (f_o9 (f_bestU (f_crowdR r) (f_kept r) n)) σ) := by
    refine mx_ind n (fun i hi5 ih5 => ?_)
    refine x_iload_n 0 dX2_fullest_5 rfl ?_
    refine x_aload_n 2 dX2_fullest_6 rfl ?_
    refine gfX2_22 (by omega) (by omega) dX2_fullest_7 ?_
    refine x_top (show σ t 2 = nI n from hT.1) ?_
    refine x_icmp_ge dX2_fullest_10 (fun c10 => ?_) (fun c10 => ?_)
    · have hge := nI_le_of (by omega) (by omega) c10
      have hin : i = n := by omega
      refine x_iload_n 1 dX2_fullest_57 rfl ?_
      exact x_iret dX2_fullest_58 ⟨by rw [hin], rfl⟩
    · have hlt := nI_lt_of (by omega) (by omega) c10
      refine x_aload_n 2 dX2_fullest_13 rfl ?_
      refine x_iload_n 0 dX2_fullest_14 rfl ?_
      refine clX2_35 (qX2_at (by omega) (by omega) hT.1 hn6 hlt) (by decide) (by omega) (by omega) rfl dX2_fullest_15 (fun r15 τ15 h15 => ?_)
      obtain ⟨rfl, rfl⟩ := h15
      refine gfX2_55 (by omega) (by omega) dX2_fullest_18 ?_
      refine x_top (show σ (4 + 6 * t + i) 6 = zb (f_kept r i) from (hT.2.2.2.2 _ hlt).2.1) ?_
      refine x_if_eq dX2_fullest_21 (fun c21 => ?_) (fun c21 => ?_)
      · replace c21 := zb_0 c21
        refine x_iinc (v := nI (i + 1)) (lv' := [(2, .int (nI (i + 1))), (1, .int (f_o9 (f_bestU (f_crowdR r) (f_kept r) i))), (0, mx_rf E t)]) 0 dX2_fullest_51 rfl (nI_1 _) (by decide) rfl ?_
        refine x_goto dX2_fullest_54 ?_
        exact acc_eq (P := fun x => MX E _ _ _ _ _ _ [(2, .int (nI (i + 1))), (1, .int x), (0, mx_rf E t)] _ _ _) (congrArg f_o9 (f_bestU_f c21)) (ih5 (i + 1) (by omega) (by omega))
      · replace c21 := zb_1 c21
        rcases hb : f_bestU (f_crowdR r) (f_kept r) i with _ | j
        · show MX E 1 RX2 cX2_fullest 3 (some .int) 24 [(2, .int (nI i)), (1, .int (-9)), (0, mx_rf E t)] [] σ (mx_ie (f_o9 (f_bestU (f_crowdR r) (f_kept r) n)) σ)
          refine x_iload_n 1 dX2_fullest_24 rfl ?_
          refine x_bipush (v := -9) dX2_fullest_25 (by decide) ?_
          refine x_icmp_eq dX2_fullest_27 (fun _ => ?_) (fun c => absurd c (by decide))
          refine x_iload_n 0 dX2_fullest_49 rfl ?_
          refine x_istore_n (lv' := [(1, .int (nI i)), (2, .int (nI i)), (0, mx_rf E t)]) dX2_fullest_50 rfl (by decide) rfl ?_
          refine x_iinc (v := nI (i + 1)) (lv' := [(2, .int (nI (i + 1))), (1, .int (nI i)), (0, mx_rf E t)]) 1 dX2_fullest_51 rfl (nI_1 _) (by decide) rfl ?_
          refine x_goto dX2_fullest_54 ?_
          exact acc_eq (P := fun x => MX E _ _ _ _ _ _ [(2, .int (nI (i + 1))), (1, .int x), (0, mx_rf E t)] _ _ _) (congrArg f_o9 (f_bestU_n c21 hb)) (ih5 (i + 1) (by omega) (by omega))
        · have hji := f_bestU_lt _ _ _ _ hb
          have hjn : j < n := by omega
          show MX E 1 RX2 cX2_fullest 3 (some .int) 24 [(2, .int (nI i)), (1, .int (nI j)), (0, mx_rf E t)] [] σ (mx_ie (f_o9 (f_bestU (f_crowdR r) (f_kept r) n)) σ)
          refine x_iload_n 1 dX2_fullest_24 rfl ?_
          refine x_bipush (v := -9) dX2_fullest_25 (by decide) ?_
          refine x_icmp_eq dX2_fullest_27 (fun c27 => ?_) (fun c27 => ?_)
          · exact absurd c27 (nI_ne9 (by omega))
          · refine x_aload_n 2 dX2_fullest_30 rfl ?_
            refine x_iload_n 0 dX2_fullest_31 rfl ?_
            refine clX2_35 (qX2_at (by omega) (by omega) hT.1 hn6 hlt) (by decide) (by omega) (by omega) rfl dX2_fullest_32 (fun r32 τ32 h32 => ?_)
            obtain ⟨rfl, rfl⟩ := h32
            refine clX2_101 (pX0_crowd (by omega) (by omega) (f_lets r i) (hT.2.2.2.2 _ hlt).2.2) (by decide) (by omega) (by omega) rfl dX2_fullest_35 (fun r35 τ35 h35 => ?_)
            obtain ⟨rfl, rfl⟩ := h35
            refine x_top (show f_crowd (σ (4 + 6 * t + i) 2) (σ (4 + 6 * t + i) 3) (f_lets r i) = f_crowdR r i from f_crowd_hq (hT.2.2.2.2 _ hlt)) ?_
            refine x_aload_n 2 dX2_fullest_38 rfl ?_
            refine x_iload_n 1 dX2_fullest_39 rfl ?_
            refine clX2_35 (qX2_at (by omega) (by omega) hT.1 hn6 hjn) (by decide) (by omega) (by omega) rfl dX2_fullest_40 (fun r40 τ40 h40 => ?_)
            obtain ⟨rfl, rfl⟩ := h40
            refine clX2_101 (pX0_crowd (by omega) (by omega) (f_lets r j) (hT.2.2.2.2 _ hjn).2.2) (by decide) (by omega) (by omega) rfl dX2_fullest_43 (fun r43 τ43 h43 => ?_)
            obtain ⟨rfl, rfl⟩ := h43
            refine x_top (show f_crowd (σ (4 + 6 * t + j) 2) (σ (4 + 6 * t + j) 3) (f_lets r j) = f_crowdR r j from f_crowd_hq (hT.2.2.2.2 _ hjn)) ?_
            refine x_icmp_le dX2_fullest_46 (fun c46 => ?_) (fun c46 => ?_)
            · have c46x := Int32.not_lt.mpr c46
              refine x_iinc (v := nI (i + 1)) (lv' := [(2, .int (nI (i + 1))), (1, .int (nI j)), (0, mx_rf E t)]) 0 dX2_fullest_51 rfl (nI_1 _) (by decide) rfl ?_
              refine x_goto dX2_fullest_54 ?_
              exact acc_eq (P := fun x => MX E _ _ _ _ _ _ [(2, .int (nI (i + 1))), (1, .int x), (0, mx_rf E t)] _ _ _) (by rw [f_bestU_j c21 hb, if_neg c46x]; rfl) (ih5 (i + 1) (by omega) (by omega))
            · have c46x := Int32.not_le.mp c46
              refine x_iload_n 0 dX2_fullest_49 rfl ?_
              refine x_istore_n (lv' := [(1, .int (nI i)), (2, .int (nI i)), (0, mx_rf E t)]) dX2_fullest_50 rfl (by decide) rfl ?_
              refine x_iinc (v := nI (i + 1)) (lv' := [(2, .int (nI (i + 1))), (1, .int (nI i)), (0, mx_rf E t)]) 1 dX2_fullest_51 rfl (nI_1 _) (by decide) rfl ?_
              refine x_goto dX2_fullest_54 ?_
              exact acc_eq (P := fun x => MX E _ _ _ _ _ _ [(2, .int (nI (i + 1))), (1, .int x), (0, mx_rf E t)] _ _ _) (by rw [f_bestU_j c21 hb, if_pos c46x]; rfl) (ih5 (i + 1) (by omega) (by omega))
  exact key5 0 (Nat.zero_le _)

set_option maxHeartbeats 4000000 in
theorem qX2_dustiest {E : mx_E} {σ : Mem} {t n : Nat} (ht1 : 1 ≤ t) (ht2 : t < 4) {r : Row} (hT : TI σ t n r) (hw : wf n r)  : MX2_dustiest E 1 [mx_rf E t] σ (mx_ie (f_o9 (f_bestU (fun x => r (6 + 6 * x + 4)) (f_kept r) n)) σ) := by
  refine MM.of (lv := [(0, mx_rf E t)]) kpX2 rfl (Nat.le_of_ble_eq_true rfl) rfl ?_
  have hn6 := hw.1
  refine x_bipush (v := -9) dX2_dustiest_0 (by decide) ?_
  refine x_istore_n (lv' := [(1, .int (-9)), (0, mx_rf E t)]) dX2_dustiest_2 rfl (by decide) rfl ?_
  refine x_iconst (v := 0) dX2_dustiest_3 (by decide) ?_
  refine x_istore_n (lv' := [(2, .int 0), (1, .int (-9)), (0, mx_rf E t)]) dX2_dustiest_4 rfl (by decide) rfl ?_
  have key5 : ∀ i, i ≤ n → MX E 1 RX2 cX2_dustiest 3 (some .int) 5 [(2, .int (nI i)), (1, .int (f_o9 (f_bestU (fun x => r (6 + 6 * x + 4)) (f_kept r) i))), (0, mx_rf E t)] [] σ (mx_ie (f_o9 (f_bestU (fun x => r (6 + 6 * x + 4)) (f_kept r) n)) σ) := by
    refine mx_ind n (fun i hi5 ih5 => ?_)
    refine x_iload_n 0 dX2_dustiest_5 rfl ?_
    refine x_aload_n 2 dX2_dustiest_6 rfl ?_
    refine gfX2_22 (by omega) (by omega) dX2_dustiest_7 ?_
    refine x_top (show σ t 2 = nI n from hT.1) ?_
    refine x_icmp_ge dX2_dustiest_10 (fun c10 => ?_) (fun c10 => ?_)
    · have hge := nI_le_of (by omega) (by omega) c10
      have hin : i = n := by omega
      refine x_iload_n 1 dX2_dustiest_57 rfl ?_
      exact x_iret dX2_dustiest_58 ⟨by rw [hin], rfl⟩
    · have hlt := nI_lt_of (by omega) (by omega) c10
      refine x_aload_n 2 dX2_dustiest_13 rfl ?_
      refine x_iload_n 0 dX2_dustiest_14 rfl ?_
      refine clX2_35 (qX2_at (by omega) (by omega) hT.1 hn6 hlt) (by decide) (by omega) (by omega) rfl dX2_dustiest_15 (fun r15 τ15 h15 => ?_)
      obtain ⟨rfl, rfl⟩ := h15
      refine gfX2_55 (by omega) (by omega) dX2_dustiest_18 ?_
      refine x_top (show σ (4 + 6 * t + i) 6 = zb (f_kept r i) from (hT.2.2.2.2 _ hlt).2.1) ?_
      refine x_if_eq dX2_dustiest_21 (fun c21 => ?_) (fun c21 => ?_)
      · replace c21 := zb_0 c21
        refine x_iinc (v := nI (i + 1)) (lv' := [(2, .int (nI (i + 1))), (1, .int (f_o9 (f_bestU (fun x => r (6 + 6 * x + 4)) (f_kept r) i))), (0, mx_rf E t)]) 0 dX2_dustiest_51 rfl (nI_1 _) (by decide) rfl ?_
        refine x_goto dX2_dustiest_54 ?_
        exact acc_eq (P := fun x => MX E _ _ _ _ _ _ [(2, .int (nI (i + 1))), (1, .int x), (0, mx_rf E t)] _ _ _) (congrArg f_o9 (f_bestU_f c21)) (ih5 (i + 1) (by omega) (by omega))
      · replace c21 := zb_1 c21
        rcases hb : f_bestU (fun x => r (6 + 6 * x + 4)) (f_kept r) i with _ | j
        · show MX E 1 RX2 cX2_dustiest 3 (some .int) 24 [(2, .int (nI i)), (1, .int (-9)), (0, mx_rf E t)] [] σ (mx_ie (f_o9 (f_bestU (fun x => r (6 + 6 * x + 4)) (f_kept r) n)) σ)
          refine x_iload_n 1 dX2_dustiest_24 rfl ?_
          refine x_bipush (v := -9) dX2_dustiest_25 (by decide) ?_
          refine x_icmp_eq dX2_dustiest_27 (fun _ => ?_) (fun c => absurd c (by decide))
          refine x_iload_n 0 dX2_dustiest_49 rfl ?_
          refine x_istore_n (lv' := [(1, .int (nI i)), (2, .int (nI i)), (0, mx_rf E t)]) dX2_dustiest_50 rfl (by decide) rfl ?_
          refine x_iinc (v := nI (i + 1)) (lv' := [(2, .int (nI (i + 1))), (1, .int (nI i)), (0, mx_rf E t)]) 1 dX2_dustiest_51 rfl (nI_1 _) (by decide) rfl ?_
          refine x_goto dX2_dustiest_54 ?_
          exact acc_eq (P := fun x => MX E _ _ _ _ _ _ [(2, .int (nI (i + 1))), (1, .int x), (0, mx_rf E t)] _ _ _) (congrArg f_o9 (f_bestU_n c21 hb)) (ih5 (i + 1) (by omega) (by omega))
        · have hji := f_bestU_lt _ _ _ _ hb
          have hjn : j < n := by omega
          show MX E 1 RX2 cX2_dustiest 3 (some .int) 24 [(2, .int (nI i)), (1, .int (nI j)), (0, mx_rf E t)] [] σ (mx_ie (f_o9 (f_bestU (fun x => r (6 + 6 * x + 4)) (f_kept r) n)) σ)
          refine x_iload_n 1 dX2_dustiest_24 rfl ?_
          refine x_bipush (v := -9) dX2_dustiest_25 (by decide) ?_
          refine x_icmp_eq dX2_dustiest_27 (fun c27 => ?_) (fun c27 => ?_)
          · exact absurd c27 (nI_ne9 (by omega))
          · refine x_aload_n 2 dX2_dustiest_30 rfl ?_
            refine x_iload_n 0 dX2_dustiest_31 rfl ?_
            refine clX2_35 (qX2_at (by omega) (by omega) hT.1 hn6 hlt) (by decide) (by omega) (by omega) rfl dX2_dustiest_32 (fun r32 τ32 h32 => ?_)
            obtain ⟨rfl, rfl⟩ := h32
            refine gfX2_66 (by omega) (by omega) dX2_dustiest_35 ?_
            refine x_top (show σ (4 + 6 * t + i) 4 = (fun x => r (6 + 6 * x + 4)) i from (hT.2.2.2.2 _ hlt).1 4 (by decide)) ?_
            refine x_aload_n 2 dX2_dustiest_38 rfl ?_
            refine x_iload_n 1 dX2_dustiest_39 rfl ?_
            refine clX2_35 (qX2_at (by omega) (by omega) hT.1 hn6 hjn) (by decide) (by omega) (by omega) rfl dX2_dustiest_40 (fun r40 τ40 h40 => ?_)
            obtain ⟨rfl, rfl⟩ := h40
            refine gfX2_66 (by omega) (by omega) dX2_dustiest_43 ?_
            refine x_top (show σ (4 + 6 * t + j) 4 = (fun x => r (6 + 6 * x + 4)) j from (hT.2.2.2.2 _ hjn).1 4 (by decide)) ?_
            refine x_icmp_le dX2_dustiest_46 (fun c46 => ?_) (fun c46 => ?_)
            · have c46x := Int32.not_lt.mpr c46
              refine x_iinc (v := nI (i + 1)) (lv' := [(2, .int (nI (i + 1))), (1, .int (nI j)), (0, mx_rf E t)]) 0 dX2_dustiest_51 rfl (nI_1 _) (by decide) rfl ?_
              refine x_goto dX2_dustiest_54 ?_
              exact acc_eq (P := fun x => MX E _ _ _ _ _ _ [(2, .int (nI (i + 1))), (1, .int x), (0, mx_rf E t)] _ _ _) (by rw [f_bestU_j c21 hb, if_neg c46x]; rfl) (ih5 (i + 1) (by omega) (by omega))
            · have c46x := Int32.not_le.mp c46
              refine x_iload_n 0 dX2_dustiest_49 rfl ?_
              refine x_istore_n (lv' := [(1, .int (nI i)), (2, .int (nI i)), (0, mx_rf E t)]) dX2_dustiest_50 rfl (by decide) rfl ?_
              refine x_iinc (v := nI (i + 1)) (lv' := [(2, .int (nI (i + 1))), (1, .int (nI i)), (0, mx_rf E t)]) 1 dX2_dustiest_51 rfl (nI_1 _) (by decide) rfl ?_
              refine x_goto dX2_dustiest_54 ?_
              exact acc_eq (P := fun x => MX E _ _ _ _ _ _ [(2, .int (nI (i + 1))), (1, .int x), (0, mx_rf E t)] _ _ _) (by rw [f_bestU_j c21 hb, if_pos c46x]; rfl) (ih5 (i + 1) (by omega) (by omega))
  exact key5 0 (Nat.zero_le _)
