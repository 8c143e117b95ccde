set_option maxHeartbeats 4000000 in
theorem qX2_become {E : mx_E} {σ : Mem} {t u n : Nat} (ht1 : 1 ≤ t) (ht2 : t < 4) (hu1 : 1 ≤ u) (hu2 : u < 4) (hne : u ≠ t) {r : Row} (hT : TI σ u n r) (hw : wf n r) : MX2_become E 1 [mx_rf E t, mx_rf E u] σ (mx_v (fun τ => TI τ t n r ∧ Off t σ τ)) := by
  refine MM.of (lv := [(0, mx_rf E t), (1, mx_rf E u)]) kpX2 rfl (Nat.le_of_ble_eq_true rfl) rfl ?_
  have hn6 := hw.1
  have hnu : ¬ inT t u := by unfold inT; omega
  refine x_aload_n 0 dX2_become_0 rfl ?_
  refine x_aload_n 1 dX2_become_1 rfl ?_
  refine gfX2_22 (by omega) (by omega) dX2_become_2 ?_
  refine x_top (show σ u 2 = nI n from hT.1) ?_
  refine pfX2_22 (by omega) (by omega) dX2_become_5 ?_
  refine x_aload_n 0 dX2_become_8 rfl ?_
  refine x_aload_n 1 dX2_become_9 rfl ?_
  refine gfX2_26 (by omega) (by omega) dX2_become_10 ?_
  refine x_top (show (mx_up σ t 2 (nI n)) u 3 = r 2 from (by rw [mx_up_o hne]; exact hT.2.1)) ?_
  refine pfX2_26 (by omega) (by omega) dX2_become_13 ?_
  refine x_aload_n 0 dX2_become_16 rfl ?_
  refine x_aload_n 1 dX2_become_17 rfl ?_
  refine gfX2_29 (by omega) (by omega) dX2_become_18 ?_
  refine x_top (show (mx_up (mx_up σ t 2 (nI n)) t 3 (r 2)) u 4 = r 3 from (by rw [mx_up_o hne, mx_up_o hne]; exact hT.2.2.1)) ?_
  refine pfX2_29 (by omega) (by omega) dX2_become_21 ?_
  refine x_aload_n 0 dX2_become_24 rfl ?_
  refine x_aload_n 1 dX2_become_25 rfl ?_
  refine gfX2_32 (by omega) (by omega) dX2_become_26 ?_
  refine x_top (show (mx_up (mx_up (mx_up σ t 2 (nI n)) t 3 (r 2)) t 4 (r 3)) u 5 = r 1 from (by rw [mx_up_o hne, mx_up_o hne, mx_up_o hne]; exact hT.2.2.2.1)) ?_
  refine pfX2_32 (by omega) (by omega) dX2_become_29 ?_
  refine x_iconst (v := 0) dX2_become_32 (by decide) ?_
  refine x_istore_n (lv' := [(2, .int 0), (0, mx_rf E t), (1, mx_rf E u)]) dX2_become_33 rfl (by decide) rfl ?_
  have key34 : ∀ i, i ≤ n → ∀ τ : Mem, TIp τ t n i r → Off t σ τ → MX E 1 RX2 cX2_become 3 none 34 [(2, .int (nI i)), (0, mx_rf E t), (1, mx_rf E u)] [] τ (mx_v (fun τ => TI τ t n r ∧ Off t σ τ)) := by
    refine mx_ind n (fun i hi34 ih34 => ?_)
    intro τ hp hO
    refine x_iload_n 0 dX2_become_34 rfl ?_
    refine x_aload_n 1 dX2_become_35 rfl ?_
    refine gfX2_22 (by omega) (by omega) dX2_become_36 ?_
    refine x_top (show τ t 2 = nI n from hp.1) ?_
    refine x_icmp_ge dX2_become_39 (fun c39 => ?_) (fun c39 => ?_)
    · have hge := nI_le_of (by omega) (by omega) c39
      have hin : i = n := by omega
      exact x_vret dX2_become_61 ⟨by rw [hin] at hp; exact hp, hO⟩
    · have hlt := nI_lt_of (by omega) (by omega) c39
      refine x_aload_n 1 dX2_become_42 rfl ?_
      refine x_iload_n 0 dX2_become_43 rfl ?_
      refine clX2_35 (qX2_at ht1 ht2 hp.1 hn6 hlt) (by decide) (by omega) (by omega) rfl dX2_become_44 (fun r44 τ44 h44 => ?_)
      obtain ⟨rfl, rfl⟩ := h44
      refine x_aload_n 2 dX2_become_47 rfl ?_
      refine x_iload_n 0 dX2_become_48 rfl ?_
      refine clX2_35 (qX2_at hu1 hu2 ((congrFun (hO u hnu) 2).trans hT.1) hn6 hlt) (by decide) (by omega) (by omega) rfl dX2_become_49 (fun r49 τ49 h49 => ?_)
      obtain ⟨rfl, rfl⟩ := h49
      have hQ : HQ (τ (4 + 6 * u + i)) r i := by rw [hO _ (by unfold inT; omega)]; exact hT.2.2.2.2 i hlt
      refine clX2_39 (pX0_become (by omega) (by omega) (4 + 6 * u + i) (by omega) (by omega) (by omega) (by rw [hQ.2.1]; exact zb_01 _) (by rw [hQ.2.2]; exact zb_01 _)) (by decide) (by omega) (by omega) rfl dX2_become_52 (fun τ52 h52 => ?_)
      obtain ⟨q2, hq2, rfl⟩ := h52
      refine x_iinc (v := nI (i + 1)) (lv' := [(2, .int (nI (i + 1))), (0, mx_rf E t), (1, mx_rf E u)]) 0 dX2_become_55 rfl (nI_1 _) (by decide) rfl ?_
      refine x_goto dX2_become_58 ?_
      exact ih34 (i + 1) (by omega) (by omega) _ (hp.step ht1 hq2 hQ) (hO.row (inT_h (by omega)))
  exact key34 0 (Nat.zero_le _) _ TIp.four ((((Off.rf.up inT_t).up inT_t).up inT_t).up inT_t)

set_option maxHeartbeats 4000000 in
theorem qX2_build {E : mx_E} {σ : Mem} {t n : Nat} (ht1 : 1 ≤ t) (ht2 : t < 4) {r : Row} (hT : TI σ t n r) (hw : wf n r) (hN : NW σ) (hn : n < 6) (h5 : r 5 = 0) (a b c d : Int32) : MX2_build E 1 [mx_rf E t, .int a, .int b, .int c, .int d] σ (mx_v (fun τ => TI τ t (n + 1) (f_build n r a b c d) ∧ Off t σ τ)) := by
  refine MM.of (lv := [(0, mx_rf E t), (1, .int a), (2, .int b), (3, .int c), (4, .int d)]) kpX2 rfl (Nat.le_of_ble_eq_true rfl) rfl ?_
  have hNm : ∀ j, j < 8 → mx_up σ t 2 (nI (n + 1)) (t + 6) j = if j = 2 then 1 else 0 := fun j hj => by rw [mx_up_o (by omega)]; exact hN t ht1 ht2 j hj
  have hcm : mx_up σ t 2 (nI (n + 1)) t 2 = nI (n + 1) := by rw [mx_up_s]; exact upd_s
  refine x_aload_n 0 dX2_build_0 rfl ?_
  refine gfX2_22 (by omega) (by omega) dX2_build_1 ?_
  refine x_top (show σ t 2 = nI n from hT.1) ?_
  refine x_bipush (v := 6) dX2_build_4 (by decide) ?_
  refine x_icmp_lt dX2_build_6 (fun c6 => ?_) (fun c6 => ?_)
  · refine x_aload_n 0 dX2_build_10 rfl ?_
    refine x_dup dX2_build_11 rfl ?_
    refine gfX2_22 (by omega) (by omega) dX2_build_12 ?_
    refine x_top (show σ t 2 = nI n from hT.1) ?_
    refine x_iconst (v := 1) dX2_build_15 (by decide) ?_
    refine x_iadd dX2_build_16 ?_
    refine x_top (show (nI n) + 1 = nI (n + 1) from nI_add n 1) ?_
    refine pfX2_22 (by omega) (by omega) dX2_build_17 ?_
    refine x_aload_n 0 dX2_build_20 rfl ?_
    refine x_aload_n 0 dX2_build_21 rfl ?_
    refine gfX2_22 (by omega) (by omega) dX2_build_22 ?_
    refine x_top (show (mx_up σ t 2 (nI (n + 1))) t 2 = nI (n + 1) from hcm) ?_
    refine x_iconst (v := 1) dX2_build_25 (by decide) ?_
    refine x_isub dX2_build_26 ?_
    refine x_top (show (nI (n + 1)) - 1 = nI n from nI_pred n) ?_
    refine clX2_35 (qX2_at ht1 ht2 hcm (by omega) (by omega)) (by decide) (by omega) (by omega) rfl dX2_build_27 (fun r27 τ27 h27 => ?_)
    obtain ⟨rfl, rfl⟩ := h27
    refine x_astore (lv' := [(5, mx_rf E (4 + 6 * t + n)), (0, mx_rf E t), (1, .int a), (2, .int b), (3, .int c), (4, .int d)]) dX2_build_30 rfl (by decide) rfl ?_
    refine x_aload 0 dX2_build_32 rfl ?_
    refine x_aload_n 1 dX2_build_34 rfl ?_
    refine gfX2_18 (by omega) (by omega) dX2_build_35 ?_
    refine clX2_39 (pX0_become (by omega) (by omega) (t + 6) (by omega) (by omega) (by omega) (Or.inl (hNm 6 (by decide))) (Or.inl (hNm 7 (by decide)))) (by decide) (by omega) (by omega) rfl dX2_build_38 (fun τ38 h38 => ?_)
    obtain ⟨q2, hq2, rfl⟩ := h38
    refine x_aload 0 dX2_build_41 rfl ?_
    refine x_iload_n 2 dX2_build_43 rfl ?_
    refine pfX2_43 (by omega) (by omega) dX2_build_44 ?_
    refine x_mem mx_row_up ?_
    refine x_aload 0 dX2_build_47 rfl ?_
    refine x_iload_n 3 dX2_build_49 rfl ?_
    refine pfX2_46 (by omega) (by omega) dX2_build_50 ?_
    refine x_mem mx_row_up ?_
    refine x_aload 0 dX2_build_53 rfl ?_
    refine x_iload_n 4 dX2_build_55 rfl ?_
    refine pfX2_49 (by omega) (by omega) dX2_build_56 ?_
    refine x_mem mx_row_up ?_
    refine x_aload 0 dX2_build_59 rfl ?_
    refine x_iload 5 dX2_build_61 rfl ?_
    refine pfX2_52 (by omega) (by omega) dX2_build_63 ?_
    refine x_mem mx_row_up ?_
    refine x_aload 0 dX2_build_66 rfl ?_
    refine x_iconst (v := 1) dX2_build_68 (by decide) ?_
    refine pfX2_55 (by omega) (by omega) (by decide) dX2_build_69 ?_
    refine x_mem mx_row_up ?_
    exact x_vret dX2_build_72 ⟨hT.build hw ht1 hn h5 (fun j hj => (hq2 j hj).trans (hNm j hj)), (Off.rf.up inT_t).row (inT_h (by omega))⟩
  · exact absurd (nI_lt hn (by decide)) c6

set_option maxHeartbeats 4000000 in
theorem qX2_longestRunOfLost {E : mx_E} {σ : Mem} {t n : Nat} (ht1 : 1 ≤ t) (ht2 : t < 4) {r : Row} (hT : TI σ t n r) (hw : wf n r) {K : Nat} (hK : K < 64) (e4 : r 4 = nI K) : MX2_longestRunOfLost E 1 [mx_rf E t] σ (mx_ie (nI (f_runC n K n)) σ) := by
  refine MM.of (lv := [(0, mx_rf E t)]) kpX2 rfl (Nat.le_of_ble_eq_true rfl) rfl ?_
  have hn6 := hw.1
  refine x_iconst (v := 0) dX2_longestRunOfLost_0 (by decide) ?_
  refine x_istore_n (lv' := [(1, .int 0), (0, mx_rf E t)]) dX2_longestRunOfLost_1 rfl (by decide) rfl ?_
  refine x_iconst (v := 0) dX2_longestRunOfLost_2 (by decide) ?_
  refine x_istore_n (lv' := [(2, .int 0), (1, .int 0), (0, mx_rf E t)]) dX2_longestRunOfLost_3 rfl (by decide) rfl ?_
  have key4 : ∀ a, a ≤ n → MX E 1 RX2 cX2_longestRunOfLost 4 (some .int) 4 [(2, .int (nI a)), (1, .int (nI (f_runC n K a))), (0, mx_rf E t)] [] σ (mx_ie (nI (f_runC n K n)) σ) := by
    refine mx_ind n (fun a hi4 ih4 => ?_)
    refine x_iload_n 0 dX2_longestRunOfLost_4 rfl ?_
    refine x_aload_n 2 dX2_longestRunOfLost_5 rfl ?_
    refine gfX2_22 (by omega) (by omega) dX2_longestRunOfLost_6 ?_
    refine x_top (show σ t 2 = nI n from hT.1) ?_
    refine x_icmp_ge dX2_longestRunOfLost_9 (fun c9 => ?_) (fun c9 => ?_)
    · have hge := nI_le_of (by omega) (by omega) c9
      have hin : a = n := by omega
      refine x_iload_n 1 dX2_longestRunOfLost_58 rfl ?_
      exact x_iret dX2_longestRunOfLost_59 ⟨by rw [hin], rfl⟩
    · have hlt := nI_lt_of (by omega) (by omega) c9
      refine x_iconst (v := 0) dX2_longestRunOfLost_12 (by decide) ?_
      refine x_istore_n (lv' := [(3, .int 0), (2, .int (nI a)), (1, .int (nI (f_runC n K a))), (0, mx_rf E t)]) dX2_longestRunOfLost_13 rfl (by decide) rfl ?_
      have key14 : ∀ l, l ≤ n → f_lenC n K a (n - l) l = f_lenC n K a n 0 → MX E 1 RX2 cX2_longestRunOfLost 4 (some .int) 14 [(3, .int (nI l)), (2, .int (nI a)), (1, .int (nI (f_runC n K a))), (0, mx_rf E t)] [] σ (mx_ie (nI (f_runC n K n)) σ) := by
        refine mx_ind n (fun l hi14 ih14 => ?_)
        intro hg
        refine x_iload_n 0 dX2_longestRunOfLost_14 rfl ?_
        refine x_aload_n 3 dX2_longestRunOfLost_15 rfl ?_
        refine gfX2_22 (by omega) (by omega) dX2_longestRunOfLost_16 ?_
        refine x_top (show σ t 2 = nI n from hT.1) ?_
        refine x_icmp_ge dX2_longestRunOfLost_19 (fun c19 => ?_) (fun c19 => ?_)
        · have hgel := nI_le_of (by omega) (by omega) c19
          have hv : f_lenC n K a n 0 = l := f_lenC_e hgel hg
          refine x_iload_n 2 dX2_longestRunOfLost_46 rfl ?_
          refine x_iload_n 0 dX2_longestRunOfLost_47 rfl ?_
          refine clX2_104 (by decide) rfl dX2_longestRunOfLost_48 ?_
          refine x_top (show (if nI (f_runC n K a) < nI l then nI l else nI (f_runC n K a)) = nI (f_runC n K (a + 1)) from (by rw [f_maxI (Nat.lt_of_le_of_lt (f_runC_le n K a) (by omega)) (by omega), ← hv]; rfl)) ?_
          refine x_istore_n (lv' := [(1, .int (nI (f_runC n K (a + 1)))), (3, .int (nI l)), (2, .int (nI a)), (0, mx_rf E t)]) dX2_longestRunOfLost_51 rfl (by decide) rfl ?_
          refine x_iinc (v := nI (a + 1)) (lv' := [(2, .int (nI (a + 1))), (1, .int (nI (f_runC n K (a + 1)))), (3, .int (nI l)), (0, mx_rf E t)]) 2 dX2_longestRunOfLost_52 rfl (nI_1 _) (by decide) rfl ?_
          refine x_goto dX2_longestRunOfLost_55 ?_
          refine x_lvs [0, 1, 3] rfl ?_
          exact ih4 (a + 1) (by omega) (by omega)
        · have hltl := nI_lt_of (by omega) (by omega) c19
          have hmod : (a + l) % n < n := Nat.mod_lt _ (by omega)
          have hkt : f_kept r ((a + l) % n) = K.testBit ((a + l) % n) := wf_kt (n := n) hK e4 (by omega)
          refine x_aload_n 3 dX2_longestRunOfLost_22 rfl ?_
          refine x_iload_n 1 dX2_longestRunOfLost_23 rfl ?_
          refine x_iload_n 0 dX2_longestRunOfLost_24 rfl ?_
          refine x_iadd dX2_longestRunOfLost_25 ?_
          refine x_top (show (nI a) + (nI l) = nI (a + l) from nI_add a l) ?_
          refine x_aload_n 3 dX2_longestRunOfLost_26 rfl ?_
          refine gfX2_22 (by omega) (by omega) dX2_longestRunOfLost_27 ?_
          refine x_top (show σ t 2 = nI n from hT.1) ?_
          refine x_irem dX2_longestRunOfLost_30 (nI_ne0 (by omega) (by omega)) ?_
          refine x_top (show (nI (a + l)) % (nI n) = nI ((a + l) % n) from mx_rem (by omega) (by omega) (by omega)) ?_
          refine clX2_35 (qX2_at (by omega) (by omega) hT.1 hn6 hmod) (by decide) (by omega) (by omega) rfl dX2_longestRunOfLost_31 (fun r31 τ31 h31 => ?_)
          obtain ⟨rfl, rfl⟩ := h31
          refine gfX2_55 (by omega) (by omega) dX2_longestRunOfLost_34 ?_
          refine x_top (show σ (4 + 6 * t + ((a + l) % n)) 6 = zb (f_kept r ((a + l) % n)) from (hT.2.2.2.2 _ hmod).2.1) ?_
          refine x_if_ne dX2_longestRunOfLost_37 (fun c37 => ?_) (fun c37 => ?_)
          · replace c37 := zb_1 c37
            have hv : f_lenC n K a n 0 = l := f_lenC_t hltl hg (by rw [← hkt]; exact c37)
            refine x_iload_n 2 dX2_longestRunOfLost_46 rfl ?_
            refine x_iload_n 0 dX2_longestRunOfLost_47 rfl ?_
            refine clX2_104 (by decide) rfl dX2_longestRunOfLost_48 ?_
            refine x_top (show (if nI (f_runC n K a) < nI l then nI l else nI (f_runC n K a)) = nI (f_runC n K (a + 1)) from (by rw [f_maxI (Nat.lt_of_le_of_lt (f_runC_le n K a) (by omega)) (by omega), ← hv]; rfl)) ?_
            refine x_istore_n (lv' := [(1, .int (nI (f_runC n K (a + 1)))), (3, .int (nI l)), (2, .int (nI a)), (0, mx_rf E t)]) dX2_longestRunOfLost_51 rfl (by decide) rfl ?_
            refine x_iinc (v := nI (a + 1)) (lv' := [(2, .int (nI (a + 1))), (1, .int (nI (f_runC n K (a + 1)))), (3, .int (nI l)), (0, mx_rf E t)]) 2 dX2_longestRunOfLost_52 rfl (nI_1 _) (by decide) rfl ?_
            refine x_goto dX2_longestRunOfLost_55 ?_
            refine x_lvs [0, 1, 3] rfl ?_
            exact ih4 (a + 1) (by omega) (by omega)
          · replace c37 := zb_0 c37
            refine x_iinc (v := nI (l + 1)) (lv' := [(3, .int (nI (l + 1))), (2, .int (nI a)), (1, .int (nI (f_runC n K a))), (0, mx_rf E t)]) 0 dX2_longestRunOfLost_40 rfl (nI_1 _) (by decide) rfl ?_
            refine x_goto dX2_longestRunOfLost_43 ?_
            exact ih14 (l + 1) (by omega) (by omega) (f_lenC_f hltl hg (by rw [← hkt]; exact c37))
      exact key14 0 (Nat.zero_le _) rfl
  exact key4 0 (Nat.zero_le _)
