theorem pX0_crowd {E : mx_E} {σ : Mem} {k : Nat} (hk1 : 7 ≤ k) (hk2 : k < 28) (b : Bool) (hl : σ k 7 = zb b) : MX0_crowd E 0 [mx_rf E k] σ (mx_ie (f_crowd (σ k 2) (σ k 3) b) σ) := by
  have h := qX0_crowd (E := E) (σ := σ) (q := σ k) hk1 hk2 b hl
  rw [mx_row_self] at h
  exact h

theorem pX0_burns {E : mx_E} {σ : Mem} {k : Nat} (hk1 : 7 ≤ k) (hk2 : k < 28)  : MX0_burns E 0 [mx_rf E k] σ (mx_ie (f_burns (σ k 0)) σ) := by
  have h := qX0_burns (E := E) (σ := σ) (q := σ k) hk1 hk2 
  rw [mx_row_self] at h
  exact h

theorem pX0_childIsFound {E : mx_E} {σ : Mem} {k : Nat} (hk1 : 7 ≤ k) (hk2 : k < 28) (kb b : Bool) (hb : σ k 6 = zb kb) (hl : σ k 7 = zb b) (hk : ∃ x, x < 6 ∧ σ k 0 = nI x) : MX0_childIsFound E 1 [mx_rf E k] σ (mx_ie (zb (h_isF (σ k) kb b)) σ) := by
  have h := qX0_childIsFound (E := E) (σ := σ) (q := σ k) hk1 hk2 kb b hb hl hk
  rw [mx_row_self] at h
  exact h

theorem pX0_dent {E : mx_E} {σ : Mem} {k : Nat} (hk1 : 7 ≤ k) (hk2 : k < 28)  : MX0_dent E 1 [mx_rf E k] σ (mx_ve (mx_row σ k (upd (σ k) 5 (f_least 9 (σ k 5 + 1))))) := by
  have h := qX0_dent (E := E) (σ := σ) (q := σ k) hk1 hk2 
  rw [mx_row_self] at h
  exact h

theorem pX0_letTheRoom {E : mx_E} {σ : Mem} {k : Nat} (hk1 : 7 ≤ k) (hk2 : k < 28)  : MX0_letTheRoom E 2 [mx_rf E k] σ (mx_ve (mx_row σ k (upd (upd (σ k) 7 1) 4 (f_least 20 (σ k 4 + 3))))) := by
  have h := qX0_letTheRoom (E := E) (σ := σ) (q := σ k) hk1 hk2 
  rw [mx_row_self] at h
  exact h

theorem pX0_spendWeek {E : mx_E} {σ : Mem} {k : Nat} (hk1 : 7 ≤ k) (hk2 : k < 28) (week candles : Int32) (kb b : Bool) (hb : σ k 6 = zb kb) (hl : σ k 7 = zb b) (hk : ∃ x, x < 6 ∧ σ k 0 = nI x) (hf : ∃ f, f ≤ 9 ∧ σ k 1 = nI f) : MX0_spendWeek E 2 [mx_rf E k, .int week, .int candles] σ (mx_ie (h_spR (σ k) candles) (mx_row σ k (h_sp (σ k) week candles kb b))) := by
  have h := qX0_spendWeek (E := E) (σ := σ) (q := σ k) hk1 hk2 week candles kb b hb hl hk hf
  rw [mx_row_self] at h
  exact h

theorem pX0_become {E : mx_E} {σ : Mem} {k : Nat} (hk1 : 7 ≤ k) (hk2 : k < 28) (u : Nat) (hu1 : 7 ≤ u) (hu2 : u < 28) (hne : u ≠ k) (hb : σ u 6 = 0 ∨ σ u 6 = 1) (hl : σ u 7 = 0 ∨ σ u 7 = 1) : MX0_become E 0 [mx_rf E k, mx_rf E u] σ (mx_v (fun τ => ∃ q2 : Row, (∀ j, j < 8 → q2 j = σ u j) ∧ mx_row σ k q2 = τ)) := by
  have h := qX0_become (E := E) (σ := σ) (q := σ k) hk1 hk2 u hu1 hu2 hne hb hl
  rw [mx_row_self] at h
  exact h

set_option maxHeartbeats 4000000 in
theorem qX2_has {E : mx_E} {σ : Mem} {t n : Nat} (ht1 : 1 ≤ t) (ht2 : t < 4) (hc : σ t 2 = nI n) (i : Int32) : MX2_has E 0 [mx_rf E t, .int i] σ (mx_ie (zb (f_inN i n)) σ) := by
  refine MM.of (lv := [(0, mx_rf E t), (1, .int i)]) kpX2 rfl (Nat.le_of_ble_eq_true rfl) rfl ?_
  refine x_iload_n 1 dX2_has_0 rfl ?_
  refine x_if_lt dX2_has_1 (fun c1 => ?_) (fun c1 => ?_)
  · refine x_iconst (v := 0) dX2_has_16 (by decide) ?_
    exact x_zret dX2_has_17 (by decide) ⟨by simp [zb, f_inN, c1, (Int32.not_le.mpr c1)], rfl⟩
  · refine x_iload_n 1 dX2_has_4 rfl ?_
    refine x_aload_n 0 dX2_has_5 rfl ?_
    refine gfX2_22 (by omega) (by omega) dX2_has_6 ?_
    refine x_top (show σ t 2 = nI n from hc) ?_
    refine x_icmp_ge dX2_has_9 (fun c9 => ?_) (fun c9 => ?_)
    · refine x_iconst (v := 0) dX2_has_16 (by decide) ?_
      exact x_zret dX2_has_17 (by decide) ⟨by simp [zb, f_inN, c1, (Int32.not_lt.mp c1), c9, (Int32.not_lt.mpr c9)], rfl⟩
    · refine x_iconst (v := 1) dX2_has_12 (by decide) ?_
      refine x_goto dX2_has_13 ?_
      exact x_zret dX2_has_17 (by decide) ⟨by simp [zb, f_inN, c1, (Int32.not_lt.mp c1), c9, (Int32.not_le.mp c9)], rfl⟩

set_option maxHeartbeats 4000000 in
theorem qX2_at {E : mx_E} {σ : Mem} {t n : Nat} (ht1 : 1 ≤ t) (ht2 : t < 4) (hc : σ t 2 = nI n) (hn6 : n ≤ 6) {j : Nat} (hj : j < n) : MX2_at E 0 [mx_rf E t, .int (nI j)] σ (mx_re E (4 + 6 * t + j) σ) := by
  refine MM.of (lv := [(0, mx_rf E t), (1, .int (nI j))]) kpX2 rfl (Nat.le_of_ble_eq_true rfl) rfl ?_
  refine x_iload_n 1 dX2_at_0 rfl ?_
  refine x_if_lt dX2_at_1 (fun c1 => ?_) (fun c1 => ?_)
  · exact absurd c1 (nI_pos (by omega))
  · refine x_iload_n 1 dX2_at_4 rfl ?_
    refine x_aload_n 0 dX2_at_5 rfl ?_
    refine gfX2_22 (by omega) (by omega) dX2_at_6 ?_
    refine x_top (show σ t 2 = nI n from hc) ?_
    refine x_icmp_ge dX2_at_9 (fun c9 => ?_) (fun c9 => ?_)
    · exact absurd (nI_le_of (by omega) (by omega) c9) (by omega)
    · refine x_iload_n 1 dX2_at_12 rfl ?_
      refine x_aload_n 0 dX2_at_13 rfl ?_
      refine gfX2_11 (by omega) (by omega) dX2_at_14 ?_
      refine x_alenQ (by omega) (by omega) dX2_at_17 ?_
      refine x_icmp_ge dX2_at_18 (fun c18 => ?_) (fun c18 => ?_)
      · exact absurd (nI_le_of (b := 6) (by decide) (by omega) c18) (by omega)
      · refine x_aload_n 0 dX2_at_21 rfl ?_
        refine gfX2_11 (by omega) (by omega) dX2_at_22 ?_
        refine x_iload_n 1 dX2_at_25 rfl ?_
        refine x_aaload (by omega) (by omega) (vp_in_nI (by omega) (by omega)) dX2_at_26 ?_
        refine x_ifnonnull dX2_at_27 ?_
        refine x_aload_n 0 dX2_at_35 rfl ?_
        refine gfX2_11 (by omega) (by omega) dX2_at_36 ?_
        refine x_iload_n 1 dX2_at_39 rfl ?_
        refine x_aaload (by omega) (by omega) (vp_in_nI (by omega) (by omega)) dX2_at_40 ?_
        exact x_aret dX2_at_41 ⟨by rw [nI_clamp (by omega)]; omega, rfl⟩

set_option maxHeartbeats 4000000 in
theorem qX2_atN {E : mx_E} {σ : Mem} {t n : Nat} (ht1 : 1 ≤ t) (ht2 : t < 4) (hc : σ t 2 = nI n) (hn6 : n ≤ 6) {j : Nat} (hj : n ≤ j) (hj2 : j < 1000) : MX2_at E 0 [mx_rf E t, .int (nI j)] σ (mx_re E (t + 6) σ) := by
  refine MM.of (lv := [(0, mx_rf E t), (1, .int (nI j))]) kpX2 rfl (Nat.le_of_ble_eq_true rfl) rfl ?_
  refine x_iload_n 1 dX2_at_0 rfl ?_
  refine x_if_lt dX2_at_1 (fun c1 => ?_) (fun c1 => ?_)
  · exact absurd c1 (nI_pos (by omega))
  · refine x_iload_n 1 dX2_at_4 rfl ?_
    refine x_aload_n 0 dX2_at_5 rfl ?_
    refine gfX2_22 (by omega) (by omega) dX2_at_6 ?_
    refine x_top (show σ t 2 = nI n from hc) ?_
    refine x_icmp_ge dX2_at_9 (fun c9 => ?_) (fun c9 => ?_)
    · refine x_aload_n 0 dX2_at_30 rfl ?_
      refine gfX2_18 (by omega) (by omega) dX2_at_31 ?_
      exact x_aret dX2_at_34 ⟨rfl, rfl⟩
    · exact absurd (nI_lt_of (by omega) (by omega) c9) (by omega)

set_option maxHeartbeats 4000000 in
theorem qX2_nextKept {E : mx_E} {σ : Mem} {t n : Nat} (ht1 : 1 ≤ t) (ht2 : t < 4) {r : Row} (hT : TI σ t n r) (hw : wf n r) {h : Nat} (hh : h < n) : MX2_nextKept E 1 [mx_rf E t, .int (nI h)] σ (mx_ie (f_next n r h) σ) := by
  refine MM.of (lv := [(0, mx_rf E t), (1, .int (nI h))]) kpX2 rfl (Nat.le_of_ble_eq_true rfl) rfl ?_
  have hn6 := hw.1
  refine x_iconst (v := 1) dX2_nextKept_0 (by decide) ?_
  refine x_istore_n (lv' := [(2, .int 1), (0, mx_rf E t), (1, .int (nI h))]) dX2_nextKept_1 rfl (by decide) rfl ?_
  have key2 : ∀ k, k ≤ n → f_nextG n (r 4) h (n - 1 - k) (k + 1) = f_next n r h → MX E 1 RX2 cX2_nextKept 4 (some .int) 2 [(2, .int (nI (k + 1))), (0, mx_rf E t), (1, .int (nI h))] [] σ (mx_ie (f_next n r h) σ) := by
    refine mx_ind n (fun k hi2 ih2 => ?_)
    intro hg
    refine x_iload_n 0 dX2_nextKept_2 rfl ?_
    refine x_aload_n 1 dX2_nextKept_3 rfl ?_
    refine gfX2_22 (by omega) (by omega) dX2_nextKept_4 ?_
    refine x_top (show σ t 2 = nI n from hT.1) ?_
    refine x_icmp_ge dX2_nextKept_7 (fun c7 => ?_) (fun c7 => ?_)
    · have hge := nI_le_of (by omega) (by omega) c7
      refine x_bipush (v := -9) dX2_nextKept_38 (by decide) ?_
      exact x_iret dX2_nextKept_40 ⟨f_nextE hge hg, rfl⟩
    · have hlt := nI_lt_of (by omega) (by omega) c7
      have hmod : (h + (k + 1)) % n < n := Nat.mod_lt _ (by omega)
      have hg1 := f_nextT hlt hg
      have hg2 := f_nextF hlt hg
      refine x_iload_n 2 dX2_nextKept_10 rfl ?_
      refine x_iload_n 0 dX2_nextKept_11 rfl ?_
      refine x_iadd dX2_nextKept_12 ?_
      refine x_top (show (nI h) + (nI (k + 1)) = nI (h + (k + 1)) from nI_add h (k + 1)) ?_
      refine x_aload_n 1 dX2_nextKept_13 rfl ?_
      refine gfX2_22 (by omega) (by omega) dX2_nextKept_14 ?_
      refine x_top (show σ t 2 = nI n from hT.1) ?_
      refine x_irem dX2_nextKept_17 (nI_ne0 (by omega) (by omega)) ?_
      refine x_top (show (nI (h + (k + 1))) % (nI n) = nI ((h + (k + 1)) % n) from mx_rem (by omega) (by omega) (by omega)) ?_
      refine x_istore_n (lv' := [(3, .int (nI ((h + (k + 1)) % n))), (2, .int (nI (k + 1))), (0, mx_rf E t), (1, .int (nI h))]) dX2_nextKept_18 rfl (by decide) rfl ?_
      refine x_aload_n 2 dX2_nextKept_19 rfl ?_
      refine x_iload_n 0 dX2_nextKept_20 rfl ?_
      refine clX2_35 (qX2_at (by omega) (by omega) hT.1 hn6 (Nat.mod_lt _ (by omega))) (by decide) (by omega) (by omega) rfl dX2_nextKept_21 (fun r21 τ21 h21 => ?_)
      obtain ⟨rfl, rfl⟩ := h21
      refine gfX2_55 (by omega) (by omega) dX2_nextKept_24 ?_
      refine x_top (show σ (4 + 6 * t + ((h + (k + 1)) % n)) 6 = zb (f_kept r ((h + (k + 1)) % n)) from (hT.2.2.2.2 _ (Nat.mod_lt _ (by omega))).2.1) ?_
      refine x_if_eq dX2_nextKept_27 (fun c27 => ?_) (fun c27 => ?_)
      · replace c27 := zb_0 c27
        refine x_iinc (v := nI (k + 1 + 1)) (lv' := [(2, .int (nI (k + 1 + 1))), (3, .int (nI ((h + (k + 1)) % n))), (0, mx_rf E t), (1, .int (nI h))]) 1 dX2_nextKept_32 rfl (nI_1 _) (by decide) rfl ?_
        refine x_goto dX2_nextKept_35 ?_
        refine x_lvs [0, 2, 3] rfl ?_
        exact ih2 (k + 1) (by omega) (by omega) (hg2 c27)
      · replace c27 := zb_1 c27
        refine x_iload_n 0 dX2_nextKept_30 rfl ?_
        exact x_iret dX2_nextKept_31 ⟨hg1 c27, rfl⟩
  exact key2 0 (Nat.zero_le _) rfl

set_option maxHeartbeats 4000000 in
theorem qX2_loseN {E : mx_E} {σ : Mem} {t n : Nat} (ht1 : 1 ≤ t) (ht2 : t < 4) {r : Row} (hT : TI σ t n r) (hw : wf n r) {i : Nat} (hi : i < n) (hx : f_next n r i = -9) : MX2_lose E 1 [mx_rf E t, mx_rf E (4 + 6 * t + i), .int (-9)] σ (mx_v (fun τ => TI τ t n (f_loses n r i) ∧ Off t σ τ)) := by
  refine MM.of (lv := [(0, mx_rf E t), (1, mx_rf E (4 + 6 * t + i)), (2, .int (-9))]) kpX2 rfl (Nat.le_of_ble_eq_true rfl) rfl ?_
  have hn6 := hw.1
  refine x_iload_n 2 dX2_lose_0 rfl ?_
  refine x_bipush (v := -9) dX2_lose_1 (by decide) ?_
  refine x_icmp_eq dX2_lose_3 (fun _ => ?_) (fun c => absurd c (by decide))
  refine x_aload_n 1 dX2_lose_30 rfl ?_
  refine x_iconst (v := 0) dX2_lose_31 (by decide) ?_
  refine pfX2_52 (by omega) (by omega) dX2_lose_32 ?_
  refine x_aload_n 1 dX2_lose_35 rfl ?_
  refine x_iconst (v := 0) dX2_lose_36 (by decide) ?_
  refine pfX2_55 (by omega) (by omega) (by decide) dX2_lose_37 ?_
  exact x_vret dX2_lose_40 ⟨by rw [f_loses_N hw hi hx]; exact (hT.fld ht1 hi (by decide)).unkeep (wf_ppl (q := 0) hw hi (by omega)) ht1 hi, (Off.rf.up (inT_h (by omega))).up (inT_h (by omega))⟩

set_option maxHeartbeats 4000000 in
theorem qX2_loseJ {E : mx_E} {σ : Mem} {t n : Nat} (ht1 : 1 ≤ t) (ht2 : t < 4) {r : Row} (hT : TI σ t n r) (hw : wf n r) {i : Nat} (hi : i < n) {j : Nat} (hj : j < n) (hx : f_next n r i = nI j) {v : Int32} (hv : v = f_least 30 (r (6 + 6 * j + 3) + r (6 + 6 * i + 3))) (hwj : wf n (upd r (6 + 6 * j + 3) v)) : MX2_lose E 1 [mx_rf E t, mx_rf E (4 + 6 * t + i), .int (nI j)] σ (mx_v (fun τ => TI τ t n (f_loses n r i) ∧ Off t σ τ)) := by
  refine MM.of (lv := [(0, mx_rf E t), (1, mx_rf E (4 + 6 * t + i)), (2, .int (nI j))]) kpX2 rfl (Nat.le_of_ble_eq_true rfl) rfl ?_
  have hn6 := hw.1
  refine x_iload_n 2 dX2_lose_0 rfl ?_
  refine x_bipush (v := -9) dX2_lose_1 (by decide) ?_
  refine x_icmp_eq dX2_lose_3 (fun c3 => ?_) (fun c3 => ?_)
  · exact absurd c3 (nI_ne9 (by omega))
  · refine x_aload_n 0 dX2_lose_6 rfl ?_
    refine x_iload_n 2 dX2_lose_7 rfl ?_
    refine clX2_35 (qX2_at (by omega) (by omega) hT.1 hn6 (by omega)) (by decide) (by omega) (by omega) rfl dX2_lose_8 (fun r8 τ8 h8 => ?_)
    obtain ⟨rfl, rfl⟩ := h8
    refine x_astore_n (lv' := [(3, mx_rf E (4 + 6 * t + j)), (0, mx_rf E t), (1, mx_rf E (4 + 6 * t + i)), (2, .int (nI j))]) dX2_lose_11 rfl (by decide) rfl ?_
    refine x_aload_n 0 dX2_lose_12 rfl ?_
    refine x_bipush (v := 30) dX2_lose_13 (by decide) ?_
    refine x_aload_n 0 dX2_lose_15 rfl ?_
    refine gfX2_52 (by omega) (by omega) dX2_lose_16 ?_
    refine x_top (show σ (4 + 6 * t + j) 3 = r (6 + 6 * j + 3) from (hT.2.2.2.2 _ hj).1 3 (by decide)) ?_
    refine x_aload_n 2 dX2_lose_19 rfl ?_
    refine gfX2_52 (by omega) (by omega) dX2_lose_20 ?_
    refine x_top (show σ (4 + 6 * t + i) 3 = r (6 + 6 * i + 3) from (hT.2.2.2.2 _ hi).1 3 (by decide)) ?_
    refine x_iadd dX2_lose_23 ?_
    refine clX2_80 (by decide) rfl dX2_lose_24 ?_
    refine x_top (f_min _ _) ?_
    refine x_top (show f_least 30 ((r (6 + 6 * j + 3)) + (r (6 + 6 * i + 3))) = v from hv.symm) ?_
    refine pfX2_52 (by omega) (by omega) dX2_lose_27 ?_
    refine x_aload_n 2 dX2_lose_30 rfl ?_
    refine x_iconst (v := 0) dX2_lose_31 (by decide) ?_
    refine pfX2_52 (by omega) (by omega) dX2_lose_32 ?_
    refine x_aload_n 2 dX2_lose_35 rfl ?_
    refine x_iconst (v := 0) dX2_lose_36 (by decide) ?_
    refine pfX2_55 (by omega) (by omega) (by decide) dX2_lose_37 ?_
    exact x_vret dX2_lose_40 ⟨by rw [f_loses_J hw hi hj hx, ← hv]; exact ((hT.fld ht1 hj (by decide)).fld ht1 hi (by decide)).unkeep (wf_ppl (q := 0) hwj hi (by omega)) ht1 hi, ((Off.rf.up (inT_h (by omega))).up (inT_h (by omega))).up (inT_h (by omega))⟩

theorem wf_loseJ {n : Nat} {r : Row} (h : wf n r) {i j : Nat} (hi : i < n) (hj : j < n) : wf n (upd r (6 + 6 * j + 3) (f_least 30 (r (6 + 6 * j + 3) + r (6 + 6 * i + 3)))) := by
  obtain ⟨-, -, -, -, -, f⟩ := id h
  obtain ⟨-, -, p1, hp1, e1⟩ := f j hj
  obtain ⟨-, -, p2, hp2, e2⟩ := f i hi
  obtain ⟨q, hq, e3⟩ := f_least_le (a := 30) (by decide) (x := r (6 + 6 * j + 3) + r (6 + 6 * i + 3)) ⟨p1 + p2, by omega, by rw [e1, e2, nI_add]⟩
  rw [show (30 : Int32) = nI 30 from rfl, e3]
  exact wf_ppl h hj hq

set_option maxHeartbeats 4000000 in
theorem qX2_inspect0 {E : mx_E} {σ : Mem} {t n : Nat} (ht1 : 1 ≤ t) (ht2 : t < 4) {r : Row} (hT : TI σ t n r) (hw : wf n r) (hN : NW σ) (hz : n = 0) : MX2_inspect E 2 [mx_rf E t] σ (mx_v (fun τ => TI τ t n (f_insp n r) ∧ Off t σ τ)) := by
  refine MM.of (lv := [(0, mx_rf E t)]) kpX2 rfl (Nat.le_of_ble_eq_true rfl) rfl ?_
  have hn6 := hw.1
  obtain ⟨e2, hz0, -⟩ := wf_at hw
  refine x_aload_n 0 dX2_inspect_0 rfl ?_
  refine x_aload_n 0 dX2_inspect_1 rfl ?_
  refine gfX2_26 (by omega) (by omega) dX2_inspect_2 ?_
  refine x_top (show σ t 3 = nI 0 from hT.2.1.trans (by rw [e2, hz0 hz])) ?_
  refine clX2_35 (qX2_atN ht1 ht2 hT.1 hn6 (j := 0) (by omega) (by omega)) (by decide) (by omega) (by omega) rfl dX2_inspect_5 (fun r5 τ5 h5 => ?_)
  obtain ⟨rfl, rfl⟩ := h5
  refine x_astore_n (lv' := [(1, mx_rf E (t + 6)), (0, mx_rf E t)]) dX2_inspect_8 rfl (by decide) rfl ?_
  refine x_aload_n 0 dX2_inspect_9 rfl ?_
  refine gfX2_55 (by omega) (by omega) dX2_inspect_10 ?_
  refine x_top (show σ (t + 6) 6 = 0 from hN t ht1 ht2 6 (by decide)) ?_
  refine x_if_eq dX2_inspect_13 (fun _ => ?_) (fun c => absurd c (by decide))
  refine x_aload_n 0 dX2_inspect_49 rfl ?_
  refine gfX2_55 (by omega) (by omega) dX2_inspect_50 ?_
  refine x_top (show σ (t + 6) 6 = 0 from hN t ht1 ht2 6 (by decide)) ?_
  refine x_if_eq dX2_inspect_53 (fun _ => ?_) (fun c => absurd c (by decide))
  refine x_aload_n 1 dX2_inspect_61 rfl ?_
  refine gfX2_22 (by omega) (by omega) dX2_inspect_62 ?_
  refine x_top (show σ t 2 = 0 from hT.1.trans (by rw [hz]; rfl)) ?_
  refine x_if_le dX2_inspect_65 (fun _ => ?_) (fun c => absurd c (by decide))
  exact x_vret dX2_inspect_83 ⟨by rw [f_insp_0 hz]; exact hT, Off.rf⟩

set_option maxHeartbeats 4000000 in
theorem qX2_inspectP {E : mx_E} {σ : Mem} {t n : Nat} (ht1 : 1 ≤ t) (ht2 : t < 4) {r : Row} (hT : TI σ t n r) (hw : wf n r) (hN : NW σ) (hz : 0 < n) : MX2_inspect E 2 [mx_rf E t] σ (mx_v (fun τ => TI τ t n (f_insp n r) ∧ Off t σ τ)) := by
  refine MM.of (lv := [(0, mx_rf E t)]) kpX2 rfl (Nat.le_of_ble_eq_true rfl) rfl ?_
  have hn6 := hw.1
  obtain ⟨e2, -, hz1⟩ := wf_at hw
  have hlt := hz1 hz
  refine x_aload_n 0 dX2_inspect_0 rfl ?_
  refine x_aload_n 0 dX2_inspect_1 rfl ?_
  refine gfX2_26 (by omega) (by omega) dX2_inspect_2 ?_
  refine x_top (show σ t 3 = nI (f_at r) from hT.2.1.trans e2) ?_
  refine clX2_35 (qX2_at (by omega) (by omega) hT.1 hn6 hlt) (by decide) (by omega) (by omega) rfl dX2_inspect_5 (fun r5 τ5 h5 => ?_)
  obtain ⟨rfl, rfl⟩ := h5
  refine x_astore_n (lv' := [(1, mx_rf E (4 + 6 * t + (f_at r))), (0, mx_rf E t)]) dX2_inspect_8 rfl (by decide) rfl ?_
  refine x_aload_n 0 dX2_inspect_9 rfl ?_
  refine gfX2_55 (by omega) (by omega) dX2_inspect_10 ?_
  refine x_top (show σ (4 + 6 * t + (f_at r)) 6 = zb (f_kept r (f_at r)) from (hT.2.2.2.2 _ hlt).2.1) ?_
  refine x_if_eq dX2_inspect_13 (fun c13 => ?_) (fun c13 => ?_)
  · replace c13 := zb_0 c13
    refine x_aload_n 0 dX2_inspect_49 rfl ?_
    refine gfX2_55 (by omega) (by omega) dX2_inspect_50 ?_
    refine x_top (show σ (4 + 6 * t + (f_at r)) 6 = 0 from ((hT.2.2.2.2 _ hlt).2.1).trans (by rw [c13]; rfl)) ?_
    refine x_if_eq dX2_inspect_53 (fun _ => ?_) (fun c => absurd c (by decide))
    refine x_aload_n 1 dX2_inspect_61 rfl ?_
    refine gfX2_22 (by omega) (by omega) dX2_inspect_62 ?_
    refine x_top (show σ t 2 = nI n from hT.1) ?_
    refine x_if_le dX2_inspect_65 (fun c65 => ?_) (fun c65 => ?_)
    · exact absurd c65 (nI_nle (by omega) (by omega))
    · refine x_aload_n 1 dX2_inspect_68 rfl ?_
      refine x_aload_n 1 dX2_inspect_69 rfl ?_
      refine gfX2_26 (by omega) (by omega) dX2_inspect_70 ?_
      refine x_top (show σ t 3 = nI (f_at r) from hT.2.1.trans e2) ?_
      refine x_iconst (v := 1) dX2_inspect_73 (by decide) ?_
      refine x_iadd dX2_inspect_74 ?_
      refine x_top (show (nI (f_at r)) + 1 = nI (f_at r + 1) from nI_add (f_at r) 1) ?_
      refine x_aload_n 1 dX2_inspect_75 rfl ?_
      refine gfX2_22 (by omega) (by omega) dX2_inspect_76 ?_
      refine x_top (show σ t 2 = nI n from hT.1) ?_
      refine x_irem dX2_inspect_79 (nI_ne0 (by omega) (by omega)) ?_
      refine x_top (show (nI (f_at r + 1)) % (nI n) = nI ((f_at r + 1) % n) from mx_rem (by omega) (by omega) (by omega)) ?_
      refine pfX2_26 (by omega) (by omega) dX2_inspect_80 ?_
      exact x_vret dX2_inspect_83 ⟨by rw [f_insp_p hz]; simp only [c13, or_true, true_or, or_false, reduceIte, Bool.false_eq_true]; exact hT.insp ht1 _, Off.rf.up inT_t⟩
  · replace c13 := zb_1 c13
    refine x_aload_n 0 dX2_inspect_16 rfl ?_
    refine gfX2_66 (by omega) (by omega) dX2_inspect_17 ?_
    refine x_top (show σ (4 + 6 * t + (f_at r)) 4 = r (6 + 6 * f_at r + 4) from (hT.2.2.2.2 _ hlt).1 4 (by decide)) ?_
    refine x_bipush (v := 10) dX2_inspect_20 (by decide) ?_
    refine x_icmp_ge dX2_inspect_22 (fun c22 => ?_) (fun c22 => ?_)
    · refine x_aload_n 1 dX2_inspect_33 rfl ?_
      refine x_aload_n 0 dX2_inspect_34 rfl ?_
      refine x_aload_n 1 dX2_inspect_35 rfl ?_
      refine x_aload_n 1 dX2_inspect_36 rfl ?_
      refine gfX2_26 (by omega) (by omega) dX2_inspect_37 ?_
      refine x_top (show σ t 3 = nI (f_at r) from hT.2.1.trans e2) ?_
      refine clX2_72 (qX2_nextKept (by omega) (by omega) hT hw hlt) (by decide) (by omega) (by omega) rfl dX2_inspect_40 (fun r40 τ40 h40 => ?_)
      obtain ⟨rfl, rfl⟩ := h40
      rcases f_next_in (n := n) (r := r) hlt with hx | ⟨j, hj, hx⟩
      · refine x_top hx ?_
        refine clX2_76 (qX2_loseN ht1 ht2 hT hw hlt hx) (by decide) (by omega) (by omega) rfl dX2_inspect_43 (fun τ43 h43 => ?_)
        refine x_goto dX2_inspect_46 ?_
        refine x_aload_n 1 dX2_inspect_61 rfl ?_
        refine gfX2_22 (by omega) (by omega) dX2_inspect_62 ?_
        refine x_top (show τ43 t 2 = nI n from h43.1.1) ?_
        refine x_if_le dX2_inspect_65 (fun c65 => ?_) (fun c65 => ?_)
        · exact absurd c65 (nI_nle (by omega) (by omega))
        · refine x_aload_n 1 dX2_inspect_68 rfl ?_
          refine x_aload_n 1 dX2_inspect_69 rfl ?_
          refine gfX2_26 (by omega) (by omega) dX2_inspect_70 ?_
          refine x_top (show τ43 t 3 = nI (f_at r) from h43.1.2.1.trans ((f_loses_o (by omega) (by omega)).trans e2)) ?_
          refine x_iconst (v := 1) dX2_inspect_73 (by decide) ?_
          refine x_iadd dX2_inspect_74 ?_
          refine x_top (show (nI (f_at r)) + 1 = nI (f_at r + 1) from nI_add (f_at r) 1) ?_
          refine x_aload_n 1 dX2_inspect_75 rfl ?_
          refine gfX2_22 (by omega) (by omega) dX2_inspect_76 ?_
          refine x_top (show τ43 t 2 = nI n from h43.1.1) ?_
          refine x_irem dX2_inspect_79 (nI_ne0 (by omega) (by omega)) ?_
          refine x_top (show (nI (f_at r + 1)) % (nI n) = nI ((f_at r + 1) % n) from mx_rem (by omega) (by omega) (by omega)) ?_
          refine pfX2_26 (by omega) (by omega) dX2_inspect_80 ?_
          exact x_vret dX2_inspect_83 ⟨by rw [f_insp_p hz]; simp only [c13, c22, (Int32.not_lt.mpr c22), or_true, true_or, or_false, reduceIte, Bool.false_eq_true]; exact h43.1.insp ht1 _, h43.2.up inT_t⟩
      · refine x_top hx ?_
        refine clX2_76 (qX2_loseJ ht1 ht2 hT hw hlt hj hx rfl (wf_loseJ hw hlt hj)) (by decide) (by omega) (by omega) rfl dX2_inspect_43 (fun τ43 h43 => ?_)
        refine x_goto dX2_inspect_46 ?_
        refine x_aload_n 1 dX2_inspect_61 rfl ?_
        refine gfX2_22 (by omega) (by omega) dX2_inspect_62 ?_
        refine x_top (show τ43 t 2 = nI n from h43.1.1) ?_
        refine x_if_le dX2_inspect_65 (fun c65 => ?_) (fun c65 => ?_)
        · exact absurd c65 (nI_nle (by omega) (by omega))
        · refine x_aload_n 1 dX2_inspect_68 rfl ?_
          refine x_aload_n 1 dX2_inspect_69 rfl ?_
          refine gfX2_26 (by omega) (by omega) dX2_inspect_70 ?_
          refine x_top (show τ43 t 3 = nI (f_at r) from h43.1.2.1.trans ((f_loses_o (by omega) (by omega)).trans e2)) ?_
          refine x_iconst (v := 1) dX2_inspect_73 (by decide) ?_
          refine x_iadd dX2_inspect_74 ?_
          refine x_top (show (nI (f_at r)) + 1 = nI (f_at r + 1) from nI_add (f_at r) 1) ?_
          refine x_aload_n 1 dX2_inspect_75 rfl ?_
          refine gfX2_22 (by omega) (by omega) dX2_inspect_76 ?_
          refine x_top (show τ43 t 2 = nI n from h43.1.1) ?_
          refine x_irem dX2_inspect_79 (nI_ne0 (by omega) (by omega)) ?_
          refine x_top (show (nI (f_at r + 1)) % (nI n) = nI ((f_at r + 1) % n) from mx_rem (by omega) (by omega) (by omega)) ?_
          refine pfX2_26 (by omega) (by omega) dX2_inspect_80 ?_
          exact x_vret dX2_inspect_83 ⟨by rw [f_insp_p hz]; simp only [c13, c22, (Int32.not_lt.mpr c22), or_true, true_or, or_false, reduceIte, Bool.false_eq_true]; exact h43.1.insp ht1 _, h43.2.up inT_t⟩
    · refine x_aload_n 0 dX2_inspect_25 rfl ?_
      refine gfX2_69 (by omega) (by omega) dX2_inspect_26 ?_
      refine x_top (show σ (4 + 6 * t + (f_at r)) 5 = r (6 + 6 * f_at r + 5) from (hT.2.2.2.2 _ hlt).1 5 (by decide)) ?_
      refine x_iconst (v := 3) dX2_inspect_29 (by decide) ?_
      refine x_icmp_lt dX2_inspect_30 (fun c30 => ?_) (fun c30 => ?_)
      · refine x_aload_n 0 dX2_inspect_49 rfl ?_
        refine gfX2_55 (by omega) (by omega) dX2_inspect_50 ?_
        refine x_top (show σ (4 + 6 * t + (f_at r)) 6 = 1 from ((hT.2.2.2.2 _ hlt).2.1).trans (by rw [c13]; rfl)) ?_
        refine x_if_eq dX2_inspect_53 (fun c => absurd c (by decide)) (fun _ => ?_)
        refine x_aload_n 0 dX2_inspect_56 rfl ?_
        refine x_iconst (v := 0) dX2_inspect_57 (by decide) ?_
        refine pfX2_66 (by omega) (by omega) dX2_inspect_58 ?_
        have hT2 : TI (mx_up σ (4 + 6 * t + (f_at r)) 4 0) t n (upd r (6 + 6 * f_at r + 4) 0) := hT.fld ht1 hlt (by decide)
        have hO2 : Off t σ (mx_up σ (4 + 6 * t + (f_at r)) 4 0) := Off.rf.up (inT_h (by omega))
        refine x_aload_n 1 dX2_inspect_61 rfl ?_
        refine gfX2_22 (by omega) (by omega) dX2_inspect_62 ?_
        refine x_top (show (mx_up σ (4 + 6 * t + (f_at r)) 4 0) t 2 = nI n from hT2.1) ?_
        refine x_if_le dX2_inspect_65 (fun c65 => ?_) (fun c65 => ?_)
        · exact absurd c65 (nI_nle (by omega) (by omega))
        · refine x_aload_n 1 dX2_inspect_68 rfl ?_
          refine x_aload_n 1 dX2_inspect_69 rfl ?_
          refine gfX2_26 (by omega) (by omega) dX2_inspect_70 ?_
          refine x_top (show (mx_up σ (4 + 6 * t + (f_at r)) 4 0) t 3 = nI (f_at r) from hT2.2.1.trans ((upd_o (by omega)).trans e2)) ?_
          refine x_iconst (v := 1) dX2_inspect_73 (by decide) ?_
          refine x_iadd dX2_inspect_74 ?_
          refine x_top (show (nI (f_at r)) + 1 = nI (f_at r + 1) from nI_add (f_at r) 1) ?_
          refine x_aload_n 1 dX2_inspect_75 rfl ?_
          refine gfX2_22 (by omega) (by omega) dX2_inspect_76 ?_
          refine x_top (show (mx_up σ (4 + 6 * t + (f_at r)) 4 0) t 2 = nI n from hT2.1) ?_
          refine x_irem dX2_inspect_79 (nI_ne0 (by omega) (by omega)) ?_
          refine x_top (show (nI (f_at r + 1)) % (nI n) = nI ((f_at r + 1) % n) from mx_rem (by omega) (by omega) (by omega)) ?_
          refine pfX2_26 (by omega) (by omega) dX2_inspect_80 ?_
          exact x_vret dX2_inspect_83 ⟨by rw [f_insp_p hz]; simp only [c13, c22, (Int32.not_le.mp c22), c30, (Int32.not_le.mpr c30), or_true, true_or, or_false, reduceIte, Bool.false_eq_true]; exact hT2.insp ht1 _, hO2.up inT_t⟩
      · refine x_aload_n 1 dX2_inspect_33 rfl ?_
        refine x_aload_n 0 dX2_inspect_34 rfl ?_
        refine x_aload_n 1 dX2_inspect_35 rfl ?_
        refine x_aload_n 1 dX2_inspect_36 rfl ?_
        refine gfX2_26 (by omega) (by omega) dX2_inspect_37 ?_
        refine x_top (show σ t 3 = nI (f_at r) from hT.2.1.trans e2) ?_
        refine clX2_72 (qX2_nextKept (by omega) (by omega) hT hw hlt) (by decide) (by omega) (by omega) rfl dX2_inspect_40 (fun r40 τ40 h40 => ?_)
        obtain ⟨rfl, rfl⟩ := h40
        rcases f_next_in (n := n) (r := r) hlt with hx | ⟨j, hj, hx⟩
        · refine x_top hx ?_
          refine clX2_76 (qX2_loseN ht1 ht2 hT hw hlt hx) (by decide) (by omega) (by omega) rfl dX2_inspect_43 (fun τ43 h43 => ?_)
          refine x_goto dX2_inspect_46 ?_
          refine x_aload_n 1 dX2_inspect_61 rfl ?_
          refine gfX2_22 (by omega) (by omega) dX2_inspect_62 ?_
          refine x_top (show τ43 t 2 = nI n from h43.1.1) ?_
          refine x_if_le dX2_inspect_65 (fun c65 => ?_) (fun c65 => ?_)
          · exact absurd c65 (nI_nle (by omega) (by omega))
          · refine x_aload_n 1 dX2_inspect_68 rfl ?_
            refine x_aload_n 1 dX2_inspect_69 rfl ?_
            refine gfX2_26 (by omega) (by omega) dX2_inspect_70 ?_
            refine x_top (show τ43 t 3 = nI (f_at r) from h43.1.2.1.trans ((f_loses_o (by omega) (by omega)).trans e2)) ?_
            refine x_iconst (v := 1) dX2_inspect_73 (by decide) ?_
            refine x_iadd dX2_inspect_74 ?_
            refine x_top (show (nI (f_at r)) + 1 = nI (f_at r + 1) from nI_add (f_at r) 1) ?_
            refine x_aload_n 1 dX2_inspect_75 rfl ?_
            refine gfX2_22 (by omega) (by omega) dX2_inspect_76 ?_
            refine x_top (show τ43 t 2 = nI n from h43.1.1) ?_
            refine x_irem dX2_inspect_79 (nI_ne0 (by omega) (by omega)) ?_
            refine x_top (show (nI (f_at r + 1)) % (nI n) = nI ((f_at r + 1) % n) from mx_rem (by omega) (by omega) (by omega)) ?_
            refine pfX2_26 (by omega) (by omega) dX2_inspect_80 ?_
            exact x_vret dX2_inspect_83 ⟨by rw [f_insp_p hz]; simp only [c13, c22, (Int32.not_le.mp c22), c30, (Int32.not_lt.mp c30), or_true, true_or, or_false, reduceIte, Bool.false_eq_true]; exact h43.1.insp ht1 _, h43.2.up inT_t⟩
        · refine x_top hx ?_
          refine clX2_76 (qX2_loseJ ht1 ht2 hT hw hlt hj hx rfl (wf_loseJ hw hlt hj)) (by decide) (by omega) (by omega) rfl dX2_inspect_43 (fun τ43 h43 => ?_)
          refine x_goto dX2_inspect_46 ?_
          refine x_aload_n 1 dX2_inspect_61 rfl ?_
          refine gfX2_22 (by omega) (by omega) dX2_inspect_62 ?_
          refine x_top (show τ43 t 2 = nI n from h43.1.1) ?_
          refine x_if_le dX2_inspect_65 (fun c65 => ?_) (fun c65 => ?_)
          · exact absurd c65 (nI_nle (by omega) (by omega))
          · refine x_aload_n 1 dX2_inspect_68 rfl ?_
            refine x_aload_n 1 dX2_inspect_69 rfl ?_
            refine gfX2_26 (by omega) (by omega) dX2_inspect_70 ?_
            refine x_top (show τ43 t 3 = nI (f_at r) from h43.1.2.1.trans ((f_loses_o (by omega) (by omega)).trans e2)) ?_
            refine x_iconst (v := 1) dX2_inspect_73 (by decide) ?_
            refine x_iadd dX2_inspect_74 ?_
            refine x_top (show (nI (f_at r)) + 1 = nI (f_at r + 1) from nI_add (f_at r) 1) ?_
            refine x_aload_n 1 dX2_inspect_75 rfl ?_
            refine gfX2_22 (by omega) (by omega) dX2_inspect_76 ?_
            refine x_top (show τ43 t 2 = nI n from h43.1.1) ?_
            refine x_irem dX2_inspect_79 (nI_ne0 (by omega) (by omega)) ?_
            refine x_top (show (nI (f_at r + 1)) % (nI n) = nI ((f_at r + 1) % n) from mx_rem (by omega) (by omega) (by omega)) ?_
            refine pfX2_26 (by omega) (by omega) dX2_inspect_80 ?_
            exact x_vret dX2_inspect_83 ⟨by rw [f_insp_p hz]; simp only [c13, c22, (Int32.not_le.mp c22), c30, (Int32.not_lt.mp c30), or_true, true_or, or_false, reduceIte, Bool.false_eq_true]; exact h43.1.insp ht1 _, h43.2.up inT_t⟩

theorem qX2_inspect {E : mx_E} {σ : Mem} {t n : Nat} (ht1 : 1 ≤ t) (ht2 : t < 4) {r : Row} (hT : TI σ t n r) (hw : wf n r) (hN : NW σ) : MX2_inspect E 2 [mx_rf E t] σ (mx_v (fun τ => TI τ t n (f_insp n r) ∧ Off t σ τ)) := by
  rcases Nat.eq_zero_or_pos n with hz | hz
  · exact qX2_inspect0 ht1 ht2 hT hw hN hz
  · exact qX2_inspectP ht1 ht2 hT hw hN hz
