theorem gX4_crowd {E : mx_E} {σ : Mem} {a : Nat} (ha1 : 36 ≤ a) (ha2 : a < 40) {r : Row} (hra : σ a = r) (h : Nat) (hh : h < 6) : MX4_crowd E 1 [mx_rf E a, .int (nI h)] σ (mx_ie (f_crowdR r h) σ) := by
  have z := qX4_crowd (E := E) (σ := σ) ha1 ha2 r h hh
  rw [show mx_row σ a r = σ from by rw [← hra]; exact mx_row_self σ a] at z
  exact z

theorem gX4_isFound {E : mx_E} {σ : Mem} {a : Nat} (ha1 : 36 ≤ a) (ha2 : a < 40) {r : Row} (hra : σ a = r) (h : Nat) (hh : h < 6) : MX4_isFound E 2 [mx_rf E a, .int (nI h)] σ (mx_ie (zb (f_isF r h)) σ) := by
  have z := qX4_isFound (E := E) (σ := σ) ha1 ha2 r h hh
  rw [show mx_row σ a r = σ from by rw [← hra]; exact mx_row_self σ a] at z
  exact z

theorem gX4_nextKept {E : mx_E} {σ : Mem} {a : Nat} (ha1 : 36 ≤ a) (ha2 : a < 40) {r : Row} (hra : σ a = r) (n : Nat) (hn : n ≤ 6) (h0 : r 0 = nI n) (h : Nat) (hh : h < n) : MX4_nextKept E 1 [mx_rf E a, .int (nI h)] σ (mx_ie (f_next n r h) σ) := by
  have z := qX4_nextKept (E := E) (σ := σ) ha1 ha2 r n hn h0 h hh
  rw [show mx_row σ a r = σ from by rw [← hra]; exact mx_row_self σ a] at z
  exact z

theorem gX4_week {E : mx_E} {σ : Mem} {a : Nat} (ha1 : 36 ≤ a) (ha2 : a < 40) {r : Row} (hra : σ a = r) (n : Nat) (hw : wf n r) : MX4_week E 4 [mx_rf E a] σ (mx_ve (mx_row σ a (f_week n r))) := by
  have z := qX4_week (E := E) (σ := σ) ha1 ha2 r n hw
  rw [show mx_row σ a r = σ from by rw [← hra]; exact mx_row_self σ a] at z
  exact z

theorem gX4_weeksOn {E : mx_E} {σ : Mem} {a : Nat} (ha1 : 36 ≤ a) (ha2 : a < 40) {r : Row} (hra : σ a = r) (n : Nat) (hw : wf n r) (k : Nat) (hk : k < 1000) : MX4_weeksOn E 5 [mx_rf E a, .int (nI k)] σ (mx_ve (mx_row σ a (f_weeks n r k))) := by
  have z := qX4_weeksOn (E := E) (σ := σ) ha1 ha2 r n hw k hk
  rw [show mx_row σ a r = σ from by rw [← hra]; exact mx_row_self σ a] at z
  exact z

theorem gX4_burnsIn {E : mx_E} {σ : Mem} {a : Nat} (ha1 : 36 ≤ a) (ha2 : a < 40) {r : Row} (hra : σ a = r) (n : Nat) (hn6 : n ≤ 6) (h0 : r 0 = nI n) : MX4_burnsIn E 1 [mx_rf E a] σ (mx_ie (f_burnsU r n) σ) := by
  have z := qX4_burnsIn (E := E) (σ := σ) ha1 ha2 r n hn6 h0
  rw [show mx_row σ a r = σ from by rw [← hra]; exact mx_row_self σ a] at z
  exact z

theorem gX4_allPeople {E : mx_E} {σ : Mem} {a : Nat} (ha1 : 36 ≤ a) (ha2 : a < 40) {r : Row} (hra : σ a = r) (n : Nat) (hn6 : n ≤ 6) (h0 : r 0 = nI n) : MX4_allPeople E 1 [mx_rf E a] σ (mx_ie (f_pplU r n) σ) := by
  have z := qX4_allPeople (E := E) (σ := σ) ha1 ha2 r n hn6 h0
  rw [show mx_row σ a r = σ from by rw [← hra]; exact mx_row_self σ a] at z
  exact z

def f_cp (f g : Row) (k : Nat) : Row := fun j => if j < k then f j else g j
theorem f_cp_s (f g : Row) (k : Nat) : upd (f_cp f g k) k (f k) = f_cp f g (k + 1) := by
  funext j
  unfold upd f_cp
  by_cases c : j = k
  · subst c; rw [if_pos rfl, if_pos (by omega)]
  · rw [if_neg c]
    by_cases c2 : j < k
    · rw [if_pos c2, if_pos (by omega)]
    · rw [if_neg c2, if_neg (by omega)]

set_option maxHeartbeats 4000000 in
theorem qX4_copies {E : mx_E} {σ : Mem} {a b : Nat} (ha1 : 36 ≤ a) (ha2 : a < 40) (hb1 : 36 ≤ b) (hb2 : b < 40) (hab : a ≠ b) {r : Row} (hra : σ a = r) : MX4_copies E 0 [mx_rf E a, mx_rf E b] σ (mx_ve (mx_row σ b r)) := by
  refine MM.of (lv := [(0, mx_rf E a), (1, mx_rf E b)]) kpX4 rfl (Nat.le_of_ble_eq_true rfl) rfl ?_
  refine x_iconst (v := 0) dX4_copies_0 (by decide) ?_
  refine x_istore_n (lv' := [(2, .int 0), (0, mx_rf E a), (1, mx_rf E b)]) dX4_copies_1 rfl (by decide) rfl ?_
  refine x_mem (τ := mx_row σ b (f_cp r (σ b) 0)) (by rw [show f_cp r (σ b) 0 = σ b from funext fun j => by unfold f_cp; rw [if_neg (by omega)]]; exact (mx_row_self σ b).symm) ?_
  have key2 : ∀ k, k ≤ 42 → MX E 0 RX4 cX4_copies 3 none 2 [(2, .int (nI k)), (0, mx_rf E a), (1, mx_rf E b)] [] (mx_row σ b (f_cp r (σ b) k)) (mx_ve (mx_row σ b r)) := by
    refine mx_ind 42 (fun k hi2 ih2 => ?_)
    refine x_iload_n 0 dX4_copies_2 rfl ?_
    refine x_bipush (v := 42) dX4_copies_3 (by decide) ?_
    refine x_icmp_ge dX4_copies_5 (fun c5 => ?_) (fun c5 => ?_)
    · have hge := nI_le_of (b := 42) (by decide) (by omega) c5
      refine x_mem42 hb1 hb2 (g := r) (fun j hj => by unfold f_cp; rw [if_pos (by omega)]) ?_
      exact x_vret dX4_copies_20 rfl
    · have hlt := nI_lt_of (b := 42) (by decide) (by omega) c5
      refine x_aload_n 2 dX4_copies_8 rfl ?_
      refine x_iload_n 0 dX4_copies_9 rfl ?_
      refine x_aload_n 1 dX4_copies_10 rfl ?_
      refine x_iload_n 0 dX4_copies_11 rfl ?_
      refine x_ialdS (j := k) (by omega) (by omega) (by omega) dX4_copies_12 ?_
      refine x_top (show (mx_row σ b (f_cp r (σ b) k)) a k = r k from (by rw [mx_row_o hab, hra])) ?_
      refine x_iastR (j := k) (by omega) (by omega) (by omega) dX4_copies_13 ?_
      refine x_mem (τ := mx_row σ b (f_cp r (σ b) (k + 1))) (congrArg (mx_row σ b) (show upd (f_cp r (σ b) k) k (r k) = f_cp r (σ b) (k + 1) from f_cp_s _ _ _)) ?_
      refine x_iinc (v := nI (k + 1)) (lv' := [(2, .int (nI (k + 1))), (0, mx_rf E a), (1, mx_rf E b)]) 0 dX4_copies_14 rfl (nI_1 _) (by decide) rfl ?_
      refine x_goto dX4_copies_17 ?_
      exact ih2 (k + 1) (by omega) (by omega)
  exact key2 0 (Nat.zero_le _)

set_option maxHeartbeats 4000000 in
theorem qX4_no {E : mx_E} {σ : Mem} (c : Nat) (h1 : 1 ≤ c) (h2 : c < 7) : MX4_no E 0 [mx_rf E 35, .int (-nI c)] σ (mx_ie (-nI c) (mx_up σ 42 c (σ 42 c + 1))) := by
  refine MM.of (lv := [(0, mx_rf E 35), (1, .int (-nI c))]) kpX4 rfl (Nat.le_of_ble_eq_true rfl) rfl ?_
  refine x_aload_n 0 dX4_no_0 rfl ?_
  refine gfX4_28 dX4_no_1 ?_
  refine x_iload_n 1 dX4_no_4 rfl ?_
  refine x_ineg dX4_no_5 ?_
  refine x_top (show -(-nI c) = nI c from Int32.neg_neg) ?_
  refine x_dup2 dX4_no_6 rfl rfl ?_
  refine x_iald (j := c) (by decide) (by decide) (by decide) (show c < 7 by omega) dX4_no_7 ?_
  refine x_iconst (v := 1) dX4_no_8 (by decide) ?_
  refine x_iadd dX4_no_9 ?_
  refine x_iast (j := c) (by decide) (by decide) (by decide) (show c < 7 by omega) dX4_no_10 ?_
  refine x_iload_n 1 dX4_no_11 rfl ?_
  exact x_iret dX4_no_12 ⟨rfl, rfl⟩

set_option maxHeartbeats 4000000 in
theorem qX4_noWide {E : mx_E} {σ : Mem} (c : Nat) (h1 : 1 ≤ c) (h2 : c < 7) : MX4_noWide E 1 [mx_rf E 35, .int (-nI c)] σ (mx_le (4000000000000000000 - (-nI c).toInt64) (mx_up σ 42 c (σ 42 c + 1))) := by
  refine MM.of (lv := [(0, mx_rf E 35), (1, .int (-nI c))]) kpX4 rfl (Nat.le_of_ble_eq_true rfl) rfl ?_
  refine x_ldc2 dX4_noWide_0 kkX4_34 ?_
  refine x_aload_n 0 dX4_noWide_3 rfl ?_
  refine x_iload_n 1 dX4_noWide_4 rfl ?_
  refine clX4_36 (qX4_no c h1 h2) (by decide) rfl dX4_noWide_5 (fun r5 τ5 h5 => ?_)
  obtain ⟨rfl, rfl⟩ := h5
  refine x_i2l dX4_noWide_8 ?_
  refine x_lsub dX4_noWide_9 ?_
  exact x_lret dX4_noWide_10 ⟨rfl, rfl⟩

set_option maxHeartbeats 4000000 in
theorem qX4_wrongBy {E : mx_E} {σ : Mem} (v lo hi : Int32) : MX4_wrongBy E 0 [.int v, .int lo, .int hi] σ (mx_ie (f_out v lo hi) σ) := by
  refine MM.of (lv := [(0, .int v), (1, .int lo), (2, .int hi)]) kpX4 rfl (Nat.le_of_ble_eq_true rfl) rfl ?_
  refine x_iload_n 0 dX4_wrongBy_0 rfl ?_
  refine x_iload_n 1 dX4_wrongBy_1 rfl ?_
  refine x_icmp_ge dX4_wrongBy_2 (fun c2 => ?_) (fun c2 => ?_)
  · refine x_iload_n 0 dX4_wrongBy_10 rfl ?_
    refine x_iload_n 2 dX4_wrongBy_11 rfl ?_
    refine x_icmp_le dX4_wrongBy_12 (fun c12 => ?_) (fun c12 => ?_)
    · refine x_iconst (v := 0) dX4_wrongBy_20 (by decide) ?_
      exact x_iret dX4_wrongBy_21 ⟨by simp [f_out, c2, (Int32.not_lt.mpr c2), c12, (Int32.not_lt.mpr c12)], rfl⟩
    · refine x_bipush (v := -6) dX4_wrongBy_15 (by decide) ?_
      refine x_goto dX4_wrongBy_17 ?_
      exact x_iret dX4_wrongBy_21 ⟨by simp [f_out, c2, (Int32.not_lt.mpr c2), c12, (Int32.not_le.mp c12)], rfl⟩
  · refine x_bipush (v := -4) dX4_wrongBy_5 (by decide) ?_
    refine x_goto dX4_wrongBy_7 ?_
    exact x_iret dX4_wrongBy_21 ⟨by simp [f_out, c2, (Int32.not_le.mp c2)], rfl⟩

theorem f_in_N {h : Int32} {n : Nat} (hn : n < 1000) : f_in h 0 (nI n - 1) = f_inN h n := by
  unfold f_in f_inN
  congr 1
  rw [decide_eq_decide, fa_le, fa_lt]
  rcases Nat.eq_zero_or_pos n with q | q
  · subst q
    rw [show (nI 0 - 1).toInt = -1 by decide, show (nI 0).toInt = 0 by decide]
    omega
  · rw [show nI n - 1 = nI (n - 1) by rw [show n = (n - 1) + 1 by omega]; exact nI_pred _, nI_toInt (by omega), nI_toInt (by omega)]
    omega

set_option maxHeartbeats 4000000 in
theorem qX4_isHouse {E : mx_E} {σ : Mem} {n : Nat} {r : Row} (h36 : σ 36 = r) (hw : wf n r) (h : Int32) : MX4_isHouse E 1 [mx_rf E 35, .int h] σ (mx_ie (zb (f_inN h n)) σ) := by
  refine MM.of (lv := [(0, mx_rf E 35), (1, .int h)]) kpX4 rfl (Nat.le_of_ble_eq_true rfl) rfl ?_
  have hn6 := hw.1
  refine x_iload_n 1 dX4_isHouse_0 rfl ?_
  refine x_iconst (v := 0) dX4_isHouse_1 (by decide) ?_
  refine x_aload_n 0 dX4_isHouse_2 rfl ?_
  refine gfX4_9 dX4_isHouse_3 ?_
  refine x_iconst (v := 0) dX4_isHouse_6 (by decide) ?_
  refine x_ialdS (j := 0) (by decide) (by decide) (by decide) dX4_isHouse_7 ?_
  refine x_top (show σ 36 0 = nI n from ((congrFun h36 0).trans hw.2.1)) ?_
  refine x_iconst (v := 1) dX4_isHouse_8 (by decide) ?_
  refine x_isub dX4_isHouse_9 ?_
  refine clX4_40 (qX4_isIn h 0 (nI n - 1)) (by decide) rfl dX4_isHouse_10 (fun r10 τ10 h10 => ?_)
  obtain ⟨rfl, rfl⟩ := h10
  refine x_top (show zb (f_in h 0 (nI n - 1)) = zb (f_inN h n) from by rw [f_in_N (by omega)]) ?_
  exact x_zret dX4_isHouse_13 (zb_01 _) ⟨rfl, rfl⟩

set_option maxHeartbeats 4000000 in
theorem qX4_takes {E : mx_E} {σ : Mem} {n : Nat} {r : Row} (h36 : σ 36 = r) (hw : wf n r) (k : Nat) (hk : k < 1000) : MX4_takes E 6 [mx_rf E 35, .int (nI k)] σ (mx_ve (mx_row σ 37 (f_weeks n r k))) := by
  refine MM.of (lv := [(0, mx_rf E 35), (1, .int (nI k))]) kpX4 rfl (Nat.le_of_ble_eq_true rfl) rfl ?_
  have hn6 := hw.1
  refine x_aload_n 0 dX4_takes_0 rfl ?_
  refine gfX4_9 dX4_takes_1 ?_
  refine x_aload_n 0 dX4_takes_4 rfl ?_
  refine gfX4_13 dX4_takes_5 ?_
  refine clX4_121 (qX4_copies (by decide) (by decide) (by decide) (by decide) (by decide) h36) (by decide) rfl dX4_takes_8 (fun τ8 h8 => ?_)
  obtain rfl := h8
  refine x_aload_n 0 dX4_takes_11 rfl ?_
  refine gfX4_13 dX4_takes_12 ?_
  refine x_iload_n 1 dX4_takes_15 rfl ?_
  refine clX4_115 (gX4_weeksOn (by decide) (by decide) mx_row_s n hw k (by omega)) (by decide) rfl dX4_takes_16 (fun τ16 h16 => ?_)
  obtain rfl := h16
  refine x_mem (mx_row_row _ _ _ _) ?_
  exact x_vret dX4_takes_19 rfl

set_option maxHeartbeats 4000000 in
theorem qX4_house {E : mx_E} {σ : Mem} {n : Nat} {r : Row} (h36 : σ 36 = r) (hw : wf n r) (house what : Int32) : MX4_house E 3 [mx_rf E 35, .int house, .int what] σ (mx_i (fun v τ => (p_house n r house what).1 = v ∧ Qm (p_house n r house what).2 σ τ)) := by
  refine MM.of (lv := [(0, mx_rf E 35), (1, .int house), (2, .int what)]) kpX4 rfl (Nat.le_of_ble_eq_true rfl) rfl ?_
  have hn6 := hw.1
  refine x_aload_n 0 dX4_house_0 rfl ?_
  refine x_iload_n 1 dX4_house_1 rfl ?_
  refine clX4_111 (qX4_isHouse h36 hw house) (by decide) rfl dX4_house_2 (fun r2 τ2 h2 => ?_)
  obtain ⟨rfl, rfl⟩ := h2
  refine x_if_ne dX4_house_5 (fun c5 => ?_) (fun c5 => ?_)
  · replace c5 := zb_1 c5
    obtain ⟨h, hh, rfl⟩ := f_inN_t (by omega) c5
    refine x_iload_n 2 dX4_house_14 rfl ?_
    refine x_iconst (v := 0) dX4_house_15 (by decide) ?_
    refine x_iconst (v := 5) dX4_house_16 (by decide) ?_
    refine clX4_40 (qX4_isIn what 0 5) (by decide) rfl dX4_house_17 (fun r17 τ17 h17 => ?_)
    obtain ⟨rfl, rfl⟩ := h17
    refine x_if_eq dX4_house_20 (fun c20 => ?_) (fun c20 => ?_)
    · replace c20 := zb_0 c20
      refine x_iload_n 2 dX4_house_34 rfl ?_
      by_cases c35_0 : what = 6
      · refine x_tableIn (off := 25) (tgt := 60) dX4_house_35 (by rw [c35_0]; decide) (by rw [c35_0]; decide) (by rw [c35_0]; decide) (by decide) ?_
        refine x_aload_n 0 dX4_house_60 rfl ?_
        refine gfX4_9 dX4_house_61 ?_
        refine x_iconst (v := 4) dX4_house_64 (by decide) ?_
        refine x_ialdS (j := 4) (by decide) (by decide) (by decide) dX4_house_65 ?_
        refine x_top (show σ 36 4 = r 4 from (congrFun h36 _)) ?_
        refine x_iload_n 1 dX4_house_66 rfl ?_
        refine x_ishr dX4_house_67 ?_
        refine x_iconst (v := 1) dX4_house_68 (by decide) ?_
        refine x_iand dX4_house_69 ?_
        refine x_top (show ((r 4) >>> ((nI h) &&& 31)) &&& 1 = zb (f_kept r h) from (f_kept_v hw hh)) ?_
        exact x_iret dX4_house_70 (by rw [show p_house n r (nI h) what = ((zb (f_kept r h) : Int32), 0) from by simp [zbT, zbF, f_in002, f_in102, f_in001, f_in101, p_house, c5, c20, nI_clamp (show h < 2 ^ 31 by omega), show f_in 6 0 5 = false from by decide, c35_0]]; exact ⟨rfl, Qm.rf⟩)
      by_cases c35_1 : what = 7
      · refine x_tableIn (off := 36) (tgt := 71) dX4_house_35 (by rw [c35_1]; decide) (by rw [c35_1]; decide) (by rw [c35_1]; decide) (by decide) ?_
        refine x_aload_n 0 dX4_house_71 rfl ?_
        refine gfX4_9 dX4_house_72 ?_
        refine x_iload_n 1 dX4_house_75 rfl ?_
        refine clX4_52 (gX4_crowd (by decide) (by decide) h36 h (by omega)) (by decide) rfl dX4_house_76 (fun r76 τ76 h76 => ?_)
        obtain ⟨rfl, rfl⟩ := h76
        exact x_iret dX4_house_79 (by rw [show p_house n r (nI h) what = ((f_crowdR r h : Int32), 0) from by simp [zbT, zbF, f_in002, f_in102, f_in001, f_in101, p_house, c5, c20, nI_clamp (show h < 2 ^ 31 by omega), show f_in 7 0 5 = false from by decide, c35_1]]; exact ⟨rfl, Qm.rf⟩)
      by_cases c35_2 : what = 8
      · refine x_tableIn (off := 45) (tgt := 80) dX4_house_35 (by rw [c35_2]; decide) (by rw [c35_2]; decide) (by rw [c35_2]; decide) (by decide) ?_
        refine x_aload_n 0 dX4_house_80 rfl ?_
        refine gfX4_9 dX4_house_81 ?_
        refine x_iload_n 1 dX4_house_84 rfl ?_
        refine clX4_69 (gX4_isFound (by decide) (by decide) h36 h (by omega)) (by decide) rfl dX4_house_85 (fun r85 τ85 h85 => ?_)
        obtain ⟨rfl, rfl⟩ := h85
        refine x_if_eq dX4_house_88 (fun c88 => ?_) (fun c88 => ?_)
        · replace c88 := zb_0 c88
          refine x_iconst (v := 0) dX4_house_95 (by decide) ?_
          exact x_iret dX4_house_96 (by rw [show p_house n r (nI h) what = ((0 : Int32), 0) from by simp [zbT, zbF, f_in002, f_in102, f_in001, f_in101, p_house, c5, c20, c88, nI_clamp (show h < 2 ^ 31 by omega), show f_in 8 0 5 = false from by decide, c35_2]]; exact ⟨rfl, Qm.rf⟩)
        · replace c88 := zb_1 c88
          refine x_iconst (v := 1) dX4_house_91 (by decide) ?_
          refine x_goto dX4_house_92 ?_
          exact x_iret dX4_house_96 (by rw [show p_house n r (nI h) what = ((1 : Int32), 0) from by simp [zbT, zbF, f_in002, f_in102, f_in001, f_in101, p_house, c5, c20, c88, nI_clamp (show h < 2 ^ 31 by omega), show f_in 8 0 5 = false from by decide, c35_2]]; exact ⟨rfl, Qm.rf⟩)
      have hsw35 : (what).toInt < 6 ∨ 8 < (what).toInt := by
        have q_c35_0 := lv_neT c35_0 (show (6 : Int32).toInt = 6 from rfl)
        have q_c35_1 := lv_neT c35_1 (show (7 : Int32).toInt = 7 from rfl)
        have q_c35_2 := lv_neT c35_2 (show (8 : Int32).toInt = 8 from rfl)
        omega
      refine x_tableOut (tgt := 97) dX4_house_35 hsw35 (by decide) ?_
      refine x_aload_n 0 dX4_house_97 rfl ?_
      refine x_bipush (v := -2) dX4_house_98 (by decide) ?_
      refine clX4_36 (qX4_no 2 (by decide) (by decide)) (by decide) rfl dX4_house_100 (fun r100 τ100 h100 => ?_)
      obtain ⟨rfl, rfl⟩ := h100
      exact x_iret dX4_house_103 (by rw [show p_house n r (nI h) what = ((-2 : Int32), 2) from by simp [zbT, zbF, f_in002, f_in102, f_in001, f_in101, p_house, c5, c20, nI_clamp (show h < 2 ^ 31 by omega), c35_0, c35_1, c35_2]]; exact ⟨rfl, Qm.no⟩)
    · replace c20 := zb_1 c20
      obtain ⟨y, hy, rfl⟩ := f_in_t (hi := 5) (by decide) c20
      refine x_aload_n 0 dX4_house_23 rfl ?_
      refine gfX4_9 dX4_house_24 ?_
      refine x_iload_n 1 dX4_house_27 rfl ?_
      refine x_iload_n 2 dX4_house_28 rfl ?_
      refine clX4_44 (qX4_of h y) (by decide) rfl dX4_house_29 (fun r29 τ29 h29 => ?_)
      obtain ⟨rfl, rfl⟩ := h29
      refine x_ialdS (j := 6 + 6 * h + y) (by decide) (by decide) (by omega) dX4_house_32 ?_
      refine x_top (show σ 36 (6 + 6 * h + y) = r (6 + 6 * h + y) from (congrFun h36 _)) ?_
      exact x_iret dX4_house_33 (by rw [show p_house n r (nI h) (nI y) = ((r (6 + 6 * h + y) : Int32), 0) from by simp [zbT, zbF, f_in002, f_in102, f_in001, f_in101, p_house, c5, c20, nI_clamp (show h < 2 ^ 31 by omega), nI_clamp (show y < 2 ^ 31 by omega)]]; exact ⟨rfl, Qm.rf⟩)
  · replace c5 := zb_0 c5
    refine x_aload_n 0 dX4_house_8 rfl ?_
    refine x_iconst (v := -1) dX4_house_9 (by decide) ?_
    refine clX4_36 (qX4_no 1 (by decide) (by decide)) (by decide) rfl dX4_house_10 (fun r10 τ10 h10 => ?_)
    obtain ⟨rfl, rfl⟩ := h10
    exact x_iret dX4_house_13 (by rw [show p_house n r house what = ((-1 : Int32), 1) from by simp [zbT, zbF, f_in002, f_in102, f_in001, f_in101, p_house, c5]]; exact ⟨rfl, Qm.no⟩)

set_option maxHeartbeats 4000000 in
theorem qX4_houseThen {E : mx_E} {σ : Mem} {n : Nat} {r : Row} (h36 : σ 36 = r) (hw : wf n r) (house k what : Int32) : MX4_houseThen E 7 [mx_rf E 35, .int house, .int k, .int what] σ (mx_i (fun v τ => (p_houseThen n r house k what).1 = v ∧ Qm (p_houseThen n r house k what).2 σ τ)) := by
  refine MM.of (lv := [(0, mx_rf E 35), (1, .int house), (2, .int k), (3, .int what)]) kpX4 rfl (Nat.le_of_ble_eq_true rfl) rfl ?_
  have hn6 := hw.1
  refine x_aload_n 0 dX4_houseThen_0 rfl ?_
  refine x_iload_n 1 dX4_houseThen_1 rfl ?_
  refine clX4_111 (qX4_isHouse h36 hw house) (by decide) rfl dX4_houseThen_2 (fun r2 τ2 h2 => ?_)
  obtain ⟨rfl, rfl⟩ := h2
  refine x_if_eq dX4_houseThen_5 (fun c5 => ?_) (fun c5 => ?_)
  · replace c5 := zb_0 c5
    refine x_iconst (v := -1) dX4_houseThen_18 (by decide) ?_
    refine x_istore (lv' := [(4, .int (-1)), (0, mx_rf E 35), (1, .int house), (2, .int k), (3, .int what)]) dX4_houseThen_19 rfl (by decide) rfl ?_
    refine x_iload 0 dX4_houseThen_21 rfl ?_
    refine x_if_ne dX4_houseThen_23 (fun _ => ?_) (fun c => absurd c (by decide))
    refine x_iload 0 dX4_houseThen_39 rfl ?_
    refine x_if_eq dX4_houseThen_41 (fun c => absurd c (by decide)) (fun _ => ?_)
    refine x_aload_n 1 dX4_houseThen_44 rfl ?_
    refine x_iload 0 dX4_houseThen_45 rfl ?_
    refine clX4_36 (qX4_no 1 (by decide) (by decide)) (by decide) rfl dX4_houseThen_47 (fun r47 τ47 h47 => ?_)
    obtain ⟨rfl, rfl⟩ := h47
    exact x_iret dX4_houseThen_50 (by rw [show p_houseThen n r house k what = ((-1 : Int32), 1) from by simp [zbT, zbF, f_in002, f_in102, f_in001, f_in101, p_houseThen, c5]]; exact ⟨rfl, Qm.no⟩)
  · replace c5 := zb_1 c5
    obtain ⟨h, hh, rfl⟩ := f_inN_t (by omega) c5
    refine x_iload_n 2 dX4_houseThen_8 rfl ?_
    refine x_iconst (v := 0) dX4_houseThen_9 (by decide) ?_
    refine x_bipush (v := 60) dX4_houseThen_10 (by decide) ?_
    refine clX4_128 (qX4_wrongBy k 0 60) (by decide) rfl dX4_houseThen_12 (fun r12 τ12 h12 => ?_)
    obtain ⟨rfl, rfl⟩ := h12
    rcases f_out_c (v := k) (lo := 0) (hi := 60) (l := 0) (h := 60) (by decide) (by decide) rfl rfl with ⟨k1, e⟩ | ⟨k1, k2, e⟩ | ⟨k, hk1, hk2, rfl, k1, k2, e⟩
    · refine x_top (show f_out k 0 60 = -4 from e) ?_
      refine x_goto dX4_houseThen_15 ?_
      refine x_istore (lv' := [(4, .int (-4)), (0, mx_rf E 35), (1, .int (nI h)), (2, .int k), (3, .int what)]) dX4_houseThen_19 rfl (by decide) rfl ?_
      refine x_iload 0 dX4_houseThen_21 rfl ?_
      refine x_if_ne dX4_houseThen_23 (fun _ => ?_) (fun c => absurd c (by decide))
      refine x_iload 0 dX4_houseThen_39 rfl ?_
      refine x_if_eq dX4_houseThen_41 (fun c => absurd c (by decide)) (fun _ => ?_)
      refine x_aload_n 1 dX4_houseThen_44 rfl ?_
      refine x_iload 0 dX4_houseThen_45 rfl ?_
      refine clX4_36 (qX4_no 4 (by decide) (by decide)) (by decide) rfl dX4_houseThen_47 (fun r47 τ47 h47 => ?_)
      obtain ⟨rfl, rfl⟩ := h47
      exact x_iret dX4_houseThen_50 (by rw [show p_houseThen n r (nI h) k what = ((-4 : Int32), 4) from by simp [zbT, zbF, f_in002, f_in102, f_in001, f_in101, p_houseThen, c5, k1, nI_clamp (show h < 2 ^ 31 by omega)]]; exact ⟨rfl, Qm.no⟩)
    · refine x_top (show f_out k 0 60 = -6 from e) ?_
      refine x_goto dX4_houseThen_15 ?_
      refine x_istore (lv' := [(4, .int (-6)), (0, mx_rf E 35), (1, .int (nI h)), (2, .int k), (3, .int what)]) dX4_houseThen_19 rfl (by decide) rfl ?_
      refine x_iload 0 dX4_houseThen_21 rfl ?_
      refine x_if_ne dX4_houseThen_23 (fun _ => ?_) (fun c => absurd c (by decide))
      refine x_iload 0 dX4_houseThen_39 rfl ?_
      refine x_if_eq dX4_houseThen_41 (fun c => absurd c (by decide)) (fun _ => ?_)
      refine x_aload_n 1 dX4_houseThen_44 rfl ?_
      refine x_iload 0 dX4_houseThen_45 rfl ?_
      refine clX4_36 (qX4_no 6 (by decide) (by decide)) (by decide) rfl dX4_houseThen_47 (fun r47 τ47 h47 => ?_)
      obtain ⟨rfl, rfl⟩ := h47
      exact x_iret dX4_houseThen_50 (by rw [show p_houseThen n r (nI h) k what = ((-6 : Int32), 6) from by simp [zbT, zbF, f_in002, f_in102, f_in001, f_in101, p_houseThen, c5, k1, k2, nI_clamp (show h < 2 ^ 31 by omega)]]; exact ⟨rfl, Qm.no⟩)
    · refine x_top (show f_out (nI k) 0 60 = 0 from e) ?_
      refine x_goto dX4_houseThen_15 ?_
      refine x_istore (lv' := [(4, .int 0), (0, mx_rf E 35), (1, .int (nI h)), (2, .int (nI k)), (3, .int what)]) dX4_houseThen_19 rfl (by decide) rfl ?_
      refine x_iload 0 dX4_houseThen_21 rfl ?_
      refine x_if_ne dX4_houseThen_23 (fun c => absurd c (by decide)) (fun _ => ?_)
      refine x_iload_n 4 dX4_houseThen_26 rfl ?_
      refine x_iconst (v := 0) dX4_houseThen_27 (by decide) ?_
      refine x_iconst (v := 2) dX4_houseThen_28 (by decide) ?_
      refine clX4_40 (qX4_isIn what 0 2) (by decide) rfl dX4_houseThen_29 (fun r29 τ29 h29 => ?_)
      obtain ⟨rfl, rfl⟩ := h29
      refine x_if_ne dX4_houseThen_32 (fun c32 => ?_) (fun c32 => ?_)
      · replace c32 := zb_1 c32
        refine x_iload 0 dX4_houseThen_39 rfl ?_
        refine x_if_eq dX4_houseThen_41 (fun _ => ?_) (fun c => absurd c (by decide))
        refine x_aload_n 1 dX4_houseThen_51 rfl ?_
        refine x_iload_n 3 dX4_houseThen_52 rfl ?_
        refine clX4_141 (qX4_takes h36 hw k (by omega)) (by decide) rfl dX4_houseThen_53 (fun τ53 h53 => ?_)
        obtain rfl := h53
        refine x_aload_n 1 dX4_houseThen_56 rfl ?_
        refine gfX4_13 dX4_houseThen_57 ?_
        refine x_iload_n 2 dX4_houseThen_60 rfl ?_
        refine x_iload_n 4 dX4_houseThen_61 rfl ?_
        refine x_if_ne dX4_houseThen_62 (fun c62 => ?_) (fun c62 => ?_)
        · refine x_iload_n 4 dX4_houseThen_69 rfl ?_
          refine x_iconst (v := 1) dX4_houseThen_70 (by decide) ?_
          refine x_icmp_ne dX4_houseThen_71 (fun c71 => ?_) (fun c71 => ?_)
          · refine x_iconst (v := 3) dX4_houseThen_78 (by decide) ?_
            refine clX4_44 (qX4_of h 3) (by decide) rfl dX4_houseThen_79 (fun r79 τ79 h79 => ?_)
            obtain ⟨rfl, rfl⟩ := h79
            refine x_ialdS (j := 6 + 6 * h + 3) (by decide) (by decide) (by omega) dX4_houseThen_82 ?_
            refine x_top (show (mx_row σ 37 (f_weeks n r k)) 37 (6 + 6 * h + 3) = (f_weeks n r k) (6 + 6 * h + 3) from (congrFun mx_row_s _)) ?_
            exact x_iret dX4_houseThen_83 (by rw [show p_houseThen n r (nI h) (nI k) what = (((f_weeks n r k) (6 + 6 * h + 3) : Int32), 0) from by simp [zbT, zbF, f_in002, f_in102, f_in001, f_in101, p_houseThen, c5, k1, k2, c32, c62, c71, nI_clamp (show h < 2 ^ 31 by omega), nI_clamp (show k < 2 ^ 31 by omega)]]; exact ⟨rfl, (Qm.rf.row (Or.inl rfl))⟩)
          · refine x_iconst (v := 5) dX4_houseThen_74 (by decide) ?_
            refine x_goto dX4_houseThen_75 ?_
            refine clX4_44 (qX4_of h 5) (by decide) rfl dX4_houseThen_79 (fun r79 τ79 h79 => ?_)
            obtain ⟨rfl, rfl⟩ := h79
            refine x_ialdS (j := 6 + 6 * h + 5) (by decide) (by decide) (by omega) dX4_houseThen_82 ?_
            refine x_top (show (mx_row σ 37 (f_weeks n r k)) 37 (6 + 6 * h + 5) = (f_weeks n r k) (6 + 6 * h + 5) from (congrFun mx_row_s _)) ?_
            exact x_iret dX4_houseThen_83 (by rw [show p_houseThen n r (nI h) (nI k) what = (((f_weeks n r k) (6 + 6 * h + 5) : Int32), 0) from by simp [zbT, zbF, f_in002, f_in102, f_in001, f_in101, p_houseThen, c5, k1, k2, c32, c62, c71, nI_clamp (show h < 2 ^ 31 by omega), nI_clamp (show k < 2 ^ 31 by omega)]]; exact ⟨rfl, (Qm.rf.row (Or.inl rfl))⟩)
        · refine x_iconst (v := 4) dX4_houseThen_65 (by decide) ?_
          refine x_goto dX4_houseThen_66 ?_
          refine clX4_44 (qX4_of h 4) (by decide) rfl dX4_houseThen_79 (fun r79 τ79 h79 => ?_)
          obtain ⟨rfl, rfl⟩ := h79
          refine x_ialdS (j := 6 + 6 * h + 4) (by decide) (by decide) (by omega) dX4_houseThen_82 ?_
          refine x_top (show (mx_row σ 37 (f_weeks n r k)) 37 (6 + 6 * h + 4) = (f_weeks n r k) (6 + 6 * h + 4) from (congrFun mx_row_s _)) ?_
          exact x_iret dX4_houseThen_83 (by rw [show p_houseThen n r (nI h) (nI k) what = (((f_weeks n r k) (6 + 6 * h + 4) : Int32), 0) from by simp [zbT, zbF, f_in002, f_in102, f_in001, f_in101, p_houseThen, c5, k1, k2, c32, c62, nI_clamp (show h < 2 ^ 31 by omega), nI_clamp (show k < 2 ^ 31 by omega)]]; exact ⟨rfl, (Qm.rf.row (Or.inl rfl))⟩)
      · replace c32 := zb_0 c32
        refine x_bipush (v := -2) dX4_houseThen_35 (by decide) ?_
        refine x_istore (lv' := [(4, .int (-2)), (0, mx_rf E 35), (1, .int (nI h)), (2, .int (nI k)), (3, .int what)]) dX4_houseThen_37 rfl (by decide) rfl ?_
        refine x_iload 0 dX4_houseThen_39 rfl ?_
        refine x_if_eq dX4_houseThen_41 (fun c => absurd c (by decide)) (fun _ => ?_)
        refine x_aload_n 1 dX4_houseThen_44 rfl ?_
        refine x_iload 0 dX4_houseThen_45 rfl ?_
        refine clX4_36 (qX4_no 2 (by decide) (by decide)) (by decide) rfl dX4_houseThen_47 (fun r47 τ47 h47 => ?_)
        obtain ⟨rfl, rfl⟩ := h47
        exact x_iret dX4_houseThen_50 (by rw [show p_houseThen n r (nI h) (nI k) what = ((-2 : Int32), 2) from by simp [zbT, zbF, f_in002, f_in102, f_in001, f_in101, p_houseThen, c5, k1, k2, c32, nI_clamp (show h < 2 ^ 31 by omega), nI_clamp (show k < 2 ^ 31 by omega)]]; exact ⟨rfl, Qm.no⟩)

set_option maxHeartbeats 4000000 in
theorem qX4_then {E : mx_E} {σ : Mem} {n : Nat} {r : Row} (h36 : σ 36 = r) (hw : wf n r) (k what : Int32) : MX4_then E 7 [mx_rf E 35, .int k, .int what] σ (mx_i (fun v τ => (p_then n r k what).1 = v ∧ Qm (p_then n r k what).2 σ τ)) := by
  refine MM.of (lv := [(0, mx_rf E 35), (1, .int k), (2, .int what)]) kpX4 rfl (Nat.le_of_ble_eq_true rfl) rfl ?_
  have hn6 := hw.1
  refine x_iload_n 1 dX4_then_0 rfl ?_
  refine x_iconst (v := 0) dX4_then_1 (by decide) ?_
  refine x_bipush (v := 60) dX4_then_2 (by decide) ?_
  refine clX4_128 (qX4_wrongBy k 0 60) (by decide) rfl dX4_then_4 (fun r4 τ4 h4 => ?_)
  obtain ⟨rfl, rfl⟩ := h4
  rcases f_out_c (v := k) (lo := 0) (hi := 60) (l := 0) (h := 60) (by decide) (by decide) rfl rfl with ⟨k1, e⟩ | ⟨k1, k2, e⟩ | ⟨k, hk1, hk2, rfl, k1, k2, e⟩
  · refine x_top (show f_out k 0 60 = -4 from e) ?_
    refine x_istore_n (lv' := [(3, .int (-4)), (0, mx_rf E 35), (1, .int k), (2, .int what)]) dX4_then_7 rfl (by decide) rfl ?_
    refine x_iload_n 0 dX4_then_8 rfl ?_
    refine x_if_ne dX4_then_9 (fun _ => ?_) (fun c => absurd c (by decide))
    refine x_iload_n 0 dX4_then_24 rfl ?_
    refine x_if_eq dX4_then_25 (fun c => absurd c (by decide)) (fun _ => ?_)
    refine x_aload_n 1 dX4_then_28 rfl ?_
    refine x_iload_n 0 dX4_then_29 rfl ?_
    refine clX4_36 (qX4_no 4 (by decide) (by decide)) (by decide) rfl dX4_then_30 (fun r30 τ30 h30 => ?_)
    obtain ⟨rfl, rfl⟩ := h30
    exact x_iret dX4_then_33 (by rw [show p_then n r k what = ((-4 : Int32), 4) from by simp [zbT, zbF, f_in002, f_in102, f_in001, f_in101, p_then, k1]]; exact ⟨rfl, Qm.no⟩)
  · refine x_top (show f_out k 0 60 = -6 from e) ?_
    refine x_istore_n (lv' := [(3, .int (-6)), (0, mx_rf E 35), (1, .int k), (2, .int what)]) dX4_then_7 rfl (by decide) rfl ?_
    refine x_iload_n 0 dX4_then_8 rfl ?_
    refine x_if_ne dX4_then_9 (fun _ => ?_) (fun c => absurd c (by decide))
    refine x_iload_n 0 dX4_then_24 rfl ?_
    refine x_if_eq dX4_then_25 (fun c => absurd c (by decide)) (fun _ => ?_)
    refine x_aload_n 1 dX4_then_28 rfl ?_
    refine x_iload_n 0 dX4_then_29 rfl ?_
    refine clX4_36 (qX4_no 6 (by decide) (by decide)) (by decide) rfl dX4_then_30 (fun r30 τ30 h30 => ?_)
    obtain ⟨rfl, rfl⟩ := h30
    exact x_iret dX4_then_33 (by rw [show p_then n r k what = ((-6 : Int32), 6) from by simp [zbT, zbF, f_in002, f_in102, f_in001, f_in101, p_then, k1, k2]]; exact ⟨rfl, Qm.no⟩)
  · refine x_top (show f_out (nI k) 0 60 = 0 from e) ?_
    refine x_istore_n (lv' := [(3, .int 0), (0, mx_rf E 35), (1, .int (nI k)), (2, .int what)]) dX4_then_7 rfl (by decide) rfl ?_
    refine x_iload_n 0 dX4_then_8 rfl ?_
    refine x_if_ne dX4_then_9 (fun c => absurd c (by decide)) (fun _ => ?_)
    refine x_iload_n 3 dX4_then_12 rfl ?_
    refine x_iconst (v := 0) dX4_then_13 (by decide) ?_
    refine x_iconst (v := 2) dX4_then_14 (by decide) ?_
    refine clX4_40 (qX4_isIn what 0 2) (by decide) rfl dX4_then_15 (fun r15 τ15 h15 => ?_)
    obtain ⟨rfl, rfl⟩ := h15
    refine x_if_ne dX4_then_18 (fun c18 => ?_) (fun c18 => ?_)
    · replace c18 := zb_1 c18
      refine x_iload_n 0 dX4_then_24 rfl ?_
      refine x_if_eq dX4_then_25 (fun _ => ?_) (fun c => absurd c (by decide))
      refine x_aload_n 1 dX4_then_34 rfl ?_
      refine x_iload_n 2 dX4_then_35 rfl ?_
      refine clX4_141 (qX4_takes h36 hw k (by omega)) (by decide) rfl dX4_then_36 (fun τ36 h36 => ?_)
      obtain rfl := h36
      refine x_iload_n 3 dX4_then_39 rfl ?_
      refine x_if_ne dX4_then_40 (fun c40 => ?_) (fun c40 => ?_)
      · refine x_iload_n 3 dX4_then_52 rfl ?_
        refine x_iconst (v := 1) dX4_then_53 (by decide) ?_
        refine x_icmp_ne dX4_then_54 (fun c54 => ?_) (fun c54 => ?_)
        · refine x_aload_n 1 dX4_then_66 rfl ?_
          refine gfX4_13 dX4_then_67 ?_
          refine x_iconst (v := 0) dX4_then_70 (by decide) ?_
          refine x_ialdS (j := 0) (by decide) (by decide) (by decide) dX4_then_71 ?_
          refine x_top (show (mx_row σ 37 (f_weeks n r k)) 37 0 = nI n from ((congrFun mx_row_s 0).trans (wf_weeks hw k).2.1)) ?_
          refine x_if_ne dX4_then_72 (fun c72 => ?_) (fun c72 => ?_)
          · have hz : ¬ n = 0 := fun q => c72 (by rw [q]; rfl)
            refine x_aload_n 1 dX4_then_80 rfl ?_
            refine gfX4_13 dX4_then_81 ?_
            refine x_iconst (v := 2) dX4_then_84 (by decide) ?_
            refine x_ialdS (j := 2) (by decide) (by decide) (by decide) dX4_then_85 ?_
            refine x_top (show (mx_row σ 37 (f_weeks n r k)) 37 2 = (f_weeks n r k) 2 from (congrFun mx_row_s _)) ?_
            exact x_iret dX4_then_86 (by rw [show p_then n r (nI k) what = (((f_weeks n r k) 2 : Int32), 0) from by simp [zbT, zbF, f_in002, f_in102, f_in001, f_in101, p_then, k1, k2, c18, c40, c54, c72, nI_clamp (show k < 2 ^ 31 by omega), hz]]; exact ⟨rfl, (Qm.rf.row (Or.inl rfl))⟩)
          · have hz : n = 0 := (nI_eq (b := 0) (by omega) (by decide)).mp c72
            refine x_bipush (v := -9) dX4_then_75 (by decide) ?_
            refine x_goto dX4_then_77 ?_
            exact x_iret dX4_then_86 (by rw [show p_then n r (nI k) what = ((-9 : Int32), 0) from by simp [zbT, zbF, f_in002, f_in102, f_in001, f_in101, p_then, k1, k2, c18, c40, c54, c72, nI_clamp (show k < 2 ^ 31 by omega), hz]]; exact ⟨rfl, (Qm.rf.row (Or.inl rfl))⟩)
        · refine x_aload_n 1 dX4_then_57 rfl ?_
          refine gfX4_13 dX4_then_58 ?_
          refine x_iconst (v := 3) dX4_then_61 (by decide) ?_
          refine x_ialdS (j := 3) (by decide) (by decide) (by decide) dX4_then_62 ?_
          refine x_top (show (mx_row σ 37 (f_weeks n r k)) 37 3 = (f_weeks n r k) 3 from (congrFun mx_row_s _)) ?_
          refine x_goto dX4_then_63 ?_
          exact x_iret dX4_then_86 (by rw [show p_then n r (nI k) what = (((f_weeks n r k) 3 : Int32), 0) from by simp [zbT, zbF, f_in002, f_in102, f_in001, f_in101, p_then, k1, k2, c18, c40, c54, nI_clamp (show k < 2 ^ 31 by omega)]]; exact ⟨rfl, (Qm.rf.row (Or.inl rfl))⟩)
      · refine x_aload_n 1 dX4_then_43 rfl ?_
        refine gfX4_13 dX4_then_44 ?_
        refine x_iconst (v := 4) dX4_then_47 (by decide) ?_
        refine x_ialdS (j := 4) (by decide) (by decide) (by decide) dX4_then_48 ?_
        refine x_top (show (mx_row σ 37 (f_weeks n r k)) 37 4 = (f_weeks n r k) 4 from (congrFun mx_row_s _)) ?_
        refine x_goto dX4_then_49 ?_
        exact x_iret dX4_then_86 (by rw [show p_then n r (nI k) what = (((f_weeks n r k) 4 : Int32), 0) from by simp [zbT, zbF, f_in002, f_in102, f_in001, f_in101, p_then, k1, k2, c18, c40, nI_clamp (show k < 2 ^ 31 by omega)]]; exact ⟨rfl, (Qm.rf.row (Or.inl rfl))⟩)
    · replace c18 := zb_0 c18
      refine x_bipush (v := -2) dX4_then_21 (by decide) ?_
      refine x_istore_n (lv' := [(3, .int (-2)), (0, mx_rf E 35), (1, .int (nI k)), (2, .int what)]) dX4_then_23 rfl (by decide) rfl ?_
      refine x_iload_n 0 dX4_then_24 rfl ?_
      refine x_if_eq dX4_then_25 (fun c => absurd c (by decide)) (fun _ => ?_)
      refine x_aload_n 1 dX4_then_28 rfl ?_
      refine x_iload_n 0 dX4_then_29 rfl ?_
      refine clX4_36 (qX4_no 2 (by decide) (by decide)) (by decide) rfl dX4_then_30 (fun r30 τ30 h30 => ?_)
      obtain ⟨rfl, rfl⟩ := h30
      exact x_iret dX4_then_33 (by rw [show p_then n r (nI k) what = ((-2 : Int32), 2) from by simp [zbT, zbF, f_in002, f_in102, f_in001, f_in101, p_then, k1, k2, c18, nI_clamp (show k < 2 ^ 31 by omega)]]; exact ⟨rfl, Qm.no⟩)

set_option maxHeartbeats 4000000 in
theorem qX4_whenLost {E : mx_E} {σ : Mem} {n : Nat} {r : Row} (h37 : σ 37 = r) (hw : wf n r) {h : Nat} (hh : h < n)  : MX4_whenLost E 5 [mx_rf E 35, .int (nI h)] σ (mx_i (fun v τ => f_when n r h = v ∧ ∃ q : Row, mx_row σ 37 q = τ)) := by
  refine MM.of (lv := [(0, mx_rf E 35), (1, .int (nI h))]) kpX4 rfl (Nat.le_of_ble_eq_true rfl) rfl ?_
  have hn6 := hw.1
  refine x_mem (τ := mx_row σ 37 (f_weeks n r 0)) (by show σ = mx_row σ 37 r; rw [← h37]; exact (mx_row_self σ 37).symm) ?_
  refine x_iconst (v := 0) dX4_whenLost_0 (by decide) ?_
  refine x_istore_n (lv' := [(2, .int 0), (0, mx_rf E 35), (1, .int (nI h))]) dX4_whenLost_1 rfl (by decide) rfl ?_
  have key2 : ∀ k, k ≤ 61 → f_whenG n r h (61 - k) k = f_when n r h → MX E 5 RX4 cX4_whenLost 3 (some .int) 2 [(2, .int (nI k)), (0, mx_rf E 35), (1, .int (nI h))] [] (mx_row σ 37 (f_weeks n r k)) (mx_i (fun v τ => f_when n r h = v ∧ ∃ q : Row, mx_row σ 37 q = τ)) := by
    refine mx_ind 61 (fun k hi2 ih2 => ?_)
    intro hg
    refine x_iload_n 0 dX4_whenLost_2 rfl ?_
    refine x_bipush (v := 60) dX4_whenLost_3 (by decide) ?_
    refine x_icmp_gt dX4_whenLost_5 (fun c5 => ?_) (fun c5 => ?_)
    · have hk : ¬ k ≤ 60 := Nat.not_le.mpr ((nI_ltI (a := 60) (by decide) (by omega)).mp c5)
      refine x_bipush (v := -9) dX4_whenLost_36 (by decide) ?_
      exact x_iret dX4_whenLost_38 ⟨f_whenE hk hg, _, rfl⟩
    · have hk : k ≤ 60 := nI_nlt_le (b := 60) (by omega) (by decide) c5
      refine x_aload_n 1 dX4_whenLost_8 rfl ?_
      refine gfX4_13 dX4_whenLost_9 ?_
      refine x_iconst (v := 4) dX4_whenLost_12 (by decide) ?_
      refine x_ialdS (j := 4) (by decide) (by decide) (by decide) dX4_whenLost_13 ?_
      refine x_top (show (mx_row σ 37 (f_weeks n r k)) 37 4 = (f_weeks n r k) 4 from (congrFun mx_row_s _)) ?_
      refine x_iload_n 2 dX4_whenLost_14 rfl ?_
      refine clX4_48 (qX4_has ((f_weeks n r k) 4) (nI h)) (by decide) rfl dX4_whenLost_15 (fun r15 τ15 h15 => ?_)
      obtain ⟨rfl, rfl⟩ := h15
      refine x_if_ne dX4_whenLost_18 (fun c18 => ?_) (fun c18 => ?_)
      · replace c18 := zb_1 c18
        have c18 : f_kept (f_weeks n r k) h = true := c18
        refine x_aload_n 1 dX4_whenLost_23 rfl ?_
        refine gfX4_13 dX4_whenLost_24 ?_
        refine clX4_83 (gX4_week (by decide) (by decide) mx_row_s n (wf_weeks hw k)) (by decide) rfl dX4_whenLost_27 (fun τ27 h27 => ?_)
        obtain rfl := h27
        refine x_mem (mx_row_row _ _ _ _) ?_
        refine x_iinc (v := nI (k + 1)) (lv' := [(2, .int (nI (k + 1))), (0, mx_rf E 35), (1, .int (nI h))]) 0 dX4_whenLost_30 rfl (nI_1 _) (by decide) rfl ?_
        refine x_goto dX4_whenLost_33 ?_
        exact ih2 (k + 1) (by omega) (by omega) (f_whenF hk hg c18)
      · replace c18 := zb_0 c18
        have c18 : f_kept (f_weeks n r k) h = false := c18
        refine x_iload_n 0 dX4_whenLost_21 rfl ?_
        exact x_iret dX4_whenLost_22 ⟨f_whenT hk hg c18, _, rfl⟩
  exact key2 0 (Nat.zero_le _) rfl

set_option maxHeartbeats 4000000 in
theorem qX4_lostOf {E : mx_E} {σ : Mem} {n : Nat} {r : Row} (h36 : σ 36 = r) (hw : wf n r) {h : Nat} (hh : h < n) : MX4_lostOf E 6 [mx_rf E 35, .int (nI h)] σ (mx_i (fun v τ => f_when n r h = v ∧ ∃ q : Row, mx_row σ 37 q = τ)) := by
  refine MM.of (lv := [(0, mx_rf E 35), (1, .int (nI h))]) kpX4 rfl (Nat.le_of_ble_eq_true rfl) rfl ?_
  have hn6 := hw.1
  refine x_aload_n 0 dX4_lostOf_0 rfl ?_
  refine gfX4_9 dX4_lostOf_1 ?_
  refine x_aload_n 0 dX4_lostOf_4 rfl ?_
  refine gfX4_13 dX4_lostOf_5 ?_
  refine clX4_121 (qX4_copies (by decide) (by decide) (by decide) (by decide) (by decide) h36) (by decide) rfl dX4_lostOf_8 (fun τ8 h8 => ?_)
  obtain rfl := h8
  refine x_aload_n 0 dX4_lostOf_11 rfl ?_
  refine x_iload_n 1 dX4_lostOf_12 rfl ?_
  refine clX4_145 (qX4_whenLost mx_row_s hw (by omega)) (by decide) rfl dX4_lostOf_13 (fun r13 τ13 h13 => ?_)
  obtain ⟨rfl, q13, rfl⟩ := h13
  refine x_mem (mx_row_row _ _ _ _) ?_
  exact x_iret dX4_lostOf_16 ⟨rfl, _, rfl⟩

set_option maxHeartbeats 4000000 in
theorem qX4_firstLost {E : mx_E} {σ : Mem} {n : Nat} {r : Row} (h36 : σ 36 = r) (hw : wf n r)  : MX4_firstLost E 7 [mx_rf E 35] σ (mx_i (fun v τ => f_o9 (f_flM n r n).1 = v ∧ ∃ q : Row, mx_row σ 37 q = τ)) := by
  refine MM.of (lv := [(0, mx_rf E 35)]) kpX4 rfl (Nat.le_of_ble_eq_true rfl) rfl ?_
  have hn6 := hw.1
  refine x_mem (τ := mx_row σ 37 (σ 37)) (mx_row_self σ 37).symm ?_
  refine x_bipush (v := -9) dX4_firstLost_0 (by decide) ?_
  refine x_istore_n (lv' := [(1, .int (-9)), (0, mx_rf E 35)]) dX4_firstLost_2 rfl (by decide) rfl ?_
  refine x_ldc dX4_firstLost_3 kkX4_148 ?_
  refine x_istore_n (lv' := [(2, .int 1000000000), (1, .int (-9)), (0, mx_rf E 35)]) dX4_firstLost_5 rfl (by decide) rfl ?_
  refine x_iconst (v := 0) dX4_firstLost_6 (by decide) ?_
  refine x_istore_n (lv' := [(3, .int 0), (2, .int 1000000000), (1, .int (-9)), (0, mx_rf E 35)]) dX4_firstLost_7 rfl (by decide) rfl ?_
  have key8 : ∀ i, i ≤ n → ∀ q : Row, MX E 7 RX4 cX4_firstLost 5 (some .int) 8 [(3, .int (nI i)), (2, .int ((f_flM n r i).2)), (1, .int (f_o9 (f_flM n r i).1)), (0, mx_rf E 35)] [] (mx_row σ 37 q) (mx_i (fun v τ => f_o9 (f_flM n r n).1 = v ∧ ∃ q : Row, mx_row σ 37 q = τ)) := by
    refine mx_ind n (fun i hi8 ih8 => ?_)
    intro q
    refine x_iload_n 0 dX4_firstLost_8 rfl ?_
    refine x_aload_n 3 dX4_firstLost_9 rfl ?_
    refine gfX4_9 dX4_firstLost_10 ?_
    refine x_iconst (v := 0) dX4_firstLost_13 (by decide) ?_
    refine x_ialdS (j := 0) (by decide) (by decide) (by decide) dX4_firstLost_14 ?_
    refine x_top (show (mx_row σ 37 q) 36 0 = nI n from ((congrFun ((mx_row_o (by decide)).trans h36) 0).trans hw.2.1)) ?_
    refine x_icmp_ge dX4_firstLost_15 (fun c15 => ?_) (fun c15 => ?_)
    · have hge := nI_le_of (by omega) (by omega) c15
      have hin : i = n := by omega
      refine x_iload_n 2 dX4_firstLost_68 rfl ?_
      exact x_iret dX4_firstLost_69 ⟨by rw [hin], _, rfl⟩
    · have hlt := nI_lt_of (by omega) (by omega) c15
      refine x_aload_n 3 dX4_firstLost_18 rfl ?_
      refine gfX4_9 dX4_firstLost_19 ?_
      refine x_iconst (v := 4) dX4_firstLost_22 (by decide) ?_
      refine x_ialdS (j := 4) (by decide) (by decide) (by decide) dX4_firstLost_23 ?_
      refine x_top (show (mx_row σ 37 q) 36 4 = r 4 from (congrFun ((mx_row_o (by decide)).trans h36) _)) ?_
      refine x_iload_n 0 dX4_firstLost_24 rfl ?_
      refine clX4_48 (qX4_has (r 4) (nI i)) (by decide) rfl dX4_firstLost_25 (fun r25 τ25 h25 => ?_)
      obtain ⟨rfl, rfl⟩ := h25
      refine x_if_eq dX4_firstLost_28 (fun c28 => ?_) (fun c28 => ?_)
      · replace c28 := zb_0 c28
        refine x_bipush (v := -9) dX4_firstLost_39 (by decide) ?_
        refine x_istore (lv' := [(4, .int (-9)), (3, .int (nI i)), (2, .int ((f_flM n r i).2)), (1, .int (f_o9 (f_flM n r i).1)), (0, mx_rf E 35)]) dX4_firstLost_41 rfl (by decide) rfl ?_
        refine x_iload 0 dX4_firstLost_43 rfl ?_
        refine x_if_lt dX4_firstLost_45 (fun _ => ?_) (fun c => absurd c (by decide))
        refine x_iinc (v := nI (i + 1)) (lv' := [(3, .int (nI (i + 1))), (4, .int (-9)), (2, .int ((f_flM n r i).2)), (1, .int (f_o9 (f_flM n r i).1)), (0, mx_rf E 35)]) 1 dX4_firstLost_62 rfl (nI_1 _) (by decide) rfl ?_
        refine x_goto dX4_firstLost_65 ?_
        refine x_lvs [0, 2, 3, 4] rfl ?_
        exact flM_eq (P := fun a b => MX E _ _ _ _ _ _ [(3, .int (nI (i + 1))), (2, .int b), (1, .int a), (0, mx_rf E 35)] _ (mx_row σ 37 q) _) (f_flM_sK c28) (ih8 (i + 1) (by omega) (by omega) _)
      · replace c28 := zb_1 c28
        refine x_aload_n 3 dX4_firstLost_31 rfl ?_
        refine x_iload_n 0 dX4_firstLost_32 rfl ?_
        refine clX4_149 (qX4_lostOf ((mx_row_o (by decide)).trans h36) hw (by omega)) (by decide) rfl dX4_firstLost_33 (fun r33 τ33 h33 => ?_)
        obtain ⟨rfl, q33, rfl⟩ := h33
        refine x_mem (mx_row_row _ _ _ _) ?_
        refine x_goto dX4_firstLost_36 ?_
        refine x_istore (lv' := [(4, .int (f_when n r i)), (3, .int (nI i)), (2, .int ((f_flM n r i).2)), (1, .int (f_o9 (f_flM n r i).1)), (0, mx_rf E 35)]) dX4_firstLost_41 rfl (by decide) rfl ?_
        refine x_iload 0 dX4_firstLost_43 rfl ?_
        refine x_if_lt dX4_firstLost_45 (fun c45 => ?_) (fun c45 => ?_)
        · refine x_iinc (v := nI (i + 1)) (lv' := [(3, .int (nI (i + 1))), (4, .int (f_when n r i)), (2, .int ((f_flM n r i).2)), (1, .int (f_o9 (f_flM n r i).1)), (0, mx_rf E 35)]) 1 dX4_firstLost_62 rfl (nI_1 _) (by decide) rfl ?_
          refine x_goto dX4_firstLost_65 ?_
          refine x_lvs [0, 2, 3, 4] rfl ?_
          exact flM_eq (P := fun a b => MX E _ _ _ _ _ _ [(3, .int (nI (i + 1))), (2, .int b), (1, .int a), (0, mx_rf E 35)] _ (mx_row σ 37 q33) _) (f_flM_sN c28 c45) (ih8 (i + 1) (by omega) (by omega) _)
        · refine x_iload 0 dX4_firstLost_48 rfl ?_
          refine x_iload_n 2 dX4_firstLost_50 rfl ?_
          refine x_icmp_lt dX4_firstLost_51 (fun c51 => ?_) (fun c51 => ?_)
          · refine x_iload_n 1 dX4_firstLost_57 rfl ?_
            refine x_istore_n (lv' := [(1, .int (nI i)), (4, .int (f_when n r i)), (3, .int (nI i)), (2, .int ((f_flM n r i).2)), (0, mx_rf E 35)]) dX4_firstLost_58 rfl (by decide) rfl ?_
            refine x_iload 1 dX4_firstLost_59 rfl ?_
            refine x_istore_n (lv' := [(2, .int (f_when n r i)), (1, .int (nI i)), (4, .int (f_when n r i)), (3, .int (nI i)), (0, mx_rf E 35)]) dX4_firstLost_61 rfl (by decide) rfl ?_
            refine x_iinc (v := nI (i + 1)) (lv' := [(3, .int (nI (i + 1))), (2, .int (f_when n r i)), (1, .int (nI i)), (4, .int (f_when n r i)), (0, mx_rf E 35)]) 3 dX4_firstLost_62 rfl (nI_1 _) (by decide) rfl ?_
            refine x_goto dX4_firstLost_65 ?_
            refine x_lvs [0, 1, 2, 4] rfl ?_
            exact flM_eq (P := fun a b => MX E _ _ _ _ _ _ [(3, .int (nI (i + 1))), (2, .int b), (1, .int a), (0, mx_rf E 35)] _ (mx_row σ 37 q33) _) (f_flM_sT c28 c45 c51) (ih8 (i + 1) (by omega) (by omega) _)
          · refine x_goto dX4_firstLost_54 ?_
            refine x_iinc (v := nI (i + 1)) (lv' := [(3, .int (nI (i + 1))), (4, .int (f_when n r i)), (2, .int ((f_flM n r i).2)), (1, .int (f_o9 (f_flM n r i).1)), (0, mx_rf E 35)]) 1 dX4_firstLost_62 rfl (nI_1 _) (by decide) rfl ?_
            refine x_goto dX4_firstLost_65 ?_
            refine x_lvs [0, 2, 3, 4] rfl ?_
            exact flM_eq (P := fun a b => MX E _ _ _ _ _ _ [(3, .int (nI (i + 1))), (2, .int b), (1, .int a), (0, mx_rf E 35)] _ (mx_row σ 37 q33) _) (f_flM_sF c28 c45 c51) (ih8 (i + 1) (by omega) (by omega) _)
  exact key8 0 (Nat.zero_le _) _

set_option maxHeartbeats 4000000 in
theorem qX4_lost {E : mx_E} {σ : Mem} {n : Nat} {r : Row} (h36 : σ 36 = r) (hw : wf n r) (house : Int32) : MX4_lost E 8 [mx_rf E 35, .int house] σ (mx_i (fun v τ => (p_lost n r house).1 = v ∧ Qm (p_lost n r house).2 σ τ)) := by
  refine MM.of (lv := [(0, mx_rf E 35), (1, .int house)]) kpX4 rfl (Nat.le_of_ble_eq_true rfl) rfl ?_
  have hn6 := hw.1
  refine x_iload_n 1 dX4_lost_0 rfl ?_
  refine x_iconst (v := -1) dX4_lost_1 (by decide) ?_
  refine x_icmp_ne dX4_lost_2 (fun c2 => ?_) (fun c2 => ?_)
  · refine x_aload_n 0 dX4_lost_12 rfl ?_
    refine x_iload_n 1 dX4_lost_13 rfl ?_
    refine clX4_111 (qX4_isHouse h36 hw house) (by decide) rfl dX4_lost_14 (fun r14 τ14 h14 => ?_)
    obtain ⟨rfl, rfl⟩ := h14
    refine x_if_eq dX4_lost_17 (fun c17 => ?_) (fun c17 => ?_)
    · replace c17 := zb_0 c17
      refine x_aload_n 0 dX4_lost_28 rfl ?_
      refine x_iconst (v := -1) dX4_lost_29 (by decide) ?_
      refine clX4_36 (qX4_no 1 (by decide) (by decide)) (by decide) rfl dX4_lost_30 (fun r30 τ30 h30 => ?_)
      obtain ⟨rfl, rfl⟩ := h30
      exact x_iret dX4_lost_33 (by rw [show p_lost n r house = ((-1 : Int32), 1) from by simp only [p_lost, c2, c17, reduceIte, Bool.false_eq_true, Bool.true_eq_false, Bool.true_and, Bool.false_and, Bool.and_true, Bool.and_false, decide_eq_true_eq, decide_true, decide_false, not_true_eq_false, not_false_eq_true, zbT, zbF]]; exact ⟨rfl, Qm.no⟩)
    · replace c17 := zb_1 c17
      obtain ⟨h, hh, rfl⟩ := f_inN_t (by omega) c17
      refine x_aload_n 0 dX4_lost_20 rfl ?_
      refine x_iload_n 1 dX4_lost_21 rfl ?_
      refine clX4_149 (qX4_lostOf h36 hw (by omega)) (by decide) rfl dX4_lost_22 (fun r22 τ22 h22 => ?_)
      obtain ⟨rfl, q22, rfl⟩ := h22
      refine x_goto dX4_lost_25 ?_
      exact x_iret dX4_lost_33 (by rw [show p_lost n r (nI h) = ((f_when n r h : Int32), 0) from by simp only [p_lost, c2, c17, nI_clamp (show h < 2 ^ 31 by omega), reduceIte, Bool.false_eq_true, Bool.true_eq_false, Bool.true_and, Bool.false_and, Bool.and_true, Bool.and_false, decide_eq_true_eq, decide_true, decide_false, not_true_eq_false, not_false_eq_true, zbT, zbF]]; exact ⟨rfl, (Qm.rf.row (Or.inl rfl))⟩)
  · refine x_aload_n 0 dX4_lost_5 rfl ?_
    refine clX4_152 (qX4_firstLost h36 hw) (by decide) rfl dX4_lost_6 (fun r6 τ6 h6 => ?_)
    obtain ⟨rfl, q6, rfl⟩ := h6
    refine x_top (show f_o9 (f_flM n r n).1 = f_flG n r 60 1 from f_flM_G hw) ?_
    refine x_goto dX4_lost_9 ?_
    exact x_iret dX4_lost_33 (by rw [show p_lost n r house = ((f_flG n r 60 1 : Int32), 0) from by simp only [p_lost, c2, reduceIte, Bool.false_eq_true, Bool.true_eq_false, Bool.true_and, Bool.false_and, Bool.and_true, Bool.and_false, decide_eq_true_eq, decide_true, decide_false, not_true_eq_false, not_false_eq_true, zbT, zbF]]; exact ⟨rfl, (Qm.rf.row (Or.inl rfl))⟩)

set_option maxHeartbeats 4000000 in
theorem qX4_dark {E : mx_E} {σ : Mem} {n : Nat} {r : Row} (h36 : σ 36 = r) (hw : wf n r)  : MX4_dark E 5 [mx_rf E 35] σ (mx_i (fun v τ => f_darkG n r 61 0 = v ∧ Qm 0 σ τ)) := by
  refine MM.of (lv := [(0, mx_rf E 35)]) kpX4 rfl (Nat.le_of_ble_eq_true rfl) rfl ?_
  have hn6 := hw.1
  refine x_aload_n 0 dX4_dark_0 rfl ?_
  refine gfX4_9 dX4_dark_1 ?_
  refine x_aload_n 0 dX4_dark_4 rfl ?_
  refine gfX4_13 dX4_dark_5 ?_
  refine clX4_121 (qX4_copies (by decide) (by decide) (by decide) (by decide) (by decide) h36) (by decide) rfl dX4_dark_8 (fun τ8 h8 => ?_)
  obtain rfl := h8
  refine x_iconst (v := 0) dX4_dark_11 (by decide) ?_
  refine x_istore_n (lv' := [(1, .int 0), (0, mx_rf E 35)]) dX4_dark_12 rfl (by decide) rfl ?_
  have key13 : ∀ k, k ≤ 61 → f_darkG n r (61 - k) k = f_darkG n r 61 0 → MX E 5 RX4 cX4_dark 2 (some .int) 13 [(1, .int (nI k)), (0, mx_rf E 35)] [] (mx_row σ 37 (f_weeks n r k)) (mx_i (fun v τ => f_darkG n r 61 0 = v ∧ Qm 0 σ τ)) := by
    refine mx_ind 61 (fun k hi13 ih13 => ?_)
    intro hg
    refine x_iload_n 0 dX4_dark_13 rfl ?_
    refine x_bipush (v := 60) dX4_dark_14 (by decide) ?_
    refine x_icmp_gt dX4_dark_16 (fun c16 => ?_) (fun c16 => ?_)
    · have hk : ¬ k ≤ 60 := Nat.not_le.mpr ((nI_ltI (a := 60) (by decide) (by omega)).mp c16)
      refine x_bipush (v := -9) dX4_dark_50 (by decide) ?_
      exact x_iret dX4_dark_52 ⟨f_darkE hk hg, Qm.rf.row (Or.inl rfl)⟩
    · have hk : k ≤ 60 := nI_nlt_le (b := 60) (by omega) (by decide) c16
      refine x_aload_n 1 dX4_dark_19 rfl ?_
      refine gfX4_13 dX4_dark_20 ?_
      refine x_iconst (v := 3) dX4_dark_23 (by decide) ?_
      refine x_ialdS (j := 3) (by decide) (by decide) (by decide) dX4_dark_24 ?_
      refine x_top (show (mx_row σ 37 (f_weeks n r k)) 37 3 = (f_weeks n r k) 3 from (congrFun mx_row_s _)) ?_
      refine x_aload_n 1 dX4_dark_25 rfl ?_
      refine gfX4_13 dX4_dark_26 ?_
      refine clX4_155 (gX4_burnsIn (by decide) (by decide) mx_row_s n hn6 (wf_weeks hw k).2.1) (by decide) rfl dX4_dark_29 (fun r29 τ29 h29 => ?_)
      obtain ⟨rfl, rfl⟩ := h29
      refine x_icmp_ge dX4_dark_32 (fun c32 => ?_) (fun c32 => ?_)
      · refine x_aload_n 1 dX4_dark_37 rfl ?_
        refine gfX4_13 dX4_dark_38 ?_
        refine clX4_83 (gX4_week (by decide) (by decide) mx_row_s n (wf_weeks hw k)) (by decide) rfl dX4_dark_41 (fun τ41 h41 => ?_)
        obtain rfl := h41
        refine x_mem (mx_row_row _ _ _ _) ?_
        refine x_iinc (v := nI (k + 1)) (lv' := [(1, .int (nI (k + 1))), (0, mx_rf E 35)]) 0 dX4_dark_44 rfl (nI_1 _) (by decide) rfl ?_
        refine x_goto dX4_dark_47 ?_
        exact ih13 (k + 1) (by omega) (by omega) (f_darkF hk hg (Int32.not_lt.mpr c32))
      · refine x_iload_n 0 dX4_dark_35 rfl ?_
        exact x_iret dX4_dark_36 ⟨f_darkT hk hg (Int32.not_le.mp c32), Qm.rf.row (Or.inl rfl)⟩
  exact key13 0 (Nat.zero_le _) rfl

set_option maxHeartbeats 4000000 in
theorem qX4_keptThen {E : mx_E} {σ : Mem} {n : Nat} {r : Row} (h36 : σ 36 = r) (hw : wf n r) (k : Nat) (hk : k < 1000) : MX4_keptThen E 7 [mx_rf E 35, .int (nI k)] σ (mx_ie (f_keptN n r k) (mx_row σ 37 (f_weeks n r k))) := by
  refine MM.of (lv := [(0, mx_rf E 35), (1, .int (nI k))]) kpX4 rfl (Nat.le_of_ble_eq_true rfl) rfl ?_
  have hn6 := hw.1
  refine x_aload_n 0 dX4_keptThen_0 rfl ?_
  refine x_iload_n 1 dX4_keptThen_1 rfl ?_
  refine clX4_141 (qX4_takes h36 hw k (by omega)) (by decide) rfl dX4_keptThen_2 (fun τ2 h2 => ?_)
  obtain rfl := h2
  refine x_aload_n 0 dX4_keptThen_5 rfl ?_
  refine gfX4_13 dX4_keptThen_6 ?_
  refine x_iconst (v := 4) dX4_keptThen_9 (by decide) ?_
  refine x_ialdS (j := 4) (by decide) (by decide) (by decide) dX4_keptThen_10 ?_
  refine x_top (show (mx_row σ 37 (f_weeks n r k)) 37 4 = (f_weeks n r k) 4 from (congrFun mx_row_s _)) ?_
  refine clX4_138 (qX4_bits ((f_weeks n r k) 4)) (by decide) rfl dX4_keptThen_11 (fun r11 τ11 h11 => ?_)
  obtain ⟨rfl, rfl⟩ := h11
  exact x_iret dX4_keptThen_14 ⟨rfl, rfl⟩

set_option maxHeartbeats 4000000 in
theorem qX4_still {E : mx_E} {σ : Mem} {n : Nat} {r : Row} (h36 : σ 36 = r) (hw : wf n r)  : MX4_still E 8 [mx_rf E 35] σ (mx_i (fun v τ => f_stillG n r 61 0 = v ∧ Qm 0 σ τ)) := by
  refine MM.of (lv := [(0, mx_rf E 35)]) kpX4 rfl (Nat.le_of_ble_eq_true rfl) rfl ?_
  have hn6 := hw.1
  refine x_mem (τ := mx_row σ 37 (σ 37)) (mx_row_self σ 37).symm ?_
  refine x_iconst (v := 0) dX4_still_0 (by decide) ?_
  refine x_istore_n (lv' := [(1, .int 0), (0, mx_rf E 35)]) dX4_still_1 rfl (by decide) rfl ?_
  have key2 : ∀ k, k ≤ 61 → ∀ q : Row, f_stillG n r (61 - k) k = f_stillG n r 61 0 → MX E 8 RX4 cX4_still 2 (some .int) 2 [(1, .int (nI k)), (0, mx_rf E 35)] [] (mx_row σ 37 q) (mx_i (fun v τ => f_stillG n r 61 0 = v ∧ Qm 0 σ τ)) := by
    refine mx_ind 61 (fun k hi2 ih2 => ?_)
    intro q hg
    refine x_iload_n 0 dX4_still_2 rfl ?_
    refine x_bipush (v := 60) dX4_still_3 (by decide) ?_
    refine x_icmp_gt dX4_still_5 (fun c5 => ?_) (fun c5 => ?_)
    · have hk : ¬ k ≤ 60 := Nat.not_le.mpr ((nI_ltI (a := 60) (by decide) (by omega)).mp c5)
      refine x_bipush (v := -9) dX4_still_32 (by decide) ?_
      exact x_iret dX4_still_34 ⟨f_stillE hk hg, Qm.rf.row (Or.inl rfl)⟩
    · have hk : k ≤ 60 := nI_nlt_le (b := 60) (by omega) (by decide) c5
      refine x_aload_n 1 dX4_still_8 rfl ?_
      refine x_iload_n 0 dX4_still_9 rfl ?_
      refine clX4_159 (qX4_keptThen ((mx_row_o (by decide)).trans h36) hw k (by omega)) (by decide) rfl dX4_still_10 (fun r10 τ10 h10 => ?_)
      obtain ⟨rfl, rfl⟩ := h10
      refine x_mem (mx_row_row _ _ _ _) ?_
      refine x_aload_n 1 dX4_still_13 rfl ?_
      refine x_iload_n 0 dX4_still_14 rfl ?_
      refine x_bipush (v := 20) dX4_still_15 (by decide) ?_
      refine x_iadd dX4_still_17 ?_
      refine x_top (show (nI k) + 20 = nI (k + 20) from nI_add k 20) ?_
      refine clX4_159 (qX4_keptThen ((mx_row_o (by decide)).trans h36) hw (k + 20) (by omega)) (by decide) rfl dX4_still_18 (fun r18 τ18 h18 => ?_)
      obtain ⟨rfl, rfl⟩ := h18
      refine x_mem (mx_row_row _ _ _ _) ?_
      refine x_icmp_ne dX4_still_21 (fun c21 => ?_) (fun c21 => ?_)
      · refine x_iinc (v := nI (k + 1)) (lv' := [(1, .int (nI (k + 1))), (0, mx_rf E 35)]) 0 dX4_still_26 rfl (nI_1 _) (by decide) rfl ?_
        refine x_goto dX4_still_29 ?_
        exact ih2 (k + 1) (by omega) (by omega) _ (f_stillF hk hg c21)
      · refine x_iload_n 0 dX4_still_24 rfl ?_
        exact x_iret dX4_still_25 ⟨f_stillT hk hg c21, Qm.rf.row (Or.inl rfl)⟩
  exact key2 0 (Nat.zero_le _) _ rfl

set_option maxHeartbeats 4000000 in
theorem qX4_spareOnes {E : mx_E} {σ : Mem} {n : Nat} {r : Row} (h36 : σ 36 = r) (hw : wf n r)  : MX4_spareOnes E 2 [mx_rf E 35] σ (mx_ie (f_spareU r n) σ) := by
  refine MM.of (lv := [(0, mx_rf E 35)]) kpX4 rfl (Nat.le_of_ble_eq_true rfl) rfl ?_
  have hn6 := hw.1
  refine x_iconst (v := 0) dX4_spareOnes_0 (by decide) ?_
  refine x_istore_n (lv' := [(1, .int 0), (0, mx_rf E 35)]) dX4_spareOnes_1 rfl (by decide) rfl ?_
  refine x_iconst (v := 0) dX4_spareOnes_2 (by decide) ?_
  refine x_istore_n (lv' := [(2, .int 0), (1, .int 0), (0, mx_rf E 35)]) dX4_spareOnes_3 rfl (by decide) rfl ?_
  have key4 : ∀ i, i ≤ n → MX E 2 RX4 cX4_spareOnes 3 (some .int) 4 [(2, .int (nI i)), (1, .int (f_spareU r i)), (0, mx_rf E 35)] [] σ (mx_ie (f_spareU r n) σ) := by
    refine mx_ind n (fun i hi4 ih4 => ?_)
    refine x_iload_n 0 dX4_spareOnes_4 rfl ?_
    refine x_aload_n 2 dX4_spareOnes_5 rfl ?_
    refine gfX4_9 dX4_spareOnes_6 ?_
    refine x_iconst (v := 0) dX4_spareOnes_9 (by decide) ?_
    refine x_ialdS (j := 0) (by decide) (by decide) (by decide) dX4_spareOnes_10 ?_
    refine x_top (show σ 36 0 = nI n from ((congrFun h36 0).trans hw.2.1)) ?_
    refine x_icmp_ge dX4_spareOnes_11 (fun c11 => ?_) (fun c11 => ?_)
    · have hge := nI_le_of (by omega) (by omega) c11
      have hin : i = n := by omega
      refine x_iload_n 1 dX4_spareOnes_70 rfl ?_
      exact x_iret dX4_spareOnes_71 ⟨by rw [hin], rfl⟩
    · have hlt := nI_lt_of (by omega) (by omega) c11
      refine x_iload_n 1 dX4_spareOnes_14 rfl ?_
      refine x_aload_n 2 dX4_spareOnes_15 rfl ?_
      refine gfX4_9 dX4_spareOnes_16 ?_
      refine x_iconst (v := 4) dX4_spareOnes_19 (by decide) ?_
      refine x_ialdS (j := 4) (by decide) (by decide) (by decide) dX4_spareOnes_20 ?_
      refine x_top (show σ 36 4 = r 4 from (congrFun h36 _)) ?_
      refine x_iload_n 0 dX4_spareOnes_21 rfl ?_
      refine clX4_48 (qX4_has (r 4) (nI i)) (by decide) rfl dX4_spareOnes_22 (fun r22 τ22 h22 => ?_)
      obtain ⟨rfl, rfl⟩ := h22
      refine x_if_eq dX4_spareOnes_25 (fun c25 => ?_) (fun c25 => ?_)
      · replace c25 := zb_0 c25
        refine x_iconst (v := 0) dX4_spareOnes_61 (by decide) ?_
        refine x_iadd dX4_spareOnes_62 ?_
        refine x_top (show (f_spareU r i) + 0 = f_spareU r (i + 1) from (by rw [f_spareU_s]; simp only [f_kept, c25, reduceIte, Bool.false_eq_true])) ?_
        refine x_istore_n (lv' := [(1, .int (f_spareU r (i + 1))), (2, .int (nI i)), (0, mx_rf E 35)]) dX4_spareOnes_63 rfl (by decide) rfl ?_
        refine x_iinc (v := nI (i + 1)) (lv' := [(2, .int (nI (i + 1))), (1, .int (f_spareU r (i + 1))), (0, mx_rf E 35)]) 1 dX4_spareOnes_64 rfl (nI_1 _) (by decide) rfl ?_
        refine x_goto dX4_spareOnes_67 ?_
        exact ih4 (i + 1) (by omega) (by omega)
      · replace c25 := zb_1 c25
        refine x_aload_n 2 dX4_spareOnes_28 rfl ?_
        refine gfX4_9 dX4_spareOnes_29 ?_
        refine x_iload_n 0 dX4_spareOnes_32 rfl ?_
        refine clX4_52 (gX4_crowd (by decide) (by decide) h36 i (by omega)) (by decide) rfl dX4_spareOnes_33 (fun r33 τ33 h33 => ?_)
        obtain ⟨rfl, rfl⟩ := h33
        refine x_aload_n 2 dX4_spareOnes_36 rfl ?_
        refine gfX4_9 dX4_spareOnes_37 ?_
        refine x_iload_n 0 dX4_spareOnes_40 rfl ?_
        refine x_iconst (v := 2) dX4_spareOnes_41 (by decide) ?_
        refine clX4_44 (qX4_of i 2) (by decide) rfl dX4_spareOnes_42 (fun r42 τ42 h42 => ?_)
        obtain ⟨rfl, rfl⟩ := h42
        refine x_ialdS (j := 6 + 6 * i + 2) (by decide) (by decide) (by omega) dX4_spareOnes_45 ?_
        refine x_top (show σ 36 (6 + 6 * i + 2) = r (6 + 6 * i + 2) from (congrFun h36 _)) ?_
        refine x_imul dX4_spareOnes_46 ?_
        refine x_aload_n 2 dX4_spareOnes_47 rfl ?_
        refine gfX4_9 dX4_spareOnes_48 ?_
        refine x_iload_n 0 dX4_spareOnes_51 rfl ?_
        refine x_iconst (v := 3) dX4_spareOnes_52 (by decide) ?_
        refine clX4_44 (qX4_of i 3) (by decide) rfl dX4_spareOnes_53 (fun r53 τ53 h53 => ?_)
        obtain ⟨rfl, rfl⟩ := h53
        refine x_ialdS (j := 6 + 6 * i + 3) (by decide) (by decide) (by omega) dX4_spareOnes_56 ?_
        refine x_top (show σ 36 (6 + 6 * i + 3) = r (6 + 6 * i + 3) from (congrFun h36 _)) ?_
        refine x_isub dX4_spareOnes_57 ?_
        refine x_goto dX4_spareOnes_58 ?_
        refine x_iadd dX4_spareOnes_62 ?_
        refine x_top (show (f_spareU r i) + (((f_crowdR r i) * (r (6 + 6 * i + 2))) - (r (6 + 6 * i + 3))) = f_spareU r (i + 1) from (by rw [f_spareU_s]; simp only [f_kept, c25, reduceIte, Bool.false_eq_true])) ?_
        refine x_istore_n (lv' := [(1, .int (f_spareU r (i + 1))), (2, .int (nI i)), (0, mx_rf E 35)]) dX4_spareOnes_63 rfl (by decide) rfl ?_
        refine x_iinc (v := nI (i + 1)) (lv' := [(2, .int (nI (i + 1))), (1, .int (f_spareU r (i + 1))), (0, mx_rf E 35)]) 1 dX4_spareOnes_64 rfl (nI_1 _) (by decide) rfl ?_
        refine x_goto dX4_spareOnes_67 ?_
        exact ih4 (i + 1) (by omega) (by omega)
  exact key4 0 (Nat.zero_le _)

set_option maxHeartbeats 4000000 in
theorem qX4_fullest {E : mx_E} {σ : Mem} {n : Nat} {r : Row} (h36 : σ 36 = r) (hw : wf n r)  : MX4_fullest E 2 [mx_rf E 35] σ (mx_ie (f_o9 (f_bestU (f_crowdR r) (f_kept r) n)) σ) := by
  refine MM.of (lv := [(0, mx_rf E 35)]) kpX4 rfl (Nat.le_of_ble_eq_true rfl) rfl ?_
  have hn6 := hw.1
  refine x_bipush (v := -9) dX4_fullest_0 (by decide) ?_
  refine x_istore_n (lv' := [(1, .int (-9)), (0, mx_rf E 35)]) dX4_fullest_2 rfl (by decide) rfl ?_
  refine x_iconst (v := 0) dX4_fullest_3 (by decide) ?_
  refine x_istore_n (lv' := [(2, .int 0), (1, .int (-9)), (0, mx_rf E 35)]) dX4_fullest_4 rfl (by decide) rfl ?_
  have key5 : ∀ i, i ≤ n → MX E 2 RX4 cX4_fullest 3 (some .int) 5 [(2, .int (nI i)), (1, .int (f_o9 (f_bestU (f_crowdR r) (f_kept r) i))), (0, mx_rf E 35)] [] σ (mx_ie (f_o9 (f_bestU (f_crowdR r) (f_kept r) n)) σ) := by
    refine mx_ind n (fun i hi5 ih5 => ?_)
    refine x_iload_n 0 dX4_fullest_5 rfl ?_
    refine x_aload_n 2 dX4_fullest_6 rfl ?_
    refine gfX4_9 dX4_fullest_7 ?_
    refine x_iconst (v := 0) dX4_fullest_10 (by decide) ?_
    refine x_ialdS (j := 0) (by decide) (by decide) (by decide) dX4_fullest_11 ?_
    refine x_top (show σ 36 0 = nI n from ((congrFun h36 0).trans hw.2.1)) ?_
    refine x_icmp_ge dX4_fullest_12 (fun c12 => ?_) (fun c12 => ?_)
    · have hge := nI_le_of (by omega) (by omega) c12
      have hin : i = n := by omega
      refine x_iload_n 1 dX4_fullest_59 rfl ?_
      exact x_iret dX4_fullest_60 ⟨by rw [hin], rfl⟩
    · have hlt := nI_lt_of (by omega) (by omega) c12
      refine x_aload_n 2 dX4_fullest_15 rfl ?_
      refine gfX4_9 dX4_fullest_16 ?_
      refine x_iconst (v := 4) dX4_fullest_19 (by decide) ?_
      refine x_ialdS (j := 4) (by decide) (by decide) (by decide) dX4_fullest_20 ?_
      refine x_top (show σ 36 4 = r 4 from (congrFun h36 _)) ?_
      refine x_iload_n 0 dX4_fullest_21 rfl ?_
      refine clX4_48 (qX4_has (r 4) (nI i)) (by decide) rfl dX4_fullest_22 (fun r22 τ22 h22 => ?_)
      obtain ⟨rfl, rfl⟩ := h22
      refine x_if_eq dX4_fullest_25 (fun c25 => ?_) (fun c25 => ?_)
      · replace c25 := zb_0 c25
        refine x_iinc (v := nI (i + 1)) (lv' := [(2, .int (nI (i + 1))), (1, .int (f_o9 (f_bestU (f_crowdR r) (f_kept r) i))), (0, mx_rf E 35)]) 0 dX4_fullest_53 rfl (nI_1 _) (by decide) rfl ?_
        refine x_goto dX4_fullest_56 ?_
        exact acc_eq (P := fun x => MX E _ _ _ _ _ _ [(2, .int (nI (i + 1))), (1, .int x), (0, mx_rf E 35)] _ _ _) (congrArg f_o9 (f_bestU_f c25)) (ih5 (i + 1) (by omega) (by omega))
      · replace c25 := zb_1 c25
        rcases hb : f_bestU (f_crowdR r) (f_kept r) i with _ | j
        · show MX E 2 RX4 cX4_fullest 3 (some .int) 28 [(2, .int (nI i)), (1, .int (-9)), (0, mx_rf E 35)] [] σ (mx_ie (f_o9 (f_bestU (f_crowdR r) (f_kept r) n)) σ)
          refine x_iload_n 1 dX4_fullest_28 rfl ?_
          refine x_if_lt dX4_fullest_29 (fun _ => ?_) (fun c => absurd c (by decide))
          refine x_iload_n 0 dX4_fullest_51 rfl ?_
          refine x_istore_n (lv' := [(1, .int (nI i)), (2, .int (nI i)), (0, mx_rf E 35)]) dX4_fullest_52 rfl (by decide) rfl ?_
          refine x_iinc (v := nI (i + 1)) (lv' := [(2, .int (nI (i + 1))), (1, .int (nI i)), (0, mx_rf E 35)]) 1 dX4_fullest_53 rfl (nI_1 _) (by decide) rfl ?_
          refine x_goto dX4_fullest_56 ?_
          exact acc_eq (P := fun x => MX E _ _ _ _ _ _ [(2, .int (nI (i + 1))), (1, .int x), (0, mx_rf E 35)] _ _ _) (congrArg f_o9 (f_bestU_n c25 hb)) (ih5 (i + 1) (by omega) (by omega))
        · have hji := f_bestU_lt _ _ _ _ hb
          have hjn : j < n := by omega
          show MX E 2 RX4 cX4_fullest 3 (some .int) 28 [(2, .int (nI i)), (1, .int (nI j)), (0, mx_rf E 35)] [] σ (mx_ie (f_o9 (f_bestU (f_crowdR r) (f_kept r) n)) σ)
          refine x_iload_n 1 dX4_fullest_28 rfl ?_
          refine x_if_lt dX4_fullest_29 (fun c29 => ?_) (fun c29 => ?_)
          · exact absurd c29 (nI_pos (by omega))
          · refine x_aload_n 2 dX4_fullest_32 rfl ?_
            refine gfX4_9 dX4_fullest_33 ?_
            refine x_iload_n 0 dX4_fullest_36 rfl ?_
            refine clX4_52 (gX4_crowd (by decide) (by decide) h36 i (by omega)) (by decide) rfl dX4_fullest_37 (fun r37 τ37 h37 => ?_)
            obtain ⟨rfl, rfl⟩ := h37
            refine x_aload_n 2 dX4_fullest_40 rfl ?_
            refine gfX4_9 dX4_fullest_41 ?_
            refine x_iload_n 1 dX4_fullest_44 rfl ?_
            refine clX4_52 (gX4_crowd (by decide) (by decide) h36 j (by omega)) (by decide) rfl dX4_fullest_45 (fun r45 τ45 h45 => ?_)
            obtain ⟨rfl, rfl⟩ := h45
            refine x_icmp_le dX4_fullest_48 (fun c48 => ?_) (fun c48 => ?_)
            · have cg := Int32.not_lt.mpr c48
              refine x_iinc (v := nI (i + 1)) (lv' := [(2, .int (nI (i + 1))), (1, .int (nI j)), (0, mx_rf E 35)]) 0 dX4_fullest_53 rfl (nI_1 _) (by decide) rfl ?_
              refine x_goto dX4_fullest_56 ?_
              exact acc_eq (P := fun x => MX E _ _ _ _ _ _ [(2, .int (nI (i + 1))), (1, .int x), (0, mx_rf E 35)] _ _ _) (by rw [f_bestU_j c25 hb, if_neg cg]; rfl) (ih5 (i + 1) (by omega) (by omega))
            · have cg := Int32.not_le.mp c48
              refine x_iload_n 0 dX4_fullest_51 rfl ?_
              refine x_istore_n (lv' := [(1, .int (nI i)), (2, .int (nI i)), (0, mx_rf E 35)]) dX4_fullest_52 rfl (by decide) rfl ?_
              refine x_iinc (v := nI (i + 1)) (lv' := [(2, .int (nI (i + 1))), (1, .int (nI i)), (0, mx_rf E 35)]) 1 dX4_fullest_53 rfl (nI_1 _) (by decide) rfl ?_
              refine x_goto dX4_fullest_56 ?_
              exact acc_eq (P := fun x => MX E _ _ _ _ _ _ [(2, .int (nI (i + 1))), (1, .int x), (0, mx_rf E 35)] _ _ _) (by rw [f_bestU_j c25 hb, if_pos cg]; rfl) (ih5 (i + 1) (by omega) (by omega))
  exact key5 0 (Nat.zero_le _)

set_option maxHeartbeats 4000000 in
theorem qX4_dustiest {E : mx_E} {σ : Mem} {n : Nat} {r : Row} (h36 : σ 36 = r) (hw : wf n r)  : MX4_dustiest E 2 [mx_rf E 35] σ (mx_ie (f_o9 (f_bestU (fun x => r (6 + 6 * x + 4)) (f_kept r) n)) σ) := by
  refine MM.of (lv := [(0, mx_rf E 35)]) kpX4 rfl (Nat.le_of_ble_eq_true rfl) rfl ?_
  have hn6 := hw.1
  refine x_bipush (v := -9) dX4_dustiest_0 (by decide) ?_
  refine x_istore_n (lv' := [(1, .int (-9)), (0, mx_rf E 35)]) dX4_dustiest_2 rfl (by decide) rfl ?_
  refine x_iconst (v := 0) dX4_dustiest_3 (by decide) ?_
  refine x_istore_n (lv' := [(2, .int 0), (1, .int (-9)), (0, mx_rf E 35)]) dX4_dustiest_4 rfl (by decide) rfl ?_
  have key5 : ∀ i, i ≤ n → MX E 2 RX4 cX4_dustiest 3 (some .int) 5 [(2, .int (nI i)), (1, .int (f_o9 (f_bestU (fun x => r (6 + 6 * x + 4)) (f_kept r) i))), (0, mx_rf E 35)] [] σ (mx_ie (f_o9 (f_bestU (fun x => r (6 + 6 * x + 4)) (f_kept r) n)) σ) := by
    refine mx_ind n (fun i hi5 ih5 => ?_)
    refine x_iload_n 0 dX4_dustiest_5 rfl ?_
    refine x_aload_n 2 dX4_dustiest_6 rfl ?_
    refine gfX4_9 dX4_dustiest_7 ?_
    refine x_iconst (v := 0) dX4_dustiest_10 (by decide) ?_
    refine x_ialdS (j := 0) (by decide) (by decide) (by decide) dX4_dustiest_11 ?_
    refine x_top (show σ 36 0 = nI n from ((congrFun h36 0).trans hw.2.1)) ?_
    refine x_icmp_ge dX4_dustiest_12 (fun c12 => ?_) (fun c12 => ?_)
    · have hge := nI_le_of (by omega) (by omega) c12
      have hin : i = n := by omega
      refine x_iload_n 1 dX4_dustiest_63 rfl ?_
      exact x_iret dX4_dustiest_64 ⟨by rw [hin], rfl⟩
    · have hlt := nI_lt_of (by omega) (by omega) c12
      refine x_aload_n 2 dX4_dustiest_15 rfl ?_
      refine gfX4_9 dX4_dustiest_16 ?_
      refine x_iconst (v := 4) dX4_dustiest_19 (by decide) ?_
      refine x_ialdS (j := 4) (by decide) (by decide) (by decide) dX4_dustiest_20 ?_
      refine x_top (show σ 36 4 = r 4 from (congrFun h36 _)) ?_
      refine x_iload_n 0 dX4_dustiest_21 rfl ?_
      refine clX4_48 (qX4_has (r 4) (nI i)) (by decide) rfl dX4_dustiest_22 (fun r22 τ22 h22 => ?_)
      obtain ⟨rfl, rfl⟩ := h22
      refine x_if_eq dX4_dustiest_25 (fun c25 => ?_) (fun c25 => ?_)
      · replace c25 := zb_0 c25
        refine x_iinc (v := nI (i + 1)) (lv' := [(2, .int (nI (i + 1))), (1, .int (f_o9 (f_bestU (fun x => r (6 + 6 * x + 4)) (f_kept r) i))), (0, mx_rf E 35)]) 0 dX4_dustiest_57 rfl (nI_1 _) (by decide) rfl ?_
        refine x_goto dX4_dustiest_60 ?_
        exact acc_eq (P := fun x => MX E _ _ _ _ _ _ [(2, .int (nI (i + 1))), (1, .int x), (0, mx_rf E 35)] _ _ _) (congrArg f_o9 (f_bestU_f c25)) (ih5 (i + 1) (by omega) (by omega))
      · replace c25 := zb_1 c25
        rcases hb : f_bestU (fun x => r (6 + 6 * x + 4)) (f_kept r) i with _ | j
        · show MX E 2 RX4 cX4_dustiest 3 (some .int) 28 [(2, .int (nI i)), (1, .int (-9)), (0, mx_rf E 35)] [] σ (mx_ie (f_o9 (f_bestU (fun x => r (6 + 6 * x + 4)) (f_kept r) n)) σ)
          refine x_iload_n 1 dX4_dustiest_28 rfl ?_
          refine x_if_lt dX4_dustiest_29 (fun _ => ?_) (fun c => absurd c (by decide))
          refine x_iload_n 0 dX4_dustiest_55 rfl ?_
          refine x_istore_n (lv' := [(1, .int (nI i)), (2, .int (nI i)), (0, mx_rf E 35)]) dX4_dustiest_56 rfl (by decide) rfl ?_
          refine x_iinc (v := nI (i + 1)) (lv' := [(2, .int (nI (i + 1))), (1, .int (nI i)), (0, mx_rf E 35)]) 1 dX4_dustiest_57 rfl (nI_1 _) (by decide) rfl ?_
          refine x_goto dX4_dustiest_60 ?_
          exact acc_eq (P := fun x => MX E _ _ _ _ _ _ [(2, .int (nI (i + 1))), (1, .int x), (0, mx_rf E 35)] _ _ _) (congrArg f_o9 (f_bestU_n c25 hb)) (ih5 (i + 1) (by omega) (by omega))
        · have hji := f_bestU_lt _ _ _ _ hb
          have hjn : j < n := by omega
          show MX E 2 RX4 cX4_dustiest 3 (some .int) 28 [(2, .int (nI i)), (1, .int (nI j)), (0, mx_rf E 35)] [] σ (mx_ie (f_o9 (f_bestU (fun x => r (6 + 6 * x + 4)) (f_kept r) n)) σ)
          refine x_iload_n 1 dX4_dustiest_28 rfl ?_
          refine x_if_lt dX4_dustiest_29 (fun c29 => ?_) (fun c29 => ?_)
          · exact absurd c29 (nI_pos (by omega))
          · refine x_aload_n 2 dX4_dustiest_32 rfl ?_
            refine gfX4_9 dX4_dustiest_33 ?_
            refine x_iload_n 0 dX4_dustiest_36 rfl ?_
            refine x_iconst (v := 4) dX4_dustiest_37 (by decide) ?_
            refine clX4_44 (qX4_of i 4) (by decide) rfl dX4_dustiest_38 (fun r38 τ38 h38 => ?_)
            obtain ⟨rfl, rfl⟩ := h38
            refine x_ialdS (j := 6 + 6 * i + 4) (by decide) (by decide) (by omega) dX4_dustiest_41 ?_
            refine x_top (show σ 36 (6 + 6 * i + 4) = r (6 + 6 * i + 4) from (congrFun h36 _)) ?_
            refine x_aload_n 2 dX4_dustiest_42 rfl ?_
            refine gfX4_9 dX4_dustiest_43 ?_
            refine x_iload_n 1 dX4_dustiest_46 rfl ?_
            refine x_iconst (v := 4) dX4_dustiest_47 (by decide) ?_
            refine clX4_44 (qX4_of j 4) (by decide) rfl dX4_dustiest_48 (fun r48 τ48 h48 => ?_)
            obtain ⟨rfl, rfl⟩ := h48
            refine x_ialdS (j := 6 + 6 * j + 4) (by decide) (by decide) (by omega) dX4_dustiest_51 ?_
            refine x_top (show σ 36 (6 + 6 * j + 4) = r (6 + 6 * j + 4) from (congrFun h36 _)) ?_
            refine x_icmp_le dX4_dustiest_52 (fun c52 => ?_) (fun c52 => ?_)
            · have cg := Int32.not_lt.mpr c52
              refine x_iinc (v := nI (i + 1)) (lv' := [(2, .int (nI (i + 1))), (1, .int (nI j)), (0, mx_rf E 35)]) 0 dX4_dustiest_57 rfl (nI_1 _) (by decide) rfl ?_
              refine x_goto dX4_dustiest_60 ?_
              exact acc_eq (P := fun x => MX E _ _ _ _ _ _ [(2, .int (nI (i + 1))), (1, .int x), (0, mx_rf E 35)] _ _ _) (by rw [f_bestU_j c25 hb, if_neg cg]; rfl) (ih5 (i + 1) (by omega) (by omega))
            · have cg := Int32.not_le.mp c52
              refine x_iload_n 0 dX4_dustiest_55 rfl ?_
              refine x_istore_n (lv' := [(1, .int (nI i)), (2, .int (nI i)), (0, mx_rf E 35)]) dX4_dustiest_56 rfl (by decide) rfl ?_
              refine x_iinc (v := nI (i + 1)) (lv' := [(2, .int (nI (i + 1))), (1, .int (nI i)), (0, mx_rf E 35)]) 1 dX4_dustiest_57 rfl (nI_1 _) (by decide) rfl ?_
              refine x_goto dX4_dustiest_60 ?_
              exact acc_eq (P := fun x => MX E _ _ _ _ _ _ [(2, .int (nI (i + 1))), (1, .int x), (0, mx_rf E 35)] _ _ _) (by rw [f_bestU_j c25 hb, if_pos cg]; rfl) (ih5 (i + 1) (by omega) (by omega))
  exact key5 0 (Nat.zero_le _)

set_option maxHeartbeats 4000000 in
theorem qX4_spare {E : mx_E} {σ : Mem} {n : Nat} {r : Row} (h36 : σ 36 = r) (hw : wf n r) (what : Int32) : MX4_spare E 3 [mx_rf E 35, .int what] σ (mx_i (fun v τ => (p_spare n r what).1 = v ∧ Qm (p_spare n r what).2 σ τ)) := by
  refine MM.of (lv := [(0, mx_rf E 35), (1, .int what)]) kpX4 rfl (Nat.le_of_ble_eq_true rfl) rfl ?_
  have hn6 := hw.1
  refine x_iload_n 1 dX4_spare_0 rfl ?_
  by_cases c1_0 : what = 0
  · refine x_tableIn (off := 35) (tgt := 36) dX4_spare_1 (by rw [c1_0]; decide) (by rw [c1_0]; decide) (by rw [c1_0]; decide) (by decide) ?_
    refine x_aload_n 0 dX4_spare_36 rfl ?_
    refine clX4_165 (qX4_spareOnes h36 hw) (by decide) rfl dX4_spare_37 (fun r37 τ37 h37 => ?_)
    obtain ⟨rfl, rfl⟩ := h37
    exact x_iret dX4_spare_40 (by rw [show p_spare n r what = ((f_spareU r n : Int32), 0) from by simp [zbT, zbF, f_in002, f_in102, f_in001, f_in101, p_spare, c1_0]]; exact ⟨rfl, Qm.rf⟩)
  by_cases c1_1 : what = 1
  · refine x_tableIn (off := 40) (tgt := 41) dX4_spare_1 (by rw [c1_1]; decide) (by rw [c1_1]; decide) (by rw [c1_1]; decide) (by decide) ?_
    refine x_aload_n 0 dX4_spare_41 rfl ?_
    refine clX4_168 (qX4_fullest h36 hw) (by decide) rfl dX4_spare_42 (fun r42 τ42 h42 => ?_)
    obtain ⟨rfl, rfl⟩ := h42
    exact x_iret dX4_spare_45 (by rw [show p_spare n r what = ((f_o9 (f_bestU (f_crowdR r) (f_kept r) n) : Int32), 0) from by simp [zbT, zbF, f_in002, f_in102, f_in001, f_in101, p_spare, c1_1]]; exact ⟨rfl, Qm.rf⟩)
  by_cases c1_2 : what = 2
  · refine x_tableIn (off := 45) (tgt := 46) dX4_spare_1 (by rw [c1_2]; decide) (by rw [c1_2]; decide) (by rw [c1_2]; decide) (by decide) ?_
    refine x_aload_n 0 dX4_spare_46 rfl ?_
    refine clX4_171 (qX4_dustiest h36 hw) (by decide) rfl dX4_spare_47 (fun r47 τ47 h47 => ?_)
    obtain ⟨rfl, rfl⟩ := h47
    exact x_iret dX4_spare_50 (by rw [show p_spare n r what = ((f_o9 (f_bestU (fun x => r (6 + 6 * x + 4)) (f_kept r) n) : Int32), 0) from by simp [zbT, zbF, f_in002, f_in102, f_in001, f_in101, p_spare, c1_2]]; exact ⟨rfl, Qm.rf⟩)
  by_cases c1_3 : what = 3
  · refine x_tableIn (off := 50) (tgt := 51) dX4_spare_1 (by rw [c1_3]; decide) (by rw [c1_3]; decide) (by rw [c1_3]; decide) (by decide) ?_
    refine x_aload_n 0 dX4_spare_51 rfl ?_
    refine gfX4_9 dX4_spare_52 ?_
    refine clX4_155 (gX4_burnsIn (by decide) (by decide) h36 n hn6 hw.2.1) (by decide) rfl dX4_spare_55 (fun r55 τ55 h55 => ?_)
    obtain ⟨rfl, rfl⟩ := h55
    exact x_iret dX4_spare_58 (by rw [show p_spare n r what = ((f_burnsU r n : Int32), 0) from by simp [zbT, zbF, f_in002, f_in102, f_in001, f_in101, p_spare, c1_3]]; exact ⟨rfl, Qm.rf⟩)
  by_cases c1_4 : what = 4
  · refine x_tableIn (off := 58) (tgt := 59) dX4_spare_1 (by rw [c1_4]; decide) (by rw [c1_4]; decide) (by rw [c1_4]; decide) (by decide) ?_
    refine x_aload_n 0 dX4_spare_59 rfl ?_
    refine gfX4_9 dX4_spare_60 ?_
    refine clX4_155 (gX4_burnsIn (by decide) (by decide) h36 n hn6 hw.2.1) (by decide) rfl dX4_spare_63 (fun r63 τ63 h63 => ?_)
    obtain ⟨rfl, rfl⟩ := h63
    refine x_if_ne dX4_spare_66 (fun c66 => ?_) (fun c66 => ?_)
    · refine x_aload_n 0 dX4_spare_74 rfl ?_
      refine gfX4_9 dX4_spare_75 ?_
      refine x_iconst (v := 3) dX4_spare_78 (by decide) ?_
      refine x_ialdS (j := 3) (by decide) (by decide) (by decide) dX4_spare_79 ?_
      refine x_top (show σ 36 3 = r 3 from (congrFun h36 _)) ?_
      refine x_aload_n 0 dX4_spare_80 rfl ?_
      refine gfX4_9 dX4_spare_81 ?_
      refine clX4_155 (gX4_burnsIn (by decide) (by decide) h36 n hn6 hw.2.1) (by decide) rfl dX4_spare_84 (fun r84 τ84 h84 => ?_)
      obtain ⟨rfl, rfl⟩ := h84
      refine x_idiv dX4_spare_87 (c66) ?_
      exact x_iret dX4_spare_88 (by rw [show p_spare n r what = (((r 3) / (f_burnsU r n) : Int32), 0) from by simp [zbT, zbF, f_in002, f_in102, f_in001, f_in101, p_spare, c66, c1_4]]; exact ⟨rfl, Qm.rf⟩)
    · refine x_bipush (v := 99) dX4_spare_69 (by decide) ?_
      refine x_goto dX4_spare_71 ?_
      exact x_iret dX4_spare_88 (by rw [show p_spare n r what = ((99 : Int32), 0) from by simp [zbT, zbF, f_in002, f_in102, f_in001, f_in101, p_spare, c66, c1_4]]; exact ⟨rfl, Qm.rf⟩)
  have hsw1 : (what).toInt < 0 ∨ 4 < (what).toInt := by
    have q_c1_0 := lv_neT c1_0 (show (0 : Int32).toInt = 0 from rfl)
    have q_c1_1 := lv_neT c1_1 (show (1 : Int32).toInt = 1 from rfl)
    have q_c1_2 := lv_neT c1_2 (show (2 : Int32).toInt = 2 from rfl)
    have q_c1_3 := lv_neT c1_3 (show (3 : Int32).toInt = 3 from rfl)
    have q_c1_4 := lv_neT c1_4 (show (4 : Int32).toInt = 4 from rfl)
    omega
  refine x_tableOut (tgt := 89) dX4_spare_1 hsw1 (by decide) ?_
  refine x_aload_n 0 dX4_spare_89 rfl ?_
  refine x_bipush (v := -2) dX4_spare_90 (by decide) ?_
  refine clX4_36 (qX4_no 2 (by decide) (by decide)) (by decide) rfl dX4_spare_92 (fun r92 τ92 h92 => ?_)
  obtain ⟨rfl, rfl⟩ := h92
  exact x_iret dX4_spare_95 (by rw [show p_spare n r what = ((-2 : Int32), 2) from by simp [zbT, zbF, f_in002, f_in102, f_in001, f_in101, p_spare, c1_0, c1_1, c1_2, c1_3, c1_4]]; exact ⟨rfl, Qm.no⟩)

set_option maxHeartbeats 4000000 in
theorem qX4_next {E : mx_E} {σ : Mem} {n : Nat} {r : Row} (h36 : σ 36 = r) (hw : wf n r) (house : Int32) : MX4_next E 3 [mx_rf E 35, .int house] σ (mx_i (fun v τ => (p_next n r house).1 = v ∧ Qm (p_next n r house).2 σ τ)) := by
  refine MM.of (lv := [(0, mx_rf E 35), (1, .int house)]) kpX4 rfl (Nat.le_of_ble_eq_true rfl) rfl ?_
  have hn6 := hw.1
  refine x_aload_n 0 dX4_next_0 rfl ?_
  refine x_iload_n 1 dX4_next_1 rfl ?_
  refine clX4_111 (qX4_isHouse h36 hw house) (by decide) rfl dX4_next_2 (fun r2 τ2 h2 => ?_)
  obtain ⟨rfl, rfl⟩ := h2
  refine x_if_eq dX4_next_5 (fun c5 => ?_) (fun c5 => ?_)
  · replace c5 := zb_0 c5
    refine x_aload_n 0 dX4_next_19 rfl ?_
    refine x_iconst (v := -1) dX4_next_20 (by decide) ?_
    refine clX4_36 (qX4_no 1 (by decide) (by decide)) (by decide) rfl dX4_next_21 (fun r21 τ21 h21 => ?_)
    obtain ⟨rfl, rfl⟩ := h21
    exact x_iret dX4_next_24 (by rw [show p_next n r house = ((-1 : Int32), 1) from by simp only [p_next, c5, reduceIte, Bool.false_eq_true, Bool.true_eq_false, Bool.true_and, Bool.false_and, Bool.and_true, Bool.and_false, decide_eq_true_eq, decide_true, decide_false, not_true_eq_false, not_false_eq_true, zbT, zbF]]; exact ⟨rfl, Qm.no⟩)
  · replace c5 := zb_1 c5
    obtain ⟨h, hh, rfl⟩ := f_inN_t (by omega) c5
    refine x_aload_n 0 dX4_next_8 rfl ?_
    refine gfX4_9 dX4_next_9 ?_
    refine x_iload_n 1 dX4_next_12 rfl ?_
    refine clX4_73 (gX4_nextKept (by decide) (by decide) h36 n hn6 hw.2.1 h (by omega)) (by decide) rfl dX4_next_13 (fun r13 τ13 h13 => ?_)
    obtain ⟨rfl, rfl⟩ := h13
    refine x_goto dX4_next_16 ?_
    exact x_iret dX4_next_24 (by rw [show p_next n r (nI h) = ((f_next n r h : Int32), 0) from by simp only [p_next, c5, nI_clamp (show h < 2 ^ 31 by omega), reduceIte, Bool.false_eq_true, Bool.true_eq_false, Bool.true_and, Bool.false_and, Bool.and_true, Bool.and_false, decide_eq_true_eq, decide_true, decide_false, not_true_eq_false, not_false_eq_true, zbT, zbF]]; exact ⟨rfl, Qm.rf⟩)

def f_rnM (n K : Nat) : Nat → Nat × Nat
  | 0 => (0, 0)
  | k + 1 => ((if (if K.testBit (k % n) = true then 0 else (f_rnM n K k).2 + 1) > (f_rnM n K k).1 then (if K.testBit (k % n) = true then 0 else (f_rnM n K k).2 + 1) else (f_rnM n K k).1), (if K.testBit (k % n) = true then 0 else (f_rnM n K k).2 + 1))
theorem f_rn_eq : ∀ n : Fin 7, ∀ K : Fin 64, Nat.min (f_rnM n.val K.val (2 * n.val)).1 n.val = f_runC n.val K.val n.val := by decide +kernel
theorem f_rnM_le (n K : Nat) : ∀ k, (f_rnM n K k).1 ≤ k ∧ (f_rnM n K k).2 ≤ k
  | 0 => ⟨Nat.le_refl _, Nat.le_refl _⟩
  | k + 1 => by
    obtain ⟨a, b⟩ := f_rnM_le n K k
    unfold f_rnM
    dsimp only
    constructor
    · split <;> split <;> omega
    · split <;> omega
theorem f_leastN {a b : Nat} (ha : a < 2 ^ 31) (hb : b < 2 ^ 31) : f_least (nI a) (nI b) = nI (Nat.min a b) := by
  unfold f_least
  by_cases c : nI a < nI b
  · rw [if_pos c]
    have := (nI_ltI ha hb).mp c
    rw [show Nat.min a b = a from Nat.min_eq_left (by omega)]
  · rw [if_neg c]
    have : ¬ a < b := fun q => c ((nI_ltI ha hb).mpr q)
    rw [show Nat.min a b = b from Nat.min_eq_right (by omega)]
theorem f_rnM_1T {n K k : Nat} (c : K.testBit (k % n) = true) : (f_rnM n K (k + 1)).2 = 0 := by
  show (if K.testBit (k % n) = true then 0 else (f_rnM n K k).2 + 1) = 0
  rw [if_pos c]
theorem f_rnM_1F {n K k : Nat} (c : K.testBit (k % n) = false) : (f_rnM n K (k + 1)).2 = (f_rnM n K k).2 + 1 := by
  show (if K.testBit (k % n) = true then 0 else (f_rnM n K k).2 + 1) = _
  rw [if_neg (by rw [c]; decide)]
theorem f_rnM_2 {n K k : Nat} : (f_rnM n K (k + 1)).1 = if (f_rnM n K (k + 1)).2 > (f_rnM n K k).1 then (f_rnM n K (k + 1)).2 else (f_rnM n K k).1 := rfl

set_option maxHeartbeats 4000000 in
theorem qX4_lostRun {E : mx_E} {σ : Mem} {n : Nat} {r : Row} (h36 : σ 36 = r) (hw : wf n r) {K : Nat} (hK : K < 64) (e4 : r 4 = nI K) : MX4_lostRun E 1 [mx_rf E 35] σ (mx_ie (nI (f_runC n K n)) σ) := by
  refine MM.of (lv := [(0, mx_rf E 35)]) kpX4 rfl (Nat.le_of_ble_eq_true rfl) rfl ?_
  have hn6 := hw.1
  refine x_iconst (v := 0) dX4_lostRun_0 (by decide) ?_
  refine x_istore_n (lv' := [(1, .int 0), (0, mx_rf E 35)]) dX4_lostRun_1 rfl (by decide) rfl ?_
  refine x_iconst (v := 0) dX4_lostRun_2 (by decide) ?_
  refine x_istore_n (lv' := [(2, .int 0), (1, .int 0), (0, mx_rf E 35)]) dX4_lostRun_3 rfl (by decide) rfl ?_
  refine x_iconst (v := 0) dX4_lostRun_4 (by decide) ?_
  refine x_istore_n (lv' := [(3, .int 0), (2, .int 0), (1, .int 0), (0, mx_rf E 35)]) dX4_lostRun_5 rfl (by decide) rfl ?_
  have key6 : ∀ k, k ≤ 2 * n → MX E 1 RX4 cX4_lostRun 4 (some .int) 6 [(3, .int (nI k)), (2, .int (nI ((f_rnM n K k).2))), (1, .int (nI ((f_rnM n K k).1))), (0, mx_rf E 35)] [] σ (mx_ie (nI (f_runC n K n)) σ) := by
    refine mx_ind (2 * n) (fun k hi6 ih6 => ?_)
    refine x_iload_n 0 dX4_lostRun_6 rfl ?_
    refine x_iconst (v := 2) dX4_lostRun_7 (by decide) ?_
    refine x_aload_n 3 dX4_lostRun_8 rfl ?_
    refine gfX4_9 dX4_lostRun_9 ?_
    refine x_iconst (v := 0) dX4_lostRun_12 (by decide) ?_
    refine x_ialdS (j := 0) (by decide) (by decide) (by decide) dX4_lostRun_13 ?_
    refine x_top (show σ 36 0 = nI n from ((congrFun h36 0).trans hw.2.1)) ?_
    refine x_imul dX4_lostRun_14 ?_
    refine x_top (show 2 * (nI n) = nI (2 * n) from pk_mul 2 n) ?_
    refine x_icmp_ge dX4_lostRun_15 (fun c15 => ?_) (fun c15 => ?_)
    · have hge := nI_le_of (by omega) (by omega) c15
      have hkn : k = 2 * n := by omega
      have hle := f_rnM_le n K (2 * n)
      refine x_iload_n 2 dX4_lostRun_63 rfl ?_
      refine x_aload_n 3 dX4_lostRun_64 rfl ?_
      refine gfX4_9 dX4_lostRun_65 ?_
      refine x_iconst (v := 0) dX4_lostRun_68 (by decide) ?_
      refine x_ialdS (j := 0) (by decide) (by decide) (by decide) dX4_lostRun_69 ?_
      refine x_top (show σ 36 0 = nI n from ((congrFun h36 0).trans hw.2.1)) ?_
      refine clX4_66 (qX4_least (nI ((f_rnM n K k).1)) (nI n)) (by decide) rfl dX4_lostRun_70 (fun r70 τ70 h70 => ?_)
      obtain ⟨rfl, rfl⟩ := h70
      exact x_iret dX4_lostRun_73 ⟨by rw [hkn, f_leastN (by omega) (by omega), f_rn_eq ⟨n, by omega⟩ ⟨K, hK⟩], rfl⟩
    · have hlt := nI_lt_of (by omega) (by omega) c15
      have hle := f_rnM_le n K k
      have hle2 := f_rnM_le n K (k + 1)
      have hkt : f_has (r 4) (nI (k % n)) = K.testBit (k % n) := wf_kt (n := n) (r := r) hK e4 (Nat.lt_of_lt_of_le (Nat.mod_lt _ (by omega)) hn6)
      refine x_aload_n 3 dX4_lostRun_18 rfl ?_
      refine gfX4_9 dX4_lostRun_19 ?_
      refine x_iconst (v := 4) dX4_lostRun_22 (by decide) ?_
      refine x_ialdS (j := 4) (by decide) (by decide) (by decide) dX4_lostRun_23 ?_
      refine x_top (show σ 36 4 = r 4 from (congrFun h36 _)) ?_
      refine x_iload_n 0 dX4_lostRun_24 rfl ?_
      refine x_aload_n 3 dX4_lostRun_25 rfl ?_
      refine gfX4_9 dX4_lostRun_26 ?_
      refine x_iconst (v := 0) dX4_lostRun_29 (by decide) ?_
      refine x_ialdS (j := 0) (by decide) (by decide) (by decide) dX4_lostRun_30 ?_
      refine x_top (show σ 36 0 = nI n from ((congrFun h36 0).trans hw.2.1)) ?_
      refine x_irem dX4_lostRun_31 (nI_ne0 (by omega) (by omega)) ?_
      refine x_top (show (nI k) % (nI n) = nI (k % n) from mx_rem (by omega) (by omega) (by omega)) ?_
      refine clX4_48 (qX4_has (r 4) (nI (k % n))) (by decide) rfl dX4_lostRun_32 (fun r32 τ32 h32 => ?_)
      obtain ⟨rfl, rfl⟩ := h32
      refine x_if_eq dX4_lostRun_35 (fun c35 => ?_) (fun c35 => ?_)
      · replace c35 := zb_0 c35
        refine x_iload_n 1 dX4_lostRun_42 rfl ?_
        refine x_iconst (v := 1) dX4_lostRun_43 (by decide) ?_
        refine x_iadd dX4_lostRun_44 ?_
        refine x_top (show (nI ((f_rnM n K k).2)) + 1 = nI ((f_rnM n K k).2 + 1) from nI_add ((f_rnM n K k).2) 1) ?_
        refine x_istore_n (lv' := [(2, .int (nI ((f_rnM n K k).2 + 1))), (3, .int (nI k)), (1, .int (nI ((f_rnM n K k).1))), (0, mx_rf E 35)]) dX4_lostRun_45 rfl (by decide) rfl ?_
        have e2 := f_rnM_1F (n := n) (K := K) (k := k) (by rw [← hkt]; exact c35)
        refine acc_eq (P := fun x => MX E _ _ _ _ _ _ [(2, .int x), (3, .int (nI k)), (1, .int (nI ((f_rnM n K k).1))), (0, mx_rf E 35)] _ _ _) (show nI (f_rnM n K (k + 1)).2 = nI ((f_rnM n K k).2 + 1) from by rw [e2]) ?_
        refine x_iload_n 0 dX4_lostRun_46 rfl ?_
        refine x_iload_n 2 dX4_lostRun_47 rfl ?_
        refine x_icmp_le dX4_lostRun_48 (fun c48 => ?_) (fun c48 => ?_)
        · have hgt : ¬ (f_rnM n K (k + 1)).2 > (f_rnM n K k).1 := Nat.not_lt.mpr ((nI_leI (by omega) (by omega)).mp c48)
          refine x_iload_n 2 dX4_lostRun_55 rfl ?_
          refine x_istore_n (lv' := [(1, .int (nI ((f_rnM n K k).1))), (2, .int (nI ((f_rnM n K (k + 1)).2))), (3, .int (nI k)), (0, mx_rf E 35)]) dX4_lostRun_56 rfl (by decide) rfl ?_
          refine x_iinc (v := nI (k + 1)) (lv' := [(3, .int (nI (k + 1))), (1, .int (nI ((f_rnM n K k).1))), (2, .int (nI ((f_rnM n K (k + 1)).2))), (0, mx_rf E 35)]) 2 dX4_lostRun_57 rfl (nI_1 _) (by decide) rfl ?_
          refine x_goto dX4_lostRun_60 ?_
          refine x_lvs [0, 2, 1, 3] rfl ?_
          exact acc_eq (P := fun x => MX E _ _ _ _ _ _ [(3, .int (nI (k + 1))), (2, .int (nI (f_rnM n K (k + 1)).2)), (1, .int x), (0, mx_rf E 35)] _ _ _) (by rw [f_rnM_2]; simp only [hgt, reduceIte]) (ih6 (k + 1) (by omega) (by omega))
        · have hgt : (f_rnM n K (k + 1)).2 > (f_rnM n K k).1 := (nI_ltI (by omega) (by omega)).mp (Int32.not_le.mp c48)
          refine x_iload_n 0 dX4_lostRun_51 rfl ?_
          refine x_goto dX4_lostRun_52 ?_
          refine x_istore_n (lv' := [(1, .int (nI ((f_rnM n K (k + 1)).2))), (2, .int (nI ((f_rnM n K (k + 1)).2))), (3, .int (nI k)), (0, mx_rf E 35)]) dX4_lostRun_56 rfl (by decide) rfl ?_
          refine x_iinc (v := nI (k + 1)) (lv' := [(3, .int (nI (k + 1))), (1, .int (nI ((f_rnM n K (k + 1)).2))), (2, .int (nI ((f_rnM n K (k + 1)).2))), (0, mx_rf E 35)]) 2 dX4_lostRun_57 rfl (nI_1 _) (by decide) rfl ?_
          refine x_goto dX4_lostRun_60 ?_
          refine x_lvs [0, 2, 1, 3] rfl ?_
          exact acc_eq (P := fun x => MX E _ _ _ _ _ _ [(3, .int (nI (k + 1))), (2, .int (nI (f_rnM n K (k + 1)).2)), (1, .int x), (0, mx_rf E 35)] _ _ _) (by rw [f_rnM_2]; simp only [hgt, reduceIte]) (ih6 (k + 1) (by omega) (by omega))
      · replace c35 := zb_1 c35
        refine x_iconst (v := 0) dX4_lostRun_38 (by decide) ?_
        refine x_goto dX4_lostRun_39 ?_
        refine x_istore_n (lv' := [(2, .int 0), (3, .int (nI k)), (1, .int (nI ((f_rnM n K k).1))), (0, mx_rf E 35)]) dX4_lostRun_45 rfl (by decide) rfl ?_
        have e2 := f_rnM_1T (n := n) (K := K) (k := k) (by rw [← hkt]; exact c35)
        refine acc_eq (P := fun x => MX E _ _ _ _ _ _ [(2, .int x), (3, .int (nI k)), (1, .int (nI ((f_rnM n K k).1))), (0, mx_rf E 35)] _ _ _) (show nI (f_rnM n K (k + 1)).2 = 0 from by rw [e2]; rfl) ?_
        refine x_iload_n 0 dX4_lostRun_46 rfl ?_
        refine x_iload_n 2 dX4_lostRun_47 rfl ?_
        refine x_icmp_le dX4_lostRun_48 (fun c48 => ?_) (fun c48 => ?_)
        · have hgt : ¬ (f_rnM n K (k + 1)).2 > (f_rnM n K k).1 := Nat.not_lt.mpr ((nI_leI (by omega) (by omega)).mp c48)
          refine x_iload_n 2 dX4_lostRun_55 rfl ?_
          refine x_istore_n (lv' := [(1, .int (nI ((f_rnM n K k).1))), (2, .int (nI ((f_rnM n K (k + 1)).2))), (3, .int (nI k)), (0, mx_rf E 35)]) dX4_lostRun_56 rfl (by decide) rfl ?_
          refine x_iinc (v := nI (k + 1)) (lv' := [(3, .int (nI (k + 1))), (1, .int (nI ((f_rnM n K k).1))), (2, .int (nI ((f_rnM n K (k + 1)).2))), (0, mx_rf E 35)]) 2 dX4_lostRun_57 rfl (nI_1 _) (by decide) rfl ?_
          refine x_goto dX4_lostRun_60 ?_
          refine x_lvs [0, 2, 1, 3] rfl ?_
          exact acc_eq (P := fun x => MX E _ _ _ _ _ _ [(3, .int (nI (k + 1))), (2, .int (nI (f_rnM n K (k + 1)).2)), (1, .int x), (0, mx_rf E 35)] _ _ _) (by rw [f_rnM_2]; simp only [hgt, reduceIte]) (ih6 (k + 1) (by omega) (by omega))
        · have hgt : (f_rnM n K (k + 1)).2 > (f_rnM n K k).1 := (nI_ltI (by omega) (by omega)).mp (Int32.not_le.mp c48)
          refine x_iload_n 0 dX4_lostRun_51 rfl ?_
          refine x_goto dX4_lostRun_52 ?_
          refine x_istore_n (lv' := [(1, .int (nI ((f_rnM n K (k + 1)).2))), (2, .int (nI ((f_rnM n K (k + 1)).2))), (3, .int (nI k)), (0, mx_rf E 35)]) dX4_lostRun_56 rfl (by decide) rfl ?_
          refine x_iinc (v := nI (k + 1)) (lv' := [(3, .int (nI (k + 1))), (1, .int (nI ((f_rnM n K (k + 1)).2))), (2, .int (nI ((f_rnM n K (k + 1)).2))), (0, mx_rf E 35)]) 2 dX4_lostRun_57 rfl (nI_1 _) (by decide) rfl ?_
          refine x_goto dX4_lostRun_60 ?_
          refine x_lvs [0, 2, 1, 3] rfl ?_
          exact acc_eq (P := fun x => MX E _ _ _ _ _ _ [(3, .int (nI (k + 1))), (2, .int (nI (f_rnM n K (k + 1)).2)), (1, .int x), (0, mx_rf E 35)] _ _ _) (by rw [f_rnM_2]; simp only [hgt, reduceIte]) (ih6 (k + 1) (by omega) (by omega))
  exact key6 0 (Nat.zero_le _)

set_option maxHeartbeats 4000000 in
theorem qX4_run {E : mx_E} {σ : Mem} {n : Nat} {r : Row} (h36 : σ 36 = r) (hw : wf n r) (what : Int32) : MX4_run E 3 [mx_rf E 35, .int what] σ (mx_i (fun v τ => (p_run n r what).1 = v ∧ Qm (p_run n r what).2 σ τ)) := by
  refine MM.of (lv := [(0, mx_rf E 35), (1, .int what)]) kpX4 rfl (Nat.le_of_ble_eq_true rfl) rfl ?_
  have hn6 := hw.1
  obtain ⟨K, hK, -, e4⟩ := wf_K hw
  have eK : (r 4).toNatClampNeg = K := by rw [e4]; exact nI_clamp (by omega)
  refine x_iload_n 1 dX4_run_0 rfl ?_
  refine x_iconst (v := 0) dX4_run_1 (by decide) ?_
  refine x_iconst (v := 2) dX4_run_2 (by decide) ?_
  refine clX4_40 (qX4_isIn what 0 2) (by decide) rfl dX4_run_3 (fun r3 τ3 h3 => ?_)
  obtain ⟨rfl, rfl⟩ := h3
  refine x_if_ne dX4_run_6 (fun c6 => ?_) (fun c6 => ?_)
  · replace c6 := zb_1 c6
    obtain ⟨y, hy, rfl⟩ := f_in_t (hi := 2) (by decide) c6
    rcases (show y = 0 ∨ y = 1 ∨ y = 2 by omega) with rfl | rfl | rfl
    · refine x_iload_n 1 dX4_run_16 rfl ?_
      refine x_if_ne dX4_run_17 (fun c => absurd c (by decide)) (fun _ => ?_)
      refine x_aload_n 0 dX4_run_20 rfl ?_
      refine clX4_174 (qX4_lostRun h36 hw hK e4) (by decide) rfl dX4_run_21 (fun r21 τ21 h21 => ?_)
      obtain ⟨rfl, rfl⟩ := h21
      exact x_iret dX4_run_24 (by rw [show p_run n r (nI 0) = (nI (f_runC n K n), 0) from by simp [p_run, show nI 0 = 0 from rfl, eK]]; exact ⟨rfl, Qm.rf⟩)
    · refine x_iload_n 1 dX4_run_16 rfl ?_
      refine x_if_ne dX4_run_17 (fun _ => ?_) (fun c => absurd c (by decide))
      refine x_iconst (v := 0) dX4_run_25 (by decide) ?_
      refine x_istore_n (lv' := [(2, .int 0), (0, mx_rf E 35), (1, .int 1)]) dX4_run_26 rfl (by decide) rfl ?_
      refine x_iconst (v := 0) dX4_run_27 (by decide) ?_
      refine x_istore_n (lv' := [(3, .int 0), (2, .int 0), (0, mx_rf E 35), (1, .int 1)]) dX4_run_28 rfl (by decide) rfl ?_
      have key29 : ∀ i, i ≤ n → MX E 3 RX4 cX4_run 4 (some .int) 29 [(3, .int (nI i)), (2, .int (f_setU (f_noP r) i)), (0, mx_rf E 35), (1, .int 1)] [] σ (mx_i (fun v τ => (p_run n r (nI 1)).1 = v ∧ Qm (p_run n r (nI 1)).2 σ τ)) := by
        refine mx_ind n (fun i hi29 ih29 => ?_)
        refine x_iload_n 0 dX4_run_29 rfl ?_
        refine x_aload_n 2 dX4_run_30 rfl ?_
        refine gfX4_9 dX4_run_31 ?_
        refine x_iconst (v := 0) dX4_run_34 (by decide) ?_
        refine x_ialdS (j := 0) (by decide) (by decide) (by decide) dX4_run_35 ?_
        refine x_top (show σ 36 0 = nI n from ((congrFun h36 0).trans hw.2.1)) ?_
        refine x_icmp_ge dX4_run_36 (fun c36 => ?_) (fun c36 => ?_)
        · have hge := nI_le_of (by omega) (by omega) c36
          have hin : i = n := by omega
          refine x_iload_n 1 dX4_run_87 rfl ?_
          exact x_iret dX4_run_88 (by rw [show p_run n r (nI 1) = (f_setU (f_noP r) i, 0) from by simp [p_run, show nI 1 = 1 from rfl, eK, hin]]; exact ⟨rfl, Qm.rf⟩)
        · have hlt := nI_lt_of (by omega) (by omega) c36
          refine x_iload_n 1 dX4_run_39 rfl ?_
          refine x_iload_n 3 dX4_run_40 rfl ?_
          refine x_iconst (v := 1) dX4_run_41 (by decide) ?_
          refine x_icmp_ne dX4_run_42 (fun c => absurd c (by decide)) (fun _ => ?_)
          refine x_aload_n 2 dX4_run_45 rfl ?_
          refine gfX4_9 dX4_run_46 ?_
          refine x_iload_n 0 dX4_run_49 rfl ?_
          refine x_iconst (v := 3) dX4_run_50 (by decide) ?_
          refine clX4_44 (qX4_of i 3) (by decide) rfl dX4_run_51 (fun r51 τ51 h51 => ?_)
          obtain ⟨rfl, rfl⟩ := h51
          refine x_ialdS (j := 6 + 6 * i + 3) (by decide) (by decide) (by omega) dX4_run_54 ?_
          refine x_top (show σ 36 (6 + 6 * i + 3) = r (6 + 6 * i + 3) from (congrFun h36 _)) ?_
          refine x_if_ne dX4_run_55 (fun c55 => ?_) (fun c55 => ?_)
          · refine x_iconst (v := 0) dX4_run_78 (by decide) ?_
            refine x_ior dX4_run_79 ?_
            refine x_top (show (f_setU (f_noP r) i) ||| 0 = f_setU (f_noP r) (i + 1) from (by rw [f_setU_f (p := f_noP r) (decide_eq_false c55), Int32.or_zero])) ?_
            refine x_istore_n (lv' := [(2, .int (f_setU (f_noP r) (i + 1))), (3, .int (nI i)), (0, mx_rf E 35), (1, .int 1)]) dX4_run_80 rfl (by decide) rfl ?_
            refine x_iinc (v := nI (i + 1)) (lv' := [(3, .int (nI (i + 1))), (2, .int (f_setU (f_noP r) (i + 1))), (0, mx_rf E 35), (1, .int 1)]) 1 dX4_run_81 rfl (nI_1 _) (by decide) rfl ?_
            refine x_goto dX4_run_84 ?_
            exact ih29 (i + 1) (by omega) (by omega)
          · refine x_goto dX4_run_58 ?_
            refine x_iconst (v := 1) dX4_run_72 (by decide) ?_
            refine x_iload_n 0 dX4_run_73 rfl ?_
            refine x_ishl dX4_run_74 ?_
            refine x_goto dX4_run_75 ?_
            refine x_ior dX4_run_79 ?_
            refine x_top (show (f_setU (f_noP r) i) ||| (1 <<< ((nI i) &&& 31)) = f_setU (f_noP r) (i + 1) from (f_setU_t (p := f_noP r) (decide_eq_true c55)).symm) ?_
            refine x_istore_n (lv' := [(2, .int (f_setU (f_noP r) (i + 1))), (3, .int (nI i)), (0, mx_rf E 35), (1, .int 1)]) dX4_run_80 rfl (by decide) rfl ?_
            refine x_iinc (v := nI (i + 1)) (lv' := [(3, .int (nI (i + 1))), (2, .int (f_setU (f_noP r) (i + 1))), (0, mx_rf E 35), (1, .int 1)]) 1 dX4_run_81 rfl (nI_1 _) (by decide) rfl ?_
            refine x_goto dX4_run_84 ?_
            exact ih29 (i + 1) (by omega) (by omega)
      exact key29 0 (Nat.zero_le _)
    · refine x_iload_n 1 dX4_run_16 rfl ?_
      refine x_if_ne dX4_run_17 (fun _ => ?_) (fun c => absurd c (by decide))
      refine x_iconst (v := 0) dX4_run_25 (by decide) ?_
      refine x_istore_n (lv' := [(2, .int 0), (0, mx_rf E 35), (1, .int 2)]) dX4_run_26 rfl (by decide) rfl ?_
      refine x_iconst (v := 0) dX4_run_27 (by decide) ?_
      refine x_istore_n (lv' := [(3, .int 0), (2, .int 0), (0, mx_rf E 35), (1, .int 2)]) dX4_run_28 rfl (by decide) rfl ?_
      have key29 : ∀ i, i ≤ n → MX E 3 RX4 cX4_run 4 (some .int) 29 [(3, .int (nI i)), (2, .int (f_setU (f_isF r) i)), (0, mx_rf E 35), (1, .int 2)] [] σ (mx_i (fun v τ => (p_run n r (nI 2)).1 = v ∧ Qm (p_run n r (nI 2)).2 σ τ)) := by
        refine mx_ind n (fun i hi29 ih29 => ?_)
        refine x_iload_n 0 dX4_run_29 rfl ?_
        refine x_aload_n 2 dX4_run_30 rfl ?_
        refine gfX4_9 dX4_run_31 ?_
        refine x_iconst (v := 0) dX4_run_34 (by decide) ?_
        refine x_ialdS (j := 0) (by decide) (by decide) (by decide) dX4_run_35 ?_
        refine x_top (show σ 36 0 = nI n from ((congrFun h36 0).trans hw.2.1)) ?_
        refine x_icmp_ge dX4_run_36 (fun c36 => ?_) (fun c36 => ?_)
        · have hge := nI_le_of (by omega) (by omega) c36
          have hin : i = n := by omega
          refine x_iload_n 1 dX4_run_87 rfl ?_
          exact x_iret dX4_run_88 (by rw [show p_run n r (nI 2) = (f_setU (f_isF r) i, 0) from by simp [p_run, show nI 2 = 2 from rfl, eK, hin]]; exact ⟨rfl, Qm.rf⟩)
        · have hlt := nI_lt_of (by omega) (by omega) c36
          refine x_iload_n 1 dX4_run_39 rfl ?_
          refine x_iload_n 3 dX4_run_40 rfl ?_
          refine x_iconst (v := 1) dX4_run_41 (by decide) ?_
          refine x_icmp_ne dX4_run_42 (fun _ => ?_) (fun c => absurd c (by decide))
          refine x_aload_n 2 dX4_run_61 rfl ?_
          refine gfX4_9 dX4_run_62 ?_
          refine x_iload_n 0 dX4_run_65 rfl ?_
          refine clX4_69 (gX4_isFound (by decide) (by decide) h36 i (by omega)) (by decide) rfl dX4_run_66 (fun r66 τ66 h66 => ?_)
          obtain ⟨rfl, rfl⟩ := h66
          refine x_if_eq dX4_run_69 (fun c69 => ?_) (fun c69 => ?_)
          · replace c69 := zb_0 c69
            refine x_iconst (v := 0) dX4_run_78 (by decide) ?_
            refine x_ior dX4_run_79 ?_
            refine x_top (show (f_setU (f_isF r) i) ||| 0 = f_setU (f_isF r) (i + 1) from (by rw [f_setU_f (p := f_isF r) c69, Int32.or_zero])) ?_
            refine x_istore_n (lv' := [(2, .int (f_setU (f_isF r) (i + 1))), (3, .int (nI i)), (0, mx_rf E 35), (1, .int 2)]) dX4_run_80 rfl (by decide) rfl ?_
            refine x_iinc (v := nI (i + 1)) (lv' := [(3, .int (nI (i + 1))), (2, .int (f_setU (f_isF r) (i + 1))), (0, mx_rf E 35), (1, .int 2)]) 1 dX4_run_81 rfl (nI_1 _) (by decide) rfl ?_
            refine x_goto dX4_run_84 ?_
            exact ih29 (i + 1) (by omega) (by omega)
          · replace c69 := zb_1 c69
            refine x_iconst (v := 1) dX4_run_72 (by decide) ?_
            refine x_iload_n 0 dX4_run_73 rfl ?_
            refine x_ishl dX4_run_74 ?_
            refine x_goto dX4_run_75 ?_
            refine x_ior dX4_run_79 ?_
            refine x_top (show (f_setU (f_isF r) i) ||| (1 <<< ((nI i) &&& 31)) = f_setU (f_isF r) (i + 1) from (f_setU_t (p := f_isF r) c69).symm) ?_
            refine x_istore_n (lv' := [(2, .int (f_setU (f_isF r) (i + 1))), (3, .int (nI i)), (0, mx_rf E 35), (1, .int 2)]) dX4_run_80 rfl (by decide) rfl ?_
            refine x_iinc (v := nI (i + 1)) (lv' := [(3, .int (nI (i + 1))), (2, .int (f_setU (f_isF r) (i + 1))), (0, mx_rf E 35), (1, .int 2)]) 1 dX4_run_81 rfl (nI_1 _) (by decide) rfl ?_
            refine x_goto dX4_run_84 ?_
            exact ih29 (i + 1) (by omega) (by omega)
      exact key29 0 (Nat.zero_le _)
  · replace c6 := zb_0 c6
    refine x_aload_n 0 dX4_run_9 rfl ?_
    refine x_bipush (v := -2) dX4_run_10 (by decide) ?_
    refine clX4_36 (qX4_no 2 (by decide) (by decide)) (by decide) rfl dX4_run_12 (fun r12 τ12 h12 => ?_)
    obtain ⟨rfl, rfl⟩ := h12
    exact x_iret dX4_run_15 (by rw [show p_run n r what = ((-2 : Int32), 2) from by simp [p_run, (f_run_bad c6).1, (f_run_bad c6).2.1, (f_run_bad c6).2.2]]; exact ⟨rfl, Qm.no⟩)
