/-! ===== A TOWN OF THE CLASS OVER A ROW ===== -/
abbrev mx_re (E : mx_E) (k : Nat) (σ : Mem) : Option Value → Mem → Prop := mx_r E (fun r τ => k = r ∧ σ = τ)
def HQ (q r : Row) (h : Nat) : Prop := (∀ j, j < 6 → q j = r (6 + 6 * h + j)) ∧ q 6 = zb (f_kept r h) ∧ q 7 = zb (f_lets r h)
def TI (σ : Mem) (t n : Nat) (r : Row) : Prop := σ t 2 = nI n ∧ σ t 3 = r 2 ∧ σ t 4 = r 3 ∧ σ t 5 = r 1 ∧ ∀ i, i < n → HQ (σ (4 + 6 * t + i)) r i
def NW (σ : Mem) : Prop := ∀ t, 1 ≤ t → t < 4 → ∀ j, j < 8 → σ (t + 6) j = if j = 2 then 1 else 0
def inT (t k : Nat) : Prop := k = t ∨ (4 + 6 * t ≤ k ∧ k < 10 + 6 * t)
def Off (t : Nat) (σ τ : Mem) : Prop := ∀ k, ¬ inT t k → τ k = σ k
theorem Off.rf {t : Nat} {σ : Mem} : Off t σ σ := fun _ _ => rfl
theorem Off.tr {t : Nat} {σ τ υ : Mem} (h : Off t σ τ) (h2 : Off t τ υ) : Off t σ υ := fun k hk => (h2 k hk).trans (h k hk)
theorem Off.up {t k j : Nat} {σ τ : Mem} {v : Int32} (h : Off t σ τ) (hk : inT t k) : Off t σ (mx_up τ k j v) := fun a ha => (mx_up_o (σ := τ) (k := k) (a := a) (fun e => ha (by rw [e]; exact hk))).trans (h a ha)
theorem Off.row {t k : Nat} {σ τ : Mem} {q : Row} (h : Off t σ τ) (hk : inT t k) : Off t σ (mx_row τ k q) := fun a ha => (mx_row_o (σ := τ) (k := k) (a := a) (fun e => ha (by rw [e]; exact hk))).trans (h a ha)
theorem inT_t {t : Nat} : inT t t := Or.inl rfl
theorem inT_h {t i : Nat} (h : i < 6) : inT t (4 + 6 * t + i) := Or.inr ⟨by omega, by omega⟩
theorem NW.off {t : Nat} {σ τ : Mem} (h : NW σ) (h1 : 1 ≤ t) (h2 : t < 4) (ho : Off t σ τ) : NW τ := fun u a b j hj => by
  rw [ho (u + 6) (fun q => by rcases q with q | q <;> omega)]
  exact h u a b j hj
theorem HQ.to {q r s : Row} {h : Nat} (hq : HQ q r h) (h1 : ∀ j, j < 6 → s (6 + 6 * h + j) = r (6 + 6 * h + j)) (h2 : f_kept s h = f_kept r h) (h3 : f_lets s h = f_lets r h) : HQ q s h :=
  ⟨fun j hj => by rw [h1 j hj]; exact hq.1 j hj, by rw [h2]; exact hq.2.1, by rw [h3]; exact hq.2.2⟩
theorem f_kept_c {r s : Row} {h : Nat} (e : s 4 = r 4) : f_kept s h = f_kept r h := by unfold f_kept; rw [e]
theorem f_lets_c {r s : Row} {h : Nat} (e : s 5 = r 5) : f_lets s h = f_lets r h := by unfold f_lets; rw [e]
theorem upd_o {f : Row} {i j : Nat} {v : Int32} (h : j ≠ i) : upd f i v j = f j := by unfold upd; rw [if_neg h]
theorem upd_s {f : Row} {i : Nat} {v : Int32} : upd f i v i = v := by unfold upd; rw [if_pos rfl]
/-- a number of the town's own is put -/
theorem TI.own {σ : Mem} {t n : Nat} {r s : Row} (h : TI σ t n r) (ht : 1 ≤ t) (j : Nat) (v : Int32)
    (h2 : (if 2 = j then v else σ t 2) = nI n) (h3 : (if 3 = j then v else σ t 3) = s 2) (h4 : (if 4 = j then v else σ t 4) = s 3) (h5 : (if 5 = j then v else σ t 5) = s 1)
    (hs : ∀ i, 4 ≤ i → s i = r i) : TI (mx_up σ t j v) t n s := by
  refine ⟨?_, ?_, ?_, ?_, fun i hi => ?_⟩
  · rw [mx_up_s]; exact h2
  · rw [mx_up_s]; exact h3
  · rw [mx_up_s]; exact h4
  · rw [mx_up_s]; exact h5
  · rw [mx_up_o (by omega)]
    exact (h.2.2.2.2 i hi).to (fun j _ => hs _ (by omega)) (f_kept_c (hs 4 (by omega))) (f_lets_c (hs 5 (by omega)))
theorem TI.week {σ : Mem} {t n : Nat} {r : Row} (h : TI σ t n r) (ht : 1 ≤ t) (v : Int32) : TI (mx_up σ t 5 v) t n (upd r 1 v) :=
  h.own ht 5 v (by rw [if_neg (by decide)]; exact h.1) (by rw [if_neg (by decide)]; exact h.2.1) (by rw [if_neg (by decide)]; exact h.2.2.1) (by rw [if_pos rfl]; rfl) (fun i hi => upd_o (by omega))
theorem TI.cand {σ : Mem} {t n : Nat} {r : Row} (h : TI σ t n r) (ht : 1 ≤ t) (v : Int32) : TI (mx_up σ t 4 v) t n (upd r 3 v) :=
  h.own ht 4 v (by rw [if_neg (by decide)]; exact h.1) (by rw [if_neg (by decide)]; exact h.2.1) (by rw [if_pos rfl]; rfl) (by rw [if_neg (by decide)]; exact h.2.2.2.1) (fun i hi => upd_o (by omega))
theorem TI.insp {σ : Mem} {t n : Nat} {r : Row} (h : TI σ t n r) (ht : 1 ≤ t) (v : Int32) : TI (mx_up σ t 3 v) t n (upd r 2 v) :=
  h.own ht 3 v (by rw [if_neg (by decide)]; exact h.1) (by rw [if_pos rfl]; rfl) (by rw [if_neg (by decide)]; exact h.2.2.1) (by rw [if_neg (by decide)]; exact h.2.2.2.1) (fun i hi => upd_o (by omega))
/-- one HOUSE becomes another: the row's other HOUSES as they were -/
theorem TI.house {σ : Mem} {t n i : Nat} {r s : Row} {q : Row} (h : TI σ t n r) (ht : 1 ≤ t) (hi : i < n) (hq : HQ q s i) (h1 : s 1 = r 1) (h2 : s 2 = r 2) (h3 : s 3 = r 3)
    (ho : ∀ x, x < n → x ≠ i → (∀ j, j < 6 → s (6 + 6 * x + j) = r (6 + 6 * x + j)) ∧ f_kept s x = f_kept r x ∧ f_lets s x = f_lets r x) : TI (mx_row σ (4 + 6 * t + i) q) t n s := by
  refine ⟨?_, ?_, ?_, ?_, fun x hx => ?_⟩
  · rw [mx_row_o (by omega)]; exact h.1
  · rw [mx_row_o (by omega), h2]; exact h.2.1
  · rw [mx_row_o (by omega), h3]; exact h.2.2.1
  · rw [mx_row_o (by omega), h1]; exact h.2.2.2.1
  · by_cases e : x = i
    · subst e; rw [mx_row_s]; exact hq
    · rw [mx_row_o (by omega)]
      obtain ⟨a, b, c⟩ := ho x hx e
      exact (h.2.2.2.2 x hx).to a b c
theorem HQ.j {q r : Row} {h : Nat} (hq : HQ q r h) (j : Nat) (hj : j < 6) : q j = r (6 + 6 * h + j) := hq.1 j hj
/-- a WEEK of one HOUSE: what it burns -/
theorem h_spR_eq {q r : Row} {h : Nat} (hq : HQ q r h) : h_spR q (r 3) = if f_lit r h = true then f_burns (r (6 + 6 * h)) else 0 := by
  have e0 : q 0 = r (6 + 6 * h) := hq.1 0 (by decide)
  unfold h_spR h_lit f_lit
  rw [e0]
theorem f_ages2_o {r : Row} {h i : Nat} (h3 : i ≠ 3) (h4 : i ≠ 6 + 6 * h + 4) : f_ages2 r h i = r i := by
  unfold f_ages2 f_ages1
  rw [upd_o h4, upd_o h3]
theorem h_sp1_eq {q r : Row} {h : Nat} (hq : HQ q r h) : HQ (h_sp1 q (r 1) (r 3)) (f_ages2 r h) h := by
  have e0 : q 0 = r (6 + 6 * h) := hq.1 0 (by decide)
  have e1 : q 1 = r (6 + 6 * h + 1) := hq.1 1 (by decide)
  have e4 : q 4 = r (6 + 6 * h + 4) := hq.1 4 (by decide)
  refine ⟨fun j hj => ?_, ?_, ?_⟩
  · unfold h_sp1 f_ages2
    by_cases c : j = 4
    · subst c
      rw [upd_s, upd_s, show f_ages1 r h (6 + 6 * h + 4) = r (6 + 6 * h + 4) from upd_o (by omega), e4]
      unfold h_lit f_lit f_duM
      rw [e0, e1]
    · rw [upd_o c, upd_o (by omega), show f_ages1 r h (6 + 6 * h + j) = r (6 + 6 * h + j) from upd_o (by omega)]
      exact hq.1 j hj
  · unfold h_sp1
    rw [upd_o (by decide), hq.2.1]
    exact congrArg zb (f_kept_c (f_ages2_o (by omega) (by omega))).symm
  · unfold h_sp1
    rw [upd_o (by decide), hq.2.2]
    exact congrArg zb (f_lets_c (f_ages2_o (by omega) (by omega))).symm
theorem f_crowd_hq {q r : Row} {h : Nat} (hq : HQ q r h) : f_crowd (q 2) (q 3) (f_lets r h) = f_crowdR r h := by
  unfold f_crowdR
  rw [hq.1 2 (by decide), hq.1 3 (by decide)]
theorem h_isF_eq {q r : Row} {h : Nat} (hq : HQ q r h) : h_isF q (f_kept r h) (f_lets r h) = f_isF r h := by
  unfold h_isF f_isF
  rw [f_crowd_hq hq, show q 0 = r (6 + 6 * h) from hq.1 0 (by decide), hq.1 1 (by decide)]
theorem h_sp_eq {q r : Row} {h : Nat} (hq : HQ q r h) : HQ (h_sp q (r 1) (r 3) (f_kept r h) (f_lets r h)) (f_ages r h) h := by
  have h1 := h_sp1_eq hq
  have ek : f_kept (f_ages2 r h) h = f_kept r h := f_kept_c (f_ages2_o (by omega) (by omega))
  have el : f_lets (f_ages2 r h) h = f_lets r h := f_lets_c (f_ages2_o (by omega) (by omega))
  have e2 := h_isF_eq h1
  rw [ek, el] at e2
  unfold h_sp f_ages
  rw [e2]
  split
  · refine ⟨fun j hj => ?_, ?_, ?_⟩
    · by_cases c : j = 5
      · subst c
        rw [upd_s, upd_s, h1.1 5 (by decide)]
      · rw [upd_o c, upd_o (by omega)]
        exact h1.1 j hj
    · rw [upd_o (by decide), h1.2.1]
      exact congrArg zb (f_kept_c (upd_o (by omega))).symm
    · rw [upd_o (by decide), h1.2.2]
      exact congrArg zb (f_lets_c (upd_o (by omega))).symm
  · exact h1
theorem f_ages_3 {r : Row} {h : Nat} : f_ages r h 3 = r 3 - (if f_lit r h = true then f_burns (r (6 + 6 * h)) else 0) := by
  unfold f_ages
  split
  · rw [upd_o (by omega)]; unfold f_ages2; rw [upd_o (by omega)]; rfl
  · unfold f_ages2; rw [upd_o (by omega)]; rfl
theorem TI.ages {σ : Mem} {t n i : Nat} {r : Row} (h : TI σ t n r) (ht : 1 ≤ t) (hi : i < n) : TI (mx_up (mx_row σ (4 + 6 * t + i) (h_sp (σ (4 + 6 * t + i)) (r 1) (r 3) (f_kept r i) (f_lets r i))) t 4 (r 3 - h_spR (σ (4 + 6 * t + i)) (r 3))) t n (f_ages r i) := by
  have hq := h.2.2.2.2 i hi
  have h1 : TI (mx_row σ (4 + 6 * t + i) (h_sp (σ (4 + 6 * t + i)) (r 1) (r 3) (f_kept r i) (f_lets r i))) t n (upd (f_ages r i) 3 (r 3)) := by
    refine h.house ht hi ((h_sp_eq hq).to (fun j _ => upd_o (by omega)) rfl rfl) ?_ ?_ ?_ (fun x hx hne => ⟨fun j hj => ?_, ?_, ?_⟩)
    · rw [upd_o (by decide)]; exact f_ages_o (by decide) (by omega) (by omega)
    · rw [upd_o (by decide)]; exact f_ages_o (by decide) (by omega) (by omega)
    · rw [upd_s]
    · rw [upd_o (by omega)]; exact f_ages_o (by omega) (by omega) (by omega)
    · exact f_kept_c (by rw [upd_o (by decide)]; exact f_ages_o (by decide) (by omega) (by omega))
    · exact f_lets_c (by rw [upd_o (by decide)]; exact f_ages_o (by decide) (by omega) (by omega))
  have h2 := h1.cand ht (r 3 - h_spR (σ (4 + 6 * t + i)) (r 3))
  rw [h_spR_eq hq] at h2 ⊢
  have e : upd (upd (f_ages r i) 3 (r 3)) 3 (r 3 - (if f_lit r i = true then f_burns (r (6 + 6 * i)) else 0)) = f_ages r i := by
    funext x
    by_cases c : x = 3
    · subst c; rw [upd_s, f_ages_3]
    · rw [upd_o c, upd_o c]
  rw [e] at h2
  exact h2
theorem wf_hk {n : Nat} {r : Row} (hw : wf n r) {i : Nat} (hi : i < n) {q : Row} (hq : HQ q r i) : (∃ x, x < 6 ∧ q 0 = nI x) ∧ (∃ f, f ≤ 9 ∧ q 1 = nI f) := by
  obtain ⟨a, b, -⟩ := hw.2.2.2.2.2 i hi
  rw [show q 0 = r (6 + 6 * i) from hq.1 0 (by decide), hq.1 1 (by decide)]
  exact ⟨a, b⟩
/-- KEPT bits -/
theorem wf_K {n : Nat} {r : Row} (hw : wf n r) : ∃ K, K < 64 ∧ K < 2 ^ n ∧ r 4 = nI K := by
  obtain ⟨a, -, -, ⟨K, hK, d⟩, -⟩ := hw
  exact ⟨K, Nat.lt_of_lt_of_le hK (Nat.pow_le_pow_right (n := 2) (by decide) a), hK, d⟩
theorem f_clear_k : ∀ K : Fin 64, ∀ h x : Fin 6, f_has (f_clear (nI K.val) h.val) (nI x.val) = (decide (x.val ≠ h.val) && f_has (nI K.val) (nI x.val)) := by decide +kernel
theorem f_loses1_k {n : Nat} {r : Row} (hw : wf n r) {h x : Nat} (hh : h < n) (hx : x < n) : f_kept (f_loses1 r h) x = (decide (x ≠ h) && f_kept r x) := by
  obtain ⟨K, hK, -, e⟩ := wf_K hw
  have hn := hw.1
  show f_has (f_clear (r 4) h) (nI x) = (_ && f_has (r 4) (nI x))
  rw [e]
  exact f_clear_k ⟨K, hK⟩ ⟨h, by omega⟩ ⟨x, by omega⟩
theorem f_nextG_c {n : Nat} {s u : Int32} {h : Nat} (hn : 0 < n) (hc : ∀ x, x < n → x ≠ h % n → f_has s (nI x) = f_has u (nI x)) : ∀ d k, 0 < k → d + k ≤ n → f_nextG n s h d k = f_nextG n u h d k
  | 0, _, _, _ => rfl
  | d + 1, k, hk, hd => by
    unfold f_nextG
    have hne : (h + k) % n ≠ h % n := fun e => by
      have h1 := Nat.mod_add_div (h + k) n
      have h2 := Nat.mod_add_div h n
      rw [e] at h1
      have h3 : n * ((h + k) / n) = n * (h / n) + k := by omega
      have h4 : n ∣ k := ⟨(h + k) / n - h / n, by rw [Nat.mul_sub]; omega⟩
      have := Nat.le_of_dvd hk h4
      omega
    rw [hc _ (Nat.mod_lt _ hn) hne, f_nextG_c hn hc d (k + 1) (by omega) (by omega)]
theorem f_next_l {n : Nat} {r : Row} (hw : wf n r) {h : Nat} (hh : h < n) : f_next n (f_loses1 r h) h = f_next n r h := by
  unfold f_next
  refine f_nextG_c (by omega) (fun x hx hne => ?_) _ _ (by omega) (by omega)
  rw [Nat.mod_eq_of_lt hh] at hne
  have e := f_loses1_k hw hh hx
  rw [decide_eq_true hne, Bool.true_and] at e
  exact e
theorem HQ.fld {q r : Row} {h j : Nat} {v : Int32} (hq : HQ q r h) (hj : j < 6) : HQ (upd q j v) (upd r (6 + 6 * h + j) v) h := by
  refine ⟨fun x hx => ?_, ?_, ?_⟩
  · by_cases c : x = j
    · subst c; rw [upd_s, upd_s]
    · rw [upd_o c, upd_o (by omega)]; exact hq.1 x hx
  · rw [upd_o (by omega), hq.2.1]; exact congrArg zb (f_kept_c (upd_o (by omega))).symm
  · rw [upd_o (by omega), hq.2.2]; exact congrArg zb (f_lets_c (upd_o (by omega))).symm
theorem TI.fld {σ : Mem} {t n i j : Nat} {r : Row} {v : Int32} (h : TI σ t n r) (ht : 1 ≤ t) (hi : i < n) (hj : j < 6) : TI (mx_up σ (4 + 6 * t + i) j v) t n (upd r (6 + 6 * i + j) v) := by
  rw [mx_up_row]
  refine h.house ht hi ((h.2.2.2.2 i hi).fld hj) (upd_o (by omega)) (upd_o (by omega)) (upd_o (by omega)) (fun x hx hne => ⟨fun y hy => upd_o (by omega), f_kept_c (upd_o (by omega)), f_lets_c (upd_o (by omega))⟩)
theorem f_loses1_o {r : Row} {h i : Nat} (hi : i ≠ 4) : f_loses1 r h i = r i := upd_o hi
theorem TI.unkeep {σ : Mem} {t n i : Nat} {r : Row} (h : TI σ t n r) (hw : wf n r) (ht : 1 ≤ t) (hi : i < n) : TI (mx_up σ (4 + 6 * t + i) 6 0) t n (f_loses1 r i) := by
  have hq := h.2.2.2.2 i hi
  rw [mx_up_row]
  refine h.house ht hi ⟨fun x hx => ?_, ?_, ?_⟩ (f_loses1_o (by omega)) (f_loses1_o (by omega)) (f_loses1_o (by omega)) (fun x hx hne => ⟨fun y hy => f_loses1_o (by omega), ?_, f_lets_c (f_loses1_o (by omega))⟩)
  · rw [upd_o (by omega), f_loses1_o (by omega)]; exact hq.1 x hx
  · rw [upd_s, f_loses1_k hw hi hi]; simp [zb]
  · rw [upd_o (by omega), hq.2.2]; exact congrArg zb (f_lets_c (f_loses1_o (by omega))).symm
  · rw [f_loses1_k hw hi hx, decide_eq_true hne, Bool.true_and]
theorem f_loses_N {n : Nat} {r : Row} (hw : wf n r) {i : Nat} (hi : i < n) (hx : f_next n r i = -9) : f_loses n r i = f_loses1 (upd r (6 + 6 * i + 3) 0) i := by
  unfold f_loses
  rw [f_next_l hw hi, hx, if_neg (by decide)]
  funext x
  by_cases c : x = 6 + 6 * i + 3
  · subst c; rw [upd_s, f_loses1_o (by omega), upd_s]
  · rw [upd_o c]
    by_cases c2 : x = 4
    · subst c2; unfold f_loses1; rw [upd_s, upd_s, upd_o (by omega)]
    · rw [f_loses1_o c2, f_loses1_o c2, upd_o c]
theorem f_loses_J {n : Nat} {r : Row} (hw : wf n r) {i j : Nat} (hi : i < n) (hj : j < n) (hx : f_next n r i = nI j) : f_loses n r i = f_loses1 (upd (upd r (6 + 6 * j + 3) (f_least 30 (r (6 + 6 * j + 3) + r (6 + 6 * i + 3)))) (6 + 6 * i + 3) 0) i := by
  have hn := hw.1
  unfold f_loses
  rw [f_next_l hw hi, hx, if_pos (nI_pos' (by omega)), nI_clamp (by omega)]
  funext x
  by_cases c : x = 6 + 6 * i + 3
  · subst c; rw [upd_s, f_loses1_o (by omega), upd_s]
  · rw [upd_o c]
    by_cases c2 : x = 4
    · subst c2; rw [upd_o (by omega)]; unfold f_loses1; rw [upd_s, upd_s, upd_o (by omega), upd_o (by omega)]
    · rw [f_loses1_o c2, upd_o c, f_loses1_o (i := 6 + 6 * j + 3) (by omega), f_loses1_o (i := 6 + 6 * i + 3) (by omega)]
      by_cases c3 : x = 6 + 6 * j + 3
      · subst c3; rw [upd_s, upd_s]
      · rw [upd_o c3, upd_o c3, f_loses1_o c2]
def f_inN (i : Int32) (n : Nat) : Bool := decide (0 ≤ i) && decide (i < nI n)
theorem f_insp_0 {n : Nat} {r : Row} (hz : n = 0) : f_insp n r = r := by unfold f_insp; rw [if_pos hz]
theorem f_insp_p {n : Nat} {r : Row} (hz : 0 < n) : f_insp n r = upd (if f_kept r (f_at r) = true then (if 10 ≤ r (6 + 6 * f_at r + 4) ∨ 3 ≤ r (6 + 6 * f_at r + 5) then f_loses n r (f_at r) else upd r (6 + 6 * f_at r + 4) 0) else r) 2 (nI ((f_at r + 1) % n)) := by unfold f_insp; rw [if_neg (by omega)]
