/-! ===== what IS, by what was told; lots; how many ===== -/
theorem wf_fig {n h : Nat} {r : Row} {k : Nat} (hw : wf n r) (hk : k ≤ 9) : wf n (upd r (6 + 6 * h + 1) (nI k)) := by
  obtain ⟨a, b, c, d, e, f⟩ := hw
  refine ⟨a, by rw [upd_o (by omega)]; exact b, by rw [upd_o (by omega)]; exact c, by rw [upd_o (by omega)]; exact d, by rw [upd_o (by omega)]; exact e, fun y hy => ?_⟩
  obtain ⟨k1, f1, q1⟩ := f y hy
  refine ⟨by rw [upd_o (by omega)]; exact k1, ?_, by rw [upd_o (by omega)]; exact q1⟩
  by_cases c : y = h
  · subst c; exact ⟨k, hk, upd_s⟩
  · rw [upd_o (by omega)]; exact f1
def f_asT (n : Nat) (q R : Row) (h : Nat) : Nat → Bool
  | 0 => true
  | k + 1 => f_asT n q R h k && decide (f_weeks n q k (6 + 6 * h + 4) = R k)
theorem f_asT_T {n h k : Nat} {q R : Row} (a : f_asT n q R h k = true) (b : f_weeks n q k (6 + 6 * h + 4) = R k) : f_asT n q R h (k + 1) = true := by
  show (f_asT n q R h k && _) = true
  rw [a, decide_eq_true b]; rfl
theorem f_asT_F {n h k : Nat} {q R : Row} (b : ¬ f_weeks n q k (6 + 6 * h + 4) = R k) : ∀ m, k < m → f_asT n q R h m = false
  | 0, h0 => absurd h0 (by omega)
  | m + 1, hm => by
    show (f_asT n q R h m && _) = false
    by_cases c : k = m
    · subst c; rw [decide_eq_false b, Bool.and_false]
    · rw [f_asT_F b m (by omega), Bool.false_and]
theorem f_asT_s {n h k : Nat} {q R : Row} : f_asT n q R h (k + 1) = (f_asT n q R h k && decide (f_weeks n q k (6 + 6 * h + 4) = R k)) := rfl
def f_cd (r : Row) (h w y : Nat) : Row := if w = 0 then upd r (6 + 6 * h) (nI y) else upd r (6 + 6 * h + 1) (nI y)
theorem wf_cd0 {n h y : Nat} {r : Row} (hw : wf n r) (hy : y < 6) : wf n (f_cd r h 0 y) := wf_kind hw hy
theorem wf_cd1 {n h y : Nat} {r : Row} (hw : wf n r) (hy : y < 10) : wf n (f_cd r h 1 y) := wf_fig hw (by omega)
def f_wi (n m : Nat) (r R : Row) (h w : Nat) : Nat → Int32
  | 0 => 0
  | y + 1 => f_wi n m r R h w y ||| (if f_asT n (f_cd r h w y) R h m = true then 1 <<< (nI y &&& 31) else 0)
theorem f_wi_T {n m h w y : Nat} {r R : Row} (c : f_asT n (f_cd r h w y) R h m = true) : f_wi n m r R h w y ||| (1 <<< (nI y &&& 31)) = f_wi n m r R h w (y + 1) := by
  show _ = f_wi n m r R h w y ||| _
  rw [if_pos c]
theorem f_wi_F {n m h w y : Nat} {r R : Row} (c : f_asT n (f_cd r h w y) R h m = false) : f_wi n m r R h w y = f_wi n m r R h w (y + 1) := by
  show _ = f_wi n m r R h w y ||| _
  rw [if_neg (by rw [c]; decide), Int32.or_zero]
theorem f_wi_F2 {n m h w y : Nat} {r R : Row} (c : f_asT n (f_cd r h w y) R h m = false) : f_wi n m r R h w y ||| 0 = f_wi n m r R h w (y + 1) := by
  rw [Int32.or_zero]; exact f_wi_F c
def p_whatIs (n : Nat) (r : Row) (m : Nat) (R : Row) (house what : Int32) : Int32 × Nat :=
  if f_inN house n = true then (if f_in what 0 1 = true then (f_wi n m r R house.toNatClampNeg what.toNatClampNeg (if what = 0 then 6 else 10), 0) else (-2, 2)) else (-1, 1)
/-! lots -/
def f_lcg (s : Int32) : Int32 := s * 1664525 + 1013904223
def f_drw (s : Int32) : Int32 := (s &&& 2147483647) / 256 % 31
theorem f_drw_N (s : Int32) : ∃ p, p ≤ 30 ∧ f_drw s = nI p := by
  have h1 : ¬ (s &&& 2147483647) < 0 := by
    rw [fa_lt]
    have e0 : (0 : Int32).toInt = 0 := by decide
    rw [e0]
    have h2 : (s &&& 2147483647).toBitVec = s.toBitVec &&& 2147483647#32 := rfl
    have h3 : (s &&& 2147483647).toInt = (s.toBitVec &&& 2147483647#32).toInt := rfl
    rw [h3]
    have h4 : (s.toBitVec &&& 2147483647#32).msb = false := by
      rw [BitVec.msb_and]
      have : (2147483647#32 : BitVec 32).msb = false := by decide
      rw [this, Bool.and_false]
    have h5 := BitVec.toInt_eq_msb_cond (s.toBitVec &&& 2147483647#32)
    rw [h4] at h5
    simp only [Bool.false_eq_true, reduceIte] at h5
    omega
  obtain ⟨j, hj, e⟩ := nI_of h1
  unfold f_drw
  rw [e, show (256 : Int32) = nI 256 from rfl, pk_div hj (by decide) (by decide), show (31 : Int32) = nI 31 from rfl, mx_rem (by omega) (by decide) (by decide)]
  exact ⟨j / 256 % 31, by omega, rfl⟩
def f_sd (s : Int32) : Nat → Int32
  | 0 => s
  | i + 1 => f_lcg (f_sd s i)
def f_dpR (q : Row) (s : Int32) : Nat → Row
  | 0 => q
  | i + 1 => upd (upd (f_dpR q s i) (6 + 6 * i + 3) (f_drw (f_sd s (i + 1)))) (6 + 6 * i + 5) 0
theorem wf_dpR {n : Nat} {q : Row} {s : Int32} (hw : wf n q) : ∀ i, i ≤ n → wf n (f_dpR q s i)
  | 0, _ => hw
  | i + 1, h => by
    obtain ⟨p, hp, e⟩ := f_drw_N (f_sd s (i + 1))
    show wf n (upd (upd (f_dpR q s i) (6 + 6 * i + 3) (f_drw (f_sd s (i + 1)))) (6 + 6 * i + 5) 0)
    rw [e]
    exact wf_dent (wf_ppl (wf_dpR hw i (by omega)) (by omega) hp)
def f_ys (n : Nat) (s : Int32) : Nat → Int32
  | 0 => s
  | y + 1 => f_sd (f_ys n s y) n
def f_yr (n : Nat) (r : Row) (s : Int32) (y : Nat) : Row := f_weeks n (f_dpR r (f_ys n s y) n) 12
def f_lk (n : Nat) (r : Row) (s : Int32) : Nat → Int32
  | 0 => 0
  | y + 1 => f_lk n r s y + f_bits (f_yr n r s y 4)
def f_lp (n : Nat) (r : Row) (s : Int32) : Nat → Int32
  | 0 => 0
  | y + 1 => f_lp n r s y + f_pplU (f_yr n r s y) n
def p_lots (n : Nat) (r : Row) (years seed what : Int32) : Int32 × Nat :=
  if years < 1 then (-4, 4) else if 20 < years then (-6, 6) else if f_in what 0 1 = true then (if what = 0 then f_lk n r seed years.toNatClampNeg else f_lp n r seed years.toNatClampNeg, 0) else (-2, 2)
theorem mx_sd {σ : Mem} {ρ : Row} {s s2 : Int32} : mx_up (mx_row (mx_up σ 35 12 s) 37 ρ) 35 12 s2 = mx_row (mx_up σ 35 12 s2) 37 ρ := by
  funext a
  unfold mx_up mx_row
  by_cases c : a = 35
  · subst c
    simp only [reduceIte, show ¬ (35 = 37) by decide]
    funext j
    unfold upd
    split <;> rfl
  · simp only [c, reduceIte]
theorem f_in_ab {v : Int32} {a b : Nat} (ha : a < 2 ^ 31) (hb : b < 2 ^ 31) (h1 : ¬ v < nI a) (h2 : ¬ nI b < v) : ∃ j, a ≤ j ∧ j ≤ b ∧ v = nI j := by
  obtain ⟨j, h3, h4, e⟩ := f_lo h1 ha
  subst e
  exact ⟨j, h3, Nat.le_of_not_lt (fun q => h2 (nI_lt q h4)), rfl⟩
theorem f_11 {v : Int32} (h : 10 < v) : ¬ v < nI 11 := by
  intro q
  rw [fa_lt] at h q
  rw [nI_toInt (by decide)] at q
  have : (10 : Int32).toInt = 10 := by decide
  omega
theorem f_11b {v : Int32} (h : ¬ 10 < v) : f_in v 11 16 = false := by
  unfold f_in
  rw [decide_eq_false, Bool.false_and]
  intro q
  apply h
  rw [fa_le] at q
  rw [fa_lt]
  have : (10 : Int32).toInt = 10 := by decide
  have : (11 : Int32).toInt = 11 := by decide
  omega
theorem f_16b {v : Int32} (h : ¬ v ≤ 16) : f_in v 11 16 = false := by
  unfold f_in
  rw [decide_eq_false h, Bool.and_false]
theorem f_1116 {j : Nat} (h : 11 ≤ j) (h2 : j ≤ 16) : f_in (nI j) 11 16 = true := by
  unfold f_in
  have h3 : (11 : Int32) ≤ nI j := nI_le (a := 11) h (by omega)
  have h4 : nI j ≤ (16 : Int32) := nI_le (b := 16) h2 (by decide)
  rw [decide_eq_true h3, decide_eq_true h4]
  rfl
def f_ref (f : Row) (what : Int32) : Int32 := if f_in what 11 16 = true then f (what - 10).toNatClampNeg else -9
theorem f_ref_t {f : Row} {j : Nat} (h : 11 ≤ j) (h2 : j ≤ 16) : f_ref f (nI j) = f (j - 10) := by
  unfold f_ref
  rw [if_pos (f_1116 h h2), show (10 : Int32) = nI 10 from rfl, pk_sub (by omega), nI_clamp (by omega)]
theorem f_ref_f {f : Row} {v : Int32} (h : f_in v 11 16 = false) : f_ref f v = -9 := by
  unfold f_ref
  rw [if_neg (by rw [h]; decide)]
def p_count (n : Nat) (r : Row) (rm lm : Nat) (f : Row) (what : Int32) : Int32 :=
  if what = 0 then nI n else if what = 1 then r 1 else if what = 2 then r 4 else if what = 3 then f_pplU r n else if what = 4 then r 3 else if what = 5 then r 2 else if what = 6 then nI rm else if what = 7 then nI lm else f_ref f what
theorem zb_and1 (b : Bool) : zb b &&& 1 = zb b := by cases b <;> decide
theorem zb_and0 (b : Bool) : zb b &&& 0 = zb false := by cases b <;> decide
theorem Qm.sdrow {σ : Mem} {s : Int32} {q : Row} (h : Qm 0 σ σ) : Qm 0 σ (mx_row (mx_up σ 35 12 s) 37 q) := by
  refine Qm.row ⟨fun k h1 _ _ _ _ => mx_up_o h1, fun j hj => ?_, fun j _ h2 => ?_⟩ (Or.inl rfl)
  · rw [mx_up_s, upd_o (by omega)]
  · rw [if_neg (by omega), mx_up_o (by decide)]
theorem f_in_abT {v : Int32} (h : f_in v 11 16 = true) : ∃ j, 11 ≤ j ∧ j ≤ 16 ∧ v = nI j := by
  unfold f_in at h
  rw [Bool.and_eq_true, decide_eq_true_eq, decide_eq_true_eq] at h
  exact f_in_ab (a := 11) (b := 16) (by decide) (by decide) (Int32.not_lt.mpr h.1) (Int32.not_lt.mpr h.2)
theorem p_count_j {n : Nat} {r : Row} {m lm j : Nat} {f : Row} (h : 11 ≤ j) (h2 : j ≤ 16) : p_count n r m lm f (nI j) = f (j - 10) := by
  have e : ∀ k : Nat, k < 8 → ¬ nI j = nI k := fun k hk q => by
    have := (nI_eq (by omega) (by omega)).mp q
    omega
  unfold p_count
  rw [if_neg (show ¬ nI j = 0 from e 0 (by decide)), if_neg (show ¬ nI j = 1 from e 1 (by decide)), if_neg (show ¬ nI j = 2 from e 2 (by decide)), if_neg (show ¬ nI j = 3 from e 3 (by decide)), if_neg (show ¬ nI j = 4 from e 4 (by decide)), if_neg (show ¬ nI j = 5 from e 5 (by decide)), if_neg (show ¬ nI j = 6 from e 6 (by decide)), if_neg (show ¬ nI j = 7 from e 7 (by decide)), f_ref_t h h2]
