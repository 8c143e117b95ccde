/-! ===== THE DOCUMENT'S TOWN AS A ROW of 42 numbers: 0 how many HOUSES, 1 WEEK, 2 where THE INSPECTOR is, 3 CANDLES, 4 KEPT (bits), 5 who lets (bits), 6 + 6 h + what of HOUSE h ===== -/
-- pasted from kit/laws/NUMBERS.to-paste (orders as whole numbers)
/-! plain facts on numbers and arrays, to paste: each family by itself; over the kit's rows on nI and upd -/
/-! ===== order of ints, in all its forms, and through longs ===== -/
theorem fa_lt (a b : Int32) : a < b ↔ a.toInt < b.toInt := Int32.lt_iff_toInt_lt
theorem fa_le (a b : Int32) : a ≤ b ↔ a.toInt ≤ b.toInt := Int32.le_iff_toInt_le
theorem fa_eq (a b : Int32) : a = b ↔ a.toInt = b.toInt := Int32.toInt_inj.symm
theorem fa_lt64 (a b : Int64) : a < b ↔ a.toInt < b.toInt := Int64.lt_iff_toInt_lt
theorem fa_le64 (a b : Int64) : a ≤ b ↔ a.toInt ≤ b.toInt := Int64.le_iff_toInt_le
theorem fa_eq64 (a b : Int64) : a = b ↔ a.toInt = b.toInt := Int64.toInt_inj.symm
/-- a comparison of two ints taken as longs -/
theorem fa_wide_lt (a b : Int32) : a.toInt64 < b.toInt64 ↔ a < b := by rw [fa_lt64, fa_lt, Int32.toInt_toInt64, Int32.toInt_toInt64]
theorem fa_wide_le (a b : Int32) : a.toInt64 ≤ b.toInt64 ↔ a ≤ b := by rw [fa_le64, fa_le, Int32.toInt_toInt64, Int32.toInt_toInt64]
theorem fa_wide_eq (a b : Int32) : a.toInt64 = b.toInt64 ↔ a = b := by rw [fa_eq64, fa_eq, Int32.toInt_toInt64, Int32.toInt_toInt64]
/-- one strict comparison gives all the others -/
theorem fa_of_lt {a b : Int32} (h : a < b) : a ≤ b ∧ ¬ b ≤ a ∧ ¬ b < a ∧ a ≠ b ∧ b ≠ a := by
  rw [fa_lt] at h
  refine ⟨?_, ?_, ?_, ?_, ?_⟩
  · rw [fa_le]; omega
  · rw [fa_le]; omega
  · rw [fa_lt]; omega
  · intro e; rw [fa_eq] at e; omega
  · intro e; rw [fa_eq] at e; omega
theorem fa_of_nlt {a b : Int32} (h : ¬ a < b) : b ≤ a := by
  rw [fa_lt] at h
  rw [fa_le]
  omega
theorem fa_of_nle {a b : Int32} (h : ¬ a ≤ b) : b < a := by
  rw [fa_le] at h
  rw [fa_lt]
  omega
theorem fa_le_ne {a b : Int32} (h : a ≤ b) (h2 : a ≠ b) : a < b := by
  rw [fa_le] at h
  rw [fa_lt]
  have h3 : a.toInt ≠ b.toInt := fun e => h2 ((fa_eq a b).mpr e)
  omega
theorem fa_three (a b : Int32) : a < b ∨ a = b ∨ b < a := by
  rw [fa_lt, fa_lt, fa_eq]
  omega
theorem fa_trans {a b c : Int32} (h : a < b) (h2 : b ≤ c) : a < c := by
  rw [fa_lt] at *
  rw [fa_le] at h2
  omega

-- end of what was pasted
abbrev Row : Type := Nat → Int32
def f_has (s k : Int32) : Bool := decide ((s >>> (k &&& 31)) &&& 1 = 1)
def f_in (v a b : Int32) : Bool := decide (a ≤ v) && decide (v ≤ b)
def f_least (a b : Int32) : Int32 := if a < b then a else b
def f_bitsU (s : Int32) : Nat → Int32
  | 0 => 0
  | k + 1 => f_bitsU s k + ((s >>> (nI k &&& 31)) &&& 1)
def f_bits (s : Int32) : Int32 := f_bitsU s 6
def f_dust (kind f week : Int32) : Int32 := if kind = 1 then 2 else if kind = 2 then 3 else if kind = 3 then 3 else if kind = 4 then (if week % (f + 2) = 0 then 0 else 2) else if kind = 5 then 0 else 1
def f_burns (kind : Int32) : Int32 := if kind = 1 then 0 else if kind = 2 then 2 else if kind = 3 then 3 else 1
def f_found (kind f : Int32) : Int32 := if kind = 1 then f / 2 + 3 - 1 else if kind = 2 then f / 2 + 3 + 2 else if kind = 3 then 2 * (f / 2 + 3 + 2) else if kind = 4 then 99 else if kind = 5 then f / 2 + 3 - 1 else f / 2 + 3
def f_by (rooms : Int32) (lets : Bool) : Int32 := if 1 ≤ rooms - (if lets = true then 0 else 1) then rooms - (if lets = true then 0 else 1) else 1
def f_crowd (rooms people : Int32) (lets : Bool) : Int32 := (people + f_by rooms lets - 1) / f_by rooms lets
theorem f_by_ne (rooms : Int32) (lets : Bool) : ¬ f_by rooms lets = 0 := by
  unfold f_by
  by_cases h : 1 ≤ rooms - (if lets = true then 0 else 1)
  · rw [if_pos h]
    intro q
    rw [q] at h
    exact absurd h (by decide)
  · rw [if_neg h]; decide
theorem mx_of (h w : Nat) : nI (6 + 6 * h + w) = 6 + 6 * nI h + nI w := by
  rw [show (6 : Int32) = nI 6 from rfl, pk_mul, nI_add, nI_add]
theorem mx_ge1 {x : Int32} (h : 1 ≤ x) : ¬ x = 0 := by
  intro q
  rw [q] at h
  exact absurd h (by decide)
/-- the row is a town of n HOUSES, as the document has them -/
def wf (n : Nat) (r : Row) : Prop := n ≤ 6 ∧ r 0 = nI n ∧ (∃ a, r 2 = nI a ∧ (n = 0 → a = 0) ∧ (0 < n → a < n)) ∧ (∃ K, K < 2 ^ n ∧ r 4 = nI K) ∧ (∃ L, L < 64 ∧ r 5 = nI L) ∧ ∀ h, h < n → (∃ k, k < 6 ∧ r (6 + 6 * h) = nI k) ∧ (∃ f, f ≤ 9 ∧ r (6 + 6 * h + 1) = nI f) ∧ (∃ q, q ≤ 30 ∧ r (6 + 6 * h + 3) = nI q)
def f_lets (r : Row) (h : Nat) : Bool := f_has (r 5) (nI h)
def f_kept (r : Row) (h : Nat) : Bool := f_has (r 4) (nI h)
def f_crowdR (r : Row) (h : Nat) : Int32 := f_crowd (r (6 + 6 * h + 2)) (r (6 + 6 * h + 3)) (f_lets r h)
def f_isF (r : Row) (h : Nat) : Bool := f_kept r h && decide (f_found (r (6 + 6 * h)) (r (6 + 6 * h + 1)) ≤ f_crowdR r h)
def f_nextG (n : Nat) (s : Int32) (h : Nat) : Nat → Nat → Int32
  | 0, _ => -9
  | d + 1, k => if f_has s (nI ((h + k) % n)) = true then nI ((h + k) % n) else f_nextG n s h d (k + 1)
def f_next (n : Nat) (r : Row) (h : Nat) : Int32 := f_nextG n (r 4) h (n - 1) 1
def f_lit (r : Row) (h : Nat) : Bool := decide (f_burns (r (6 + 6 * h)) ≤ r 3)
def f_ages1 (r : Row) (h : Nat) : Row := upd r 3 (r 3 - (if f_lit r h = true then f_burns (r (6 + 6 * h)) else 0))
def f_duM (r : Row) (h : Nat) : Int32 := f_dust (r (6 + 6 * h)) (r (6 + 6 * h + 1)) (r 1)
def f_ages2 (r : Row) (h : Nat) : Row := upd (f_ages1 r h) (6 + 6 * h + 4) (f_least 20 (f_ages1 r h (6 + 6 * h + 4) + (if f_lit r h = true then f_duM r h else 2 * f_duM r h + 1)))
def f_ages (r : Row) (h : Nat) : Row := if f_isF (f_ages2 r h) h = true then upd (f_ages2 r h) (6 + 6 * h + 5) (f_least 9 (f_ages2 r h (6 + 6 * h + 5) + 1)) else f_ages2 r h
def f_clear (s : Int32) (h : Nat) : Int32 := s &&& ((1 <<< (nI h &&& 31)) ^^^ (-1))
def f_loses1 (r : Row) (h : Nat) : Row := upd r 4 (f_clear (r 4) h)
/-- where the PEOPLE of one that is LOST go: none, or to a HOUSE -/
def f_loses (n : Nat) (r : Row) (h : Nat) : Row :=
  upd (if 0 ≤ f_next n (f_loses1 r h) h then upd (f_loses1 r h) (6 + 6 * (f_next n (f_loses1 r h) h).toNatClampNeg + 3) (f_least 30 (f_loses1 r h (6 + 6 * (f_next n (f_loses1 r h) h).toNatClampNeg + 3) + f_loses1 r h (6 + 6 * h + 3))) else f_loses1 r h) (6 + 6 * h + 3) 0
def f_ageU (r : Row) : Nat → Row
  | 0 => r
  | h + 1 => if f_kept (f_ageU r h) h = true then f_ages (f_ageU r h) h else f_ageU r h
def f_at (r : Row) : Nat := (r 2).toNatClampNeg
def f_insp (n : Nat) (r : Row) : Row :=
  if n = 0 then r else upd (if f_kept r (f_at r) = true then (if 10 ≤ r (6 + 6 * f_at r + 4) ∨ 3 ≤ r (6 + 6 * f_at r + 5) then f_loses n r (f_at r) else upd r (6 + 6 * f_at r + 4) 0) else r) 2 (nI ((f_at r + 1) % n))
def f_week (n : Nat) (r : Row) : Row := f_insp n (f_ageU (upd r 1 (r 1 + 1)) n)
def f_weeks (n : Nat) (r : Row) : Nat → Row
  | 0 => r
  | k + 1 => f_week n (f_weeks n r k)
def f_burnsU (r : Row) : Nat → Int32
  | 0 => 0
  | h + 1 => f_burnsU r h + (if f_kept r h = true then f_burns (r (6 + 6 * h)) else 0)
def f_pplU (r : Row) : Nat → Int32
  | 0 => 0
  | h + 1 => f_pplU r h + r (6 + 6 * h + 3)
theorem mx_rem {a d : Nat} (ha : a < 2 ^ 31) (h0 : 0 < d) (hd : d < 2 ^ 31) : nI a % nI d = nI (a % d) := by
  rw [← irem_eq_mod]
  exact pk_rem ha h0 hd
theorem f_nextT {n h k : Nat} {s x : Int32} (hk : k + 1 < n) (hg : f_nextG n s h (n - 1 - k) (k + 1) = x) (c : f_has s (nI ((h + (k + 1)) % n)) = true) : x = nI ((h + (k + 1)) % n) := by
  rw [show n - 1 - k = (n - 1 - (k + 1)) + 1 by omega] at hg
  rw [← hg]
  unfold f_nextG
  rw [if_pos c]
theorem f_nextF {n h k : Nat} {s x : Int32} (hk : k + 1 < n) (hg : f_nextG n s h (n - 1 - k) (k + 1) = x) (c : f_has s (nI ((h + (k + 1)) % n)) = false) : f_nextG n s h (n - 1 - (k + 1)) (k + 1 + 1) = x := by
  rw [show n - 1 - k = (n - 1 - (k + 1)) + 1 by omega] at hg
  rw [← hg]
  conv => rhs; unfold f_nextG
  rw [c]
  simp only [Bool.false_eq_true, reduceIte]
theorem f_nextE {n h k : Nat} {s x : Int32} (hk : n ≤ k + 1) (hg : f_nextG n s h (n - 1 - k) (k + 1) = x) : x = -9 := by
  rw [show n - 1 - k = 0 by omega] at hg
  exact hg.symm
theorem f_nextG_in (n : Nat) (s : Int32) (h : Nat) (h0 : 0 < n) : ∀ d k, f_nextG n s h d k = -9 ∨ ∃ j, j < n ∧ f_nextG n s h d k = nI j
  | 0, _ => Or.inl rfl
  | d + 1, k => by
    unfold f_nextG
    by_cases c : f_has s (nI ((h + k) % n)) = true
    · rw [if_pos c]; exact Or.inr ⟨_, Nat.mod_lt _ h0, rfl⟩
    · rw [if_neg c]; exact f_nextG_in n s h h0 d (k + 1)
theorem f_next_in {n : Nat} {r : Row} {h : Nat} (h0 : h < n) : f_next n r h = -9 ∨ ∃ j, j < n ∧ f_next n r h = nI j := f_nextG_in n (r 4) h (by omega) _ _
theorem f_ages_o {r : Row} {h i : Nat} (h3 : i ≠ 3) (h4 : i ≠ 6 + 6 * h + 4) (h5 : i ≠ 6 + 6 * h + 5) : f_ages r h i = r i := by
  unfold f_ages
  split <;> simp [f_ages2, f_ages1, upd, h3, h4, h5]
theorem f_ageU_o {r : Row} {i : Nat} (h3 : i ≠ 3) (h4 : ∀ h, i ≠ 6 + 6 * h + 4) (h5 : ∀ h, i ≠ 6 + 6 * h + 5) : ∀ k, f_ageU r k i = r i
  | 0 => rfl
  | k + 1 => by
    unfold f_ageU
    split
    · rw [f_ages_o h3 (h4 k) (h5 k)]; exact f_ageU_o h3 h4 h5 k
    · exact f_ageU_o h3 h4 h5 k
theorem wf_of {n : Nat} {r q : Row} (h : wf n r) (h0 : q 0 = r 0) (h2 : q 2 = r 2) (h4 : q 4 = r 4) (h5 : q 5 = r 5) (hh : ∀ h, h < n → q (6 + 6 * h) = r (6 + 6 * h) ∧ q (6 + 6 * h + 1) = r (6 + 6 * h + 1) ∧ q (6 + 6 * h + 3) = r (6 + 6 * h + 3)) : wf n q := by
  obtain ⟨a, b, c, d, e, f⟩ := h
  refine ⟨a, by rw [h0]; exact b, by rw [h2]; exact c, by rw [h4]; exact d, by rw [h5]; exact e, fun x hx => ?_⟩
  obtain ⟨e1, e2, e3⟩ := hh x hx
  rw [e1, e2, e3]
  exact f x hx
theorem wf_ageU {n : Nat} {r : Row} (h : wf n r) (k : Nat) : wf n (f_ageU r k) := by
  refine wf_of h (f_ageU_o (by omega) (by omega) (by omega) k) (f_ageU_o (by omega) (by omega) (by omega) k) (f_ageU_o (by omega) (by omega) (by omega) k) (f_ageU_o (by omega) (by omega) (by omega) k) (fun x hx => ⟨f_ageU_o (by omega) (by omega) (by omega) k, f_ageU_o (by omega) (by omega) (by omega) k, f_ageU_o (by omega) (by omega) (by omega) k⟩)
theorem wf_f {n : Nat} {r : Row} (h : wf n r) {x : Nat} (hx : x < n) : ¬ r (6 + 6 * x + 1) + 2 = 0 := by
  obtain ⟨-, -, -, -, -, f⟩ := h
  obtain ⟨-, ⟨y, hy, e⟩, -⟩ := f x hx
  rw [e, show (2 : Int32) = nI 2 from rfl, nI_add]
  exact nI_ne0 (by omega) (by omega)
theorem wf_at {n : Nat} {r : Row} (h : wf n r) : r 2 = nI (f_at r) ∧ (n = 0 → f_at r = 0) ∧ (0 < n → f_at r < n) := by
  obtain ⟨hn, -, ⟨a, e, h1, h2⟩, -⟩ := h
  have ha : a < 2 ^ 31 := by
    rcases Nat.eq_zero_or_pos n with q | q
    · have := h1 q; omega
    · have := h2 q; omega
  have e2 : f_at r = a := by unfold f_at; rw [e, nI_clamp ha]
  rw [e2]
  exact ⟨e, h1, h2⟩
theorem wf_week1 {n : Nat} {r : Row} (h : wf n r) (v : Int32) : wf n (upd r 1 v) := wf_of h rfl rfl rfl rfl (fun x _ => by
  refine ⟨?_, ?_, ?_⟩ <;> (show (if _ = 1 then _ else _) = _; rw [if_neg (by omega)]))
theorem f_loses_o {n : Nat} {r : Row} {h i : Nat} (h4 : i ≠ 4) (h3 : ∀ x, i ≠ 6 + 6 * x + 3) : f_loses n r h i = r i := by
  unfold f_loses
  split <;> simp [f_loses1, upd, h4, h3]
theorem f_keptB : ∀ K : Fin 64, ∀ h : Fin 6, f_has (nI K.val) (nI h.val) = K.val.testBit h.val := by decide +kernel
theorem f_clearB : ∀ K : Fin 64, ∀ h : Fin 6, f_clear (nI K.val) h.val = nI (K.val - (if K.val.testBit h.val = true then 2 ^ h.val else 0)) := by decide +kernel
theorem wf_loses1 {n : Nat} {r : Row} (h : wf n r) {x : Nat} (hx : x < n) : wf n (f_loses1 r x) := by
  obtain ⟨a, b, c, ⟨K, hK, d⟩, e, f⟩ := h
  have hK64 : K < 64 := Nat.lt_of_lt_of_le hK (Nat.pow_le_pow_right (n := 2) (by decide) a)
  refine ⟨a, b, c, ⟨K - (if K.testBit x = true then 2 ^ x else 0), ?_, ?_⟩, e, fun y hy => ?_⟩
  · exact Nat.lt_of_le_of_lt (Nat.sub_le _ _) hK
  · show f_clear (r 4) x = _
    rw [d]
    exact f_clearB ⟨K, hK64⟩ ⟨x, by omega⟩
  · have e1 : ∀ i, i ≠ 4 → f_loses1 r x i = r i := fun i hi => by unfold f_loses1 upd; rw [if_neg hi]
    rw [e1 _ (by omega), e1 _ (by omega), e1 _ (by omega)]
    exact f y hy
theorem f_least_le {a : Nat} (ha : a < 2 ^ 31) {x : Int32} (h : ∃ b, b < 2 ^ 31 ∧ x = nI b) : ∃ q, q ≤ a ∧ f_least (nI a) x = nI q := by
  obtain ⟨b, hb, rfl⟩ := h
  unfold f_least
  by_cases c : nI a < nI b
  · rw [if_pos c]; exact ⟨a, Nat.le_refl _, rfl⟩
  · rw [if_neg c]
    have h1 : ¬ a < b := fun q => c ((nI_ltI ha hb).mpr q)
    exact ⟨b, by omega, rfl⟩
theorem wf_ppl {n : Nat} {r : Row} (h : wf n r) {x q : Nat} (hx : x < n) (hq : q ≤ 30) : wf n (upd r (6 + 6 * x + 3) (nI q)) := by
  obtain ⟨a, b, c, d, e, f⟩ := h
  have e1 : ∀ i, i ≠ 6 + 6 * x + 3 → upd r (6 + 6 * x + 3) (nI q) i = r i := fun i hi => by unfold upd; rw [if_neg hi]
  refine ⟨a, by rw [e1 _ (by omega)]; exact b, by rw [e1 _ (by omega)]; exact c, by rw [e1 _ (by omega)]; exact d, by rw [e1 _ (by omega)]; exact e, fun y hy => ?_⟩
  rw [e1 _ (by omega), e1 _ (by omega)]
  refine ⟨(f y hy).1, (f y hy).2.1, ?_⟩
  by_cases hyx : y = x
  · subst hyx
    exact ⟨q, hq, by unfold upd; rw [if_pos rfl]⟩
  · rw [e1 _ (by omega)]; exact (f y hy).2.2
theorem wf_o {n : Nat} {r : Row} (h : wf n r) {i : Nat} {v : Int32} (h0 : i ≠ 0) (h2 : i ≠ 2) (h4 : i ≠ 4) (h5 : i ≠ 5) (hh : ∀ x, i ≠ 6 + 6 * x ∧ i ≠ 6 + 6 * x + 1 ∧ i ≠ 6 + 6 * x + 3) : wf n (upd r i v) := by
  have e1 : ∀ j, i ≠ j → upd r i v j = r j := fun j hj => by unfold upd; rw [if_neg (fun q => hj q.symm)]
  exact wf_of h (e1 _ h0) (e1 _ h2) (e1 _ h4) (e1 _ h5) (fun x _ => ⟨e1 _ (hh x).1, e1 _ (hh x).2.1, e1 _ (hh x).2.2⟩)
theorem wf_loses {n : Nat} {r : Row} (h : wf n r) {x : Nat} (hx : x < n) : wf n (f_loses n r x) := by
  have h1 := wf_loses1 h hx
  have hn6 := h.1
  unfold f_loses
  refine wf_ppl (q := 0) ?_ hx (by omega)
  rcases f_next_in (n := n) (r := f_loses1 r x) hx with e | ⟨j, hj, e⟩
  · rw [e, if_neg (by decide)]; exact h1
  · rw [e, if_pos (nI_pos' (by omega)), nI_clamp (by omega)]
    obtain ⟨-, -, -, -, -, f⟩ := h1
    obtain ⟨-, -, p1, hp1, e1⟩ := f j hj
    obtain ⟨-, -, p2, hp2, e2⟩ := f x hx
    obtain ⟨q, hq, e3⟩ := f_least_le (a := 30) (by decide) (x := f_loses1 r x (6 + 6 * j + 3) + f_loses1 r x (6 + 6 * x + 3)) ⟨p1 + p2, by omega, by rw [e1, e2, nI_add]⟩
    rw [show (30 : Int32) = nI 30 from rfl, e3]
    exact wf_ppl (wf_loses1 h hx) hj hq
theorem wf_inspAt {n : Nat} {r : Row} (h : wf n r) {a : Nat} (ha : a < n) : wf n (upd r 2 (nI a)) := by
  obtain ⟨a1, b, c, d, e, f⟩ := h
  have e1 : ∀ i, i ≠ 2 → upd r 2 (nI a) i = r i := fun i hi => by unfold upd; rw [if_neg hi]
  refine ⟨a1, by rw [e1 _ (by omega)]; exact b, ⟨a, by unfold upd; rw [if_pos rfl], fun q => by omega, fun _ => ha⟩, by rw [e1 _ (by omega)]; exact d, by rw [e1 _ (by omega)]; exact e, fun y hy => ?_⟩
  rw [e1 _ (by omega), e1 _ (by omega), e1 _ (by omega)]
  exact f y hy
theorem wf_insp {n : Nat} {r : Row} (h : wf n r) : wf n (f_insp n r) := by
  obtain ⟨-, -, hz⟩ := wf_at h
  unfold f_insp
  by_cases q : n = 0
  · rw [if_pos q]; exact h
  · rw [if_neg q]
    refine wf_inspAt ?_ (Nat.mod_lt _ (by omega))
    split
    · split
      · exact wf_loses h (hz (by omega))
      · exact wf_o h (by omega) (by omega) (by omega) (by omega) (fun x => ⟨by omega, by omega, by omega⟩)
    · exact h
theorem wf_week {n : Nat} {r : Row} (h : wf n r) : wf n (f_week n r) := wf_insp (wf_ageU (wf_week1 h _) n)
theorem f_ageU_s (r : Row) (h : Nat) : f_ageU r (h + 1) = if f_kept (f_ageU r h) h = true then f_ages (f_ageU r h) h else f_ageU r h := rfl
theorem f_burnsU_s (r : Row) (h : Nat) : f_burnsU r (h + 1) = f_burnsU r h + (if f_kept r h = true then f_burns (r (6 + 6 * h)) else 0) := rfl
theorem f_min (x y : Int32) : (if y < x then y else x) = f_least x y := by
  unfold f_least
  rcases fa_three x y with h | h | h
  · rw [if_pos h, if_neg (Int32.not_lt.mpr (Int32.le_of_lt h))]
  · rw [h, if_neg Int32.lt_irrefl]
  · rw [if_pos h, if_neg (Int32.not_lt.mpr (Int32.le_of_lt h))]
theorem mx_kind {x : Int32} (h : ∃ k, k < 6 ∧ x = nI k) : x = 0 ∨ x = 1 ∨ x = 2 ∨ x = 3 ∨ x = 4 ∨ x = 5 := by
  obtain ⟨k, hk, rfl⟩ := h
  rcases (show k = 0 ∨ k = 1 ∨ k = 2 ∨ k = 3 ∨ k = 4 ∨ k = 5 by omega) with rfl | rfl | rfl | rfl | rfl | rfl
  · exact Or.inl rfl
  · exact Or.inr (Or.inl rfl)
  · exact Or.inr (Or.inr (Or.inl rfl))
  · exact Or.inr (Or.inr (Or.inr (Or.inl rfl)))
  · exact Or.inr (Or.inr (Or.inr (Or.inr (Or.inl rfl))))
  · exact Or.inr (Or.inr (Or.inr (Or.inr (Or.inr rfl))))
theorem mx_fig {x : Int32} (h : ∃ f, f ≤ 9 ∧ x = nI f) : ¬ x + 2 ≤ 0 ∧ ¬ x + 2 = 0 := by
  obtain ⟨f, hf, rfl⟩ := h
  rw [show (2 : Int32) = nI 2 from rfl, nI_add]
  exact ⟨nI_nle (by omega) (by omega), nI_ne0 (by omega) (by omega)⟩
theorem mx_8 {q : Row} {f : Row} : ∀ j, j < 8 → upd (upd (upd (upd (upd (upd (upd (upd q 0 (f 0)) 1 (f 1)) 2 (f 2)) 3 (f 3)) 4 (f 4)) 5 (f 5)) 6 (f 6)) 7 (f 7) j = f j := by
  intro j hj
  rcases (show j = 0 ∨ j = 1 ∨ j = 2 ∨ j = 3 ∨ j = 4 ∨ j = 5 ∨ j = 6 ∨ j = 7 by omega) with rfl | rfl | rfl | rfl | rfl | rfl | rfl | rfl <;> rfl
theorem nI_ne9 {j : Nat} (h : j < 2 ^ 31) : ¬ nI j = -9 := by
  intro e
  have h1 := nI_toInt h
  rw [e] at h1
  have h2 : (-9 : Int32).toInt = -9 := by decide
  omega
theorem f_in002 : f_in 0 0 2 = true := by decide
theorem f_in102 : f_in 1 0 2 = true := by decide
theorem f_in001 : f_in 0 0 1 = true := by decide
theorem f_in101 : f_in 1 0 1 = true := by decide
theorem nI_nlt_le {a b : Nat} (ha : a < 2 ^ 31) (hb : b < 2 ^ 31) (h : ¬ nI b < nI a) : a ≤ b := by
  rcases Nat.lt_or_ge b a with q | q
  · exact absurd (nI_lt q ha) h
  · exact q
