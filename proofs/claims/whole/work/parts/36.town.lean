/-! ===== a TOWN told in letters ===== -/
def f_kd (c : Int32) : Int32 := if c = 104 then 0 else if c = 112 then 1 else if c = 109 then 2 else if c = 105 then 3 else if c = 103 then 4 else if c = 99 then 5 else -9
def f_w1 (c : Int32) : Int32 := if c = 104 then -2 else if c = 112 then 3 else if c = 100 then 3 else if c = 99 then 3 else if c = 119 then 2 else if c = 120 then 1 else if c = 105 then 1 else -3
def f_ws (w c : Int32) : Int32 := if w = -1 then f_w1 c else if w = -2 then (if f_kd c = -9 then -3 else 4) else if w = 0 then (if c = 59 then -1 else -3) else if f_in c 48 57 = true then w - 1 else -3
/-- a number of i digits from place p on -/
def f_num (L : Row) (p : Nat) : Nat → Int32
  | 0 => 0
  | i + 1 => f_num L p i * 10 + L (p + i) - 48
/-- how many letters, at most d, are digits from p on -/
def f_dc (L : Row) (lm p : Nat) : Nat → Nat
  | 0 => 0
  | d + 1 => if f_dc L lm p d = d ∧ p + d < lm ∧ f_in (L (p + d)) 48 57 = true then d + 1 else f_dc L lm p d
theorem f_dc_s (L : Row) (lm p d : Nat) : f_dc L lm p (d + 1) = if f_dc L lm p d = d ∧ p + d < lm ∧ f_in (L (p + d)) 48 57 = true then d + 1 else f_dc L lm p d := rfl
theorem f_dc_le (L : Row) (lm p : Nat) : ∀ d, f_dc L lm p d ≤ d
  | 0 => Nat.le_refl _
  | d + 1 => by
    rw [f_dc_s]
    split
    · exact Nat.le_refl _
    · have := f_dc_le L lm p d; omega
theorem f_dc_T {L : Row} {lm p d : Nat} (h : f_dc L lm p d = d) (h1 : p + d < lm) (h2 : f_in (L (p + d)) 48 57 = true) : f_dc L lm p (d + 1) = d + 1 := by rw [f_dc_s, if_pos ⟨h, h1, h2⟩]
/-- once a letter is no digit, no more are read -/
theorem f_dc_F {L : Row} {lm p i : Nat} (h : f_dc L lm p i = i) (h2 : ¬ (p + i < lm ∧ f_in (L (p + i)) 48 57 = true)) : ∀ d, i < d → f_dc L lm p d = i
  | 0, h0 => absurd h0 (by omega)
  | d + 1, hd => by
    rw [f_dc_s]
    by_cases c : d = i
    · subst c
      rw [if_neg (fun q => h2 q.2)]
      exact h
    · have e := f_dc_F h h2 d (by omega)
      rw [if_neg (fun q => by omega)]
      exact e
/-- the place of the first letter with which no TOWN goes on, d letters to come from place p, w awaited -/
def f_scan (L : Row) (lm : Nat) : Nat → Nat → Int32 → Option Nat
  | 0, _, w => if w = -1 then none else some lm
  | d + 1, p, w => if f_ws w (L p) = -3 then some p else f_scan L lm d (p + 1) (f_ws w (L p))
def f_brk (L : Row) (lm : Nat) : Option Nat := if lm = 0 then some 0 else f_scan L lm lm 0 (-1)
theorem f_scanT {L : Row} {lm i : Nat} {w : Int32} {B : Option Nat} (hi : i < lm) (hg : f_scan L lm (lm - i) i w = B) (c : ¬ f_ws w (L i) = -3) : f_scan L lm (lm - (i + 1)) (i + 1) (f_ws w (L i)) = B := by
  rw [show lm - i = (lm - (i + 1)) + 1 by omega] at hg
  unfold f_scan at hg
  rw [if_neg c] at hg
  exact hg
theorem f_scanF {L : Row} {lm i : Nat} {w : Int32} {B : Option Nat} (hi : i < lm) (hg : f_scan L lm (lm - i) i w = B) (c : f_ws w (L i) = -3) : B = some i := by
  rw [show lm - i = (lm - (i + 1)) + 1 by omega] at hg
  unfold f_scan at hg
  rw [if_pos c] at hg
  exact hg.symm
theorem f_scanE {L : Row} {lm i : Nat} {w : Int32} {B : Option Nat} (hi : lm ≤ i) (hg : f_scan L lm (lm - i) i w = B) : B = if w = -1 then none else some lm := by
  rw [show lm - i = 0 by omega] at hg
  exact hg.symm
theorem f_brk_1 {L : Row} {lm : Nat} {x : Int32} (h : 0 < lm) (e : f_o9 (f_scan L lm lm 0 (-1)) = x) : f_o9 (f_brk L lm) = x := by
  unfold f_brk
  rw [if_neg (by omega)]
  exact e
theorem f_brk_0 {L : Row} : f_o9 (f_brk L 0) = 0 := rfl
/-- a STATEMENT from place p on: letters of a kind, digits -/
def f_a (c : Int32) : Nat := if c = 104 then 1 else 0
def f_d (c : Int32) : Nat := if c = 104 then 4 else if c = 112 then 3 else if c = 100 then 3 else if c = 99 then 3 else if c = 119 then 2 else if c = 120 then 1 else if c = 105 then 1 else 0
def f_gd (L : Row) (lm p : Nat) : Prop := ¬ f_w1 (L p) = -3 ∧ p + 1 + f_a (L p) + f_d (L p) < lm ∧ (L p = 104 → ¬ f_kd (L (p + 1)) = -9) ∧ (∀ i, i < f_d (L p) → f_in (L (p + 1 + f_a (L p) + i)) 48 57 = true) ∧ L (p + 1 + f_a (L p) + f_d (L p)) = 59
def f_st (n : Nat) (r L : Row) (p : Nat) : Option (Nat × Row) :=
  if L p = 104 then (if n = 6 ∨ f_num L (p + 3) 1 < 1 ∨ 30 < f_num L (p + 4) 2 then none else some (n + 1, f_build n r (f_kd (L (p + 1))) (f_num L (p + 2) 1) (f_num L (p + 3) 1) (f_num L (p + 4) 2)))
  else if L p = 112 then (if f_inN (f_num L (p + 1) 1) n = true ∧ f_num L (p + 2) 2 ≤ 30 then some (n, upd r (6 + 6 * (f_num L (p + 1) 1).toNatClampNeg + 3) (f_num L (p + 2) 2)) else none)
  else if L p = 100 then (if f_inN (f_num L (p + 1) 1) n = true ∧ f_num L (p + 2) 2 ≤ 20 then some (n, upd r (6 + 6 * (f_num L (p + 1) 1).toNatClampNeg + 4) (f_num L (p + 2) 2)) else none)
  else if L p = 120 then (if f_inN (f_num L (p + 1) 1) n = true then some (n, f_tog r (f_num L (p + 1) 1).toNatClampNeg) else none)
  else if L p = 105 then (if f_inN (f_num L (p + 1) 1) n = true then some (n, upd r 2 (f_num L (p + 1) 1)) else none)
  else if L p = 99 then some (n, upd r 3 (f_num L (p + 1) 3))
  else if L p = 119 then (if f_num L (p + 1) 2 < 1 ∨ 60 < f_num L (p + 1) 2 ∨ 999 < r 1 + f_num L (p + 1) 2 then none else some (n, f_weeks n r (f_num L (p + 1) 2).toNatClampNeg))
  else none
def Sx (o : Option (Nat × Row)) (σ τ : Mem) (v : Int32) : Prop := Off 2 σ τ ∧ ((∃ n' r', o = some (n', r') ∧ v = 1 ∧ TI τ 2 n' r') ∨ (o = none ∧ v = 0))
theorem Sx.no {o : Option (Nat × Row)} {σ : Mem} (h : o = none) : Sx o σ σ 0 := ⟨Off.rf, Or.inr ⟨h, rfl⟩⟩
theorem Sx.ok {o : Option (Nat × Row)} {σ τ : Mem} {n : Nat} {r : Row} (h : o = some (n, r)) (t : TI τ 2 n r) (f : Off 2 σ τ) : Sx o σ τ 1 := ⟨f, Or.inl ⟨n, r, h, rfl, t⟩⟩
theorem f_dig {c : Int32} (h : f_in c 48 57 = true) : ∃ k, k ≤ 9 ∧ c - 48 = nI k ∧ c = nI (k + 48) := by
  unfold f_in at h
  rw [Bool.and_eq_true, decide_eq_true_eq, decide_eq_true_eq] at h
  obtain ⟨j, h1, h2, e⟩ := f_in_ab (a := 48) (b := 57) (by decide) (by decide) (Int32.not_lt.mpr h.1) (Int32.not_lt.mpr h.2)
  subst e
  refine ⟨j - 48, by omega, ?_, by rw [show j - 48 + 48 = j by omega]⟩
  rw [show (48 : Int32) = nI 48 from rfl, pk_sub (by omega)]
theorem f_num_N {L : Row} {p : Nat} : ∀ d, (∀ i, i < d → f_in (L (p + i)) 48 57 = true) → ∃ k, k < 10 ^ d ∧ f_num L p d = nI k
  | 0, _ => ⟨0, by decide, rfl⟩
  | d + 1, h => by
    obtain ⟨k, hk, e⟩ := f_num_N d (fun i hi => h i (by omega))
    obtain ⟨j, hj, -, e2⟩ := f_dig (h d (by omega))
    refine ⟨k * 10 + j, ?_, ?_⟩
    · rw [Nat.pow_succ]; omega
    · show f_num L p d * 10 + L (p + d) - 48 = _
      rw [e, e2, show (10 : Int32) = nI 10 from rfl, pk_mul, nI_add, show (48 : Int32) = nI 48 from rfl, pk_sub (by omega)]
      congr 1
theorem f_gdN {L : Row} {lm p : Nat} (h : f_gd L lm p) (i j : Nat) (hij : i + j ≤ f_d (L p)) : ∃ k, k < 10 ^ j ∧ f_num L (p + 1 + f_a (L p) + i) j = nI k := f_num_N j (fun x hx => by
  have := h.2.2.2.1 (i + x) (by omega)
  rw [show p + 1 + f_a (L p) + i + x = p + 1 + f_a (L p) + (i + x) by omega]
  exact this)
theorem f_gd0 {L : Row} {lm p : Nat} {c : Int32} (h : f_gd L lm p) (hc : L p = c) (a d : Nat) (ha : f_a c = a) (hd : f_d c = d) : p + 1 + a + d < lm ∧ ∀ i j, i + j ≤ d → ∃ k, k < 10 ^ j ∧ f_num L (p + 1 + a + i) j = nI k := by
  subst hc
  subst ha
  subst hd
  exact ⟨h.2.1, fun i j hij => f_gdN h i j hij⟩
theorem Sx.z {o : Option (Nat × Row)} {σ τ : Mem} {v : Int32} (h : Sx o σ τ v) : v = 0 ∨ v = 1 := by
  rcases h.2 with ⟨_, _, _, e, _⟩ | ⟨_, e⟩
  · exact Or.inr e
  · exact Or.inl e
theorem f_kd_N {c : Int32} (h : ¬ f_kd c = -9) : ∃ k, k < 6 ∧ f_kd c = nI k := by
  unfold f_kd at *
  by_cases c0 : c = 104
  · exact ⟨0, by decide, if_pos c0⟩
  · rw [if_neg c0] at *
    by_cases c1 : c = 112
    · exact ⟨1, by decide, if_pos c1⟩
    · rw [if_neg c1] at *
      by_cases c2 : c = 109
      · exact ⟨2, by decide, if_pos c2⟩
      · rw [if_neg c2] at *
        by_cases c3 : c = 105
        · exact ⟨3, by decide, if_pos c3⟩
        · rw [if_neg c3] at *
          by_cases c4 : c = 103
          · exact ⟨4, by decide, if_pos c4⟩
          · rw [if_neg c4] at *
            by_cases c5 : c = 99
            · exact ⟨5, by decide, if_pos c5⟩
            · rw [if_neg c5] at *
              exact absurd rfl h
theorem f_30 {k : Nat} (hk : k < 1000) (h : ¬ (30 : Int32) < nI k) : k ≤ 30 := Nat.le_of_not_lt (fun q => h (nI_lt q (by omega)))
theorem f_st_wf {n n' lm p : Nat} {r r' L : Row} (hw : wf n r) (h5 : r 5 = 0) (hg : f_gd L lm p) (e : f_st n r L p = some (n', r')) : wf n' r' ∧ r' 5 = 0 := by
  have hn := hw.1
  unfold f_st at e
  by_cases c0 : L p = 104
  · rw [if_pos c0] at e
    obtain ⟨-, hd⟩ := f_gd0 hg c0 1 4 (by decide) (by decide)
    obtain ⟨fg, kf, ef⟩ := hd 0 1 (by decide)
    obtain ⟨pp, kp, ep⟩ := hd 2 2 (by decide)
    rw [show p + 1 + 1 + 2 = p + 4 by omega] at ep
    rw [show p + 1 + 1 + 0 = p + 2 by omega] at ef
    split at e
    · exact absurd e (by simp)
    · rename_i q
      simp only [Option.some.injEq, Prod.mk.injEq] at e
      obtain ⟨rfl, rfl⟩ := e
      have q2 := not_or.mp q
      have q3 := not_or.mp q2.2
      rw [ep] at q3
      refine ⟨wf_build hw (by omega) (f_kd_N (hg.2.2.1 c0)) ⟨fg, by omega, ef⟩ ⟨pp, f_30 (by omega) q3.2, ep⟩, ?_⟩
      rw [f_build_o (by decide) (by decide) (by omega)]
      exact h5
  · rw [if_neg c0] at e
    by_cases c1 : L p = 112
    · rw [if_pos c1] at e
      obtain ⟨-, hd⟩ := f_gd0 hg c1 0 3 (by decide) (by decide)
      obtain ⟨u, ku, eu⟩ := hd 1 2 (by decide)
      rw [show p + 1 + 0 + 1 = p + 2 by omega] at eu
      split at e
      · rename_i q
        simp only [Option.some.injEq, Prod.mk.injEq] at e
        obtain ⟨rfl, rfl⟩ := e
        obtain ⟨j, hj, ej⟩ := f_inN_t (by omega) q.1
        rw [ej, eu, nI_clamp (by omega)]
        rw [eu] at q
        exact ⟨wf_ppl hw hj (f_30 (by omega) (Int32.not_lt.mpr q.2)), by rw [upd_o (by omega)]; exact h5⟩
      · exact absurd e (by simp)
    · rw [if_neg c1] at e
      by_cases c2 : L p = 100
      · rw [if_pos c2] at e
        split at e
        · simp only [Option.some.injEq, Prod.mk.injEq] at e
          obtain ⟨rfl, rfl⟩ := e
          exact ⟨wf_dust hw, by rw [upd_o (by omega)]; exact h5⟩
        · exact absurd e (by simp)
      · rw [if_neg c2] at e
        by_cases c3 : L p = 120
        · rw [if_pos c3] at e
          split at e
          · rename_i q
            simp only [Option.some.injEq, Prod.mk.injEq] at e
            obtain ⟨rfl, rfl⟩ := e
            obtain ⟨j, hj, ej⟩ := f_inN_t (by omega) q
            rw [ej, nI_clamp (by omega)]
            exact ⟨wf_tog hw hj, by rw [f_tog_o (by decide)]; exact h5⟩
          · exact absurd e (by simp)
        · rw [if_neg c3] at e
          by_cases c4 : L p = 105
          · rw [if_pos c4] at e
            split at e
            · rename_i q
              simp only [Option.some.injEq, Prod.mk.injEq] at e
              obtain ⟨rfl, rfl⟩ := e
              obtain ⟨j, hj, ej⟩ := f_inN_t (by omega) q
              rw [ej]
              exact ⟨wf_inspAt hw hj, by rw [upd_o (by decide)]; exact h5⟩
            · exact absurd e (by simp)
          · rw [if_neg c4] at e
            by_cases c5 : L p = 99
            · rw [if_pos c5] at e
              simp only [Option.some.injEq, Prod.mk.injEq] at e
              obtain ⟨rfl, rfl⟩ := e
              exact ⟨wf_cand hw, by rw [upd_o (by decide)]; exact h5⟩
            · rw [if_neg c5] at e
              by_cases c6 : L p = 119
              · rw [if_pos c6] at e
                split at e
                · exact absurd e (by simp)
                · simp only [Option.some.injEq, Prod.mk.injEq] at e
                  obtain ⟨rfl, rfl⟩ := e
                  exact ⟨wf_weeks hw _, by rw [f_weeks_5]; exact h5⟩
              · rw [if_neg c6] at e
                exact absurd e (by simp)
/-- the STATEMENTS one by one: k places done, c STATEMENTS counted -/
def f_tg (n0 : Nat) (r0 L : Row) : Nat → Nat → Nat → Nat → Row → Int32 × Nat × Row
  | 0, _, c, n, r => (nI c, n, r)
  | d + 1, k, c, n, r => if k = 0 ∨ L (k - 1) = 59 then (match f_st n r L k with
      | some (n', r') => f_tg n0 r0 L d (k + 1) (c + 1) n' r'
      | none => (-2000 - nI k, n0, r0)) else f_tg n0 r0 L d (k + 1) c n r
theorem f_tgT {n0 n n' k lm c : Nat} {r0 r r' L : Row} {x : Int32 × Nat × Row} (hk : k < lm) (hg : f_tg n0 r0 L (lm - k) k c n r = x) (h : k = 0 ∨ L (k - 1) = 59) (e : f_st n r L k = some (n', r')) : f_tg n0 r0 L (lm - (k + 1)) (k + 1) (c + 1) n' r' = x := by
  rw [show lm - k = (lm - (k + 1)) + 1 by omega] at hg
  unfold f_tg at hg
  rw [if_pos h, e] at hg
  exact hg
theorem f_tgF {n0 n k lm c : Nat} {r0 r L : Row} {x : Int32 × Nat × Row} (hk : k < lm) (hg : f_tg n0 r0 L (lm - k) k c n r = x) (h : k = 0 ∨ L (k - 1) = 59) (e : f_st n r L k = none) : x = (-2000 - nI k, n0, r0) := by
  rw [show lm - k = (lm - (k + 1)) + 1 by omega] at hg
  unfold f_tg at hg
  rw [if_pos h, e] at hg
  exact hg.symm
theorem f_tgN {n0 n k lm c : Nat} {r0 r L : Row} {x : Int32 × Nat × Row} (hk : k < lm) (hg : f_tg n0 r0 L (lm - k) k c n r = x) (h : ¬ (k = 0 ∨ L (k - 1) = 59)) : f_tg n0 r0 L (lm - (k + 1)) (k + 1) c n r = x := by
  rw [show lm - k = (lm - (k + 1)) + 1 by omega] at hg
  unfold f_tg at hg
  rw [if_neg h] at hg
  exact hg
theorem f_tgE {n0 n k lm c : Nat} {r0 r L : Row} {x : Int32 × Nat × Row} (hk : lm ≤ k) (hg : f_tg n0 r0 L (lm - k) k c n r = x) : x = (nI c, n, r) := by
  rw [show lm - k = 0 by omega] at hg
  exact hg.symm
def Off12 (σ τ : Mem) : Prop := ∀ k, ¬ inT 1 k → ¬ inT 2 k → τ k = σ k
def Gx (x : Int32 × Nat × Row) (σ τ : Mem) (v : Int32) : Prop := x.1 = v ∧ TI τ 1 x.2.1 x.2.2 ∧ Off12 σ τ
