/-! ===== a TOWN told in letters ===== -/
def f_kd (c : Int32) : Int32 := if c = 104 then 0 else if c = 112 then 1 else if c = 109 then 2 else if c = 105 then 3 else if c = 103 then 4 else if c = 99 then 5 else -9
def f_w1 (c : Int32) : Int32 := if c = 104 then -2 else if c = 112 then 3 else if c = 100 then 3 else if c = 99 then 3 else if c = 119 then 2 else if c = 120 then 1 else if c = 105 then 1 else -3
def f_ws (w c : Int32) : Int32 := if w = -1 then f_w1 c else if w = -2 then (if f_kd c = -9 then -3 else 4) else if w = 0 then (if c = 59 then -1 else -3) else if f_in c 48 57 = true then w - 1 else -3
/-- a number of i digits from place p on -/
def f_num (L : Row) (p : Nat) : Nat → Int32
  | 0 => 0
  | i + 1 => f_num L p i * 10 + L (p + i) - 48
/-- how many letters, at most d, are digits from p on -/
def f_dc (L : Row) (lm p : Nat) : Nat → Nat
  | 0 => 0
  | d + 1 => if f_dc L lm p d = d ∧ p + d < lm ∧ f_in (L (p + d)) 48 57 = true then d + 1 else f_dc L lm p d
theorem f_dc_s (L : Row) (lm p d : Nat) : f_dc L lm p (d + 1) = if f_dc L lm p d = d ∧ p + d < lm ∧ f_in (L (p + d)) 48 57 = true then d + 1 else f_dc L lm p d := rfl
theorem f_dc_le (L : Row) (lm p : Nat) : ∀ d, f_dc L lm p d ≤ d
  | 0 => Nat.le_refl _
  | d + 1 => by
    rw [f_dc_s]
    split
    · exact Nat.le_refl _
    · have := f_dc_le L lm p d; omega
theorem f_dc_T {L : Row} {lm p d : Nat} (h : f_dc L lm p d = d) (h1 : p + d < lm) (h2 : f_in (L (p + d)) 48 57 = true) : f_dc L lm p (d + 1) = d + 1 := by rw [f_dc_s, if_pos ⟨h, h1, h2⟩]
/-- once a letter is no digit, no more are read -/
theorem f_dc_F {L : Row} {lm p i : Nat} (h : f_dc L lm p i = i) (h2 : ¬ (p + i < lm ∧ f_in (L (p + i)) 48 57 = true)) : ∀ d, i < d → f_dc L lm p d = i
  | 0, h0 => absurd h0 (by omega)
  | d + 1, hd => by
    rw [f_dc_s]
    by_cases c : d = i
    · subst c
      rw [if_neg (fun q => h2 q.2)]
      exact h
    · have e := f_dc_F h h2 d (by omega)
      rw [if_neg (fun q => by omega)]
      exact e
/-- the place of the first letter with which no TOWN goes on, d letters to come from place p, w awaited -/
def f_scan (L : Row) (lm : Nat) : Nat → Nat → Int32 → Option Nat
  | 0, _, w => if w = -1 then none else some lm
  | d + 1, p, w => if f_ws w (L p) = -3 then some p else f_scan L lm d (p + 1) (f_ws w (L p))
def f_brk (L : Row) (lm : Nat) : Option Nat := if lm = 0 then some 0 else f_scan L lm lm 0 (-1)
theorem f_scanT {L : Row} {lm i : Nat} {w : Int32} {B : Option Nat} (hi : i < lm) (hg : f_scan L lm (lm - i) i w = B) (c : ¬ f_ws w (L i) = -3) : f_scan L lm (lm - (i + 1)) (i + 1) (f_ws w (L i)) = B := by
  rw [show lm - i = (lm - (i + 1)) + 1 by omega] at hg
  unfold f_scan at hg
  rw [if_neg c] at hg
  exact hg
theorem f_scanF {L : Row} {lm i : Nat} {w : Int32} {B : Option Nat} (hi : i < lm) (hg : f_scan L lm (lm - i) i w = B) (c : f_ws w (L i) = -3) : B = some i := by
  rw [show lm - i = (lm - (i + 1)) + 1 by omega] at hg
  unfold f_scan at hg
  rw [if_pos c] at hg
  exact hg.symm
theorem f_scanE {L : Row} {lm i : Nat} {w : Int32} {B : Option Nat} (hi : lm ≤ i) (hg : f_scan L lm (lm - i) i w = B) : B = if w = -1 then none else some lm := by
  rw [show lm - i = 0 by omega] at hg
  exact hg.symm
theorem f_brk_1 {L : Row} {lm : Nat} {x : Int32} (h : 0 < lm) (e : f_o9 (f_scan L lm lm 0 (-1)) = x) : f_o9 (f_brk L lm) = x := by
  unfold f_brk
  rw [if_neg (by omega)]
  exact e
theorem f_brk_0 {L : Row} : f_o9 (f_brk L 0) = 0 := rfl
