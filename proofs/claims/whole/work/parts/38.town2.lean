/-! ===== reading STATEMENT by STATEMENT finds the same first wrong letter ===== -/
theorem f_dc_fix {L : Row} {lm p : Nat} : ∀ d, f_dc L lm p (f_dc L lm p d) = f_dc L lm p d ∧ (f_dc L lm p d < d → ¬ (p + f_dc L lm p d < lm ∧ f_in (L (p + f_dc L lm p d)) 48 57 = true))
  | 0 => ⟨rfl, fun h => absurd h (Nat.lt_irrefl 0)⟩
  | d + 1 => by
    obtain ⟨h1, h2⟩ := f_dc_fix (L := L) (lm := lm) (p := p) d
    rw [f_dc_s]
    by_cases c : f_dc L lm p d = d ∧ p + d < lm ∧ f_in (L (p + d)) 48 57 = true
    · rw [if_pos c]
      exact ⟨f_dc_T c.1 c.2.1 c.2.2, fun h => absurd h (Nat.lt_irrefl _)⟩
    · rw [if_neg c]
      refine ⟨h1, fun _ => ?_⟩
      have := f_dc_le L lm p d
      by_cases e : f_dc L lm p d = d
      · rw [e]; exact fun q => c ⟨e, q⟩
      · exact h2 (by omega)
theorem f_ws_d {w : Nat} {c : Int32} (h0 : 0 < w) (hw : w < 1000) : f_ws (nI w) c = if f_in c 48 57 = true then nI (w - 1) else -3 := by
  have n1 : ¬ nI w = -1 := fun q => nI_pos (n := w) (by omega) (by rw [q]; decide)
  have n2 : ¬ nI w = -2 := fun q => nI_pos (n := w) (by omega) (by rw [q]; decide)
  have n3 : ¬ nI w = 0 := fun q => by
    have := (nI_eq (b := 0) (by omega) (by decide)).mp q
    omega
  unfold f_ws
  rw [if_neg n1, if_neg n2, if_neg n3]
  split
  · rw [show w = (w - 1) + 1 by omega]; exact nI_pred _
  · rfl
theorem f_ws_e {w : Nat} {c : Int32} (h0 : 0 < w) (hw : w < 1000) (h : f_in c 48 57 = true) : f_ws (nI w) c = nI (w - 1) := by rw [f_ws_d h0 hw, if_pos h]
theorem f_nI_ne {w : Nat} (hw : w < 1000) : ¬ nI w = -3 := fun q => nI_pos (n := w) (by omega) (by rw [q]; decide)
theorem f_nI_n1 {w : Nat} (hw : w < 1000) : ¬ nI w = -1 := fun q => nI_pos (n := w) (by omega) (by rw [q]; decide)
theorem f_sc_dig {L : Row} {lm p w : Nat} {B : Option Nat} (hw : w < 1000) (hp : p ≤ lm) (hB : f_scan L lm (lm - p) p (nI w) = B) : ∀ i, i ≤ w → f_dc L lm p i = i → p + i ≤ lm ∧ f_scan L lm (lm - (p + i)) (p + i) (nI (w - i)) = B
  | 0, _, _ => ⟨hp, hB⟩
  | i + 1, hi, h => by
    rw [f_dc_s] at h
    by_cases c : f_dc L lm p i = i ∧ p + i < lm ∧ f_in (L (p + i)) 48 57 = true
    · obtain ⟨a, b⟩ := f_sc_dig hw hp hB i (by omega) c.1
      have e := f_ws_e (w := w - i) (by omega) (by omega) c.2.2
      have b2 := f_scanT c.2.1 b (by rw [e]; exact f_nI_ne (by omega))
      rw [e] at b2
      exact ⟨by omega, by rw [show p + (i + 1) = p + i + 1 by omega, show w - (i + 1) = w - i - 1 by omega]; exact b2⟩
    · rw [if_neg c] at h
      have := f_dc_le L lm p i
      omega
theorem f_sc_bad {L : Row} {lm p w d : Nat} {B : Option Nat} (hw : w < 1000) (hp : p ≤ lm) (hB : f_scan L lm (lm - p) p (nI w) = B) (hd : d ≤ w) (h : f_dc L lm p d < d) : B = some (p + f_dc L lm p d) := by
  obtain ⟨h1, h2⟩ := f_dc_fix (L := L) (lm := lm) (p := p) d
  obtain ⟨a, b⟩ := f_sc_dig hw hp hB _ (by omega) h1
  have h3 := h2 h
  by_cases c : p + f_dc L lm p d < lm
  · refine f_scanF c b ?_
    rw [f_ws_d (by omega) (by omega), if_neg (fun q => h3 ⟨c, q⟩)]
  · have e := f_scanE (by omega) b
    rw [if_neg (f_nI_n1 (by omega))] at e
    rw [e]
    congr 1
    omega
theorem f_dc_add {L : Row} {lm p a : Nat} : ∀ b, f_dc L lm p (a + b) = if f_dc L lm p a = a then a + f_dc L lm (p + a) b else f_dc L lm p a
  | 0 => by
    by_cases c : f_dc L lm p a = a
    · rw [if_pos c, Nat.add_zero, c]; rfl
    · rw [if_neg c, Nat.add_zero]
  | b + 1 => by
    rw [show a + (b + 1) = (a + b) + 1 by omega, f_dc_s, f_dc_add b]
    by_cases c : f_dc L lm p a = a
    · rw [if_pos c, if_pos c, f_dc_s]
      by_cases q : f_dc L lm (p + a) b = b ∧ p + a + b < lm ∧ f_in (L (p + a + b)) 48 57 = true
      · rw [if_pos q, if_pos ⟨by omega, by omega, by rw [show p + (a + b) = p + a + b by omega]; exact q.2.2⟩]; omega
      · rw [if_neg q, if_neg (fun z => q ⟨by omega, by omega, by rw [show p + a + b = p + (a + b) by omega]; exact z.2.2⟩)]
    · rw [if_neg c, if_neg c]
      have := f_dc_le L lm p a
      rw [if_neg (fun z => by omega)]
/-- what reading one STATEMENT from place p does: is it one, and the place then -/
def f_rd (L : Row) (lm p : Nat) : Bool × Nat :=
  if ¬ p < lm then (false, p) else if f_w1 (L p) = -3 then (false, p)
  else if L p = 104 ∧ ¬ (p + 1 < lm ∧ ¬ f_kd (L (p + 1)) = -9) then (false, p + 1)
  else if f_dc L lm (p + 1 + f_a (L p)) (f_d (L p)) < f_d (L p) then (false, p + 1 + f_a (L p) + f_dc L lm (p + 1 + f_a (L p)) (f_d (L p)))
  else if p + 1 + f_a (L p) + f_d (L p) < lm ∧ L (p + 1 + f_a (L p) + f_d (L p)) = 59 then (true, p + 1 + f_a (L p) + f_d (L p) + 1)
  else (false, p + 1 + f_a (L p) + f_d (L p))
theorem f_w1_a {c : Int32} (h : ¬ f_w1 c = -3) : (c = 104 ∧ f_w1 c = -2 ∧ f_a c = 1 ∧ f_d c = 4) ∨ (¬ c = 104 ∧ f_w1 c = nI (f_d c) ∧ f_a c = 0 ∧ 0 < f_d c ∧ f_d c ≤ 3) := by
  by_cases c0 : c = 104
  · subst c0; exact Or.inl ⟨rfl, by decide, by decide, by decide⟩
  · refine Or.inr ⟨c0, ?_⟩
    by_cases c1 : c = 112
    · subst c1; exact ⟨by decide, by decide, by decide, by decide⟩
    · by_cases c2 : c = 100
      · subst c2; exact ⟨by decide, by decide, by decide, by decide⟩
      · by_cases c3 : c = 99
        · subst c3; exact ⟨by decide, by decide, by decide, by decide⟩
        · by_cases c4 : c = 119
          · subst c4; exact ⟨by decide, by decide, by decide, by decide⟩
          · by_cases c5 : c = 120
            · subst c5; exact ⟨by decide, by decide, by decide, by decide⟩
            · by_cases c6 : c = 105
              · subst c6; exact ⟨by decide, by decide, by decide, by decide⟩
              · exact absurd (by unfold f_w1; rw [if_neg c0, if_neg c1, if_neg c2, if_neg c3, if_neg c4, if_neg c5, if_neg c6]) h
theorem f_ws_1 (c : Int32) : f_ws (-1) c = f_w1 c := if_pos rfl
theorem f_ws_2 (c : Int32) : f_ws (-2) c = if f_kd c = -9 then -3 else 4 := by unfold f_ws; rw [if_neg (by decide), if_pos rfl]
theorem f_ws_0 (c : Int32) : f_ws (nI 0) c = if c = 59 then -1 else -3 := by unfold f_ws; rw [if_neg (by decide), if_neg (by decide), if_pos (by rfl)]
/-- behind the first letter and the kind: the digits are awaited -/
theorem f_sc_pre {L : Row} {lm p : Nat} {B : Option Nat} (hp : p < lm) (hB : f_scan L lm (lm - p) p (-1) = B) (h1 : ¬ f_w1 (L p) = -3) :
    (L p = 104 ∧ ¬ (p + 1 < lm ∧ ¬ f_kd (L (p + 1)) = -9) ∧ B = some (p + 1)) ∨ (¬ (L p = 104 ∧ ¬ (p + 1 < lm ∧ ¬ f_kd (L (p + 1)) = -9)) ∧ p + 1 + f_a (L p) ≤ lm ∧ f_scan L lm (lm - (p + 1 + f_a (L p))) (p + 1 + f_a (L p)) (nI (f_d (L p))) = B) := by
  have b1 := f_scanT hp hB (by rw [f_ws_1]; exact h1)
  rw [f_ws_1] at b1
  rcases f_w1_a h1 with ⟨c, e, ea, ed⟩ | ⟨c, e, ea, -⟩
  · rw [e] at b1
    by_cases q : p + 1 < lm
    · by_cases k : f_kd (L (p + 1)) = -9
      · exact Or.inl ⟨c, fun z => z.2 k, f_scanF q b1 (by rw [f_ws_2, if_pos k])⟩
      · have b2 := f_scanT q b1 (by rw [f_ws_2, if_neg k]; decide)
        rw [f_ws_2, if_neg k] at b2
        refine Or.inr ⟨fun z => z.2 ⟨q, k⟩, by omega, ?_⟩
        rw [ea, ed]
        exact b2
    · have b2 := f_scanE (by omega) b1
      rw [if_neg (by decide)] at b2
      refine Or.inl ⟨c, fun z => q z.1, ?_⟩
      rw [b2]
      congr 1
      omega
  · rw [e] at b1
    exact Or.inr ⟨fun z => c z.1, by omega, by rw [ea]; exact b1⟩
theorem f_rd_ok {L : Row} {lm p : Nat} {B : Option Nat} (hp : p ≤ lm) (h0 : p < lm ∨ B = some p) (hB : f_scan L lm (lm - p) p (-1) = B ∨ ¬ p < lm) :
    ((f_rd L lm p).1 = true ∧ f_gd L lm p ∧ (f_rd L lm p).2 = p + 1 + f_a (L p) + f_d (L p) + 1 ∧ f_scan L lm (lm - (f_rd L lm p).2) (f_rd L lm p).2 (-1) = B) ∨ ((f_rd L lm p).1 = false ∧ B = some (f_rd L lm p).2) := by
  unfold f_rd
  by_cases hl : p < lm
  · have hB := hB.resolve_right (fun z => z hl)
    rw [if_neg (fun z => z hl)]
    by_cases h1 : f_w1 (L p) = -3
    · rw [if_pos h1]
      exact Or.inr ⟨rfl, f_scanF hl hB (by rw [f_ws_1]; exact h1)⟩
    · rw [if_neg h1]
      rcases f_sc_pre hl hB h1 with ⟨a, b, e⟩ | ⟨a, b, e⟩
      · rw [if_pos ⟨a, b⟩]
        exact Or.inr ⟨rfl, e⟩
      · rw [if_neg a]
        have hd4 : f_d (L p) ≤ 4 := by rcases f_w1_a h1 with ⟨-, -, -, z⟩ | ⟨-, -, -, -, z⟩ <;> omega
        by_cases k : f_dc L lm (p + 1 + f_a (L p)) (f_d (L p)) < f_d (L p)
        · rw [if_pos k]
          exact Or.inr ⟨rfl, f_sc_bad (by omega) b e (Nat.le_refl _) k⟩
        · rw [if_neg k]
          have hk := f_dc_le L lm (p + 1 + f_a (L p)) (f_d (L p))
          have ek : f_dc L lm (p + 1 + f_a (L p)) (f_d (L p)) = f_d (L p) := by omega
          obtain ⟨g1, g2⟩ := f_sc_dig (by omega) b e _ (Nat.le_refl _) ek
          rw [Nat.sub_self] at g2
          by_cases z : p + 1 + f_a (L p) + f_d (L p) < lm ∧ L (p + 1 + f_a (L p) + f_d (L p)) = 59
          · rw [if_pos z]
            have g3 := f_scanT z.1 g2 (by rw [f_ws_0, if_pos z.2]; decide)
            rw [f_ws_0, if_pos z.2] at g3
            refine Or.inl ⟨rfl, ⟨h1, z.1, fun c => ?_, fun i hi => ?_, z.2⟩, rfl, g3⟩
            · exact fun x => a ⟨c, fun y => y.2 x⟩
            · have hi2 : f_dc L lm (p + 1 + f_a (L p)) (i + 1) = i + 1 := by
                have e2 := f_dc_add (L := L) (lm := lm) (p := p + 1 + f_a (L p)) (a := i + 1) (f_d (L p) - (i + 1))
                rw [show i + 1 + (f_d (L p) - (i + 1)) = f_d (L p) by omega, ek] at e2
                have := f_dc_le L lm (p + 1 + f_a (L p)) (i + 1)
                split at e2
                · assumption
                · omega
              rw [f_dc_s] at hi2
              split at hi2
              · rename_i y; exact y.2.2
              · have := f_dc_le L lm (p + 1 + f_a (L p)) i; omega
          · rw [if_neg z]
            refine Or.inr ⟨rfl, ?_⟩
            by_cases y : p + 1 + f_a (L p) + f_d (L p) < lm
            · exact f_scanF y g2 (by rw [f_ws_0, if_neg (fun x => z ⟨y, x⟩)])
            · have g3 := f_scanE (by omega) g2
              rw [if_neg (by decide)] at g3
              rw [g3]
              congr 1
              omega
  · rw [if_pos hl]
    exact Or.inr ⟨rfl, h0.resolve_left hl⟩
