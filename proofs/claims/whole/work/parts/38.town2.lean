/-! ===== reading STATEMENT by STATEMENT finds the same first wrong letter ===== -/
theorem f_dc_fix {L : Row} {lm p : Nat} : ∀ d, f_dc L lm p (f_dc L lm p d) = f_dc L lm p d ∧ (f_dc L lm p d < d → ¬ (p + f_dc L lm p d < lm ∧ f_in (L (p + f_dc L lm p d)) 48 57 = true))
  | 0 => ⟨rfl, fun h => absurd h (Nat.lt_irrefl 0)⟩
  | d + 1 => by
    obtain ⟨h1, h2⟩ := f_dc_fix (L := L) (lm := lm) (p := p) d
    rw [f_dc_s]
    by_cases c : f_dc L lm p d = d ∧ p + d < lm ∧ f_in (L (p + d)) 48 57 = true
    · rw [if_pos c]
      exact ⟨f_dc_T c.1 c.2.1 c.2.2, fun h => absurd h (Nat.lt_irrefl _)⟩
    · rw [if_neg c]
      refine ⟨h1, fun _ => ?_⟩
      have := f_dc_le L lm p d
      by_cases e : f_dc L lm p d = d
      · rw [e]; exact fun q => c ⟨e, q⟩
      · exact h2 (by omega)
theorem f_ws_d {w : Nat} {c : Int32} (h0 : 0 < w) (hw : w < 1000) : f_ws (nI w) c = if f_in c 48 57 = true then nI (w - 1) else -3 := by
  have n1 : ¬ nI w = -1 := fun q => nI_pos (n := w) (by omega) (by rw [q]; decide)
  have n2 : ¬ nI w = -2 := fun q => nI_pos (n := w) (by omega) (by rw [q]; decide)
  have n3 : ¬ nI w = 0 := fun q => by
    have := (nI_eq (b := 0) (by omega) (by decide)).mp q
    omega
  unfold f_ws
  rw [if_neg n1, if_neg n2, if_neg n3]
  split
  · rw [show w = (w - 1) + 1 by omega]; exact nI_pred _
  · rfl
theorem f_ws_e {w : Nat} {c : Int32} (h0 : 0 < w) (hw : w < 1000) (h : f_in c 48 57 = true) : f_ws (nI w) c = nI (w - 1) := by rw [f_ws_d h0 hw, if_pos h]
theorem f_nI_ne {w : Nat} (hw : w < 1000) : ¬ nI w = -3 := fun q => nI_pos (n := w) (by omega) (by rw [q]; decide)
theorem f_nI_n1 {w : Nat} (hw : w < 1000) : ¬ nI w = -1 := fun q => nI_pos (n := w) (by omega) (by rw [q]; decide)
theorem f_sc_dig {L : Row} {lm p w : Nat} {B : Option Nat} (hw : w < 1000) (hp : p ≤ lm) (hB : f_scan L lm (lm - p) p (nI w) = B) : ∀ i, i ≤ w → f_dc L lm p i = i → p + i ≤ lm ∧ f_scan L lm (lm - (p + i)) (p + i) (nI (w - i)) = B
  | 0, _, _ => ⟨hp, hB⟩
  | i + 1, hi, h => by
    rw [f_dc_s] at h
    by_cases c : f_dc L lm p i = i ∧ p + i < lm ∧ f_in (L (p + i)) 48 57 = true
    · obtain ⟨a, b⟩ := f_sc_dig hw hp hB i (by omega) c.1
      have e := f_ws_e (w := w - i) (by omega) (by omega) c.2.2
      have b2 := f_scanT c.2.1 b (by rw [e]; exact f_nI_ne (by omega))
      rw [e] at b2
      exact ⟨by omega, by rw [show p + (i + 1) = p + i + 1 by omega, show w - (i + 1) = w - i - 1 by omega]; exact b2⟩
    · rw [if_neg c] at h
      have := f_dc_le L lm p i
      omega
theorem f_sc_bad {L : Row} {lm p w d : Nat} {B : Option Nat} (hw : w < 1000) (hp : p ≤ lm) (hB : f_scan L lm (lm - p) p (nI w) = B) (hd : d ≤ w) (h : f_dc L lm p d < d) : B = some (p + f_dc L lm p d) := by
  obtain ⟨h1, h2⟩ := f_dc_fix (L := L) (lm := lm) (p := p) d
  obtain ⟨a, b⟩ := f_sc_dig hw hp hB _ (by omega) h1
  have h3 := h2 h
  by_cases c : p + f_dc L lm p d < lm
  · refine f_scanF c b ?_
    rw [f_ws_d (by omega) (by omega), if_neg (fun q => h3 ⟨c, q⟩)]
  · have e := f_scanE (by omega) b
    rw [if_neg (f_nI_n1 (by omega))] at e
    rw [e]
    congr 1
    omega
theorem f_dc_add {L : Row} {lm p a : Nat} : ∀ b, f_dc L lm p (a + b) = if f_dc L lm p a = a then a + f_dc L lm (p + a) b else f_dc L lm p a
  | 0 => by
    by_cases c : f_dc L lm p a = a
    · rw [if_pos c, Nat.add_zero, c]; rfl
    · rw [if_neg c, Nat.add_zero]
  | b + 1 => by
    rw [show a + (b + 1) = (a + b) + 1 by omega, f_dc_s, f_dc_add b]
    by_cases c : f_dc L lm p a = a
    · rw [if_pos c, if_pos c, f_dc_s]
      by_cases q : f_dc L lm (p + a) b = b ∧ p + a + b < lm ∧ f_in (L (p + a + b)) 48 57 = true
      · rw [if_pos q, if_pos ⟨by omega, by omega, by rw [show p + (a + b) = p + a + b by omega]; exact q.2.2⟩]; omega
      · rw [if_neg q, if_neg (fun z => q ⟨by omega, by omega, by rw [show p + a + b = p + (a + b) by omega]; exact z.2.2⟩)]
    · rw [if_neg c, if_neg c]
      have := f_dc_le L lm p a
      rw [if_neg (fun z => by omega)]
/-- what reading one STATEMENT from place p does: is it one, and the place then -/
def f_rd (L : Row) (lm p : Nat) : Bool × Nat :=
  if ¬ p < lm then (false, p) else if f_w1 (L p) = -3 then (false, p)
  else if L p = 104 ∧ ¬ (p + 1 < lm ∧ ¬ f_kd (L (p + 1)) = -9) then (false, p + 1)
  else if f_dc L lm (p + 1 + f_a (L p)) (f_d (L p)) < f_d (L p) then (false, p + 1 + f_a (L p) + f_dc L lm (p + 1 + f_a (L p)) (f_d (L p)))
  else if p + 1 + f_a (L p) + f_d (L p) < lm ∧ L (p + 1 + f_a (L p) + f_d (L p)) = 59 then (true, p + 1 + f_a (L p) + f_d (L p) + 1)
  else (false, p + 1 + f_a (L p) + f_d (L p))
theorem f_w1_a {c : Int32} (h : ¬ f_w1 c = -3) : (c = 104 ∧ f_w1 c = -2 ∧ f_a c = 1 ∧ f_d c = 4) ∨ (¬ c = 104 ∧ f_w1 c = nI (f_d c) ∧ f_a c = 0 ∧ 0 < f_d c ∧ f_d c ≤ 3) := by
  by_cases c0 : c = 104
  · subst c0; exact Or.inl ⟨rfl, by decide, by decide, by decide⟩
  · refine Or.inr ⟨c0, ?_⟩
    by_cases c1 : c = 112
    · subst c1; exact ⟨by decide, by decide, by decide, by decide⟩
    · by_cases c2 : c = 100
      · subst c2; exact ⟨by decide, by decide, by decide, by decide⟩
      · by_cases c3 : c = 99
        · subst c3; exact ⟨by decide, by decide, by decide, by decide⟩
        · by_cases c4 : c = 119
          · subst c4; exact ⟨by decide, by decide, by decide, by decide⟩
          · by_cases c5 : c = 120
            · subst c5; exact ⟨by decide, by decide, by decide, by decide⟩
            · by_cases c6 : c = 105
              · subst c6; exact ⟨by decide, by decide, by decide, by decide⟩
              · exact absurd (by unfold f_w1; rw [if_neg c0, if_neg c1, if_neg c2, if_neg c3, if_neg c4, if_neg c5, if_neg c6]) h
theorem f_ws_1 (c : Int32) : f_ws (-1) c = f_w1 c := if_pos rfl
theorem f_ws_2 (c : Int32) : f_ws (-2) c = if f_kd c = -9 then -3 else 4 := by unfold f_ws; rw [if_neg (by decide), if_pos rfl]
theorem f_ws_0 (c : Int32) : f_ws (nI 0) c = if c = 59 then -1 else -3 := by unfold f_ws; rw [if_neg (by decide), if_neg (by decide), if_pos (by rfl)]
/-- behind the first letter and the kind: the digits are awaited -/
theorem f_sc_pre {L : Row} {lm p : Nat} {B : Option Nat} (hp : p < lm) (hB : f_scan L lm (lm - p) p (-1) = B) (h1 : ¬ f_w1 (L p) = -3) :
    (L p = 104 ∧ ¬ (p + 1 < lm ∧ ¬ f_kd (L (p + 1)) = -9) ∧ B = some (p + 1)) ∨ (¬ (L p = 104 ∧ ¬ (p + 1 < lm ∧ ¬ f_kd (L (p + 1)) = -9)) ∧ p + 1 + f_a (L p) ≤ lm ∧ f_scan L lm (lm - (p + 1 + f_a (L p))) (p + 1 + f_a (L p)) (nI (f_d (L p))) = B) := by
  have b1 := f_scanT hp hB (by rw [f_ws_1]; exact h1)
  rw [f_ws_1] at b1
  rcases f_w1_a h1 with ⟨c, e, ea, ed⟩ | ⟨c, e, ea, -⟩
  · rw [e] at b1
    by_cases q : p + 1 < lm
    · by_cases k : f_kd (L (p + 1)) = -9
      · exact Or.inl ⟨c, fun z => z.2 k, f_scanF q b1 (by rw [f_ws_2, if_pos k])⟩
      · have b2 := f_scanT q b1 (by rw [f_ws_2, if_neg k]; decide)
        rw [f_ws_2, if_neg k] at b2
        refine Or.inr ⟨fun z => z.2 ⟨q, k⟩, by omega, ?_⟩
        rw [ea, ed]
        exact b2
    · have b2 := f_scanE (by omega) b1
      rw [if_neg (by decide)] at b2
      refine Or.inl ⟨c, fun z => q z.1, ?_⟩
      rw [b2]
      congr 1
      omega
  · rw [e] at b1
    exact Or.inr ⟨fun z => c z.1, by omega, by rw [ea]; exact b1⟩
theorem f_rd_ok {L : Row} {lm p : Nat} {B : Option Nat} (hp : p ≤ lm) (h0 : p < lm ∨ B = some p) (hB : f_scan L lm (lm - p) p (-1) = B ∨ ¬ p < lm) :
    ((f_rd L lm p).1 = true ∧ f_gd L lm p ∧ (f_rd L lm p).2 = p + 1 + f_a (L p) + f_d (L p) + 1 ∧ f_scan L lm (lm - (f_rd L lm p).2) (f_rd L lm p).2 (-1) = B) ∨ ((f_rd L lm p).1 = false ∧ B = some (f_rd L lm p).2) := by
  unfold f_rd
  by_cases hl : p < lm
  · have hB := hB.resolve_right (fun z => z hl)
    rw [if_neg (fun z => z hl)]
    by_cases h1 : f_w1 (L p) = -3
    · rw [if_pos h1]
      exact Or.inr ⟨rfl, f_scanF hl hB (by rw [f_ws_1]; exact h1)⟩
    · rw [if_neg h1]
      rcases f_sc_pre hl hB h1 with ⟨a, b, e⟩ | ⟨a, b, e⟩
      · rw [if_pos ⟨a, b⟩]
        exact Or.inr ⟨rfl, e⟩
      · rw [if_neg a]
        have hd4 : f_d (L p) ≤ 4 := by rcases f_w1_a h1 with ⟨-, -, -, z⟩ | ⟨-, -, -, -, z⟩ <;> omega
        by_cases k : f_dc L lm (p + 1 + f_a (L p)) (f_d (L p)) < f_d (L p)
        · rw [if_pos k]
          exact Or.inr ⟨rfl, f_sc_bad (by omega) b e (Nat.le_refl _) k⟩
        · rw [if_neg k]
          have hk := f_dc_le L lm (p + 1 + f_a (L p)) (f_d (L p))
          have ek : f_dc L lm (p + 1 + f_a (L p)) (f_d (L p)) = f_d (L p) := by omega
          obtain ⟨g1, g2⟩ := f_sc_dig (by omega) b e _ (Nat.le_refl _) ek
          rw [Nat.sub_self] at g2
          by_cases z : p + 1 + f_a (L p) + f_d (L p) < lm ∧ L (p + 1 + f_a (L p) + f_d (L p)) = 59
          · rw [if_pos z]
            have g3 := f_scanT z.1 g2 (by rw [f_ws_0, if_pos z.2]; decide)
            rw [f_ws_0, if_pos z.2] at g3
            refine Or.inl ⟨rfl, ⟨h1, z.1, fun c => ?_, fun i hi => ?_, z.2⟩, rfl, g3⟩
            · exact fun x => a ⟨c, fun y => y.2 x⟩
            · have hi2 : f_dc L lm (p + 1 + f_a (L p)) (i + 1) = i + 1 := by
                have e2 := f_dc_add (L := L) (lm := lm) (p := p + 1 + f_a (L p)) (a := i + 1) (f_d (L p) - (i + 1))
                rw [show i + 1 + (f_d (L p) - (i + 1)) = f_d (L p) by omega, ek] at e2
                have := f_dc_le L lm (p + 1 + f_a (L p)) (i + 1)
                split at e2
                · assumption
                · omega
              rw [f_dc_s] at hi2
              split at hi2
              · rename_i y; exact y.2.2
              · have := f_dc_le L lm (p + 1 + f_a (L p)) i; omega
          · rw [if_neg z]
            refine Or.inr ⟨rfl, ?_⟩
            by_cases y : p + 1 + f_a (L p) + f_d (L p) < lm
            · exact f_scanF y g2 (by rw [f_ws_0, if_neg (fun x => z ⟨y, x⟩)])
            · have g3 := f_scanE (by omega) g2
              rw [if_neg (by decide)] at g3
              rw [g3]
              congr 1
              omega
  · rw [if_pos hl]
    exact Or.inr ⟨rfl, h0.resolve_left hl⟩
def f_end (L : Row) (p : Nat) : Nat := p + 1 + f_a (L p) + f_d (L p) + 1
/-- within a STATEMENT there is no other's start -/
theorem f_gd_in {L : Row} {lm p : Nat} (h : f_gd L lm p) : ∀ k, p < k → k < f_end L p → ¬ (k = 0 ∨ L (k - 1) = 59) := by
  intro k h1 h2 q
  unfold f_end at h2
  rcases q with q | q
  · omega
  · obtain ⟨a, b, c, d, e⟩ := h
    by_cases e0 : k - 1 = p
    · rw [e0] at q
      rw [q] at a
      exact a (by decide)
    · by_cases e1 : k - 1 = p + 1 ∧ L p = 104
      · rw [e1.1] at q
        have := c e1.2
        rw [q] at this
        exact this (by decide)
      · have ha : f_a (L p) = 1 ∧ L p = 104 ∨ f_a (L p) = 0 := by
          unfold f_a
          by_cases z : L p = 104
          · rw [if_pos z]; exact Or.inl ⟨rfl, z⟩
          · rw [if_neg z]; exact Or.inr rfl
        have hge : p + 1 + f_a (L p) ≤ k - 1 := by
          rcases ha with ⟨z1, z2⟩ | z1
          · have : ¬ k - 1 = p + 1 := fun y => e1 ⟨y, z2⟩
            omega
          · omega
        have h3 := d (k - 1 - (p + 1 + f_a (L p))) (by omega)
        rw [show p + 1 + f_a (L p) + (k - 1 - (p + 1 + f_a (L p))) = k - 1 by omega, q] at h3
        exact absurd h3 (by decide)
theorem f_gd_end {L : Row} {lm p : Nat} (h : f_gd L lm p) : f_end L p ≤ lm ∧ L (f_end L p - 1) = 59 := by
  obtain ⟨-, b, -, -, e⟩ := h
  unfold f_end
  refine ⟨by omega, ?_⟩
  rw [show p + 1 + f_a (L p) + f_d (L p) + 1 - 1 = p + 1 + f_a (L p) + f_d (L p) by omega]
  exact e
theorem f_sc_end {L : Row} {lm p : Nat} (hp : p < lm) (h : f_scan L lm (lm - p) p (-1) = none) : f_gd L lm p ∧ f_scan L lm (lm - f_end L p) (f_end L p) (-1) = none := by
  rcases f_rd_ok (Nat.le_of_lt hp) (Or.inl hp) (Or.inl h) with ⟨-, a, b, c⟩ | ⟨-, e⟩
  · rw [b] at c; exact ⟨a, c⟩
  · exact absurd e (by simp)
theorem f_all {L : Row} {lm : Nat} : ∀ m p, lm - p ≤ m → p ≤ lm → f_scan L lm (lm - p) p (-1) = none → ∀ k, p ≤ k → k < lm → (k = p ∨ L (k - 1) = 59) → f_gd L lm k
  | 0, p, hm, hp, h, k, h1, h2, h3 => absurd h2 (by omega)
  | m + 1, p, hm, hp, h, k, h1, h2, h3 => by
    obtain ⟨a, b⟩ := f_sc_end (by omega) h
    by_cases e : k = p
    · rw [e]; exact a
    · have h4 := h3.resolve_left e
      by_cases q : k < f_end L p
      · exact absurd (Or.inr h4) (f_gd_in a k (by omega) q)
      · obtain ⟨c, d⟩ := f_gd_end a
        have : p < f_end L p := by unfold f_end; omega
        exact f_all m (f_end L p) (by omega) c b k (by omega) h2 (Or.inr h4)
theorem f_good {L : Row} {lm : Nat} (h : f_brk L lm = none) : 0 < lm ∧ ∀ k, k < lm → (k = 0 ∨ L (k - 1) = 59) → f_gd L lm k := by
  unfold f_brk at h
  by_cases c : lm = 0
  · rw [if_pos c] at h; exact absurd h (by simp)
  · rw [if_neg c] at h
    exact ⟨by omega, fun k hk hs => f_all lm 0 (by omega) (by omega) h k (by omega) hk hs⟩
/-- how many STATEMENTS start in d places from k on -/
def f_ns (L : Row) : Nat → Nat → Nat
  | 0, _ => 0
  | d + 1, k => if k = 0 ∨ L (k - 1) = 59 then f_ns L d (k + 1) + 1 else f_ns L d (k + 1)
theorem f_ns_s {L : Row} {lm k : Nat} (hk : k < lm) : f_ns L (lm - k) k = if k = 0 ∨ L (k - 1) = 59 then f_ns L (lm - (k + 1)) (k + 1) + 1 else f_ns L (lm - (k + 1)) (k + 1) := by
  rw [show lm - k = (lm - (k + 1)) + 1 by omega]; rfl
theorem f_ns_n {L : Row} {lm : Nat} : ∀ m k, k + m ≤ lm → (∀ j, k ≤ j → j < k + m → ¬ (j = 0 ∨ L (j - 1) = 59)) → f_ns L (lm - k) k = f_ns L (lm - (k + m)) (k + m)
  | 0, k, _, _ => rfl
  | m + 1, k, h, hn => by
    rw [f_ns_s (by omega), if_neg (hn k (by omega) (by omega)), show k + (m + 1) = k + 1 + m by omega]
    exact f_ns_n m (k + 1) (by omega) (fun j h1 h2 => hn j (by omega) (by omega))
theorem f_ns_st {L : Row} {lm p : Nat} (h : f_gd L lm p) (hs : p = 0 ∨ L (p - 1) = 59) : f_ns L (lm - p) p = f_ns L (lm - f_end L p) (f_end L p) + 1 := by
  obtain ⟨c, -⟩ := f_gd_end h
  have h1 : p < f_end L p := by unfold f_end; omega
  rw [f_ns_s (by omega), if_pos hs, f_ns_n (f_end L p - (p + 1)) (p + 1) (by omega) (fun j h2 h3 => f_gd_in h j (by omega) (by omega)), show p + 1 + (f_end L p - (p + 1)) = f_end L p by omega]
theorem f_ns_le {L : Row} : ∀ d k, f_ns L d k ≤ d
  | 0, _ => Nat.le_refl 0
  | d + 1, k => by
    unfold f_ns
    have := f_ns_le (L := L) d (k + 1)
    split <;> omega
theorem f_tg_n {n0 n lm c : Nat} {r0 r L : Row} : ∀ m k, k + m ≤ lm → (∀ j, k ≤ j → j < k + m → ¬ (j = 0 ∨ L (j - 1) = 59)) → f_tg n0 r0 L (lm - k) k c n r = f_tg n0 r0 L (lm - (k + m)) (k + m) c n r
  | 0, k, _, _ => rfl
  | m + 1, k, h, hn => by
    rw [← f_tgN (x := f_tg n0 r0 L (lm - k) k c n r) (by omega) rfl (hn k (by omega) (by omega)), show k + (m + 1) = k + 1 + m by omega]
    exact f_tg_n m (k + 1) (by omega) (fun j h1 h2 => hn j (by omega) (by omega))
theorem f_tg_st {n0 n n' lm c p : Nat} {r0 r r' L : Row} (h : f_gd L lm p) (hs : p = 0 ∨ L (p - 1) = 59) (e : f_st n r L p = some (n', r')) : f_tg n0 r0 L (lm - p) p c n r = f_tg n0 r0 L (lm - f_end L p) (f_end L p) (c + 1) n' r' := by
  obtain ⟨q, -⟩ := f_gd_end h
  have h1 : p < f_end L p := by unfold f_end; omega
  rw [← f_tgT (x := f_tg n0 r0 L (lm - p) p c n r) (by omega) rfl hs e, f_tg_n (f_end L p - (p + 1)) (p + 1) (by omega) (fun j h2 h3 => f_gd_in h j (by omega) (by omega)), show p + 1 + (f_end L p - (p + 1)) = f_end L p by omega]
def a_town (s : ZS) : Int32 × ZS := match f_brk s.L s.lm with
  | some q => (-1000 - nI q, zs s.n s.r s.hi s.ni s.ri 0 s.L s.rm s.R s.f)
  | none => ((f_tg s.n s.r s.L s.lm 0 0 s.n s.r).1, zs (f_tg s.n s.r s.L s.lm 0 0 s.n s.r).2.1 (f_tg s.n s.r s.L s.lm 0 0 s.n s.r).2.2 s.hi s.ni s.ri 0 s.L s.rm s.R s.f)
theorem f_scan_le {L : Row} {lm : Nat} : ∀ d p w q, p + d = lm → f_scan L lm d p w = some q → q ≤ lm
  | 0, p, w, q, _, h => by
    unfold f_scan at h
    split at h
    · exact absurd h (by simp)
    · simp only [Option.some.injEq] at h; omega
  | d + 1, p, w, q, e, h => by
    unfold f_scan at h
    split at h
    · simp only [Option.some.injEq] at h; omega
    · exact f_scan_le d (p + 1) _ q (by omega) h
theorem f_brk_le {L : Row} {lm q : Nat} (h : f_brk L lm = some q) : q ≤ lm := by
  unfold f_brk at h
  split at h
  · simp only [Option.some.injEq] at h; omega
  · exact f_scan_le lm 0 _ q (by omega) h
theorem f_tg_wf {n0 lm : Nat} {r0 L : Row} (hw0 : wf n0 r0) (h50 : r0 5 = 0) (hgood : ∀ k, k < lm → (k = 0 ∨ L (k - 1) = 59) → f_gd L lm k) : ∀ d k c n r, k + d = lm → wf n r → r 5 = 0 → wf (f_tg n0 r0 L d k c n r).2.1 (f_tg n0 r0 L d k c n r).2.2 ∧ (f_tg n0 r0 L d k c n r).2.2 5 = 0
  | 0, _, _, _, _, _, hw, h5 => ⟨hw, h5⟩
  | d + 1, k, c, n, r, e, hw, h5 => by
    unfold f_tg
    by_cases q : k = 0 ∨ L (k - 1) = 59
    · rw [if_pos q]
      cases hs : f_st n r L k with
      | none => exact ⟨hw0, h50⟩
      | some z =>
        obtain ⟨n', r'⟩ := z
        obtain ⟨a, b⟩ := f_st_wf hw h5 (hgood k (by omega) q) hs
        exact f_tg_wf hw0 h50 hgood d (k + 1) (c + 1) n' r' (by omega) a b
    · rw [if_neg q]
      exact f_tg_wf hw0 h50 hgood d (k + 1) c n r (by omega) hw h5
theorem CI.off12 {σ τ : Mem} {s : ZS} {n : Nat} {r : Row} (h : CI σ s) (ok : s.ok) (t : TI τ 1 n r) (o : Off12 σ τ) : CI τ (zs n r s.hi s.ni s.ri s.lm s.L s.rm s.R s.f) := by
  obtain ⟨a, b, g, d, i, j, k, l, m⟩ := h
  refine ⟨a.eq (fun k hk => o k (by unfold inT; omega) (by unfold inT; omega)), t, fun e => (g e).eq (ok.2.2.1 e).1.1 (fun k hk => o k (by unfold inT at *; omega) (by unfold inT at *; omega)), ?_, ?_, fun x hx => ?_, ?_, fun x hx => ?_, fun x h1 h2 => ?_⟩
  · rw [o 0 (by unfold inT; omega) (by unfold inT; omega)]; exact d
  · rw [o 28 (by unfold inT; omega) (by unfold inT; omega)]; exact i
  · rw [o 31 (by unfold inT; omega) (by unfold inT; omega)]; exact j x hx
  · rw [o 29 (by unfold inT; omega) (by unfold inT; omega)]; exact k
  · rw [o 32 (by unfold inT; omega) (by unfold inT; omega)]; exact l x hx
  · rw [o 34 (by unfold inT; omega) (by unfold inT; omega)]; exact m x h1 h2
theorem a_town_s {s : ZS} {q : Nat} (h : f_brk s.L s.lm = some q) : a_town s = (-1000 - nI q, zs s.n s.r s.hi s.ni s.ri 0 s.L s.rm s.R s.f) := by unfold a_town; rw [h]
theorem a_town_n {s : ZS} (h : f_brk s.L s.lm = none) : a_town s = ((f_tg s.n s.r s.L s.lm 0 0 s.n s.r).1, zs (f_tg s.n s.r s.L s.lm 0 0 s.n s.r).2.1 (f_tg s.n s.r s.L s.lm 0 0 s.n s.r).2.2 s.hi s.ni s.ri 0 s.L s.rm s.R s.f) := by unfold a_town; rw [h]
