/-! ===== whole numbers as longs; the greatest common divisor ===== -/
theorem wN_add (a b : Nat) : lN a + lN b = lN (a + b) := (Int64.ofNat_add a b).symm
theorem wN_mul (a b : Nat) : lN a * lN b = lN (a * b) := (Int64.ofNat_mul a b).symm
theorem wN_toInt {n : Nat} (h : n < 2 ^ 63) : (lN n).toInt = n := Int64.toInt_ofNat_of_lt h
theorem wN_int {n : Nat} (h : n < 2 ^ 31) : (nI n).toInt64 = lN n := by
  rw [fa_eq64, Int32.toInt_toInt64, wN_toInt (by omega), nI_toInt h]
theorem wN_inj {a b : Nat} (ha : a < 2 ^ 63) (hb : b < 2 ^ 63) : lN a = lN b ↔ a = b := by
  rw [fa_eq64, wN_toInt ha, wN_toInt hb]; omega
theorem wN_ne0 {a : Nat} (ha : a < 2 ^ 63) (h : 0 < a) : ¬ lN a = 0 := fun e => by
  have := (wN_inj (b := 0) ha (by decide)).mp e
  omega
theorem wN_rem {a b : Nat} (ha : a < 2 ^ 63) (hb : b < 2 ^ 63) : lN a % lN b = lN (a % b) := by
  have h : a % b ≤ a := Nat.mod_le a b
  rw [fa_eq64, Int64.toInt_mod, wN_toInt ha, wN_toInt hb, wN_toInt (by omega)]
  exact (Int.ofNat_tmod a b).symm
theorem wN_div {a b : Nat} (ha : a < 2 ^ 63) (hb : b < 2 ^ 63) : lN a / lN b = lN (a / b) := by
  have h : a / b ≤ a := Nat.div_le_self a b
  rw [fa_eq64, Int64.toInt_div_of_ne_left, wN_toInt ha, wN_toInt hb, wN_toInt (by omega)]
  · exact (Int.ofNat_tdiv a b).symm
  · intro e
    have h2 := wN_toInt ha
    rw [e] at h2
    have : (Int64.minValue).toInt < 0 := by decide
    omega
theorem lg_lN0 {b : Nat} (hb : b < 2 ^ 63) : lg_cmp (lN b) 0 = 0 ↔ b = 0 := by
  unfold lg_cmp
  have e0 : (0 : Int64).toInt = 0 := by decide
  by_cases c : b = 0
  · subst c; decide
  · have c1 : lN b > 0 := by
      show (0 : Int64) < lN b
      rw [fa_lt64, e0, wN_toInt hb]; omega
    rw [if_pos c1]
    exact ⟨fun q => absurd q (by decide), fun q => absurd q c⟩
theorem lg_lN1 {b : Nat} (hb : b < 2 ^ 63) : 0 ≤ lg_cmp (lN b) 1 ↔ 1 ≤ b := by
  unfold lg_cmp
  have e0 : (1 : Int64).toInt = 1 := by decide
  by_cases c : 1 < b
  · have c1 : lN b > 1 := by
      show (1 : Int64) < lN b
      rw [fa_lt64, e0, wN_toInt hb]; omega
    rw [if_pos c1]
    exact ⟨fun _ => by omega, fun _ => by decide⟩
  · have c1 : ¬ lN b > 1 := by
      show ¬ (1 : Int64) < lN b
      rw [fa_lt64, e0, wN_toInt hb]; omega
    rw [if_neg c1]
    by_cases c2 : b = 1
    · subst c2; rw [if_pos (by rfl)]; exact ⟨fun _ => by omega, fun _ => by decide⟩
    · have c3 : ¬ lN b = 1 := fun e => c2 ((wN_inj (b := 1) hb (by decide)).mp e)
      rw [if_neg c3]
      exact ⟨fun q => absurd q (by decide), fun q => by omega⟩
/-- the loop's measure: i rounds done, a and b left of a0 and b0 -/
def f_gI (g i a b : Nat) : Prop := Nat.gcd a b = g ∧ 0 < g ∧ a < 2 ^ 40 ∧ b < 2 ^ 40 ∧ (i = 0 ∨ (b ≤ a ∧ a * b * 2 ^ i ≤ 2 ^ 100))
theorem f_gI_0 {a b : Nat} (ha : a < 2 ^ 40) (hb : b < 2 ^ 40) (h : 0 < a) : f_gI (Nat.gcd a b) 0 a b := ⟨rfl, Nat.gcd_pos_of_pos_left _ h, ha, hb, Or.inl rfl⟩
theorem f_gI_s {g i a b : Nat} (h : f_gI g i a b) (hb : ¬ b = 0) : f_gI g (i + 1) b (a % b) := by
  obtain ⟨e, h0, ha, hb2, h3⟩ := h
  have hm : a % b < b := Nat.mod_lt _ (by omega)
  refine ⟨?_, h0, hb2, by omega, Or.inr ⟨by omega, ?_⟩⟩
  · rw [← e, Nat.gcd_comm b, ← Nat.gcd_rec, Nat.gcd_comm]
  · rcases h3 with q | ⟨q1, q2⟩
    · subst q
      have : b * (a % b) ≤ 2 ^ 40 * 2 ^ 40 := Nat.mul_le_mul (by omega) (by omega)
      have e2 : (2 : Nat) ^ (0 + 1) = 2 := rfl
      rw [e2]
      have : (2 : Nat) ^ 40 * 2 ^ 40 = 2 ^ 80 := by decide
      have : (2 : Nat) ^ 80 * 2 ≤ 2 ^ 100 := by decide
      omega
    · have h5 : 2 * (a % b) ≤ a := by
        have := Nat.mod_add_div a b
        have h1 : 1 ≤ a / b := (Nat.le_div_iff_mul_le (by omega)).mpr (by omega)
        have : b * 1 ≤ b * (a / b) := Nat.mul_le_mul_left b h1
        omega
      calc b * (a % b) * 2 ^ (i + 1) = b * (2 * (a % b)) * 2 ^ i := by rw [Nat.pow_succ]; simp only [Nat.mul_assoc, Nat.mul_comm, Nat.mul_left_comm]
        _ ≤ b * a * 2 ^ i := Nat.mul_le_mul_right _ (Nat.mul_le_mul_left b h5)
        _ = a * b * 2 ^ i := by rw [Nat.mul_comm b a]
        _ ≤ 2 ^ 100 := q2
theorem f_gI_lt {g i a b : Nat} (h : f_gI g i a b) (hb : ¬ b = 0) : i < 1000 := by
  obtain ⟨e, h0, ha, hb2, h3⟩ := h
  rcases h3 with q | ⟨q1, q2⟩
  · omega
  · rcases Nat.lt_or_ge i 1000 with c | c
    · exact c
    · have h1 : 1 ≤ a * b := Nat.mul_pos (by omega) (by omega)
      have h2 : (2 : Nat) ^ 101 ≤ 2 ^ i := Nat.pow_le_pow_right (by decide) (by omega)
      have h4 : 1 * 2 ^ i ≤ a * b * 2 ^ i := Nat.mul_le_mul_right _ h1
      have : (2 : Nat) ^ 100 < 2 ^ 101 := by decide
      omega
theorem f_gI_e {g i a b : Nat} (h : f_gI g i a b) (hb : b = 0) : a = g := by
  obtain ⟨e, -⟩ := h
  subst hb
  rw [← e, Nat.gcd_zero_right]
theorem f_gI_1 {g a b : Nat} (h : f_gI g 1000 a b) : a = g := by
  by_cases c : b = 0
  · exact f_gI_e h c
  · have := f_gI_lt h c; omega
/-- a part, above to below, shortened: what 0 above, what 1 below -/
def f_part (above below : Nat) (what : Int32) : Int64 := if what = 0 then lN (above / Nat.gcd below above) else lN (below / Nat.gcd below above)
/-! a guest -/
def f_bit (s i : Nat) : Bool := f_has (nI s) (nI i)
def f_gs (n : Nat) (r : Row) (h s : Nat) : Nat → Row
  | 0 => r
  | i + 1 => f_week n (if f_bit s i = true ∧ f_kept (f_gs n r h s i) h = true then upd (f_gs n r h s i) (6 + 6 * h + 5) (f_least 9 (f_gs n r h s i (6 + 6 * h + 5) + 1)) else f_gs n r h s i)
theorem f_gs_s (n : Nat) (r : Row) (h s i : Nat) : f_gs n r h s (i + 1) = f_week n (if f_bit s i = true ∧ f_kept (f_gs n r h s i) h = true then upd (f_gs n r h s i) (6 + 6 * h + 5) (f_least 9 (f_gs n r h s i (6 + 6 * h + 5) + 1)) else f_gs n r h s i) := rfl
theorem wf_dent {n h : Nat} {r : Row} {v : Int32} (hw : wf n r) : wf n (upd r (6 + 6 * h + 5) v) := wf_o hw (by omega) (by omega) (by omega) (by omega) (fun x => ⟨by omega, by omega, by omega⟩)
theorem wf_gs {n : Nat} {r : Row} (hw : wf n r) (h s : Nat) : ∀ i, wf n (f_gs n r h s i)
  | 0 => hw
  | i + 1 => by
    rw [f_gs_s]
    apply wf_week
    split
    · exact wf_dent (wf_gs hw h s i)
    · exact wf_gs hw h s i
theorem f_gs_T {n h s i : Nat} {r : Row} (h1 : f_bit s i = true) (h2 : f_kept (f_gs n r h s i) h = true) : f_gs n r h s (i + 1) = f_week n (upd (f_gs n r h s i) (6 + 6 * h + 5) (f_least 9 (f_gs n r h s i (6 + 6 * h + 5) + 1))) := by rw [f_gs_s, if_pos ⟨h1, h2⟩]
theorem f_gs_1 {n h s i : Nat} {r : Row} (h1 : f_bit s i = false) : f_gs n r h s (i + 1) = f_week n (f_gs n r h s i) := by rw [f_gs_s, if_neg (fun q => by rw [h1] at q; exact absurd q.1 (by decide))]
theorem f_gs_2 {n h s i : Nat} {r : Row} (h1 : f_kept (f_gs n r h s i) h = false) : f_gs n r h s (i + 1) = f_week n (f_gs n r h s i) := by rw [f_gs_s, if_neg (fun q => by rw [h1] at q; exact absurd q.2 (by decide))]
/-- in how many of all the ways the guests come so -/
def f_ch (d s : Nat) : Nat → Nat
  | 0 => 1
  | i + 1 => f_ch d s i * (if f_bit s i = true then 1 else d)
def f_zc (s : Nat) : Nat → Nat
  | 0 => 0
  | i + 1 => f_zc s i + (if f_bit s i = true then 0 else 1)
theorem f_ch_zc (d s : Nat) : ∀ i, f_ch d s i = d ^ f_zc s i
  | 0 => rfl
  | i + 1 => by
    show f_ch d s i * _ = d ^ (f_zc s i + _)
    rw [f_ch_zc d s i]
    split
    · rw [Nat.mul_one, Nat.add_zero]
    · rw [Nat.pow_succ]
theorem f_zc_cnt : ∀ t : Fin 8, ∀ s : Fin 128, s.val < 2 ^ t.val → f_zc s.val t.val = t.val - f_cnt s.val := by decide +kernel
theorem f_ch_cnt {d s t : Nat} (ht : t ≤ 7) (hs : s < 2 ^ t) : f_ch d s t = d ^ (t - f_cnt s) := by
  have h7 : (2 : Nat) ^ t ≤ 2 ^ 7 := Nat.pow_le_pow_right (by decide) ht
  rw [f_ch_zc, f_zc_cnt ⟨t, by omega⟩ ⟨s, by omega⟩ hs]
def f_gsum (n : Nat) (r : Row) (h t d : Nat) : Nat → Nat
  | 0 => 0
  | s + 1 => f_gsum n r h t d s + (if f_kept (f_gs n r h s t) h = true then f_ch d s t else 0)
theorem f_ch_le {d s : Nat} (hd : d ≤ 19) : ∀ {t : Nat}, f_ch d s t ≤ 19 ^ t
  | 0 => Nat.le_refl _
  | t + 1 => by
    show f_ch d s t * _ ≤ 19 ^ t * 19
    refine Nat.mul_le_mul (f_ch_le hd) ?_
    split <;> omega
theorem f_gsum_le {n h t d : Nat} {r : Row} (hd : d ≤ 19) (ht : t ≤ 7) : ∀ s, f_gsum n r h t d s ≤ s * 2 ^ 30
  | 0 => Nat.zero_le _
  | s + 1 => by
    have h1 := f_gsum_le (n := n) (h := h) (r := r) hd ht s
    have h2 : f_ch d s t ≤ 2 ^ 30 := Nat.le_trans (f_ch_le hd) (Nat.le_trans (Nat.pow_le_pow_right (by decide) ht) (by decide))
    show f_gsum n r h t d s + _ ≤ _
    rw [Nat.succ_mul]
    refine Nat.add_le_add h1 ?_
    split
    · exact h2
    · exact Nat.zero_le _
def p_guest (n : Nat) (r : Row) (house t odds what : Int32) : Int64 × Nat :=
  if f_inN house n = true then (if t < 0 ∨ odds < 2 then (4000000000000000000 - (-nI 4).toInt64, 4) else if 7 < t ∨ 20 < odds then (4000000000000000000 - (-nI 6).toInt64, 6) else if f_in what 0 1 = true then (f_part (f_gsum n r house.toNatClampNeg t.toNatClampNeg (odds.toNatClampNeg - 1) (2 ^ t.toNatClampNeg)) (odds.toNatClampNeg ^ t.toNatClampNeg) what, 0) else (4000000000000000000 - (-nI 2).toInt64, 2)) else (4000000000000000000 - (-nI 1).toInt64, 1)
def p_mean (n : Nat) (r : Row) (what : Int32) : Int64 × Nat :=
  if f_in what 0 1 = true then (f_part (f_pplU r n).toNatClampNeg (Nat.max 1 n) what, 0) else (4000000000000000000 - (-nI 2).toInt64, 2)
