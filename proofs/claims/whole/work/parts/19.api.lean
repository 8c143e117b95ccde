/-! ===== what the questions leave, of the class and of the reference ===== -/
def Rz (a c : Nat) (σ τ : Mem) : Prop := ∀ j, 1 ≤ j → j < 7 → τ a j = if j = c then σ a j + 1 else σ a j
/-- the class: the thought, the numbers kept behind, refusals apart all is as it was -/
def Qz (c : Nat) (σ τ : Mem) : Prop := (∀ k, k ≠ 30 → k ≠ 33 → k ≠ 34 → ¬ inT 2 k → τ k = σ k) ∧ Rz 34 c σ τ
def Qm (c : Nat) (σ τ : Mem) : Prop := (∀ k, k ≠ 35 → k ≠ 37 → k ≠ 39 → k ≠ 42 → k ≠ 43 → τ k = σ k) ∧ (∀ j, j = 4 ∨ j = 8 ∨ j = 9 → τ 35 j = σ 35 j) ∧ Rz 42 c σ τ
theorem Rz.rf {a : Nat} {σ τ : Mem} (h : τ a = σ a) : Rz a 0 σ τ := fun j h1 _ => by rw [if_neg (by omega), h]
theorem Qz.off {σ τ : Mem} (h : Off 2 σ τ) : Qz 0 σ τ := ⟨fun k _ _ _ h4 => h k h4, Rz.rf (h 34 (by unfold inT; omega))⟩
theorem Qz.rf {σ : Mem} : Qz 0 σ σ := Qz.off Off.rf
theorem Rz.up {a c : Nat} {σ : Mem} : Rz a c σ (mx_up σ a c (σ a c + 1)) := fun j _ _ => by
  rw [mx_up_s]
  unfold upd
  by_cases e : j = c
  · rw [if_pos e, if_pos e, e]
  · rw [if_neg e, if_neg e]
theorem Qz.no {c : Nat} {σ : Mem} : Qz c σ (mx_up σ 34 c (σ 34 c + 1)) := ⟨fun k _ _ h3 _ => mx_up_o h3, Rz.up⟩
theorem Qm.no {c : Nat} {σ : Mem} : Qm c σ (mx_up σ 42 c (σ 42 c + 1)) := ⟨fun k _ _ _ h4 _ => mx_up_o h4, fun _ _ => by rw [mx_up_o (by decide)], Rz.up⟩
theorem Qm.rf {σ : Mem} : Qm 0 σ σ := ⟨fun _ _ _ _ _ _ => rfl, fun _ _ => rfl, Rz.rf rfl⟩
theorem Qm.row {σ τ : Mem} {a : Nat} {f : Row} (h : Qm 0 σ τ) (ha : a = 37 ∨ a = 39) : Qm 0 σ (mx_row τ a f) := by
  refine ⟨fun k h1 h2 h3 h4 h5 => ?_, fun j hj => ?_, fun j h1 h2 => ?_⟩
  · rw [mx_row_o (by omega)]; exact h.1 k h1 h2 h3 h4 h5
  · rw [mx_row_o (by omega)]; exact h.2.1 j hj
  · rw [mx_row_o (by omega)]; exact h.2.2 j h1 h2
theorem Qm.tr {σ τ υ : Mem} {c : Nat} (h : Qm 0 σ τ) (h2 : Qm c τ υ) : Qm c σ υ := by
  refine ⟨fun k h1 h2' h3 h4 h5 => (h2.1 k h1 h2' h3 h4 h5).trans (h.1 k h1 h2' h3 h4 h5), fun j hj => (h2.2.1 j hj).trans (h.2.1 j hj), fun j a b => ?_⟩
  rw [h2.2.2 j a b, h.2.2 j a b, if_neg (show ¬ j = 0 by omega)]
theorem f_inN_t {i : Int32} {n : Nat} (hn : n < 2 ^ 31) (h : f_inN i n = true) : ∃ j, j < n ∧ i = nI j := by
  unfold f_inN at h
  rw [Bool.and_eq_true, decide_eq_true_eq, decide_eq_true_eq] at h
  obtain ⟨j, hj, e⟩ := nI_of (Int32.not_lt.mpr h.1)
  subst e
  exact ⟨j, (nI_ltI hj hn).mp h.2, rfl⟩
theorem f_inN_n {j n : Nat} (hn : n < 2 ^ 31) (h : j < n) : f_inN (nI j) n = true := by
  unfold f_inN
  rw [decide_eq_true (nI_pos' (by omega)), decide_eq_true (nI_lt h hn)]
  rfl
def f_out (v lo hi : Int32) : Int32 := if v < lo then -4 else if hi < v then -6 else 0
theorem f_out_c {v lo hi : Int32} {l h : Nat} (hh : h < 2 ^ 31) (hl : l < 2 ^ 31) (el : lo = nI l) (eh : hi = nI h) : (v < lo ∧ f_out v lo hi = -4) ∨ (¬ v < lo ∧ hi < v ∧ f_out v lo hi = -6) ∨ (∃ j, l ≤ j ∧ j ≤ h ∧ v = nI j ∧ ¬ nI j < lo ∧ ¬ hi < nI j ∧ f_out v lo hi = 0) := by
  subst el
  subst eh
  unfold f_out
  by_cases c1 : v < nI l
  · exact Or.inl ⟨c1, if_pos c1⟩
  · by_cases c2 : nI h < v
    · exact Or.inr (Or.inl ⟨c1, c2, by rw [if_neg c1, if_pos c2]⟩)
    · refine Or.inr (Or.inr ?_)
      have h0 : ¬ v < 0 := fun q => c1 (by
        rw [fa_lt] at q ⊢
        rw [nI_toInt hl]
        have : (0 : Int32).toInt = 0 := by decide
        omega)
      obtain ⟨j, hj, e⟩ := nI_of h0
      subst e
      have h1 : ¬ j < l := fun q => c1 (nI_lt q hl)
      have h2 : ¬ h < j := fun q => c2 (nI_lt q hj)
      exact ⟨j, by omega, by omega, rfl, c1, c2, by rw [if_neg c1, if_neg c2]⟩
theorem TI.offt {t u n : Nat} {r : Row} {σ τ : Mem} (h : TI σ t n r) (hn : n ≤ 6) (ht : 1 ≤ t) (ht2 : t < 4) (hu : 1 ≤ u) (hu2 : u < 4) (hne : t ≠ u) (ho : Off u σ τ) : TI τ t n r := by
  have e : τ t = σ t := ho t (fun q => by rcases q with q | q <;> omega)
  refine ⟨by rw [e]; exact h.1, by rw [e]; exact h.2.1, by rw [e]; exact h.2.2.1, by rw [e]; exact h.2.2.2.1, fun i hi => ?_⟩
  rw [ho _ (fun q => by rcases q with q | q <;> omega)]
  exact h.2.2.2.2 i hi
theorem f_in_t {v : Int32} {hi : Nat} (hh : hi < 2 ^ 31) (h : f_in v 0 (nI hi) = true) : ∃ j, j ≤ hi ∧ v = nI j := by
  unfold f_in at h
  rw [Bool.and_eq_true, decide_eq_true_eq, decide_eq_true_eq] at h
  obtain ⟨j, hj, e⟩ := nI_of (Int32.not_lt.mpr h.1)
  subst e
  exact ⟨j, (nI_leI hj hh).mp h.2, rfl⟩
/-! ===== the questions' answers: the answer, and the refusal's number (0 none) ===== -/
def p_house (n : Nat) (r : Row) (house what : Int32) : Int32 × Nat :=
  if f_inN house n = true then
    (if f_in what 0 5 = true then (r (6 + 6 * house.toNatClampNeg + what.toNatClampNeg), 0) else if what = 6 then (zb (f_kept r house.toNatClampNeg), 0) else if what = 7 then (f_crowdR r house.toNatClampNeg, 0) else if what = 8 then (zb (f_isF r house.toNatClampNeg), 0) else (-2, 2))
  else (-1, 1)
def p_houseThen (n : Nat) (r : Row) (house k what : Int32) : Int32 × Nat :=
  if f_inN house n = true then (if k < 0 then (-4, 4) else if 60 < k then (-6, 6) else if f_in what 0 2 = true then
    (f_weeks n r k.toNatClampNeg (6 + 6 * house.toNatClampNeg + (if what = 0 then 4 else if what = 1 then 5 else 3)), 0) else (-2, 2))
  else (-1, 1)
def p_then (n : Nat) (r : Row) (k what : Int32) : Int32 × Nat :=
  if k < 0 then (-4, 4) else if 60 < k then (-6, 6) else if f_in what 0 2 = true then
    (if what = 0 then f_weeks n r k.toNatClampNeg 4 else if what = 1 then f_weeks n r k.toNatClampNeg 3 else if n = 0 then -9 else f_weeks n r k.toNatClampNeg 2, 0) else (-2, 2)
/-- behind how many WEEKS one is LOST, from behind k on -/
def f_whenG (n : Nat) (r : Row) (h : Nat) : Nat → Nat → Int32
  | 0, _ => -9
  | d + 1, k => if f_kept (f_weeks n r k) h = false then nI k else f_whenG n r h d (k + 1)
def f_when (n : Nat) (r : Row) (h : Nat) : Int32 := f_whenG n r h 61 0
def f_darkG (n : Nat) (r : Row) : Nat → Nat → Int32
  | 0, _ => -9
  | d + 1, k => if f_weeks n r k 3 < f_burnsU (f_weeks n r k) n then nI k else f_darkG n r d (k + 1)
def f_keptN (n : Nat) (r : Row) (k : Nat) : Int32 := f_bits (f_weeks n r k 4)
def f_stillG (n : Nat) (r : Row) : Nat → Nat → Int32
  | 0, _ => -9
  | d + 1, k => if f_keptN n r k = f_keptN n r (k + 20) then nI k else f_stillG n r d (k + 1)
/-- the first LOST of those KEPT now: the week's first, of several the least -/
def f_flU (r q : Row) : Nat → Nat → Option Nat
  | 0, _ => none
  | d + 1, i => if f_kept r i = true ∧ f_kept q i = false then some i else f_flU r q d (i + 1)
def f_flG (n : Nat) (r : Row) : Nat → Nat → Int32
  | 0, _ => -9
  | d + 1, k => match f_flU r (f_weeks n r k) n 0 with
    | some i => nI i
    | none => f_flG n r d (k + 1)
def p_lost (n : Nat) (r : Row) (house : Int32) : Int32 × Nat :=
  if house = -1 then (f_flG n r 60 1, 0) else if f_inN house n = true then (f_when n r house.toNatClampNeg, 0) else (-1, 1)
def p_spare (n : Nat) (r : Row) (what : Int32) : Int32 × Nat :=
  if what = 0 then (f_spareU r n, 0) else if what = 1 then (f_o9 (f_bestU (f_crowdR r) (f_kept r) n), 0) else if what = 2 then (f_o9 (f_bestU (fun x => r (6 + 6 * x + 4)) (f_kept r) n), 0) else if what = 3 then (f_burnsU r n, 0)
  else if what = 4 then (if f_burnsU r n = 0 then 99 else r 3 / f_burnsU r n, 0) else (-2, 2)
def p_next (n : Nat) (r : Row) (house : Int32) : Int32 × Nat := if f_inN house n = true then (f_next n r house.toNatClampNeg, 0) else (-1, 1)
def p_run (n : Nat) (r : Row) (what : Int32) : Int32 × Nat :=
  if what = 0 then (nI (f_runC n (r 4).toNatClampNeg n), 0) else if what = 1 then (f_setU (f_noP r) n, 0) else if what = 2 then (f_setU (f_isF r) n, 0) else (-2, 2)
theorem f_whenT {n : Nat} {r : Row} {h k : Nat} {x : Int32} (hk : k ≤ 60) (hg : f_whenG n r h (61 - k) k = x) (c : f_kept (f_weeks n r k) h = false) : x = nI k := by
  rw [show 61 - k = (60 - k) + 1 by omega] at hg
  unfold f_whenG at hg
  rw [if_pos c] at hg
  exact hg.symm
theorem f_whenF {n : Nat} {r : Row} {h k : Nat} {x : Int32} (hk : k ≤ 60) (hg : f_whenG n r h (61 - k) k = x) (c : f_kept (f_weeks n r k) h = true) : f_whenG n r h (61 - (k + 1)) (k + 1) = x := by
  rw [show 61 - k = (60 - k) + 1 by omega] at hg
  unfold f_whenG at hg
  rw [if_neg (by rw [c]; decide)] at hg
  rw [show 61 - (k + 1) = 60 - k by omega]
  exact hg
theorem f_whenE {n : Nat} {r : Row} {h k : Nat} {x : Int32} (hk : ¬ k ≤ 60) (hg : f_whenG n r h (61 - k) k = x) : x = -9 := by
  rw [show 61 - k = 0 by omega] at hg
  exact hg.symm
theorem f_darkT {n : Nat} {r : Row} {k : Nat} {x : Int32} (hk : k ≤ 60) (hg : f_darkG n r (61 - k) k = x) (c : f_weeks n r k 3 < f_burnsU (f_weeks n r k) n) : x = nI k := by
  rw [show 61 - k = (60 - k) + 1 by omega] at hg
  unfold f_darkG at hg
  rw [if_pos c] at hg
  exact hg.symm
theorem f_darkF {n : Nat} {r : Row} {k : Nat} {x : Int32} (hk : k ≤ 60) (hg : f_darkG n r (61 - k) k = x) (c : ¬ f_weeks n r k 3 < f_burnsU (f_weeks n r k) n) : f_darkG n r (61 - (k + 1)) (k + 1) = x := by
  rw [show 61 - k = (60 - k) + 1 by omega] at hg
  unfold f_darkG at hg
  rw [if_neg c] at hg
  rw [show 61 - (k + 1) = 60 - k by omega]
  exact hg
theorem f_darkE {n : Nat} {r : Row} {k : Nat} {x : Int32} (hk : ¬ k ≤ 60) (hg : f_darkG n r (61 - k) k = x) : x = -9 := by
  rw [show 61 - k = 0 by omega] at hg
  exact hg.symm
theorem f_stillT {n : Nat} {r : Row} {k : Nat} {x : Int32} (hk : k ≤ 60) (hg : f_stillG n r (61 - k) k = x) (c : f_keptN n r k = f_keptN n r (k + 20)) : x = nI k := by
  rw [show 61 - k = (60 - k) + 1 by omega] at hg
  unfold f_stillG at hg
  rw [if_pos c] at hg
  exact hg.symm
theorem f_stillF {n : Nat} {r : Row} {k : Nat} {x : Int32} (hk : k ≤ 60) (hg : f_stillG n r (61 - k) k = x) (c : ¬ f_keptN n r k = f_keptN n r (k + 20)) : f_stillG n r (61 - (k + 1)) (k + 1) = x := by
  rw [show 61 - k = (60 - k) + 1 by omega] at hg
  unfold f_stillG at hg
  rw [if_neg c] at hg
  rw [show 61 - (k + 1) = 60 - k by omega]
  exact hg
theorem f_stillE {n : Nat} {r : Row} {k : Nat} {x : Int32} (hk : ¬ k ≤ 60) (hg : f_stillG n r (61 - k) k = x) : x = -9 := by
  rw [show 61 - k = 0 by omega] at hg
  exact hg.symm
theorem f_wk1 {n k : Nat} {r : Row} (h : 1 ≤ k) : f_weeks n (f_weeks n r (k - 1)) 1 = f_weeks n r k := by
  rw [show f_weeks n r k = f_weeks n r ((k - 1) + 1) by rw [Nat.sub_add_cancel h]]
  rfl
theorem f_flUT {n i : Nat} {r q : Row} {x : Option Nat} (hi : i < n) (hu : f_flU r q (n - i) i = x) (c1 : f_kept r i = true) (c2 : f_kept q i = false) : x = some i := by
  rw [show n - i = (n - (i + 1)) + 1 by omega] at hu
  unfold f_flU at hu
  rw [if_pos ⟨c1, c2⟩] at hu
  exact hu.symm
theorem f_flUF {n i : Nat} {r q : Row} {x : Option Nat} (hi : i < n) (hu : f_flU r q (n - i) i = x) (c : f_kept r i = false ∨ f_kept q i = true) : f_flU r q (n - (i + 1)) (i + 1) = x := by
  rw [show n - i = (n - (i + 1)) + 1 by omega] at hu
  unfold f_flU at hu
  rw [if_neg (by rintro ⟨a, b⟩; rcases c with c | c <;> simp_all)] at hu
  exact hu
theorem f_flUE {n i : Nat} {r q : Row} {x : Option Nat} (hi : n ≤ i) (hu : f_flU r q (n - i) i = x) : x = none := by
  rw [show n - i = 0 by omega] at hu
  exact hu.symm
theorem f_flGT {n k i : Nat} {r : Row} {x : Int32} (hk : k ≤ 60) (hg : f_flG n r (61 - k) k = x) (c : f_flU r (f_weeks n r k) n 0 = some i) : x = nI i := by
  rw [show 61 - k = (60 - k) + 1 by omega] at hg
  unfold f_flG at hg
  rw [c] at hg
  exact hg.symm
theorem f_flGF {n k : Nat} {r : Row} {x : Int32} (hk : k ≤ 60) (hg : f_flG n r (61 - k) k = x) (c : f_flU r (f_weeks n r k) n 0 = none) : f_flG n r (61 - (k + 1)) (k + 1) = x := by
  rw [show 61 - k = (60 - k) + 1 by omega] at hg
  unfold f_flG at hg
  rw [c] at hg
  rw [show 61 - (k + 1) = 60 - k by omega]
  exact hg
theorem f_flGE {n k : Nat} {r : Row} {x : Int32} (hk : ¬ k ≤ 60) (hg : f_flG n r (61 - k) k = x) : x = -9 := by
  rw [show 61 - k = 0 by omega] at hg
  exact hg.symm
/-- the thought and the numbers kept behind apart all is as it was -/
def Of3 (σ τ : Mem) : Prop := ∀ k, k ≠ 30 → k ≠ 33 → ¬ inT 2 k → τ k = σ k
theorem Of3.off {σ τ : Mem} (h : Off 2 σ τ) : Of3 σ τ := fun k _ _ h3 => h k h3
theorem Of3.tr {σ τ υ : Mem} (h : Of3 σ τ) (h2 : Of3 τ υ) : Of3 σ υ := fun k a b c => (h2 k a b c).trans (h k a b c)
theorem Of3.drop {σ τ : Mem} {v : Int32} (h : Of3 σ τ) : Of3 σ (mx_up τ 30 1 v) := fun k a b c => (mx_up_o a).trans (h k a b c)
theorem Of3.add {σ τ : Mem} {j : Nat} {v w : Int32} (h : Of3 σ τ) : Of3 σ (mx_up (mx_up τ 33 j v) 30 1 w) := fun k a b c => (mx_up_o a).trans ((mx_up_o b).trans (h k a b c))
theorem Of3.qz {σ τ : Mem} (h : Of3 σ τ) : Qz 0 σ τ := ⟨fun k a b _ d => h k a b d, Rz.rf (h 34 (by decide) (by decide) (by unfold inT; omega))⟩
theorem NW.of3 {σ τ : Mem} (h : NW σ) (ho : Of3 σ τ) : NW τ := fun u a b j hj => by
  rw [ho (u + 6) (by omega) (by omega) (by unfold inT; omega)]
  exact h u a b j hj
theorem TI.up_ne {σ : Mem} {t n a j : Nat} {r : Row} {v : Int32} (h : TI σ t n r) (hn : n ≤ 6) (ha : ¬ inT t a) : TI (mx_up σ a j v) t n r := by
  have e : ∀ k, inT t k → mx_up σ a j v k = σ k := fun k hk => mx_up_o (fun q => ha (q ▸ hk))
  refine ⟨by rw [e t inT_t]; exact h.1, by rw [e t inT_t]; exact h.2.1, by rw [e t inT_t]; exact h.2.2.1, by rw [e t inT_t]; exact h.2.2.2.1, fun i hi => ?_⟩
  rw [e _ (inT_h (by omega))]
  exact h.2.2.2.2 i hi
theorem f_kb {τ : Mem} {n k : Nat} {r : Row} (hl : ∀ j, j < k → τ 33 j = f_keptN n r j) : ∀ j, j < k + 1 → mx_up (mx_up τ 33 k (f_bits (f_weeks n r k 4))) 30 1 (nI (k + 1)) 33 j = f_keptN n r j := fun j hj => by
  rw [mx_up_o (by decide), mx_up_s]
  by_cases e : j = k
  · subst e; exact upd_s
  · rw [upd_o e]; exact hl j (by omega)
theorem f_burns_r (k : Int32) : ∃ b, b ≤ 3 ∧ f_burns k = nI b := by
  unfold f_burns
  by_cases c1 : k = 1
  · exact ⟨0, by omega, by rw [if_pos c1]; rfl⟩
  · rw [if_neg c1]
    by_cases c2 : k = 2
    · exact ⟨2, by omega, by rw [if_pos c2]; rfl⟩
    · rw [if_neg c2]
      by_cases c3 : k = 3
      · exact ⟨3, by omega, by rw [if_pos c3]; rfl⟩
      · exact ⟨1, by omega, by rw [if_neg c3]; rfl⟩
theorem f_burnsU_r (r : Row) : ∀ n, ∃ b, b ≤ 3 * n ∧ f_burnsU r n = nI b
  | 0 => ⟨0, by omega, rfl⟩
  | n + 1 => by
    obtain ⟨b, hb, e⟩ := f_burnsU_r r n
    obtain ⟨c, hc, e2⟩ := f_burns_r (r (6 + 6 * n))
    rw [f_burnsU_s, e, e2]
    split
    · exact ⟨b + c, by omega, nI_add b c⟩
    · exact ⟨b, by omega, by rw [show (0 : Int32) = nI 0 from rfl, nI_add]; rfl⟩
theorem f_burns0 (r : Row) (n : Nat) (hn : n ≤ 6) (h : ¬ 1 ≤ f_burnsU r n) : f_burnsU r n = 0 := by
  obtain ⟨b, hb, e⟩ := f_burnsU_r r n
  rw [e] at h ⊢
  have h1 : ¬ 1 ≤ b := fun q => h ((nI_leI (a := 1) (by decide) (by omega)).mpr q)
  rw [show b = 0 by omega]; rfl
theorem f_shB : ∀ K : Fin 64, ∀ h : Fin 6, (nI K.val >>> (nI h.val &&& 31)) &&& 1 = zb (f_has (nI K.val) (nI h.val)) := by decide +kernel
theorem f_kept_v {n h : Nat} {r : Row} (hw : wf n r) (hh : h < n) : (r 4 >>> (nI h &&& 31)) &&& 1 = zb (f_kept r h) := by
  obtain ⟨K, hK, -, e⟩ := wf_K hw
  have hn := hw.1
  show _ = zb (f_has (r 4) (nI h))
  rw [e]
  exact f_shB ⟨K, hK⟩ ⟨h, by omega⟩
/-- the reference's search for the first LOST: which so far, behind how many WEEKS -/
def f_flM (n : Nat) (r : Row) : Nat → Option Nat × Int32
  | 0 => (none, 1000000000)
  | i + 1 => if f_kept r i = true ∧ ¬ f_when n r i < 0 ∧ f_when n r i < (f_flM n r i).2 then (some i, f_when n r i) else f_flM n r i
theorem flM_eq {P : Int32 → Int32 → Prop} {a b a' b' : Int32} (h : a' = a ∧ b' = b) (p : P a' b') : P a b := h.1 ▸ h.2 ▸ p
theorem f_flM_step (n : Nat) (r : Row) (i : Nat) : f_flM n r (i + 1) = if f_kept r i = true ∧ ¬ f_when n r i < 0 ∧ f_when n r i < (f_flM n r i).2 then (some i, f_when n r i) else f_flM n r i := rfl
theorem f_flM_sK {n i : Nat} {r : Row} (c : f_kept r i = false) : f_o9 (f_flM n r (i + 1)).1 = f_o9 (f_flM n r i).1 ∧ (f_flM n r (i + 1)).2 = (f_flM n r i).2 := by
  rw [f_flM_step, if_neg (by rw [c]; simp)]
  exact ⟨rfl, rfl⟩
theorem f_flM_sN {n i : Nat} {r : Row} (c : f_kept r i = true) (c2 : f_when n r i < 0) : f_o9 (f_flM n r (i + 1)).1 = f_o9 (f_flM n r i).1 ∧ (f_flM n r (i + 1)).2 = (f_flM n r i).2 := by
  rw [f_flM_step, if_neg (fun q => q.2.1 c2)]
  exact ⟨rfl, rfl⟩
theorem f_flM_sT {n i : Nat} {r : Row} (c : f_kept r i = true) (c2 : ¬ f_when n r i < 0) (c3 : f_when n r i < (f_flM n r i).2) : f_o9 (f_flM n r (i + 1)).1 = nI i ∧ (f_flM n r (i + 1)).2 = f_when n r i := by
  rw [f_flM_step, if_pos ⟨c, c2, c3⟩]
  exact ⟨rfl, rfl⟩
theorem f_flM_sF {n i : Nat} {r : Row} (c : f_kept r i = true) (c2 : ¬ f_when n r i < 0) (c3 : ¬ f_when n r i < (f_flM n r i).2) : f_o9 (f_flM n r (i + 1)).1 = f_o9 (f_flM n r i).1 ∧ (f_flM n r (i + 1)).2 = (f_flM n r i).2 := by
  rw [f_flM_step, if_neg (fun q => c3 q.2.2)]
  exact ⟨rfl, rfl⟩
theorem f_whenG_cases (n : Nat) (r : Row) (h : Nat) : ∀ d k, d + k = 61 → (f_whenG n r h d k = -9 ∧ ∀ j, k ≤ j → j ≤ 60 → f_kept (f_weeks n r j) h = true) ∨ (∃ j, k ≤ j ∧ j ≤ 60 ∧ f_whenG n r h d k = nI j ∧ f_kept (f_weeks n r j) h = false ∧ ∀ i, k ≤ i → i < j → f_kept (f_weeks n r i) h = true)
  | 0, k, hk => Or.inl ⟨rfl, fun j h1 h2 => by omega⟩
  | d + 1, k, hk => by
    unfold f_whenG
    by_cases c : f_kept (f_weeks n r k) h = false
    · rw [if_pos c]
      exact Or.inr ⟨k, Nat.le_refl _, by omega, rfl, c, fun i h1 h2 => by omega⟩
    · rw [if_neg c]
      have ct : f_kept (f_weeks n r k) h = true := by cases q : f_kept (f_weeks n r k) h <;> simp_all
      rcases f_whenG_cases n r h d (k + 1) (by omega) with ⟨a, b⟩ | ⟨j, a1, a2, a3, a4, a5⟩
      · exact Or.inl ⟨a, fun j h1 h2 => by
          rcases Nat.eq_or_lt_of_le h1 with q | q
          · rw [← q]; exact ct
          · exact b j q h2⟩
      · exact Or.inr ⟨j, by omega, a2, a3, a4, fun i h1 h2 => by
          rcases Nat.eq_or_lt_of_le h1 with q | q
          · rw [← q]; exact ct
          · exact a5 i q h2⟩
theorem f_when_cases (n : Nat) (r : Row) (h : Nat) : (f_when n r h = -9 ∧ ∀ j, j ≤ 60 → f_kept (f_weeks n r j) h = true) ∨ (∃ j, j ≤ 60 ∧ f_when n r h = nI j ∧ f_kept (f_weeks n r j) h = false ∧ ∀ i, i < j → f_kept (f_weeks n r i) h = true) := by
  rcases f_whenG_cases n r h 61 0 rfl with ⟨a, b⟩ | ⟨j, -, a2, a3, a4, a5⟩
  · exact Or.inl ⟨a, fun j h2 => b j (Nat.zero_le _) h2⟩
  · exact Or.inr ⟨j, a2, a3, a4, fun i h2 => a5 i (Nat.zero_le _) h2⟩
theorem f_neg9 : (-9 : Int32) < 0 := by decide
/-- what the reference's search holds behind i HOUSES: the least week, of several the least HOUSE -/
def flS (n : Nat) (r : Row) (i : Nat) : Prop := match (f_flM n r i).1 with
  | none => (f_flM n r i).2 = 1000000000 ∧ ∀ x, x < i → f_kept r x = true → f_when n r x = -9
  | some h => h < i ∧ f_kept r h = true ∧ ∃ k, k ≤ 60 ∧ (f_flM n r i).2 = nI k ∧ f_when n r h = nI k ∧ ∀ x, x < i → f_kept r x = true → f_when n r x = -9 ∨ ∃ m, m ≤ 60 ∧ f_when n r x = nI m ∧ (k < m ∨ (k = m ∧ h ≤ x))
theorem flS_all (n : Nat) (r : Row) : ∀ i, flS n r i
  | 0 => by
    show (f_flM n r 0).2 = 1000000000 ∧ _
    exact ⟨rfl, fun x hx => by omega⟩
  | i + 1 => by
    have ih := flS_all n r i
    unfold flS at ih ⊢
    rw [f_flM_step]
    by_cases c : f_kept r i = true ∧ ¬ f_when n r i < 0 ∧ f_when n r i < (f_flM n r i).2
    · rw [if_pos c]
      obtain ⟨c1, c2, c3⟩ := c
      dsimp only
      rcases f_when_cases n r i with ⟨a, -⟩ | ⟨k, hk, e, -⟩
      · exact absurd (by rw [a]; exact f_neg9) c2
      · refine ⟨by omega, c1, k, hk, e, e, fun x hx hx2 => ?_⟩
        rcases Nat.lt_succ_iff_lt_or_eq.mp hx with q | q
        · cases hm : (f_flM n r i).1 with
          | none => rw [hm] at ih; exact Or.inl (ih.2 x q hx2)
          | some h =>
            rw [hm] at ih
            obtain ⟨-, -, k2, hk2, e2, -, hall⟩ := ih
            rw [e2, e] at c3
            have hlt : k < k2 := (nI_ltI (by omega) (by omega)).mp c3
            rcases hall x q hx2 with z | ⟨m, hm1, hm2, hm3⟩
            · exact Or.inl z
            · exact Or.inr ⟨m, hm1, hm2, by omega⟩
        · subst q; exact Or.inr ⟨k, hk, e, Or.inr ⟨rfl, Nat.le_refl _⟩⟩
    · rw [if_neg c]
      cases hm : (f_flM n r i).1 with
      | none =>
        rw [hm] at ih
        refine ⟨ih.1, fun x hx hx2 => ?_⟩
        rcases Nat.lt_succ_iff_lt_or_eq.mp hx with q | q
        · exact ih.2 x q hx2
        · subst q
          rcases f_when_cases n r x with ⟨a, -⟩ | ⟨k, hk, e, -⟩
          · exact a
          · exfalso
            refine c ⟨hx2, by rw [e]; exact nI_pos (by omega), ?_⟩
            rw [e, ih.1]
            exact nI_lt (b := 1000000000) (by omega) (by decide)
      | some h =>
        rw [hm] at ih
        obtain ⟨h1, h2, k2, hk2, e2, e3, hall⟩ := ih
        refine ⟨by omega, h2, k2, hk2, e2, e3, fun x hx hx2 => ?_⟩
        rcases Nat.lt_succ_iff_lt_or_eq.mp hx with q | q
        · exact hall x q hx2
        · subst q
          rcases f_when_cases n r x with ⟨a, -⟩ | ⟨k, hk, e, -⟩
          · exact Or.inl a
          · refine Or.inr ⟨k, hk, e, ?_⟩
            have h3 : ¬ k < k2 := fun z => c ⟨hx2, by rw [e]; exact nI_pos (by omega), by rw [e, e2]; exact nI_lt z (by omega)⟩
            omega
theorem f_flU_spec (r q : Row) (n : Nat) : ∀ d i, d + i = n → (f_flU r q d i = none ∧ ∀ x, i ≤ x → x < n → f_kept r x = true → f_kept q x = true) ∨ (∃ h, i ≤ h ∧ h < n ∧ f_flU r q d i = some h ∧ f_kept r h = true ∧ f_kept q h = false ∧ ∀ x, i ≤ x → x < h → f_kept r x = true → f_kept q x = true)
  | 0, i, hd => Or.inl ⟨rfl, fun x h1 h2 => by omega⟩
  | d + 1, i, hd => by
    unfold f_flU
    by_cases c : f_kept r i = true ∧ f_kept q i = false
    · rw [if_pos c]
      exact Or.inr ⟨i, Nat.le_refl _, by omega, rfl, c.1, c.2, fun x h1 h2 => by omega⟩
    · rw [if_neg c]
      have hi : f_kept r i = true → f_kept q i = true := fun z => by
        cases e : f_kept q i
        · exact absurd ⟨z, e⟩ c
        · rfl
      rcases f_flU_spec r q n d (i + 1) (by omega) with ⟨a, b⟩ | ⟨h, a1, a2, a3, a4, a5, a6⟩
      · exact Or.inl ⟨a, fun x h1 h2 => by
          rcases Nat.eq_or_lt_of_le h1 with z | z
          · rw [← z]; exact hi
          · exact b x z h2⟩
      · exact Or.inr ⟨h, by omega, a2, a3, a4, a5, fun x h1 h2 => by
          rcases Nat.eq_or_lt_of_le h1 with z | z
          · rw [← z]; exact hi
          · exact a6 x z h2⟩
theorem f_flG_spec (n : Nat) (r : Row) : ∀ d k, d + k = 61 → (∀ j, j < k → ∀ x, x < n → f_kept r x = true → f_kept (f_weeks n r j) x = true) → (f_flG n r d k = -9 ∧ ∀ x, x < n → f_kept r x = true → f_when n r x = -9) ∨ (∃ h m, h < n ∧ m ≤ 60 ∧ f_flG n r d k = nI h ∧ f_kept r h = true ∧ f_when n r h = nI m ∧ ∀ x, x < n → f_kept r x = true → f_when n r x = -9 ∨ ∃ m2, m2 ≤ 60 ∧ f_when n r x = nI m2 ∧ (m < m2 ∨ (m = m2 ∧ h ≤ x)))
  | 0, k, hd, hpre => Or.inl ⟨rfl, fun x hx hk => by
      rcases f_when_cases n r x with ⟨a, -⟩ | ⟨j, hj, e, e2, -⟩
      · exact a
      · rw [hpre j (by omega) x hx hk] at e2; cases e2⟩
  | d + 1, k, hd, hpre => by
    unfold f_flG
    rcases f_flU_spec r (f_weeks n r k) n n 0 rfl with ⟨a, b⟩ | ⟨h, -, a2, a3, a4, a5, a6⟩
    · rw [a]
      exact f_flG_spec n r d (k + 1) (by omega) (fun j hj x hx hk => by
        rcases Nat.lt_succ_iff_lt_or_eq.mp hj with z | z
        · exact hpre j z x hx hk
        · rw [z]; exact b x (Nat.zero_le _) hx hk)
    · rw [a3]
      dsimp only
      have hwh : f_when n r h = nI k := by
        rcases f_when_cases n r h with ⟨-, z⟩ | ⟨j, hj, e, e2, e3⟩
        · rw [z k (by omega)] at a5; cases a5
        · rcases Nat.lt_trichotomy j k with q | q | q
          · rw [hpre j q h a2 a4] at e2; cases e2
          · rw [e, q]
          · rw [e3 k q] at a5; cases a5
      refine Or.inr ⟨h, k, a2, by omega, rfl, a4, hwh, fun x hx hxk => ?_⟩
      rcases f_when_cases n r x with ⟨z, -⟩ | ⟨j, hj, e, e2, e3⟩
      · exact Or.inl z
      · refine Or.inr ⟨j, hj, e, ?_⟩
        rcases Nat.lt_trichotomy j k with q | q | q
        · rw [hpre j q x hx hxk] at e2; cases e2
        · refine Or.inr ⟨q.symm, ?_⟩
          rcases Nat.lt_or_ge x h with z | z
          · rw [q, a6 x (Nat.zero_le _) z hxk] at e2; cases e2
          · exact z
        · exact Or.inl q
theorem f_flM_G {n : Nat} {r : Row} (hw : wf n r) : f_o9 (f_flM n r n).1 = f_flG n r 60 1 := by
  have hn := hw.1
  have h1 := flS_all n r n
  have h2 := f_flG_spec n r 60 1 rfl (fun j hj x hx hk => by rw [show j = 0 by omega]; exact hk)
  unfold flS at h1
  cases hm : (f_flM n r n).1 with
  | none =>
    rw [hm] at h1
    rcases h2 with ⟨a, -⟩ | ⟨h, m, b1, b2, b3, b4, b5, -⟩
    · rw [a]; rfl
    · have := h1.2 h b1 b4
      rw [b5] at this
      exact absurd this (nI_ne9 (by omega))
  | some g =>
    rw [hm] at h1
    obtain ⟨g1, g2, k, hk, e1, e2, hall⟩ := h1
    rcases h2 with ⟨-, z⟩ | ⟨h, m, b1, b2, b3, b4, b5, b6⟩
    · have := z g g1 g2
      rw [e2] at this
      exact absurd this (nI_ne9 (by omega))
    · rw [b3]
      show nI g = nI h
      rcases hall h b1 b4 with z | ⟨m2, z1, z2, z3⟩
      · rw [b5] at z; exact absurd z (nI_ne9 (by omega))
      · rcases b6 g g1 g2 with y | ⟨m3, y1, y2, y3⟩
        · rw [e2] at y; exact absurd y (nI_ne9 (by omega))
        · have q1 : m = m2 := (nI_eq (by omega) (by omega)).mp (b5.symm.trans z2)
          have q2 : k = m3 := (nI_eq (by omega) (by omega)).mp (e2.symm.trans y2)
          rw [show g = h by omega]
theorem p_run_f : True := trivial
theorem f_run_bad {what : Int32} (h : f_in what 0 2 = false) : ¬ what = 0 ∧ ¬ what = 1 ∧ ¬ what = 2 := by
  refine ⟨fun e => ?_, fun e => ?_, fun e => ?_⟩ <;> (subst e; exact absurd h (by decide))
