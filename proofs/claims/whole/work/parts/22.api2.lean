/-! ===== what had best be done ===== -/
def f_go (r : Row) (a b : Nat) : Int32 := f_least (r (6 + 6 * a + 3) / 2) (30 - r (6 + 6 * b + 3))
def f_mvRow (r : Row) (a b : Nat) : Row := upd (upd r (6 + 6 * a + 3) (r (6 + 6 * a + 3) - f_go r a b)) (6 + 6 * b + 3) (upd r (6 + 6 * a + 3) (r (6 + 6 * a + 3) - f_go r a b) (6 + 6 * b + 3) + f_go r a b)
theorem wf_mv {n a b : Nat} {r : Row} (hw : wf n r) (ha : a < n) (hb : b < n) (hab : a ≠ b) : wf n (f_mvRow r a b) := by
  obtain ⟨-, -, p, hp, e1⟩ := hw.2.2.2.2.2 a ha
  obtain ⟨-, -, q, hq, e2⟩ := hw.2.2.2.2.2 b hb
  have eg : f_go r a b = nI (Nat.min (p / 2) (30 - q)) := by
    unfold f_go
    rw [e1, e2, show (2 : Int32) = nI 2 from rfl, pk_div (by omega) (by decide) (by decide), show (30 : Int32) = nI 30 from rfl, pk_sub hq]
    unfold f_least
    by_cases c : nI (p / 2) < nI (30 - q)
    · rw [if_pos c]
      have := (nI_ltI (by omega) (by omega)).mp c
      rw [show Nat.min (p / 2) (30 - q) = p / 2 from Nat.min_eq_left (by omega)]
    · rw [if_neg c]
      have : ¬ p / 2 < 30 - q := fun z => c ((nI_ltI (by omega) (by omega)).mpr z)
      rw [show Nat.min (p / 2) (30 - q) = 30 - q from Nat.min_eq_right (by omega)]
  have h1 : Nat.min (p / 2) (30 - q) ≤ p / 2 := Nat.min_le_left _ _
  have h2 : Nat.min (p / 2) (30 - q) ≤ 30 - q := Nat.min_le_right _ _
  unfold f_mvRow
  rw [upd_o (show 6 + 6 * b + 3 ≠ 6 + 6 * a + 3 by omega), eg, e1, e2, pk_sub (by omega), nI_add]
  exact wf_ppl (wf_ppl hw ha (by omega)) hb (by omega)
def f_mv (n : Nat) (r : Row) (k a b : Nat) : Int32 := f_bits (f_weeks n (f_mvRow r a b) k 4)
def f_mvB (n : Nat) (r : Row) (k a : Nat) (s : Int32 × Int32) : Nat → Int32 × Int32
  | 0 => s
  | b + 1 => if a ≠ b ∧ f_kept r a = true ∧ f_kept r b = true ∧ (f_mvB n r k a s b).2 < f_mv n r k a b then (nI (10 * a + b), f_mv n r k a b) else f_mvB n r k a s b
theorem f_mvB_s (n : Nat) (r : Row) (k a : Nat) (s : Int32 × Int32) (b : Nat) : f_mvB n r k a s (b + 1) = if a ≠ b ∧ f_kept r a = true ∧ f_kept r b = true ∧ (f_mvB n r k a s b).2 < f_mv n r k a b then (nI (10 * a + b), f_mv n r k a b) else f_mvB n r k a s b := rfl
theorem f_mvB_F {n : Nat} {r : Row} {k a : Nat} {s : Int32 × Int32} {b : Nat} (h : ¬ (a ≠ b ∧ f_kept r a = true ∧ f_kept r b = true ∧ (f_mvB n r k a s b).2 < f_mv n r k a b)) : (f_mvB n r k a s (b + 1)).1 = (f_mvB n r k a s b).1 ∧ (f_mvB n r k a s (b + 1)).2 = (f_mvB n r k a s b).2 := by
  rw [f_mvB_s, if_neg h]; exact ⟨rfl, rfl⟩
theorem f_mvB_T {n : Nat} {r : Row} {k a : Nat} {s : Int32 × Int32} {b : Nat} (h1 : a ≠ b) (h2 : f_kept r a = true) (h3 : f_kept r b = true) (h4 : (f_mvB n r k a s b).2 < f_mv n r k a b) : (f_mvB n r k a s (b + 1)).1 = nI (10 * a + b) ∧ (f_mvB n r k a s (b + 1)).2 = f_mv n r k a b := by
  rw [f_mvB_s, if_pos ⟨h1, h2, h3, h4⟩]; exact ⟨rfl, rfl⟩
def f_mvA (n : Nat) (r : Row) (k : Nat) : Nat → Int32 × Int32
  | 0 => (-9, f_keptN n r k)
  | a + 1 => f_mvB n r k a (f_mvA n r k a) n
def p_move (n : Nat) (r : Row) (k : Int32) : Int32 × Nat := if k < 0 then (-4, 4) else if 30 < k then (-6, 6) else ((f_mvA n r k.toNatClampNeg n).1, 0)
/-- KEPT only becomes less -/
def f_K (r : Row) : Nat := (r 4).toNatClampNeg
theorem wf_fK {n : Nat} {r : Row} (hw : wf n r) : r 4 = nI (f_K r) ∧ f_K r < 64 := by
  obtain ⟨K, hK, -, e⟩ := wf_K hw
  have e2 : f_K r = K := by unfold f_K; rw [e, nI_clamp (by omega)]
  rw [e2]
  exact ⟨e, hK⟩
theorem f_K_c {r s : Row} (h : s 4 = r 4) : f_K s = f_K r := by unfold f_K; rw [h]
theorem f_K_loses {n : Nat} {r : Row} (hw : wf n r) {h : Nat} (hh : h < n) : f_K (f_loses n r h) ≤ f_K r := by
  have hn := hw.1
  obtain ⟨e, hK⟩ := wf_fK hw
  have e2 : f_loses n r h 4 = f_clear (r 4) h := by
    unfold f_loses
    rw [upd_o (by omega)]
    split
    · rw [upd_o (by omega)]; rfl
    · rfl
  have e3 := f_clearB ⟨f_K r, hK⟩ ⟨h, by omega⟩
  unfold f_K at *
  rw [e2, e, e3, nI_clamp (by omega), nI_clamp (by omega)]
  exact Nat.sub_le _ _
theorem f_K_week {n : Nat} {r : Row} (hw : wf n r) : f_K (f_week n r) ≤ f_K r := by
  have hw2 := wf_ageU (wf_week1 hw (r 1 + 1)) n
  have e0 : f_K (f_ageU (upd r 1 (r 1 + 1)) n) = f_K r := f_K_c ((f_ageU_o (by omega) (by omega) (by omega) n).trans (upd_o (by decide)))
  unfold f_week
  rw [← e0]
  generalize f_ageU (upd r 1 (r 1 + 1)) n = q at hw2
  obtain ⟨-, -, hz⟩ := wf_at hw2
  unfold f_insp
  by_cases c : n = 0
  · rw [if_pos c]; exact Nat.le_refl _
  · rw [if_neg c]
    have e1 : ∀ s : Row, f_K (upd s 2 (nI ((f_at q + 1) % n))) = f_K s := fun s => f_K_c (upd_o (by decide))
    rw [e1]
    split
    · split
      · exact f_K_loses hw2 (hz (by omega))
      · exact Nat.le_of_eq (f_K_c (upd_o (by omega)))
    · exact Nat.le_refl _
theorem f_K_weeks {n : Nat} {r : Row} (hw : wf n r) (i : Nat) : ∀ d, f_K (f_weeks n r (i + d)) ≤ f_K (f_weeks n r i)
  | 0 => Nat.le_refl _
  | d + 1 => Nat.le_trans (f_K_week (wf_weeks hw (i + d))) (f_K_weeks hw i d)
/-- none is LOST within k WEEKS that is KEPT now (r), of a thought q -/
def f_none (n : Nat) (r q : Row) (k : Nat) : Bool := decide (f_weeks n q k 4 = r 4)
theorem f_none_F {n : Nat} {r q : Row} (hwr : wf n r) (hw : wf n q) (h4 : q 4 = r 4) {i k : Nat} (hi : i ≤ k) (c : ¬ f_weeks n q i 4 = r 4) : f_none n r q k = false := by
  refine decide_eq_false (fun e => c ?_)
  have h1 := f_K_weeks hw i (k - i)
  rw [show i + (k - i) = k by omega] at h1
  have h2 := f_K_weeks hw 0 i
  rw [show 0 + i = i by omega] at h2
  have e0 : f_K (f_weeks n q k) = f_K r := f_K_c e
  have e1 : f_K (f_weeks n q 0) = f_K r := f_K_c h4
  have e3 : f_K (f_weeks n q i) = f_K r := by omega
  rw [(wf_fK (wf_weeks hw i)).1, (wf_fK hwr).1, e3]
def f_airR (r : Row) (s : Nat) : Nat → Row
  | 0 => r
  | h + 1 => if f_has (nI s) (nI h) = true then upd (f_airR r s h) (6 + 6 * h + 4) 0 else f_airR r s h
theorem f_airR_s (r : Row) (s h : Nat) : f_airR r s (h + 1) = if f_has (nI s) (nI h) = true then upd (f_airR r s h) (6 + 6 * h + 4) 0 else f_airR r s h := rfl
theorem wf_dust {n h : Nat} {r : Row} {v : Int32} (hw : wf n r) : wf n (upd r (6 + 6 * h + 4) v) := wf_o hw (by omega) (by omega) (by omega) (by omega) (fun x => ⟨by omega, by omega, by omega⟩)
theorem wf_airR {n : Nat} {r : Row} (hw : wf n r) (s : Nat) : ∀ h, wf n (f_airR r s h) ∧ f_airR r s h 4 = r 4
  | 0 => ⟨hw, rfl⟩
  | h + 1 => by
    obtain ⟨a, b⟩ := wf_airR hw s h
    rw [f_airR_s]
    split
    · exact ⟨wf_dust a, by rw [upd_o (by omega)]; exact b⟩
    · exact ⟨a, b⟩
def f_airOk (n : Nat) (r : Row) (k s : Nat) : Bool := f_none n r (f_airR r s n) k
def f_airL : Option Nat → Nat
  | none => 7
  | some f => f_cnt f
def f_airU (n : Nat) (r : Row) (k : Nat) : Nat → Option Nat
  | 0 => none
  | s + 1 => if f_cnt s < f_airL (f_airU n r k s) ∧ f_airOk n r k s = true then some s else f_airU n r k s
theorem f_airU_s (n : Nat) (r : Row) (k s : Nat) : f_airU n r k (s + 1) = if f_cnt s < f_airL (f_airU n r k s) ∧ f_airOk n r k s = true then some s else f_airU n r k s := rfl
theorem f_airU_lt (n : Nat) (r : Row) (k : Nat) : ∀ s f, f_airU n r k s = some f → f < s
  | 0, _, e => by cases e
  | s + 1, f, e => by
    rw [f_airU_s] at e
    split at e
    · cases e; omega
    · have := f_airU_lt n r k s f e; omega
def p_air (n : Nat) (r : Row) (k : Int32) : Int32 × Nat := if k < 0 then (-4, 4) else if 30 < k then (-6, 6) else (f_o9 (f_airU n r k.toNatClampNeg (2 ^ n)), 0)
def f_stV (n : Nat) (r : Row) (k i : Nat) : Int32 := f_bits (f_weeks n (upd r 2 (nI i)) k 4)
def f_stU (n : Nat) (r : Row) (k : Nat) : Nat → Option (Nat × Int32)
  | 0 => none
  | i + 1 => match f_stU n r k i with
    | none => some (i, f_stV n r k i)
    | some (j, b) => if b < f_stV n r k i then some (i, f_stV n r k i) else some (j, b)
def p_start (n : Nat) (r : Row) (k what : Int32) : Int32 × Nat :=
  if k < 0 then (-4, 4) else if 30 < k then (-6, 6) else if f_in what 0 1 = true then (match f_stU n r k.toNatClampNeg n with
    | none => -9
    | some (j, b) => if what = 0 then nI j else b, 0) else (-2, 2)
def f_buyG (n : Nat) (r : Row) (k : Nat) : Nat → Nat → Int32
  | 0, _ => -9
  | d + 1, v => if f_none n r (upd r 3 (nI v)) k = true then nI v else f_buyG n r k d (v + 1)
def p_buy (n : Nat) (r : Row) (k : Int32) : Int32 × Nat := if k < 0 then (-4, 4) else if 30 < k then (-6, 6) else (f_buyG n r k.toNatClampNeg 301 0, 0)
theorem f_buyT {n : Nat} {r : Row} {k v : Nat} {x : Int32} (hv : v ≤ 300) (hg : f_buyG n r k (301 - v) v = x) (c : f_none n r (upd r 3 (nI v)) k = true) : x = nI v := by
  rw [show 301 - v = (300 - v) + 1 by omega] at hg
  unfold f_buyG at hg
  rw [if_pos c] at hg
  exact hg.symm
theorem f_buyF {n : Nat} {r : Row} {k v : Nat} {x : Int32} (hv : v ≤ 300) (hg : f_buyG n r k (301 - v) v = x) (c : f_none n r (upd r 3 (nI v)) k = false) : f_buyG n r k (301 - (v + 1)) (v + 1) = x := by
  rw [show 301 - v = (300 - v) + 1 by omega] at hg
  unfold f_buyG at hg
  rw [if_neg (by rw [c]; decide)] at hg
  rw [show 301 - (v + 1) = 300 - v by omega]
  exact hg
theorem f_buyE {n : Nat} {r : Row} {k v : Nat} {x : Int32} (hv : ¬ v ≤ 300) (hg : f_buyG n r k (301 - v) v = x) : x = -9 := by
  rw [show 301 - v = 0 by omega] at hg
  exact hg.symm
theorem wf_cand {n : Nat} {r : Row} {v : Int32} (hw : wf n r) : wf n (upd r 3 v) := wf_o hw (by omega) (by omega) (by omega) (by omega) (fun x => ⟨by omega, by omega, by omega⟩)
/-- the KIND: which latest, behind how many WEEKS -/
def f_bkV (n : Nat) (r : Row) (h k : Nat) : Int32 := if f_when n (upd r (6 + 6 * h) (nI k)) h < 0 then 61 else f_when n (upd r (6 + 6 * h) (nI k)) h
def f_bkU (n : Nat) (r : Row) (h : Nat) : Nat → Nat × Int32
  | 0 => (0, -1)
  | k + 1 => if (f_bkU n r h k).2 < f_bkV n r h k then (k, f_bkV n r h k) else f_bkU n r h k
theorem f_bkU_s (n : Nat) (r : Row) (h k : Nat) : f_bkU n r h (k + 1) = if (f_bkU n r h k).2 < f_bkV n r h k then (k, f_bkV n r h k) else f_bkU n r h k := rfl
theorem wf_kind {n h : Nat} {r : Row} {k : Nat} (hw : wf n r) (hk : k < 6) : wf n (upd r (6 + 6 * h) (nI k)) := by
  obtain ⟨a, b, c, d, e, f⟩ := hw
  refine ⟨a, by rw [upd_o (by omega)]; exact b, by rw [upd_o (by omega)]; exact c, by rw [upd_o (by omega)]; exact d, by rw [upd_o (by omega)]; exact e, fun y hy => ?_⟩
  obtain ⟨f1, f2, f3⟩ := f y hy
  refine ⟨?_, by rw [upd_o (by omega)]; exact f2, by rw [upd_o (by omega)]; exact f3⟩
  by_cases c2 : y = h
  · subst c2; exact ⟨k, hk, upd_s⟩
  · rw [upd_o (by omega)]; exact f1
def p_bestKind (n : Nat) (r : Row) (house what : Int32) : Int32 × Nat :=
  if f_inN house n = true then (if f_in what 0 1 = true then (if what = 0 then nI (f_bkU n r house.toNatClampNeg 6).1 else if 60 < (f_bkU n r house.toNatClampNeg 6).2 then -9 else (f_bkU n r house.toNatClampNeg 6).2, 0) else (-2, 2)) else (-1, 1)
theorem f_shl1 {n : Nat} (hn : n ≤ 6) : (1 : Int32) <<< (nI n &&& 31) = nI (2 ^ n) := by
  have h : ∀ n : Fin 7, (1 : Int32) <<< (nI n.val &&& 31) = nI (2 ^ n.val) := by decide +kernel
  exact h ⟨n, by omega⟩
theorem f_cnt_le (s : Nat) : f_cnt s ≤ 7 := by unfold f_cnt; omega
theorem f_airL_le (n : Nat) (r : Row) (k s : Nat) : f_airL (f_airU n r k s) ≤ 7 := by
  cases f_airU n r k s with
  | none => exact Nat.le_refl _
  | some f => exact f_cnt_le f
theorem f_air_F {n k s : Nat} {r : Row} (h : ¬ (f_cnt s < f_airL (f_airU n r k s) ∧ f_airOk n r k s = true)) : nI (f_airL (f_airU n r k (s + 1))) = nI (f_airL (f_airU n r k s)) ∧ f_o9 (f_airU n r k (s + 1)) = f_o9 (f_airU n r k s) := by
  rw [f_airU_s, if_neg h]; exact ⟨rfl, rfl⟩
theorem f_air_T {n k s : Nat} {r : Row} (h : f_cnt s < f_airL (f_airU n r k s)) (h2 : f_airOk n r k s = true) : nI (f_airL (f_airU n r k (s + 1))) = nI (f_cnt s) ∧ f_o9 (f_airU n r k (s + 1)) = nI s := by
  rw [f_airU_s, if_pos ⟨h, h2⟩]; exact ⟨rfl, rfl⟩
