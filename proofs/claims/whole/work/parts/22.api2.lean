/-! ===== what had best be done ===== -/
def f_go (r : Row) (a b : Nat) : Int32 := f_least (r (6 + 6 * a + 3) / 2) (30 - r (6 + 6 * b + 3))
def f_mvRow (r : Row) (a b : Nat) : Row := upd (upd r (6 + 6 * a + 3) (r (6 + 6 * a + 3) - f_go r a b)) (6 + 6 * b + 3) (upd r (6 + 6 * a + 3) (r (6 + 6 * a + 3) - f_go r a b) (6 + 6 * b + 3) + f_go r a b)
theorem wf_mv {n a b : Nat} {r : Row} (hw : wf n r) (ha : a < n) (hb : b < n) (hab : a ≠ b) : wf n (f_mvRow r a b) := by
  obtain ⟨-, -, p, hp, e1⟩ := hw.2.2.2.2.2 a ha
  obtain ⟨-, -, q, hq, e2⟩ := hw.2.2.2.2.2 b hb
  have eg : f_go r a b = nI (Nat.min (p / 2) (30 - q)) := by
    unfold f_go
    rw [e1, e2, show (2 : Int32) = nI 2 from rfl, pk_div (by omega) (by decide) (by decide), show (30 : Int32) = nI 30 from rfl, pk_sub hq]
    unfold f_least
    by_cases c : nI (p / 2) < nI (30 - q)
    · rw [if_pos c]
      have := (nI_ltI (by omega) (by omega)).mp c
      rw [show Nat.min (p / 2) (30 - q) = p / 2 from Nat.min_eq_left (by omega)]
    · rw [if_neg c]
      have : ¬ p / 2 < 30 - q := fun z => c ((nI_ltI (by omega) (by omega)).mpr z)
      rw [show Nat.min (p / 2) (30 - q) = 30 - q from Nat.min_eq_right (by omega)]
  have h1 : Nat.min (p / 2) (30 - q) ≤ p / 2 := Nat.min_le_left _ _
  have h2 : Nat.min (p / 2) (30 - q) ≤ 30 - q := Nat.min_le_right _ _
  unfold f_mvRow
  rw [upd_o (show 6 + 6 * b + 3 ≠ 6 + 6 * a + 3 by omega), eg, e1, e2, pk_sub (by omega), nI_add]
  exact wf_ppl (wf_ppl hw ha (by omega)) hb (by omega)
def f_mv (n : Nat) (r : Row) (k a b : Nat) : Int32 := f_bits (f_weeks n (f_mvRow r a b) k 4)
def f_mvB (n : Nat) (r : Row) (k a : Nat) (s : Int32 × Int32) : Nat → Int32 × Int32
  | 0 => s
  | b + 1 => if a ≠ b ∧ f_kept r a = true ∧ f_kept r b = true ∧ (f_mvB n r k a s b).2 < f_mv n r k a b then (nI (10 * a + b), f_mv n r k a b) else f_mvB n r k a s b
theorem f_mvB_s (n : Nat) (r : Row) (k a : Nat) (s : Int32 × Int32) (b : Nat) : f_mvB n r k a s (b + 1) = if a ≠ b ∧ f_kept r a = true ∧ f_kept r b = true ∧ (f_mvB n r k a s b).2 < f_mv n r k a b then (nI (10 * a + b), f_mv n r k a b) else f_mvB n r k a s b := rfl
theorem f_mvB_F {n : Nat} {r : Row} {k a : Nat} {s : Int32 × Int32} {b : Nat} (h : ¬ (a ≠ b ∧ f_kept r a = true ∧ f_kept r b = true ∧ (f_mvB n r k a s b).2 < f_mv n r k a b)) : (f_mvB n r k a s (b + 1)).1 = (f_mvB n r k a s b).1 ∧ (f_mvB n r k a s (b + 1)).2 = (f_mvB n r k a s b).2 := by
  rw [f_mvB_s, if_neg h]; exact ⟨rfl, rfl⟩
theorem f_mvB_T {n : Nat} {r : Row} {k a : Nat} {s : Int32 × Int32} {b : Nat} (h1 : a ≠ b) (h2 : f_kept r a = true) (h3 : f_kept r b = true) (h4 : (f_mvB n r k a s b).2 < f_mv n r k a b) : (f_mvB n r k a s (b + 1)).1 = nI (10 * a + b) ∧ (f_mvB n r k a s (b + 1)).2 = f_mv n r k a b := by
  rw [f_mvB_s, if_pos ⟨h1, h2, h3, h4⟩]; exact ⟨rfl, rfl⟩
def f_mvA (n : Nat) (r : Row) (k : Nat) : Nat → Int32 × Int32
  | 0 => (-9, f_keptN n r k)
  | a + 1 => f_mvB n r k a (f_mvA n r k a) n
def p_move (n : Nat) (r : Row) (k : Int32) : Int32 × Nat := if k < 0 then (-4, 4) else if 30 < k then (-6, 6) else ((f_mvA n r k.toNatClampNeg n).1, 0)
/-- KEPT only becomes less -/
def f_K (r : Row) : Nat := (r 4).toNatClampNeg
theorem wf_fK {n : Nat} {r : Row} (hw : wf n r) : r 4 = nI (f_K r) ∧ f_K r < 64 := by
  obtain ⟨K, hK, -, e⟩ := wf_K hw
  have e2 : f_K r = K := by unfold f_K; rw [e, nI_clamp (by omega)]
  rw [e2]
  exact ⟨e, hK⟩
theorem f_K_c {r s : Row} (h : s 4 = r 4) : f_K s = f_K r := by unfold f_K; rw [h]
theorem f_K_loses {n : Nat} {r : Row} (hw : wf n r) {h : Nat} (hh : h < n) : f_K (f_loses n r h) ≤ f_K r := by
  have hn := hw.1
  obtain ⟨e, hK⟩ := wf_fK hw
  have e2 : f_loses n r h 4 = f_clear (r 4) h := by
    unfold f_loses
    rw [upd_o (by omega)]
    split
    · rw [upd_o (by omega)]; rfl
    · rfl
  have e3 := f_clearB ⟨f_K r, hK⟩ ⟨h, by omega⟩
  unfold f_K at *
  rw [e2, e, e3, nI_clamp (by omega), nI_clamp (by omega)]
  exact Nat.sub_le _ _
theorem f_K_week {n : Nat} {r : Row} (hw : wf n r) : f_K (f_week n r) ≤ f_K r := by
  have hw2 := wf_ageU (wf_week1 hw (r 1 + 1)) n
  have e0 : f_K (f_ageU (upd r 1 (r 1 + 1)) n) = f_K r := f_K_c ((f_ageU_o (by omega) (by omega) (by omega) n).trans (upd_o (by decide)))
  unfold f_week
  rw [← e0]
  generalize f_ageU (upd r 1 (r 1 + 1)) n = q at hw2
  obtain ⟨-, -, hz⟩ := wf_at hw2
  unfold f_insp
  by_cases c : n = 0
  · rw [if_pos c]; exact Nat.le_refl _
  · rw [if_neg c]
    have e1 : ∀ s : Row, f_K (upd s 2 (nI ((f_at q + 1) % n))) = f_K s := fun s => f_K_c (upd_o (by decide))
    rw [e1]
    split
    · split
      · exact f_K_loses hw2 (hz (by omega))
      · exact Nat.le_of_eq (f_K_c (upd_o (by omega)))
    · exact Nat.le_refl _
theorem f_K_weeks {n : Nat} {r : Row} (hw : wf n r) (i : Nat) : ∀ d, f_K (f_weeks n r (i + d)) ≤ f_K (f_weeks n r i)
  | 0 => Nat.le_refl _
  | d + 1 => Nat.le_trans (f_K_week (wf_weeks hw (i + d))) (f_K_weeks hw i d)
/-- none is LOST within k WEEKS that is KEPT now (r), of a thought q -/
def f_none (n : Nat) (r q : Row) (k : Nat) : Bool := decide (f_weeks n q k 4 = r 4)
theorem f_none_F {n : Nat} {r q : Row} (hwr : wf n r) (hw : wf n q) (h4 : q 4 = r 4) {i k : Nat} (hi : i ≤ k) (c : ¬ f_weeks n q i 4 = r 4) : f_none n r q k = false := by
  refine decide_eq_false (fun e => c ?_)
  have h1 := f_K_weeks hw i (k - i)
  rw [show i + (k - i) = k by omega] at h1
  have h2 := f_K_weeks hw 0 i
  rw [show 0 + i = i by omega] at h2
  have e0 : f_K (f_weeks n q k) = f_K r := f_K_c e
  have e1 : f_K (f_weeks n q 0) = f_K r := f_K_c h4
  have e3 : f_K (f_weeks n q i) = f_K r := by omega
  rw [(wf_fK (wf_weeks hw i)).1, (wf_fK hwr).1, e3]
def f_airR (r : Row) (s : Nat) : Nat → Row
  | 0 => r
  | h + 1 => if f_has (nI s) (nI h) = true then upd (f_airR r s h) (6 + 6 * h + 4) 0 else f_airR r s h
theorem f_airR_s (r : Row) (s h : Nat) : f_airR r s (h + 1) = if f_has (nI s) (nI h) = true then upd (f_airR r s h) (6 + 6 * h + 4) 0 else f_airR r s h := rfl
theorem wf_dust {n h : Nat} {r : Row} {v : Int32} (hw : wf n r) : wf n (upd r (6 + 6 * h + 4) v) := wf_o hw (by omega) (by omega) (by omega) (by omega) (fun x => ⟨by omega, by omega, by omega⟩)
theorem wf_airR {n : Nat} {r : Row} (hw : wf n r) (s : Nat) : ∀ h, wf n (f_airR r s h) ∧ f_airR r s h 4 = r 4
  | 0 => ⟨hw, rfl⟩
  | h + 1 => by
    obtain ⟨a, b⟩ := wf_airR hw s h
    rw [f_airR_s]
    split
    · exact ⟨wf_dust a, by rw [upd_o (by omega)]; exact b⟩
    · exact ⟨a, b⟩
def f_airOk (n : Nat) (r : Row) (k s : Nat) : Bool := f_none n r (f_airR r s n) k
def f_airL : Option Nat → Nat
  | none => 7
  | some f => f_cnt f
def f_airU (n : Nat) (r : Row) (k : Nat) : Nat → Option Nat
  | 0 => none
  | s + 1 => if f_cnt s < f_airL (f_airU n r k s) ∧ f_airOk n r k s = true then some s else f_airU n r k s
theorem f_airU_s (n : Nat) (r : Row) (k s : Nat) : f_airU n r k (s + 1) = if f_cnt s < f_airL (f_airU n r k s) ∧ f_airOk n r k s = true then some s else f_airU n r k s := rfl
theorem f_airU_lt (n : Nat) (r : Row) (k : Nat) : ∀ s f, f_airU n r k s = some f → f < s
  | 0, _, e => by cases e
  | s + 1, f, e => by
    rw [f_airU_s] at e
    split at e
    · cases e; omega
    · have := f_airU_lt n r k s f e; omega
def p_air (n : Nat) (r : Row) (k : Int32) : Int32 × Nat := if k < 0 then (-4, 4) else if 30 < k then (-6, 6) else (f_o9 (f_airU n r k.toNatClampNeg (2 ^ n)), 0)
def f_stV (n : Nat) (r : Row) (k i : Nat) : Int32 := f_bits (f_weeks n (upd r 2 (nI i)) k 4)
def f_stU (n : Nat) (r : Row) (k : Nat) : Nat → Option (Nat × Int32)
  | 0 => none
  | i + 1 => match f_stU n r k i with
    | none => some (i, f_stV n r k i)
    | some (j, b) => if b < f_stV n r k i then some (i, f_stV n r k i) else some (j, b)
def p_start (n : Nat) (r : Row) (k what : Int32) : Int32 × Nat :=
  if k < 0 then (-4, 4) else if 30 < k then (-6, 6) else if f_in what 0 1 = true then (match f_stU n r k.toNatClampNeg n with
    | none => -9
    | some (j, b) => if what = 0 then nI j else b, 0) else (-2, 2)
def f_buyG (n : Nat) (r : Row) (k : Nat) : Nat → Nat → Int32
  | 0, _ => -9
  | d + 1, v => if f_none n r (upd r 3 (nI v)) k = true then nI v else f_buyG n r k d (v + 1)
def p_buy (n : Nat) (r : Row) (k : Int32) : Int32 × Nat := if k < 0 then (-4, 4) else if 30 < k then (-6, 6) else (f_buyG n r k.toNatClampNeg 301 0, 0)
theorem f_buyT {n : Nat} {r : Row} {k v : Nat} {x : Int32} (hv : v ≤ 300) (hg : f_buyG n r k (301 - v) v = x) (c : f_none n r (upd r 3 (nI v)) k = true) : x = nI v := by
  rw [show 301 - v = (300 - v) + 1 by omega] at hg
  unfold f_buyG at hg
  rw [if_pos c] at hg
  exact hg.symm
theorem f_buyF {n : Nat} {r : Row} {k v : Nat} {x : Int32} (hv : v ≤ 300) (hg : f_buyG n r k (301 - v) v = x) (c : f_none n r (upd r 3 (nI v)) k = false) : f_buyG n r k (301 - (v + 1)) (v + 1) = x := by
  rw [show 301 - v = (300 - v) + 1 by omega] at hg
  unfold f_buyG at hg
  rw [if_neg (by rw [c]; decide)] at hg
  rw [show 301 - (v + 1) = 300 - v by omega]
  exact hg
theorem f_buyE {n : Nat} {r : Row} {k v : Nat} {x : Int32} (hv : ¬ v ≤ 300) (hg : f_buyG n r k (301 - v) v = x) : x = -9 := by
  rw [show 301 - v = 0 by omega] at hg
  exact hg.symm
theorem wf_cand {n : Nat} {r : Row} {v : Int32} (hw : wf n r) : wf n (upd r 3 v) := wf_o hw (by omega) (by omega) (by omega) (by omega) (fun x => ⟨by omega, by omega, by omega⟩)
/-- the KIND: which latest, behind how many WEEKS -/
def f_bkV (n : Nat) (r : Row) (h k : Nat) : Int32 := if f_when n (upd r (6 + 6 * h) (nI k)) h < 0 then 61 else f_when n (upd r (6 + 6 * h) (nI k)) h
def f_bkU (n : Nat) (r : Row) (h : Nat) : Nat → Nat × Int32
  | 0 => (0, -1)
  | k + 1 => if (f_bkU n r h k).2 < f_bkV n r h k then (k, f_bkV n r h k) else f_bkU n r h k
theorem f_bkU_s (n : Nat) (r : Row) (h k : Nat) : f_bkU n r h (k + 1) = if (f_bkU n r h k).2 < f_bkV n r h k then (k, f_bkV n r h k) else f_bkU n r h k := rfl
theorem wf_kind {n h : Nat} {r : Row} {k : Nat} (hw : wf n r) (hk : k < 6) : wf n (upd r (6 + 6 * h) (nI k)) := by
  obtain ⟨a, b, c, d, e, f⟩ := hw
  refine ⟨a, by rw [upd_o (by omega)]; exact b, by rw [upd_o (by omega)]; exact c, by rw [upd_o (by omega)]; exact d, by rw [upd_o (by omega)]; exact e, fun y hy => ?_⟩
  obtain ⟨f1, f2, f3⟩ := f y hy
  refine ⟨?_, by rw [upd_o (by omega)]; exact f2, by rw [upd_o (by omega)]; exact f3⟩
  by_cases c2 : y = h
  · subst c2; exact ⟨k, hk, upd_s⟩
  · rw [upd_o (by omega)]; exact f1
def p_bestKind (n : Nat) (r : Row) (house what : Int32) : Int32 × Nat :=
  if f_inN house n = true then (if f_in what 0 1 = true then (if what = 0 then nI (f_bkU n r house.toNatClampNeg 6).1 else if 60 < (f_bkU n r house.toNatClampNeg 6).2 then -9 else (f_bkU n r house.toNatClampNeg 6).2, 0) else (-2, 2)) else (-1, 1)
theorem f_shl1 {n : Nat} (hn : n ≤ 6) : (1 : Int32) <<< (nI n &&& 31) = nI (2 ^ n) := by
  have h : ∀ n : Fin 7, (1 : Int32) <<< (nI n.val &&& 31) = nI (2 ^ n.val) := by decide +kernel
  exact h ⟨n, by omega⟩
theorem f_cnt_le (s : Nat) : f_cnt s ≤ 7 := by unfold f_cnt; omega
theorem f_airL_le (n : Nat) (r : Row) (k s : Nat) : f_airL (f_airU n r k s) ≤ 7 := by
  cases f_airU n r k s with
  | none => exact Nat.le_refl _
  | some f => exact f_cnt_le f
theorem f_air_F {n k s : Nat} {r : Row} (h : ¬ (f_cnt s < f_airL (f_airU n r k s) ∧ f_airOk n r k s = true)) : nI (f_airL (f_airU n r k (s + 1))) = nI (f_airL (f_airU n r k s)) ∧ f_o9 (f_airU n r k (s + 1)) = f_o9 (f_airU n r k s) := by
  rw [f_airU_s, if_neg h]; exact ⟨rfl, rfl⟩
theorem f_air_T {n k s : Nat} {r : Row} (h : f_cnt s < f_airL (f_airU n r k s)) (h2 : f_airOk n r k s = true) : nI (f_airL (f_airU n r k (s + 1))) = nI (f_cnt s) ∧ f_o9 (f_airU n r k (s + 1)) = nI s := by
  rw [f_airU_s, if_pos ⟨h, h2⟩]; exact ⟨rfl, rfl⟩
def f_stN : Option (Nat × Int32) → Int32
  | none => -9
  | some (j, _) => nI j
def f_stB (d : Int32) : Option (Nat × Int32) → Int32
  | none => d
  | some (_, b) => b
theorem f_bits_N {n : Nat} {r : Row} (hw : wf n r) : ∃ c, c ≤ 7 ∧ f_bits (r 4) = nI c := by
  obtain ⟨e, hK⟩ := wf_fK hw
  exact ⟨f_cnt (f_K r), f_cnt_le _, by rw [e]; exact f_cnt_bits ⟨f_K r, hK⟩⟩
theorem f_stV_N {n : Nat} {r : Row} (hw : wf n r) (k : Nat) {i : Nat} (hi : i < n) : ∃ c, c ≤ 7 ∧ f_stV n r k i = nI c := f_bits_N (wf_weeks (wf_inspAt hw hi) k)
theorem f_neg_lt {d : Int32} {c : Nat} (hd : d < 0) (hc : c ≤ 7) : d < nI c := by
  rw [fa_lt] at *
  rw [nI_toInt (by omega)]
  have : (0 : Int32).toInt = 0 := by decide
  omega
theorem f_st_T {n k i : Nat} {r : Row} {d : Int32} (h : f_stB d (f_stU n r k i) < f_stV n r k i) : f_stU n r k (i + 1) = some (i, f_stV n r k i) := by
  show (match f_stU n r k i with | none => some (i, f_stV n r k i) | some (j, b) => if b < f_stV n r k i then some (i, f_stV n r k i) else some (j, b)) = _
  cases e : f_stU n r k i with
  | none => rfl
  | some p =>
    obtain ⟨j, b⟩ := p
    rw [e] at h
    exact if_pos h
theorem f_st_F {n k i : Nat} {r : Row} {d : Int32} (hw : wf n r) (hi : i < n) (hd : d < 0) (h : ¬ f_stB d (f_stU n r k i) < f_stV n r k i) : f_stU n r k (i + 1) = f_stU n r k i := by
  show (match f_stU n r k i with | none => some (i, f_stV n r k i) | some (j, b) => if b < f_stV n r k i then some (i, f_stV n r k i) else some (j, b)) = _
  cases e : f_stU n r k i with
  | none =>
    rw [e] at h
    obtain ⟨c, hc, ev⟩ := f_stV_N hw k hi
    exact absurd (by rw [ev]; exact f_neg_lt hd hc) h
  | some p =>
    obtain ⟨j, b⟩ := p
    rw [e] at h
    exact if_neg h
theorem f_stU_lt (n : Nat) (r : Row) (k : Nat) : ∀ i j b, f_stU n r k i = some (j, b) → j < i
  | 0, _, _, e => by cases e
  | i + 1, j, b, e => by
    have e2 : (match f_stU n r k i with | none => some (i, f_stV n r k i) | some (j, b) => if b < f_stV n r k i then some (i, f_stV n r k i) else some (j, b)) = some (j, b) := e
    cases q : f_stU n r k i with
    | none => rw [q] at e2; cases e2; omega
    | some p =>
      obtain ⟨j2, b2⟩ := p
      rw [q] at e2
      have hj := f_stU_lt n r k i j2 b2 q
      by_cases c : b2 < f_stV n r k i
      · simp only [c, reduceIte] at e2; cases e2; omega
      · simp only [c, reduceIte] at e2; cases e2; omega
theorem f_when_r (n : Nat) (r : Row) (h : Nat) : f_when n r h = -9 ∨ ∃ j, j ≤ 60 ∧ f_when n r h = nI j := by
  rcases f_when_cases n r h with ⟨a, -⟩ | ⟨j, a, b, -⟩
  · exact Or.inl a
  · exact Or.inr ⟨j, a, b⟩
theorem f_bkV_N (n : Nat) (r : Row) (h k : Nat) : ∃ c, c ≤ 61 ∧ f_bkV n r h k = nI c := by
  unfold f_bkV
  rcases f_when_r n (upd r (6 + 6 * h) (nI k)) h with e | ⟨j, hj, e⟩
  · rw [e, if_pos f_neg9]; exact ⟨61, by omega, rfl⟩
  · rw [e, if_neg (nI_pos (by omega))]; exact ⟨j, by omega, rfl⟩
theorem f_bkV_9 {n h k : Nat} {r : Row} (e : f_when n (upd r (6 + 6 * h) (nI k)) h = -9) : f_bkV n r h k = 61 := by unfold f_bkV; rw [e, if_pos f_neg9]
theorem f_bkV_n {n h k : Nat} {r : Row} (e : ¬ f_when n (upd r (6 + 6 * h) (nI k)) h = -9) : f_bkV n r h k = f_when n (upd r (6 + 6 * h) (nI k)) h := by
  unfold f_bkV
  rcases f_when_r n (upd r (6 + 6 * h) (nI k)) h with q | ⟨j, hj, q⟩
  · exact absurd q e
  · rw [if_neg (by rw [q]; exact nI_pos (by omega))]
theorem f_bkU_T {n h k : Nat} {r : Row} (c : (f_bkU n r h k).2 < f_bkV n r h k) : f_bkU n r h (k + 1) = (k, f_bkV n r h k) := by rw [f_bkU_s, if_pos c]
theorem f_bkU_F {n h k : Nat} {r : Row} (c : ¬ (f_bkU n r h k).2 < f_bkV n r h k) : f_bkU n r h (k + 1) = f_bkU n r h k ∧ k ≠ 0 := by
  rw [f_bkU_s, if_neg c]
  refine ⟨rfl, fun q => c ?_⟩
  subst q
  obtain ⟨x, hx, e⟩ := f_bkV_N n r h 0
  rw [e]
  show (-1 : Int32) < nI x
  rw [fa_lt, nI_toInt (by omega)]
  have : (-1 : Int32).toInt = -1 := by decide
  omega
def f_bkG (n : Nat) (r : Row) (h k : Nat) : Int32 := if k = 0 then -9 else nI (f_bkU n r h k).1
theorem f_bkG_T {n h k : Nat} {r : Row} (c : (f_bkU n r h k).2 < f_bkV n r h k) : f_bkG n r h (k + 1) = nI k ∧ (f_bkU n r h (k + 1)).2 = f_bkV n r h k := by
  unfold f_bkG
  rw [if_neg (by omega), f_bkU_T c]
  exact ⟨rfl, rfl⟩
theorem f_bkG_F {n h k : Nat} {r : Row} (c : ¬ (f_bkU n r h k).2 < f_bkV n r h k) : f_bkG n r h (k + 1) = f_bkG n r h k ∧ (f_bkU n r h (k + 1)).2 = (f_bkU n r h k).2 := by
  obtain ⟨e, h0⟩ := f_bkU_F c
  unfold f_bkG
  rw [if_neg (by omega), if_neg h0, e]
  exact ⟨rfl, rfl⟩
/-- a HOUSE lets THE ROOM -/
def f_letR (r : Row) (h : Nat) : Row := upd (upd r 5 (r 5 ||| (1 <<< (nI h &&& 31)))) (6 + 6 * h + 4) (f_least 20 (r (6 + 6 * h + 4) + 3))
theorem f_letR_o {r : Row} {h i : Nat} (h5 : i ≠ 5) (h4 : i ≠ 6 + 6 * h + 4) : f_letR r h i = r i := by unfold f_letR; rw [upd_o h4, upd_o h5]
theorem f_letR_5 {r : Row} {h : Nat} : f_letR r h 5 = r 5 ||| (1 <<< (nI h &&& 31)) := by unfold f_letR; rw [upd_o (by omega), upd_s]
theorem f_orL : ∀ K : Fin 64, ∀ h : Fin 6, ∃ L : Fin 64, nI K.val ||| (1 <<< (nI h.val &&& 31)) = nI L.val := by decide +kernel
theorem wf_let {n h : Nat} {r : Row} (hw : wf n r) (hh : h < n) : wf n (f_letR r h) := by
  obtain ⟨a, b, c, d, ⟨L, hL, e⟩, f⟩ := hw
  obtain ⟨M, hM⟩ := f_orL ⟨L, hL⟩ ⟨h, by omega⟩
  refine ⟨a, by rw [f_letR_o (by omega) (by omega)]; exact b, by rw [f_letR_o (by omega) (by omega)]; exact c, by rw [f_letR_o (by omega) (by omega)]; exact d, ⟨M.val, M.isLt, by rw [f_letR_5, e]; exact hM⟩, fun y hy => ?_⟩
  rw [f_letR_o (by omega) (by omega), f_letR_o (by omega) (by omega), f_letR_o (by omega) (by omega)]
  exact f y hy
theorem f_letR_l {n h x : Nat} {r : Row} (hw : wf n r) (hh : h < n) (hx : x < n) : f_lets (f_letR r h) x = (decide (x = h) || f_lets r x) := by
  obtain ⟨a, -, -, -, ⟨L, hL, e⟩, -⟩ := hw
  show f_has (f_letR r h 5) (nI x) = (_ || f_has (r 5) (nI x))
  rw [f_letR_5, e]
  exact f_orK ⟨L, hL⟩ ⟨h, by omega⟩ ⟨x, by omega⟩
theorem TI.let {σ : Mem} {t n i : Nat} {r : Row} (h : TI σ t n r) (hw : wf n r) (ht : 1 ≤ t) (hi : i < n) : TI (mx_row σ (4 + 6 * t + i) (upd (upd (σ (4 + 6 * t + i)) 7 1) 4 (f_least 20 (σ (4 + 6 * t + i) 4 + 3)))) t n (f_letR r i) := by
  have hq := h.2.2.2.2 i hi
  refine h.house ht hi ⟨fun j hj => ?_, ?_, ?_⟩ (f_letR_o (by omega) (by omega)) (f_letR_o (by omega) (by omega)) (f_letR_o (by omega) (by omega)) (fun x hx hne => ⟨fun y hy => f_letR_o (by omega) (by omega), f_kept_c (f_letR_o (by omega) (by omega)), ?_⟩)
  · by_cases c : j = 4
    · subst c; rw [upd_s, hq.1 4 (by decide)]; unfold f_letR; rw [upd_s]
    · rw [upd_o c, upd_o (by omega), f_letR_o (by omega) (by omega)]; exact hq.1 j hj
  · rw [upd_o (by omega), upd_o (by omega), hq.2.1]; exact congrArg zb (f_kept_c (f_letR_o (by omega) (by omega))).symm
  · rw [upd_o (by omega), upd_s, f_letR_l hw hi hi, decide_eq_true rfl, Bool.true_or]; rfl
  · rw [f_letR_l hw hi hx, decide_eq_false hne, Bool.false_or]
theorem f_let_comm {r : Row} {a b : Nat} (hab : a ≠ b) : f_letR (f_letR r a) b = f_letR (f_letR r b) a := by
  funext i
  by_cases c1 : i = 5
  · subst c1
    rw [f_letR_5, f_letR_5, f_letR_5, f_letR_5, Int32.or_assoc, Int32.or_comm (1 <<< (nI a &&& 31)), ← Int32.or_assoc]
  · by_cases c2 : i = 6 + 6 * a + 4
    · subst c2
      rw [f_letR_o c1 (by omega)]
      unfold f_letR
      rw [upd_s, upd_s, upd_o (show 6 + 6 * a + 4 ≠ 6 + 6 * b + 4 by omega), upd_o c1]
    · by_cases c3 : i = 6 + 6 * b + 4
      · subst c3
        rw [f_letR_o (r := f_letR r b) c1 c2]
        unfold f_letR
        rw [upd_s, upd_s, upd_o (show 6 + 6 * b + 4 ≠ 6 + 6 * a + 4 by omega), upd_o c1]
      · rw [f_letR_o c1 c3, f_letR_o c1 c2, f_letR_o c1 c2, f_letR_o c1 c3]
def f_lt2 (r : Row) (a b : Nat) (x y : Bool) : Row := if y = true then f_letR (if x = true then f_letR r a else r) b else (if x = true then f_letR r a else r)
theorem wf_lt2 {n a b : Nat} {r : Row} (hw : wf n r) (ha : a < n) (hb : b < n) (x y : Bool) : wf n (f_lt2 r a b x y) := by
  unfold f_lt2
  cases x <;> cases y <;> simp only [reduceIte, Bool.false_eq_true]
  · exact hw
  · exact wf_let hw hb
  · exact wf_let hw ha
  · exact wf_let (wf_let hw ha) hb
theorem f_lt2_c {r : Row} {a b : Nat} (hab : a ≠ b) (x y : Bool) : f_lt2 r a b x y = f_lt2 r b a y x := by
  unfold f_lt2
  cases x <;> cases y <;> simp only [reduceIte, Bool.false_eq_true]
  exact f_let_comm hab
/-- what one has who lets (x) or not, the other letting (y) or not -/
def f_worth (n : Nat) (r : Row) (k w a b : Nat) (x y z : Bool) : Int32 := (if f_kept (f_weeks n (f_lt2 r a b x y) k) w = true then 5 else 0) - f_weeks n (f_lt2 r a b x y) k (6 + 6 * w + 5) + (if z = true then 2 else 0)
def f_nash (n : Nat) (r : Row) (k a b : Nat) (x y : Bool) : Bool := decide (f_worth n r k a a b (!x) y (!x) ≤ f_worth n r k a a b x y x) && decide (f_worth n r k b a b x (!y) (!y) ≤ f_worth n r k b a b x y y)
def f_two (n : Nat) (r : Row) (k a b : Nat) : Int32 := if f_nash n r k a b false false = true then 0 else if f_nash n r k a b false true = true then 1 else if f_nash n r k a b true false = true then 10 else if f_nash n r k a b true true = true then 11 else -9
def p_two (n : Nat) (r : Row) (a b k : Int32) : Int32 × Nat :=
  if f_inN a n = true ∧ f_inN b n = true ∧ a ≠ b then (if k < 0 then (-4, 4) else if 30 < k then (-6, 6) else (f_two n r k.toNatClampNeg a.toNatClampNeg b.toNatClampNeg, 0)) else (-1, 1)
theorem f_st_T2 {n k i : Nat} {r : Row} {d : Int32} (h : f_stB d (f_stU n r k i) < f_stV n r k i) : f_stN (f_stU n r k (i + 1)) = nI i ∧ f_stB d (f_stU n r k (i + 1)) = f_stV n r k i := by rw [f_st_T h]; exact ⟨rfl, rfl⟩
theorem f_st_F2 {n k i : Nat} {r : Row} {d : Int32} (hw : wf n r) (hi : i < n) (hd : d < 0) (h : ¬ f_stB d (f_stU n r k i) < f_stV n r k i) : f_stN (f_stU n r k (i + 1)) = f_stN (f_stU n r k i) ∧ f_stB d (f_stU n r k (i + 1)) = f_stB d (f_stU n r k i) := by rw [f_st_F hw hi hd h]; exact ⟨rfl, rfl⟩
theorem f_st_1 {o : Option (Nat × Int32)} {what : Int32} (h : what = 0) : (match o with | none => -9 | some (j, b) => if what = 0 then nI j else b) = f_stN o := by
  cases o with
  | none => rfl
  | some p => obtain ⟨j, b⟩ := p; exact if_pos h
theorem f_st_2 {o : Option (Nat × Int32)} {what : Int32} (h : ¬ what = 0) : (match o with | none => -9 | some (j, b) => if what = 0 then nI j else b) = f_stB (-9) o := by
  cases o with
  | none => rfl
  | some p => obtain ⟨j, b⟩ := p; exact if_neg h
theorem f_nash_a {n k a b : Nat} {r : Row} {x y : Bool} (h : ¬ f_worth n r k a a b (!x) y (!x) ≤ f_worth n r k a a b x y x) : f_nash n r k a b x y = false := by
  unfold f_nash; rw [decide_eq_false h]; rfl
theorem f_nash_b {n k a b : Nat} {r : Row} {x y : Bool} (h : ¬ f_worth n r k b a b x (!y) (!y) ≤ f_worth n r k b a b x y y) : f_nash n r k a b x y = false := by
  unfold f_nash; rw [decide_eq_false h, Bool.and_false]
theorem f_nash_t {n k a b : Nat} {r : Row} {x y : Bool} (h : f_worth n r k a a b (!x) y (!x) ≤ f_worth n r k a a b x y x) (h2 : f_worth n r k b a b x (!y) (!y) ≤ f_worth n r k b a b x y y) : f_nash n r k a b x y = true := by
  unfold f_nash; rw [decide_eq_true h, decide_eq_true h2]; rfl
theorem f_airM_F {n k s : Nat} {r : Row} (h : ¬ (f_cnt s < f_airL (f_airU n r k s) ∧ f_airOk n r k s = true)) : f_o9 (f_airU n r k (s + 1)) = f_o9 (f_airU n r k s) := (f_air_F h).2
theorem f_airM_T {n k s : Nat} {r : Row} (h : f_cnt s < f_airL (f_airU n r k s)) (h2 : f_airOk n r k s = true) : f_o9 (f_airU n r k (s + 1)) = nI s := (f_air_T h h2).2
theorem f_cnt_le6 {s : Nat} (h : s < 64) : f_cnt s ≤ 6 := by
  have e : ∀ s : Fin 64, f_cnt s.val ≤ 6 := by decide +kernel
  exact e ⟨s, h⟩
theorem f_bits_lt {s f : Nat} (h : s < 64) (h2 : f < 64) (z : f_cnt s < f_cnt f) : f_bits (nI s) < f_bits (nI f) := by
  have h3 := f_cnt_le f
  rw [f_cnt_bits ⟨s, h⟩, f_cnt_bits ⟨f, h2⟩]
  exact nI_lt z (Nat.lt_of_le_of_lt h3 (by decide))
theorem f_bits_gt {s f : Nat} (h : s < 64) (h2 : f < 64) (z : f_bits (nI s) < f_bits (nI f)) : f_cnt s < f_cnt f := by
  have h3 := f_cnt_le f
  have h4 := f_cnt_le s
  rw [f_cnt_bits ⟨s, h⟩, f_cnt_bits ⟨f, h2⟩] at z
  exact (nI_ltI (Nat.lt_of_le_of_lt h4 (by decide)) (Nat.lt_of_le_of_lt h3 (by decide))).mp z
theorem f_st_4 {o : Option (Nat × Int32)} {what : Int32} : (∀ j b, o = some (j, b) → j < 1000) → f_stN o < 0 → (match o with | none => -9 | some (j, b) => if what = 0 then nI j else b) = f_stN o := by
  intro hl h
  cases o with
  | none => rfl
  | some p =>
    obtain ⟨j, b⟩ := p
    have hj := hl j b rfl
    exact absurd h (nI_pos (by omega))
theorem f_st_5 {o : Option (Nat × Int32)} {what : Int32} : ¬ what = 0 → ¬ f_stN o < 0 → (match o with | none => -9 | some (j, b) => if what = 0 then nI j else b) = f_stB (-1) o := by
  intro h0 h
  cases o with
  | none => exact absurd (by decide) h
  | some p => obtain ⟨j, b⟩ := p; exact if_neg h0
