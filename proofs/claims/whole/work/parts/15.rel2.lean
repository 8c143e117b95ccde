/-! ===== bits, sums and bests over a row ===== -/
def f_cnt (K : Nat) : Nat := K % 2 + K / 2 % 2 + K / 4 % 2 + K / 8 % 2 + K / 16 % 2 + K / 32 % 2 + K / 64 % 2
theorem f_cnt_bits : ∀ K : Fin 64, f_bits (nI K.val) = nI (f_cnt K.val) := by decide +kernel
theorem f_orB : ∀ K : Fin 64, ∀ i : Fin 6, K.val.testBit i.val = true → nI (K.val % 2 ^ i.val) ||| (1 <<< (nI i.val &&& 31)) = nI (K.val % 2 ^ (i.val + 1)) := by decide +kernel
theorem f_orN : ∀ K : Fin 64, ∀ i : Fin 6, K.val.testBit i.val = false → K.val % 2 ^ (i.val + 1) = K.val % 2 ^ i.val := by decide +kernel
theorem wf_kt {n : Nat} {r : Row} {K i : Nat} (hK : K < 64) (e4 : r 4 = nI K) (hi : i < 6) : f_kept r i = K.testBit i := by
  show f_has (r 4) (nI i) = _
  rw [e4]
  exact f_keptB ⟨K, hK⟩ ⟨i, hi⟩
def f_setU (p : Nat → Bool) : Nat → Int32
  | 0 => 0
  | i + 1 => if p i = true then f_setU p i ||| (1 <<< (nI i &&& 31)) else f_setU p i
theorem f_setU_s (p : Nat → Bool) (i : Nat) : f_setU p (i + 1) = if p i = true then f_setU p i ||| (1 <<< (nI i &&& 31)) else f_setU p i := rfl
theorem f_setU_t {p : Nat → Bool} {i : Nat} (h : p i = true) : f_setU p (i + 1) = f_setU p i ||| (1 <<< (nI i &&& 31)) := by rw [f_setU_s, if_pos h]
theorem f_setU_f {p : Nat → Bool} {i : Nat} (h : p i = false) : f_setU p (i + 1) = f_setU p i := by rw [f_setU_s, h]; rfl
def f_noP (r : Row) (i : Nat) : Bool := decide (r (6 + 6 * i + 3) = 0)
theorem f_burnsU_t {r : Row} {h : Nat} (c : f_kept r h = true) : f_burnsU r (h + 1) = f_burnsU r h + f_burns (r (6 + 6 * h)) := by rw [f_burnsU_s, if_pos c]
theorem f_burnsU_f {r : Row} {h : Nat} (c : f_kept r h = false) : f_burnsU r (h + 1) = f_burnsU r h := by rw [f_burnsU_s, c]; simp
def f_spareU (r : Row) : Nat → Int32
  | 0 => 0
  | h + 1 => f_spareU r h + (if f_kept r h = true then f_crowdR r h * r (6 + 6 * h + 2) - r (6 + 6 * h + 3) else 0)
theorem f_spareU_s (r : Row) (h : Nat) : f_spareU r (h + 1) = f_spareU r h + (if f_kept r h = true then f_crowdR r h * r (6 + 6 * h + 2) - r (6 + 6 * h + 3) else 0) := rfl
theorem f_spareU_t {r : Row} {h : Nat} (c : f_kept r h = true) : f_spareU r (h + 1) = f_spareU r h + (f_crowdR r h * r (6 + 6 * h + 2) - r (6 + 6 * h + 3)) := by rw [f_spareU_s, if_pos c]
theorem f_spareU_f {r : Row} {h : Nat} (c : f_kept r h = false) : f_spareU r (h + 1) = f_spareU r h := by rw [f_spareU_s, c]; simp
def f_o9 : Option Nat → Int32
  | none => -9
  | some j => nI j
def f_bestU (g : Nat → Int32) (kp : Nat → Bool) : Nat → Option Nat
  | 0 => none
  | h + 1 => if kp h = true then (match f_bestU g kp h with | none => some h | some j => if g j < g h then some h else some j) else f_bestU g kp h
theorem f_bestU_lt (g : Nat → Int32) (kp : Nat → Bool) : ∀ h j, f_bestU g kp h = some j → j < h
  | 0, _, e => by cases e
  | h + 1, j, e => by
    unfold f_bestU at e
    by_cases c : kp h = true
    · rw [if_pos c] at e
      cases q : f_bestU g kp h with
      | none => rw [q] at e; cases e; omega
      | some x =>
        rw [q] at e
        have hx := f_bestU_lt g kp h x q
        by_cases c2 : g x < g h
        · simp only [c2, reduceIte] at e; cases e; omega
        · simp only [c2, reduceIte] at e; cases e; omega
    · rw [if_neg c] at e
      have := f_bestU_lt g kp h j e
      omega
theorem f_bestU_f {g : Nat → Int32} {kp : Nat → Bool} {h : Nat} (c : kp h = false) : f_bestU g kp (h + 1) = f_bestU g kp h := by
  show (if kp h = true then _ else _) = _
  rw [if_neg (by rw [c]; decide)]
theorem f_bestU_n {g : Nat → Int32} {kp : Nat → Bool} {h : Nat} (c : kp h = true) (e : f_bestU g kp h = none) : f_bestU g kp (h + 1) = some h := by
  show (if kp h = true then (match f_bestU g kp h with | none => some h | some j => if g j < g h then some h else some j) else _) = _
  rw [if_pos c, e]
theorem f_bestU_j {g : Nat → Int32} {kp : Nat → Bool} {h j : Nat} (c : kp h = true) (e : f_bestU g kp h = some j) : f_bestU g kp (h + 1) = if g j < g h then some h else some j := by
  show (if kp h = true then (match f_bestU g kp h with | none => some h | some j => if g j < g h then some h else some j) else _) = _
  rw [if_pos c, e]
/-- the most LOST one behind the other, round -/
def f_lenC (n K a : Nat) : Nat → Nat → Nat
  | 0, l => l
  | d + 1, l => if K.testBit ((a + l) % n) = true then l else f_lenC n K a d (l + 1)
def f_runC (n K : Nat) : Nat → Nat
  | 0 => 0
  | a + 1 => Nat.max (f_runC n K a) (f_lenC n K a n 0)
