/-! ===== what the calls that change the town leave ===== -/
def Sz (n : Nat) (r' : Row) (c : Nat) (σ τ : Mem) : Prop := ∃ σ' : Mem, TI σ' 1 n r' ∧ Off 1 σ σ' ∧ Qz c σ' τ
def Sm (r' : Row) (c : Nat) (σ τ : Mem) : Prop := Qm c (mx_row σ 36 r') τ
theorem Sz.no {n c : Nat} {r : Row} {σ : Mem} (h : TI σ 1 n r) : Sz n r c σ (mx_up σ 34 c (σ 34 c + 1)) := ⟨σ, h, Off.rf, Qz.no⟩
theorem Sz.ok {n : Nat} {r : Row} {σ τ : Mem} (h : TI τ 1 n r) (o : Off 1 σ τ) : Sz n r 0 σ τ := ⟨τ, h, o, Qz.rf⟩
theorem f_week_5 {n : Nat} {r : Row} : f_week n r 5 = r 5 := by
  unfold f_week
  have e0 : f_ageU (upd r 1 (r 1 + 1)) n 5 = r 5 := (f_ageU_o (by omega) (by omega) (by omega) n).trans (upd_o (by decide))
  rw [← e0]
  generalize f_ageU (upd r 1 (r 1 + 1)) n = q
  unfold f_insp
  by_cases c : n = 0
  · rw [if_pos c]
  · rw [if_neg c, upd_o (by decide)]
    split
    · split
      · unfold f_loses
        rw [upd_o (by omega)]
        split
        · rw [upd_o (by omega)]; exact upd_o (by decide)
        · exact upd_o (by decide)
      · rw [upd_o (by omega)]
    · rfl
theorem f_weeks_5 {n : Nat} {r : Row} : ∀ k, f_weeks n r k 5 = r 5
  | 0 => rfl
  | k + 1 => by
    show f_week n (f_weeks n r k) 5 = _
    rw [f_week_5, f_weeks_5 k]
def zt_set (n : Nat) (r : Row) (house v : Int32) (w hi : Nat) : Int32 × Nat × Row :=
  if f_inN house n = true then (if v < 0 then (-4, 4, r) else if nI hi < v then (-6, 6, r) else (r (6 + 6 * house.toNatClampNeg + w), 0, upd r (6 + 6 * house.toNatClampNeg + w) v)) else (-1, 1, r)
def zt_airs (n : Nat) (r : Row) (house : Int32) : Int32 × Nat × Row :=
  if f_inN house n = true then (if f_kept r house.toNatClampNeg = true then (r (6 + 6 * house.toNatClampNeg + 4), 0, upd r (6 + 6 * house.toNatClampNeg + 4) 0) else (-3, 3, r)) else (-1, 1, r)
def f_tog (r : Row) (h : Nat) : Row := upd r 4 (r 4 ^^^ (1 <<< (nI h &&& 31)))
def zt_keeps (n : Nat) (r : Row) (house : Int32) : Int32 × Nat × Row :=
  if f_inN house n = true then (zb (!f_kept r house.toNatClampNeg), 0, f_tog r house.toNatClampNeg) else (-1, 1, r)
def zt_visits (n : Nat) (r : Row) (house : Int32) : Int32 × Nat × Row := if f_inN house n = true then (r 2, 0, upd r 2 house) else (-1, 1, r)
def zt_candles (n : Nat) (r : Row) (v : Int32) : Int32 × Nat × Row := if v < 0 then (-4, 4, r) else if 999 < v then (-6, 6, r) else (r 3, 0, upd r 3 v)
def zt_turn (n : Nat) (r : Row) (house kind figure : Int32) : Int32 × Nat × Row :=
  if f_inN house n = true then (if f_in kind 0 5 = true then (if figure < 0 then (-4, 4, r) else if 9 < figure then (-6, 6, r) else
    (10 * r (6 + 6 * house.toNatClampNeg) + r (6 + 6 * house.toNatClampNeg + 1), 0, upd (upd r (6 + 6 * house.toNatClampNeg) kind) (6 + 6 * house.toNatClampNeg + 1) figure)) else (-2, 2, r)) else (-1, 1, r)
def zt_weeks (n : Nat) (r : Row) (k : Int32) : Int32 × Nat × Row :=
  if k < 1 then (-4, 4, r) else if 60 < k ∨ 999 < r 1 + k then (-6, 6, r) else (f_bits (f_weeks n r k.toNatClampNeg 4), 0, f_weeks n r k.toNatClampNeg)
/-! turned to and fro -/
theorem f_xorK : ∀ K : Fin 64, ∀ h x : Fin 6, f_has (nI K.val ^^^ (1 <<< (nI h.val &&& 31))) (nI x.val) = (if x.val = h.val then !f_has (nI K.val) (nI x.val) else f_has (nI K.val) (nI x.val)) := by decide +kernel
theorem f_xorN : ∀ K : Fin 64, ∀ h : Fin 6, nI K.val ^^^ (1 <<< (nI h.val &&& 31)) = nI (K.val ^^^ 2 ^ h.val) := by decide +kernel
theorem f_tog_o {r : Row} {h i : Nat} (hi : i ≠ 4) : f_tog r h i = r i := upd_o hi
theorem wf_tog {n h : Nat} {r : Row} (hw : wf n r) (hh : h < n) : wf n (f_tog r h) := by
  obtain ⟨a, b, c, ⟨K, hK, e⟩, d, f⟩ := hw
  have h64 : 2 ^ n ≤ 2 ^ 6 := Nat.pow_le_pow_right (by decide) a
  refine ⟨a, by rw [f_tog_o (by decide)]; exact b, by rw [f_tog_o (by decide)]; exact c, ⟨K ^^^ 2 ^ h, Nat.xor_lt_two_pow hK (Nat.pow_lt_pow_right (by decide) hh), ?_⟩, by rw [f_tog_o (by decide)]; exact d, fun y hy => ?_⟩
  · show upd r 4 _ 4 = _
    rw [upd_s, e]
    exact f_xorN ⟨K, by omega⟩ ⟨h, by omega⟩
  · rw [f_tog_o (by omega), f_tog_o (by omega), f_tog_o (by omega)]
    exact f y hy
theorem f_tog_k {n h x : Nat} {r : Row} (hw : wf n r) (hh : h < n) (hx : x < n) : f_kept (f_tog r h) x = if x = h then !f_kept r x else f_kept r x := by
  obtain ⟨K, hK, -, e⟩ := wf_K hw
  have hn := hw.1
  show f_has (f_tog r h 4) (nI x) = if x = h then !f_has (r 4) (nI x) else f_has (r 4) (nI x)
  rw [show f_tog r h 4 = r 4 ^^^ (1 <<< (nI h &&& 31)) from upd_s, e]
  exact f_xorK ⟨K, hK⟩ ⟨h, by omega⟩ ⟨x, by omega⟩
theorem TI.tog {σ : Mem} {t n i : Nat} {r : Row} {v : Int32} (h : TI σ t n r) (hw : wf n r) (ht : 1 ≤ t) (hi : i < n) (hv : v = zb (!f_kept r i)) : TI (mx_up σ (4 + 6 * t + i) 6 v) t n (f_tog r i) := by
  rw [mx_up_row]
  have hq := h.2.2.2.2 i hi
  refine h.house ht hi ⟨fun j hj => ?_, ?_, ?_⟩ (f_tog_o (by omega)) (f_tog_o (by omega)) (f_tog_o (by omega)) (fun x hx hne => ⟨fun y hy => f_tog_o (by omega), ?_, f_lets_c (f_tog_o (by decide))⟩)
  · rw [upd_o (by omega), f_tog_o (by omega)]; exact hq.1 j hj
  · rw [upd_s, hv, f_tog_k hw hi hi, if_pos rfl]
  · rw [upd_o (by decide), hq.2.2]; exact congrArg zb (f_lets_c (f_tog_o (by decide))).symm
  · rw [f_tog_k hw hi hx, if_neg hne]
theorem f_in5T {k : Int32} (h : ¬ k < 0) (h2 : k < 6) : f_in k 0 5 = true := by
  unfold f_in
  have e : k ≤ 5 := by
    rw [fa_lt] at h2
    rw [fa_le]
    have : (6 : Int32).toInt = 6 := by decide
    have : (5 : Int32).toInt = 5 := by decide
    omega
  rw [decide_eq_true (Int32.not_lt.mp h), decide_eq_true e]; rfl
theorem f_in5a {k : Int32} (h : k < 0) : f_in k 0 5 = false := by
  unfold f_in
  rw [decide_eq_false (Int32.not_le.mpr h)]; rfl
theorem f_in5b {k : Int32} (h : ¬ k < 6) : f_in k 0 5 = false := by
  unfold f_in
  have e : ¬ k ≤ 5 := fun q => h (by
    rw [fa_le] at q
    rw [fa_lt]
    have : (6 : Int32).toInt = 6 := by decide
    have : (5 : Int32).toInt = 5 := by decide
    omega)
  rw [decide_eq_false e, Bool.and_false]
