theorem arrV_c {cA : ClassId} {N : Nat} {f g : Row} (h : ∀ j, j < N → f j = g j) : arrV cA N (fun j => .int (f j)) = arrV cA N (fun j => .int (g j)) := by
  have e : (fun j : Fin N => Value.int (f j.val)) = fun j : Fin N => Value.int (g j.val) := funext fun j => by rw [h j.val j.isLt]
  unfold arrV
  rw [e]
theorem va_at_c {D : va_G} {cl : List vw_C} {a N : Nat} {cA : ClassId} {f g : Row} {H : Heap} (h : ∀ j, j < N → f j = g j) (p : va_at D cl (a, .inl (cA, N, .inl f)) H) : va_at D cl (a, .inl (cA, N, .inl g)) H := by
  have p2 : H[a]? = some (arrV cA N (fun j => .int (f j))) := p
  rw [arrV_c h] at p2
  exact p2
theorem mx_P42 {E : mx_E} {σ : Mem} {a : Nat} {f g : Row} {H : Heap} (h1 : 36 ≤ a) (h2 : a < 40) (h : ∀ j, j < 42 → f j = g j) (P : va_P E.1 mx_cl (mx_w E (mx_row σ a f)) H) : va_P E.1 mx_cl (mx_w E (mx_row σ a g)) H := by
  intro k q hq
  obtain ⟨hk, rfl⟩ := mx_some hq
  have p := P k _ (mx_get hk)
  by_cases e : k = a
  · subst e
    rw [mx_cI (by omega) (by omega), mx_row_s] at p ⊢
    exact va_at_c (by rw [mx_n_s h1 h2]; exact h) p
  · rw [mx_cellc (σ := σ) (mx_row_o e)] at p ⊢
    exact p
theorem x_mem42 {E : mx_E} {K : Nat} {own : String} {cc : ByteArray} {nL : Nat} {ret : Option FieldType} {pc : Nat} {lv : List (Nat × Value)} {st : List Value} {σ : Mem} {post : Option Value → Mem → Prop} {a : Nat} {f g : Row} (h1 : 36 ≤ a) (h2 : a < 40) (h : ∀ j, j < 42 → f j = g j) (k : MX E K own cc nL ret pc lv st (mx_row σ a g) post) : MX E K own cc nL ret pc lv st (mx_row σ a f) post := by
  intro p l e s m args below meth c H locs ls Qc C P S L hq
  exact k p l e s m args below meth c H locs ls Qc C (mx_P42 h1 h2 h P) S L hq
/-- a town on the way to become another -/
def TIp (τ : Mem) (t n i : Nat) (r : Row) : Prop := τ t 2 = nI n ∧ τ t 3 = r 2 ∧ τ t 4 = r 3 ∧ τ t 5 = r 1 ∧ ∀ x, x < i → HQ (τ (4 + 6 * t + x)) r x
theorem HQ.c8 {q q2 r : Row} {h : Nat} (hq : HQ q r h) (h8 : ∀ j, j < 8 → q2 j = q j) : HQ q2 r h :=
  ⟨fun j hj => (h8 j (by omega)).trans (hq.1 j hj), (h8 6 (by decide)).trans hq.2.1, (h8 7 (by decide)).trans hq.2.2⟩
theorem TIp.step {τ : Mem} {t n i : Nat} {r q q2 : Row} (h : TIp τ t n i r) (ht : 1 ≤ t) (h8 : ∀ j, j < 8 → q2 j = q j) (hq : HQ q r i) : TIp (mx_row τ (4 + 6 * t + i) q2) t n (i + 1) r := by
  refine ⟨?_, ?_, ?_, ?_, fun x hx => ?_⟩
  · rw [mx_row_o (by omega)]; exact h.1
  · rw [mx_row_o (by omega)]; exact h.2.1
  · rw [mx_row_o (by omega)]; exact h.2.2.1
  · rw [mx_row_o (by omega)]; exact h.2.2.2.1
  · by_cases e : x = i
    · subst e; rw [mx_row_s]; exact hq.c8 h8
    · rw [mx_row_o (by omega)]; exact h.2.2.2.2 x (by omega)
theorem TIp.four {σ : Mem} {t n : Nat} {r : Row} : TIp (mx_up (mx_up (mx_up (mx_up σ t 2 (nI n)) t 3 (r 2)) t 4 (r 3)) t 5 (r 1)) t n 0 r := by
  refine ⟨?_, ?_, ?_, ?_, fun x hx => by omega⟩ <;> (rw [mx_up_s]; simp only [mx_up_s]; simp [upd])
def f_build (n : Nat) (r : Row) (a b c d : Int32) : Row := upd (upd (upd (upd (upd (upd (upd (upd r (6 + 6 * n) a) (6 + 6 * n + 1) b) (6 + 6 * n + 2) c) (6 + 6 * n + 3) d) (6 + 6 * n + 4) 0) (6 + 6 * n + 5) 0) 4 (r 4 ||| (1 <<< (nI n &&& 31)))) 0 (nI (n + 1))
theorem f_build_o {n : Nat} {r : Row} {a b c d : Int32} {i : Nat} (h0 : i ≠ 0) (h4 : i ≠ 4) (h6 : i < 6 + 6 * n ∨ 12 + 6 * n ≤ i) : f_build n r a b c d i = r i := by
  unfold f_build
  rw [upd_o h0, upd_o h4, upd_o (by omega), upd_o (by omega), upd_o (by omega), upd_o (by omega), upd_o (by omega), upd_o (by omega)]
theorem f_build_4 {n : Nat} {r : Row} {a b c d : Int32} : f_build n r a b c d 4 = r 4 ||| (1 <<< (nI n &&& 31)) := rfl
theorem f_build_h {n : Nat} {r : Row} {a b c d : Int32} {j : Nat} (hj : j < 6) : f_build n r a b c d (6 + 6 * n + j) = if j = 0 then a else if j = 1 then b else if j = 2 then c else if j = 3 then d else 0 := by
  unfold f_build
  rw [upd_o (by omega), upd_o (by omega)]
  rcases (show j = 0 ∨ j = 1 ∨ j = 2 ∨ j = 3 ∨ j = 4 ∨ j = 5 by omega) with rfl | rfl | rfl | rfl | rfl | rfl <;> simp [upd]
theorem f_orK : ∀ K : Fin 64, ∀ n x : Fin 6, f_has (nI K.val ||| (1 <<< (nI n.val &&& 31))) (nI x.val) = (decide (x.val = n.val) || f_has (nI K.val) (nI x.val)) := by decide +kernel
theorem f_orK2 : ∀ K : Fin 64, ∀ n : Fin 6, K.val < 2 ^ n.val → nI K.val ||| (1 <<< (nI n.val &&& 31)) = nI (K.val + 2 ^ n.val) := by decide +kernel
theorem f_has0 : ∀ n : Fin 6, f_has 0 (nI n.val) = false := by decide +kernel
theorem f_build_k {n : Nat} {r : Row} {a b c d : Int32} (hw : wf n r) (hn : n < 6) {x : Nat} (hx : x < 6) : f_kept (f_build n r a b c d) x = (decide (x = n) || f_kept r x) := by
  obtain ⟨K, hK, -, e⟩ := wf_K hw
  show f_has (f_build n r a b c d 4) (nI x) = (_ || f_has (r 4) (nI x))
  rw [f_build_4, e]
  exact f_orK ⟨K, hK⟩ ⟨n, hn⟩ ⟨x, hx⟩
theorem TI.build {σ : Mem} {t n : Nat} {r q : Row} {a b c d : Int32} (h : TI σ t n r) (hw : wf n r) (ht : 1 ≤ t) (hn : n < 6) (h5 : r 5 = 0) (h8 : ∀ j, j < 8 → q j = if j = 2 then 1 else 0) :
    TI (mx_row (mx_up σ t 2 (nI (n + 1))) (4 + 6 * t + n) (upd (upd (upd (upd (upd q 0 a) 1 b) 2 c) 3 d) 6 1)) t (n + 1) (f_build n r a b c d) := by
  refine ⟨?_, ?_, ?_, ?_, fun x hx => ?_⟩
  · rw [mx_row_o (by omega), mx_up_s, upd_s]
  · rw [mx_row_o (by omega), mx_up_s, upd_o (by decide), f_build_o (by decide) (by decide) (by omega)]; exact h.2.1
  · rw [mx_row_o (by omega), mx_up_s, upd_o (by decide), f_build_o (by decide) (by decide) (by omega)]; exact h.2.2.1
  · rw [mx_row_o (by omega), mx_up_s, upd_o (by decide), f_build_o (by decide) (by decide) (by omega)]; exact h.2.2.2.1
  · have e5 : f_build n r a b c d 5 = r 5 := f_build_o (by decide) (by decide) (by omega)
    by_cases e : x = n
    · subst e
      rw [mx_row_s]
      refine ⟨fun j hj => ?_, ?_, ?_⟩
      · rw [f_build_h hj, upd_o (by omega)]
        rcases (show j = 0 ∨ j = 1 ∨ j = 2 ∨ j = 3 ∨ j = 4 ∨ j = 5 by omega) with rfl | rfl | rfl | rfl | rfl | rfl <;> simp [upd, h8]
      · rw [upd_s, f_build_k hw hn hn, decide_eq_true rfl, Bool.true_or]; rfl
      · rw [upd_o (by decide), upd_o (by decide), upd_o (by decide), upd_o (by decide), upd_o (by decide), h8 7 (by decide), f_lets_c e5]
        unfold f_lets
        rw [h5, f_has0 ⟨x, hn⟩]; rfl
    · have hx2 : x < n := by omega
      rw [mx_row_o (by omega), mx_up_o (by omega)]
      refine (h.2.2.2.2 x hx2).to (fun j hj => f_build_o (by omega) (by omega) (by omega)) ?_ (f_lets_c e5)
      rw [f_build_k hw hn (by omega), decide_eq_false e, Bool.false_or]
theorem wf_build {n : Nat} {r : Row} {a b c d : Int32} (hw : wf n r) (hn : n < 6) (ha : ∃ k, k < 6 ∧ a = nI k) (hb : ∃ f, f ≤ 9 ∧ b = nI f) (hd : ∃ q, q ≤ 30 ∧ d = nI q) : wf (n + 1) (f_build n r a b c d) := by
  obtain ⟨h1, h2, ⟨x, ex, hx0, hx1⟩, h4, h5, hh⟩ := hw
  refine ⟨by omega, rfl, ⟨x, by rw [f_build_o (by decide) (by decide) (by omega)]; exact ex, by omega, fun _ => ?_⟩, ?_, by rw [f_build_o (by decide) (by decide) (by omega)]; exact h5, fun y hy => ?_⟩
  · rcases Nat.eq_zero_or_pos n with q | q
    · have := hx0 q; omega
    · have := hx1 q; omega
  · obtain ⟨K, hK, e⟩ := h4
    have hK64 : K < 64 := Nat.lt_of_lt_of_le hK (Nat.pow_le_pow_right (n := 2) (by decide) h1)
    refine ⟨K + 2 ^ n, by rw [Nat.pow_succ]; omega, ?_⟩
    rw [f_build_4, e]
    exact f_orK2 ⟨K, hK64⟩ ⟨n, hn⟩ hK
  · by_cases e : y = n
    · subst e
      exact ⟨by rw [show 6 + 6 * y = 6 + 6 * y + 0 from rfl, f_build_h (by decide)]; exact ha, by rw [f_build_h (by decide)]; exact hb, by rw [f_build_h (by decide)]; exact hd⟩
    · rw [f_build_o (by omega) (by omega) (by omega), f_build_o (by omega) (by omega) (by omega), f_build_o (by omega) (by omega) (by omega)]
      exact hh y (by omega)
theorem f_lenC_le (n K a : Nat) : ∀ d l, f_lenC n K a d l ≤ d + l
  | 0, l => by unfold f_lenC; omega
  | d + 1, l => by
    unfold f_lenC
    split
    · omega
    · have := f_lenC_le n K a d (l + 1); omega
theorem f_runC_le (n K : Nat) : ∀ a, f_runC n K a ≤ n
  | 0 => by unfold f_runC; omega
  | a + 1 => by
    unfold f_runC
    exact Nat.max_le.mpr ⟨f_runC_le n K a, f_lenC_le n K a n 0⟩
theorem f_maxI {x y : Nat} (hx : x < 2 ^ 31) (hy : y < 2 ^ 31) : (if nI x < nI y then nI y else nI x) = nI (Nat.max x y) := by
  by_cases c : nI x < nI y
  · rw [if_pos c]
    have := (nI_ltI hx hy).mp c
    rw [show Nat.max x y = y from Nat.max_eq_right (by omega)]
  · rw [if_neg c]
    have : ¬ x < y := fun q => c ((nI_ltI hx hy).mpr q)
    rw [show Nat.max x y = x from Nat.max_eq_left (by omega)]
theorem f_lenC_t {n K a l : Nat} (hl : l < n) {v : Nat} (hg : f_lenC n K a (n - l) l = v) (c : K.testBit ((a + l) % n) = true) : v = l := by
  rw [show n - l = (n - (l + 1)) + 1 by omega] at hg
  unfold f_lenC at hg
  rw [if_pos c] at hg
  exact hg.symm
theorem f_lenC_f {n K a l : Nat} (hl : l < n) {v : Nat} (hg : f_lenC n K a (n - l) l = v) (c : K.testBit ((a + l) % n) = false) : f_lenC n K a (n - (l + 1)) (l + 1) = v := by
  rw [show n - l = (n - (l + 1)) + 1 by omega] at hg
  unfold f_lenC at hg
  rw [c] at hg
  exact hg
theorem f_lenC_e {n K a l : Nat} (hl : n ≤ l) {v : Nat} (hg : f_lenC n K a (n - l) l = v) : v = l := by
  rw [show n - l = 0 by omega] at hg
  exact hg.symm
