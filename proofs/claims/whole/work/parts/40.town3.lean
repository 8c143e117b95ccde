/-! ===== reading, of the reference ===== -/
def f_here (L : Row) (lm p : Nat) : Int32 := if p < lm then L p else -1
/-- a number read: the k-th number is v, the place q -/
def mx_nm (σ : Mem) (k : Nat) (v : Int32) (q : Nat) : Mem := mx_up (mx_up σ 43 k v) 35 10 (nI q)
theorem mx_nm_0 {σ : Mem} {k p : Nat} {v : Int32} (h : σ 35 10 = nI p) : mx_up σ 43 k v = mx_nm σ k v p := by
  unfold mx_nm
  funext a
  by_cases c : a = 35
  · subst c
    rw [mx_up_s, mx_up_o (by decide)]
    funext j
    unfold upd
    by_cases e : j = 10
    · rw [if_pos e, e, h]
    · rw [if_neg e]
  · rw [mx_up_o (k := 35) c]
theorem mx_nm_1 {σ : Mem} {k q q2 : Nat} {v v2 : Int32} : mx_up (mx_up (mx_nm σ k v q) 43 k v2) 35 10 (nI q2) = mx_nm σ k v2 q2 := by
  unfold mx_nm
  funext a
  by_cases c : a = 35
  · subst c
    rw [mx_up_s, mx_up_s, mx_up_o (by decide), mx_up_s, mx_up_o (by decide)]
    funext j
    unfold upd
    by_cases e : j = 10
    · rw [if_pos e, if_pos e]
    · rw [if_neg e, if_neg e, if_neg e, mx_up_o (show 35 ≠ 43 by decide)]
  · rw [mx_up_o (k := 35) c, mx_up_o (k := 35) c]
    by_cases d : a = 43
    · subst d
      rw [mx_up_s, mx_up_s, mx_up_o (by decide), mx_up_s]
      funext j
      unfold upd
      by_cases e : j = k
      · rw [if_pos e, if_pos e]
      · rw [if_neg e, if_neg e, if_neg e]
    · rw [mx_up_o d, mx_up_o d, mx_up_o c, mx_up_o d]
theorem mx_nm_o {σ : Mem} {k q a : Nat} {v : Int32} (h1 : a ≠ 35) (h2 : a ≠ 43) : mx_nm σ k v q a = σ a := (mx_up_o h1).trans (mx_up_o h2)
theorem mx_nm_35 {σ : Mem} {k q j : Nat} {v : Int32} (h : j ≠ 10) : mx_nm σ k v q 35 j = σ 35 j := by
  unfold mx_nm
  rw [mx_up_s, upd_o h, mx_up_o (by decide)]
theorem mx_nm_p {σ : Mem} {k q : Nat} {v : Int32} : mx_nm σ k v q 35 10 = nI q := by
  unfold mx_nm
  rw [mx_up_s, upd_s]
theorem mx_nm_s {σ : Mem} {k q : Nat} {v : Int32} : mx_nm σ k v q 43 k = v := by
  unfold mx_nm
  rw [mx_up_o (by decide), mx_up_s, upd_s]
theorem mx_nm_n {σ : Mem} {k q j : Nat} {v : Int32} (h : j ≠ k) : mx_nm σ k v q 43 j = σ 43 j := by
  unfold mx_nm
  rw [mx_up_o (by decide), mx_up_s, upd_o h]
theorem f_here_l {L : Row} {lm p : Nat} (h : p < lm) : f_here L lm p = L p := if_pos h
theorem f_here_d {L : Row} {lm p : Nat} (h : f_in (f_here L lm p) 48 57 = true) : p < lm ∧ f_in (L p) 48 57 = true := by
  unfold f_here at h
  split at h
  · exact ⟨by assumption, h⟩
  · exact absurd h (by decide)
theorem f_here_n {L : Row} {lm p : Nat} (h : f_in (f_here L lm p) 48 57 = false) : ¬ (p < lm ∧ f_in (L p) 48 57 = true) := by
  intro q
  rw [f_here_l q.1, q.2] at h
  exact absurd h (by decide)
theorem mx_nm_2 {σ : Mem} {k q q2 : Nat} {v : Int32} : mx_up (mx_nm σ k v q) 35 10 (nI q2) = mx_nm σ k v q2 := by
  unfold mx_nm
  funext a
  by_cases c : a = 35
  · subst c
    rw [mx_up_s, mx_up_s, mx_up_s]
    funext j
    unfold upd
    by_cases e : j = 10
    · rw [if_pos e, if_pos e]
    · rw [if_neg e, if_neg e, if_neg e]
  · rw [mx_up_o (k := 35) c, mx_up_o (k := 35) c, mx_up_o (k := 35) c]
theorem f_kd_ge {c : Int32} : 0 ≤ f_kd c ↔ ¬ f_kd c = -9 := by
  constructor
  · intro h q
    rw [q] at h
    exact absurd h (by decide)
  · intro h
    obtain ⟨k, hk, e⟩ := f_kd_N h
    rw [e]
    exact nI_pos' (by omega)
/-- a memory while a STATEMENT is read: the numbers are w, the place q -/
def mx_rd (σ : Mem) (w : Row) (q : Nat) : Mem := mx_row (mx_up σ 35 10 (nI q)) 43 w
theorem mx_rd_0 {σ : Mem} {q : Nat} : mx_up σ 35 10 (nI q) = mx_rd σ (σ 43) q := by
  unfold mx_rd
  rw [show σ 43 = mx_up σ 35 10 (nI q) 43 from (mx_up_o (by decide)).symm]
  exact (mx_row_self _ _).symm
theorem mx_rd_nm {σ : Mem} {w : Row} {q q2 k : Nat} {v : Int32} : mx_nm (mx_rd σ w q) k v q2 = mx_rd σ (upd w k v) q2 := by
  unfold mx_nm mx_rd
  funext a
  by_cases c : a = 35
  · subst c
    rw [mx_up_s, mx_up_o (by decide), mx_row_o (by decide), mx_up_s, mx_row_o (by decide), mx_up_s]
    funext j
    unfold upd
    by_cases e : j = 10
    · rw [if_pos e, if_pos e]
    · rw [if_neg e, if_neg e, if_neg e]
  · rw [mx_up_o (k := 35) c]
    by_cases d : a = 43
    · subst d
      rw [mx_up_s, mx_row_s, mx_row_s]
    · rw [mx_up_o d, mx_row_o d, mx_row_o d, mx_up_o c, mx_up_o c]
theorem mx_rd_p2 {σ : Mem} {w : Row} {q q2 : Nat} : mx_up (mx_rd σ w q) 35 10 (nI q2) = mx_rd σ w q2 := by
  unfold mx_rd
  funext a
  by_cases c : a = 35
  · subst c
    rw [mx_up_s, mx_row_o (by decide), mx_up_s, mx_row_o (by decide), mx_up_s]
    funext j
    unfold upd
    by_cases e : j = 10
    · rw [if_pos e, if_pos e]
    · rw [if_neg e, if_neg e, if_neg e]
  · rw [mx_up_o (k := 35) c]
    by_cases d : a = 43
    · subst d
      rw [mx_row_s, mx_row_s]
    · rw [mx_row_o d, mx_row_o d, mx_up_o c, mx_up_o c]
theorem mx_rd_o {σ : Mem} {w : Row} {q a : Nat} (h1 : a ≠ 35) (h2 : a ≠ 43) : mx_rd σ w q a = σ a := (mx_row_o h2).trans (mx_up_o h1)
theorem mx_rd_35 {σ : Mem} {w : Row} {q j : Nat} (h : j ≠ 10) : mx_rd σ w q 35 j = σ 35 j := by
  unfold mx_rd
  rw [mx_row_o (by decide), mx_up_s, upd_o h]
theorem mx_rd_p {σ : Mem} {w : Row} {q : Nat} : mx_rd σ w q 35 10 = nI q := by
  unfold mx_rd
  rw [mx_row_o (by decide), mx_up_s, upd_s]
theorem mx_rd_n {σ : Mem} {w : Row} {q : Nat} : mx_rd σ w q 43 = w := mx_row_s
def Nm (L : Row) (p : Nat) (w : Row) : Prop := (L p = 104 → w 0 = f_kd (L (p + 1)) ∧ w 1 = f_num L (p + 2) 1 ∧ w 2 = f_num L (p + 3) 1 ∧ w 3 = f_num L (p + 4) 2) ∧ ((L p = 112 ∨ L p = 100) → w 0 = f_num L (p + 1) 1 ∧ w 1 = f_num L (p + 2) 2) ∧ ((L p = 120 ∨ L p = 105) → w 0 = f_num L (p + 1) 1) ∧ (L p = 99 → w 0 = f_num L (p + 1) 3) ∧ (L p = 119 → w 0 = f_num L (p + 1) 2)
/-- what reading a STATEMENT leaves -/
def Rd (L : Row) (lm p : Nat) (σ τ : Mem) (v : Int32) : Prop := ∃ w : Row, v = zb (f_rd L lm p).1 ∧ τ = mx_rd σ w (f_rd L lm p).2 ∧ ((f_rd L lm p).1 = true → Nm L p w)
theorem Rd.no {L : Row} {lm p q : Nat} {σ : Mem} {w : Row} (h : f_rd L lm p = (false, q)) : Rd L lm p σ (mx_rd σ w q) 0 := ⟨w, by rw [h]; rfl, by rw [h], fun z => by rw [h] at z; exact absurd z Bool.false_ne_true⟩
theorem Rd.yes {L : Row} {lm p q : Nat} {σ : Mem} {w : Row} (h : f_rd L lm p = (true, q)) (n : Nm L p w) : Rd L lm p σ (mx_rd σ w q) 1 := ⟨w, by rw [h]; rfl, by rw [h], fun _ => n⟩
theorem f_rd_0 {L : Row} {lm p : Nat} (h : f_w1 (f_here L lm p) = -3) : f_rd L lm p = (false, p) := by
  unfold f_rd
  by_cases c : p < lm
  · rw [f_here_l c] at h
    rw [if_neg (fun z => z c), if_pos h]
  · rw [if_pos c]
theorem f_here_w {L : Row} {lm p : Nat} {c : Int32} (h : f_here L lm p = c) (hc : ¬ c = -1) : p < lm ∧ L p = c := by
  unfold f_here at h
  split at h
  · exact ⟨by assumption, h⟩
  · exact absurd h.symm hc
/-- kind letters a, digits d, of the letter c -/
theorem f_rd_k {L : Row} {lm p : Nat} (hp : p < lm) (hc : L p = 104) (h : f_kd (f_here L lm (p + 1)) = -9) : f_rd L lm p = (false, p + 1) := by
  unfold f_rd
  rw [if_neg (fun z => z hp), if_neg (by rw [hc]; decide), if_pos ⟨hc, fun z => by rw [f_here_l z.1] at h; exact z.2 h⟩]
theorem f_rd_d {L : Row} {lm p a d i : Nat} {c : Int32} (hp : p < lm) (hc : L p = c) (ha : f_a c = a) (hd : f_d c = d) (h1 : ¬ f_w1 c = -3) (hk : c = 104 → p + 1 < lm ∧ ¬ f_kd (L (p + 1)) = -9) (e : f_dc L lm (p + 1 + a) d = i) (hi : i < d) : f_rd L lm p = (false, p + 1 + a + i) := by
  subst hc
  subst ha
  subst hd
  subst e
  unfold f_rd
  rw [if_neg (fun z => z hp), if_neg h1, if_neg (fun z => z.2 (hk z.1)), if_pos hi]
theorem f_rd_y {L : Row} {lm p a d : Nat} {c : Int32} (hp : p < lm) (hc : L p = c) (ha : f_a c = a) (hd : f_d c = d) (h1 : ¬ f_w1 c = -3) (hk : c = 104 → p + 1 < lm ∧ ¬ f_kd (L (p + 1)) = -9) (e : f_dc L lm (p + 1 + a) d = d) (h : f_here L lm (p + 1 + a + d) = 59) : f_rd L lm p = (true, p + 1 + a + d + 1) := by
  obtain ⟨h2, h3⟩ := f_here_w h (by decide)
  subst hc
  subst ha
  subst hd
  unfold f_rd
  rw [if_neg (fun z => z hp), if_neg h1, if_neg (fun z => z.2 (hk z.1)), if_neg (by rw [e]; exact Nat.lt_irrefl _), if_pos ⟨h2, h3⟩]
theorem f_rd_n {L : Row} {lm p a d : Nat} {c : Int32} (hp : p < lm) (hc : L p = c) (ha : f_a c = a) (hd : f_d c = d) (h1 : ¬ f_w1 c = -3) (hk : c = 104 → p + 1 < lm ∧ ¬ f_kd (L (p + 1)) = -9) (e : f_dc L lm (p + 1 + a) d = d) (h : ¬ f_here L lm (p + 1 + a + d) = 59) : f_rd L lm p = (false, p + 1 + a + d) := by
  subst hc
  subst ha
  subst hd
  unfold f_rd
  rw [if_neg (fun z => z hp), if_neg h1, if_neg (fun z => z.2 (hk z.1)), if_neg (by rw [e]; exact Nat.lt_irrefl _), if_neg (fun z => h (by rw [f_here_l z.1]; exact z.2))]
theorem f_dcA {L : Row} {lm p a b : Nat} (h : f_dc L lm p a = a) : f_dc L lm p (a + b) = a + f_dc L lm (p + a) b := by rw [f_dc_add, if_pos h]
theorem f_dcB {L : Row} {lm p a b : Nat} (h : ¬ f_dc L lm p a = a) : f_dc L lm p (a + b) = f_dc L lm p a := by rw [f_dc_add, if_neg h]
def f_nb (n : Nat) (r w : Row) : Nat → Row
  | 0 => r
  | k + 1 => upd (f_nb n r w k) (6 + 6 * n + k) (w k)
theorem f_nb_o {n : Nat} {r w : Row} {i : Nat} (h : i < 6) : ∀ k, f_nb n r w k i = r i
  | 0 => rfl
  | k + 1 => by
    show upd (f_nb n r w k) (6 + 6 * n + k) (w k) i = r i
    rw [upd_o (by omega)]
    exact f_nb_o h k
/-- what a STATEMENT that is one leaves; else nothing is changed -/
def Dx (o : Option (Nat × Row)) (σ τ : Mem) (v : Int32) : Prop := (∃ n' r', o = some (n', r') ∧ v = 1 ∧ mx_row σ 36 r' = τ) ∨ (o = none ∧ v = 0 ∧ σ = τ)
theorem Dx.z {o : Option (Nat × Row)} {σ τ : Mem} {v : Int32} (h : Dx o σ τ v) : v = 0 ∨ v = 1 := by
  rcases h with ⟨_, _, _, e, _⟩ | ⟨_, e, _⟩
  · exact Or.inr e
  · exact Or.inl e
theorem Dx.ok {o : Option (Nat × Row)} {σ : Mem} {n : Nat} {r : Row} (h : o = some (n, r)) : Dx o σ (mx_row σ 36 r) 1 := Or.inl ⟨n, r, h, rfl, rfl⟩
theorem Dx.no {o : Option (Nat × Row)} {σ : Mem} {r : Row} (h : o = none) (h36 : σ 36 = r) : Dx o σ (mx_row σ 36 r) 0 := Or.inr ⟨h, rfl, by rw [← h36]; exact (mx_row_self σ 36).symm⟩
theorem f_w60T {v : Int32} (h : f_in v 1 60 = true) : 1 ≤ v ∧ v ≤ 60 := by
  unfold f_in at h
  rw [Bool.and_eq_true, decide_eq_true_eq, decide_eq_true_eq] at h
  exact h
theorem f_w60F {v : Int32} (h : f_in v 1 60 = false) (h1 : 1 ≤ v) : ¬ v ≤ 60 := by
  intro q
  unfold f_in at h
  rw [decide_eq_true h1, decide_eq_true q] at h
  exact absurd h (by decide)
/-- a memory in the midst of town: place q, the town r1 -/
def TM (σ τ : Mem) (q : Nat) (r1 : Row) : Prop := (∀ k, k ≠ 35 → k ≠ 36 → k ≠ 39 → k ≠ 43 → τ k = σ k) ∧ (∀ j, j ≠ 10 → τ 35 j = σ 35 j) ∧ τ 36 = r1 ∧ τ 35 10 = nI q
theorem TM.start {σ : Mem} {q : Nat} {r1 : Row} (h : σ 36 = r1) : TM σ (mx_up σ 35 10 (nI q)) q r1 := ⟨fun k h1 _ _ _ => mx_up_o h1, fun j hj => by rw [mx_up_s, upd_o hj], by rw [mx_up_o (by decide)]; exact h, by rw [mx_up_s, upd_s]⟩
theorem TM.rd {σ τ : Mem} {q q2 : Nat} {r1 w : Row} (h : TM σ τ q r1) : TM σ (mx_rd τ w q2) q2 r1 := ⟨fun k h1 h2 h3 h4 => (mx_rd_o h1 h4).trans (h.1 k h1 h2 h3 h4), fun j hj => (mx_rd_35 hj).trans (h.2.1 j hj), (mx_rd_o (by decide) (by decide)).trans h.2.2.1, mx_rd_p⟩
theorem TM.row {σ τ : Mem} {q : Nat} {r1 r2 : Row} (h : TM σ τ q r1) : TM σ (mx_row τ 36 r2) q r2 := ⟨fun k h1 h2 h3 h4 => (mx_row_o h2).trans (h.1 k h1 h2 h3 h4), fun j hj => by rw [mx_row_o (by decide)]; exact h.2.1 j hj, mx_row_s, by rw [mx_row_o (by decide)]; exact h.2.2.2⟩
theorem TM.was {σ τ : Mem} {q : Nat} {r1 r2 : Row} (h : TM σ τ q r1) : TM σ (mx_row τ 39 r2) q r1 := ⟨fun k h1 h2 h3 h4 => (mx_row_o h3).trans (h.1 k h1 h2 h3 h4), fun j hj => by rw [mx_row_o (by decide)]; exact h.2.1 j hj, by rw [mx_row_o (by decide)]; exact h.2.2.1, by rw [mx_row_o (by decide)]; exact h.2.2.2⟩
theorem TM.pl {σ τ : Mem} {q q2 : Nat} {r1 : Row} (h : TM σ τ q r1) : TM σ (mx_up τ 35 10 (nI q2)) q2 r1 := ⟨fun k h1 h2 h3 h4 => (mx_up_o h1).trans (h.1 k h1 h2 h3 h4), fun j hj => by rw [mx_up_s, upd_o hj]; exact h.2.1 j hj, by rw [mx_up_o (by decide)]; exact h.2.2.1, by rw [mx_up_s, upd_s]⟩
theorem TM.fm {σ τ : Mem} {q : Nat} {r1 : Row} (h : TM σ τ q r1) : FM σ (mx_up τ 35 8 0) := fun k hk => (mx_up_o (by omega)).trans (h.1 k (by omega) (by omega) (by omega) (by omega))
theorem MI.tm {σ τ : Mem} {s : ZS} {q n1 : Nat} {r1 : Row} (h : MI σ s) (t : TM σ τ q r1) : MI (mx_up τ 35 8 0) (zs n1 r1 s.hi s.ni s.ri 0 s.L s.rm s.R s.f) := by
  have e : ∀ k, k ≠ 35 → k ≠ 36 → k ≠ 39 → k ≠ 43 → mx_up τ 35 8 0 k = σ k := fun k h1 h2 h3 h4 => (mx_up_o h1).trans (t.1 k h1 h2 h3 h4)
  have e35 : ∀ j, j ≠ 8 → j ≠ 10 → mx_up τ 35 8 0 35 j = σ 35 j := fun j h1 h2 => by rw [mx_up_s, upd_o h1]; exact t.2.1 j h2
  obtain ⟨a, b, g, d, i, j, k, l⟩ := h
  exact ⟨by rw [mx_up_o (by decide)]; exact t.2.2.1, fun q => by rw [e 38 (by decide) (by decide) (by decide) (by decide)]; exact b q, by rw [e35 4 (by decide) (by decide)]; exact g, by rw [mx_up_s, upd_s]; rfl, fun x hx => absurd hx (Nat.not_lt_zero x), by rw [e35 9 (by decide) (by decide)]; exact j, fun x hx => by rw [e 41 (by decide) (by decide) (by decide) (by decide)]; exact k x hx, fun x h1 h2 => by rw [e 42 (by decide) (by decide) (by decide) (by decide)]; exact l x h1 h2⟩
theorem f_n1000 {q : Nat} (h : q < 1000) : ¬ (-1000 - nI q : Int32) = -9 := by
  have e : ∀ q : Fin 1000, ¬ (-1000 - nI q.val : Int32) = -9 := by decide +kernel
  exact e ⟨q, h⟩
theorem f_n2000 {q : Nat} (h : q < 1000) : ¬ (-2000 - nI q : Int32) = -9 := by
  have e : ∀ q : Fin 1000, ¬ (-2000 - nI q.val : Int32) = -9 := by decide +kernel
  exact e ⟨q, h⟩
theorem f_end_lt {L : Row} {p : Nat} : p < f_end L p := by unfold f_end; omega
theorem f_dc_all {L : Row} {lm q : Nat} : ∀ d, (∀ i, i < d → q + i < lm ∧ f_in (L (q + i)) 48 57 = true) → f_dc L lm q d = d
  | 0, _ => rfl
  | d + 1, h => f_dc_T (f_dc_all d (fun i hi => h i (by omega))) (h d (by omega)).1 (h d (by omega)).2
theorem f_gd_rd {L : Row} {lm p : Nat} (h : f_gd L lm p) : f_rd L lm p = (true, f_end L p) := by
  obtain ⟨a, b, c, d, e⟩ := h
  have hd := f_dc_all (L := L) (lm := lm) (q := p + 1 + f_a (L p)) (f_d (L p)) (fun i hi => ⟨by omega, d i hi⟩)
  unfold f_rd f_end
  rw [if_neg (fun z => z (by omega)), if_neg a, if_neg (fun z => z.2 ⟨by omega, c z.1⟩), if_neg (by rw [hd]; exact Nat.lt_irrefl _), if_pos ⟨b, e⟩]
