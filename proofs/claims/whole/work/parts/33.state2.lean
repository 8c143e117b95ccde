/-! ===== the state that both sides hold ===== -/
abbrev ZS : Type := Nat × Row × Bool × Nat × Row × Nat × Row × Nat × Row × Row
abbrev ZS.n (s : ZS) : Nat := s.1
abbrev ZS.r (s : ZS) : Row := s.2.1
abbrev ZS.hi (s : ZS) : Bool := s.2.2.1
abbrev ZS.ni (s : ZS) : Nat := s.2.2.2.1
abbrev ZS.ri (s : ZS) : Row := s.2.2.2.2.1
abbrev ZS.lm (s : ZS) : Nat := s.2.2.2.2.2.1
abbrev ZS.L (s : ZS) : Row := s.2.2.2.2.2.2.1
abbrev ZS.rm (s : ZS) : Nat := s.2.2.2.2.2.2.2.1
abbrev ZS.R (s : ZS) : Row := s.2.2.2.2.2.2.2.2.1
abbrev ZS.f (s : ZS) : Row := s.2.2.2.2.2.2.2.2.2
abbrev zs (n : Nat) (r : Row) (hi : Bool) (ni : Nat) (ri : Row) (lm : Nat) (L : Row) (rm : Nat) (R : Row) (f : Row) : ZS := (n, r, hi, ni, ri, lm, L, rm, R, f)
def ZS.no (s : ZS) (c : Nat) : ZS := (zs s.n s.r s.hi s.ni s.ri s.lm s.L s.rm s.R (fun j => if j = c then s.f j + 1 else s.f j))
def ZS.to (s : ZS) (r' : Row) : ZS := (zs s.n r' s.hi s.ni s.ri s.lm s.L s.rm s.R s.f)
def ZS.ok (s : ZS) : Prop := wf s.n s.r ∧ s.r 5 = 0 ∧ (s.hi = true → wf s.ni s.ri ∧ s.ri 5 = 0) ∧ s.lm ≤ 96 ∧ s.rm ≤ 16
def CI (σ : Mem) (s : ZS) : Prop := NW σ ∧ TI σ 1 s.n s.r ∧ (s.hi = true → TI σ 3 s.ni s.ri) ∧ σ 0 3 = zb s.hi ∧ σ 28 1 = nI s.lm ∧ (∀ j, j < s.lm → σ 31 j = s.L j) ∧ σ 29 1 = nI s.rm ∧ (∀ j, j < s.rm → σ 32 j = s.R j) ∧ ∀ j, 1 ≤ j → j < 7 → σ 34 j = s.f j
def MI (σ : Mem) (s : ZS) : Prop := σ 36 = s.r ∧ (s.hi = true → σ 38 = s.ri) ∧ σ 35 4 = zb s.hi ∧ σ 35 8 = nI s.lm ∧ (∀ j, j < s.lm → σ 40 j = s.L j) ∧ σ 35 9 = nI s.rm ∧ (∀ j, j < s.rm → σ 41 j = s.R j) ∧ ∀ j, 1 ≤ j → j < 7 → σ 42 j = s.f j
def FC (σ τ : Mem) : Prop := ∀ k, 35 ≤ k → τ k = σ k
def FM (σ τ : Mem) : Prop := ∀ k, k < 35 → τ k = σ k
theorem FC.tr {σ τ υ : Mem} (h : FC σ τ) (h2 : FC τ υ) : FC σ υ := fun k hk => (h2 k hk).trans (h k hk)
theorem FM.tr {σ τ υ : Mem} (h : FM σ τ) (h2 : FM τ υ) : FM σ υ := fun k hk => (h2 k hk).trans (h k hk)
theorem TI.eq {σ τ : Mem} {t n : Nat} {r : Row} (h : TI σ t n r) (hn : n ≤ 6) (e : ∀ k, inT t k → τ k = σ k) : TI τ t n r := by
  have e0 : τ t = σ t := e t inT_t
  refine ⟨by rw [e0]; exact h.1, by rw [e0]; exact h.2.1, by rw [e0]; exact h.2.2.1, by rw [e0]; exact h.2.2.2.1, fun i hi => ?_⟩
  rw [e _ (inT_h (by omega))]
  exact h.2.2.2.2 i hi
theorem NW.eq {σ τ : Mem} (h : NW σ) (e : ∀ k, k = 7 ∨ k = 8 ∨ k = 9 → τ k = σ k) : NW τ := fun t h1 h2 j hj => by
  rw [e (t + 6) (by omega)]; exact h t h1 h2 j hj
/-- the class's part: only cells of the class count -/
theorem CI.fm {σ τ : Mem} {s : ZS} (h : CI σ s) (ok : s.ok) (e : FM σ τ) : CI τ s := by
  obtain ⟨a, b, c, d, i, j, k, l, m⟩ := h
  refine ⟨a.eq (fun k hk => e k (by omega)), b.eq ok.1.1 (fun k hk => e k (by unfold inT at hk; omega)), fun q => (c q).eq (ok.2.2.1 q).1.1 (fun k hk => e k (by unfold inT at hk; omega)), ?_, ?_, fun x hx => ?_, ?_, fun x hx => ?_, fun x h1 h2 => ?_⟩
  · rw [e 0 (by decide)]; exact d
  · rw [e 28 (by decide)]; exact i
  · rw [e 31 (by decide)]; exact j x hx
  · rw [e 29 (by decide)]; exact k
  · rw [e 32 (by decide)]; exact l x hx
  · rw [e 34 (by decide)]; exact m x h1 h2
theorem MI.fc {σ τ : Mem} {s : ZS} (h : MI σ s) (e : FC σ τ) : MI τ s := by
  obtain ⟨a, b, c, d, i, j, k, l⟩ := h
  refine ⟨by rw [e 36 (by decide)]; exact a, fun q => by rw [e 38 (by decide)]; exact b q, by rw [e 35 (by decide)]; exact c, by rw [e 35 (by decide)]; exact d, fun x hx => by rw [e 40 (by decide)]; exact i x hx, by rw [e 35 (by decide)]; exact j, fun x hx => by rw [e 41 (by decide)]; exact k x hx, fun x h1 h2 => by rw [e 42 (by decide)]; exact l x h1 h2⟩
theorem Qz.fc {c : Nat} {σ τ : Mem} (h : Qz c σ τ) : FC σ τ := fun k hk => h.1 k (by omega) (by omega) (by omega) (by unfold inT; omega)
theorem Qm.fm {c : Nat} {σ τ : Mem} (h : Qm c σ τ) : FM σ τ := fun k hk => h.1 k (by omega) (by omega) (by omega) (by omega) (by omega)
theorem CI.q {σ τ : Mem} {s : ZS} {c : Nat} (h : CI σ s) (ok : s.ok) (q : Qz c σ τ) : CI τ (s.no c) := by
  obtain ⟨a, b, g, d, i, j, k, l, m⟩ := h
  obtain ⟨q1, q2⟩ := q
  refine ⟨a.eq (fun k hk => q1 k (by omega) (by omega) (by omega) (by unfold inT; omega)), b.eq ok.1.1 (fun k hk => q1 k (by unfold inT at hk; omega) (by unfold inT at hk; omega) (by unfold inT at hk; omega) (by unfold inT at *; omega)), fun e => (g e).eq (ok.2.2.1 e).1.1 (fun k hk => q1 k (by unfold inT at hk; omega) (by unfold inT at hk; omega) (by unfold inT at hk; omega) (by unfold inT at *; omega)), ?_, ?_, fun x hx => ?_, ?_, fun x hx => ?_, fun x h1 h2 => ?_⟩
  · rw [q1 0 (by decide) (by decide) (by decide) (by unfold inT; omega)]; exact d
  · rw [q1 28 (by decide) (by decide) (by decide) (by unfold inT; omega)]; exact i
  · rw [q1 31 (by decide) (by decide) (by decide) (by unfold inT; omega)]; exact j x hx
  · rw [q1 29 (by decide) (by decide) (by decide) (by unfold inT; omega)]; exact k
  · rw [q1 32 (by decide) (by decide) (by decide) (by unfold inT; omega)]; exact l x hx
  · rw [q2 x h1 h2, m x h1 h2]; rfl
theorem MI.q {σ τ : Mem} {s : ZS} {c : Nat} (h : MI σ s) (q : Qm c σ τ) : MI τ (s.no c) := by
  obtain ⟨a, b, g, d, i, j, k, l⟩ := h
  obtain ⟨q1, q2, q3⟩ := q
  refine ⟨by rw [q1 36 (by decide) (by decide) (by decide) (by decide) (by decide)]; exact a, fun e => by rw [q1 38 (by decide) (by decide) (by decide) (by decide) (by decide)]; exact b e, by rw [q2 4 (by omega)]; exact g, by rw [q2 8 (by omega)]; exact d, fun x hx => by rw [q1 40 (by decide) (by decide) (by decide) (by decide) (by decide)]; exact i x hx, by rw [q2 9 (by omega)]; exact j, fun x hx => by rw [q1 41 (by decide) (by decide) (by decide) (by decide) (by decide)]; exact k x hx, fun x h1 h2 => by rw [q3 x h1 h2, l x h1 h2]; rfl⟩
theorem CI.off1 {σ τ : Mem} {s : ZS} {r' : Row} (h : CI σ s) (ok : s.ok) (t : TI τ 1 s.n r') (o : Off 1 σ τ) : CI τ (s.to r') := by
  obtain ⟨a, b, g, d, i, j, k, l, m⟩ := h
  refine ⟨a.eq (fun k hk => o k (by unfold inT; omega)), t, fun e => (g e).eq (ok.2.2.1 e).1.1 (fun k hk => o k (by unfold inT at *; omega)), ?_, ?_, fun x hx => ?_, ?_, fun x hx => ?_, fun x h1 h2 => ?_⟩
  · rw [o 0 (by unfold inT; omega)]; exact d
  · rw [o 28 (by unfold inT; omega)]; exact i
  · rw [o 31 (by unfold inT; omega)]; exact j x hx
  · rw [o 29 (by unfold inT; omega)]; exact k
  · rw [o 32 (by unfold inT; omega)]; exact l x hx
  · rw [o 34 (by unfold inT; omega)]; exact m x h1 h2
theorem CI.S {σ τ : Mem} {s : ZS} {r' : Row} {c : Nat} (h : CI σ s) (ok : s.ok) (ok2 : (s.to r').ok) (q : Sz s.n r' c σ τ) : CI τ ((s.to r').no c) := by
  obtain ⟨σ', t, o, q⟩ := q
  exact (h.off1 ok t o).q ok2 q
theorem Sz.fc {n c : Nat} {r' : Row} {σ τ : Mem} (q : Sz n r' c σ τ) : FC σ τ := by
  obtain ⟨σ', -, o, q⟩ := q
  exact FC.tr (fun k hk => o k (by unfold inT; omega)) q.fc
theorem MI.row {σ : Mem} {s : ZS} {r' : Row} (h : MI σ s) : MI (mx_row σ 36 r') (s.to r') := by
  obtain ⟨a, b, g, d, i, j, k, l⟩ := h
  refine ⟨mx_row_s, fun e => by rw [mx_row_o (by decide)]; exact b e, by rw [mx_row_o (by decide)]; exact g, by rw [mx_row_o (by decide)]; exact d, fun x hx => by rw [mx_row_o (by decide)]; exact i x hx, by rw [mx_row_o (by decide)]; exact j, fun x hx => by rw [mx_row_o (by decide)]; exact k x hx, fun x h1 h2 => by rw [mx_row_o (by decide)]; exact l x h1 h2⟩
theorem MI.S {σ τ : Mem} {s : ZS} {r' : Row} {c : Nat} (h : MI σ s) (q : Sm r' c σ τ) : MI τ ((s.to r').no c) := h.row.q q
theorem Sm.fm {c : Nat} {r' : Row} {σ τ : Mem} (q : Sm r' c σ τ) : FM σ τ := FM.tr (fun k hk => mx_row_o (by omega)) (Qm.fm q)
/-! letters, numbers, the image -/
def a_letter (s : ZS) (c : Int32) : Int32 × ZS :=
  if c < 0 then (-4, s.no 4) else if 255 < c then (-6, s.no 6) else if s.lm = 96 then (-6, s.no 6) else (nI (s.lm + 1), (zs s.n s.r s.hi s.ni s.ri (s.lm + 1) (upd s.L s.lm c) s.rm s.R s.f))
def a_row (s : ZS) (c : Int32) : Int32 × ZS :=
  if c < 0 then (-4, s.no 4) else if 99 < c then (-6, s.no 6) else if s.rm = 16 then (-6, s.no 6) else (nI (s.rm + 1), (zs s.n s.r s.hi s.ni s.ri s.lm s.L (s.rm + 1) (upd s.R s.rm c) s.f))
def f_jg (n : Nat) (r R : Row) (m : Nat) : Nat → Nat → Int32
  | 0, _ => -9
  | d + 1, i => if f_inN (nI i) n = true ∧ r (6 + 6 * i + 5) = R i then f_jg n r R m d (i + 1) else nI i
def a_judge (s : ZS) : Int32 × ZS := (f_jg s.n s.r s.R s.rm s.rm 0, (zs s.n s.r s.hi s.ni s.ri s.lm s.L 0 s.R s.f))
def a_clear (s : ZS) : Int32 × ZS := (nI s.rm, (zs s.n s.r s.hi s.ni s.ri s.lm s.L 0 s.R s.f))
def a_image (s : ZS) : Int32 × ZS := (s.r 1, (zs s.n s.r true s.n s.r s.lm s.L s.rm s.R s.f))
def a_on (s : ZS) : Int32 × ZS := if s.hi = true then (s.ri 1, (zs s.ni s.ri s.hi s.ni s.ri s.lm s.L s.rm s.R s.f)) else (-3, s.no 3)
theorem CI.addL {σ : Mem} {s : ZS} {c : Int32} (h : CI σ s) (ok : s.ok) : CI (mx_up (mx_up σ 31 s.lm c) 28 1 (nI (s.lm + 1))) (zs s.n s.r s.hi s.ni s.ri (s.lm + 1) (upd s.L s.lm c) s.rm s.R s.f) := by
  have e : ∀ k, k ≠ 28 → k ≠ 31 → mx_up (mx_up σ 31 s.lm c) 28 1 (nI (s.lm + 1)) k = σ k := fun k h1 h2 => (mx_up_o h1).trans (mx_up_o h2)
  obtain ⟨a, b, g, d, i, j, k, l, m⟩ := h
  refine ⟨a.eq (fun k hk => e k (by omega) (by omega)), b.eq ok.1.1 (fun k hk => e k (by unfold inT at hk; omega) (by unfold inT at hk; omega)), fun q => (g q).eq (ok.2.2.1 q).1.1 (fun k hk => e k (by unfold inT at hk; omega) (by unfold inT at hk; omega)), ?_, ?_, fun x hx => ?_, ?_, fun x hx => ?_, fun x h1 h2 => ?_⟩
  · rw [e 0 (by decide) (by decide)]; exact d
  · rw [mx_up_s, upd_s]
  · rw [mx_up_o (by decide), mx_up_s]
    show upd (σ 31) s.lm c x = upd s.L s.lm c x
    by_cases q : x = s.lm
    · rw [q, upd_s, upd_s]
    · rw [upd_o q, upd_o q]
      have hx2 : x < s.lm + 1 := hx
      exact j x (by omega)
  · rw [e 29 (by decide) (by decide)]; exact k
  · rw [e 32 (by decide) (by decide)]; exact l x hx
  · rw [e 34 (by decide) (by decide)]; exact m x h1 h2
theorem CI.addR {σ : Mem} {s : ZS} {c : Int32} (h : CI σ s) (ok : s.ok) : CI (mx_up (mx_up σ 32 s.rm c) 29 1 (nI (s.rm + 1))) (zs s.n s.r s.hi s.ni s.ri s.lm s.L (s.rm + 1) (upd s.R s.rm c) s.f) := by
  have e : ∀ k, k ≠ 29 → k ≠ 32 → mx_up (mx_up σ 32 s.rm c) 29 1 (nI (s.rm + 1)) k = σ k := fun k h1 h2 => (mx_up_o h1).trans (mx_up_o h2)
  obtain ⟨a, b, g, d, i, j, k, l, m⟩ := h
  refine ⟨a.eq (fun k hk => e k (by omega) (by omega)), b.eq ok.1.1 (fun k hk => e k (by unfold inT at hk; omega) (by unfold inT at hk; omega)), fun q => (g q).eq (ok.2.2.1 q).1.1 (fun k hk => e k (by unfold inT at hk; omega) (by unfold inT at hk; omega)), ?_, ?_, fun x hx => ?_, ?_, fun x hx => ?_, fun x h1 h2 => ?_⟩
  · rw [e 0 (by decide) (by decide)]; exact d
  · rw [e 28 (by decide) (by decide)]; exact i
  · rw [e 31 (by decide) (by decide)]; exact j x hx
  · rw [mx_up_s, upd_s]
  · rw [mx_up_o (by decide), mx_up_s]
    show upd (σ 32) s.rm c x = upd s.R s.rm c x
    by_cases q : x = s.rm
    · rw [q, upd_s, upd_s]
    · rw [upd_o q, upd_o q]
      have hx2 : x < s.rm + 1 := hx
      exact l x (by omega)
  · rw [e 34 (by decide) (by decide)]; exact m x h1 h2
theorem CI.dropR {σ : Mem} {s : ZS} (h : CI σ s) (ok : s.ok) : CI (mx_up σ 29 1 0) (zs s.n s.r s.hi s.ni s.ri s.lm s.L 0 s.R s.f) := by
  have e : ∀ k, k ≠ 29 → mx_up σ 29 1 0 k = σ k := fun k h1 => mx_up_o h1
  obtain ⟨a, b, g, d, i, j, k, l, m⟩ := h
  refine ⟨a.eq (fun k hk => e k (by omega)), b.eq ok.1.1 (fun k hk => e k (by unfold inT at hk; omega)), fun q => (g q).eq (ok.2.2.1 q).1.1 (fun k hk => e k (by unfold inT at hk; omega)), ?_, ?_, fun x hx => ?_, ?_, fun x hx => ?_, fun x h1 h2 => ?_⟩
  · rw [e 0 (by decide)]; exact d
  · rw [e 28 (by decide)]; exact i
  · rw [e 31 (by decide)]; exact j x hx
  · rw [mx_up_s, upd_s]; rfl
  · exact absurd hx (Nat.not_lt_zero x)
  · rw [e 34 (by decide)]; exact m x h1 h2
theorem CI.dropL {σ : Mem} {s : ZS} (h : CI σ s) (ok : s.ok) : CI (mx_up σ 28 1 0) (zs s.n s.r s.hi s.ni s.ri 0 s.L s.rm s.R s.f) := by
  have e : ∀ k, k ≠ 28 → mx_up σ 28 1 0 k = σ k := fun k h1 => mx_up_o h1
  obtain ⟨a, b, g, d, i, j, k, l, m⟩ := h
  refine ⟨a.eq (fun k hk => e k (by omega)), b.eq ok.1.1 (fun k hk => e k (by unfold inT at hk; omega)), fun q => (g q).eq (ok.2.2.1 q).1.1 (fun k hk => e k (by unfold inT at hk; omega)), ?_, ?_, fun x hx => ?_, ?_, fun x hx => ?_, fun x h1 h2 => ?_⟩
  · rw [e 0 (by decide)]; exact d
  · rw [mx_up_s, upd_s]; rfl
  · exact absurd hx (Nat.not_lt_zero x)
  · rw [e 29 (by decide)]; exact k
  · rw [e 32 (by decide)]; exact l x hx
  · rw [e 34 (by decide)]; exact m x h1 h2
theorem CI.img {σ τ : Mem} {s : ZS} (h : CI σ s) (ok : s.ok) (t : TI τ 3 s.n s.r) (o : Off 3 σ τ) : CI (mx_up τ 0 3 1) (zs s.n s.r true s.n s.r s.lm s.L s.rm s.R s.f) := by
  have e : ∀ k, k ≠ 0 → ¬ inT 3 k → mx_up τ 0 3 1 k = σ k := fun k h1 h2 => (mx_up_o h1).trans (o k h2)
  obtain ⟨a, b, g, d, i, j, k, l, m⟩ := h
  refine ⟨a.eq (fun k hk => e k (by omega) (by unfold inT; omega)), b.eq ok.1.1 (fun k hk => e k (by unfold inT at hk; omega) (by unfold inT at *; omega)), fun _ => t.eq ok.1.1 (fun k hk => mx_up_o (by unfold inT at hk; omega)), ?_, ?_, fun x hx => ?_, ?_, fun x hx => ?_, fun x h1 h2 => ?_⟩
  · rw [mx_up_s, upd_s]; rfl
  · rw [e 28 (by decide) (by unfold inT; omega)]; exact i
  · rw [e 31 (by decide) (by unfold inT; omega)]; exact j x hx
  · rw [e 29 (by decide) (by unfold inT; omega)]; exact k
  · rw [e 32 (by decide) (by unfold inT; omega)]; exact l x hx
  · rw [e 34 (by decide) (by unfold inT; omega)]; exact m x h1 h2
theorem CI.on {σ τ : Mem} {s : ZS} {n : Nat} {r : Row} (h : CI σ s) (ok : s.ok) (t : TI τ 1 n r) (o : Off 1 σ τ) : CI τ (zs n r s.hi s.ni s.ri s.lm s.L s.rm s.R s.f) := by
  obtain ⟨a, b, g, d, i, j, k, l, m⟩ := h
  refine ⟨a.eq (fun k hk => o k (by unfold inT; omega)), t, fun e => (g e).eq (ok.2.2.1 e).1.1 (fun k hk => o k (by unfold inT at *; omega)), ?_, ?_, fun x hx => ?_, ?_, fun x hx => ?_, fun x h1 h2 => ?_⟩
  · rw [o 0 (by unfold inT; omega)]; exact d
  · rw [o 28 (by unfold inT; omega)]; exact i
  · rw [o 31 (by unfold inT; omega)]; exact j x hx
  · rw [o 29 (by unfold inT; omega)]; exact k
  · rw [o 32 (by unfold inT; omega)]; exact l x hx
  · rw [o 34 (by unfold inT; omega)]; exact m x h1 h2
theorem f_n9 {i : Nat} (h : i < 2 ^ 31) : ¬ nI i = -9 := fun q => nI_pos h (by rw [q]; exact f_neg9)
theorem f_jgT {n m i : Nat} {r R : Row} {x : Int32} (hi : i < m) (hg : f_jg n r R m (m - i) i = x) (h1 : f_inN (nI i) n = true) (h2 : r (6 + 6 * i + 5) = R i) : f_jg n r R m (m - (i + 1)) (i + 1) = x := by
  rw [show m - i = (m - (i + 1)) + 1 by omega] at hg
  unfold f_jg at hg
  rw [if_pos ⟨h1, h2⟩] at hg
  exact hg
theorem f_jgF {n m i : Nat} {r R : Row} {x : Int32} (hi : i < m) (hg : f_jg n r R m (m - i) i = x) (h : ¬ (f_inN (nI i) n = true ∧ r (6 + 6 * i + 5) = R i)) : x = nI i := by
  rw [show m - i = (m - (i + 1)) + 1 by omega] at hg
  unfold f_jg at hg
  rw [if_neg h] at hg
  exact hg.symm
theorem f_jgE {n m i : Nat} {r R : Row} {x : Int32} (hi : m ≤ i) (hg : f_jg n r R m (m - i) i = x) : x = -9 := by
  rw [show m - i = 0 by omega] at hg
  exact hg.symm
theorem f_inN_l {i n : Nat} (hi : i < 2 ^ 31) (hn : n < 2 ^ 31) (h : f_inN (nI i) n = true) : i < n := by
  obtain ⟨j, hj, e⟩ := f_inN_t hn h
  have := (nI_eq hi (by omega)).mp e
  omega
theorem MI.addL {σ : Mem} {s : ZS} {c : Int32} (h : MI σ s) : MI (mx_up (mx_up σ 40 s.lm c) 35 8 (nI (s.lm + 1))) (zs s.n s.r s.hi s.ni s.ri (s.lm + 1) (upd s.L s.lm c) s.rm s.R s.f) := by
  have e : ∀ k, k ≠ 40 → k ≠ 35 → mx_up (mx_up σ 40 s.lm c) 35 8 (nI (s.lm + 1)) k = σ k := fun k h1 h2 => (mx_up_o h2).trans (mx_up_o h1)
  have e35 : ∀ j, j ≠ 8 → mx_up (mx_up σ 40 s.lm c) 35 8 (nI (s.lm + 1)) 35 j = σ 35 j := fun j hj => by rw [mx_up_s, upd_o hj, mx_up_o (by decide)]
  obtain ⟨a, b, g, d, i, j, k, l⟩ := h
  refine ⟨by rw [e 36 (by decide) (by decide)]; exact a, fun q => by rw [e 38 (by decide) (by decide)]; exact b q, by rw [e35 4 (by decide)]; exact g, by rw [mx_up_s, upd_s], fun x hx => ?_, by rw [e35 9 (by decide)]; exact j, fun x hx => by rw [e 41 (by decide) (by decide)]; exact k x hx, fun x h1 h2 => by rw [e 42 (by decide) (by decide)]; exact l x h1 h2⟩
  rw [mx_up_o (by decide), mx_up_s]
  show upd (σ 40) s.lm c x = upd s.L s.lm c x
  by_cases q : x = s.lm
  · rw [q, upd_s, upd_s]
  · rw [upd_o q, upd_o q]
    have hx2 : x < s.lm + 1 := hx
    exact i x (by omega)
theorem MI.addR {σ : Mem} {s : ZS} {c : Int32} (h : MI σ s) : MI (mx_up (mx_up σ 41 s.rm c) 35 9 (nI (s.rm + 1))) (zs s.n s.r s.hi s.ni s.ri s.lm s.L (s.rm + 1) (upd s.R s.rm c) s.f) := by
  have e : ∀ k, k ≠ 41 → k ≠ 35 → mx_up (mx_up σ 41 s.rm c) 35 9 (nI (s.rm + 1)) k = σ k := fun k h1 h2 => (mx_up_o h2).trans (mx_up_o h1)
  have e35 : ∀ j, j ≠ 9 → mx_up (mx_up σ 41 s.rm c) 35 9 (nI (s.rm + 1)) 35 j = σ 35 j := fun j hj => by rw [mx_up_s, upd_o hj, mx_up_o (by decide)]
  obtain ⟨a, b, g, d, i, j, k, l⟩ := h
  refine ⟨by rw [e 36 (by decide) (by decide)]; exact a, fun q => by rw [e 38 (by decide) (by decide)]; exact b q, by rw [e35 4 (by decide)]; exact g, by rw [e35 8 (by decide)]; exact d, fun x hx => by rw [e 40 (by decide) (by decide)]; exact i x hx, by rw [mx_up_s, upd_s], fun x hx => ?_, fun x h1 h2 => by rw [e 42 (by decide) (by decide)]; exact l x h1 h2⟩
  rw [mx_up_o (by decide), mx_up_s]
  show upd (σ 41) s.rm c x = upd s.R s.rm c x
  by_cases q : x = s.rm
  · rw [q, upd_s, upd_s]
  · rw [upd_o q, upd_o q]
    have hx2 : x < s.rm + 1 := hx
    exact k x (by omega)
theorem MI.dropR {σ : Mem} {s : ZS} (h : MI σ s) : MI (mx_up σ 35 9 0) (zs s.n s.r s.hi s.ni s.ri s.lm s.L 0 s.R s.f) := by
  have e : ∀ k, k ≠ 35 → mx_up σ 35 9 0 k = σ k := fun k h1 => mx_up_o h1
  have e35 : ∀ j, j ≠ 9 → mx_up σ 35 9 0 35 j = σ 35 j := fun j hj => by rw [mx_up_s, upd_o hj]
  obtain ⟨a, b, g, d, i, j, k, l⟩ := h
  exact ⟨by rw [e 36 (by decide)]; exact a, fun q => by rw [e 38 (by decide)]; exact b q, by rw [e35 4 (by decide)]; exact g, by rw [e35 8 (by decide)]; exact d, fun x hx => by rw [e 40 (by decide)]; exact i x hx, by rw [mx_up_s, upd_s]; rfl, fun x hx => absurd hx (Nat.not_lt_zero x), fun x h1 h2 => by rw [e 42 (by decide)]; exact l x h1 h2⟩
theorem MI.dropL {σ : Mem} {s : ZS} (h : MI σ s) : MI (mx_up σ 35 8 0) (zs s.n s.r s.hi s.ni s.ri 0 s.L s.rm s.R s.f) := by
  have e : ∀ k, k ≠ 35 → mx_up σ 35 8 0 k = σ k := fun k h1 => mx_up_o h1
  have e35 : ∀ j, j ≠ 8 → mx_up σ 35 8 0 35 j = σ 35 j := fun j hj => by rw [mx_up_s, upd_o hj]
  obtain ⟨a, b, g, d, i, j, k, l⟩ := h
  exact ⟨by rw [e 36 (by decide)]; exact a, fun q => by rw [e 38 (by decide)]; exact b q, by rw [e35 4 (by decide)]; exact g, by rw [mx_up_s, upd_s]; rfl, fun x hx => absurd hx (Nat.not_lt_zero x), by rw [e35 9 (by decide)]; exact j, fun x hx => by rw [e 41 (by decide)]; exact k x hx, fun x h1 h2 => by rw [e 42 (by decide)]; exact l x h1 h2⟩
theorem MI.img {σ : Mem} {s : ZS} (h : MI σ s) : MI (mx_up (mx_row σ 38 s.r) 35 4 1) (zs s.n s.r true s.n s.r s.lm s.L s.rm s.R s.f) := by
  have e : ∀ k, k ≠ 38 → k ≠ 35 → mx_up (mx_row σ 38 s.r) 35 4 1 k = σ k := fun k h1 h2 => (mx_up_o h2).trans (mx_row_o h1)
  have e35 : ∀ j, j ≠ 4 → mx_up (mx_row σ 38 s.r) 35 4 1 35 j = σ 35 j := fun j hj => by rw [mx_up_s, upd_o hj, mx_row_o (by decide)]
  obtain ⟨a, b, g, d, i, j, k, l⟩ := h
  exact ⟨by rw [e 36 (by decide) (by decide)]; exact a, fun _ => by rw [mx_up_o (by decide), mx_row_s], by rw [mx_up_s, upd_s]; rfl, by rw [e35 8 (by decide)]; exact d, fun x hx => by rw [e 40 (by decide) (by decide)]; exact i x hx, by rw [e35 9 (by decide)]; exact j, fun x hx => by rw [e 41 (by decide) (by decide)]; exact k x hx, fun x h1 h2 => by rw [e 42 (by decide) (by decide)]; exact l x h1 h2⟩
theorem MI.on {σ : Mem} {s : ZS} {n : Nat} {r : Row} (h : MI σ s) : MI (mx_row σ 36 r) (zs n r s.hi s.ni s.ri s.lm s.L s.rm s.R s.f) := by
  obtain ⟨a, b, g, d, i, j, k, l⟩ := h
  exact ⟨mx_row_s, fun e => by rw [mx_row_o (by decide)]; exact b e, by rw [mx_row_o (by decide)]; exact g, by rw [mx_row_o (by decide)]; exact d, fun x hx => by rw [mx_row_o (by decide)]; exact i x hx, by rw [mx_row_o (by decide)]; exact j, fun x hx => by rw [mx_row_o (by decide)]; exact k x hx, fun x h1 h2 => by rw [mx_row_o (by decide)]; exact l x h1 h2⟩
