/-! ===== reading, of the reference ===== -/
def f_here (L : Row) (lm p : Nat) : Int32 := if p < lm then L p else -1
/-- a number read: the k-th number is v, the place q -/
def mx_nm (σ : Mem) (k : Nat) (v : Int32) (q : Nat) : Mem := mx_up (mx_up σ 43 k v) 35 10 (nI q)
theorem mx_nm_0 {σ : Mem} {k p : Nat} {v : Int32} (h : σ 35 10 = nI p) : mx_up σ 43 k v = mx_nm σ k v p := by
  unfold mx_nm
  funext a
  by_cases c : a = 35
  · subst c
    rw [mx_up_s, mx_up_o (by decide)]
    funext j
    unfold upd
    by_cases e : j = 10
    · rw [if_pos e, e, h]
    · rw [if_neg e]
  · rw [mx_up_o (k := 35) c]
theorem mx_nm_1 {σ : Mem} {k q q2 : Nat} {v v2 : Int32} : mx_up (mx_up (mx_nm σ k v q) 43 k v2) 35 10 (nI q2) = mx_nm σ k v2 q2 := by
  unfold mx_nm
  funext a
  by_cases c : a = 35
  · subst c
    rw [mx_up_s, mx_up_s, mx_up_o (by decide), mx_up_s, mx_up_o (by decide)]
    funext j
    unfold upd
    by_cases e : j = 10
    · rw [if_pos e, if_pos e]
    · rw [if_neg e, if_neg e, if_neg e, mx_up_o (show 35 ≠ 43 by decide)]
  · rw [mx_up_o (k := 35) c, mx_up_o (k := 35) c]
    by_cases d : a = 43
    · subst d
      rw [mx_up_s, mx_up_s, mx_up_o (by decide), mx_up_s]
      funext j
      unfold upd
      by_cases e : j = k
      · rw [if_pos e, if_pos e]
      · rw [if_neg e, if_neg e, if_neg e]
    · rw [mx_up_o d, mx_up_o d, mx_up_o c, mx_up_o d]
theorem mx_nm_o {σ : Mem} {k q a : Nat} {v : Int32} (h1 : a ≠ 35) (h2 : a ≠ 43) : mx_nm σ k v q a = σ a := (mx_up_o h1).trans (mx_up_o h2)
theorem mx_nm_35 {σ : Mem} {k q j : Nat} {v : Int32} (h : j ≠ 10) : mx_nm σ k v q 35 j = σ 35 j := by
  unfold mx_nm
  rw [mx_up_s, upd_o h, mx_up_o (by decide)]
theorem mx_nm_p {σ : Mem} {k q : Nat} {v : Int32} : mx_nm σ k v q 35 10 = nI q := by
  unfold mx_nm
  rw [mx_up_s, upd_s]
theorem mx_nm_s {σ : Mem} {k q : Nat} {v : Int32} : mx_nm σ k v q 43 k = v := by
  unfold mx_nm
  rw [mx_up_o (by decide), mx_up_s, upd_s]
theorem mx_nm_n {σ : Mem} {k q j : Nat} {v : Int32} (h : j ≠ k) : mx_nm σ k v q 43 j = σ 43 j := by
  unfold mx_nm
  rw [mx_up_o (by decide), mx_up_s, upd_o h]
theorem f_here_l {L : Row} {lm p : Nat} (h : p < lm) : f_here L lm p = L p := if_pos h
theorem f_here_d {L : Row} {lm p : Nat} (h : f_in (f_here L lm p) 48 57 = true) : p < lm ∧ f_in (L p) 48 57 = true := by
  unfold f_here at h
  split at h
  · exact ⟨by assumption, h⟩
  · exact absurd h (by decide)
theorem f_here_n {L : Row} {lm p : Nat} (h : f_in (f_here L lm p) 48 57 = false) : ¬ (p < lm ∧ f_in (L p) 48 57 = true) := by
  intro q
  rw [f_here_l q.1, q.2] at h
  exact absurd h (by decide)
theorem mx_nm_2 {σ : Mem} {k q q2 : Nat} {v : Int32} : mx_up (mx_nm σ k v q) 35 10 (nI q2) = mx_nm σ k v q2 := by
  unfold mx_nm
  funext a
  by_cases c : a = 35
  · subst c
    rw [mx_up_s, mx_up_s, mx_up_s]
    funext j
    unfold upd
    by_cases e : j = 10
    · rw [if_pos e, if_pos e]
    · rw [if_neg e, if_neg e, if_neg e]
  · rw [mx_up_o (k := 35) c, mx_up_o (k := 35) c, mx_up_o (k := 35) c]
theorem f_kd_ge {c : Int32} : 0 ≤ f_kd c ↔ ¬ f_kd c = -9 := by
  constructor
  · intro h q
    rw [q] at h
    exact absurd h (by decide)
  · intro h
    obtain ⟨k, hk, e⟩ := f_kd_N h
    rw [e]
    exact nI_pos' (by omega)
