theorem kpX0 : plainName RX0 = true := by decide +kernel
theorem kpX1 : plainName RX1 = true := by decide +kernel
theorem kpX2 : plainName RX2 = true := by decide +kernel
theorem kpX3 : plainName RX3 = true := by decide +kernel
theorem kpX4 : plainName RX4 = true := by decide +kernel
theorem kpJ6 : plainName RJ6 = true := by decide +kernel
section UT
variable {E : mx_E} {K : Nat} {own : String} {cc : ByteArray} {nL : Nat} {ret : Option FieldType} {pc n tgt : Nat} {lv lv' : List (Nat × Value)} {st : List Value} {σ : Mem} {post : Option Value → Mem → Prop}
theorem x_top {x y : Int32} (h : x = y) (k : MX E K own cc nL ret pc lv (.int y :: st) σ post) : MX E K own cc nL ret pc lv (.int x :: st) σ post := h ▸ k
theorem x_topL {x y : Int64} (h : x = y) (k : MX E K own cc nL ret pc lv (.long y :: st) σ post) : MX E K own cc nL ret pc lv (.long x :: st) σ post := h ▸ k
theorem x_mem {τ : Mem} (h : σ = τ) (k : MX E K own cc nL ret pc lv st τ post) : MX E K own cc nL ret pc lv st σ post := h ▸ k
theorem x_lvs {lw : List (Nat × Value)} (ks : List Nat) (h : lv_pick lv ks = lw) (k : MX E K own cc nL ret pc lw st σ post) : MX E K own cc nL ret pc lv st σ post := by
  intro p l e s m args below meth c H locs ls Qc C P S L hq
  exact k p l e s m args below meth c H locs ls Qc C P S (lv_sub L ks h) hq
theorem mx_n_le (k : Nat) : mx_n k ≤ 96 := by
  unfold mx_n
  repeat' split
  all_goals omega
theorem mx_n_s {k : Nat} (h1 : 36 ≤ k) (h2 : k < 40) : mx_n k = 42 := by
  unfold mx_n
  rw [if_neg (by omega), if_neg (by omega), if_neg (by omega), if_neg (by omega), if_pos (by omega)]
theorem x_iald {id j : Nat} (h1 : 31 ≤ id) (h2 : id ≠ 35) (h3 : id < 44) (hj : j < mx_n id) (hd : mx_at cc pc .iaload 1 n) (k : MX E K own cc nL ret n lv (.int (σ id j) :: st) σ post) : MX E K own cc nL ret pc lv (.int (nI j) :: mx_rf E id :: st) σ post := by
  have hn := mx_n_le id
  refine x_iaload h1 h2 h3 (vp_in_nI hj (by omega)) hd ?_
  rw [nI_clamp (by omega)]
  exact k
theorem x_ialdS {id j : Nat} (h1 : 36 ≤ id) (h2 : id < 40) (hj : j < 42) (hd : mx_at cc pc .iaload 1 n) (k : MX E K own cc nL ret n lv (.int (σ id j) :: st) σ post) : MX E K own cc nL ret pc lv (.int (nI j) :: mx_rf E id :: st) σ post := x_iald (by omega) (by omega) (by omega) (by rw [mx_n_s h1 h2]; exact hj) hd k
theorem x_ialdR {id j : Nat} {r : Nat → Int32} (h1 : 36 ≤ id) (h2 : id < 40) (hj : j < 42) (hd : mx_at cc pc .iaload 1 n) (k : MX E K own cc nL ret n lv (.int (r j) :: st) (mx_row σ id r) post) : MX E K own cc nL ret pc lv (.int (nI j) :: mx_rf E id :: st) (mx_row σ id r) post := by
  refine x_ialdS h1 h2 hj hd ?_
  rw [mx_row_s]
  exact k
theorem x_iast {id j : Nat} {v : Int32} (h1 : 31 ≤ id) (h2 : id ≠ 35) (h3 : id < 44) (hj : j < mx_n id) (hd : mx_at cc pc .iastore 1 n) (k : MX E K own cc nL ret n lv st (mx_up σ id j v) post) : MX E K own cc nL ret pc lv (.int v :: .int (nI j) :: mx_rf E id :: st) σ post := by
  have hn := mx_n_le id
  refine x_iastore h1 h2 h3 (vp_in_nI hj (by omega)) hd ?_
  rw [nI_clamp (by omega)]
  exact k
theorem x_iastS {id j : Nat} {v : Int32} (h1 : 36 ≤ id) (h2 : id < 40) (hj : j < 42) (hd : mx_at cc pc .iastore 1 n) (k : MX E K own cc nL ret n lv st (mx_up σ id j v) post) : MX E K own cc nL ret pc lv (.int v :: .int (nI j) :: mx_rf E id :: st) σ post := x_iast (by omega) (by omega) (by omega) (by rw [mx_n_s h1 h2]; exact hj) hd k
theorem mx_row_up {id j : Nat} {r : Nat → Int32} {v : Int32} : mx_up (mx_row σ id r) id j v = mx_row σ id (upd r j v) := by
  rw [mx_up_row, mx_row_row, mx_row_s]
theorem x_iastR {id j : Nat} {v : Int32} {r : Nat → Int32} (h1 : 36 ≤ id) (h2 : id < 40) (hj : j < 42) (hd : mx_at cc pc .iastore 1 n) (k : MX E K own cc nL ret n lv st (mx_row σ id (upd r j v)) post) : MX E K own cc nL ret pc lv (.int v :: .int (nI j) :: mx_rf E id :: st) (mx_row σ id r) post := by
  refine x_iastS h1 h2 hj hd ?_
  rw [mx_row_up]
  exact k
theorem x_ialdG {id j : Nat} {r : Nat → Int32} (h1 : 31 ≤ id) (h2 : id ≠ 35) (h3 : id < 44) (hj : j < mx_n id) (hd : mx_at cc pc .iaload 1 n) (k : MX E K own cc nL ret n lv (.int (r j) :: st) (mx_row σ id r) post) : MX E K own cc nL ret pc lv (.int (nI j) :: mx_rf E id :: st) (mx_row σ id r) post := by
  refine x_iald h1 h2 h3 hj hd ?_
  rw [mx_row_s]
  exact k
theorem x_iastG {id j : Nat} {v : Int32} {r : Nat → Int32} (h1 : 31 ≤ id) (h2 : id ≠ 35) (h3 : id < 44) (hj : j < mx_n id) (hd : mx_at cc pc .iastore 1 n) (k : MX E K own cc nL ret n lv st (mx_row σ id (upd r j v)) post) : MX E K own cc nL ret pc lv (.int v :: .int (nI j) :: mx_rf E id :: st) (mx_row σ id r) post := by
  refine x_iast h1 h2 h3 hj hd ?_
  rw [mx_row_up]
  exact k
/-- another memory, another end: a contract's -/
theorem MM.weak {y : MethodName} {args : List Value} {post' : Option Value → Mem → Prop} (h : MM E K y cc nL ret args σ post) (hp : ∀ v τ, post v τ → post' v τ) : MM E K y cc nL ret args σ post' := by
  intro l p e ha hc hk s m a below hf happ hP hk2
  obtain ⟨t, o, h1, h2, h3, ⟨⟨v, τ, q1, q2, q3⟩, q4⟩, h5⟩ := h l p e ha hc hk s m a below hf happ hP hk2
  exact ⟨t, o, h1, h2, h3, ⟨⟨v, τ, q1, hp v τ q2, q3⟩, q4⟩, h5⟩
theorem MM.mem {y : MethodName} {args : List Value} {τ : Mem} (h : MM E K y cc nL ret args τ post) (hp : σ = τ) : MM E K y cc nL ret args σ post := hp ▸ h
end UT
abbrev mx_ie (x : Int32) (σ : Mem) : Option Value → Mem → Prop := mx_i (fun r τ => x = r ∧ σ = τ)
abbrev mx_le (x : Int64) (σ : Mem) : Option Value → Mem → Prop := mx_l (fun r τ => x = r ∧ σ = τ)
abbrev mx_ve (σ : Mem) : Option Value → Mem → Prop := mx_v (fun τ => σ = τ)
def zb (b : Bool) : Int32 := if b = true then 1 else 0
theorem zbT : zb true = 1 := rfl
theorem zbF : zb false = 0 := rfl
theorem zb_01 (b : Bool) : zb b = 0 ∨ zb b = 1 := by cases b <;> simp [zb]
theorem zb_0 {b : Bool} (h : zb b = 0) : b = false := by cases b <;> simp [zb] at h ⊢
theorem zb_1 {b : Bool} (h : ¬ zb b = 0) : b = true := by cases b <;> simp [zb] at h ⊢
theorem zb_t {b : Bool} (h : b = true) : 1 = zb b := by rw [h]; rfl
theorem zb_f {b : Bool} (h : b = false) : 0 = zb b := by rw [h]; rfl
theorem zb_t' {b : Bool} (h : b = true) : zb b = 1 := by rw [h]; rfl
theorem zb_f' {b : Bool} (h : b = false) : zb b = 0 := by rw [h]; rfl
