/-! ===== THE LAW: a frame of it over a memory ===== -/
abbrev LC : Type := Program × Launch × Env × State × MethodId × List Frame × Method × Code × Nat × Nat × (Nat → Int32) × mx_E
abbrev LC.b (Γ : LC) : Nat := Γ.2.2.2.2.2.2.2.2.1
abbrev LC.L (Γ : LC) : Nat := Γ.2.2.2.2.2.2.2.2.2.1
abbrev LC.xs (Γ : LC) : Nat → Int32 := Γ.2.2.2.2.2.2.2.2.2.2.1
abbrev LC.E (Γ : LC) : mx_E := Γ.2.2.2.2.2.2.2.2.2.2.2
def LOK : LC → Prop := fun (p, _, _, s, m, _, meth, c, b, L, xs, E) => lw_At p s m meth c b L xs ∧ L ≤ 2560 ∧ va_K E.1 mx_cl (mx_ty E) s ∧ mx_inj E ∧ ∀ k, k < 44 → s.heap.size ≤ E.2.1 k
abbrev lw_lv (Γ : LC) (j : Nat) : List (Nat × Value) := [(3, .int (nI j)), (2, mx_rf Γ.E 35), (1, mx_rf Γ.E 0), (0, .ref Γ.b)]
def LX : LC → Nat → Nat → List Value → Mem → Prop := fun (p, l, e, s, m, below, meth, c, b, L, xs, E) pc j st σ => ∀ (H : Heap) (locs : List Loc) (ls : Array Slot), va_P E.1 mx_cl (mx_w E σ) H → va_S (fun q => s.heap.size ≤ q) s.heap H locs → lv_has ls 4 (lw_lv (p, l, e, s, m, below, meth, c, b, L, xs, E) j) →
  W p l e room_1 s m #[Value.ref b] below meth c H locs 44 722 (lw_Z below #[Value.ref b] s) (F0 m pc ls st)
section LXR
variable {Γ : LC} {pc j : Nat} {st : List Value} {σ : Mem}
theorem l_x (h : LOK Γ) (hd : decode code pc = .ok (.aload_n 1, 1)) (k : LX Γ (pc + 1) j (mx_rf Γ.E 0 :: st) σ) : LX Γ pc j st σ := by
  obtain ⟨p, l, e, s, m, below, meth, c, b, L, xs, E⟩ := Γ
  intro H locs ls P S Lh
  exact lv_aload_n h.1.1 h.1.2.1 hd rfl (lv_at Lh 2 rfl) (k H locs ls P S Lh)
theorem l_m (h : LOK Γ) (hd : decode code pc = .ok (.aload_n 2, 1)) (k : LX Γ (pc + 1) j (mx_rf Γ.E 35 :: st) σ) : LX Γ pc j st σ := by
  obtain ⟨p, l, e, s, m, below, meth, c, b, L, xs, E⟩ := Γ
  intro H locs ls P S Lh
  exact lv_aload_n h.1.1 h.1.2.1 hd rfl (lv_at Lh 1 rfl) (k H locs ls P S Lh)
/-- a number of the script -/
theorem l_arg {x : Nat} {z : Int} (h : LOK Γ) (hx : Int32.ofInt z = nI x) (hj : j + x < Γ.L) (d0 : decode code pc = .ok (.aload_n 0, 1)) (d1 : decode code (pc + 1) = .ok (.iload_n 3, 1)) (d2 : decode code (pc + 2) = .ok (.iconst z, 1)) (d3 : decode code (pc + 3) = .ok (.iadd, 1)) (d4 : decode code (pc + 4) = .ok (.iaload, 1))
    (k : LX Γ (pc + 5) j (.int (Γ.xs (j + x)) :: st) σ) : LX Γ pc j st σ := by
  obtain ⟨p, l, e, s, m, below, meth, c, b, L, xs, E⟩ := Γ
  intro H locs ls P S Lh
  have hL : L ≤ 2560 := h.2.1
  have hjl : j + x < L := hj
  refine lv_aload_n h.1.1 h.1.2.1 d0 rfl (lv_at Lh 3 rfl) ?_
  refine lv_iload_n h.1.1 h.1.2.1 d1 rfl (lv_at Lh 0 rfl) ?_
  refine lv_iconst h.1.1 h.1.2.1 d2 hx ?_
  refine lv_iadd h.1.1 h.1.2.1 d3 ?_
  rw [nI_add]
  refine va_sld h.1.1 h.1.2.1 h.1.2.2.2.2.2.2.1 h.1.2.2.2.2.2.2.2.1 (Nat.not_le.mpr h.1.2.2.2.2.2.2.2.1) S (vp_in_nI hjl (by omega)) d4 ?_
  rw [nI_clamp (by omega)]
  exact k H locs ls P S Lh
theorem l_eq {v : Int32} {off : Int} {tgt : Nat} (h : LOK Γ) (hd : decode code pc = .ok (.if_icmp .eq off, 3)) (ht : (pc : Int) + off = (tgt : Int)) (k : LX Γ tgt j st σ) : LX Γ pc j (.int v :: .int v :: st) σ := by
  obtain ⟨p, l, e, s, m, below, meth, c, b, L, xs, E⟩ := Γ
  intro H locs ls P S Lh
  exact lv_icmp_eq h.1.1 h.1.2.1 hd ht (fun _ => k H locs ls P S Lh) (fun q => absurd rfl q)
theorem l_eqL {v : Int64} {off : Int} {tgt : Nat} (h : LOK Γ) (hd : decode code pc = .ok (.lcmp, 1)) (hd2 : decode code (pc + 1) = .ok (.ifCond .eq off, 3)) (ht : ((pc + 1 : Nat) : Int) + off = (tgt : Int)) (k : LX Γ tgt j st σ) : LX Γ pc j (.long v :: .long v :: st) σ := by
  obtain ⟨p, l, e, s, m, below, meth, c, b, L, xs, E⟩ := Γ
  intro H locs ls P S Lh
  refine W.lcmp h.1.1 h.1.2.1 hd ?_
  exact lv_if_eq h.1.1 h.1.2.1 hd2 ht (fun _ => k H locs ls P S Lh) (fun q => absurd (by simp [lg_cmp]) q)
theorem l_next {jn : Nat} (h : LOK Γ) (hjn : j + 5 = jn) (k : LX Γ 18 jn [] σ) : LX Γ 1105 j [] σ := by
  obtain ⟨p, l, e, s, m, below, meth, c, b, L, xs, E⟩ := Γ
  subst hjn
  intro H locs ls P S Lh
  refine lv_iinc (v := nI (j + 5)) (lv' := lw_lv (p, l, e, s, m, below, meth, c, b, L, xs, E) (j + 5)) h.1.1 h.1.2.1 dL_1105 Lh (k := 0) rfl (nI_add j 5) (by decide) rfl (fun ls Lh => ?_)
  exact lv_goto (tgt := 18) h.1.1 h.1.2.1 dL_1108 (by decide) (k H locs ls P S Lh)
theorem l_call {y : MethodName} {cc' : ByteArray} {nL' k' i na id ci : Nat} {ret' : Option FieldType} {As rest : List Value} {post' : Option Value → Mem → Prop} {r : vw_C} {fs : List Value} (h : LOK Γ) (hM : MM Γ.E k' y cc' nL' ret' (mx_rf Γ.E id :: As) σ post') (hk : k' ≤ 8) (hL : nL' ≤ 17)
    (hw1 : Cond.code y cc' nL' ret' ∈ mx_tbl) (hw2 : Cond.methodLink R_law i y ∈ mx_tbl) (hw3 : Cond.instanceMethod y ∈ mx_tbl) (hw4 : Cond.selects y.cls y y ∈ mx_tbl) (hw5 : Cond.initialized y.cls ∈ mx_tbl)
    (hy : y.cls ≠ "java/lang/invoke/MethodHandle" ∧ y.cls ≠ "java/lang/invoke/VarHandle" ∧ (parseMethodDescriptor y.desc).map (fun d => d.parameters.length) = some na) (hn : As.length = na)
    (hid : id < 44) (he : mx_cell Γ.E σ id = .inr (ci, fs)) (hc : mx_cl[ci]? = some r) (hr : r.1 = y.cls) (hst : st = As.reverse ++ mx_rf Γ.E id :: rest) (hsm : (rest.map fun v => v.category).sum ≤ 8) (hd : decode code pc = .ok (.invokevirtual i, 3))
    (k : ∀ (v : Option Value) (τ : Mem), post' v τ → LX Γ (pc + 3) j (v.toList ++ rest) τ) : LX Γ pc j st σ := by
  obtain ⟨p, l, e, s, m, below, meth, c, b, L, xs, E⟩ := Γ
  intro H locs ls P S Lh
  subst hst
  obtain ⟨⟨hx, hb, -, hml, hown, hts, -, -, -, -⟩, -, hK, hI, hA⟩ := h
  have htm : ∀ w ∈ mx_tbl, w.before #[Value.ref b] s = true := fun w hw => hts w (List.mem_filter.mp hw).1
  have hr2 := va_runV (p := p) (l := l) (e := e) (R := room_1) (s := s) (m := m) (args := #[Value.ref b]) (below := below) (meth := meth) (c := c) (H := H) (locs := locs) (cells := 44) (slots := 722) (b := E.2.1 id) (g := F0 m pc ls (As.reverse ++ mx_rf E id :: rest)) (As := As) (rest := rest) (n := na) (nL := 4) (Ts := mx_tbl) (C := y.cls) (cc := code) (own := R_law) (index := i) ⟨hx, hb, hml, hown, htm⟩ (hM l) (cwV na htm (mx_goodc hw2 (mx_goodc hw3 (mx_goodc hw4 (mx_goodc hw5 (mx_goodc hw1 mx_good))))) rfl rfl rfl ⟨rfl, hy⟩ ⟨(show k' + 1 ≤ 11 by omega), (show 8 + (nL' + 11) + 36 * k' ≤ 404 by omega)⟩) ⟨mx_blind, (by rw [← hr]; exact va_recv hK P hc (q0 := id) (by rw [mx_get hid, he])), fun U hU hW => ⟨rfl, by rw [hU]; exact P, va_K.moved hW.alike hK, hI⟩⟩ rfl hn Lh.1 rfl (lv_room hsm) hd ⟨Nat.le_of_ble_eq_true rfl, Nat.le_of_ble_eq_true rfl⟩
  have hA2 : ∀ q : Nat, mx_A E q → s.heap.size ≤ q := fun q hq => by obtain ⟨x, h1, rfl⟩ := hq; exact hA x h1
  intro Tt hT X
  obtain ⟨v, st₀, t, T', Lo, h0, X', hLo, e1, e2, ⟨⟨v', τ, hv, hp, hP⟩, hz, hkk⟩, stp⟩ := hr2 Tt hT X
  cases hv
  rw [h0] at hz hkk
  obtain ⟨t2, a1, b1⟩ := k v τ hp T'.heap (locs ++ Lo) ls (by rw [e1]; exact hP)
    ⟨Nat.le_trans S.1 (by rw [e1]; exact hz), fun q h1 h2 => by rw [e1, hkk q (Nat.lt_of_lt_of_le h1 S.1) (fun z => h2 (hA2 q z))]; exact S.2.1 q h1 h2, fun q hq => by
      rcases List.mem_append.mp hq with h | h
      · exact S.2.2 q h
      · exact hA2 _ (hLo q h)⟩ Lh T' rfl X'
  exact ⟨t2, stp t2 a1, b1⟩
end LXR
