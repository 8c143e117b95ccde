/-! ===== THE MEMORY LAYER: after the constructors no cell is made any more; 44 cells, numbered 0 .. 43, hold numbers alone that change. A memory: cell, place -> number. MX: a frame of a method over a memory; MM: a method's contract over memories. ===== -/
abbrev Mem : Type := Nat → Nat → Int32
abbrev mx_E : Type := va_G × (Nat → Nat) × ClassId × ClassId
def mx_cl : List vw_C := [(RX0, TX0, 8), (RX1, TX1, 2), (RX2, TX2, 6), (RX3, TX3, 8), (RX4, TX4, 13)]
abbrev mx_rf (E : mx_E) (k : Nat) : Value := .ref (E.2.1 k)
def mx_n (k : Nat) : Nat := if k = 31 then 96 else if k = 32 then 16 else if k = 33 then 81 else if k = 34 then 7 else if k < 40 then 42 else if k = 40 then 96 else if k = 41 then 16 else if k = 42 then 7 else 4
def mx_cell (E : mx_E) (σ : Mem) (k : Nat) : va_E :=
  if k = 0 then .inr (3, [mx_rf E 1, mx_rf E 2, mx_rf E 3, .int (σ k 3), mx_rf E 28, mx_rf E 29, mx_rf E 30, mx_rf E 34])
  else if k < 4 then .inr (2, [mx_rf E (k + 3), mx_rf E (k + 6), .int (σ k 2), .int (σ k 3), .int (σ k 4), .int (σ k 5)])
  else if k < 7 then .inl (E.2.2.2, 6, .inr (.inr (.inr (.inr (fun i => some (E.2.1 (6 * k - 14 + i)))))))
  else if k < 28 then .inr (0, [.int (σ k 0), .int (σ k 1), .int (σ k 2), .int (σ k 3), .int (σ k 4), .int (σ k 5), .int (σ k 6), .int (σ k 7)])
  else if k < 31 then .inr (1, [mx_rf E (k + 3), .int (σ k 1)])
  else if k = 35 then .inr (4, [mx_rf E 36, mx_rf E 37, mx_rf E 38, mx_rf E 39, .int (σ k 4), mx_rf E 40, mx_rf E 41, mx_rf E 42, .int (σ k 8), .int (σ k 9), .int (σ k 10), mx_rf E 43, .int (σ k 12)])
  else .inl (E.2.2.1, mx_n k, .inl (σ k))
def mx_w (E : mx_E) (σ : Mem) : va_W := (List.range 44).map fun k => (E.2.1 k, mx_cell E σ k)
def mx_ty (E : mx_E) : List (ClassId × FieldType) := [(E.2.2.1, .int), (E.2.2.2, .object RX0)]
def mx_A (E : mx_E) : Nat → Prop := fun q => ∃ k, k < 44 ∧ q = E.2.1 k
def mx_inj (E : mx_E) : Prop := ∀ i j, i < 44 → j < 44 → E.2.1 i = E.2.1 j → i = j
def mx_tbl : List Cond := lw_tbl.filter goodWord
theorem mx_in {w : Cond} (i : Nat) (h : lw_tbl[i]? = some w) (g : goodWord w = true) : w ∈ mx_tbl := List.mem_filter.mpr ⟨List.mem_of_getElem? h, g⟩
theorem mx_good : GoodIn mx_tbl mx_tbl := fun w h => ⟨h, good_of_word (List.mem_filter.mp h).2⟩
theorem mx_goodc {w : Cond} {ws : List Cond} (h : w ∈ mx_tbl) (hw : GoodIn mx_tbl ws) : GoodIn mx_tbl (w :: ws) := fun x hx => (List.mem_cons.mp hx).elim (fun e => e ▸ mx_good w h) (hw x)
def mx_R (K : Nat) : Room := { frames := K, cells := 0, slots := 0, locals := 36 * K }
theorem mx_get {E : mx_E} {σ : Mem} {k : Nat} (h : k < 44) : (mx_w E σ)[k]? = some (E.2.1 k, mx_cell E σ k) := by
  simp [mx_w, List.getElem?_map, List.getElem?_range h]
theorem mx_some {E : mx_E} {σ : Mem} {k : Nat} {q : Nat × va_E} (h : (mx_w E σ)[k]? = some q) : k < 44 ∧ q = (E.2.1 k, mx_cell E σ k) := by
  have hk : k < 44 := by
    have h1 := (List.getElem?_eq_some_iff.mp h).1
    simpa [mx_w] using h1
  exact ⟨hk, Option.some.inj (h.symm.trans (mx_get hk))⟩
theorem mx_D {E : mx_E} {σ : Mem} (h : mx_inj E) : va_D (mx_A E) (mx_w E σ) := by
  refine ⟨fun i j p q hp hq e => ?_, fun k q hq => ?_⟩
  · obtain ⟨h1, rfl⟩ := mx_some hp
    obtain ⟨h2, rfl⟩ := mx_some hq
    exact h i j h1 h2 e
  · obtain ⟨h1, rfl⟩ := mx_some hq
    exact ⟨k, h1, rfl⟩
theorem mx_set {E : mx_E} {σ τ : Mem} {k : Nat} {e : va_E} (hk : k < 44) (he : mx_cell E τ k = e) (ho : ∀ j, j ≠ k → mx_cell E τ j = mx_cell E σ j) : (mx_w E σ).set k (E.2.1 k, e) = mx_w E τ := by
  refine List.ext_getElem? fun j => ?_
  by_cases hj : j < 44
  · rw [mx_get hj]
    by_cases e1 : j = k
    · subst e1
      rw [List.getElem?_set_self (by simpa [mx_w] using hj), he]
    · rw [List.getElem?_set_ne (fun q => e1 q.symm), mx_get hj, ho j e1]
  · rw [List.getElem?_eq_none (by simpa [mx_w] using hj), List.getElem?_eq_none (by simpa [mx_w] using hj)]
theorem mx_cellc {E : mx_E} {σ τ : Mem} {k : Nat} (h : τ k = σ k) : mx_cell E τ k = mx_cell E σ k := by
  unfold mx_cell
  rw [h]
/-- one number put -/
def mx_up (σ : Mem) (k j : Nat) (v : Int32) : Mem := fun a => if a = k then upd (σ a) j v else σ a
theorem mx_up_eq (σ : Mem) (k j : Nat) (v : Int32) (a b : Nat) : mx_up σ k j v a b = if a = k ∧ b = j then v else σ a b := by
  unfold mx_up
  by_cases h : a = k
  · by_cases h2 : b = j <;> simp [h, h2, upd]
  · simp [h]
theorem mx_up_o {σ : Mem} {k j a : Nat} {v : Int32} (h : a ≠ k) : mx_up σ k j v a = σ a := by unfold mx_up; rw [if_neg h]
theorem mx_up_s {σ : Mem} {k j : Nat} {v : Int32} : mx_up σ k j v k = upd (σ k) j v := by unfold mx_up; rw [if_pos rfl]
theorem mx_upw {E : mx_E} {σ : Mem} {k j : Nat} {v : Int32} {e : va_E} (hk : k < 44) (he : mx_cell E (mx_up σ k j v) k = e) : (mx_w E σ).set k (E.2.1 k, e) = mx_w E (mx_up σ k j v) := mx_set hk he (fun _ h => mx_cellc (mx_up_o h))
/-- a whole row put -/
def mx_row (σ : Mem) (k : Nat) (f : Nat → Int32) : Mem := fun a => if a = k then f else σ a
theorem mx_row_o {σ : Mem} {k a : Nat} {f : Nat → Int32} (h : a ≠ k) : mx_row σ k f a = σ a := by unfold mx_row; rw [if_neg h]
theorem mx_row_s {σ : Mem} {k : Nat} {f : Nat → Int32} : mx_row σ k f k = f := by unfold mx_row; rw [if_pos rfl]
theorem mx_up_row (σ : Mem) (k j : Nat) (v : Int32) : mx_up σ k j v = mx_row σ k (upd (σ k) j v) := by
  funext a
  by_cases h : a = k
  · subst h; rw [mx_up_s, mx_row_s]
  · rw [mx_up_o h, mx_row_o h]
theorem mx_row_row (σ : Mem) (k : Nat) (f g : Nat → Int32) : mx_row (mx_row σ k f) k g = mx_row σ k g := by
  funext a
  by_cases h : a = k
  · subst h; rw [mx_row_s, mx_row_s]
  · rw [mx_row_o h, mx_row_o h, mx_row_o h]
theorem mx_row_self (σ : Mem) (k : Nat) : mx_row σ k (σ k) = σ := by
  funext a
  by_cases h : a = k
  · subst h; rw [mx_row_s]
  · rw [mx_row_o h]
/-- decoded: at pc stands this instruction, the next at n -/
def mx_at (cc : ByteArray) (pc : Nat) (i : Instr) (len n : Nat) : Prop := decode cc pc = .ok (i, len) ∧ pc + len = n
def mx_br (cc : ByteArray) (pc : Nat) (i : Instr) (off : Int) (len n tgt : Nat) : Prop := decode cc pc = .ok (i, len) ∧ pc + len = n ∧ (pc : Int) + off = (tgt : Int)
def mx_C (E : mx_E) (own : String) (cc : ByteArray) (nL : Nat) (ret : Option FieldType) (p : Program) (s : State) (m : MethodId) (args : Array Value) (meth : Method) (c : Code) : Prop :=
  p.tables.exec = Jvm.exec ∧ c.code = cc ∧ meth.sig.returnType = ret ∧ c.maxLocals = nL ∧ (∀ w ∈ mx_tbl, w.before args s = true) ∧ s.vm.findClass own = some m.cls ∧ meth.locks = false ∧ va_K E.1 mx_cl (mx_ty E) s ∧ mx_inj E
/-- A FRAME OVER A MEMORY -/
def MX (E : mx_E) (K : Nat) (own : String) (cc : ByteArray) (nL : Nat) (ret : Option FieldType) (pc : Nat) (lv : List (Nat × Value)) (st : List Value) (σ : Mem) (post : Option Value → Mem → Prop) : Prop :=
  ∀ (p : Program) (l : Launch) (e : Env) (s : State) (m : MethodId) (args : Array Value) (below : List Frame) (meth : Method) (c : Code) (H : Heap) (locs : List Loc) (ls : Array Slot) (Qc : Array Value → State → Outcome → State → Prop),
    mx_C E own cc nL ret p s m args meth c → va_P E.1 mx_cl (mx_w E σ) H → va_S (mx_A E) s.heap H locs → lv_has ls nL lv →
    (∀ (v : Option Value) (τ : Mem) (t : State), post v τ → va_P E.1 mx_cl (mx_w E τ) t.heap → va_F (mx_A E) s t → Qc args s (.returned v) t) →
    W p l e (mx_R K) s m args below meth c H locs 0 0 (MQ below Qc args s 0 0 (mx_A E)) (F0 m pc ls st)
def mx_Pc (E : mx_E) (args : List Value) (σ : Mem) : Array Value → State → Prop := va_Pc args (fun U => va_P E.1 mx_cl (mx_w E σ) U.heap ∧ va_K E.1 mx_cl (mx_ty E) U ∧ mx_inj E)
def mx_Qc (E : mx_E) (post : Option Value → Mem → Prop) : Array Value → State → Outcome → State → Prop := fun _ st oc t => (∃ (v : Option Value) (τ : Mem), oc = .returned v ∧ post v τ ∧ va_P E.1 mx_cl (mx_w E τ) t.heap) ∧ va_F (mx_A E) st t
/-- A METHOD OVER MEMORIES -/
def MM (E : mx_E) (K : Nat) (y : MethodName) (cc : ByteArray) (nL : Nat) (ret : Option FieldType) (args : List Value) (σ : Mem) (post : Option Value → Mem → Prop) : Prop :=
  ∀ l : Launch, Met l y (Cond.code y cc nL ret :: mx_tbl) (mx_R K) (mx_Pc E args σ) (mx_Qc E post) 0 0 (mx_A E)
theorem MM.of {E : mx_E} {K : Nat} {own : String} {y : MethodName} {cc : ByteArray} {nL : Nat} {ret : Option FieldType} {args : List Value} {σ : Mem} {post : Option Value → Mem → Prop} (hy : plainName own = true) (ho : y.cls = own) (hn : (lg_sl args).length ≤ nL) {lv : List (Nat × Value)} (hlv : lv_args 0 args = lv)
    (h : MX E K own cc nL ret 0 lv [] σ post) : MM E K y cc nL ret args σ post := by
  intro l
  subst ho
  refine Met.ofW (cc := cc) (maxL := nL) (ret := ret) hy rfl ?_
  intro p e s m args' below meth c s₁ B hml hv
  obtain ⟨rfl, hP, hK, hD⟩ := hv
  have hts := atoms_spec B.pre
  have hl := lv_entry args (n := nL) hn
  rw [lg_entry_eq]
  rw [hlv] at hl
  exact h p l e s m args.toArray below meth c s.heap [] _ _ ⟨B.exec, B.bytes, B.returns, hml, fun w hw => hts w (List.mem_cons_of_mem _ hw), findClass_of_methodNamed B.named, B.notSynchronized, hK, hD⟩ hP va_S.rf hl (fun v τ t h1 h2 h3 => ⟨⟨v, τ, rfl, h1, h2⟩, h3⟩)
section MXR
variable {E : mx_E} {K : Nat} {own : String} {cc : ByteArray} {nL : Nat} {ret : Option FieldType} {pc n tgt : Nat} {lv lv' : List (Nat × Value)} {st : List Value} {σ : Mem} {post : Option Value → Mem → Prop}
theorem x_iconst {z : Int} {v : Int32} (hd : mx_at cc pc (.iconst z) 1 n) (hv : Int32.ofInt z = v) (k : MX E K own cc nL ret n lv (.int v :: st) σ post) : MX E K own cc nL ret pc lv st σ post := by
  intro p l e s m args below meth c H locs ls Qc C P S L hq
  obtain ⟨hd, rfl⟩ := hd
  exact lv_iconst C.1 C.2.1 hd hv (k p l e s m args below meth c H locs ls Qc C P S L hq)
theorem x_bipush {z : Int} {v : Int32} (hd : mx_at cc pc (.bipush z) 2 n) (hv : (Int8.ofInt z).toInt32 = v) (k : MX E K own cc nL ret n lv (.int v :: st) σ post) : MX E K own cc nL ret pc lv st σ post := by
  intro p l e s m args below meth c H locs ls Qc C P S L hq
  obtain ⟨hd, rfl⟩ := hd
  exact lv_bipush C.1 C.2.1 hd hv (k p l e s m args below meth c H locs ls Qc C P S L hq)
theorem x_sipush {z : Int} {v : Int32} (hd : mx_at cc pc (.sipush z) 3 n) (hv : (Int16.ofInt z).toInt32 = v) (k : MX E K own cc nL ret n lv (.int v :: st) σ post) : MX E K own cc nL ret pc lv st σ post := by
  intro p l e s m args below meth c H locs ls Qc C P S L hq
  obtain ⟨hd, rfl⟩ := hd
  exact lv_sipush C.1 C.2.1 hd hv (k p l e s m args below meth c H locs ls Qc C P S L hq)
theorem x_lconst {z : Fin 2} {v : Int64} (hd : mx_at cc pc (.lconst z) 1 n) (hv : Int64.ofNat (z : Nat) = v) (k : MX E K own cc nL ret n lv (.long v :: st) σ post) : MX E K own cc nL ret pc lv st σ post := by
  intro p l e s m args below meth c H locs ls Qc C P S L hq
  obtain ⟨hd, rfl⟩ := hd
  exact lv_lconst C.1 C.2.1 hd hv (k p l e s m args below meth c H locs ls Qc C P S L hq)
theorem x_iload_n (q : Nat) {j : Fin 4} {x : Int32} (hd : mx_at cc pc (.iload_n j) 1 n) (hl : lv[q]? = some ((j : Nat), .int x)) (k : MX E K own cc nL ret n lv (.int x :: st) σ post) : MX E K own cc nL ret pc lv st σ post := by
  intro p l e s m args below meth c H locs ls Qc C P S L hq
  obtain ⟨hd, rfl⟩ := hd
  exact lv_iload_n C.1 C.2.1 hd rfl (lv_at L q hl) (k p l e s m args below meth c H locs ls Qc C P S L hq)
theorem x_iload (q : Nat) {j : Nat} {x : Int32} (hd : mx_at cc pc (.iload j) 2 n) (hl : lv[q]? = some (j, .int x)) (k : MX E K own cc nL ret n lv (.int x :: st) σ post) : MX E K own cc nL ret pc lv st σ post := by
  intro p l e s m args below meth c H locs ls Qc C P S L hq
  obtain ⟨hd, rfl⟩ := hd
  exact lv_iload C.1 C.2.1 hd (lv_at L q hl) (k p l e s m args below meth c H locs ls Qc C P S L hq)
theorem x_lload_n (q : Nat) {j : Fin 4} {x : Int64} (hd : mx_at cc pc (.lload_n j) 1 n) (hl : lv[q]? = some ((j : Nat), .long x)) (k : MX E K own cc nL ret n lv (.long x :: st) σ post) : MX E K own cc nL ret pc lv st σ post := by
  intro p l e s m args below meth c H locs ls Qc C P S L hq
  obtain ⟨hd, rfl⟩ := hd
  exact lv_lload_n C.1 C.2.1 hd rfl (lv_at L q hl) (k p l e s m args below meth c H locs ls Qc C P S L hq)
theorem x_lload (q : Nat) {j : Nat} {x : Int64} (hd : mx_at cc pc (.lload j) 2 n) (hl : lv[q]? = some (j, .long x)) (k : MX E K own cc nL ret n lv (.long x :: st) σ post) : MX E K own cc nL ret pc lv st σ post := by
  intro p l e s m args below meth c H locs ls Qc C P S L hq
  obtain ⟨hd, rfl⟩ := hd
  exact lv_lload C.1 C.2.1 hd (lv_at L q hl) (k p l e s m args below meth c H locs ls Qc C P S L hq)
theorem x_aload_n (q : Nat) {j : Fin 4} {x : Nat} (hd : mx_at cc pc (.aload_n j) 1 n) (hl : lv[q]? = some ((j : Nat), .ref x)) (k : MX E K own cc nL ret n lv (.ref x :: st) σ post) : MX E K own cc nL ret pc lv st σ post := by
  intro p l e s m args below meth c H locs ls Qc C P S L hq
  obtain ⟨hd, rfl⟩ := hd
  exact lv_aload_n C.1 C.2.1 hd rfl (lv_at L q hl) (k p l e s m args below meth c H locs ls Qc C P S L hq)
theorem x_aload (q : Nat) {j : Nat} {x : Nat} (hd : mx_at cc pc (.aload j) 2 n) (hl : lv[q]? = some (j, .ref x)) (k : MX E K own cc nL ret n lv (.ref x :: st) σ post) : MX E K own cc nL ret pc lv st σ post := by
  intro p l e s m args below meth c H locs ls Qc C P S L hq
  obtain ⟨hd, rfl⟩ := hd
  exact lv_aload C.1 C.2.1 hd (lv_at L q hl) (k p l e s m args below meth c H locs ls Qc C P S L hq)
theorem x_istore_n {i : Fin 4} {j : Nat} {x : Int32} (hd : mx_at cc pc (.istore_n i) 1 n) (hi : (i : Nat) = j) (hj : j < nL) (hl : (j, Value.int x) :: lv.filter (fun q => !(q.1 == j) && !(q.1 + 1 == j && q.2.category == 2)) = lv') (k : MX E K own cc nL ret n lv' st σ post) : MX E K own cc nL ret pc lv (Value.int x :: st) σ post := by
  intro p l e s m args below meth c H locs ls Qc C P S L hq
  obtain ⟨hd, rfl⟩ := hd
  subst hi
  exact lv_istore_n C.1 C.2.1 hd rfl L hj hl (fun ls' L' => k p l e s m args below meth c H locs ls' Qc C P S L' hq)
theorem x_istore {i : Nat} {j : Nat} {x : Int32} (hd : mx_at cc pc (.istore i) 2 n) (hi : (i : Nat) = j) (hj : j < nL) (hl : (j, Value.int x) :: lv.filter (fun q => !(q.1 == j) && !(q.1 + 1 == j && q.2.category == 2)) = lv') (k : MX E K own cc nL ret n lv' st σ post) : MX E K own cc nL ret pc lv (Value.int x :: st) σ post := by
  intro p l e s m args below meth c H locs ls Qc C P S L hq
  obtain ⟨hd, rfl⟩ := hd
  subst hi
  exact lv_istore C.1 C.2.1 hd L hj hl (fun ls' L' => k p l e s m args below meth c H locs ls' Qc C P S L' hq)
theorem x_lstore_n {i : Fin 4} {j : Nat} {x : Int64} (hd : mx_at cc pc (.lstore_n i) 1 n) (hi : (i : Nat) = j) (hj : j + 1 < nL) (hl : (j, Value.long x) :: lv.filter (fun q => !(q.1 == j) && (!(q.1 == j + 1) && !(q.1 + 1 == j && q.2.category == 2))) = lv') (k : MX E K own cc nL ret n lv' st σ post) : MX E K own cc nL ret pc lv (Value.long x :: st) σ post := by
  intro p l e s m args below meth c H locs ls Qc C P S L hq
  obtain ⟨hd, rfl⟩ := hd
  subst hi
  exact lv_lstore_n C.1 C.2.1 hd rfl L hj hl (fun ls' L' => k p l e s m args below meth c H locs ls' Qc C P S L' hq)
theorem x_lstore {i : Nat} {j : Nat} {x : Int64} (hd : mx_at cc pc (.lstore i) 2 n) (hi : (i : Nat) = j) (hj : j + 1 < nL) (hl : (j, Value.long x) :: lv.filter (fun q => !(q.1 == j) && (!(q.1 == j + 1) && !(q.1 + 1 == j && q.2.category == 2))) = lv') (k : MX E K own cc nL ret n lv' st σ post) : MX E K own cc nL ret pc lv (Value.long x :: st) σ post := by
  intro p l e s m args below meth c H locs ls Qc C P S L hq
  obtain ⟨hd, rfl⟩ := hd
  subst hi
  exact lv_lstore C.1 C.2.1 hd L hj hl (fun ls' L' => k p l e s m args below meth c H locs ls' Qc C P S L' hq)
theorem x_astore_n {i : Fin 4} {j : Nat} {x : Nat} (hd : mx_at cc pc (.astore_n i) 1 n) (hi : (i : Nat) = j) (hj : j < nL) (hl : (j, Value.ref x) :: lv.filter (fun q => !(q.1 == j) && !(q.1 + 1 == j && q.2.category == 2)) = lv') (k : MX E K own cc nL ret n lv' st σ post) : MX E K own cc nL ret pc lv (Value.ref x :: st) σ post := by
  intro p l e s m args below meth c H locs ls Qc C P S L hq
  obtain ⟨hd, rfl⟩ := hd
  subst hi
  exact lv_astore_n C.1 C.2.1 hd rfl L hj hl (fun ls' L' => k p l e s m args below meth c H locs ls' Qc C P S L' hq)
theorem x_astore {i : Nat} {j : Nat} {x : Nat} (hd : mx_at cc pc (.astore i) 2 n) (hi : (i : Nat) = j) (hj : j < nL) (hl : (j, Value.ref x) :: lv.filter (fun q => !(q.1 == j) && !(q.1 + 1 == j && q.2.category == 2)) = lv') (k : MX E K own cc nL ret n lv' st σ post) : MX E K own cc nL ret pc lv (Value.ref x :: st) σ post := by
  intro p l e s m args below meth c H locs ls Qc C P S L hq
  obtain ⟨hd, rfl⟩ := hd
  subst hi
  exact lv_astore C.1 C.2.1 hd L hj hl (fun ls' L' => k p l e s m args below meth c H locs ls' Qc C P S L' hq)
theorem x_iinc {j : Nat} {z : Int} {x v : Int32} (q : Nat) (hd : mx_at cc pc (.iinc j z) 3 n) (hk : lv[q]? = some (j, .int x)) (hv : x + Int32.ofInt z = v) (hj : j < nL) (hl : (j, Value.int v) :: lv.filter (fun q => !(q.1 == j) && !(q.1 + 1 == j && q.2.category == 2)) = lv') (k : MX E K own cc nL ret n lv' st σ post) : MX E K own cc nL ret pc lv st σ post := by
  intro p l e s m args below meth c H locs ls Qc C P S L hq
  obtain ⟨hd, rfl⟩ := hd
  exact lv_iinc C.1 C.2.1 hd L hk hv hj hl (fun ls' L' => k p l e s m args below meth c H locs ls' Qc C P S L' hq)
theorem x_iadd {x y : Int32} (hd : mx_at cc pc .iadd 1 n) (k : MX E K own cc nL ret n lv (.int (x + y) :: st) σ post) : MX E K own cc nL ret pc lv (.int y :: .int x :: st) σ post := by
  intro p l e s m args below meth c H locs ls Qc C P S L hq
  obtain ⟨hd, rfl⟩ := hd
  exact lv_iadd C.1 C.2.1 hd (k p l e s m args below meth c H locs ls Qc C P S L hq)
theorem x_isub {x y : Int32} (hd : mx_at cc pc .isub 1 n) (k : MX E K own cc nL ret n lv (.int (x - y) :: st) σ post) : MX E K own cc nL ret pc lv (.int y :: .int x :: st) σ post := by
  intro p l e s m args below meth c H locs ls Qc C P S L hq
  obtain ⟨hd, rfl⟩ := hd
  exact lv_isub C.1 C.2.1 hd (k p l e s m args below meth c H locs ls Qc C P S L hq)
theorem x_imul {x y : Int32} (hd : mx_at cc pc .imul 1 n) (k : MX E K own cc nL ret n lv (.int (x * y) :: st) σ post) : MX E K own cc nL ret pc lv (.int y :: .int x :: st) σ post := by
  intro p l e s m args below meth c H locs ls Qc C P S L hq
  obtain ⟨hd, rfl⟩ := hd
  exact lv_imul C.1 C.2.1 hd (k p l e s m args below meth c H locs ls Qc C P S L hq)
theorem x_iand {x y : Int32} (hd : mx_at cc pc .iand 1 n) (k : MX E K own cc nL ret n lv (.int (x &&& y) :: st) σ post) : MX E K own cc nL ret pc lv (.int y :: .int x :: st) σ post := by
  intro p l e s m args below meth c H locs ls Qc C P S L hq
  obtain ⟨hd, rfl⟩ := hd
  exact lv_iand C.1 C.2.1 hd (k p l e s m args below meth c H locs ls Qc C P S L hq)
theorem x_ior {x y : Int32} (hd : mx_at cc pc .ior 1 n) (k : MX E K own cc nL ret n lv (.int (x ||| y) :: st) σ post) : MX E K own cc nL ret pc lv (.int y :: .int x :: st) σ post := by
  intro p l e s m args below meth c H locs ls Qc C P S L hq
  obtain ⟨hd, rfl⟩ := hd
  exact lv_ior C.1 C.2.1 hd (k p l e s m args below meth c H locs ls Qc C P S L hq)
theorem x_ixor {x y : Int32} (hd : mx_at cc pc .ixor 1 n) (k : MX E K own cc nL ret n lv (.int (x ^^^ y) :: st) σ post) : MX E K own cc nL ret pc lv (.int y :: .int x :: st) σ post := by
  intro p l e s m args below meth c H locs ls Qc C P S L hq
  obtain ⟨hd, rfl⟩ := hd
  exact lv_ixor C.1 C.2.1 hd (k p l e s m args below meth c H locs ls Qc C P S L hq)
theorem x_ishl {x y : Int32} (hd : mx_at cc pc .ishl 1 n) (k : MX E K own cc nL ret n lv (.int (x <<< (y &&& 31)) :: st) σ post) : MX E K own cc nL ret pc lv (.int y :: .int x :: st) σ post := by
  intro p l e s m args below meth c H locs ls Qc C P S L hq
  obtain ⟨hd, rfl⟩ := hd
  exact lv_ishl C.1 C.2.1 hd (k p l e s m args below meth c H locs ls Qc C P S L hq)
theorem x_ishr {x y : Int32} (hd : mx_at cc pc .ishr 1 n) (k : MX E K own cc nL ret n lv (.int (x >>> (y &&& 31)) :: st) σ post) : MX E K own cc nL ret pc lv (.int y :: .int x :: st) σ post := by
  intro p l e s m args below meth c H locs ls Qc C P S L hq
  obtain ⟨hd, rfl⟩ := hd
  exact lv_ishr C.1 C.2.1 hd (k p l e s m args below meth c H locs ls Qc C P S L hq)
theorem x_ladd {x y : Int64} (hd : mx_at cc pc .ladd 1 n) (k : MX E K own cc nL ret n lv (.long (x + y) :: st) σ post) : MX E K own cc nL ret pc lv (.long y :: .long x :: st) σ post := by
  intro p l e s m args below meth c H locs ls Qc C P S L hq
  obtain ⟨hd, rfl⟩ := hd
  exact lv_ladd C.1 C.2.1 hd (k p l e s m args below meth c H locs ls Qc C P S L hq)
theorem x_lsub {x y : Int64} (hd : mx_at cc pc .lsub 1 n) (k : MX E K own cc nL ret n lv (.long (x - y) :: st) σ post) : MX E K own cc nL ret pc lv (.long y :: .long x :: st) σ post := by
  intro p l e s m args below meth c H locs ls Qc C P S L hq
  obtain ⟨hd, rfl⟩ := hd
  exact lv_lsub C.1 C.2.1 hd (k p l e s m args below meth c H locs ls Qc C P S L hq)
theorem x_lmul {x y : Int64} (hd : mx_at cc pc .lmul 1 n) (k : MX E K own cc nL ret n lv (.long (x * y) :: st) σ post) : MX E K own cc nL ret pc lv (.long y :: .long x :: st) σ post := by
  intro p l e s m args below meth c H locs ls Qc C P S L hq
  obtain ⟨hd, rfl⟩ := hd
  exact lv_lmul C.1 C.2.1 hd (k p l e s m args below meth c H locs ls Qc C P S L hq)
theorem x_idiv {x y : Int32} (hd : mx_at cc pc .idiv 1 n) (hne : ¬ y = 0) (k : MX E K own cc nL ret n lv (.int (x / y) :: st) σ post) : MX E K own cc nL ret pc lv (.int y :: .int x :: st) σ post := by
  intro p l e s m args below meth c H locs ls Qc C P S L hq
  obtain ⟨hd, rfl⟩ := hd
  exact lv_idiv C.1 C.2.1 hd hne (k p l e s m args below meth c H locs ls Qc C P S L hq)
theorem x_ldiv {x y : Int64} (hd : mx_at cc pc .ldiv 1 n) (hne : ¬ y = 0) (k : MX E K own cc nL ret n lv (.long (x / y) :: st) σ post) : MX E K own cc nL ret pc lv (.long y :: .long x :: st) σ post := by
  intro p l e s m args below meth c H locs ls Qc C P S L hq
  obtain ⟨hd, rfl⟩ := hd
  exact lv_ldiv C.1 C.2.1 hd hne (k p l e s m args below meth c H locs ls Qc C P S L hq)
theorem x_irem {x y : Int32} (hd : mx_at cc pc .irem 1 n) (hne : ¬ y = 0) (k : MX E K own cc nL ret n lv (.int (x % y) :: st) σ post) : MX E K own cc nL ret pc lv (.int y :: .int x :: st) σ post := by
  intro p l e s m args below meth c H locs ls Qc C P S L hq
  obtain ⟨hd, rfl⟩ := hd
  exact lv_irem C.1 C.2.1 hd hne (irem_eq_mod x y ▸ (k p l e s m args below meth c H locs ls Qc C P S L hq))
theorem x_lmod (x y : Int64) : x - (x / y) * y = x % y := by
  apply Int64.toInt_inj.mp
  have h1 := Int64.le_toInt (x % y)
  have h2 := Int64.toInt_lt (x % y)
  rw [Int64.toInt_sub, Int64.toInt_mul, Int64.toInt_div, Int.bmod_mul_bmod, Int.sub_bmod_bmod, Int.mul_comm (x.toInt.tdiv y.toInt), ← Int.tmod_def, ← Int64.toInt_mod]
  exact Int.bmod_eq_of_le_mul_two (by omega) (by omega)
theorem x_lrem {x y : Int64} (hd : mx_at cc pc .lrem 1 n) (hne : ¬ y = 0) (k : MX E K own cc nL ret n lv (.long (x % y) :: st) σ post) : MX E K own cc nL ret pc lv (.long y :: .long x :: st) σ post := by
  intro p l e s m args below meth c H locs ls Qc C P S L hq
  obtain ⟨hd, rfl⟩ := hd
  exact lv_lrem C.1 C.2.1 hd hne (x_lmod x y ▸ (k p l e s m args below meth c H locs ls Qc C P S L hq))
theorem x_ineg {x : Int32} (hd : mx_at cc pc .ineg 1 n) (k : MX E K own cc nL ret n lv (.int (-x) :: st) σ post) : MX E K own cc nL ret pc lv (.int x :: st) σ post := by
  intro p l e s m args below meth c H locs ls Qc C P S L hq
  obtain ⟨hd, rfl⟩ := hd
  exact lv_ineg C.1 C.2.1 hd (k p l e s m args below meth c H locs ls Qc C P S L hq)
theorem x_i2l {x : Int32} (hd : mx_at cc pc .i2l 1 n) (k : MX E K own cc nL ret n lv (.long x.toInt64 :: st) σ post) : MX E K own cc nL ret pc lv (.int x :: st) σ post := by
  intro p l e s m args below meth c H locs ls Qc C P S L hq
  obtain ⟨hd, rfl⟩ := hd
  exact lv_i2l C.1 C.2.1 hd rfl (k p l e s m args below meth c H locs ls Qc C P S L hq)
theorem x_l2i {x : Int64} (hd : mx_at cc pc .l2i 1 n) (k : MX E K own cc nL ret n lv (.int x.toInt32 :: st) σ post) : MX E K own cc nL ret pc lv (.long x :: st) σ post := by
  intro p l e s m args below meth c H locs ls Qc C P S L hq
  obtain ⟨hd, rfl⟩ := hd
  exact lv_l2i C.1 C.2.1 hd rfl (k p l e s m args below meth c H locs ls Qc C P S L hq)
theorem x_iushr {x y : Int32} (hd : mx_at cc pc .iushr 1 n) (k : MX E K own cc nL ret n lv (.int (x.toUInt32 >>> (y.toUInt32 &&& Int32.toUInt32 31)).toInt32 :: st) σ post) : MX E K own cc nL ret pc lv (.int y :: .int x :: st) σ post := by
  intro p l e s m args below meth c H locs ls Qc C P S L hq
  obtain ⟨hd, rfl⟩ := hd
  exact lv_iushr C.1 C.2.1 hd rfl (k p l e s m args below meth c H locs ls Qc C P S L hq)
theorem x_lcmp {x y : Int64} (hd : mx_at cc pc .lcmp 1 n) (k : MX E K own cc nL ret n lv (.int (lg_cmp x y) :: st) σ post) : MX E K own cc nL ret pc lv (.long y :: .long x :: st) σ post := by
  intro p l e s m args below meth c H locs ls Qc C P S L hq
  obtain ⟨hd, rfl⟩ := hd
  exact W.lcmp C.1 C.2.1 hd (k p l e s m args below meth c H locs ls Qc C P S L hq)
theorem x_dup {v : Value} (hd : mx_at cc pc .dup 1 n) (hc : v.category = 1) (k : MX E K own cc nL ret n lv (v :: v :: st) σ post) : MX E K own cc nL ret pc lv (v :: st) σ post := by
  intro p l e s m args below meth c H locs ls Qc C P S L hq
  obtain ⟨hd, rfl⟩ := hd
  exact lv_dup C.1 C.2.1 hd hc (k p l e s m args below meth c H locs ls Qc C P S L hq)
theorem x_pop {v : Value} (hd : mx_at cc pc .pop 1 n) (hc : v.category = 1) (k : MX E K own cc nL ret n lv st σ post) : MX E K own cc nL ret pc lv (v :: st) σ post := by
  intro p l e s m args below meth c H locs ls Qc C P S L hq
  obtain ⟨hd, rfl⟩ := hd
  exact lv_pop C.1 C.2.1 hd hc (k p l e s m args below meth c H locs ls Qc C P S L hq)
theorem x_dup2 {u v : Value} (hd : mx_at cc pc .dup2 1 n) (hc : u.category = 1) (hc2 : v.category = 1) (k : MX E K own cc nL ret n lv (u :: v :: u :: v :: st) σ post) : MX E K own cc nL ret pc lv (u :: v :: st) σ post := by
  intro p l e s m args below meth c H locs ls Qc C P S L hq
  obtain ⟨hd, rfl⟩ := hd
  exact lv_dup2_11 C.1 C.2.1 hd hc hc2 (k p l e s m args below meth c H locs ls Qc C P S L hq)
theorem x_goto {off : Int} (hd : mx_br cc pc (.goto off) off 3 n tgt) (k : MX E K own cc nL ret tgt lv st σ post) : MX E K own cc nL ret pc lv st σ post := by
  intro p l e s m args below meth c H locs ls Qc C P S L hq
  exact lv_goto C.1 C.2.1 hd.1 hd.2.2 (k p l e s m args below meth c H locs ls Qc C P S L hq)
theorem x_ifnonnull {off : Int} {x : Nat} (hd : mx_br cc pc (.ifnonnull off) off 3 n tgt) (k : MX E K own cc nL ret tgt lv st σ post) : MX E K own cc nL ret pc lv (.ref x :: st) σ post := by
  intro p l e s m args below meth c H locs ls Qc C P S L hq
  exact lv_ifnonnull C.1 C.2.1 hd.1 hd.2.2 (k p l e s m args below meth c H locs ls Qc C P S L hq)
theorem x_if_eq {off : Int} {x : Int32} (hd : mx_br cc pc (.ifCond .eq off) off 3 n tgt) (kt : x = 0 → MX E K own cc nL ret tgt lv st σ post) (kf : ¬ x = 0 → MX E K own cc nL ret n lv st σ post) : MX E K own cc nL ret pc lv (.int x :: st) σ post := by
  intro p l e s m args below meth c H locs ls Qc C P S L hq
  obtain ⟨hd, rfl, ht⟩ := hd
  exact lv_if_eq C.1 C.2.1 hd ht (fun h => kt h p l e s m args below meth c H locs ls Qc C P S L hq) (fun h => kf h p l e s m args below meth c H locs ls Qc C P S L hq)
theorem x_icmp_eq {off : Int} {x y : Int32} (hd : mx_br cc pc (.if_icmp .eq off) off 3 n tgt) (kt : x = y → MX E K own cc nL ret tgt lv st σ post) (kf : ¬ x = y → MX E K own cc nL ret n lv st σ post) : MX E K own cc nL ret pc lv (.int y :: .int x :: st) σ post := by
  intro p l e s m args below meth c H locs ls Qc C P S L hq
  obtain ⟨hd, rfl, ht⟩ := hd
  exact lv_icmp_eq C.1 C.2.1 hd ht (fun h => kt h p l e s m args below meth c H locs ls Qc C P S L hq) (fun h => kf h p l e s m args below meth c H locs ls Qc C P S L hq)
theorem x_if_ne {off : Int} {x : Int32} (hd : mx_br cc pc (.ifCond .ne off) off 3 n tgt) (kt : ¬ x = 0 → MX E K own cc nL ret tgt lv st σ post) (kf : x = 0 → MX E K own cc nL ret n lv st σ post) : MX E K own cc nL ret pc lv (.int x :: st) σ post := by
  intro p l e s m args below meth c H locs ls Qc C P S L hq
  obtain ⟨hd, rfl, ht⟩ := hd
  exact lv_if_ne C.1 C.2.1 hd ht (fun h => kt h p l e s m args below meth c H locs ls Qc C P S L hq) (fun h => kf h p l e s m args below meth c H locs ls Qc C P S L hq)
theorem x_icmp_ne {off : Int} {x y : Int32} (hd : mx_br cc pc (.if_icmp .ne off) off 3 n tgt) (kt : ¬ x = y → MX E K own cc nL ret tgt lv st σ post) (kf : x = y → MX E K own cc nL ret n lv st σ post) : MX E K own cc nL ret pc lv (.int y :: .int x :: st) σ post := by
  intro p l e s m args below meth c H locs ls Qc C P S L hq
  obtain ⟨hd, rfl, ht⟩ := hd
  exact lv_icmp_ne C.1 C.2.1 hd ht (fun h => kt h p l e s m args below meth c H locs ls Qc C P S L hq) (fun h => kf h p l e s m args below meth c H locs ls Qc C P S L hq)
theorem x_if_lt {off : Int} {x : Int32} (hd : mx_br cc pc (.ifCond .lt off) off 3 n tgt) (kt : x < 0 → MX E K own cc nL ret tgt lv st σ post) (kf : ¬ x < 0 → MX E K own cc nL ret n lv st σ post) : MX E K own cc nL ret pc lv (.int x :: st) σ post := by
  intro p l e s m args below meth c H locs ls Qc C P S L hq
  obtain ⟨hd, rfl, ht⟩ := hd
  exact lv_if_lt C.1 C.2.1 hd ht (fun h => kt h p l e s m args below meth c H locs ls Qc C P S L hq) (fun h => kf h p l e s m args below meth c H locs ls Qc C P S L hq)
theorem x_icmp_lt {off : Int} {x y : Int32} (hd : mx_br cc pc (.if_icmp .lt off) off 3 n tgt) (kt : x < y → MX E K own cc nL ret tgt lv st σ post) (kf : ¬ x < y → MX E K own cc nL ret n lv st σ post) : MX E K own cc nL ret pc lv (.int y :: .int x :: st) σ post := by
  intro p l e s m args below meth c H locs ls Qc C P S L hq
  obtain ⟨hd, rfl, ht⟩ := hd
  exact lv_icmp_lt C.1 C.2.1 hd ht (fun h => kt h p l e s m args below meth c H locs ls Qc C P S L hq) (fun h => kf h p l e s m args below meth c H locs ls Qc C P S L hq)
theorem x_if_ge {off : Int} {x : Int32} (hd : mx_br cc pc (.ifCond .ge off) off 3 n tgt) (kt : 0 ≤ x → MX E K own cc nL ret tgt lv st σ post) (kf : ¬ 0 ≤ x → MX E K own cc nL ret n lv st σ post) : MX E K own cc nL ret pc lv (.int x :: st) σ post := by
  intro p l e s m args below meth c H locs ls Qc C P S L hq
  obtain ⟨hd, rfl, ht⟩ := hd
  exact lv_if_ge C.1 C.2.1 hd ht (fun h => kt h p l e s m args below meth c H locs ls Qc C P S L hq) (fun h => kf h p l e s m args below meth c H locs ls Qc C P S L hq)
theorem x_icmp_ge {off : Int} {x y : Int32} (hd : mx_br cc pc (.if_icmp .ge off) off 3 n tgt) (kt : y ≤ x → MX E K own cc nL ret tgt lv st σ post) (kf : ¬ y ≤ x → MX E K own cc nL ret n lv st σ post) : MX E K own cc nL ret pc lv (.int y :: .int x :: st) σ post := by
  intro p l e s m args below meth c H locs ls Qc C P S L hq
  obtain ⟨hd, rfl, ht⟩ := hd
  exact lv_icmp_ge C.1 C.2.1 hd ht (fun h => kt h p l e s m args below meth c H locs ls Qc C P S L hq) (fun h => kf h p l e s m args below meth c H locs ls Qc C P S L hq)
theorem x_if_gt {off : Int} {x : Int32} (hd : mx_br cc pc (.ifCond .gt off) off 3 n tgt) (kt : 0 < x → MX E K own cc nL ret tgt lv st σ post) (kf : ¬ 0 < x → MX E K own cc nL ret n lv st σ post) : MX E K own cc nL ret pc lv (.int x :: st) σ post := by
  intro p l e s m args below meth c H locs ls Qc C P S L hq
  obtain ⟨hd, rfl, ht⟩ := hd
  exact lv_if_gt C.1 C.2.1 hd ht (fun h => kt h p l e s m args below meth c H locs ls Qc C P S L hq) (fun h => kf h p l e s m args below meth c H locs ls Qc C P S L hq)
theorem x_icmp_gt {off : Int} {x y : Int32} (hd : mx_br cc pc (.if_icmp .gt off) off 3 n tgt) (kt : y < x → MX E K own cc nL ret tgt lv st σ post) (kf : ¬ y < x → MX E K own cc nL ret n lv st σ post) : MX E K own cc nL ret pc lv (.int y :: .int x :: st) σ post := by
  intro p l e s m args below meth c H locs ls Qc C P S L hq
  obtain ⟨hd, rfl, ht⟩ := hd
  exact lv_icmp_gt C.1 C.2.1 hd ht (fun h => kt h p l e s m args below meth c H locs ls Qc C P S L hq) (fun h => kf h p l e s m args below meth c H locs ls Qc C P S L hq)
theorem x_if_le {off : Int} {x : Int32} (hd : mx_br cc pc (.ifCond .le off) off 3 n tgt) (kt : x ≤ 0 → MX E K own cc nL ret tgt lv st σ post) (kf : ¬ x ≤ 0 → MX E K own cc nL ret n lv st σ post) : MX E K own cc nL ret pc lv (.int x :: st) σ post := by
  intro p l e s m args below meth c H locs ls Qc C P S L hq
  obtain ⟨hd, rfl, ht⟩ := hd
  exact lv_if_le C.1 C.2.1 hd ht (fun h => kt h p l e s m args below meth c H locs ls Qc C P S L hq) (fun h => kf h p l e s m args below meth c H locs ls Qc C P S L hq)
theorem x_icmp_le {off : Int} {x y : Int32} (hd : mx_br cc pc (.if_icmp .le off) off 3 n tgt) (kt : x ≤ y → MX E K own cc nL ret tgt lv st σ post) (kf : ¬ x ≤ y → MX E K own cc nL ret n lv st σ post) : MX E K own cc nL ret pc lv (.int y :: .int x :: st) σ post := by
  intro p l e s m args below meth c H locs ls Qc C P S L hq
  obtain ⟨hd, rfl, ht⟩ := hd
  exact lv_icmp_le C.1 C.2.1 hd ht (fun h => kt h p l e s m args below meth c H locs ls Qc C P S L hq) (fun h => kf h p l e s m args below meth c H locs ls Qc C P S L hq)
theorem x_tableIn {dflt lo hi : Int} {offs : Array Int} {len : Nat} {x : Int32} {off : Int} (hd : decode cc pc = .ok (.tableswitch dflt lo hi offs, len)) (h1 : ¬ x.toInt < lo) (h2 : ¬ hi < x.toInt) (ho : offs[(x.toInt - lo).toNat]? = some off) (ht : (pc : Int) + off = (tgt : Int)) (k : MX E K own cc nL ret tgt lv st σ post) : MX E K own cc nL ret pc lv (.int x :: st) σ post := by
  intro p l e s m args below meth c H locs ls Qc C P S L hq
  exact lv_tableIn C.1 C.2.1 hd h1 h2 ho ht (k p l e s m args below meth c H locs ls Qc C P S L hq)
theorem x_tableOut {dflt lo hi : Int} {offs : Array Int} {len : Nat} {x : Int32} (hd : decode cc pc = .ok (.tableswitch dflt lo hi offs, len)) (h : x.toInt < lo ∨ hi < x.toInt) (ht : (pc : Int) + dflt = (tgt : Int)) (k : MX E K own cc nL ret tgt lv st σ post) : MX E K own cc nL ret pc lv (.int x :: st) σ post := by
  intro p l e s m args below meth c H locs ls Qc C P S L hq
  exact lv_tableOut C.1 C.2.1 hd h ht (k p l e s m args below meth c H locs ls Qc C P S L hq)
theorem x_lookup {dflt : Int} {ps : Array (Int × Int)} {len : Nat} {x : Int32} {off : Int} (hd : decode cc pc = .ok (.lookupswitch dflt ps, len)) (hp : (ps.toList.zip (ps.toList.drop 1)).all (fun (a, next) => a.1 < next.1) = true) (ho : Op.lookupswitch.offset ps.toList dflt x.toInt = off) (ht : (pc : Int) + off = (tgt : Int)) (k : MX E K own cc nL ret tgt lv st σ post) : MX E K own cc nL ret pc lv (.int x :: st) σ post := by
  intro p l e s m args below meth c H locs ls Qc C P S L hq
  exact lv_lookup C.1 C.2.1 hd hp ho ht (k p l e s m args below meth c H locs ls Qc C P S L hq)
theorem x_ldc {i : Nat} {v : Int32} (hd : mx_at cc pc (.ldc i) 2 n) (hw : Cond.constant own i v ∈ mx_tbl) (k : MX E K own cc nL ret n lv (.int v :: st) σ post) : MX E K own cc nL ret pc lv st σ post := by
  intro p l e s m args below meth c H locs ls Qc C P S L hq
  obtain ⟨hd, rfl⟩ := hd
  exact lv_ldc C.1 C.2.1 C.2.2.2.2.2.1 (C.2.2.2.2.1 _ hw) hd (k p l e s m args below meth c H locs ls Qc C P S L hq)
theorem x_ldc2 {i : Nat} {v : Int64} (hd : mx_at cc pc (.ldc2_w i) 3 n) (hw : Cond.constantLong own i v ∈ mx_tbl) (k : MX E K own cc nL ret n lv (.long v :: st) σ post) : MX E K own cc nL ret pc lv st σ post := by
  intro p l e s m args below meth c H locs ls Qc C P S L hq
  obtain ⟨hd, rfl⟩ := hd
  exact lv_ldc2 C.1 C.2.1 C.2.2.2.2.2.1 (C.2.2.2.2.1 _ hw) hd (k p l e s m args below meth c H locs ls Qc C P S L hq)
theorem x_ldcw {i : Nat} {v : Int32} (hd : mx_at cc pc (.ldc_w i) 3 n) (hw : Cond.constant own i v ∈ mx_tbl) (k : MX E K own cc nL ret n lv (.int v :: st) σ post) : MX E K own cc nL ret pc lv st σ post := by
  intro p l e s m args below meth c H locs ls Qc C P S L hq
  obtain ⟨hd, rfl⟩ := hd
  exact lv_ldcw C.1 C.2.1 C.2.2.2.2.2.1 (C.2.2.2.2.1 _ hw) hd (k p l e s m args below meth c H locs ls Qc C P S L hq)
theorem mx_fs {x : ClassId × Class × Nat × Field} : True := trivial
theorem mx_cH {E : mx_E} {σ : Mem} {k : Nat} (h1 : 7 ≤ k) (h2 : k < 28) : mx_cell E σ k = .inr (0, [.int (σ k 0), .int (σ k 1), .int (σ k 2), .int (σ k 3), .int (σ k 4), .int (σ k 5), .int (σ k 6), .int (σ k 7)]) := by
  unfold mx_cell
  rw [if_neg (by omega), if_neg (by omega), if_neg (by omega), if_pos h2]
theorem mx_cT {E : mx_E} {σ : Mem} {k : Nat} (h1 : 1 ≤ k) (h2 : k < 4) : mx_cell E σ k = .inr (2, [mx_rf E (k + 3), mx_rf E (k + 6), .int (σ k 2), .int (σ k 3), .int (σ k 4), .int (σ k 5)]) := by
  unfold mx_cell
  rw [if_neg (by omega), if_pos h2]
theorem mx_cQ {E : mx_E} {σ : Mem} {k : Nat} (h1 : 4 ≤ k) (h2 : k < 7) : mx_cell E σ k = .inl (E.2.2.2, 6, .inr (.inr (.inr (.inr (fun i => some (E.2.1 (6 * k - 14 + i))))))) := by
  unfold mx_cell
  rw [if_neg (by omega), if_neg (by omega), if_pos h2]
theorem mx_cR {E : mx_E} {σ : Mem} {k : Nat} (h1 : 28 ≤ k) (h2 : k < 31) : mx_cell E σ k = .inr (1, [mx_rf E (k + 3), .int (σ k 1)]) := by
  unfold mx_cell
  rw [if_neg (by omega), if_neg (by omega), if_neg (by omega), if_neg (by omega), if_pos h2]
theorem mx_cI {E : mx_E} {σ : Mem} {k : Nat} (h1 : 31 ≤ k) (h2 : k ≠ 35) : mx_cell E σ k = .inl (E.2.2.1, mx_n k, .inl (σ k)) := by
  unfold mx_cell
  rw [if_neg (by omega), if_neg (by omega), if_neg (by omega), if_neg (by omega), if_neg (by omega), if_neg h2]
theorem mx_hin {C : String} {T : u_T} {N : Nat} (h : ∀ w ∈ u_ws C T N, w ∈ lw_tbl) (g : (u_ws C T N).all goodWord = true) : ∀ w ∈ u_ws C T N, w ∈ mx_tbl := fun w hw => List.mem_filter.mpr ⟨h w hw, List.all_eq_true.mp g w hw⟩
/-- a field read, of any cell of the world -/
theorem x_getf {Cn ref : String} {T : u_T} {N ci i id j : Nat} {fs : List Value} {v : Value} (hin : ∀ w ∈ u_ws Cn T N, w ∈ mx_tbl) (hc : mx_cl[ci]? = some (Cn, T, N)) (hT : (T j).1 = ref) (hlink : Cond.fieldLink own i ref (T j).2.1 (T j).2.2.1 ∈ mx_tbl) (hj : j < N) (hid : id < 44) (he : mx_cell E σ id = .inr (ci, fs)) (hv : fs[j]? = some v)
    (hd : mx_at cc pc (.getfield i) 3 n) (k : MX E K own cc nL ret n lv (v :: st) σ post) : MX E K own cc nL ret pc lv (mx_rf E id :: st) σ post := by
  intro p l e s m args below meth c H locs ls Qc C P S L hq
  obtain ⟨hd, rfl⟩ := hd
  exact va_get (C := Cn) (T := T) (N := N) C.1 C.2.1 C.2.2.2.2.1 hin C.2.2.2.2.2.1 C.2.2.2.2.2.2.2.1 P id (by rw [mx_get hid, he]) hc j hj (C.2.2.2.2.1 _ hlink) (fun x h9 => by rw [← hT]; exact h9) hv hd (k p l e s m args below meth c H locs ls Qc C P S L hq)
/-- a number put into a field -/
theorem x_putf {Cn ref : String} {T : u_T} {N ci i id j : Nat} {fs : List Value} {v : Int32} {ty : FieldType} {ty0 : Nat → FieldType} (hty : ∀ k, k < N → parseFieldDescriptor (T k).2.2.1 = some (ty0 k)) (hnm : ∀ a, a < N → ∀ b, b < N → a ≠ b → (T a).2.1 ≠ (T b).2.1) (hin : ∀ w ∈ u_ws Cn T N, w ∈ mx_tbl) (hc : mx_cl[ci]? = some (Cn, T, N)) (hT : (T j).1 = ref) (hlink : Cond.fieldLink own i ref (T j).2.1 (T j).2.2.1 ∈ mx_tbl) (hj : j < N) (hfin : (T j).2.2.2 = false) (hid : id < 44) (he : mx_cell E σ id = .inr (ci, fs)) (hl : j < fs.length) (he2 : mx_cell E (mx_up σ id j v) id = .inr (ci, fs.set j (.int v)))
    (hdsc : parseFieldDescriptor (T j).2.2.1 = some ty) (hn : narrow ty (.int v) = .int v) (hfit : fits ty (.int v) = true)
    (hd : mx_at cc pc (.putfield i) 3 n) (k : MX E K own cc nL ret n lv st (mx_up σ id j v) post) : MX E K own cc nL ret pc lv (.int v :: mx_rf E id :: st) σ post := by
  intro p l e s m args below meth c H locs ls Qc C P S L hq
  obtain ⟨hd, rfl⟩ := hd
  refine va_put (C := Cn) (T := T) (N := N) (ty := ty) C.1 C.2.1 C.2.2.2.2.1 hin ty0 hty hnm C.2.2.2.2.2.1 C.2.2.2.2.2.2.2.1 P (mx_D C.2.2.2.2.2.2.2.2) S id (by rw [mx_get hid, he]) hc j hj (C.2.2.2.2.1 _ hlink) (fun x h9 => by rw [← hT]; exact h9) hfin hdsc hn hfit hl hd (fun H1 locs1 P1 _ S1 => ?_)
  rw [mx_upw hid he2] at P1
  exact k p l e s m args below meth c H1 locs1 ls Qc C P1 S1 L hq
/-- a number of a row read -/
theorem x_iaload {id : Nat} {i : Int32} (h1 : 31 ≤ id) (h2 : id ≠ 35) (h3 : id < 44) (hi : vp_in i (mx_n id)) (hd : mx_at cc pc .iaload 1 n) (k : MX E K own cc nL ret n lv (.int (σ id i.toNatClampNeg) :: st) σ post) : MX E K own cc nL ret pc lv (.int i :: mx_rf E id :: st) σ post := by
  intro p l e s m args below meth c H locs ls Qc C P S L hq
  obtain ⟨hd, rfl⟩ := hd
  exact va_iald C.1 C.2.1 C.2.2.2.2.2.2.2.1 P id 0 (by rw [mx_get h3, mx_cI h1 h2]) rfl hi hd (k p l e s m args below meth c H locs ls Qc C P S L hq)
theorem x_iastore {id : Nat} {i v : Int32} (h1 : 31 ≤ id) (h2 : id ≠ 35) (h3 : id < 44) (hi : vp_in i (mx_n id)) (hd : mx_at cc pc .iastore 1 n) (k : MX E K own cc nL ret n lv st (mx_up σ id i.toNatClampNeg v) post) : MX E K own cc nL ret pc lv (.int v :: .int i :: mx_rf E id :: st) σ post := by
  intro p l e s m args below meth c H locs ls Qc C P S L hq
  obtain ⟨hd, rfl⟩ := hd
  refine va_iast C.1 C.2.1 C.2.2.2.2.2.2.2.1 P (mx_D C.2.2.2.2.2.2.2.2) S id 0 (by rw [mx_get h3, mx_cI h1 h2]) rfl hi hd (fun H1 locs1 P1 _ S1 => ?_)
  rw [mx_upw h3 (by rw [mx_cI h1 h2, mx_up_s])] at P1
  exact k p l e s m args below meth c H1 locs1 ls Qc C P1 S1 L hq
theorem x_alen {id : Nat} (h1 : 31 ≤ id) (h2 : id ≠ 35) (h3 : id < 44) (hd : mx_at cc pc .arraylength 1 n) (k : MX E K own cc nL ret n lv (.int (Int32.ofNat (mx_n id)) :: st) σ post) : MX E K own cc nL ret pc lv (mx_rf E id :: st) σ post := by
  intro p l e s m args below meth c H locs ls Qc C P S L hq
  obtain ⟨hd, rfl⟩ := hd
  exact va_alen C.1 C.2.1 C.2.2.2.2.2.2.2.1 P id 0 (by rw [mx_get h3, mx_cI h1 h2]) rfl rfl hd (k p l e s m args below meth c H locs ls Qc C P S L hq)
theorem x_alenQ {id : Nat} (h1 : 4 ≤ id) (h2 : id < 7) (hd : mx_at cc pc .arraylength 1 n) (k : MX E K own cc nL ret n lv (.int 6 :: st) σ post) : MX E K own cc nL ret pc lv (mx_rf E id :: st) σ post := by
  intro p l e s m args below meth c H locs ls Qc C P S L hq
  obtain ⟨hd, rfl⟩ := hd
  exact va_alen C.1 C.2.1 C.2.2.2.2.2.2.2.1 P id 1 (by rw [mx_get (by omega), mx_cQ h1 h2]) rfl rfl hd (k p l e s m args below meth c H locs ls Qc C P S L hq)
theorem x_aaload {id : Nat} {i : Int32} (h1 : 4 ≤ id) (h2 : id < 7) (hi : vp_in i 6) (hd : mx_at cc pc .aaload 1 n) (k : MX E K own cc nL ret n lv (mx_rf E (6 * id - 14 + i.toNatClampNeg) :: st) σ post) : MX E K own cc nL ret pc lv (.int i :: mx_rf E id :: st) σ post := by
  intro p l e s m args below meth c H locs ls Qc C P S L hq
  obtain ⟨hd, rfl⟩ := hd
  exact va_aldq (f := fun i => some (E.2.1 (6 * id - 14 + i))) C.1 C.2.1 C.2.2.2.2.2.2.2.1 P id 1 (by rw [mx_get (by omega), mx_cQ h1 h2]) rfl hi hd (k p l e s m args below meth c H locs ls Qc C P S L hq)
/-- the ends -/
def mx_i (R : Int32 → Mem → Prop) : Option Value → Mem → Prop := fun v τ => ∃ r : Int32, v = some (.int r) ∧ R r τ
def mx_l (R : Int64 → Mem → Prop) : Option Value → Mem → Prop := fun v τ => ∃ r : Int64, v = some (.long r) ∧ R r τ
def mx_v (R : Mem → Prop) : Option Value → Mem → Prop := fun v τ => v = none ∧ R τ
def mx_r (E : mx_E) (R : Nat → Mem → Prop) : Option Value → Mem → Prop := fun v τ => ∃ k : Nat, v = some (mx_rf E k) ∧ R k τ
theorem x_iret {v : Int32} {R : Int32 → Mem → Prop} (hd : mx_at cc pc .ireturn 1 n) (h : R v σ) : MX E K own cc nL (some .int) pc lv [.int v] σ (mx_i R) := by
  intro p l e s m args below meth c H locs ls Qc C P S L hq
  exact W.iret C.1 C.2.1 C.2.2.1 (fun t ht _ => hq _ σ t ⟨v, rfl, h⟩ (by rw [ht]; exact P) (S.F ht)) S.2.2 hd.1 (hlocks := C.2.2.2.2.2.2.1)
theorem x_zret {v : Int32} {R : Int32 → Mem → Prop} (hd : mx_at cc pc .ireturn 1 n) (hb : v = 0 ∨ v = 1) (h : R v σ) : MX E K own cc nL (some .boolean) pc lv [.int v] σ (mx_i R) := by
  intro p l e s m args below meth c H locs ls Qc C P S L hq
  exact W.zret C.1 C.2.1 C.2.2.1 (by rcases hb with rfl | rfl <;> rfl) (fun t ht _ => hq _ σ t ⟨v, rfl, h⟩ (by rw [ht]; exact P) (S.F ht)) S.2.2 hd.1 (hlocks := C.2.2.2.2.2.2.1)
theorem x_lret {v : Int64} {R : Int64 → Mem → Prop} (hd : mx_at cc pc .lreturn 1 n) (h : R v σ) : MX E K own cc nL (some .long) pc lv [.long v] σ (mx_l R) := by
  intro p l e s m args below meth c H locs ls Qc C P S L hq
  exact W.lret C.1 C.2.1 C.2.2.1 (fun t ht _ => hq _ σ t ⟨v, rfl, h⟩ (by rw [ht]; exact P) (S.F ht)) S.2.2 hd.1 (hlocks := C.2.2.2.2.2.2.1)
theorem x_vret {R : Mem → Prop} (hd : mx_at cc pc .return_ 1 n) (h : R σ) : MX E K own cc nL none pc lv [] σ (mx_v R) := by
  intro p l e s m args below meth c H locs ls Qc C P S L hq
  exact W.vret C.1 C.2.1 C.2.2.1 (fun t ht _ => hq _ σ t ⟨rfl, h⟩ (by rw [ht]; exact P) (S.F ht)) S.2.2 hd.1 (hlocks := C.2.2.2.2.2.2.1)
theorem x_aret {id : Nat} {Cn : String} {R : Nat → Mem → Prop} (hd : mx_at cc pc .areturn 1 n) (h : R id σ) : MX E K own cc nL (some (.object Cn)) pc lv [mx_rf E id] σ (mx_r E R) := by
  intro p l e s m args below meth c H locs ls Qc C P S L hq
  exact W.aret C.1 C.2.1 C.2.2.1 (Or.inl ⟨_, rfl⟩) (Or.inr ⟨_, rfl⟩) (fun t ht _ => hq _ σ t ⟨id, rfl, h⟩ (by rw [ht]; exact P) (S.F ht)) S.2.2 hd.1 (hlocks := C.2.2.2.2.2.2.1)
/-- a weaker end -/
theorem MX.weak {post' : Option Value → Mem → Prop} (h : MX E K own cc nL ret pc lv st σ post) (hp : ∀ v τ, post v τ → post' v τ) : MX E K own cc nL ret pc lv st σ post' := by
  intro p l e s m args below meth c H locs ls Qc C P S L hq
  exact h p l e s m args below meth c H locs ls Qc C P S L (fun v τ t h1 => hq v τ t (hp v τ h1))
/-- calls -/
theorem mx_after {p : Program} {l : Launch} {e : Env} {R : Room} {s : State} {m : MethodId} {args : Array Value} {below : List Frame} {meth : Method} {c : Code} {H : Heap} {locs : List Loc} {Q : State → Prop} {pc' : Nat} {ls : Array Slot} {st0 rest : List Value} {a : Array Value} {post' : Option Value → Mem → Prop}
    (hr : va_Run p l e R s m args below meth c H locs 0 0 0 0 (F0 m pc' ls st0) rest (mx_Qc E post' a) (mx_A E)) (hS : va_S (mx_A E) s.heap H locs)
    (kk : ∀ (v : Option Value) (τ : Mem) (H1 : Heap) (locs1 : List Loc), post' v τ → va_P E.1 mx_cl (mx_w E τ) H1 → va_S (mx_A E) s.heap H1 locs1 → W p l e R s m args below meth c H1 locs1 0 0 Q (F0 m (pc' + 3) ls (v.toList ++ rest))) : W p l e R s m args below meth c H locs 0 0 Q (F0 m pc' ls st0) := by
  intro T hT X
  obtain ⟨v, st₀, t, T', L, h0, X', hL, e1, e2, ⟨⟨v', τ, hv, hp, hP⟩, hz, hk⟩, st⟩ := hr T hT X
  cases hv
  rw [h0] at hz hk
  obtain ⟨t2, a1, b1⟩ := kk v τ T'.heap (locs ++ L) hp (by rw [e1]; exact hP)
    ⟨Nat.le_trans hS.1 (by rw [e1]; exact hz), fun q h1 h2 => by rw [e1, hk q (Nat.lt_of_lt_of_le h1 hS.1) h2]; exact hS.2.1 q h1 h2, fun q hq => by
      rcases List.mem_append.mp hq with h | h
      · exact hS.2.2 q h
      · exact hL q h⟩ T' rfl X'
  exact ⟨t2, st t2 a1, b1⟩
theorem mx_blind {args : List Value} : FrameBlind (mx_Pc E args σ) := fun a U g mk q => by
  obtain ⟨q0, qP, qK, qD⟩ := q
  exact ⟨q0, qP, va_K.moved (u := U) (U := U.calling g mk a) (Vm.Alike.refl U.vm) qK, qD⟩
theorem x_callV {y : MethodName} {cc' : ByteArray} {nL' k' i na id ci : Nat} {ret' : Option FieldType} {As rest : List Value} {post' : Option Value → Mem → Prop} {r : vw_C} {fs : List Value} (hM : MM E k' y cc' nL' ret' (mx_rf E id :: As) σ post') (hk : k' + 1 ≤ K) (hL : nL' ≤ 17)
    (hw1 : Cond.code y cc' nL' ret' ∈ mx_tbl) (hw2 : Cond.methodLink own i y ∈ mx_tbl) (hw3 : Cond.instanceMethod y ∈ mx_tbl) (hw4 : Cond.selects y.cls y y ∈ mx_tbl) (hw5 : Cond.initialized y.cls ∈ mx_tbl)
    (hy : y.cls ≠ "java/lang/invoke/MethodHandle" ∧ y.cls ≠ "java/lang/invoke/VarHandle" ∧ (parseMethodDescriptor y.desc).map (fun d => d.parameters.length) = some na) (hn : As.length = na)
    (hid : id < 44) (he : mx_cell E σ id = .inr (ci, fs)) (hc : mx_cl[ci]? = some r) (hr : r.1 = y.cls) (hst : st = As.reverse ++ mx_rf E id :: rest) (hsm : (rest.map fun v => v.category).sum ≤ 8) (hd : mx_at cc pc (.invokevirtual i) 3 n)
    (k : ∀ (v : Option Value) (τ : Mem), post' v τ → MX E K own cc nL ret n lv (v.toList ++ rest) τ post) : MX E K own cc nL ret pc lv st σ post := by
  intro p l e s m args below meth c H locs ls Qc C P S L hq
  obtain ⟨hd, rfl⟩ := hd
  subst hst
  refine mx_after (post' := post') (va_runV (As := As) (rest := rest) (n := na) (nL := nL) (Ts := mx_tbl) (C := y.cls) ⟨C.1, C.2.1, C.2.2.2.1, C.2.2.2.2.2.1, C.2.2.2.2.1⟩ (hM l) (cwV na C.2.2.2.2.1 ?_ rfl rfl rfl ⟨rfl, hy⟩ ⟨hk, ?_⟩) ⟨mx_blind, ?_, ?_⟩ rfl hn L.1 rfl (lv_room hsm) hd ⟨Nat.le_refl _, Nat.le_refl _⟩) S ?_
  · exact mx_goodc hw2 (mx_goodc hw3 (mx_goodc hw4 (mx_goodc hw5 (mx_goodc hw1 mx_good))))
  · show 8 + (nL' + 11) + 36 * k' ≤ 36 * K
    omega
  · rw [← hr]
    exact va_recv C.2.2.2.2.2.2.2.1 P hc (q0 := id) (by rw [mx_get hid, he])
  · intro U hU hW
    exact ⟨rfl, by rw [hU]; exact P, va_K.moved hW.alike C.2.2.2.2.2.2.2.1, C.2.2.2.2.2.2.2.2⟩
  · intro v τ H1 locs1 hp P1 S1
    exact k v τ hp p l e s m args below meth c H1 locs1 ls Qc C P1 S1 L hq
theorem x_callS {y : MethodName} {cc' : ByteArray} {nL' k' i na : Nat} {ret' : Option FieldType} {As rest : List Value} {post' : Option Value → Mem → Prop} (hM : MM E k' y cc' nL' ret' As σ post') (hk : k' + 1 ≤ K) (hL : nL' ≤ 17)
    (hw1 : Cond.code y cc' nL' ret' ∈ mx_tbl) (hw2 : Cond.methodLink own i y ∈ mx_tbl) (hw3 : Cond.static y ∈ mx_tbl) (hw5 : Cond.initialized y.cls ∈ mx_tbl)
    (hy : y.cls ≠ "java/lang/invoke/MethodHandle" ∧ y.cls ≠ "java/lang/invoke/VarHandle" ∧ (parseMethodDescriptor y.desc).map (fun d => d.parameters.length) = some na) (hn : As.length = na)
    (hst : st = As.reverse ++ rest) (hsm : (rest.map fun v => v.category).sum ≤ 8) (hd : mx_at cc pc (.invokestatic i) 3 n)
    (k : ∀ (v : Option Value) (τ : Mem), post' v τ → MX E K own cc nL ret n lv (v.toList ++ rest) τ post) : MX E K own cc nL ret pc lv st σ post := by
  intro p l e s m args below meth c H locs ls Qc C P S L hq
  obtain ⟨hd, rfl⟩ := hd
  subst hst
  refine mx_after (post' := post') (va_runS (As := As) (rest := rest) (n := na) (nL := nL) (Ts := mx_tbl) (own := own) ⟨C.1, C.2.1, C.2.2.2.1, C.2.2.2.2.2.1, C.2.2.2.2.1⟩ (hM l) ⟨callB_of na C.2.2.2.2.1 (mx_goodc hw1 mx_good) rfl rfl rfl (C.2.2.2.2.1 _ hw5) (C.2.2.2.2.1 _ hw2) hy ⟨hk, ?_⟩, C.2.2.2.2.1 _ hw3⟩ ⟨mx_blind, ?_⟩ rfl hn L.1 rfl (lv_room hsm) hd ⟨Nat.le_refl _, Nat.le_refl _⟩) S ?_
  · show 8 + (nL' + 11) + 36 * k' ≤ 36 * K
    omega
  · intro U hU hW
    exact ⟨rfl, by rw [hU]; exact P, va_K.moved hW.alike C.2.2.2.2.2.2.2.1, C.2.2.2.2.2.2.2.2⟩
  · intro v τ H1 locs1 hp P1 S1
    exact k v τ hp p l e s m args below meth c H1 locs1 ls Qc C P1 S1 L hq
theorem x_min {i : Nat} {x y : Int32} (hw : Cond.methodLink own i Lib.Math.min.name ∈ mx_tbl) (hw2 : Cond.static Lib.Math.min.name ∈ mx_tbl) (hw3 : Cond.initialized "java/lang/Math" ∈ mx_tbl) (hw4 : Cond.code Lib.Math.min.name Lib.Math.min.code 2 (some .int) ∈ mx_tbl) (hk : 1 ≤ K) (hsm : (st.map fun v => v.category).sum + 13 ≤ 36) (hd : mx_at cc pc (.invokestatic i) 3 n) (k : MX E K own cc nL ret n lv (.int (if y < x then y else x) :: st) σ post) : MX E K own cc nL ret pc lv (.int y :: .int x :: st) σ post := by
  intro p l e s m args below meth c H locs ls Qc C P S L hq
  obtain ⟨hd, rfl⟩ := hd
  exact va_mmin C.1 C.2.1 (by rw [C.2.2.2.1]; exact L.1.symm) C.2.2.2.2.2.1 (C.2.2.2.2.1 _ hw) (C.2.2.2.2.1 _ hw2) (C.2.2.2.2.1 _ hw3) (C.2.2.2.2.1 _ hw4) hk (by show _ ≤ 36 * K; omega) (Nat.le_refl _) (Nat.le_refl _) hd (k p l e s m args below meth c H locs ls Qc C P S L hq)
theorem x_max {i : Nat} {x y : Int32} (hw : Cond.methodLink own i Lib.Math.max.name ∈ mx_tbl) (hw2 : Cond.static Lib.Math.max.name ∈ mx_tbl) (hw3 : Cond.initialized "java/lang/Math" ∈ mx_tbl) (hw4 : Cond.code Lib.Math.max.name Lib.Math.max.code 2 (some .int) ∈ mx_tbl) (hk : 1 ≤ K) (hsm : (st.map fun v => v.category).sum + 13 ≤ 36) (hd : mx_at cc pc (.invokestatic i) 3 n) (k : MX E K own cc nL ret n lv (.int (if x < y then y else x) :: st) σ post) : MX E K own cc nL ret pc lv (.int y :: .int x :: st) σ post := by
  intro p l e s m args below meth c H locs ls Qc C P S L hq
  obtain ⟨hd, rfl⟩ := hd
  exact va_mmax C.1 C.2.1 (by rw [C.2.2.2.1]; exact L.1.symm) C.2.2.2.2.2.1 (C.2.2.2.2.1 _ hw) (C.2.2.2.2.1 _ hw2) (C.2.2.2.2.1 _ hw3) (C.2.2.2.2.1 _ hw4) hk (by show _ ≤ 36 * K; omega) (Nat.le_refl _) (Nat.le_refl _) hd (k p l e s m args below meth c H locs ls Qc C P S L hq)
end MXR
/-- a loop upward: what holds at every i up to N, from what holds behind i -/
theorem mx_ind {P : Nat → Prop} (N : Nat) (h : ∀ i, i ≤ N → (∀ j, i < j → j ≤ N → P j) → P i) : ∀ i, i ≤ N → P i := by
  have key : ∀ d i, i ≤ N → N - i ≤ d → P i := by
    intro d
    induction d with
    | zero => intro i hi hd; exact h i hi (fun j h1 h2 => by omega)
    | succ d ih => intro i hi hd; exact h i hi (fun j h1 h2 => ih j h2 (by omega))
  exact fun i hi => key (N - i) i hi (Nat.le_refl _)
