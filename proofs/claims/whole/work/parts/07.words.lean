abbrev MX0_become (E : mx_E) (K : Nat) (args : List Value) (σ : Mem) (post : Option Value → Mem → Prop) : Prop := MM E K yX0_become cX0_become 2 none args σ post
theorem kcX0_become : Cond.code yX0_become cX0_become 2 none ∈ mx_tbl := mx_in 235 (by decide +kernel) rfl
theorem kiX0_become : Cond.instanceMethod yX0_become ∈ mx_tbl := mx_in 233 (by decide +kernel) rfl
theorem ksX0_become : Cond.selects yX0_become.cls yX0_become yX0_become ∈ mx_tbl := mx_in 234 (by decide +kernel) rfl
theorem kyX0_become : yX0_become.cls ≠ "java/lang/invoke/MethodHandle" ∧ yX0_become.cls ≠ "java/lang/invoke/VarHandle" ∧ (parseMethodDescriptor yX0_become.desc).map (fun d => d.parameters.length) = some 1 := by decide +kernel
abbrev MX0_crowd (E : mx_E) (K : Nat) (args : List Value) (σ : Mem) (post : Option Value → Mem → Prop) : Prop := MM E K yX0_crowd cX0_crowd 2 (some .int) args σ post
theorem kcX0_crowd : Cond.code yX0_crowd cX0_crowd 2 (some .int) ∈ mx_tbl := mx_in 307 (by decide +kernel) rfl
theorem kiX0_crowd : Cond.instanceMethod yX0_crowd ∈ mx_tbl := mx_in 305 (by decide +kernel) rfl
theorem ksX0_crowd : Cond.selects yX0_crowd.cls yX0_crowd yX0_crowd ∈ mx_tbl := mx_in 306 (by decide +kernel) rfl
theorem kyX0_crowd : yX0_crowd.cls ≠ "java/lang/invoke/MethodHandle" ∧ yX0_crowd.cls ≠ "java/lang/invoke/VarHandle" ∧ (parseMethodDescriptor yX0_crowd.desc).map (fun d => d.parameters.length) = some 0 := by decide +kernel
abbrev MX0_dustIn (E : mx_E) (K : Nat) (args : List Value) (σ : Mem) (post : Option Value → Mem → Prop) : Prop := MM E K yX0_dustIn cX0_dustIn 3 (some .int) args σ post
theorem kcX0_dustIn : Cond.code yX0_dustIn cX0_dustIn 3 (some .int) ∈ mx_tbl := mx_in 292 (by decide +kernel) rfl
theorem kiX0_dustIn : Cond.instanceMethod yX0_dustIn ∈ mx_tbl := mx_in 290 (by decide +kernel) rfl
theorem ksX0_dustIn : Cond.selects yX0_dustIn.cls yX0_dustIn yX0_dustIn ∈ mx_tbl := mx_in 291 (by decide +kernel) rfl
theorem kyX0_dustIn : yX0_dustIn.cls ≠ "java/lang/invoke/MethodHandle" ∧ yX0_dustIn.cls ≠ "java/lang/invoke/VarHandle" ∧ (parseMethodDescriptor yX0_dustIn.desc).map (fun d => d.parameters.length) = some 1 := by decide +kernel
abbrev MX0_burns (E : mx_E) (K : Nat) (args : List Value) (σ : Mem) (post : Option Value → Mem → Prop) : Prop := MM E K yX0_burns cX0_burns 1 (some .int) args σ post
theorem kcX0_burns : Cond.code yX0_burns cX0_burns 1 (some .int) ∈ mx_tbl := mx_in 288 (by decide +kernel) rfl
theorem kiX0_burns : Cond.instanceMethod yX0_burns ∈ mx_tbl := mx_in 286 (by decide +kernel) rfl
theorem ksX0_burns : Cond.selects yX0_burns.cls yX0_burns yX0_burns ∈ mx_tbl := mx_in 287 (by decide +kernel) rfl
theorem kyX0_burns : yX0_burns.cls ≠ "java/lang/invoke/MethodHandle" ∧ yX0_burns.cls ≠ "java/lang/invoke/VarHandle" ∧ (parseMethodDescriptor yX0_burns.desc).map (fun d => d.parameters.length) = some 0 := by decide +kernel
abbrev MX0_childFrom (E : mx_E) (K : Nat) (args : List Value) (σ : Mem) (post : Option Value → Mem → Prop) : Prop := MM E K yX0_childFrom cX0_childFrom 3 (some .int) args σ post
theorem kcX0_childFrom : Cond.code yX0_childFrom cX0_childFrom 3 (some .int) ∈ mx_tbl := mx_in 311 (by decide +kernel) rfl
theorem kiX0_childFrom : Cond.instanceMethod yX0_childFrom ∈ mx_tbl := mx_in 309 (by decide +kernel) rfl
theorem ksX0_childFrom : Cond.selects yX0_childFrom.cls yX0_childFrom yX0_childFrom ∈ mx_tbl := mx_in 310 (by decide +kernel) rfl
theorem kyX0_childFrom : yX0_childFrom.cls ≠ "java/lang/invoke/MethodHandle" ∧ yX0_childFrom.cls ≠ "java/lang/invoke/VarHandle" ∧ (parseMethodDescriptor yX0_childFrom.desc).map (fun d => d.parameters.length) = some 0 := by decide +kernel
abbrev MX0_childIsFound (E : mx_E) (K : Nat) (args : List Value) (σ : Mem) (post : Option Value → Mem → Prop) : Prop := MM E K yX0_childIsFound cX0_childIsFound 1 (some .boolean) args σ post
theorem kcX0_childIsFound : Cond.code yX0_childIsFound cX0_childIsFound 1 (some .boolean) ∈ mx_tbl := mx_in 303 (by decide +kernel) rfl
theorem kiX0_childIsFound : Cond.instanceMethod yX0_childIsFound ∈ mx_tbl := mx_in 301 (by decide +kernel) rfl
theorem ksX0_childIsFound : Cond.selects yX0_childIsFound.cls yX0_childIsFound yX0_childIsFound ∈ mx_tbl := mx_in 302 (by decide +kernel) rfl
theorem kyX0_childIsFound : yX0_childIsFound.cls ≠ "java/lang/invoke/MethodHandle" ∧ yX0_childIsFound.cls ≠ "java/lang/invoke/VarHandle" ∧ (parseMethodDescriptor yX0_childIsFound.desc).map (fun d => d.parameters.length) = some 0 := by decide +kernel
abbrev MX0_addDust (E : mx_E) (K : Nat) (args : List Value) (σ : Mem) (post : Option Value → Mem → Prop) : Prop := MM E K yX0_addDust cX0_addDust 2 none args σ post
theorem kcX0_addDust : Cond.code yX0_addDust cX0_addDust 2 none ∈ mx_tbl := mx_in 296 (by decide +kernel) rfl
theorem kiX0_addDust : Cond.instanceMethod yX0_addDust ∈ mx_tbl := mx_in 294 (by decide +kernel) rfl
theorem ksX0_addDust : Cond.selects yX0_addDust.cls yX0_addDust yX0_addDust ∈ mx_tbl := mx_in 295 (by decide +kernel) rfl
theorem kyX0_addDust : yX0_addDust.cls ≠ "java/lang/invoke/MethodHandle" ∧ yX0_addDust.cls ≠ "java/lang/invoke/VarHandle" ∧ (parseMethodDescriptor yX0_addDust.desc).map (fun d => d.parameters.length) = some 1 := by decide +kernel
abbrev MX0_dent (E : mx_E) (K : Nat) (args : List Value) (σ : Mem) (post : Option Value → Mem → Prop) : Prop := MM E K yX0_dent cX0_dent 1 none args σ post
theorem kcX0_dent : Cond.code yX0_dent cX0_dent 1 none ∈ mx_tbl := mx_in 315 (by decide +kernel) rfl
theorem kiX0_dent : Cond.instanceMethod yX0_dent ∈ mx_tbl := mx_in 313 (by decide +kernel) rfl
theorem ksX0_dent : Cond.selects yX0_dent.cls yX0_dent yX0_dent ∈ mx_tbl := mx_in 314 (by decide +kernel) rfl
theorem kyX0_dent : yX0_dent.cls ≠ "java/lang/invoke/MethodHandle" ∧ yX0_dent.cls ≠ "java/lang/invoke/VarHandle" ∧ (parseMethodDescriptor yX0_dent.desc).map (fun d => d.parameters.length) = some 0 := by decide +kernel
abbrev MX0_letTheRoom (E : mx_E) (K : Nat) (args : List Value) (σ : Mem) (post : Option Value → Mem → Prop) : Prop := MM E K yX0_letTheRoom cX0_letTheRoom 1 none args σ post
theorem kcX0_letTheRoom : Cond.code yX0_letTheRoom cX0_letTheRoom 1 none ∈ mx_tbl := mx_in 511 (by decide +kernel) rfl
theorem kiX0_letTheRoom : Cond.instanceMethod yX0_letTheRoom ∈ mx_tbl := mx_in 509 (by decide +kernel) rfl
theorem ksX0_letTheRoom : Cond.selects yX0_letTheRoom.cls yX0_letTheRoom yX0_letTheRoom ∈ mx_tbl := mx_in 510 (by decide +kernel) rfl
theorem kyX0_letTheRoom : yX0_letTheRoom.cls ≠ "java/lang/invoke/MethodHandle" ∧ yX0_letTheRoom.cls ≠ "java/lang/invoke/VarHandle" ∧ (parseMethodDescriptor yX0_letTheRoom.desc).map (fun d => d.parameters.length) = some 0 := by decide +kernel
abbrev MX0_spendWeek (E : mx_E) (K : Nat) (args : List Value) (σ : Mem) (post : Option Value → Mem → Prop) : Prop := MM E K yX0_spendWeek cX0_spendWeek 5 (some .int) args σ post
theorem kcX0_spendWeek : Cond.code yX0_spendWeek cX0_spendWeek 5 (some .int) ∈ mx_tbl := mx_in 284 (by decide +kernel) rfl
theorem kiX0_spendWeek : Cond.instanceMethod yX0_spendWeek ∈ mx_tbl := mx_in 282 (by decide +kernel) rfl
theorem ksX0_spendWeek : Cond.selects yX0_spendWeek.cls yX0_spendWeek yX0_spendWeek ∈ mx_tbl := mx_in 283 (by decide +kernel) rfl
theorem kyX0_spendWeek : yX0_spendWeek.cls ≠ "java/lang/invoke/MethodHandle" ∧ yX0_spendWeek.cls ≠ "java/lang/invoke/VarHandle" ∧ (parseMethodDescriptor yX0_spendWeek.desc).map (fun d => d.parameters.length) = some 2 := by decide +kernel
abbrev MX1_isFull (E : mx_E) (K : Nat) (args : List Value) (σ : Mem) (post : Option Value → Mem → Prop) : Prop := MM E K yX1_isFull cX1_isFull 1 (some .boolean) args σ post
theorem kcX1_isFull : Cond.code yX1_isFull cX1_isFull 1 (some .boolean) ∈ mx_tbl := mx_in 194 (by decide +kernel) rfl
theorem kiX1_isFull : Cond.instanceMethod yX1_isFull ∈ mx_tbl := mx_in 192 (by decide +kernel) rfl
theorem ksX1_isFull : Cond.selects yX1_isFull.cls yX1_isFull yX1_isFull ∈ mx_tbl := mx_in 193 (by decide +kernel) rfl
theorem kyX1_isFull : yX1_isFull.cls ≠ "java/lang/invoke/MethodHandle" ∧ yX1_isFull.cls ≠ "java/lang/invoke/VarHandle" ∧ (parseMethodDescriptor yX1_isFull.desc).map (fun d => d.parameters.length) = some 0 := by decide +kernel
abbrev MX1_add (E : mx_E) (K : Nat) (args : List Value) (σ : Mem) (post : Option Value → Mem → Prop) : Prop := MM E K yX1_add cX1_add 2 none args σ post
theorem kcX1_add : Cond.code yX1_add cX1_add 2 none ∈ mx_tbl := mx_in 198 (by decide +kernel) rfl
theorem kiX1_add : Cond.instanceMethod yX1_add ∈ mx_tbl := mx_in 196 (by decide +kernel) rfl
theorem ksX1_add : Cond.selects yX1_add.cls yX1_add yX1_add ∈ mx_tbl := mx_in 197 (by decide +kernel) rfl
theorem kyX1_add : yX1_add.cls ≠ "java/lang/invoke/MethodHandle" ∧ yX1_add.cls ≠ "java/lang/invoke/VarHandle" ∧ (parseMethodDescriptor yX1_add.desc).map (fun d => d.parameters.length) = some 1 := by decide +kernel
abbrev MX1_at (E : mx_E) (K : Nat) (args : List Value) (σ : Mem) (post : Option Value → Mem → Prop) : Prop := MM E K yX1_at cX1_at 2 (some .int) args σ post
theorem kcX1_at : Cond.code yX1_at cX1_at 2 (some .int) ∈ mx_tbl := mx_in 210 (by decide +kernel) rfl
theorem kiX1_at : Cond.instanceMethod yX1_at ∈ mx_tbl := mx_in 208 (by decide +kernel) rfl
theorem ksX1_at : Cond.selects yX1_at.cls yX1_at yX1_at ∈ mx_tbl := mx_in 209 (by decide +kernel) rfl
theorem kyX1_at : yX1_at.cls ≠ "java/lang/invoke/MethodHandle" ∧ yX1_at.cls ≠ "java/lang/invoke/VarHandle" ∧ (parseMethodDescriptor yX1_at.desc).map (fun d => d.parameters.length) = some 1 := by decide +kernel
abbrev MX1_drop (E : mx_E) (K : Nat) (args : List Value) (σ : Mem) (post : Option Value → Mem → Prop) : Prop := MM E K yX1_drop cX1_drop 1 none args σ post
theorem kcX1_drop : Cond.code yX1_drop cX1_drop 1 none ∈ mx_tbl := mx_in 332 (by decide +kernel) rfl
theorem kiX1_drop : Cond.instanceMethod yX1_drop ∈ mx_tbl := mx_in 330 (by decide +kernel) rfl
theorem ksX1_drop : Cond.selects yX1_drop.cls yX1_drop yX1_drop ∈ mx_tbl := mx_in 331 (by decide +kernel) rfl
theorem kyX1_drop : yX1_drop.cls ≠ "java/lang/invoke/MethodHandle" ∧ yX1_drop.cls ≠ "java/lang/invoke/VarHandle" ∧ (parseMethodDescriptor yX1_drop.desc).map (fun d => d.parameters.length) = some 0 := by decide +kernel
abbrev MX2_has (E : mx_E) (K : Nat) (args : List Value) (σ : Mem) (post : Option Value → Mem → Prop) : Prop := MM E K yX2_has cX2_has 2 (some .boolean) args σ post
theorem kcX2_has : Cond.code yX2_has cX2_has 2 (some .boolean) ∈ mx_tbl := mx_in 259 (by decide +kernel) rfl
theorem kiX2_has : Cond.instanceMethod yX2_has ∈ mx_tbl := mx_in 257 (by decide +kernel) rfl
theorem ksX2_has : Cond.selects yX2_has.cls yX2_has yX2_has ∈ mx_tbl := mx_in 258 (by decide +kernel) rfl
theorem kyX2_has : yX2_has.cls ≠ "java/lang/invoke/MethodHandle" ∧ yX2_has.cls ≠ "java/lang/invoke/VarHandle" ∧ (parseMethodDescriptor yX2_has.desc).map (fun d => d.parameters.length) = some 1 := by decide +kernel
abbrev MX2_at (E : mx_E) (K : Nat) (args : List Value) (σ : Mem) (post : Option Value → Mem → Prop) : Prop := MM E K yX2_at cX2_at 2 (some (.object "RoomToSpare$House")) args σ post
theorem kcX2_at : Cond.code yX2_at cX2_at 2 (some (.object "RoomToSpare$House")) ∈ mx_tbl := mx_in 231 (by decide +kernel) rfl
theorem kiX2_at : Cond.instanceMethod yX2_at ∈ mx_tbl := mx_in 229 (by decide +kernel) rfl
theorem ksX2_at : Cond.selects yX2_at.cls yX2_at yX2_at ∈ mx_tbl := mx_in 230 (by decide +kernel) rfl
theorem kyX2_at : yX2_at.cls ≠ "java/lang/invoke/MethodHandle" ∧ yX2_at.cls ≠ "java/lang/invoke/VarHandle" ∧ (parseMethodDescriptor yX2_at.desc).map (fun d => d.parameters.length) = some 1 := by decide +kernel
abbrev MX2_become (E : mx_E) (K : Nat) (args : List Value) (σ : Mem) (post : Option Value → Mem → Prop) : Prop := MM E K yX2_become cX2_become 3 none args σ post
theorem kcX2_become : Cond.code yX2_become cX2_become 3 none ∈ mx_tbl := mx_in 227 (by decide +kernel) rfl
theorem kiX2_become : Cond.instanceMethod yX2_become ∈ mx_tbl := mx_in 225 (by decide +kernel) rfl
theorem ksX2_become : Cond.selects yX2_become.cls yX2_become yX2_become ∈ mx_tbl := mx_in 226 (by decide +kernel) rfl
theorem kyX2_become : yX2_become.cls ≠ "java/lang/invoke/MethodHandle" ∧ yX2_become.cls ≠ "java/lang/invoke/VarHandle" ∧ (parseMethodDescriptor yX2_become.desc).map (fun d => d.parameters.length) = some 1 := by decide +kernel
abbrev MX2_build (E : mx_E) (K : Nat) (args : List Value) (σ : Mem) (post : Option Value → Mem → Prop) : Prop := MM E K yX2_build cX2_build 6 none args σ post
theorem kcX2_build : Cond.code yX2_build cX2_build 6 none ∈ mx_tbl := mx_in 251 (by decide +kernel) rfl
theorem kiX2_build : Cond.instanceMethod yX2_build ∈ mx_tbl := mx_in 249 (by decide +kernel) rfl
theorem ksX2_build : Cond.selects yX2_build.cls yX2_build yX2_build ∈ mx_tbl := mx_in 250 (by decide +kernel) rfl
theorem kyX2_build : yX2_build.cls ≠ "java/lang/invoke/MethodHandle" ∧ yX2_build.cls ≠ "java/lang/invoke/VarHandle" ∧ (parseMethodDescriptor yX2_build.desc).map (fun d => d.parameters.length) = some 4 := by decide +kernel
abbrev MX2_pass (E : mx_E) (K : Nat) (args : List Value) (σ : Mem) (post : Option Value → Mem → Prop) : Prop := MM E K yX2_pass cX2_pass 5 none args σ post
theorem kcX2_pass : Cond.code yX2_pass cX2_pass 5 none ∈ mx_tbl := mx_in 280 (by decide +kernel) rfl
theorem kiX2_pass : Cond.instanceMethod yX2_pass ∈ mx_tbl := mx_in 278 (by decide +kernel) rfl
theorem ksX2_pass : Cond.selects yX2_pass.cls yX2_pass yX2_pass ∈ mx_tbl := mx_in 279 (by decide +kernel) rfl
theorem kyX2_pass : yX2_pass.cls ≠ "java/lang/invoke/MethodHandle" ∧ yX2_pass.cls ≠ "java/lang/invoke/VarHandle" ∧ (parseMethodDescriptor yX2_pass.desc).map (fun d => d.parameters.length) = some 1 := by decide +kernel
abbrev MX2_inspect (E : mx_E) (K : Nat) (args : List Value) (σ : Mem) (post : Option Value → Mem → Prop) : Prop := MM E K yX2_inspect cX2_inspect 2 none args σ post
theorem kcX2_inspect : Cond.code yX2_inspect cX2_inspect 2 none ∈ mx_tbl := mx_in 319 (by decide +kernel) rfl
theorem kiX2_inspect : Cond.instanceMethod yX2_inspect ∈ mx_tbl := mx_in 318 (by decide +kernel) rfl
theorem ksX2_inspect : Cond.selects yX2_inspect.cls yX2_inspect yX2_inspect ∈ mx_tbl := mx_in 11 (by decide +kernel) rfl
theorem kyX2_inspect : yX2_inspect.cls ≠ "java/lang/invoke/MethodHandle" ∧ yX2_inspect.cls ≠ "java/lang/invoke/VarHandle" ∧ (parseMethodDescriptor yX2_inspect.desc).map (fun d => d.parameters.length) = some 0 := by decide +kernel
abbrev MX2_lose (E : mx_E) (K : Nat) (args : List Value) (σ : Mem) (post : Option Value → Mem → Prop) : Prop := MM E K yX2_lose cX2_lose 4 none args σ post
theorem kcX2_lose : Cond.code yX2_lose cX2_lose 4 none ∈ mx_tbl := mx_in 327 (by decide +kernel) rfl
theorem kiX2_lose : Cond.instanceMethod yX2_lose ∈ mx_tbl := mx_in 326 (by decide +kernel) rfl
theorem ksX2_lose : Cond.selects yX2_lose.cls yX2_lose yX2_lose ∈ mx_tbl := mx_in 12 (by decide +kernel) rfl
theorem kyX2_lose : yX2_lose.cls ≠ "java/lang/invoke/MethodHandle" ∧ yX2_lose.cls ≠ "java/lang/invoke/VarHandle" ∧ (parseMethodDescriptor yX2_lose.desc).map (fun d => d.parameters.length) = some 2 := by decide +kernel
abbrev MX2_nextKept (E : mx_E) (K : Nat) (args : List Value) (σ : Mem) (post : Option Value → Mem → Prop) : Prop := MM E K yX2_nextKept cX2_nextKept 4 (some .int) args σ post
theorem kcX2_nextKept : Cond.code yX2_nextKept cX2_nextKept 4 (some .int) ∈ mx_tbl := mx_in 323 (by decide +kernel) rfl
theorem kiX2_nextKept : Cond.instanceMethod yX2_nextKept ∈ mx_tbl := mx_in 321 (by decide +kernel) rfl
theorem ksX2_nextKept : Cond.selects yX2_nextKept.cls yX2_nextKept yX2_nextKept ∈ mx_tbl := mx_in 322 (by decide +kernel) rfl
theorem kyX2_nextKept : yX2_nextKept.cls ≠ "java/lang/invoke/MethodHandle" ∧ yX2_nextKept.cls ≠ "java/lang/invoke/VarHandle" ∧ (parseMethodDescriptor yX2_nextKept.desc).map (fun d => d.parameters.length) = some 1 := by decide +kernel
abbrev MX2_keptBits (E : mx_E) (K : Nat) (args : List Value) (σ : Mem) (post : Option Value → Mem → Prop) : Prop := MM E K yX2_keptBits cX2_keptBits 3 (some .int) args σ post
theorem kcX2_keptBits : Cond.code yX2_keptBits cX2_keptBits 3 (some .int) ∈ mx_tbl := mx_in 378 (by decide +kernel) rfl
theorem kiX2_keptBits : Cond.instanceMethod yX2_keptBits ∈ mx_tbl := mx_in 376 (by decide +kernel) rfl
theorem ksX2_keptBits : Cond.selects yX2_keptBits.cls yX2_keptBits yX2_keptBits ∈ mx_tbl := mx_in 377 (by decide +kernel) rfl
theorem kyX2_keptBits : yX2_keptBits.cls ≠ "java/lang/invoke/MethodHandle" ∧ yX2_keptBits.cls ≠ "java/lang/invoke/VarHandle" ∧ (parseMethodDescriptor yX2_keptBits.desc).map (fun d => d.parameters.length) = some 0 := by decide +kernel
abbrev MX2_howManyKept (E : mx_E) (K : Nat) (args : List Value) (σ : Mem) (post : Option Value → Mem → Prop) : Prop := MM E K yX2_howManyKept cX2_howManyKept 1 (some .int) args σ post
theorem kcX2_howManyKept : Cond.code yX2_howManyKept cX2_howManyKept 1 (some .int) ∈ mx_tbl := mx_in 374 (by decide +kernel) rfl
theorem kiX2_howManyKept : Cond.instanceMethod yX2_howManyKept ∈ mx_tbl := mx_in 372 (by decide +kernel) rfl
theorem ksX2_howManyKept : Cond.selects yX2_howManyKept.cls yX2_howManyKept yX2_howManyKept ∈ mx_tbl := mx_in 373 (by decide +kernel) rfl
theorem kyX2_howManyKept : yX2_howManyKept.cls ≠ "java/lang/invoke/MethodHandle" ∧ yX2_howManyKept.cls ≠ "java/lang/invoke/VarHandle" ∧ (parseMethodDescriptor yX2_howManyKept.desc).map (fun d => d.parameters.length) = some 0 := by decide +kernel
abbrev MX2_emptyBits (E : mx_E) (K : Nat) (args : List Value) (σ : Mem) (post : Option Value → Mem → Prop) : Prop := MM E K yX2_emptyBits cX2_emptyBits 3 (some .int) args σ post
theorem kcX2_emptyBits : Cond.code yX2_emptyBits cX2_emptyBits 3 (some .int) ∈ mx_tbl := mx_in 494 (by decide +kernel) rfl
theorem kiX2_emptyBits : Cond.instanceMethod yX2_emptyBits ∈ mx_tbl := mx_in 492 (by decide +kernel) rfl
theorem ksX2_emptyBits : Cond.selects yX2_emptyBits.cls yX2_emptyBits yX2_emptyBits ∈ mx_tbl := mx_in 493 (by decide +kernel) rfl
theorem kyX2_emptyBits : yX2_emptyBits.cls ≠ "java/lang/invoke/MethodHandle" ∧ yX2_emptyBits.cls ≠ "java/lang/invoke/VarHandle" ∧ (parseMethodDescriptor yX2_emptyBits.desc).map (fun d => d.parameters.length) = some 0 := by decide +kernel
abbrev MX2_crowdedBits (E : mx_E) (K : Nat) (args : List Value) (σ : Mem) (post : Option Value → Mem → Prop) : Prop := MM E K yX2_crowdedBits cX2_crowdedBits 3 (some .int) args σ post
theorem kcX2_crowdedBits : Cond.code yX2_crowdedBits cX2_crowdedBits 3 (some .int) ∈ mx_tbl := mx_in 498 (by decide +kernel) rfl
theorem kiX2_crowdedBits : Cond.instanceMethod yX2_crowdedBits ∈ mx_tbl := mx_in 496 (by decide +kernel) rfl
theorem ksX2_crowdedBits : Cond.selects yX2_crowdedBits.cls yX2_crowdedBits yX2_crowdedBits ∈ mx_tbl := mx_in 497 (by decide +kernel) rfl
theorem kyX2_crowdedBits : yX2_crowdedBits.cls ≠ "java/lang/invoke/MethodHandle" ∧ yX2_crowdedBits.cls ≠ "java/lang/invoke/VarHandle" ∧ (parseMethodDescriptor yX2_crowdedBits.desc).map (fun d => d.parameters.length) = some 0 := by decide +kernel
abbrev MX2_allPeople (E : mx_E) (K : Nat) (args : List Value) (σ : Mem) (post : Option Value → Mem → Prop) : Prop := MM E K yX2_allPeople cX2_allPeople 3 (some .int) args σ post
theorem kcX2_allPeople : Cond.code yX2_allPeople cX2_allPeople 3 (some .int) ∈ mx_tbl := mx_in 542 (by decide +kernel) rfl
theorem kiX2_allPeople : Cond.instanceMethod yX2_allPeople ∈ mx_tbl := mx_in 540 (by decide +kernel) rfl
theorem ksX2_allPeople : Cond.selects yX2_allPeople.cls yX2_allPeople yX2_allPeople ∈ mx_tbl := mx_in 541 (by decide +kernel) rfl
theorem kyX2_allPeople : yX2_allPeople.cls ≠ "java/lang/invoke/MethodHandle" ∧ yX2_allPeople.cls ≠ "java/lang/invoke/VarHandle" ∧ (parseMethodDescriptor yX2_allPeople.desc).map (fun d => d.parameters.length) = some 0 := by decide +kernel
abbrev MX2_burnsInAWeek (E : mx_E) (K : Nat) (args : List Value) (σ : Mem) (post : Option Value → Mem → Prop) : Prop := MM E K yX2_burnsInAWeek cX2_burnsInAWeek 3 (some .int) args σ post
theorem kcX2_burnsInAWeek : Cond.code yX2_burnsInAWeek cX2_burnsInAWeek 3 (some .int) ∈ mx_tbl := mx_in 416 (by decide +kernel) rfl
theorem kiX2_burnsInAWeek : Cond.instanceMethod yX2_burnsInAWeek ∈ mx_tbl := mx_in 414 (by decide +kernel) rfl
theorem ksX2_burnsInAWeek : Cond.selects yX2_burnsInAWeek.cls yX2_burnsInAWeek yX2_burnsInAWeek ∈ mx_tbl := mx_in 415 (by decide +kernel) rfl
theorem kyX2_burnsInAWeek : yX2_burnsInAWeek.cls ≠ "java/lang/invoke/MethodHandle" ∧ yX2_burnsInAWeek.cls ≠ "java/lang/invoke/VarHandle" ∧ (parseMethodDescriptor yX2_burnsInAWeek.desc).map (fun d => d.parameters.length) = some 0 := by decide +kernel
abbrev MX2_roomForMore (E : mx_E) (K : Nat) (args : List Value) (σ : Mem) (post : Option Value → Mem → Prop) : Prop := MM E K yX2_roomForMore cX2_roomForMore 4 (some .int) args σ post
theorem kcX2_roomForMore : Cond.code yX2_roomForMore cX2_roomForMore 4 (some .int) ∈ mx_tbl := mx_in 463 (by decide +kernel) rfl
theorem kiX2_roomForMore : Cond.instanceMethod yX2_roomForMore ∈ mx_tbl := mx_in 461 (by decide +kernel) rfl
theorem ksX2_roomForMore : Cond.selects yX2_roomForMore.cls yX2_roomForMore yX2_roomForMore ∈ mx_tbl := mx_in 462 (by decide +kernel) rfl
theorem kyX2_roomForMore : yX2_roomForMore.cls ≠ "java/lang/invoke/MethodHandle" ∧ yX2_roomForMore.cls ≠ "java/lang/invoke/VarHandle" ∧ (parseMethodDescriptor yX2_roomForMore.desc).map (fun d => d.parameters.length) = some 0 := by decide +kernel
abbrev MX2_fullest (E : mx_E) (K : Nat) (args : List Value) (σ : Mem) (post : Option Value → Mem → Prop) : Prop := MM E K yX2_fullest cX2_fullest 3 (some .int) args σ post
theorem kcX2_fullest : Cond.code yX2_fullest cX2_fullest 3 (some .int) ∈ mx_tbl := mx_in 468 (by decide +kernel) rfl
theorem kiX2_fullest : Cond.instanceMethod yX2_fullest ∈ mx_tbl := mx_in 466 (by decide +kernel) rfl
theorem ksX2_fullest : Cond.selects yX2_fullest.cls yX2_fullest yX2_fullest ∈ mx_tbl := mx_in 467 (by decide +kernel) rfl
theorem kyX2_fullest : yX2_fullest.cls ≠ "java/lang/invoke/MethodHandle" ∧ yX2_fullest.cls ≠ "java/lang/invoke/VarHandle" ∧ (parseMethodDescriptor yX2_fullest.desc).map (fun d => d.parameters.length) = some 0 := by decide +kernel
abbrev MX2_dustiest (E : mx_E) (K : Nat) (args : List Value) (σ : Mem) (post : Option Value → Mem → Prop) : Prop := MM E K yX2_dustiest cX2_dustiest 3 (some .int) args σ post
theorem kcX2_dustiest : Cond.code yX2_dustiest cX2_dustiest 3 (some .int) ∈ mx_tbl := mx_in 472 (by decide +kernel) rfl
theorem kiX2_dustiest : Cond.instanceMethod yX2_dustiest ∈ mx_tbl := mx_in 470 (by decide +kernel) rfl
theorem ksX2_dustiest : Cond.selects yX2_dustiest.cls yX2_dustiest yX2_dustiest ∈ mx_tbl := mx_in 471 (by decide +kernel) rfl
theorem kyX2_dustiest : yX2_dustiest.cls ≠ "java/lang/invoke/MethodHandle" ∧ yX2_dustiest.cls ≠ "java/lang/invoke/VarHandle" ∧ (parseMethodDescriptor yX2_dustiest.desc).map (fun d => d.parameters.length) = some 0 := by decide +kernel
abbrev MX2_longestRunOfLost (E : mx_E) (K : Nat) (args : List Value) (σ : Mem) (post : Option Value → Mem → Prop) : Prop := MM E K yX2_longestRunOfLost cX2_longestRunOfLost 4 (some .int) args σ post
theorem kcX2_longestRunOfLost : Cond.code yX2_longestRunOfLost cX2_longestRunOfLost 4 (some .int) ∈ mx_tbl := mx_in 489 (by decide +kernel) rfl
theorem kiX2_longestRunOfLost : Cond.instanceMethod yX2_longestRunOfLost ∈ mx_tbl := mx_in 487 (by decide +kernel) rfl
theorem ksX2_longestRunOfLost : Cond.selects yX2_longestRunOfLost.cls yX2_longestRunOfLost yX2_longestRunOfLost ∈ mx_tbl := mx_in 488 (by decide +kernel) rfl
theorem kyX2_longestRunOfLost : yX2_longestRunOfLost.cls ≠ "java/lang/invoke/MethodHandle" ∧ yX2_longestRunOfLost.cls ≠ "java/lang/invoke/VarHandle" ∧ (parseMethodDescriptor yX2_longestRunOfLost.desc).map (fun d => d.parameters.length) = some 0 := by decide +kernel
abbrev MX3_letter (E : mx_E) (K : Nat) (args : List Value) (σ : Mem) (post : Option Value → Mem → Prop) : Prop := MM E K yX3_letter cX3_letter 2 (some .int) args σ post
theorem kcX3_letter : Cond.code yX3_letter cX3_letter 2 (some .int) ∈ mx_tbl := mx_in 186 (by decide +kernel) rfl
theorem kiX3_letter : Cond.instanceMethod yX3_letter ∈ mx_tbl := mx_in 184 (by decide +kernel) rfl
theorem ksX3_letter : Cond.selects yX3_letter.cls yX3_letter yX3_letter ∈ mx_tbl := mx_in 185 (by decide +kernel) rfl
theorem kyX3_letter : yX3_letter.cls ≠ "java/lang/invoke/MethodHandle" ∧ yX3_letter.cls ≠ "java/lang/invoke/VarHandle" ∧ (parseMethodDescriptor yX3_letter.desc).map (fun d => d.parameters.length) = some 1 := by decide +kernel
abbrev MX3_town (E : mx_E) (K : Nat) (args : List Value) (σ : Mem) (post : Option Value → Mem → Prop) : Prop := MM E K yX3_town cX3_town 3 (some .int) args σ post
theorem kcX3_town : Cond.code yX3_town cX3_town 3 (some .int) ∈ mx_tbl := mx_in 202 (by decide +kernel) rfl
theorem kiX3_town : Cond.instanceMethod yX3_town ∈ mx_tbl := mx_in 200 (by decide +kernel) rfl
theorem ksX3_town : Cond.selects yX3_town.cls yX3_town yX3_town ∈ mx_tbl := mx_in 201 (by decide +kernel) rfl
theorem kyX3_town : yX3_town.cls ≠ "java/lang/invoke/MethodHandle" ∧ yX3_town.cls ≠ "java/lang/invoke/VarHandle" ∧ (parseMethodDescriptor yX3_town.desc).map (fun d => d.parameters.length) = some 0 := by decide +kernel
abbrev MX3_readStatements (E : mx_E) (K : Nat) (args : List Value) (σ : Mem) (post : Option Value → Mem → Prop) : Prop := MM E K yX3_readStatements cX3_readStatements 3 (some .int) args σ post
theorem kcX3_readStatements : Cond.code yX3_readStatements cX3_readStatements 3 (some .int) ∈ mx_tbl := mx_in 223 (by decide +kernel) rfl
theorem kiX3_readStatements : Cond.instanceMethod yX3_readStatements ∈ mx_tbl := mx_in 222 (by decide +kernel) rfl
theorem ksX3_readStatements : Cond.selects yX3_readStatements.cls yX3_readStatements yX3_readStatements ∈ mx_tbl := mx_in 2 (by decide +kernel) rfl
theorem kyX3_readStatements : yX3_readStatements.cls ≠ "java/lang/invoke/MethodHandle" ∧ yX3_readStatements.cls ≠ "java/lang/invoke/VarHandle" ∧ (parseMethodDescriptor yX3_readStatements.desc).map (fun d => d.parameters.length) = some 0 := by decide +kernel
abbrev MX3_brokenPlace (E : mx_E) (K : Nat) (args : List Value) (σ : Mem) (post : Option Value → Mem → Prop) : Prop := MM E K yX3_brokenPlace cX3_brokenPlace 3 (some .int) args σ post
theorem kcX3_brokenPlace : Cond.code yX3_brokenPlace cX3_brokenPlace 3 (some .int) ∈ mx_tbl := mx_in 206 (by decide +kernel) rfl
theorem kiX3_brokenPlace : Cond.instanceMethod yX3_brokenPlace ∈ mx_tbl := mx_in 205 (by decide +kernel) rfl
theorem ksX3_brokenPlace : Cond.selects yX3_brokenPlace.cls yX3_brokenPlace yX3_brokenPlace ∈ mx_tbl := mx_in 1 (by decide +kernel) rfl
theorem kyX3_brokenPlace : yX3_brokenPlace.cls ≠ "java/lang/invoke/MethodHandle" ∧ yX3_brokenPlace.cls ≠ "java/lang/invoke/VarHandle" ∧ (parseMethodDescriptor yX3_brokenPlace.desc).map (fun d => d.parameters.length) = some 0 := by decide +kernel
abbrev MX3_waitsBehind (E : mx_E) (K : Nat) (args : List Value) (σ : Mem) (post : Option Value → Mem → Prop) : Prop := MM E K yX3_waitsBehind cX3_waitsBehind 2 (some .int) args σ post
theorem kcX3_waitsBehind : Cond.code yX3_waitsBehind cX3_waitsBehind 2 (some .int) ∈ mx_tbl := mx_in 213 (by decide +kernel) rfl
theorem ktX3_waitsBehind : Cond.static yX3_waitsBehind ∈ mx_tbl := mx_in 212 (by decide +kernel) rfl
theorem kyX3_waitsBehind : yX3_waitsBehind.cls ≠ "java/lang/invoke/MethodHandle" ∧ yX3_waitsBehind.cls ≠ "java/lang/invoke/VarHandle" ∧ (parseMethodDescriptor yX3_waitsBehind.desc).map (fun d => d.parameters.length) = some 2 := by decide +kernel
abbrev MX3_waitsBehindFirst (E : mx_E) (K : Nat) (args : List Value) (σ : Mem) (post : Option Value → Mem → Prop) : Prop := MM E K yX3_waitsBehindFirst cX3_waitsBehindFirst 1 (some .int) args σ post
theorem kcX3_waitsBehindFirst : Cond.code yX3_waitsBehindFirst cX3_waitsBehindFirst 1 (some .int) ∈ mx_tbl := mx_in 216 (by decide +kernel) rfl
theorem ktX3_waitsBehindFirst : Cond.static yX3_waitsBehindFirst ∈ mx_tbl := mx_in 215 (by decide +kernel) rfl
theorem kyX3_waitsBehindFirst : yX3_waitsBehindFirst.cls ≠ "java/lang/invoke/MethodHandle" ∧ yX3_waitsBehindFirst.cls ≠ "java/lang/invoke/VarHandle" ∧ (parseMethodDescriptor yX3_waitsBehindFirst.desc).map (fun d => d.parameters.length) = some 1 := by decide +kernel
abbrev MX3_kindOf (E : mx_E) (K : Nat) (args : List Value) (σ : Mem) (post : Option Value → Mem → Prop) : Prop := MM E K yX3_kindOf cX3_kindOf 1 (some .int) args σ post
theorem kcX3_kindOf : Cond.code yX3_kindOf cX3_kindOf 1 (some .int) ∈ mx_tbl := mx_in 219 (by decide +kernel) rfl
theorem ktX3_kindOf : Cond.static yX3_kindOf ∈ mx_tbl := mx_in 218 (by decide +kernel) rfl
theorem kyX3_kindOf : yX3_kindOf.cls ≠ "java/lang/invoke/MethodHandle" ∧ yX3_kindOf.cls ≠ "java/lang/invoke/VarHandle" ∧ (parseMethodDescriptor yX3_kindOf.desc).map (fun d => d.parameters.length) = some 1 := by decide +kernel
abbrev MX3_comes (E : mx_E) (K : Nat) (args : List Value) (σ : Mem) (post : Option Value → Mem → Prop) : Prop := MM E K yX3_comes cX3_comes 2 (some .boolean) args σ post
theorem kcX3_comes : Cond.code yX3_comes cX3_comes 2 (some .boolean) ∈ mx_tbl := mx_in 239 (by decide +kernel) rfl
theorem kiX3_comes : Cond.instanceMethod yX3_comes ∈ mx_tbl := mx_in 238 (by decide +kernel) rfl
theorem ksX3_comes : Cond.selects yX3_comes.cls yX3_comes yX3_comes ∈ mx_tbl := mx_in 3 (by decide +kernel) rfl
theorem kyX3_comes : yX3_comes.cls ≠ "java/lang/invoke/MethodHandle" ∧ yX3_comes.cls ≠ "java/lang/invoke/VarHandle" ∧ (parseMethodDescriptor yX3_comes.desc).map (fun d => d.parameters.length) = some 1 := by decide +kernel
abbrev MX3_comesHouse (E : mx_E) (K : Nat) (args : List Value) (σ : Mem) (post : Option Value → Mem → Prop) : Prop := MM E K yX3_comesHouse cX3_comesHouse 4 (some .boolean) args σ post
theorem kcX3_comesHouse : Cond.code yX3_comesHouse cX3_comesHouse 4 (some .boolean) ∈ mx_tbl := mx_in 243 (by decide +kernel) rfl
theorem kiX3_comesHouse : Cond.instanceMethod yX3_comesHouse ∈ mx_tbl := mx_in 242 (by decide +kernel) rfl
theorem ksX3_comesHouse : Cond.selects yX3_comesHouse.cls yX3_comesHouse yX3_comesHouse ∈ mx_tbl := mx_in 4 (by decide +kernel) rfl
theorem kyX3_comesHouse : yX3_comesHouse.cls ≠ "java/lang/invoke/MethodHandle" ∧ yX3_comesHouse.cls ≠ "java/lang/invoke/VarHandle" ∧ (parseMethodDescriptor yX3_comesHouse.desc).map (fun d => d.parameters.length) = some 1 := by decide +kernel
abbrev MX3_comesPeople (E : mx_E) (K : Nat) (args : List Value) (σ : Mem) (post : Option Value → Mem → Prop) : Prop := MM E K yX3_comesPeople cX3_comesPeople 4 (some .boolean) args σ post
theorem kcX3_comesPeople : Cond.code yX3_comesPeople cX3_comesPeople 4 (some .boolean) ∈ mx_tbl := mx_in 255 (by decide +kernel) rfl
theorem kiX3_comesPeople : Cond.instanceMethod yX3_comesPeople ∈ mx_tbl := mx_in 254 (by decide +kernel) rfl
theorem ksX3_comesPeople : Cond.selects yX3_comesPeople.cls yX3_comesPeople yX3_comesPeople ∈ mx_tbl := mx_in 6 (by decide +kernel) rfl
theorem kyX3_comesPeople : yX3_comesPeople.cls ≠ "java/lang/invoke/MethodHandle" ∧ yX3_comesPeople.cls ≠ "java/lang/invoke/VarHandle" ∧ (parseMethodDescriptor yX3_comesPeople.desc).map (fun d => d.parameters.length) = some 1 := by decide +kernel
abbrev MX3_comesDust (E : mx_E) (K : Nat) (args : List Value) (σ : Mem) (post : Option Value → Mem → Prop) : Prop := MM E K yX3_comesDust cX3_comesDust 4 (some .boolean) args σ post
theorem kcX3_comesDust : Cond.code yX3_comesDust cX3_comesDust 4 (some .boolean) ∈ mx_tbl := mx_in 264 (by decide +kernel) rfl
theorem kiX3_comesDust : Cond.instanceMethod yX3_comesDust ∈ mx_tbl := mx_in 263 (by decide +kernel) rfl
theorem ksX3_comesDust : Cond.selects yX3_comesDust.cls yX3_comesDust yX3_comesDust ∈ mx_tbl := mx_in 7 (by decide +kernel) rfl
theorem kyX3_comesDust : yX3_comesDust.cls ≠ "java/lang/invoke/MethodHandle" ∧ yX3_comesDust.cls ≠ "java/lang/invoke/VarHandle" ∧ (parseMethodDescriptor yX3_comesDust.desc).map (fun d => d.parameters.length) = some 1 := by decide +kernel
abbrev MX3_comesTurned (E : mx_E) (K : Nat) (args : List Value) (σ : Mem) (post : Option Value → Mem → Prop) : Prop := MM E K yX3_comesTurned cX3_comesTurned 3 (some .boolean) args σ post
theorem kcX3_comesTurned : Cond.code yX3_comesTurned cX3_comesTurned 3 (some .boolean) ∈ mx_tbl := mx_in 268 (by decide +kernel) rfl
theorem kiX3_comesTurned : Cond.instanceMethod yX3_comesTurned ∈ mx_tbl := mx_in 267 (by decide +kernel) rfl
theorem ksX3_comesTurned : Cond.selects yX3_comesTurned.cls yX3_comesTurned yX3_comesTurned ∈ mx_tbl := mx_in 8 (by decide +kernel) rfl
theorem kyX3_comesTurned : yX3_comesTurned.cls ≠ "java/lang/invoke/MethodHandle" ∧ yX3_comesTurned.cls ≠ "java/lang/invoke/VarHandle" ∧ (parseMethodDescriptor yX3_comesTurned.desc).map (fun d => d.parameters.length) = some 1 := by decide +kernel
abbrev MX3_comesInspector (E : mx_E) (K : Nat) (args : List Value) (σ : Mem) (post : Option Value → Mem → Prop) : Prop := MM E K yX3_comesInspector cX3_comesInspector 3 (some .boolean) args σ post
theorem kcX3_comesInspector : Cond.code yX3_comesInspector cX3_comesInspector 3 (some .boolean) ∈ mx_tbl := mx_in 272 (by decide +kernel) rfl
theorem kiX3_comesInspector : Cond.instanceMethod yX3_comesInspector ∈ mx_tbl := mx_in 271 (by decide +kernel) rfl
theorem ksX3_comesInspector : Cond.selects yX3_comesInspector.cls yX3_comesInspector yX3_comesInspector ∈ mx_tbl := mx_in 9 (by decide +kernel) rfl
theorem kyX3_comesInspector : yX3_comesInspector.cls ≠ "java/lang/invoke/MethodHandle" ∧ yX3_comesInspector.cls ≠ "java/lang/invoke/VarHandle" ∧ (parseMethodDescriptor yX3_comesInspector.desc).map (fun d => d.parameters.length) = some 1 := by decide +kernel
abbrev MX3_comesWeeks (E : mx_E) (K : Nat) (args : List Value) (σ : Mem) (post : Option Value → Mem → Prop) : Prop := MM E K yX3_comesWeeks cX3_comesWeeks 3 (some .boolean) args σ post
theorem kcX3_comesWeeks : Cond.code yX3_comesWeeks cX3_comesWeeks 3 (some .boolean) ∈ mx_tbl := mx_in 276 (by decide +kernel) rfl
theorem kiX3_comesWeeks : Cond.instanceMethod yX3_comesWeeks ∈ mx_tbl := mx_in 275 (by decide +kernel) rfl
theorem ksX3_comesWeeks : Cond.selects yX3_comesWeeks.cls yX3_comesWeeks yX3_comesWeeks ∈ mx_tbl := mx_in 10 (by decide +kernel) rfl
theorem kyX3_comesWeeks : yX3_comesWeeks.cls ≠ "java/lang/invoke/MethodHandle" ∧ yX3_comesWeeks.cls ≠ "java/lang/invoke/VarHandle" ∧ (parseMethodDescriptor yX3_comesWeeks.desc).map (fun d => d.parameters.length) = some 1 := by decide +kernel
abbrev MX3_number (E : mx_E) (K : Nat) (args : List Value) (σ : Mem) (post : Option Value → Mem → Prop) : Prop := MM E K yX3_number cX3_number 5 (some .int) args σ post
theorem kcX3_number : Cond.code yX3_number cX3_number 5 (some .int) ∈ mx_tbl := mx_in 247 (by decide +kernel) rfl
theorem kiX3_number : Cond.instanceMethod yX3_number ∈ mx_tbl := mx_in 246 (by decide +kernel) rfl
theorem ksX3_number : Cond.selects yX3_number.cls yX3_number yX3_number ∈ mx_tbl := mx_in 5 (by decide +kernel) rfl
theorem kyX3_number : yX3_number.cls ≠ "java/lang/invoke/MethodHandle" ∧ yX3_number.cls ≠ "java/lang/invoke/VarHandle" ∧ (parseMethodDescriptor yX3_number.desc).map (fun d => d.parameters.length) = some 2 := by decide +kernel
abbrev MX3_house (E : mx_E) (K : Nat) (args : List Value) (σ : Mem) (post : Option Value → Mem → Prop) : Prop := MM E K yX3_house cX3_house 4 (some .int) args σ post
theorem kcX3_house : Cond.code yX3_house cX3_house 4 (some .int) ∈ mx_tbl := mx_in 336 (by decide +kernel) rfl
theorem kiX3_house : Cond.instanceMethod yX3_house ∈ mx_tbl := mx_in 334 (by decide +kernel) rfl
theorem ksX3_house : Cond.selects yX3_house.cls yX3_house yX3_house ∈ mx_tbl := mx_in 335 (by decide +kernel) rfl
theorem kyX3_house : yX3_house.cls ≠ "java/lang/invoke/MethodHandle" ∧ yX3_house.cls ≠ "java/lang/invoke/VarHandle" ∧ (parseMethodDescriptor yX3_house.desc).map (fun d => d.parameters.length) = some 2 := by decide +kernel
abbrev MX3_peoples (E : mx_E) (K : Nat) (args : List Value) (σ : Mem) (post : Option Value → Mem → Prop) : Prop := MM E K yX3_peoples cX3_peoples 5 (some .int) args σ post
theorem kcX3_peoples : Cond.code yX3_peoples cX3_peoples 5 (some .int) ∈ mx_tbl := mx_in 342 (by decide +kernel) rfl
theorem kiX3_peoples : Cond.instanceMethod yX3_peoples ∈ mx_tbl := mx_in 340 (by decide +kernel) rfl
theorem ksX3_peoples : Cond.selects yX3_peoples.cls yX3_peoples yX3_peoples ∈ mx_tbl := mx_in 341 (by decide +kernel) rfl
theorem kyX3_peoples : yX3_peoples.cls ≠ "java/lang/invoke/MethodHandle" ∧ yX3_peoples.cls ≠ "java/lang/invoke/VarHandle" ∧ (parseMethodDescriptor yX3_peoples.desc).map (fun d => d.parameters.length) = some 2 := by decide +kernel
abbrev MX3_airs (E : mx_E) (K : Nat) (args : List Value) (σ : Mem) (post : Option Value → Mem → Prop) : Prop := MM E K yX3_airs cX3_airs 4 (some .int) args σ post
theorem kcX3_airs : Cond.code yX3_airs cX3_airs 4 (some .int) ∈ mx_tbl := mx_in 346 (by decide +kernel) rfl
theorem kiX3_airs : Cond.instanceMethod yX3_airs ∈ mx_tbl := mx_in 344 (by decide +kernel) rfl
theorem ksX3_airs : Cond.selects yX3_airs.cls yX3_airs yX3_airs ∈ mx_tbl := mx_in 345 (by decide +kernel) rfl
theorem kyX3_airs : yX3_airs.cls ≠ "java/lang/invoke/MethodHandle" ∧ yX3_airs.cls ≠ "java/lang/invoke/VarHandle" ∧ (parseMethodDescriptor yX3_airs.desc).map (fun d => d.parameters.length) = some 1 := by decide +kernel
abbrev MX3_dents (E : mx_E) (K : Nat) (args : List Value) (σ : Mem) (post : Option Value → Mem → Prop) : Prop := MM E K yX3_dents cX3_dents 5 (some .int) args σ post
theorem kcX3_dents : Cond.code yX3_dents cX3_dents 5 (some .int) ∈ mx_tbl := mx_in 350 (by decide +kernel) rfl
theorem kiX3_dents : Cond.instanceMethod yX3_dents ∈ mx_tbl := mx_in 348 (by decide +kernel) rfl
theorem ksX3_dents : Cond.selects yX3_dents.cls yX3_dents yX3_dents ∈ mx_tbl := mx_in 349 (by decide +kernel) rfl
theorem kyX3_dents : yX3_dents.cls ≠ "java/lang/invoke/MethodHandle" ∧ yX3_dents.cls ≠ "java/lang/invoke/VarHandle" ∧ (parseMethodDescriptor yX3_dents.desc).map (fun d => d.parameters.length) = some 2 := by decide +kernel
abbrev MX3_keeps (E : mx_E) (K : Nat) (args : List Value) (σ : Mem) (post : Option Value → Mem → Prop) : Prop := MM E K yX3_keeps cX3_keeps 3 (some .int) args σ post
theorem kcX3_keeps : Cond.code yX3_keeps cX3_keeps 3 (some .int) ∈ mx_tbl := mx_in 354 (by decide +kernel) rfl
theorem kiX3_keeps : Cond.instanceMethod yX3_keeps ∈ mx_tbl := mx_in 352 (by decide +kernel) rfl
theorem ksX3_keeps : Cond.selects yX3_keeps.cls yX3_keeps yX3_keeps ∈ mx_tbl := mx_in 353 (by decide +kernel) rfl
theorem kyX3_keeps : yX3_keeps.cls ≠ "java/lang/invoke/MethodHandle" ∧ yX3_keeps.cls ≠ "java/lang/invoke/VarHandle" ∧ (parseMethodDescriptor yX3_keeps.desc).map (fun d => d.parameters.length) = some 1 := by decide +kernel
abbrev MX3_visits (E : mx_E) (K : Nat) (args : List Value) (σ : Mem) (post : Option Value → Mem → Prop) : Prop := MM E K yX3_visits cX3_visits 3 (some .int) args σ post
theorem kcX3_visits : Cond.code yX3_visits cX3_visits 3 (some .int) ∈ mx_tbl := mx_in 358 (by decide +kernel) rfl
theorem kiX3_visits : Cond.instanceMethod yX3_visits ∈ mx_tbl := mx_in 356 (by decide +kernel) rfl
theorem ksX3_visits : Cond.selects yX3_visits.cls yX3_visits yX3_visits ∈ mx_tbl := mx_in 357 (by decide +kernel) rfl
theorem kyX3_visits : yX3_visits.cls ≠ "java/lang/invoke/MethodHandle" ∧ yX3_visits.cls ≠ "java/lang/invoke/VarHandle" ∧ (parseMethodDescriptor yX3_visits.desc).map (fun d => d.parameters.length) = some 1 := by decide +kernel
abbrev MX3_candles (E : mx_E) (K : Nat) (args : List Value) (σ : Mem) (post : Option Value → Mem → Prop) : Prop := MM E K yX3_candles cX3_candles 3 (some .int) args σ post
theorem kcX3_candles : Cond.code yX3_candles cX3_candles 3 (some .int) ∈ mx_tbl := mx_in 362 (by decide +kernel) rfl
theorem kiX3_candles : Cond.instanceMethod yX3_candles ∈ mx_tbl := mx_in 360 (by decide +kernel) rfl
theorem ksX3_candles : Cond.selects yX3_candles.cls yX3_candles yX3_candles ∈ mx_tbl := mx_in 361 (by decide +kernel) rfl
theorem kyX3_candles : yX3_candles.cls ≠ "java/lang/invoke/MethodHandle" ∧ yX3_candles.cls ≠ "java/lang/invoke/VarHandle" ∧ (parseMethodDescriptor yX3_candles.desc).map (fun d => d.parameters.length) = some 1 := by decide +kernel
abbrev MX3_turn (E : mx_E) (K : Nat) (args : List Value) (σ : Mem) (post : Option Value → Mem → Prop) : Prop := MM E K yX3_turn cX3_turn 6 (some .int) args σ post
theorem kcX3_turn : Cond.code yX3_turn cX3_turn 6 (some .int) ∈ mx_tbl := mx_in 366 (by decide +kernel) rfl
theorem kiX3_turn : Cond.instanceMethod yX3_turn ∈ mx_tbl := mx_in 364 (by decide +kernel) rfl
theorem ksX3_turn : Cond.selects yX3_turn.cls yX3_turn yX3_turn ∈ mx_tbl := mx_in 365 (by decide +kernel) rfl
theorem kyX3_turn : yX3_turn.cls ≠ "java/lang/invoke/MethodHandle" ∧ yX3_turn.cls ≠ "java/lang/invoke/VarHandle" ∧ (parseMethodDescriptor yX3_turn.desc).map (fun d => d.parameters.length) = some 3 := by decide +kernel
abbrev MX3_weeks (E : mx_E) (K : Nat) (args : List Value) (σ : Mem) (post : Option Value → Mem → Prop) : Prop := MM E K yX3_weeks cX3_weeks 2 (some .int) args σ post
theorem kcX3_weeks : Cond.code yX3_weeks cX3_weeks 2 (some .int) ∈ mx_tbl := mx_in 370 (by decide +kernel) rfl
theorem kiX3_weeks : Cond.instanceMethod yX3_weeks ∈ mx_tbl := mx_in 368 (by decide +kernel) rfl
theorem ksX3_weeks : Cond.selects yX3_weeks.cls yX3_weeks yX3_weeks ∈ mx_tbl := mx_in 369 (by decide +kernel) rfl
theorem kyX3_weeks : yX3_weeks.cls ≠ "java/lang/invoke/MethodHandle" ∧ yX3_weeks.cls ≠ "java/lang/invoke/VarHandle" ∧ (parseMethodDescriptor yX3_weeks.desc).map (fun d => d.parameters.length) = some 1 := by decide +kernel
abbrev MX3_houseThen (E : mx_E) (K : Nat) (args : List Value) (σ : Mem) (post : Option Value → Mem → Prop) : Prop := MM E K yX3_houseThen cX3_houseThen 6 (some .int) args σ post
theorem kcX3_houseThen : Cond.code yX3_houseThen cX3_houseThen 6 (some .int) ∈ mx_tbl := mx_in 388 (by decide +kernel) rfl
theorem kiX3_houseThen : Cond.instanceMethod yX3_houseThen ∈ mx_tbl := mx_in 386 (by decide +kernel) rfl
theorem ksX3_houseThen : Cond.selects yX3_houseThen.cls yX3_houseThen yX3_houseThen ∈ mx_tbl := mx_in 387 (by decide +kernel) rfl
theorem kyX3_houseThen : yX3_houseThen.cls ≠ "java/lang/invoke/MethodHandle" ∧ yX3_houseThen.cls ≠ "java/lang/invoke/VarHandle" ∧ (parseMethodDescriptor yX3_houseThen.desc).map (fun d => d.parameters.length) = some 3 := by decide +kernel
abbrev MX3_then (E : mx_E) (K : Nat) (args : List Value) (σ : Mem) (post : Option Value → Mem → Prop) : Prop := MM E K yX3_then cX3_then 4 (some .int) args σ post
theorem kcX3_then : Cond.code yX3_then cX3_then 4 (some .int) ∈ mx_tbl := mx_in 395 (by decide +kernel) rfl
theorem kiX3_then : Cond.instanceMethod yX3_then ∈ mx_tbl := mx_in 393 (by decide +kernel) rfl
theorem ksX3_then : Cond.selects yX3_then.cls yX3_then yX3_then ∈ mx_tbl := mx_in 394 (by decide +kernel) rfl
theorem kyX3_then : yX3_then.cls ≠ "java/lang/invoke/MethodHandle" ∧ yX3_then.cls ≠ "java/lang/invoke/VarHandle" ∧ (parseMethodDescriptor yX3_then.desc).map (fun d => d.parameters.length) = some 2 := by decide +kernel
abbrev MX3_lost (E : mx_E) (K : Nat) (args : List Value) (σ : Mem) (post : Option Value → Mem → Prop) : Prop := MM E K yX3_lost cX3_lost 2 (some .int) args σ post
theorem kcX3_lost : Cond.code yX3_lost cX3_lost 2 (some .int) ∈ mx_tbl := mx_in 400 (by decide +kernel) rfl
theorem kiX3_lost : Cond.instanceMethod yX3_lost ∈ mx_tbl := mx_in 398 (by decide +kernel) rfl
theorem ksX3_lost : Cond.selects yX3_lost.cls yX3_lost yX3_lost ∈ mx_tbl := mx_in 399 (by decide +kernel) rfl
theorem kyX3_lost : yX3_lost.cls ≠ "java/lang/invoke/MethodHandle" ∧ yX3_lost.cls ≠ "java/lang/invoke/VarHandle" ∧ (parseMethodDescriptor yX3_lost.desc).map (fun d => d.parameters.length) = some 1 := by decide +kernel
abbrev MX3_firstLost (E : mx_E) (K : Nat) (args : List Value) (σ : Mem) (post : Option Value → Mem → Prop) : Prop := MM E K yX3_firstLost cX3_firstLost 3 (some .int) args σ post
theorem kcX3_firstLost : Cond.code yX3_firstLost cX3_firstLost 3 (some .int) ∈ mx_tbl := mx_in 404 (by decide +kernel) rfl
theorem kiX3_firstLost : Cond.instanceMethod yX3_firstLost ∈ mx_tbl := mx_in 403 (by decide +kernel) rfl
theorem ksX3_firstLost : Cond.selects yX3_firstLost.cls yX3_firstLost yX3_firstLost ∈ mx_tbl := mx_in 13 (by decide +kernel) rfl
theorem kyX3_firstLost : yX3_firstLost.cls ≠ "java/lang/invoke/MethodHandle" ∧ yX3_firstLost.cls ≠ "java/lang/invoke/VarHandle" ∧ (parseMethodDescriptor yX3_firstLost.desc).map (fun d => d.parameters.length) = some 0 := by decide +kernel
abbrev MX3_weeksTillLost (E : mx_E) (K : Nat) (args : List Value) (σ : Mem) (post : Option Value → Mem → Prop) : Prop := MM E K yX3_weeksTillLost cX3_weeksTillLost 3 (some .int) args σ post
theorem kcX3_weeksTillLost : Cond.code yX3_weeksTillLost cX3_weeksTillLost 3 (some .int) ∈ mx_tbl := mx_in 408 (by decide +kernel) rfl
theorem kiX3_weeksTillLost : Cond.instanceMethod yX3_weeksTillLost ∈ mx_tbl := mx_in 407 (by decide +kernel) rfl
theorem ksX3_weeksTillLost : Cond.selects yX3_weeksTillLost.cls yX3_weeksTillLost yX3_weeksTillLost ∈ mx_tbl := mx_in 14 (by decide +kernel) rfl
theorem kyX3_weeksTillLost : yX3_weeksTillLost.cls ≠ "java/lang/invoke/MethodHandle" ∧ yX3_weeksTillLost.cls ≠ "java/lang/invoke/VarHandle" ∧ (parseMethodDescriptor yX3_weeksTillLost.desc).map (fun d => d.parameters.length) = some 1 := by decide +kernel
abbrev MX3_dark (E : mx_E) (K : Nat) (args : List Value) (σ : Mem) (post : Option Value → Mem → Prop) : Prop := MM E K yX3_dark cX3_dark 2 (some .int) args σ post
theorem kcX3_dark : Cond.code yX3_dark cX3_dark 2 (some .int) ∈ mx_tbl := mx_in 412 (by decide +kernel) rfl
theorem kiX3_dark : Cond.instanceMethod yX3_dark ∈ mx_tbl := mx_in 410 (by decide +kernel) rfl
theorem ksX3_dark : Cond.selects yX3_dark.cls yX3_dark yX3_dark ∈ mx_tbl := mx_in 411 (by decide +kernel) rfl
theorem kyX3_dark : yX3_dark.cls ≠ "java/lang/invoke/MethodHandle" ∧ yX3_dark.cls ≠ "java/lang/invoke/VarHandle" ∧ (parseMethodDescriptor yX3_dark.desc).map (fun d => d.parameters.length) = some 0 := by decide +kernel
abbrev MX3_still (E : mx_E) (K : Nat) (args : List Value) (σ : Mem) (post : Option Value → Mem → Prop) : Prop := MM E K yX3_still cX3_still 2 (some .int) args σ post
theorem kcX3_still : Cond.code yX3_still cX3_still 2 (some .int) ∈ mx_tbl := mx_in 421 (by decide +kernel) rfl
theorem kiX3_still : Cond.instanceMethod yX3_still ∈ mx_tbl := mx_in 419 (by decide +kernel) rfl
theorem ksX3_still : Cond.selects yX3_still.cls yX3_still yX3_still ∈ mx_tbl := mx_in 420 (by decide +kernel) rfl
theorem kyX3_still : yX3_still.cls ≠ "java/lang/invoke/MethodHandle" ∧ yX3_still.cls ≠ "java/lang/invoke/VarHandle" ∧ (parseMethodDescriptor yX3_still.desc).map (fun d => d.parameters.length) = some 0 := by decide +kernel
abbrev MX3_move (E : mx_E) (K : Nat) (args : List Value) (σ : Mem) (post : Option Value → Mem → Prop) : Prop := MM E K yX3_move cX3_move 8 (some .int) args σ post
theorem kcX3_move : Cond.code yX3_move cX3_move 8 (some .int) ∈ mx_tbl := mx_in 425 (by decide +kernel) rfl
theorem kiX3_move : Cond.instanceMethod yX3_move ∈ mx_tbl := mx_in 423 (by decide +kernel) rfl
theorem ksX3_move : Cond.selects yX3_move.cls yX3_move yX3_move ∈ mx_tbl := mx_in 424 (by decide +kernel) rfl
theorem kyX3_move : yX3_move.cls ≠ "java/lang/invoke/MethodHandle" ∧ yX3_move.cls ≠ "java/lang/invoke/VarHandle" ∧ (parseMethodDescriptor yX3_move.desc).map (fun d => d.parameters.length) = some 1 := by decide +kernel
abbrev MX3_keptIfHalfMoves (E : mx_E) (K : Nat) (args : List Value) (σ : Mem) (post : Option Value → Mem → Prop) : Prop := MM E K yX3_keptIfHalfMoves cX3_keptIfHalfMoves 7 (some .int) args σ post
theorem kcX3_keptIfHalfMoves : Cond.code yX3_keptIfHalfMoves cX3_keptIfHalfMoves 7 (some .int) ∈ mx_tbl := mx_in 429 (by decide +kernel) rfl
theorem kiX3_keptIfHalfMoves : Cond.instanceMethod yX3_keptIfHalfMoves ∈ mx_tbl := mx_in 428 (by decide +kernel) rfl
theorem ksX3_keptIfHalfMoves : Cond.selects yX3_keptIfHalfMoves.cls yX3_keptIfHalfMoves yX3_keptIfHalfMoves ∈ mx_tbl := mx_in 15 (by decide +kernel) rfl
theorem kyX3_keptIfHalfMoves : yX3_keptIfHalfMoves.cls ≠ "java/lang/invoke/MethodHandle" ∧ yX3_keptIfHalfMoves.cls ≠ "java/lang/invoke/VarHandle" ∧ (parseMethodDescriptor yX3_keptIfHalfMoves.desc).map (fun d => d.parameters.length) = some 3 := by decide +kernel
abbrev MX3_air (E : mx_E) (K : Nat) (args : List Value) (σ : Mem) (post : Option Value → Mem → Prop) : Prop := MM E K yX3_air cX3_air 7 (some .int) args σ post
theorem kcX3_air : Cond.code yX3_air cX3_air 7 (some .int) ∈ mx_tbl := mx_in 434 (by decide +kernel) rfl
theorem kiX3_air : Cond.instanceMethod yX3_air ∈ mx_tbl := mx_in 432 (by decide +kernel) rfl
theorem ksX3_air : Cond.selects yX3_air.cls yX3_air yX3_air ∈ mx_tbl := mx_in 433 (by decide +kernel) rfl
theorem kyX3_air : yX3_air.cls ≠ "java/lang/invoke/MethodHandle" ∧ yX3_air.cls ≠ "java/lang/invoke/VarHandle" ∧ (parseMethodDescriptor yX3_air.desc).map (fun d => d.parameters.length) = some 1 := by decide +kernel
abbrev MX3_noneLostIfAired (E : mx_E) (K : Nat) (args : List Value) (σ : Mem) (post : Option Value → Mem → Prop) : Prop := MM E K yX3_noneLostIfAired cX3_noneLostIfAired 4 (some .boolean) args σ post
theorem kcX3_noneLostIfAired : Cond.code yX3_noneLostIfAired cX3_noneLostIfAired 4 (some .boolean) ∈ mx_tbl := mx_in 439 (by decide +kernel) rfl
theorem kiX3_noneLostIfAired : Cond.instanceMethod yX3_noneLostIfAired ∈ mx_tbl := mx_in 438 (by decide +kernel) rfl
theorem ksX3_noneLostIfAired : Cond.selects yX3_noneLostIfAired.cls yX3_noneLostIfAired yX3_noneLostIfAired ∈ mx_tbl := mx_in 16 (by decide +kernel) rfl
theorem kyX3_noneLostIfAired : yX3_noneLostIfAired.cls ≠ "java/lang/invoke/MethodHandle" ∧ yX3_noneLostIfAired.cls ≠ "java/lang/invoke/VarHandle" ∧ (parseMethodDescriptor yX3_noneLostIfAired.desc).map (fun d => d.parameters.length) = some 2 := by decide +kernel
abbrev MX3_noneLostWithin (E : mx_E) (K : Nat) (args : List Value) (σ : Mem) (post : Option Value → Mem → Prop) : Prop := MM E K yX3_noneLostWithin cX3_noneLostWithin 4 (some .boolean) args σ post
theorem kcX3_noneLostWithin : Cond.code yX3_noneLostWithin cX3_noneLostWithin 4 (some .boolean) ∈ mx_tbl := mx_in 443 (by decide +kernel) rfl
theorem kiX3_noneLostWithin : Cond.instanceMethod yX3_noneLostWithin ∈ mx_tbl := mx_in 442 (by decide +kernel) rfl
theorem ksX3_noneLostWithin : Cond.selects yX3_noneLostWithin.cls yX3_noneLostWithin yX3_noneLostWithin ∈ mx_tbl := mx_in 17 (by decide +kernel) rfl
theorem kyX3_noneLostWithin : yX3_noneLostWithin.cls ≠ "java/lang/invoke/MethodHandle" ∧ yX3_noneLostWithin.cls ≠ "java/lang/invoke/VarHandle" ∧ (parseMethodDescriptor yX3_noneLostWithin.desc).map (fun d => d.parameters.length) = some 1 := by decide +kernel
abbrev MX3_start (E : mx_E) (K : Nat) (args : List Value) (σ : Mem) (post : Option Value → Mem → Prop) : Prop := MM E K yX3_start cX3_start 8 (some .int) args σ post
theorem kcX3_start : Cond.code yX3_start cX3_start 8 (some .int) ∈ mx_tbl := mx_in 447 (by decide +kernel) rfl
theorem kiX3_start : Cond.instanceMethod yX3_start ∈ mx_tbl := mx_in 445 (by decide +kernel) rfl
theorem ksX3_start : Cond.selects yX3_start.cls yX3_start yX3_start ∈ mx_tbl := mx_in 446 (by decide +kernel) rfl
theorem kyX3_start : yX3_start.cls ≠ "java/lang/invoke/MethodHandle" ∧ yX3_start.cls ≠ "java/lang/invoke/VarHandle" ∧ (parseMethodDescriptor yX3_start.desc).map (fun d => d.parameters.length) = some 2 := by decide +kernel
abbrev MX3_buy (E : mx_E) (K : Nat) (args : List Value) (σ : Mem) (post : Option Value → Mem → Prop) : Prop := MM E K yX3_buy cX3_buy 4 (some .int) args σ post
theorem kcX3_buy : Cond.code yX3_buy cX3_buy 4 (some .int) ∈ mx_tbl := mx_in 451 (by decide +kernel) rfl
theorem kiX3_buy : Cond.instanceMethod yX3_buy ∈ mx_tbl := mx_in 449 (by decide +kernel) rfl
theorem ksX3_buy : Cond.selects yX3_buy.cls yX3_buy yX3_buy ∈ mx_tbl := mx_in 450 (by decide +kernel) rfl
theorem kyX3_buy : yX3_buy.cls ≠ "java/lang/invoke/MethodHandle" ∧ yX3_buy.cls ≠ "java/lang/invoke/VarHandle" ∧ (parseMethodDescriptor yX3_buy.desc).map (fun d => d.parameters.length) = some 1 := by decide +kernel
abbrev MX3_bestKind (E : mx_E) (K : Nat) (args : List Value) (σ : Mem) (post : Option Value → Mem → Prop) : Prop := MM E K yX3_bestKind cX3_bestKind 8 (some .int) args σ post
theorem kcX3_bestKind : Cond.code yX3_bestKind cX3_bestKind 8 (some .int) ∈ mx_tbl := mx_in 455 (by decide +kernel) rfl
theorem kiX3_bestKind : Cond.instanceMethod yX3_bestKind ∈ mx_tbl := mx_in 453 (by decide +kernel) rfl
theorem ksX3_bestKind : Cond.selects yX3_bestKind.cls yX3_bestKind yX3_bestKind ∈ mx_tbl := mx_in 454 (by decide +kernel) rfl
theorem kyX3_bestKind : yX3_bestKind.cls ≠ "java/lang/invoke/MethodHandle" ∧ yX3_bestKind.cls ≠ "java/lang/invoke/VarHandle" ∧ (parseMethodDescriptor yX3_bestKind.desc).map (fun d => d.parameters.length) = some 2 := by decide +kernel
abbrev MX3_spare (E : mx_E) (K : Nat) (args : List Value) (σ : Mem) (post : Option Value → Mem → Prop) : Prop := MM E K yX3_spare cX3_spare 2 (some .int) args σ post
theorem kcX3_spare : Cond.code yX3_spare cX3_spare 2 (some .int) ∈ mx_tbl := mx_in 459 (by decide +kernel) rfl
theorem kiX3_spare : Cond.instanceMethod yX3_spare ∈ mx_tbl := mx_in 457 (by decide +kernel) rfl
theorem ksX3_spare : Cond.selects yX3_spare.cls yX3_spare yX3_spare ∈ mx_tbl := mx_in 458 (by decide +kernel) rfl
theorem kyX3_spare : yX3_spare.cls ≠ "java/lang/invoke/MethodHandle" ∧ yX3_spare.cls ≠ "java/lang/invoke/VarHandle" ∧ (parseMethodDescriptor yX3_spare.desc).map (fun d => d.parameters.length) = some 1 := by decide +kernel
abbrev MX3_lasts (E : mx_E) (K : Nat) (args : List Value) (σ : Mem) (post : Option Value → Mem → Prop) : Prop := MM E K yX3_lasts cX3_lasts 2 (some .int) args σ post
theorem kcX3_lasts : Cond.code yX3_lasts cX3_lasts 2 (some .int) ∈ mx_tbl := mx_in 476 (by decide +kernel) rfl
theorem kiX3_lasts : Cond.instanceMethod yX3_lasts ∈ mx_tbl := mx_in 475 (by decide +kernel) rfl
theorem ksX3_lasts : Cond.selects yX3_lasts.cls yX3_lasts yX3_lasts ∈ mx_tbl := mx_in 18 (by decide +kernel) rfl
theorem kyX3_lasts : yX3_lasts.cls ≠ "java/lang/invoke/MethodHandle" ∧ yX3_lasts.cls ≠ "java/lang/invoke/VarHandle" ∧ (parseMethodDescriptor yX3_lasts.desc).map (fun d => d.parameters.length) = some 0 := by decide +kernel
abbrev MX3_next (E : mx_E) (K : Nat) (args : List Value) (σ : Mem) (post : Option Value → Mem → Prop) : Prop := MM E K yX3_next cX3_next 2 (some .int) args σ post
theorem kcX3_next : Cond.code yX3_next cX3_next 2 (some .int) ∈ mx_tbl := mx_in 480 (by decide +kernel) rfl
theorem kiX3_next : Cond.instanceMethod yX3_next ∈ mx_tbl := mx_in 478 (by decide +kernel) rfl
theorem ksX3_next : Cond.selects yX3_next.cls yX3_next yX3_next ∈ mx_tbl := mx_in 479 (by decide +kernel) rfl
theorem kyX3_next : yX3_next.cls ≠ "java/lang/invoke/MethodHandle" ∧ yX3_next.cls ≠ "java/lang/invoke/VarHandle" ∧ (parseMethodDescriptor yX3_next.desc).map (fun d => d.parameters.length) = some 1 := by decide +kernel
abbrev MX3_run (E : mx_E) (K : Nat) (args : List Value) (σ : Mem) (post : Option Value → Mem → Prop) : Prop := MM E K yX3_run cX3_run 2 (some .int) args σ post
theorem kcX3_run : Cond.code yX3_run cX3_run 2 (some .int) ∈ mx_tbl := mx_in 485 (by decide +kernel) rfl
theorem kiX3_run : Cond.instanceMethod yX3_run ∈ mx_tbl := mx_in 483 (by decide +kernel) rfl
theorem ksX3_run : Cond.selects yX3_run.cls yX3_run yX3_run ∈ mx_tbl := mx_in 484 (by decide +kernel) rfl
theorem kyX3_run : yX3_run.cls ≠ "java/lang/invoke/MethodHandle" ∧ yX3_run.cls ≠ "java/lang/invoke/VarHandle" ∧ (parseMethodDescriptor yX3_run.desc).map (fun d => d.parameters.length) = some 1 := by decide +kernel
abbrev MX3_two (E : mx_E) (K : Nat) (args : List Value) (σ : Mem) (post : Option Value → Mem → Prop) : Prop := MM E K yX3_two cX3_two 9 (some .int) args σ post
theorem kcX3_two : Cond.code yX3_two cX3_two 9 (some .int) ∈ mx_tbl := mx_in 503 (by decide +kernel) rfl
theorem kiX3_two : Cond.instanceMethod yX3_two ∈ mx_tbl := mx_in 501 (by decide +kernel) rfl
theorem ksX3_two : Cond.selects yX3_two.cls yX3_two yX3_two ∈ mx_tbl := mx_in 502 (by decide +kernel) rfl
theorem kyX3_two : yX3_two.cls ≠ "java/lang/invoke/MethodHandle" ∧ yX3_two.cls ≠ "java/lang/invoke/VarHandle" ∧ (parseMethodDescriptor yX3_two.desc).map (fun d => d.parameters.length) = some 3 := by decide +kernel
abbrev MX3_worth (E : mx_E) (K : Nat) (args : List Value) (σ : Mem) (post : Option Value → Mem → Prop) : Prop := MM E K yX3_worth cX3_worth 7 (some .int) args σ post
theorem kcX3_worth : Cond.code yX3_worth cX3_worth 7 (some .int) ∈ mx_tbl := mx_in 507 (by decide +kernel) rfl
theorem kiX3_worth : Cond.instanceMethod yX3_worth ∈ mx_tbl := mx_in 506 (by decide +kernel) rfl
theorem ksX3_worth : Cond.selects yX3_worth.cls yX3_worth yX3_worth ∈ mx_tbl := mx_in 19 (by decide +kernel) rfl
theorem kyX3_worth : yX3_worth.cls ≠ "java/lang/invoke/MethodHandle" ∧ yX3_worth.cls ≠ "java/lang/invoke/VarHandle" ∧ (parseMethodDescriptor yX3_worth.desc).map (fun d => d.parameters.length) = some 5 := by decide +kernel
abbrev MX3_guest (E : mx_E) (K : Nat) (args : List Value) (σ : Mem) (post : Option Value → Mem → Prop) : Prop := MM E K yX3_guest cX3_guest 8 (some .long) args σ post
theorem kcX3_guest : Cond.code yX3_guest cX3_guest 8 (some .long) ∈ mx_tbl := mx_in 515 (by decide +kernel) rfl
theorem kiX3_guest : Cond.instanceMethod yX3_guest ∈ mx_tbl := mx_in 513 (by decide +kernel) rfl
theorem ksX3_guest : Cond.selects yX3_guest.cls yX3_guest yX3_guest ∈ mx_tbl := mx_in 514 (by decide +kernel) rfl
theorem kyX3_guest : yX3_guest.cls ≠ "java/lang/invoke/MethodHandle" ∧ yX3_guest.cls ≠ "java/lang/invoke/VarHandle" ∧ (parseMethodDescriptor yX3_guest.desc).map (fun d => d.parameters.length) = some 4 := by decide +kernel
abbrev MX3_isKeptWithGuests (E : mx_E) (K : Nat) (args : List Value) (σ : Mem) (post : Option Value → Mem → Prop) : Prop := MM E K yX3_isKeptWithGuests cX3_isKeptWithGuests 6 (some .boolean) args σ post
theorem kcX3_isKeptWithGuests : Cond.code yX3_isKeptWithGuests cX3_isKeptWithGuests 6 (some .boolean) ∈ mx_tbl := mx_in 524 (by decide +kernel) rfl
theorem kiX3_isKeptWithGuests : Cond.instanceMethod yX3_isKeptWithGuests ∈ mx_tbl := mx_in 523 (by decide +kernel) rfl
theorem ksX3_isKeptWithGuests : Cond.selects yX3_isKeptWithGuests.cls yX3_isKeptWithGuests yX3_isKeptWithGuests ∈ mx_tbl := mx_in 21 (by decide +kernel) rfl
theorem kyX3_isKeptWithGuests : yX3_isKeptWithGuests.cls ≠ "java/lang/invoke/MethodHandle" ∧ yX3_isKeptWithGuests.cls ≠ "java/lang/invoke/VarHandle" ∧ (parseMethodDescriptor yX3_isKeptWithGuests.desc).map (fun d => d.parameters.length) = some 3 := by decide +kernel
abbrev MX3_power (E : mx_E) (K : Nat) (args : List Value) (σ : Mem) (post : Option Value → Mem → Prop) : Prop := MM E K yX3_power cX3_power 6 (some .long) args σ post
theorem kcX3_power : Cond.code yX3_power cX3_power 6 (some .long) ∈ mx_tbl := mx_in 528 (by decide +kernel) rfl
theorem ktX3_power : Cond.static yX3_power ∈ mx_tbl := mx_in 527 (by decide +kernel) rfl
theorem kyX3_power : yX3_power.cls ≠ "java/lang/invoke/MethodHandle" ∧ yX3_power.cls ≠ "java/lang/invoke/VarHandle" ∧ (parseMethodDescriptor yX3_power.desc).map (fun d => d.parameters.length) = some 2 := by decide +kernel
abbrev MX3_mean (E : mx_E) (K : Nat) (args : List Value) (σ : Mem) (post : Option Value → Mem → Prop) : Prop := MM E K yX3_mean cX3_mean 2 (some .long) args σ post
theorem kcX3_mean : Cond.code yX3_mean cX3_mean 2 (some .long) ∈ mx_tbl := mx_in 538 (by decide +kernel) rfl
theorem kiX3_mean : Cond.instanceMethod yX3_mean ∈ mx_tbl := mx_in 536 (by decide +kernel) rfl
theorem ksX3_mean : Cond.selects yX3_mean.cls yX3_mean yX3_mean ∈ mx_tbl := mx_in 537 (by decide +kernel) rfl
theorem kyX3_mean : yX3_mean.cls ≠ "java/lang/invoke/MethodHandle" ∧ yX3_mean.cls ≠ "java/lang/invoke/VarHandle" ∧ (parseMethodDescriptor yX3_mean.desc).map (fun d => d.parameters.length) = some 1 := by decide +kernel
abbrev MX3_partOf (E : mx_E) (K : Nat) (args : List Value) (σ : Mem) (post : Option Value → Mem → Prop) : Prop := MM E K yX3_partOf cX3_partOf 7 (some .long) args σ post
theorem kcX3_partOf : Cond.code yX3_partOf cX3_partOf 7 (some .long) ∈ mx_tbl := mx_in 531 (by decide +kernel) rfl
theorem ktX3_partOf : Cond.static yX3_partOf ∈ mx_tbl := mx_in 530 (by decide +kernel) rfl
theorem kyX3_partOf : yX3_partOf.cls ≠ "java/lang/invoke/MethodHandle" ∧ yX3_partOf.cls ≠ "java/lang/invoke/VarHandle" ∧ (parseMethodDescriptor yX3_partOf.desc).map (fun d => d.parameters.length) = some 3 := by decide +kernel
abbrev MX3_commonDivisor (E : mx_E) (K : Nat) (args : List Value) (σ : Mem) (post : Option Value → Mem → Prop) : Prop := MM E K yX3_commonDivisor cX3_commonDivisor 11 (some .long) args σ post
theorem kcX3_commonDivisor : Cond.code yX3_commonDivisor cX3_commonDivisor 11 (some .long) ∈ mx_tbl := mx_in 534 (by decide +kernel) rfl
theorem ktX3_commonDivisor : Cond.static yX3_commonDivisor ∈ mx_tbl := mx_in 533 (by decide +kernel) rfl
theorem kyX3_commonDivisor : yX3_commonDivisor.cls ≠ "java/lang/invoke/MethodHandle" ∧ yX3_commonDivisor.cls ≠ "java/lang/invoke/VarHandle" ∧ (parseMethodDescriptor yX3_commonDivisor.desc).map (fun d => d.parameters.length) = some 2 := by decide +kernel
abbrev MX3_whatIs (E : mx_E) (K : Nat) (args : List Value) (σ : Mem) (post : Option Value → Mem → Prop) : Prop := MM E K yX3_whatIs cX3_whatIs 6 (some .int) args σ post
theorem kcX3_whatIs : Cond.code yX3_whatIs cX3_whatIs 6 (some .int) ∈ mx_tbl := mx_in 547 (by decide +kernel) rfl
theorem kiX3_whatIs : Cond.instanceMethod yX3_whatIs ∈ mx_tbl := mx_in 545 (by decide +kernel) rfl
theorem ksX3_whatIs : Cond.selects yX3_whatIs.cls yX3_whatIs yX3_whatIs ∈ mx_tbl := mx_in 546 (by decide +kernel) rfl
theorem kyX3_whatIs : yX3_whatIs.cls ≠ "java/lang/invoke/MethodHandle" ∧ yX3_whatIs.cls ≠ "java/lang/invoke/VarHandle" ∧ (parseMethodDescriptor yX3_whatIs.desc).map (fun d => d.parameters.length) = some 2 := by decide +kernel
abbrev MX3_dustIsAsTold (E : mx_E) (K : Nat) (args : List Value) (σ : Mem) (post : Option Value → Mem → Prop) : Prop := MM E K yX3_dustIsAsTold cX3_dustIsAsTold 3 (some .boolean) args σ post
theorem kcX3_dustIsAsTold : Cond.code yX3_dustIsAsTold cX3_dustIsAsTold 3 (some .boolean) ∈ mx_tbl := mx_in 551 (by decide +kernel) rfl
theorem kiX3_dustIsAsTold : Cond.instanceMethod yX3_dustIsAsTold ∈ mx_tbl := mx_in 550 (by decide +kernel) rfl
theorem ksX3_dustIsAsTold : Cond.selects yX3_dustIsAsTold.cls yX3_dustIsAsTold yX3_dustIsAsTold ∈ mx_tbl := mx_in 22 (by decide +kernel) rfl
theorem kyX3_dustIsAsTold : yX3_dustIsAsTold.cls ≠ "java/lang/invoke/MethodHandle" ∧ yX3_dustIsAsTold.cls ≠ "java/lang/invoke/VarHandle" ∧ (parseMethodDescriptor yX3_dustIsAsTold.desc).map (fun d => d.parameters.length) = some 1 := by decide +kernel
abbrev MX3_row (E : mx_E) (K : Nat) (args : List Value) (σ : Mem) (post : Option Value → Mem → Prop) : Prop := MM E K yX3_row cX3_row 2 (some .int) args σ post
theorem kcX3_row : Cond.code yX3_row cX3_row 2 (some .int) ∈ mx_tbl := mx_in 555 (by decide +kernel) rfl
theorem kiX3_row : Cond.instanceMethod yX3_row ∈ mx_tbl := mx_in 553 (by decide +kernel) rfl
theorem ksX3_row : Cond.selects yX3_row.cls yX3_row yX3_row ∈ mx_tbl := mx_in 554 (by decide +kernel) rfl
theorem kyX3_row : yX3_row.cls ≠ "java/lang/invoke/MethodHandle" ∧ yX3_row.cls ≠ "java/lang/invoke/VarHandle" ∧ (parseMethodDescriptor yX3_row.desc).map (fun d => d.parameters.length) = some 1 := by decide +kernel
abbrev MX3_judge (E : mx_E) (K : Nat) (args : List Value) (σ : Mem) (post : Option Value → Mem → Prop) : Prop := MM E K yX3_judge cX3_judge 3 (some .int) args σ post
theorem kcX3_judge : Cond.code yX3_judge cX3_judge 3 (some .int) ∈ mx_tbl := mx_in 559 (by decide +kernel) rfl
theorem kiX3_judge : Cond.instanceMethod yX3_judge ∈ mx_tbl := mx_in 557 (by decide +kernel) rfl
theorem ksX3_judge : Cond.selects yX3_judge.cls yX3_judge yX3_judge ∈ mx_tbl := mx_in 558 (by decide +kernel) rfl
theorem kyX3_judge : yX3_judge.cls ≠ "java/lang/invoke/MethodHandle" ∧ yX3_judge.cls ≠ "java/lang/invoke/VarHandle" ∧ (parseMethodDescriptor yX3_judge.desc).map (fun d => d.parameters.length) = some 0 := by decide +kernel
abbrev MX3_clear (E : mx_E) (K : Nat) (args : List Value) (σ : Mem) (post : Option Value → Mem → Prop) : Prop := MM E K yX3_clear cX3_clear 2 (some .int) args σ post
theorem kcX3_clear : Cond.code yX3_clear cX3_clear 2 (some .int) ∈ mx_tbl := mx_in 563 (by decide +kernel) rfl
theorem kiX3_clear : Cond.instanceMethod yX3_clear ∈ mx_tbl := mx_in 561 (by decide +kernel) rfl
theorem ksX3_clear : Cond.selects yX3_clear.cls yX3_clear yX3_clear ∈ mx_tbl := mx_in 562 (by decide +kernel) rfl
theorem kyX3_clear : yX3_clear.cls ≠ "java/lang/invoke/MethodHandle" ∧ yX3_clear.cls ≠ "java/lang/invoke/VarHandle" ∧ (parseMethodDescriptor yX3_clear.desc).map (fun d => d.parameters.length) = some 0 := by decide +kernel
abbrev MX3_lots (E : mx_E) (K : Nat) (args : List Value) (σ : Mem) (post : Option Value → Mem → Prop) : Prop := MM E K yX3_lots cX3_lots 9 (some .int) args σ post
theorem kcX3_lots : Cond.code yX3_lots cX3_lots 9 (some .int) ∈ mx_tbl := mx_in 567 (by decide +kernel) rfl
theorem kiX3_lots : Cond.instanceMethod yX3_lots ∈ mx_tbl := mx_in 565 (by decide +kernel) rfl
theorem ksX3_lots : Cond.selects yX3_lots.cls yX3_lots yX3_lots ∈ mx_tbl := mx_in 566 (by decide +kernel) rfl
theorem kyX3_lots : yX3_lots.cls ≠ "java/lang/invoke/MethodHandle" ∧ yX3_lots.cls ≠ "java/lang/invoke/VarHandle" ∧ (parseMethodDescriptor yX3_lots.desc).map (fun d => d.parameters.length) = some 3 := by decide +kernel
abbrev MX3_drawPeople (E : mx_E) (K : Nat) (args : List Value) (σ : Mem) (post : Option Value → Mem → Prop) : Prop := MM E K yX3_drawPeople cX3_drawPeople 5 (some .int) args σ post
theorem kcX3_drawPeople : Cond.code yX3_drawPeople cX3_drawPeople 5 (some .int) ∈ mx_tbl := mx_in 571 (by decide +kernel) rfl
theorem kiX3_drawPeople : Cond.instanceMethod yX3_drawPeople ∈ mx_tbl := mx_in 570 (by decide +kernel) rfl
theorem ksX3_drawPeople : Cond.selects yX3_drawPeople.cls yX3_drawPeople yX3_drawPeople ∈ mx_tbl := mx_in 23 (by decide +kernel) rfl
theorem kyX3_drawPeople : yX3_drawPeople.cls ≠ "java/lang/invoke/MethodHandle" ∧ yX3_drawPeople.cls ≠ "java/lang/invoke/VarHandle" ∧ (parseMethodDescriptor yX3_drawPeople.desc).map (fun d => d.parameters.length) = some 1 := by decide +kernel
abbrev MX3_image (E : mx_E) (K : Nat) (args : List Value) (σ : Mem) (post : Option Value → Mem → Prop) : Prop := MM E K yX3_image cX3_image 1 (some .int) args σ post
theorem kcX3_image : Cond.code yX3_image cX3_image 1 (some .int) ∈ mx_tbl := mx_in 578 (by decide +kernel) rfl
theorem kiX3_image : Cond.instanceMethod yX3_image ∈ mx_tbl := mx_in 576 (by decide +kernel) rfl
theorem ksX3_image : Cond.selects yX3_image.cls yX3_image yX3_image ∈ mx_tbl := mx_in 577 (by decide +kernel) rfl
theorem kyX3_image : yX3_image.cls ≠ "java/lang/invoke/MethodHandle" ∧ yX3_image.cls ≠ "java/lang/invoke/VarHandle" ∧ (parseMethodDescriptor yX3_image.desc).map (fun d => d.parameters.length) = some 0 := by decide +kernel
abbrev MX3_on (E : mx_E) (K : Nat) (args : List Value) (σ : Mem) (post : Option Value → Mem → Prop) : Prop := MM E K yX3_on cX3_on 1 (some .int) args σ post
theorem kcX3_on : Cond.code yX3_on cX3_on 1 (some .int) ∈ mx_tbl := mx_in 582 (by decide +kernel) rfl
theorem kiX3_on : Cond.instanceMethod yX3_on ∈ mx_tbl := mx_in 580 (by decide +kernel) rfl
theorem ksX3_on : Cond.selects yX3_on.cls yX3_on yX3_on ∈ mx_tbl := mx_in 581 (by decide +kernel) rfl
theorem kyX3_on : yX3_on.cls ≠ "java/lang/invoke/MethodHandle" ∧ yX3_on.cls ≠ "java/lang/invoke/VarHandle" ∧ (parseMethodDescriptor yX3_on.desc).map (fun d => d.parameters.length) = some 0 := by decide +kernel
abbrev MX3_count (E : mx_E) (K : Nat) (args : List Value) (σ : Mem) (post : Option Value → Mem → Prop) : Prop := MM E K yX3_count cX3_count 2 (some .int) args σ post
theorem kcX3_count : Cond.code yX3_count cX3_count 2 (some .int) ∈ mx_tbl := mx_in 586 (by decide +kernel) rfl
theorem kiX3_count : Cond.instanceMethod yX3_count ∈ mx_tbl := mx_in 584 (by decide +kernel) rfl
theorem ksX3_count : Cond.selects yX3_count.cls yX3_count yX3_count ∈ mx_tbl := mx_in 585 (by decide +kernel) rfl
theorem kyX3_count : yX3_count.cls ≠ "java/lang/invoke/MethodHandle" ∧ yX3_count.cls ≠ "java/lang/invoke/VarHandle" ∧ (parseMethodDescriptor yX3_count.desc).map (fun d => d.parameters.length) = some 1 := by decide +kernel
abbrev MX3_refused (E : mx_E) (K : Nat) (args : List Value) (σ : Mem) (post : Option Value → Mem → Prop) : Prop := MM E K yX3_refused cX3_refused 3 (some .int) args σ post
theorem kcX3_refused : Cond.code yX3_refused cX3_refused 3 (some .int) ∈ mx_tbl := mx_in 590 (by decide +kernel) rfl
theorem kiX3_refused : Cond.instanceMethod yX3_refused ∈ mx_tbl := mx_in 589 (by decide +kernel) rfl
theorem ksX3_refused : Cond.selects yX3_refused.cls yX3_refused yX3_refused ∈ mx_tbl := mx_in 24 (by decide +kernel) rfl
theorem kyX3_refused : yX3_refused.cls ≠ "java/lang/invoke/MethodHandle" ∧ yX3_refused.cls ≠ "java/lang/invoke/VarHandle" ∧ (parseMethodDescriptor yX3_refused.desc).map (fun d => d.parameters.length) = some 1 := by decide +kernel
abbrev MX3_refuse (E : mx_E) (K : Nat) (args : List Value) (σ : Mem) (post : Option Value → Mem → Prop) : Prop := MM E K yX3_refuse cX3_refuse 3 (some .int) args σ post
theorem kcX3_refuse : Cond.code yX3_refuse cX3_refuse 3 (some .int) ∈ mx_tbl := mx_in 190 (by decide +kernel) rfl
theorem kiX3_refuse : Cond.instanceMethod yX3_refuse ∈ mx_tbl := mx_in 189 (by decide +kernel) rfl
theorem ksX3_refuse : Cond.selects yX3_refuse.cls yX3_refuse yX3_refuse ∈ mx_tbl := mx_in 0 (by decide +kernel) rfl
theorem kyX3_refuse : yX3_refuse.cls ≠ "java/lang/invoke/MethodHandle" ∧ yX3_refuse.cls ≠ "java/lang/invoke/VarHandle" ∧ (parseMethodDescriptor yX3_refuse.desc).map (fun d => d.parameters.length) = some 1 := by decide +kernel
abbrev MX3_refuseLong (E : mx_E) (K : Nat) (args : List Value) (σ : Mem) (post : Option Value → Mem → Prop) : Prop := MM E K yX3_refuseLong cX3_refuseLong 2 (some .long) args σ post
theorem kcX3_refuseLong : Cond.code yX3_refuseLong cX3_refuseLong 2 (some .long) ∈ mx_tbl := mx_in 519 (by decide +kernel) rfl
theorem kiX3_refuseLong : Cond.instanceMethod yX3_refuseLong ∈ mx_tbl := mx_in 518 (by decide +kernel) rfl
theorem ksX3_refuseLong : Cond.selects yX3_refuseLong.cls yX3_refuseLong yX3_refuseLong ∈ mx_tbl := mx_in 20 (by decide +kernel) rfl
theorem kyX3_refuseLong : yX3_refuseLong.cls ≠ "java/lang/invoke/MethodHandle" ∧ yX3_refuseLong.cls ≠ "java/lang/invoke/VarHandle" ∧ (parseMethodDescriptor yX3_refuseLong.desc).map (fun d => d.parameters.length) = some 1 := by decide +kernel
abbrev MX3_outOf (E : mx_E) (K : Nat) (args : List Value) (σ : Mem) (post : Option Value → Mem → Prop) : Prop := MM E K yX3_outOf cX3_outOf 3 (some .int) args σ post
theorem kcX3_outOf : Cond.code yX3_outOf cX3_outOf 3 (some .int) ∈ mx_tbl := mx_in 391 (by decide +kernel) rfl
theorem ktX3_outOf : Cond.static yX3_outOf ∈ mx_tbl := mx_in 390 (by decide +kernel) rfl
theorem kyX3_outOf : yX3_outOf.cls ≠ "java/lang/invoke/MethodHandle" ∧ yX3_outOf.cls ≠ "java/lang/invoke/VarHandle" ∧ (parseMethodDescriptor yX3_outOf.desc).map (fun d => d.parameters.length) = some 3 := by decide +kernel
abbrev MX4_isIn (E : mx_E) (K : Nat) (args : List Value) (σ : Mem) (post : Option Value → Mem → Prop) : Prop := MM E K yX4_isIn cX4_isIn 3 (some .boolean) args σ post
theorem kcX4_isIn : Cond.code yX4_isIn cX4_isIn 3 (some .boolean) ∈ mx_tbl := mx_in 670 (by decide +kernel) rfl
theorem ktX4_isIn : Cond.static yX4_isIn ∈ mx_tbl := mx_in 669 (by decide +kernel) rfl
theorem kyX4_isIn : yX4_isIn.cls ≠ "java/lang/invoke/MethodHandle" ∧ yX4_isIn.cls ≠ "java/lang/invoke/VarHandle" ∧ (parseMethodDescriptor yX4_isIn.desc).map (fun d => d.parameters.length) = some 3 := by decide +kernel
abbrev MX4_least (E : mx_E) (K : Nat) (args : List Value) (σ : Mem) (post : Option Value → Mem → Prop) : Prop := MM E K yX4_least cX4_least 2 (some .int) args σ post
theorem kcX4_least : Cond.code yX4_least cX4_least 2 (some .int) ∈ mx_tbl := mx_in 709 (by decide +kernel) rfl
theorem ktX4_least : Cond.static yX4_least ∈ mx_tbl := mx_in 708 (by decide +kernel) rfl
theorem kyX4_least : yX4_least.cls ≠ "java/lang/invoke/MethodHandle" ∧ yX4_least.cls ≠ "java/lang/invoke/VarHandle" ∧ (parseMethodDescriptor yX4_least.desc).map (fun d => d.parameters.length) = some 2 := by decide +kernel
abbrev MX4_copies (E : mx_E) (K : Nat) (args : List Value) (σ : Mem) (post : Option Value → Mem → Prop) : Prop := MM E K yX4_copies cX4_copies 3 none args σ post
theorem kcX4_copies : Cond.code yX4_copies cX4_copies 3 none ∈ mx_tbl := mx_in 673 (by decide +kernel) rfl
theorem ktX4_copies : Cond.static yX4_copies ∈ mx_tbl := mx_in 672 (by decide +kernel) rfl
theorem kyX4_copies : yX4_copies.cls ≠ "java/lang/invoke/MethodHandle" ∧ yX4_copies.cls ≠ "java/lang/invoke/VarHandle" ∧ (parseMethodDescriptor yX4_copies.desc).map (fun d => d.parameters.length) = some 2 := by decide +kernel
abbrev MX4_no (E : mx_E) (K : Nat) (args : List Value) (σ : Mem) (post : Option Value → Mem → Prop) : Prop := MM E K yX4_no cX4_no 2 (some .int) args σ post
theorem kcX4_no : Cond.code yX4_no cX4_no 2 (some .int) ∈ mx_tbl := mx_in 644 (by decide +kernel) rfl
theorem kiX4_no : Cond.instanceMethod yX4_no ∈ mx_tbl := mx_in 643 (by decide +kernel) rfl
theorem ksX4_no : Cond.selects yX4_no.cls yX4_no yX4_no ∈ mx_tbl := mx_in 25 (by decide +kernel) rfl
theorem kyX4_no : yX4_no.cls ≠ "java/lang/invoke/MethodHandle" ∧ yX4_no.cls ≠ "java/lang/invoke/VarHandle" ∧ (parseMethodDescriptor yX4_no.desc).map (fun d => d.parameters.length) = some 1 := by decide +kernel
abbrev MX4_noWide (E : mx_E) (K : Nat) (args : List Value) (σ : Mem) (post : Option Value → Mem → Prop) : Prop := MM E K yX4_noWide cX4_noWide 2 (some .long) args σ post
theorem kcX4_noWide : Cond.code yX4_noWide cX4_noWide 2 (some .long) ∈ mx_tbl := mx_in 890 (by decide +kernel) rfl
theorem kiX4_noWide : Cond.instanceMethod yX4_noWide ∈ mx_tbl := mx_in 889 (by decide +kernel) rfl
theorem ksX4_noWide : Cond.selects yX4_noWide.cls yX4_noWide yX4_noWide ∈ mx_tbl := mx_in 47 (by decide +kernel) rfl
theorem kyX4_noWide : yX4_noWide.cls ≠ "java/lang/invoke/MethodHandle" ∧ yX4_noWide.cls ≠ "java/lang/invoke/VarHandle" ∧ (parseMethodDescriptor yX4_noWide.desc).map (fun d => d.parameters.length) = some 1 := by decide +kernel
abbrev MX4_of (E : mx_E) (K : Nat) (args : List Value) (σ : Mem) (post : Option Value → Mem → Prop) : Prop := MM E K yX4_of cX4_of 2 (some .int) args σ post
theorem kcX4_of : Cond.code yX4_of cX4_of 2 (some .int) ∈ mx_tbl := mx_in 684 (by decide +kernel) rfl
theorem ktX4_of : Cond.static yX4_of ∈ mx_tbl := mx_in 683 (by decide +kernel) rfl
theorem kyX4_of : yX4_of.cls ≠ "java/lang/invoke/MethodHandle" ∧ yX4_of.cls ≠ "java/lang/invoke/VarHandle" ∧ (parseMethodDescriptor yX4_of.desc).map (fun d => d.parameters.length) = some 2 := by decide +kernel
abbrev MX4_isHouse (E : mx_E) (K : Nat) (args : List Value) (σ : Mem) (post : Option Value → Mem → Prop) : Prop := MM E K yX4_isHouse cX4_isHouse 2 (some .boolean) args σ post
theorem kcX4_isHouse : Cond.code yX4_isHouse cX4_isHouse 2 (some .boolean) ∈ mx_tbl := mx_in 688 (by decide +kernel) rfl
theorem kiX4_isHouse : Cond.instanceMethod yX4_isHouse ∈ mx_tbl := mx_in 687 (by decide +kernel) rfl
theorem ksX4_isHouse : Cond.selects yX4_isHouse.cls yX4_isHouse yX4_isHouse ∈ mx_tbl := mx_in 32 (by decide +kernel) rfl
theorem kyX4_isHouse : yX4_isHouse.cls ≠ "java/lang/invoke/MethodHandle" ∧ yX4_isHouse.cls ≠ "java/lang/invoke/VarHandle" ∧ (parseMethodDescriptor yX4_isHouse.desc).map (fun d => d.parameters.length) = some 1 := by decide +kernel
abbrev MX4_has (E : mx_E) (K : Nat) (args : List Value) (σ : Mem) (post : Option Value → Mem → Prop) : Prop := MM E K yX4_has cX4_has 2 (some .boolean) args σ post
theorem kcX4_has : Cond.code yX4_has cX4_has 2 (some .boolean) ∈ mx_tbl := mx_in 697 (by decide +kernel) rfl
theorem ktX4_has : Cond.static yX4_has ∈ mx_tbl := mx_in 696 (by decide +kernel) rfl
theorem kyX4_has : yX4_has.cls ≠ "java/lang/invoke/MethodHandle" ∧ yX4_has.cls ≠ "java/lang/invoke/VarHandle" ∧ (parseMethodDescriptor yX4_has.desc).map (fun d => d.parameters.length) = some 2 := by decide +kernel
abbrev MX4_bits (E : mx_E) (K : Nat) (args : List Value) (σ : Mem) (post : Option Value → Mem → Prop) : Prop := MM E K yX4_bits cX4_bits 3 (some .int) args σ post
theorem kcX4_bits : Cond.code yX4_bits cX4_bits 3 (some .int) ∈ mx_tbl := mx_in 774 (by decide +kernel) rfl
theorem ktX4_bits : Cond.static yX4_bits ∈ mx_tbl := mx_in 773 (by decide +kernel) rfl
theorem kyX4_bits : yX4_bits.cls ≠ "java/lang/invoke/MethodHandle" ∧ yX4_bits.cls ≠ "java/lang/invoke/VarHandle" ∧ (parseMethodDescriptor yX4_bits.desc).map (fun d => d.parameters.length) = some 1 := by decide +kernel
abbrev MX4_dustBy (E : mx_E) (K : Nat) (args : List Value) (σ : Mem) (post : Option Value → Mem → Prop) : Prop := MM E K yX4_dustBy cX4_dustBy 3 (some .int) args σ post
theorem kcX4_dustBy : Cond.code yX4_dustBy cX4_dustBy 3 (some .int) ∈ mx_tbl := mx_in 706 (by decide +kernel) rfl
theorem ktX4_dustBy : Cond.static yX4_dustBy ∈ mx_tbl := mx_in 705 (by decide +kernel) rfl
theorem kyX4_dustBy : yX4_dustBy.cls ≠ "java/lang/invoke/MethodHandle" ∧ yX4_dustBy.cls ≠ "java/lang/invoke/VarHandle" ∧ (parseMethodDescriptor yX4_dustBy.desc).map (fun d => d.parameters.length) = some 3 := by decide +kernel
abbrev MX4_burnsBy (E : mx_E) (K : Nat) (args : List Value) (σ : Mem) (post : Option Value → Mem → Prop) : Prop := MM E K yX4_burnsBy cX4_burnsBy 1 (some .int) args σ post
theorem kcX4_burnsBy : Cond.code yX4_burnsBy cX4_burnsBy 1 (some .int) ∈ mx_tbl := mx_in 703 (by decide +kernel) rfl
theorem ktX4_burnsBy : Cond.static yX4_burnsBy ∈ mx_tbl := mx_in 702 (by decide +kernel) rfl
theorem kyX4_burnsBy : yX4_burnsBy.cls ≠ "java/lang/invoke/MethodHandle" ∧ yX4_burnsBy.cls ≠ "java/lang/invoke/VarHandle" ∧ (parseMethodDescriptor yX4_burnsBy.desc).map (fun d => d.parameters.length) = some 1 := by decide +kernel
abbrev MX4_foundFrom (E : mx_E) (K : Nat) (args : List Value) (σ : Mem) (post : Option Value → Mem → Prop) : Prop := MM E K yX4_foundFrom cX4_foundFrom 3 (some .int) args σ post
theorem kcX4_foundFrom : Cond.code yX4_foundFrom cX4_foundFrom 3 (some .int) ∈ mx_tbl := mx_in 718 (by decide +kernel) rfl
theorem ktX4_foundFrom : Cond.static yX4_foundFrom ∈ mx_tbl := mx_in 717 (by decide +kernel) rfl
theorem kyX4_foundFrom : yX4_foundFrom.cls ≠ "java/lang/invoke/MethodHandle" ∧ yX4_foundFrom.cls ≠ "java/lang/invoke/VarHandle" ∧ (parseMethodDescriptor yX4_foundFrom.desc).map (fun d => d.parameters.length) = some 2 := by decide +kernel
abbrev MX4_crowd (E : mx_E) (K : Nat) (args : List Value) (σ : Mem) (post : Option Value → Mem → Prop) : Prop := MM E K yX4_crowd cX4_crowd 4 (some .int) args σ post
theorem kcX4_crowd : Cond.code yX4_crowd cX4_crowd 4 (some .int) ∈ mx_tbl := mx_in 715 (by decide +kernel) rfl
theorem ktX4_crowd : Cond.static yX4_crowd ∈ mx_tbl := mx_in 714 (by decide +kernel) rfl
theorem kyX4_crowd : yX4_crowd.cls ≠ "java/lang/invoke/MethodHandle" ∧ yX4_crowd.cls ≠ "java/lang/invoke/VarHandle" ∧ (parseMethodDescriptor yX4_crowd.desc).map (fun d => d.parameters.length) = some 2 := by decide +kernel
abbrev MX4_isFound (E : mx_E) (K : Nat) (args : List Value) (σ : Mem) (post : Option Value → Mem → Prop) : Prop := MM E K yX4_isFound cX4_isFound 2 (some .boolean) args σ post
theorem kcX4_isFound : Cond.code yX4_isFound cX4_isFound 2 (some .boolean) ∈ mx_tbl := mx_in 712 (by decide +kernel) rfl
theorem ktX4_isFound : Cond.static yX4_isFound ∈ mx_tbl := mx_in 711 (by decide +kernel) rfl
theorem kyX4_isFound : yX4_isFound.cls ≠ "java/lang/invoke/MethodHandle" ∧ yX4_isFound.cls ≠ "java/lang/invoke/VarHandle" ∧ (parseMethodDescriptor yX4_isFound.desc).map (fun d => d.parameters.length) = some 2 := by decide +kernel
abbrev MX4_nextKept (E : mx_E) (K : Nat) (args : List Value) (σ : Mem) (post : Option Value → Mem → Prop) : Prop := MM E K yX4_nextKept cX4_nextKept 3 (some .int) args σ post
theorem kcX4_nextKept : Cond.code yX4_nextKept cX4_nextKept 3 (some .int) ∈ mx_tbl := mx_in 724 (by decide +kernel) rfl
theorem ktX4_nextKept : Cond.static yX4_nextKept ∈ mx_tbl := mx_in 723 (by decide +kernel) rfl
theorem kyX4_nextKept : yX4_nextKept.cls ≠ "java/lang/invoke/MethodHandle" ∧ yX4_nextKept.cls ≠ "java/lang/invoke/VarHandle" ∧ (parseMethodDescriptor yX4_nextKept.desc).map (fun d => d.parameters.length) = some 2 := by decide +kernel
abbrev MX4_ages (E : mx_E) (K : Nat) (args : List Value) (σ : Mem) (post : Option Value → Mem → Prop) : Prop := MM E K yX4_ages cX4_ages 5 none args σ post
theorem kcX4_ages : Cond.code yX4_ages cX4_ages 5 none ∈ mx_tbl := mx_in 700 (by decide +kernel) rfl
theorem ktX4_ages : Cond.static yX4_ages ∈ mx_tbl := mx_in 699 (by decide +kernel) rfl
theorem kyX4_ages : yX4_ages.cls ≠ "java/lang/invoke/MethodHandle" ∧ yX4_ages.cls ≠ "java/lang/invoke/VarHandle" ∧ (parseMethodDescriptor yX4_ages.desc).map (fun d => d.parameters.length) = some 2 := by decide +kernel
abbrev MX4_loses (E : mx_E) (K : Nat) (args : List Value) (σ : Mem) (post : Option Value → Mem → Prop) : Prop := MM E K yX4_loses cX4_loses 3 none args σ post
theorem kcX4_loses : Cond.code yX4_loses cX4_loses 3 none ∈ mx_tbl := mx_in 721 (by decide +kernel) rfl
theorem ktX4_loses : Cond.static yX4_loses ∈ mx_tbl := mx_in 720 (by decide +kernel) rfl
theorem kyX4_loses : yX4_loses.cls ≠ "java/lang/invoke/MethodHandle" ∧ yX4_loses.cls ≠ "java/lang/invoke/VarHandle" ∧ (parseMethodDescriptor yX4_loses.desc).map (fun d => d.parameters.length) = some 2 := by decide +kernel
abbrev MX4_week (E : mx_E) (K : Nat) (args : List Value) (σ : Mem) (post : Option Value → Mem → Prop) : Prop := MM E K yX4_week cX4_week 2 none args σ post
theorem kcX4_week : Cond.code yX4_week cX4_week 2 none ∈ mx_tbl := mx_in 694 (by decide +kernel) rfl
theorem ktX4_week : Cond.static yX4_week ∈ mx_tbl := mx_in 693 (by decide +kernel) rfl
theorem kyX4_week : yX4_week.cls ≠ "java/lang/invoke/MethodHandle" ∧ yX4_week.cls ≠ "java/lang/invoke/VarHandle" ∧ (parseMethodDescriptor yX4_week.desc).map (fun d => d.parameters.length) = some 1 := by decide +kernel
abbrev MX4_weeksOn (E : mx_E) (K : Nat) (args : List Value) (σ : Mem) (post : Option Value → Mem → Prop) : Prop := MM E K yX4_weeksOn cX4_weeksOn 3 none args σ post
theorem kcX4_weeksOn : Cond.code yX4_weeksOn cX4_weeksOn 3 none ∈ mx_tbl := mx_in 691 (by decide +kernel) rfl
theorem ktX4_weeksOn : Cond.static yX4_weeksOn ∈ mx_tbl := mx_in 690 (by decide +kernel) rfl
theorem kyX4_weeksOn : yX4_weeksOn.cls ≠ "java/lang/invoke/MethodHandle" ∧ yX4_weeksOn.cls ≠ "java/lang/invoke/VarHandle" ∧ (parseMethodDescriptor yX4_weeksOn.desc).map (fun d => d.parameters.length) = some 2 := by decide +kernel
abbrev MX4_burnsIn (E : mx_E) (K : Nat) (args : List Value) (σ : Mem) (post : Option Value → Mem → Prop) : Prop := MM E K yX4_burnsIn cX4_burnsIn 3 (some .int) args σ post
theorem kcX4_burnsIn : Cond.code yX4_burnsIn cX4_burnsIn 3 (some .int) ∈ mx_tbl := mx_in 810 (by decide +kernel) rfl
theorem ktX4_burnsIn : Cond.static yX4_burnsIn ∈ mx_tbl := mx_in 809 (by decide +kernel) rfl
theorem kyX4_burnsIn : yX4_burnsIn.cls ≠ "java/lang/invoke/MethodHandle" ∧ yX4_burnsIn.cls ≠ "java/lang/invoke/VarHandle" ∧ (parseMethodDescriptor yX4_burnsIn.desc).map (fun d => d.parameters.length) = some 1 := by decide +kernel
abbrev MX4_allPeople (E : mx_E) (K : Nat) (args : List Value) (σ : Mem) (post : Option Value → Mem → Prop) : Prop := MM E K yX4_allPeople cX4_allPeople 3 (some .int) args σ post
theorem kcX4_allPeople : Cond.code yX4_allPeople cX4_allPeople 3 (some .int) ∈ mx_tbl := mx_in 904 (by decide +kernel) rfl
theorem ktX4_allPeople : Cond.static yX4_allPeople ∈ mx_tbl := mx_in 903 (by decide +kernel) rfl
theorem kyX4_allPeople : yX4_allPeople.cls ≠ "java/lang/invoke/MethodHandle" ∧ yX4_allPeople.cls ≠ "java/lang/invoke/VarHandle" ∧ (parseMethodDescriptor yX4_allPeople.desc).map (fun d => d.parameters.length) = some 1 := by decide +kernel
abbrev MX4_letter (E : mx_E) (K : Nat) (args : List Value) (σ : Mem) (post : Option Value → Mem → Prop) : Prop := MM E K yX4_letter cX4_letter 2 (some .int) args σ post
theorem kcX4_letter : Cond.code yX4_letter cX4_letter 2 (some .int) ∈ mx_tbl := mx_in 640 (by decide +kernel) rfl
theorem kiX4_letter : Cond.instanceMethod yX4_letter ∈ mx_tbl := mx_in 638 (by decide +kernel) rfl
theorem ksX4_letter : Cond.selects yX4_letter.cls yX4_letter yX4_letter ∈ mx_tbl := mx_in 639 (by decide +kernel) rfl
theorem kyX4_letter : yX4_letter.cls ≠ "java/lang/invoke/MethodHandle" ∧ yX4_letter.cls ≠ "java/lang/invoke/VarHandle" ∧ (parseMethodDescriptor yX4_letter.desc).map (fun d => d.parameters.length) = some 1 := by decide +kernel
abbrev MX4_here (E : mx_E) (K : Nat) (args : List Value) (σ : Mem) (post : Option Value → Mem → Prop) : Prop := MM E K yX4_here cX4_here 1 (some .int) args σ post
theorem kcX4_here : Cond.code yX4_here cX4_here 1 (some .int) ∈ mx_tbl := mx_in 656 (by decide +kernel) rfl
theorem kiX4_here : Cond.instanceMethod yX4_here ∈ mx_tbl := mx_in 655 (by decide +kernel) rfl
theorem ksX4_here : Cond.selects yX4_here.cls yX4_here yX4_here ∈ mx_tbl := mx_in 27 (by decide +kernel) rfl
theorem kyX4_here : yX4_here.cls ≠ "java/lang/invoke/MethodHandle" ∧ yX4_here.cls ≠ "java/lang/invoke/VarHandle" ∧ (parseMethodDescriptor yX4_here.desc).map (fun d => d.parameters.length) = some 0 := by decide +kernel
abbrev MX4_readsNumber (E : mx_E) (K : Nat) (args : List Value) (σ : Mem) (post : Option Value → Mem → Prop) : Prop := MM E K yX4_readsNumber cX4_readsNumber 4 (some .boolean) args σ post
theorem kcX4_readsNumber : Cond.code yX4_readsNumber cX4_readsNumber 4 (some .boolean) ∈ mx_tbl := mx_in 667 (by decide +kernel) rfl
theorem kiX4_readsNumber : Cond.instanceMethod yX4_readsNumber ∈ mx_tbl := mx_in 666 (by decide +kernel) rfl
theorem ksX4_readsNumber : Cond.selects yX4_readsNumber.cls yX4_readsNumber yX4_readsNumber ∈ mx_tbl := mx_in 29 (by decide +kernel) rfl
theorem kyX4_readsNumber : yX4_readsNumber.cls ≠ "java/lang/invoke/MethodHandle" ∧ yX4_readsNumber.cls ≠ "java/lang/invoke/VarHandle" ∧ (parseMethodDescriptor yX4_readsNumber.desc).map (fun d => d.parameters.length) = some 2 := by decide +kernel
abbrev MX4_kindBy (E : mx_E) (K : Nat) (args : List Value) (σ : Mem) (post : Option Value → Mem → Prop) : Prop := MM E K yX4_kindBy cX4_kindBy 1 (some .int) args σ post
theorem kcX4_kindBy : Cond.code yX4_kindBy cX4_kindBy 1 (some .int) ∈ mx_tbl := mx_in 663 (by decide +kernel) rfl
theorem ktX4_kindBy : Cond.static yX4_kindBy ∈ mx_tbl := mx_in 662 (by decide +kernel) rfl
theorem kyX4_kindBy : yX4_kindBy.cls ≠ "java/lang/invoke/MethodHandle" ∧ yX4_kindBy.cls ≠ "java/lang/invoke/VarHandle" ∧ (parseMethodDescriptor yX4_kindBy.desc).map (fun d => d.parameters.length) = some 1 := by decide +kernel
abbrev MX4_readsKind (E : mx_E) (K : Nat) (args : List Value) (σ : Mem) (post : Option Value → Mem → Prop) : Prop := MM E K yX4_readsKind cX4_readsKind 1 (some .boolean) args σ post
theorem kcX4_readsKind : Cond.code yX4_readsKind cX4_readsKind 1 (some .boolean) ∈ mx_tbl := mx_in 660 (by decide +kernel) rfl
theorem kiX4_readsKind : Cond.instanceMethod yX4_readsKind ∈ mx_tbl := mx_in 659 (by decide +kernel) rfl
theorem ksX4_readsKind : Cond.selects yX4_readsKind.cls yX4_readsKind yX4_readsKind ∈ mx_tbl := mx_in 28 (by decide +kernel) rfl
theorem kyX4_readsKind : yX4_readsKind.cls ≠ "java/lang/invoke/MethodHandle" ∧ yX4_readsKind.cls ≠ "java/lang/invoke/VarHandle" ∧ (parseMethodDescriptor yX4_readsKind.desc).map (fun d => d.parameters.length) = some 0 := by decide +kernel
abbrev MX4_readsStatement (E : mx_E) (K : Nat) (args : List Value) (σ : Mem) (post : Option Value → Mem → Prop) : Prop := MM E K yX4_readsStatement cX4_readsStatement 3 (some .boolean) args σ post
theorem kcX4_readsStatement : Cond.code yX4_readsStatement cX4_readsStatement 3 (some .boolean) ∈ mx_tbl := mx_in 652 (by decide +kernel) rfl
theorem kiX4_readsStatement : Cond.instanceMethod yX4_readsStatement ∈ mx_tbl := mx_in 651 (by decide +kernel) rfl
theorem ksX4_readsStatement : Cond.selects yX4_readsStatement.cls yX4_readsStatement yX4_readsStatement ∈ mx_tbl := mx_in 26 (by decide +kernel) rfl
theorem kyX4_readsStatement : yX4_readsStatement.cls ≠ "java/lang/invoke/MethodHandle" ∧ yX4_readsStatement.cls ≠ "java/lang/invoke/VarHandle" ∧ (parseMethodDescriptor yX4_readsStatement.desc).map (fun d => d.parameters.length) = some 0 := by decide +kernel
abbrev MX4_addsHouse (E : mx_E) (K : Nat) (args : List Value) (σ : Mem) (post : Option Value → Mem → Prop) : Prop := MM E K yX4_addsHouse cX4_addsHouse 3 (some .boolean) args σ post
theorem kcX4_addsHouse : Cond.code yX4_addsHouse cX4_addsHouse 3 (some .boolean) ∈ mx_tbl := mx_in 681 (by decide +kernel) rfl
theorem kiX4_addsHouse : Cond.instanceMethod yX4_addsHouse ∈ mx_tbl := mx_in 680 (by decide +kernel) rfl
theorem ksX4_addsHouse : Cond.selects yX4_addsHouse.cls yX4_addsHouse yX4_addsHouse ∈ mx_tbl := mx_in 31 (by decide +kernel) rfl
theorem kyX4_addsHouse : yX4_addsHouse.cls ≠ "java/lang/invoke/MethodHandle" ∧ yX4_addsHouse.cls ≠ "java/lang/invoke/VarHandle" ∧ (parseMethodDescriptor yX4_addsHouse.desc).map (fun d => d.parameters.length) = some 0 := by decide +kernel
abbrev MX4_isDone (E : mx_E) (K : Nat) (args : List Value) (σ : Mem) (post : Option Value → Mem → Prop) : Prop := MM E K yX4_isDone cX4_isDone 4 (some .boolean) args σ post
theorem kcX4_isDone : Cond.code yX4_isDone cX4_isDone 4 (some .boolean) ∈ mx_tbl := mx_in 677 (by decide +kernel) rfl
theorem kiX4_isDone : Cond.instanceMethod yX4_isDone ∈ mx_tbl := mx_in 676 (by decide +kernel) rfl
theorem ksX4_isDone : Cond.selects yX4_isDone.cls yX4_isDone yX4_isDone ∈ mx_tbl := mx_in 30 (by decide +kernel) rfl
theorem kyX4_isDone : yX4_isDone.cls ≠ "java/lang/invoke/MethodHandle" ∧ yX4_isDone.cls ≠ "java/lang/invoke/VarHandle" ∧ (parseMethodDescriptor yX4_isDone.desc).map (fun d => d.parameters.length) = some 1 := by decide +kernel
abbrev MX4_town (E : mx_E) (K : Nat) (args : List Value) (σ : Mem) (post : Option Value → Mem → Prop) : Prop := MM E K yX4_town cX4_town 6 (some .int) args σ post
theorem kcX4_town : Cond.code yX4_town cX4_town 6 (some .int) ∈ mx_tbl := mx_in 648 (by decide +kernel) rfl
theorem kiX4_town : Cond.instanceMethod yX4_town ∈ mx_tbl := mx_in 646 (by decide +kernel) rfl
theorem ksX4_town : Cond.selects yX4_town.cls yX4_town yX4_town ∈ mx_tbl := mx_in 647 (by decide +kernel) rfl
theorem kyX4_town : yX4_town.cls ≠ "java/lang/invoke/MethodHandle" ∧ yX4_town.cls ≠ "java/lang/invoke/VarHandle" ∧ (parseMethodDescriptor yX4_town.desc).map (fun d => d.parameters.length) = some 0 := by decide +kernel
abbrev MX4_house (E : mx_E) (K : Nat) (args : List Value) (σ : Mem) (post : Option Value → Mem → Prop) : Prop := MM E K yX4_house cX4_house 3 (some .int) args σ post
theorem kcX4_house : Cond.code yX4_house cX4_house 3 (some .int) ∈ mx_tbl := mx_in 728 (by decide +kernel) rfl
theorem kiX4_house : Cond.instanceMethod yX4_house ∈ mx_tbl := mx_in 726 (by decide +kernel) rfl
theorem ksX4_house : Cond.selects yX4_house.cls yX4_house yX4_house ∈ mx_tbl := mx_in 727 (by decide +kernel) rfl
theorem kyX4_house : yX4_house.cls ≠ "java/lang/invoke/MethodHandle" ∧ yX4_house.cls ≠ "java/lang/invoke/VarHandle" ∧ (parseMethodDescriptor yX4_house.desc).map (fun d => d.parameters.length) = some 2 := by decide +kernel
abbrev MX4_wrongBy (E : mx_E) (K : Nat) (args : List Value) (σ : Mem) (post : Option Value → Mem → Prop) : Prop := MM E K yX4_wrongBy cX4_wrongBy 3 (some .int) args σ post
theorem kcX4_wrongBy : Cond.code yX4_wrongBy cX4_wrongBy 3 (some .int) ∈ mx_tbl := mx_in 739 (by decide +kernel) rfl
theorem ktX4_wrongBy : Cond.static yX4_wrongBy ∈ mx_tbl := mx_in 738 (by decide +kernel) rfl
theorem kyX4_wrongBy : yX4_wrongBy.cls ≠ "java/lang/invoke/MethodHandle" ∧ yX4_wrongBy.cls ≠ "java/lang/invoke/VarHandle" ∧ (parseMethodDescriptor yX4_wrongBy.desc).map (fun d => d.parameters.length) = some 3 := by decide +kernel
abbrev MX4_sets (E : mx_E) (K : Nat) (args : List Value) (σ : Mem) (post : Option Value → Mem → Prop) : Prop := MM E K yX4_sets cX4_sets 4 (some .int) args σ post
theorem kcX4_sets : Cond.code yX4_sets cX4_sets 4 (some .int) ∈ mx_tbl := mx_in 743 (by decide +kernel) rfl
theorem kiX4_sets : Cond.instanceMethod yX4_sets ∈ mx_tbl := mx_in 742 (by decide +kernel) rfl
theorem ksX4_sets : Cond.selects yX4_sets.cls yX4_sets yX4_sets ∈ mx_tbl := mx_in 34 (by decide +kernel) rfl
theorem kyX4_sets : yX4_sets.cls ≠ "java/lang/invoke/MethodHandle" ∧ yX4_sets.cls ≠ "java/lang/invoke/VarHandle" ∧ (parseMethodDescriptor yX4_sets.desc).map (fun d => d.parameters.length) = some 2 := by decide +kernel
abbrev MX4_setsOf (E : mx_E) (K : Nat) (args : List Value) (σ : Mem) (post : Option Value → Mem → Prop) : Prop := MM E K yX4_setsOf cX4_setsOf 6 (some .int) args σ post
theorem kcX4_setsOf : Cond.code yX4_setsOf cX4_setsOf 6 (some .int) ∈ mx_tbl := mx_in 736 (by decide +kernel) rfl
theorem kiX4_setsOf : Cond.instanceMethod yX4_setsOf ∈ mx_tbl := mx_in 735 (by decide +kernel) rfl
theorem ksX4_setsOf : Cond.selects yX4_setsOf.cls yX4_setsOf yX4_setsOf ∈ mx_tbl := mx_in 33 (by decide +kernel) rfl
theorem kyX4_setsOf : yX4_setsOf.cls ≠ "java/lang/invoke/MethodHandle" ∧ yX4_setsOf.cls ≠ "java/lang/invoke/VarHandle" ∧ (parseMethodDescriptor yX4_setsOf.desc).map (fun d => d.parameters.length) = some 4 := by decide +kernel
abbrev MX4_peoples (E : mx_E) (K : Nat) (args : List Value) (σ : Mem) (post : Option Value → Mem → Prop) : Prop := MM E K yX4_peoples cX4_peoples 3 (some .int) args σ post
theorem kcX4_peoples : Cond.code yX4_peoples cX4_peoples 3 (some .int) ∈ mx_tbl := mx_in 732 (by decide +kernel) rfl
theorem kiX4_peoples : Cond.instanceMethod yX4_peoples ∈ mx_tbl := mx_in 730 (by decide +kernel) rfl
theorem ksX4_peoples : Cond.selects yX4_peoples.cls yX4_peoples yX4_peoples ∈ mx_tbl := mx_in 731 (by decide +kernel) rfl
theorem kyX4_peoples : yX4_peoples.cls ≠ "java/lang/invoke/MethodHandle" ∧ yX4_peoples.cls ≠ "java/lang/invoke/VarHandle" ∧ (parseMethodDescriptor yX4_peoples.desc).map (fun d => d.parameters.length) = some 2 := by decide +kernel
abbrev MX4_airs (E : mx_E) (K : Nat) (args : List Value) (σ : Mem) (post : Option Value → Mem → Prop) : Prop := MM E K yX4_airs cX4_airs 2 (some .int) args σ post
theorem kcX4_airs : Cond.code yX4_airs cX4_airs 2 (some .int) ∈ mx_tbl := mx_in 747 (by decide +kernel) rfl
theorem kiX4_airs : Cond.instanceMethod yX4_airs ∈ mx_tbl := mx_in 745 (by decide +kernel) rfl
theorem ksX4_airs : Cond.selects yX4_airs.cls yX4_airs yX4_airs ∈ mx_tbl := mx_in 746 (by decide +kernel) rfl
theorem kyX4_airs : yX4_airs.cls ≠ "java/lang/invoke/MethodHandle" ∧ yX4_airs.cls ≠ "java/lang/invoke/VarHandle" ∧ (parseMethodDescriptor yX4_airs.desc).map (fun d => d.parameters.length) = some 1 := by decide +kernel
abbrev MX4_dents (E : mx_E) (K : Nat) (args : List Value) (σ : Mem) (post : Option Value → Mem → Prop) : Prop := MM E K yX4_dents cX4_dents 3 (some .int) args σ post
theorem kcX4_dents : Cond.code yX4_dents cX4_dents 3 (some .int) ∈ mx_tbl := mx_in 751 (by decide +kernel) rfl
theorem kiX4_dents : Cond.instanceMethod yX4_dents ∈ mx_tbl := mx_in 749 (by decide +kernel) rfl
theorem ksX4_dents : Cond.selects yX4_dents.cls yX4_dents yX4_dents ∈ mx_tbl := mx_in 750 (by decide +kernel) rfl
theorem kyX4_dents : yX4_dents.cls ≠ "java/lang/invoke/MethodHandle" ∧ yX4_dents.cls ≠ "java/lang/invoke/VarHandle" ∧ (parseMethodDescriptor yX4_dents.desc).map (fun d => d.parameters.length) = some 2 := by decide +kernel
abbrev MX4_keeps (E : mx_E) (K : Nat) (args : List Value) (σ : Mem) (post : Option Value → Mem → Prop) : Prop := MM E K yX4_keeps cX4_keeps 2 (some .int) args σ post
theorem kcX4_keeps : Cond.code yX4_keeps cX4_keeps 2 (some .int) ∈ mx_tbl := mx_in 755 (by decide +kernel) rfl
theorem kiX4_keeps : Cond.instanceMethod yX4_keeps ∈ mx_tbl := mx_in 753 (by decide +kernel) rfl
theorem ksX4_keeps : Cond.selects yX4_keeps.cls yX4_keeps yX4_keeps ∈ mx_tbl := mx_in 754 (by decide +kernel) rfl
theorem kyX4_keeps : yX4_keeps.cls ≠ "java/lang/invoke/MethodHandle" ∧ yX4_keeps.cls ≠ "java/lang/invoke/VarHandle" ∧ (parseMethodDescriptor yX4_keeps.desc).map (fun d => d.parameters.length) = some 1 := by decide +kernel
abbrev MX4_visits (E : mx_E) (K : Nat) (args : List Value) (σ : Mem) (post : Option Value → Mem → Prop) : Prop := MM E K yX4_visits cX4_visits 2 (some .int) args σ post
theorem kcX4_visits : Cond.code yX4_visits cX4_visits 2 (some .int) ∈ mx_tbl := mx_in 759 (by decide +kernel) rfl
theorem kiX4_visits : Cond.instanceMethod yX4_visits ∈ mx_tbl := mx_in 757 (by decide +kernel) rfl
theorem ksX4_visits : Cond.selects yX4_visits.cls yX4_visits yX4_visits ∈ mx_tbl := mx_in 758 (by decide +kernel) rfl
theorem kyX4_visits : yX4_visits.cls ≠ "java/lang/invoke/MethodHandle" ∧ yX4_visits.cls ≠ "java/lang/invoke/VarHandle" ∧ (parseMethodDescriptor yX4_visits.desc).map (fun d => d.parameters.length) = some 1 := by decide +kernel
abbrev MX4_candles (E : mx_E) (K : Nat) (args : List Value) (σ : Mem) (post : Option Value → Mem → Prop) : Prop := MM E K yX4_candles cX4_candles 3 (some .int) args σ post
theorem kcX4_candles : Cond.code yX4_candles cX4_candles 3 (some .int) ∈ mx_tbl := mx_in 763 (by decide +kernel) rfl
theorem kiX4_candles : Cond.instanceMethod yX4_candles ∈ mx_tbl := mx_in 761 (by decide +kernel) rfl
theorem ksX4_candles : Cond.selects yX4_candles.cls yX4_candles yX4_candles ∈ mx_tbl := mx_in 762 (by decide +kernel) rfl
theorem kyX4_candles : yX4_candles.cls ≠ "java/lang/invoke/MethodHandle" ∧ yX4_candles.cls ≠ "java/lang/invoke/VarHandle" ∧ (parseMethodDescriptor yX4_candles.desc).map (fun d => d.parameters.length) = some 1 := by decide +kernel
abbrev MX4_turn (E : mx_E) (K : Nat) (args : List Value) (σ : Mem) (post : Option Value → Mem → Prop) : Prop := MM E K yX4_turn cX4_turn 6 (some .int) args σ post
theorem kcX4_turn : Cond.code yX4_turn cX4_turn 6 (some .int) ∈ mx_tbl := mx_in 767 (by decide +kernel) rfl
theorem kiX4_turn : Cond.instanceMethod yX4_turn ∈ mx_tbl := mx_in 765 (by decide +kernel) rfl
theorem ksX4_turn : Cond.selects yX4_turn.cls yX4_turn yX4_turn ∈ mx_tbl := mx_in 766 (by decide +kernel) rfl
theorem kyX4_turn : yX4_turn.cls ≠ "java/lang/invoke/MethodHandle" ∧ yX4_turn.cls ≠ "java/lang/invoke/VarHandle" ∧ (parseMethodDescriptor yX4_turn.desc).map (fun d => d.parameters.length) = some 3 := by decide +kernel
abbrev MX4_weeks (E : mx_E) (K : Nat) (args : List Value) (σ : Mem) (post : Option Value → Mem → Prop) : Prop := MM E K yX4_weeks cX4_weeks 2 (some .int) args σ post
theorem kcX4_weeks : Cond.code yX4_weeks cX4_weeks 2 (some .int) ∈ mx_tbl := mx_in 771 (by decide +kernel) rfl
theorem kiX4_weeks : Cond.instanceMethod yX4_weeks ∈ mx_tbl := mx_in 769 (by decide +kernel) rfl
theorem ksX4_weeks : Cond.selects yX4_weeks.cls yX4_weeks yX4_weeks ∈ mx_tbl := mx_in 770 (by decide +kernel) rfl
theorem kyX4_weeks : yX4_weeks.cls ≠ "java/lang/invoke/MethodHandle" ∧ yX4_weeks.cls ≠ "java/lang/invoke/VarHandle" ∧ (parseMethodDescriptor yX4_weeks.desc).map (fun d => d.parameters.length) = some 1 := by decide +kernel
abbrev MX4_takes (E : mx_E) (K : Nat) (args : List Value) (σ : Mem) (post : Option Value → Mem → Prop) : Prop := MM E K yX4_takes cX4_takes 2 none args σ post
theorem kcX4_takes : Cond.code yX4_takes cX4_takes 2 none ∈ mx_tbl := mx_in 782 (by decide +kernel) rfl
theorem kiX4_takes : Cond.instanceMethod yX4_takes ∈ mx_tbl := mx_in 781 (by decide +kernel) rfl
theorem ksX4_takes : Cond.selects yX4_takes.cls yX4_takes yX4_takes ∈ mx_tbl := mx_in 35 (by decide +kernel) rfl
theorem kyX4_takes : yX4_takes.cls ≠ "java/lang/invoke/MethodHandle" ∧ yX4_takes.cls ≠ "java/lang/invoke/VarHandle" ∧ (parseMethodDescriptor yX4_takes.desc).map (fun d => d.parameters.length) = some 1 := by decide +kernel
abbrev MX4_houseThen (E : mx_E) (K : Nat) (args : List Value) (σ : Mem) (post : Option Value → Mem → Prop) : Prop := MM E K yX4_houseThen cX4_houseThen 5 (some .int) args σ post
theorem kcX4_houseThen : Cond.code yX4_houseThen cX4_houseThen 5 (some .int) ∈ mx_tbl := mx_in 778 (by decide +kernel) rfl
theorem kiX4_houseThen : Cond.instanceMethod yX4_houseThen ∈ mx_tbl := mx_in 776 (by decide +kernel) rfl
theorem ksX4_houseThen : Cond.selects yX4_houseThen.cls yX4_houseThen yX4_houseThen ∈ mx_tbl := mx_in 777 (by decide +kernel) rfl
theorem kyX4_houseThen : yX4_houseThen.cls ≠ "java/lang/invoke/MethodHandle" ∧ yX4_houseThen.cls ≠ "java/lang/invoke/VarHandle" ∧ (parseMethodDescriptor yX4_houseThen.desc).map (fun d => d.parameters.length) = some 3 := by decide +kernel
abbrev MX4_then (E : mx_E) (K : Nat) (args : List Value) (σ : Mem) (post : Option Value → Mem → Prop) : Prop := MM E K yX4_then cX4_then 4 (some .int) args σ post
theorem kcX4_then : Cond.code yX4_then cX4_then 4 (some .int) ∈ mx_tbl := mx_in 786 (by decide +kernel) rfl
theorem kiX4_then : Cond.instanceMethod yX4_then ∈ mx_tbl := mx_in 784 (by decide +kernel) rfl
theorem ksX4_then : Cond.selects yX4_then.cls yX4_then yX4_then ∈ mx_tbl := mx_in 785 (by decide +kernel) rfl
theorem kyX4_then : yX4_then.cls ≠ "java/lang/invoke/MethodHandle" ∧ yX4_then.cls ≠ "java/lang/invoke/VarHandle" ∧ (parseMethodDescriptor yX4_then.desc).map (fun d => d.parameters.length) = some 2 := by decide +kernel
abbrev MX4_whenLost (E : mx_E) (K : Nat) (args : List Value) (σ : Mem) (post : Option Value → Mem → Prop) : Prop := MM E K yX4_whenLost cX4_whenLost 3 (some .int) args σ post
theorem kcX4_whenLost : Cond.code yX4_whenLost cX4_whenLost 3 (some .int) ∈ mx_tbl := mx_in 803 (by decide +kernel) rfl
theorem kiX4_whenLost : Cond.instanceMethod yX4_whenLost ∈ mx_tbl := mx_in 802 (by decide +kernel) rfl
theorem ksX4_whenLost : Cond.selects yX4_whenLost.cls yX4_whenLost yX4_whenLost ∈ mx_tbl := mx_in 38 (by decide +kernel) rfl
theorem kyX4_whenLost : yX4_whenLost.cls ≠ "java/lang/invoke/MethodHandle" ∧ yX4_whenLost.cls ≠ "java/lang/invoke/VarHandle" ∧ (parseMethodDescriptor yX4_whenLost.desc).map (fun d => d.parameters.length) = some 1 := by decide +kernel
abbrev MX4_lostOf (E : mx_E) (K : Nat) (args : List Value) (σ : Mem) (post : Option Value → Mem → Prop) : Prop := MM E K yX4_lostOf cX4_lostOf 2 (some .int) args σ post
theorem kcX4_lostOf : Cond.code yX4_lostOf cX4_lostOf 2 (some .int) ∈ mx_tbl := mx_in 799 (by decide +kernel) rfl
theorem kiX4_lostOf : Cond.instanceMethod yX4_lostOf ∈ mx_tbl := mx_in 798 (by decide +kernel) rfl
theorem ksX4_lostOf : Cond.selects yX4_lostOf.cls yX4_lostOf yX4_lostOf ∈ mx_tbl := mx_in 37 (by decide +kernel) rfl
theorem kyX4_lostOf : yX4_lostOf.cls ≠ "java/lang/invoke/MethodHandle" ∧ yX4_lostOf.cls ≠ "java/lang/invoke/VarHandle" ∧ (parseMethodDescriptor yX4_lostOf.desc).map (fun d => d.parameters.length) = some 1 := by decide +kernel
abbrev MX4_firstLost (E : mx_E) (K : Nat) (args : List Value) (σ : Mem) (post : Option Value → Mem → Prop) : Prop := MM E K yX4_firstLost cX4_firstLost 5 (some .int) args σ post
theorem kcX4_firstLost : Cond.code yX4_firstLost cX4_firstLost 5 (some .int) ∈ mx_tbl := mx_in 794 (by decide +kernel) rfl
theorem kiX4_firstLost : Cond.instanceMethod yX4_firstLost ∈ mx_tbl := mx_in 793 (by decide +kernel) rfl
theorem ksX4_firstLost : Cond.selects yX4_firstLost.cls yX4_firstLost yX4_firstLost ∈ mx_tbl := mx_in 36 (by decide +kernel) rfl
theorem kyX4_firstLost : yX4_firstLost.cls ≠ "java/lang/invoke/MethodHandle" ∧ yX4_firstLost.cls ≠ "java/lang/invoke/VarHandle" ∧ (parseMethodDescriptor yX4_firstLost.desc).map (fun d => d.parameters.length) = some 0 := by decide +kernel
abbrev MX4_lost (E : mx_E) (K : Nat) (args : List Value) (σ : Mem) (post : Option Value → Mem → Prop) : Prop := MM E K yX4_lost cX4_lost 2 (some .int) args σ post
theorem kcX4_lost : Cond.code yX4_lost cX4_lost 2 (some .int) ∈ mx_tbl := mx_in 790 (by decide +kernel) rfl
theorem kiX4_lost : Cond.instanceMethod yX4_lost ∈ mx_tbl := mx_in 788 (by decide +kernel) rfl
theorem ksX4_lost : Cond.selects yX4_lost.cls yX4_lost yX4_lost ∈ mx_tbl := mx_in 789 (by decide +kernel) rfl
theorem kyX4_lost : yX4_lost.cls ≠ "java/lang/invoke/MethodHandle" ∧ yX4_lost.cls ≠ "java/lang/invoke/VarHandle" ∧ (parseMethodDescriptor yX4_lost.desc).map (fun d => d.parameters.length) = some 1 := by decide +kernel
abbrev MX4_dark (E : mx_E) (K : Nat) (args : List Value) (σ : Mem) (post : Option Value → Mem → Prop) : Prop := MM E K yX4_dark cX4_dark 2 (some .int) args σ post
theorem kcX4_dark : Cond.code yX4_dark cX4_dark 2 (some .int) ∈ mx_tbl := mx_in 807 (by decide +kernel) rfl
theorem kiX4_dark : Cond.instanceMethod yX4_dark ∈ mx_tbl := mx_in 805 (by decide +kernel) rfl
theorem ksX4_dark : Cond.selects yX4_dark.cls yX4_dark yX4_dark ∈ mx_tbl := mx_in 806 (by decide +kernel) rfl
theorem kyX4_dark : yX4_dark.cls ≠ "java/lang/invoke/MethodHandle" ∧ yX4_dark.cls ≠ "java/lang/invoke/VarHandle" ∧ (parseMethodDescriptor yX4_dark.desc).map (fun d => d.parameters.length) = some 0 := by decide +kernel
abbrev MX4_keptThen (E : mx_E) (K : Nat) (args : List Value) (σ : Mem) (post : Option Value → Mem → Prop) : Prop := MM E K yX4_keptThen cX4_keptThen 2 (some .int) args σ post
theorem kcX4_keptThen : Cond.code yX4_keptThen cX4_keptThen 2 (some .int) ∈ mx_tbl := mx_in 818 (by decide +kernel) rfl
theorem kiX4_keptThen : Cond.instanceMethod yX4_keptThen ∈ mx_tbl := mx_in 817 (by decide +kernel) rfl
theorem ksX4_keptThen : Cond.selects yX4_keptThen.cls yX4_keptThen yX4_keptThen ∈ mx_tbl := mx_in 39 (by decide +kernel) rfl
theorem kyX4_keptThen : yX4_keptThen.cls ≠ "java/lang/invoke/MethodHandle" ∧ yX4_keptThen.cls ≠ "java/lang/invoke/VarHandle" ∧ (parseMethodDescriptor yX4_keptThen.desc).map (fun d => d.parameters.length) = some 1 := by decide +kernel
abbrev MX4_still (E : mx_E) (K : Nat) (args : List Value) (σ : Mem) (post : Option Value → Mem → Prop) : Prop := MM E K yX4_still cX4_still 2 (some .int) args σ post
theorem kcX4_still : Cond.code yX4_still cX4_still 2 (some .int) ∈ mx_tbl := mx_in 814 (by decide +kernel) rfl
theorem kiX4_still : Cond.instanceMethod yX4_still ∈ mx_tbl := mx_in 812 (by decide +kernel) rfl
theorem ksX4_still : Cond.selects yX4_still.cls yX4_still yX4_still ∈ mx_tbl := mx_in 813 (by decide +kernel) rfl
theorem kyX4_still : yX4_still.cls ≠ "java/lang/invoke/MethodHandle" ∧ yX4_still.cls ≠ "java/lang/invoke/VarHandle" ∧ (parseMethodDescriptor yX4_still.desc).map (fun d => d.parameters.length) = some 0 := by decide +kernel
abbrev MX4_move (E : mx_E) (K : Nat) (args : List Value) (σ : Mem) (post : Option Value → Mem → Prop) : Prop := MM E K yX4_move cX4_move 8 (some .int) args σ post
theorem kcX4_move : Cond.code yX4_move cX4_move 8 (some .int) ∈ mx_tbl := mx_in 822 (by decide +kernel) rfl
theorem kiX4_move : Cond.instanceMethod yX4_move ∈ mx_tbl := mx_in 820 (by decide +kernel) rfl
theorem ksX4_move : Cond.selects yX4_move.cls yX4_move yX4_move ∈ mx_tbl := mx_in 821 (by decide +kernel) rfl
theorem kyX4_move : yX4_move.cls ≠ "java/lang/invoke/MethodHandle" ∧ yX4_move.cls ≠ "java/lang/invoke/VarHandle" ∧ (parseMethodDescriptor yX4_move.desc).map (fun d => d.parameters.length) = some 1 := by decide +kernel
abbrev MX4_isNoneLost (E : mx_E) (K : Nat) (args : List Value) (σ : Mem) (post : Option Value → Mem → Prop) : Prop := MM E K yX4_isNoneLost cX4_isNoneLost 2 (some .boolean) args σ post
theorem kcX4_isNoneLost : Cond.code yX4_isNoneLost cX4_isNoneLost 2 (some .boolean) ∈ mx_tbl := mx_in 830 (by decide +kernel) rfl
theorem kiX4_isNoneLost : Cond.instanceMethod yX4_isNoneLost ∈ mx_tbl := mx_in 829 (by decide +kernel) rfl
theorem ksX4_isNoneLost : Cond.selects yX4_isNoneLost.cls yX4_isNoneLost yX4_isNoneLost ∈ mx_tbl := mx_in 40 (by decide +kernel) rfl
theorem kyX4_isNoneLost : yX4_isNoneLost.cls ≠ "java/lang/invoke/MethodHandle" ∧ yX4_isNoneLost.cls ≠ "java/lang/invoke/VarHandle" ∧ (parseMethodDescriptor yX4_isNoneLost.desc).map (fun d => d.parameters.length) = some 1 := by decide +kernel
abbrev MX4_air (E : mx_E) (K : Nat) (args : List Value) (σ : Mem) (post : Option Value → Mem → Prop) : Prop := MM E K yX4_air cX4_air 6 (some .int) args σ post
theorem kcX4_air : Cond.code yX4_air cX4_air 6 (some .int) ∈ mx_tbl := mx_in 826 (by decide +kernel) rfl
theorem kiX4_air : Cond.instanceMethod yX4_air ∈ mx_tbl := mx_in 824 (by decide +kernel) rfl
theorem ksX4_air : Cond.selects yX4_air.cls yX4_air yX4_air ∈ mx_tbl := mx_in 825 (by decide +kernel) rfl
theorem kyX4_air : yX4_air.cls ≠ "java/lang/invoke/MethodHandle" ∧ yX4_air.cls ≠ "java/lang/invoke/VarHandle" ∧ (parseMethodDescriptor yX4_air.desc).map (fun d => d.parameters.length) = some 1 := by decide +kernel
abbrev MX4_start (E : mx_E) (K : Nat) (args : List Value) (σ : Mem) (post : Option Value → Mem → Prop) : Prop := MM E K yX4_start cX4_start 7 (some .int) args σ post
theorem kcX4_start : Cond.code yX4_start cX4_start 7 (some .int) ∈ mx_tbl := mx_in 834 (by decide +kernel) rfl
theorem kiX4_start : Cond.instanceMethod yX4_start ∈ mx_tbl := mx_in 832 (by decide +kernel) rfl
theorem ksX4_start : Cond.selects yX4_start.cls yX4_start yX4_start ∈ mx_tbl := mx_in 833 (by decide +kernel) rfl
theorem kyX4_start : yX4_start.cls ≠ "java/lang/invoke/MethodHandle" ∧ yX4_start.cls ≠ "java/lang/invoke/VarHandle" ∧ (parseMethodDescriptor yX4_start.desc).map (fun d => d.parameters.length) = some 2 := by decide +kernel
abbrev MX4_buy (E : mx_E) (K : Nat) (args : List Value) (σ : Mem) (post : Option Value → Mem → Prop) : Prop := MM E K yX4_buy cX4_buy 4 (some .int) args σ post
theorem kcX4_buy : Cond.code yX4_buy cX4_buy 4 (some .int) ∈ mx_tbl := mx_in 838 (by decide +kernel) rfl
theorem kiX4_buy : Cond.instanceMethod yX4_buy ∈ mx_tbl := mx_in 836 (by decide +kernel) rfl
theorem ksX4_buy : Cond.selects yX4_buy.cls yX4_buy yX4_buy ∈ mx_tbl := mx_in 837 (by decide +kernel) rfl
theorem kyX4_buy : yX4_buy.cls ≠ "java/lang/invoke/MethodHandle" ∧ yX4_buy.cls ≠ "java/lang/invoke/VarHandle" ∧ (parseMethodDescriptor yX4_buy.desc).map (fun d => d.parameters.length) = some 1 := by decide +kernel
abbrev MX4_bestKind (E : mx_E) (K : Nat) (args : List Value) (σ : Mem) (post : Option Value → Mem → Prop) : Prop := MM E K yX4_bestKind cX4_bestKind 8 (some .int) args σ post
theorem kcX4_bestKind : Cond.code yX4_bestKind cX4_bestKind 8 (some .int) ∈ mx_tbl := mx_in 842 (by decide +kernel) rfl
theorem kiX4_bestKind : Cond.instanceMethod yX4_bestKind ∈ mx_tbl := mx_in 840 (by decide +kernel) rfl
theorem ksX4_bestKind : Cond.selects yX4_bestKind.cls yX4_bestKind yX4_bestKind ∈ mx_tbl := mx_in 841 (by decide +kernel) rfl
theorem kyX4_bestKind : yX4_bestKind.cls ≠ "java/lang/invoke/MethodHandle" ∧ yX4_bestKind.cls ≠ "java/lang/invoke/VarHandle" ∧ (parseMethodDescriptor yX4_bestKind.desc).map (fun d => d.parameters.length) = some 2 := by decide +kernel
abbrev MX4_spareOnes (E : mx_E) (K : Nat) (args : List Value) (σ : Mem) (post : Option Value → Mem → Prop) : Prop := MM E K yX4_spareOnes cX4_spareOnes 3 (some .int) args σ post
theorem kcX4_spareOnes : Cond.code yX4_spareOnes cX4_spareOnes 3 (some .int) ∈ mx_tbl := mx_in 850 (by decide +kernel) rfl
theorem kiX4_spareOnes : Cond.instanceMethod yX4_spareOnes ∈ mx_tbl := mx_in 849 (by decide +kernel) rfl
theorem ksX4_spareOnes : Cond.selects yX4_spareOnes.cls yX4_spareOnes yX4_spareOnes ∈ mx_tbl := mx_in 41 (by decide +kernel) rfl
theorem kyX4_spareOnes : yX4_spareOnes.cls ≠ "java/lang/invoke/MethodHandle" ∧ yX4_spareOnes.cls ≠ "java/lang/invoke/VarHandle" ∧ (parseMethodDescriptor yX4_spareOnes.desc).map (fun d => d.parameters.length) = some 0 := by decide +kernel
abbrev MX4_fullest (E : mx_E) (K : Nat) (args : List Value) (σ : Mem) (post : Option Value → Mem → Prop) : Prop := MM E K yX4_fullest cX4_fullest 3 (some .int) args σ post
theorem kcX4_fullest : Cond.code yX4_fullest cX4_fullest 3 (some .int) ∈ mx_tbl := mx_in 854 (by decide +kernel) rfl
theorem kiX4_fullest : Cond.instanceMethod yX4_fullest ∈ mx_tbl := mx_in 853 (by decide +kernel) rfl
theorem ksX4_fullest : Cond.selects yX4_fullest.cls yX4_fullest yX4_fullest ∈ mx_tbl := mx_in 42 (by decide +kernel) rfl
theorem kyX4_fullest : yX4_fullest.cls ≠ "java/lang/invoke/MethodHandle" ∧ yX4_fullest.cls ≠ "java/lang/invoke/VarHandle" ∧ (parseMethodDescriptor yX4_fullest.desc).map (fun d => d.parameters.length) = some 0 := by decide +kernel
abbrev MX4_dustiest (E : mx_E) (K : Nat) (args : List Value) (σ : Mem) (post : Option Value → Mem → Prop) : Prop := MM E K yX4_dustiest cX4_dustiest 3 (some .int) args σ post
theorem kcX4_dustiest : Cond.code yX4_dustiest cX4_dustiest 3 (some .int) ∈ mx_tbl := mx_in 858 (by decide +kernel) rfl
theorem kiX4_dustiest : Cond.instanceMethod yX4_dustiest ∈ mx_tbl := mx_in 857 (by decide +kernel) rfl
theorem ksX4_dustiest : Cond.selects yX4_dustiest.cls yX4_dustiest yX4_dustiest ∈ mx_tbl := mx_in 43 (by decide +kernel) rfl
theorem kyX4_dustiest : yX4_dustiest.cls ≠ "java/lang/invoke/MethodHandle" ∧ yX4_dustiest.cls ≠ "java/lang/invoke/VarHandle" ∧ (parseMethodDescriptor yX4_dustiest.desc).map (fun d => d.parameters.length) = some 0 := by decide +kernel
abbrev MX4_spare (E : mx_E) (K : Nat) (args : List Value) (σ : Mem) (post : Option Value → Mem → Prop) : Prop := MM E K yX4_spare cX4_spare 2 (some .int) args σ post
theorem kcX4_spare : Cond.code yX4_spare cX4_spare 2 (some .int) ∈ mx_tbl := mx_in 846 (by decide +kernel) rfl
theorem kiX4_spare : Cond.instanceMethod yX4_spare ∈ mx_tbl := mx_in 844 (by decide +kernel) rfl
theorem ksX4_spare : Cond.selects yX4_spare.cls yX4_spare yX4_spare ∈ mx_tbl := mx_in 845 (by decide +kernel) rfl
theorem kyX4_spare : yX4_spare.cls ≠ "java/lang/invoke/MethodHandle" ∧ yX4_spare.cls ≠ "java/lang/invoke/VarHandle" ∧ (parseMethodDescriptor yX4_spare.desc).map (fun d => d.parameters.length) = some 1 := by decide +kernel
abbrev MX4_next (E : mx_E) (K : Nat) (args : List Value) (σ : Mem) (post : Option Value → Mem → Prop) : Prop := MM E K yX4_next cX4_next 2 (some .int) args σ post
theorem kcX4_next : Cond.code yX4_next cX4_next 2 (some .int) ∈ mx_tbl := mx_in 862 (by decide +kernel) rfl
theorem kiX4_next : Cond.instanceMethod yX4_next ∈ mx_tbl := mx_in 860 (by decide +kernel) rfl
theorem ksX4_next : Cond.selects yX4_next.cls yX4_next yX4_next ∈ mx_tbl := mx_in 861 (by decide +kernel) rfl
theorem kyX4_next : yX4_next.cls ≠ "java/lang/invoke/MethodHandle" ∧ yX4_next.cls ≠ "java/lang/invoke/VarHandle" ∧ (parseMethodDescriptor yX4_next.desc).map (fun d => d.parameters.length) = some 1 := by decide +kernel
abbrev MX4_lostRun (E : mx_E) (K : Nat) (args : List Value) (σ : Mem) (post : Option Value → Mem → Prop) : Prop := MM E K yX4_lostRun cX4_lostRun 4 (some .int) args σ post
theorem kcX4_lostRun : Cond.code yX4_lostRun cX4_lostRun 4 (some .int) ∈ mx_tbl := mx_in 870 (by decide +kernel) rfl
theorem kiX4_lostRun : Cond.instanceMethod yX4_lostRun ∈ mx_tbl := mx_in 869 (by decide +kernel) rfl
theorem ksX4_lostRun : Cond.selects yX4_lostRun.cls yX4_lostRun yX4_lostRun ∈ mx_tbl := mx_in 44 (by decide +kernel) rfl
theorem kyX4_lostRun : yX4_lostRun.cls ≠ "java/lang/invoke/MethodHandle" ∧ yX4_lostRun.cls ≠ "java/lang/invoke/VarHandle" ∧ (parseMethodDescriptor yX4_lostRun.desc).map (fun d => d.parameters.length) = some 0 := by decide +kernel
abbrev MX4_run (E : mx_E) (K : Nat) (args : List Value) (σ : Mem) (post : Option Value → Mem → Prop) : Prop := MM E K yX4_run cX4_run 4 (some .int) args σ post
theorem kcX4_run : Cond.code yX4_run cX4_run 4 (some .int) ∈ mx_tbl := mx_in 866 (by decide +kernel) rfl
theorem kiX4_run : Cond.instanceMethod yX4_run ∈ mx_tbl := mx_in 864 (by decide +kernel) rfl
theorem ksX4_run : Cond.selects yX4_run.cls yX4_run yX4_run ∈ mx_tbl := mx_in 865 (by decide +kernel) rfl
theorem kyX4_run : yX4_run.cls ≠ "java/lang/invoke/MethodHandle" ∧ yX4_run.cls ≠ "java/lang/invoke/VarHandle" ∧ (parseMethodDescriptor yX4_run.desc).map (fun d => d.parameters.length) = some 1 := by decide +kernel
abbrev MX4_lets (E : mx_E) (K : Nat) (args : List Value) (σ : Mem) (post : Option Value → Mem → Prop) : Prop := MM E K yX4_lets cX4_lets 2 none args σ post
theorem kcX4_lets : Cond.code yX4_lets cX4_lets 2 none ∈ mx_tbl := mx_in 882 (by decide +kernel) rfl
theorem kiX4_lets : Cond.instanceMethod yX4_lets ∈ mx_tbl := mx_in 881 (by decide +kernel) rfl
theorem ksX4_lets : Cond.selects yX4_lets.cls yX4_lets yX4_lets ∈ mx_tbl := mx_in 46 (by decide +kernel) rfl
theorem kyX4_lets : yX4_lets.cls ≠ "java/lang/invoke/MethodHandle" ∧ yX4_lets.cls ≠ "java/lang/invoke/VarHandle" ∧ (parseMethodDescriptor yX4_lets.desc).map (fun d => d.parameters.length) = some 1 := by decide +kernel
abbrev MX4_hasBy (E : mx_E) (K : Nat) (args : List Value) (σ : Mem) (post : Option Value → Mem → Prop) : Prop := MM E K yX4_hasBy cX4_hasBy 7 (some .int) args σ post
theorem kcX4_hasBy : Cond.code yX4_hasBy cX4_hasBy 7 (some .int) ∈ mx_tbl := mx_in 878 (by decide +kernel) rfl
theorem kiX4_hasBy : Cond.instanceMethod yX4_hasBy ∈ mx_tbl := mx_in 877 (by decide +kernel) rfl
theorem ksX4_hasBy : Cond.selects yX4_hasBy.cls yX4_hasBy yX4_hasBy ∈ mx_tbl := mx_in 45 (by decide +kernel) rfl
theorem kyX4_hasBy : yX4_hasBy.cls ≠ "java/lang/invoke/MethodHandle" ∧ yX4_hasBy.cls ≠ "java/lang/invoke/VarHandle" ∧ (parseMethodDescriptor yX4_hasBy.desc).map (fun d => d.parameters.length) = some 6 := by decide +kernel
abbrev MX4_two (E : mx_E) (K : Nat) (args : List Value) (σ : Mem) (post : Option Value → Mem → Prop) : Prop := MM E K yX4_two cX4_two 8 (some .int) args σ post
theorem kcX4_two : Cond.code yX4_two cX4_two 8 (some .int) ∈ mx_tbl := mx_in 874 (by decide +kernel) rfl
theorem kiX4_two : Cond.instanceMethod yX4_two ∈ mx_tbl := mx_in 872 (by decide +kernel) rfl
theorem ksX4_two : Cond.selects yX4_two.cls yX4_two yX4_two ∈ mx_tbl := mx_in 873 (by decide +kernel) rfl
theorem kyX4_two : yX4_two.cls ≠ "java/lang/invoke/MethodHandle" ∧ yX4_two.cls ≠ "java/lang/invoke/VarHandle" ∧ (parseMethodDescriptor yX4_two.desc).map (fun d => d.parameters.length) = some 3 := by decide +kernel
abbrev MX4_gcd (E : mx_E) (K : Nat) (args : List Value) (σ : Mem) (post : Option Value → Mem → Prop) : Prop := MM E K yX4_gcd cX4_gcd 10 (some .long) args σ post
theorem kcX4_gcd : Cond.code yX4_gcd cX4_gcd 10 (some .long) ∈ mx_tbl := mx_in 897 (by decide +kernel) rfl
theorem ktX4_gcd : Cond.static yX4_gcd ∈ mx_tbl := mx_in 896 (by decide +kernel) rfl
theorem kyX4_gcd : yX4_gcd.cls ≠ "java/lang/invoke/MethodHandle" ∧ yX4_gcd.cls ≠ "java/lang/invoke/VarHandle" ∧ (parseMethodDescriptor yX4_gcd.desc).map (fun d => d.parameters.length) = some 2 := by decide +kernel
abbrev MX4_partOf (E : mx_E) (K : Nat) (args : List Value) (σ : Mem) (post : Option Value → Mem → Prop) : Prop := MM E K yX4_partOf cX4_partOf 5 (some .long) args σ post
theorem kcX4_partOf : Cond.code yX4_partOf cX4_partOf 5 (some .long) ∈ mx_tbl := mx_in 894 (by decide +kernel) rfl
theorem ktX4_partOf : Cond.static yX4_partOf ∈ mx_tbl := mx_in 893 (by decide +kernel) rfl
theorem kyX4_partOf : yX4_partOf.cls ≠ "java/lang/invoke/MethodHandle" ∧ yX4_partOf.cls ≠ "java/lang/invoke/VarHandle" ∧ (parseMethodDescriptor yX4_partOf.desc).map (fun d => d.parameters.length) = some 3 := by decide +kernel
abbrev MX4_guest (E : mx_E) (K : Nat) (args : List Value) (σ : Mem) (post : Option Value → Mem → Prop) : Prop := MM E K yX4_guest cX4_guest 13 (some .long) args σ post
theorem kcX4_guest : Cond.code yX4_guest cX4_guest 13 (some .long) ∈ mx_tbl := mx_in 886 (by decide +kernel) rfl
theorem kiX4_guest : Cond.instanceMethod yX4_guest ∈ mx_tbl := mx_in 884 (by decide +kernel) rfl
theorem ksX4_guest : Cond.selects yX4_guest.cls yX4_guest yX4_guest ∈ mx_tbl := mx_in 885 (by decide +kernel) rfl
theorem kyX4_guest : yX4_guest.cls ≠ "java/lang/invoke/MethodHandle" ∧ yX4_guest.cls ≠ "java/lang/invoke/VarHandle" ∧ (parseMethodDescriptor yX4_guest.desc).map (fun d => d.parameters.length) = some 4 := by decide +kernel
abbrev MX4_mean (E : mx_E) (K : Nat) (args : List Value) (σ : Mem) (post : Option Value → Mem → Prop) : Prop := MM E K yX4_mean cX4_mean 2 (some .long) args σ post
theorem kcX4_mean : Cond.code yX4_mean cX4_mean 2 (some .long) ∈ mx_tbl := mx_in 901 (by decide +kernel) rfl
theorem kiX4_mean : Cond.instanceMethod yX4_mean ∈ mx_tbl := mx_in 899 (by decide +kernel) rfl
theorem ksX4_mean : Cond.selects yX4_mean.cls yX4_mean yX4_mean ∈ mx_tbl := mx_in 900 (by decide +kernel) rfl
theorem kyX4_mean : yX4_mean.cls ≠ "java/lang/invoke/MethodHandle" ∧ yX4_mean.cls ≠ "java/lang/invoke/VarHandle" ∧ (parseMethodDescriptor yX4_mean.desc).map (fun d => d.parameters.length) = some 1 := by decide +kernel
abbrev MX4_whatIs (E : mx_E) (K : Nat) (args : List Value) (σ : Mem) (post : Option Value → Mem → Prop) : Prop := MM E K yX4_whatIs cX4_whatIs 7 (some .int) args σ post
theorem kcX4_whatIs : Cond.code yX4_whatIs cX4_whatIs 7 (some .int) ∈ mx_tbl := mx_in 908 (by decide +kernel) rfl
theorem kiX4_whatIs : Cond.instanceMethod yX4_whatIs ∈ mx_tbl := mx_in 906 (by decide +kernel) rfl
theorem ksX4_whatIs : Cond.selects yX4_whatIs.cls yX4_whatIs yX4_whatIs ∈ mx_tbl := mx_in 907 (by decide +kernel) rfl
theorem kyX4_whatIs : yX4_whatIs.cls ≠ "java/lang/invoke/MethodHandle" ∧ yX4_whatIs.cls ≠ "java/lang/invoke/VarHandle" ∧ (parseMethodDescriptor yX4_whatIs.desc).map (fun d => d.parameters.length) = some 2 := by decide +kernel
abbrev MX4_row (E : mx_E) (K : Nat) (args : List Value) (σ : Mem) (post : Option Value → Mem → Prop) : Prop := MM E K yX4_row cX4_row 3 (some .int) args σ post
theorem kcX4_row : Cond.code yX4_row cX4_row 3 (some .int) ∈ mx_tbl := mx_in 912 (by decide +kernel) rfl
theorem kiX4_row : Cond.instanceMethod yX4_row ∈ mx_tbl := mx_in 910 (by decide +kernel) rfl
theorem ksX4_row : Cond.selects yX4_row.cls yX4_row yX4_row ∈ mx_tbl := mx_in 911 (by decide +kernel) rfl
theorem kyX4_row : yX4_row.cls ≠ "java/lang/invoke/MethodHandle" ∧ yX4_row.cls ≠ "java/lang/invoke/VarHandle" ∧ (parseMethodDescriptor yX4_row.desc).map (fun d => d.parameters.length) = some 1 := by decide +kernel
abbrev MX4_judge (E : mx_E) (K : Nat) (args : List Value) (σ : Mem) (post : Option Value → Mem → Prop) : Prop := MM E K yX4_judge cX4_judge 3 (some .int) args σ post
theorem kcX4_judge : Cond.code yX4_judge cX4_judge 3 (some .int) ∈ mx_tbl := mx_in 916 (by decide +kernel) rfl
theorem kiX4_judge : Cond.instanceMethod yX4_judge ∈ mx_tbl := mx_in 914 (by decide +kernel) rfl
theorem ksX4_judge : Cond.selects yX4_judge.cls yX4_judge yX4_judge ∈ mx_tbl := mx_in 915 (by decide +kernel) rfl
theorem kyX4_judge : yX4_judge.cls ≠ "java/lang/invoke/MethodHandle" ∧ yX4_judge.cls ≠ "java/lang/invoke/VarHandle" ∧ (parseMethodDescriptor yX4_judge.desc).map (fun d => d.parameters.length) = some 0 := by decide +kernel
abbrev MX4_clear (E : mx_E) (K : Nat) (args : List Value) (σ : Mem) (post : Option Value → Mem → Prop) : Prop := MM E K yX4_clear cX4_clear 2 (some .int) args σ post
theorem kcX4_clear : Cond.code yX4_clear cX4_clear 2 (some .int) ∈ mx_tbl := mx_in 920 (by decide +kernel) rfl
theorem kiX4_clear : Cond.instanceMethod yX4_clear ∈ mx_tbl := mx_in 918 (by decide +kernel) rfl
theorem ksX4_clear : Cond.selects yX4_clear.cls yX4_clear yX4_clear ∈ mx_tbl := mx_in 919 (by decide +kernel) rfl
theorem kyX4_clear : yX4_clear.cls ≠ "java/lang/invoke/MethodHandle" ∧ yX4_clear.cls ≠ "java/lang/invoke/VarHandle" ∧ (parseMethodDescriptor yX4_clear.desc).map (fun d => d.parameters.length) = some 0 := by decide +kernel
abbrev MX4_drawn (E : mx_E) (K : Nat) (args : List Value) (σ : Mem) (post : Option Value → Mem → Prop) : Prop := MM E K yX4_drawn cX4_drawn 2 (some .int) args σ post
theorem kcX4_drawn : Cond.code yX4_drawn cX4_drawn 2 (some .int) ∈ mx_tbl := mx_in 928 (by decide +kernel) rfl
theorem kiX4_drawn : Cond.instanceMethod yX4_drawn ∈ mx_tbl := mx_in 927 (by decide +kernel) rfl
theorem ksX4_drawn : Cond.selects yX4_drawn.cls yX4_drawn yX4_drawn ∈ mx_tbl := mx_in 48 (by decide +kernel) rfl
theorem kyX4_drawn : yX4_drawn.cls ≠ "java/lang/invoke/MethodHandle" ∧ yX4_drawn.cls ≠ "java/lang/invoke/VarHandle" ∧ (parseMethodDescriptor yX4_drawn.desc).map (fun d => d.parameters.length) = some 1 := by decide +kernel
abbrev MX4_lots (E : mx_E) (K : Nat) (args : List Value) (σ : Mem) (post : Option Value → Mem → Prop) : Prop := MM E K yX4_lots cX4_lots 7 (some .int) args σ post
theorem kcX4_lots : Cond.code yX4_lots cX4_lots 7 (some .int) ∈ mx_tbl := mx_in 924 (by decide +kernel) rfl
theorem kiX4_lots : Cond.instanceMethod yX4_lots ∈ mx_tbl := mx_in 922 (by decide +kernel) rfl
theorem ksX4_lots : Cond.selects yX4_lots.cls yX4_lots yX4_lots ∈ mx_tbl := mx_in 923 (by decide +kernel) rfl
theorem kyX4_lots : yX4_lots.cls ≠ "java/lang/invoke/MethodHandle" ∧ yX4_lots.cls ≠ "java/lang/invoke/VarHandle" ∧ (parseMethodDescriptor yX4_lots.desc).map (fun d => d.parameters.length) = some 3 := by decide +kernel
abbrev MX4_image (E : mx_E) (K : Nat) (args : List Value) (σ : Mem) (post : Option Value → Mem → Prop) : Prop := MM E K yX4_image cX4_image 1 (some .int) args σ post
theorem kcX4_image : Cond.code yX4_image cX4_image 1 (some .int) ∈ mx_tbl := mx_in 935 (by decide +kernel) rfl
theorem kiX4_image : Cond.instanceMethod yX4_image ∈ mx_tbl := mx_in 933 (by decide +kernel) rfl
theorem ksX4_image : Cond.selects yX4_image.cls yX4_image yX4_image ∈ mx_tbl := mx_in 934 (by decide +kernel) rfl
theorem kyX4_image : yX4_image.cls ≠ "java/lang/invoke/MethodHandle" ∧ yX4_image.cls ≠ "java/lang/invoke/VarHandle" ∧ (parseMethodDescriptor yX4_image.desc).map (fun d => d.parameters.length) = some 0 := by decide +kernel
abbrev MX4_on (E : mx_E) (K : Nat) (args : List Value) (σ : Mem) (post : Option Value → Mem → Prop) : Prop := MM E K yX4_on cX4_on 1 (some .int) args σ post
theorem kcX4_on : Cond.code yX4_on cX4_on 1 (some .int) ∈ mx_tbl := mx_in 939 (by decide +kernel) rfl
theorem kiX4_on : Cond.instanceMethod yX4_on ∈ mx_tbl := mx_in 937 (by decide +kernel) rfl
theorem ksX4_on : Cond.selects yX4_on.cls yX4_on yX4_on ∈ mx_tbl := mx_in 938 (by decide +kernel) rfl
theorem kyX4_on : yX4_on.cls ≠ "java/lang/invoke/MethodHandle" ∧ yX4_on.cls ≠ "java/lang/invoke/VarHandle" ∧ (parseMethodDescriptor yX4_on.desc).map (fun d => d.parameters.length) = some 0 := by decide +kernel
abbrev MX4_count (E : mx_E) (K : Nat) (args : List Value) (σ : Mem) (post : Option Value → Mem → Prop) : Prop := MM E K yX4_count cX4_count 2 (some .int) args σ post
theorem kcX4_count : Cond.code yX4_count cX4_count 2 (some .int) ∈ mx_tbl := mx_in 943 (by decide +kernel) rfl
theorem kiX4_count : Cond.instanceMethod yX4_count ∈ mx_tbl := mx_in 941 (by decide +kernel) rfl
theorem ksX4_count : Cond.selects yX4_count.cls yX4_count yX4_count ∈ mx_tbl := mx_in 942 (by decide +kernel) rfl
theorem kyX4_count : yX4_count.cls ≠ "java/lang/invoke/MethodHandle" ∧ yX4_count.cls ≠ "java/lang/invoke/VarHandle" ∧ (parseMethodDescriptor yX4_count.desc).map (fun d => d.parameters.length) = some 1 := by decide +kernel
abbrev MJ6_bitCount_0f7a4 (E : mx_E) (K : Nat) (args : List Value) (σ : Mem) (post : Option Value → Mem → Prop) : Prop := MM E K yJ6_bitCount_0f7a4 cJ6_bitCount_0f7a4 1 (some .int) args σ post
theorem kcJ6_bitCount_0f7a4 : Cond.code yJ6_bitCount_0f7a4 cJ6_bitCount_0f7a4 1 (some .int) ∈ mx_tbl := mx_in 381 (by decide +kernel) rfl
theorem ktJ6_bitCount_0f7a4 : Cond.static yJ6_bitCount_0f7a4 ∈ mx_tbl := mx_in 380 (by decide +kernel) rfl
theorem kyJ6_bitCount_0f7a4 : yJ6_bitCount_0f7a4.cls ≠ "java/lang/invoke/MethodHandle" ∧ yJ6_bitCount_0f7a4.cls ≠ "java/lang/invoke/VarHandle" ∧ (parseMethodDescriptor yJ6_bitCount_0f7a4.desc).map (fun d => d.parameters.length) = some 1 := by decide +kernel
theorem knX0 : Cond.initialized RX0 ∈ mx_tbl := mx_in 52 (by decide +kernel) rfl
theorem knX1 : Cond.initialized RX1 ∈ mx_tbl := mx_in 53 (by decide +kernel) rfl
theorem knX2 : Cond.initialized RX2 ∈ mx_tbl := mx_in 51 (by decide +kernel) rfl
theorem knX3 : Cond.initialized RX3 ∈ mx_tbl := mx_in 50 (by decide +kernel) rfl
theorem knX4 : Cond.initialized RX4 ∈ mx_tbl := mx_in 55 (by decide +kernel) rfl
theorem knJ6 : Cond.initialized RJ6 ∈ mx_tbl := mx_in 56 (by decide +kernel) rfl
theorem knJ9 : Cond.initialized RJ9 ∈ mx_tbl := mx_in 54 (by decide +kernel) rfl
theorem knL : Cond.initialized RL ∈ mx_tbl := mx_in 49 (by decide +kernel) rfl
theorem kcm_min : Cond.code Lib.Math.min.name Lib.Math.min.code 2 (some .int) ∈ mx_tbl := mx_in 299 (by decide +kernel) rfl
theorem ktm_min : Cond.static Lib.Math.min.name ∈ mx_tbl := mx_in 298 (by decide +kernel) rfl
theorem kcm_max : Cond.code Lib.Math.max.name Lib.Math.max.code 2 (some .int) ∈ mx_tbl := mx_in 148 (by decide +kernel) rfl
theorem ktm_max : Cond.static Lib.Math.max.name ∈ mx_tbl := mx_in 147 (by decide +kernel) rfl
theorem knm : Cond.initialized "java/lang/Math" ∈ mx_tbl := mx_in 54 (by decide +kernel) rfl
theorem kx0 : ∀ w ∈ u_ws RX0 TX0 8, w ∈ mx_tbl := by decide +kernel
theorem kx1 : ∀ w ∈ u_ws RX1 TX1 2, w ∈ mx_tbl := by decide +kernel
theorem kx2 : ∀ w ∈ u_ws RX2 TX2 6, w ∈ mx_tbl := by decide +kernel
theorem kx3 : ∀ w ∈ u_ws RX3 TX3 8, w ∈ mx_tbl := by decide +kernel
theorem kx4 : ∀ w ∈ u_ws RX4 TX4 13, w ∈ mx_tbl := by decide +kernel
