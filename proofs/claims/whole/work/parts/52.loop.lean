/-! ===== the law's loop ===== -/
section LAWL
variable {Γ : LC} {j : Nat} {σ : Mem}
theorem l_exit (h : LOK Γ) : LX Γ 1111 j [] σ := by
  obtain ⟨p, l, e, s, m, below, meth, c, b, L, xs, E⟩ := Γ
  intro H locs ls P S Lh
  refine lv_iconst (v := 1) h.1.1 h.1.2.1 dL_1111 (by decide) ?_
  refine va_forget S.2.2 ?_
  refine W.widen (k := 600000) (n := 7302250) (Nat.le_of_ble_eq_true rfl) (Nat.le_of_ble_eq_true rfl) ?_
  exact lw_ret h.1.1 h.1.2.1 h.1.2.2.1 h.1.2.2.2.2.2.2.2.2.1 dL_1112
theorem l_five {L : Nat} (hL : L ≤ 2560) : (Int32.ofNat L - 5).toInt = (L : Int) - 5 := by
  have h1 : (Int32.ofNat L).toInt = (L : Int) := nI_toInt (by omega)
  have h5 : (5 : Int32).toInt = 5 := by decide
  rw [Int32.toInt_sub, h1, h5]
  rw [Int.bmod_eq_of_le] <;> omega
theorem l_head (h : LOK Γ) (hj : j ≤ Γ.L) (kt : LX Γ 1111 j [] σ) (kf : j + 5 ≤ Γ.L → LX Γ 26 j [] σ) : LX Γ 18 j [] σ := by
  obtain ⟨p, l, e, s, m, below, meth, c, b, L, xs, E⟩ := Γ
  intro H locs ls P S Lh
  have hL : L ≤ 2560 := h.2.1
  have hjl : j ≤ L := hj
  refine lv_iload_n h.1.1 h.1.2.1 dL_18 rfl (lv_at Lh 0 rfl) ?_
  refine lv_aload_n h.1.1 h.1.2.1 dL_19 rfl (lv_at Lh 3 rfl) ?_
  refine va_slen h.1.1 h.1.2.1 h.1.2.2.2.2.2.2.1 h.1.2.2.2.2.2.2.2.1 (Nat.not_le.mpr h.1.2.2.2.2.2.2.2.1) S dL_20 ?_
  refine lv_iconst (v := 5) h.1.1 h.1.2.1 dL_21 (by decide) ?_
  refine lv_isub h.1.1 h.1.2.1 dL_22 ?_
  refine lv_icmp_gt (tgt := 1111) h.1.1 h.1.2.1 dL_23 (by decide) (fun _ => kt H locs ls P S Lh) (fun q => kf ?_ H locs ls P S Lh)
  rw [fa_lt, l_five hL, nI_toInt (by omega)] at q
  show j + 5 ≤ L
  omega
theorem l_switch (h : LOK Γ) (hj : j + 5 ≤ Γ.L) (k0 : LX Γ 1105 j [] σ) (k1 : LX Γ 188 j [] σ) (k2 : LX Γ 211 j [] σ) (k3 : LX Γ 224 j [] σ) (k4 : LX Γ 257 j [] σ) (k5 : LX Γ 290 j [] σ) (k6 : LX Γ 313 j [] σ) (k7 : LX Γ 346 j [] σ) (k8 : LX Γ 369 j [] σ) (k9 : LX Γ 392 j [] σ) (k10 : LX Γ 415 j [] σ) (k11 : LX Γ 458 j [] σ) (k12 : LX Γ 481 j [] σ) (k13 : LX Γ 524 j [] σ) (k14 : LX Γ 557 j [] σ) (k15 : LX Γ 580 j [] σ) (k16 : LX Γ 593 j [] σ) (k17 : LX Γ 606 j [] σ) (k18 : LX Γ 629 j [] σ) (k19 : LX Γ 652 j [] σ) (k20 : LX Γ 685 j [] σ) (k21 : LX Γ 708 j [] σ) (k22 : LX Γ 741 j [] σ) (k23 : LX Γ 764 j [] σ) (k24 : LX Γ 787 j [] σ) (k25 : LX Γ 810 j [] σ) (k26 : LX Γ 853 j [] σ) (k27 : LX Γ 907 j [] σ) (k28 : LX Γ 931 j [] σ) (k29 : LX Γ 964 j [] σ) (k30 : LX Γ 987 j [] σ) (k31 : LX Γ 1000 j [] σ) (k32 : LX Γ 1013 j [] σ) (k33 : LX Γ 1056 j [] σ) (k34 : LX Γ 1069 j [] σ) (k35 : LX Γ 1082 j [] σ) : LX Γ 26 j [] σ := by
  obtain ⟨p, l, e, s, m, below, meth, c, b, L, xs, E⟩ := Γ
  intro H locs ls P S Lh
  have hL : L ≤ 2560 := h.2.1
  have hjl : j + 5 ≤ L := hj
  refine lv_aload_n h.1.1 h.1.2.1 dL_26 rfl (lv_at Lh 3 rfl) ?_
  refine lv_iload_n h.1.1 h.1.2.1 dL_27 rfl (lv_at Lh 0 rfl) ?_
  refine va_sld h.1.1 h.1.2.1 h.1.2.2.2.2.2.2.1 h.1.2.2.2.2.2.2.2.1 (Nat.not_le.mpr h.1.2.2.2.2.2.2.2.1) S (vp_in_nI (show j < L by omega) (by omega)) dL_28 ?_
  refine lv_bipush (v := 63) h.1.1 h.1.2.1 dL_29 (by decide) ?_
  refine lv_iand h.1.1 h.1.2.1 dL_31 ?_
  generalize xs (nI j).toNatClampNeg &&& 63 = x
  by_cases hx : x.toInt < 0 ∨ 34 < x.toInt
  · exact lv_tableOut (tgt := 1105) h.1.1 h.1.2.1 dL_32 hx (by decide) (k0 H locs ls P S Lh)
  · have h1 : ¬ x.toInt < 0 := fun q => hx (Or.inl q)
    have h2 : ¬ 34 < x.toInt := fun q => hx (Or.inr q)
    obtain ⟨i, hi, ei⟩ : ∃ i : Nat, i < 35 ∧ x.toInt = (i : Int) := ⟨x.toInt.toNat, by omega, by omega⟩
    rcases (show i = 0 ∨ i = 1 ∨ i = 2 ∨ i = 3 ∨ i = 4 ∨ i = 5 ∨ i = 6 ∨ i = 7 ∨ i = 8 ∨ i = 9 ∨ i = 10 ∨ i = 11 ∨ i = 12 ∨ i = 13 ∨ i = 14 ∨ i = 15 ∨ i = 16 ∨ i = 17 ∨ i = 18 ∨ i = 19 ∨ i = 20 ∨ i = 21 ∨ i = 22 ∨ i = 23 ∨ i = 24 ∨ i = 25 ∨ i = 26 ∨ i = 27 ∨ i = 28 ∨ i = 29 ∨ i = 30 ∨ i = 31 ∨ i = 32 ∨ i = 33 ∨ i = 34 by omega) with rfl | rfl | rfl | rfl | rfl | rfl | rfl | rfl | rfl | rfl | rfl | rfl | rfl | rfl | rfl | rfl | rfl | rfl | rfl | rfl | rfl | rfl | rfl | rfl | rfl | rfl | rfl | rfl | rfl | rfl | rfl | rfl | rfl | rfl | rfl
    · exact lv_tableIn (tgt := 188) h.1.1 h.1.2.1 dL_32 h1 h2 (off := 156) (by rw [ei]; rfl) (by decide) (k1 H locs ls P S Lh)
    · exact lv_tableIn (tgt := 211) h.1.1 h.1.2.1 dL_32 h1 h2 (off := 179) (by rw [ei]; rfl) (by decide) (k2 H locs ls P S Lh)
    · exact lv_tableIn (tgt := 224) h.1.1 h.1.2.1 dL_32 h1 h2 (off := 192) (by rw [ei]; rfl) (by decide) (k3 H locs ls P S Lh)
    · exact lv_tableIn (tgt := 257) h.1.1 h.1.2.1 dL_32 h1 h2 (off := 225) (by rw [ei]; rfl) (by decide) (k4 H locs ls P S Lh)
    · exact lv_tableIn (tgt := 290) h.1.1 h.1.2.1 dL_32 h1 h2 (off := 258) (by rw [ei]; rfl) (by decide) (k5 H locs ls P S Lh)
    · exact lv_tableIn (tgt := 313) h.1.1 h.1.2.1 dL_32 h1 h2 (off := 281) (by rw [ei]; rfl) (by decide) (k6 H locs ls P S Lh)
    · exact lv_tableIn (tgt := 346) h.1.1 h.1.2.1 dL_32 h1 h2 (off := 314) (by rw [ei]; rfl) (by decide) (k7 H locs ls P S Lh)
    · exact lv_tableIn (tgt := 369) h.1.1 h.1.2.1 dL_32 h1 h2 (off := 337) (by rw [ei]; rfl) (by decide) (k8 H locs ls P S Lh)
    · exact lv_tableIn (tgt := 392) h.1.1 h.1.2.1 dL_32 h1 h2 (off := 360) (by rw [ei]; rfl) (by decide) (k9 H locs ls P S Lh)
    · exact lv_tableIn (tgt := 415) h.1.1 h.1.2.1 dL_32 h1 h2 (off := 383) (by rw [ei]; rfl) (by decide) (k10 H locs ls P S Lh)
    · exact lv_tableIn (tgt := 458) h.1.1 h.1.2.1 dL_32 h1 h2 (off := 426) (by rw [ei]; rfl) (by decide) (k11 H locs ls P S Lh)
    · exact lv_tableIn (tgt := 481) h.1.1 h.1.2.1 dL_32 h1 h2 (off := 449) (by rw [ei]; rfl) (by decide) (k12 H locs ls P S Lh)
    · exact lv_tableIn (tgt := 524) h.1.1 h.1.2.1 dL_32 h1 h2 (off := 492) (by rw [ei]; rfl) (by decide) (k13 H locs ls P S Lh)
    · exact lv_tableIn (tgt := 557) h.1.1 h.1.2.1 dL_32 h1 h2 (off := 525) (by rw [ei]; rfl) (by decide) (k14 H locs ls P S Lh)
    · exact lv_tableIn (tgt := 580) h.1.1 h.1.2.1 dL_32 h1 h2 (off := 548) (by rw [ei]; rfl) (by decide) (k15 H locs ls P S Lh)
    · exact lv_tableIn (tgt := 593) h.1.1 h.1.2.1 dL_32 h1 h2 (off := 561) (by rw [ei]; rfl) (by decide) (k16 H locs ls P S Lh)
    · exact lv_tableIn (tgt := 606) h.1.1 h.1.2.1 dL_32 h1 h2 (off := 574) (by rw [ei]; rfl) (by decide) (k17 H locs ls P S Lh)
    · exact lv_tableIn (tgt := 629) h.1.1 h.1.2.1 dL_32 h1 h2 (off := 597) (by rw [ei]; rfl) (by decide) (k18 H locs ls P S Lh)
    · exact lv_tableIn (tgt := 652) h.1.1 h.1.2.1 dL_32 h1 h2 (off := 620) (by rw [ei]; rfl) (by decide) (k19 H locs ls P S Lh)
    · exact lv_tableIn (tgt := 685) h.1.1 h.1.2.1 dL_32 h1 h2 (off := 653) (by rw [ei]; rfl) (by decide) (k20 H locs ls P S Lh)
    · exact lv_tableIn (tgt := 708) h.1.1 h.1.2.1 dL_32 h1 h2 (off := 676) (by rw [ei]; rfl) (by decide) (k21 H locs ls P S Lh)
    · exact lv_tableIn (tgt := 741) h.1.1 h.1.2.1 dL_32 h1 h2 (off := 709) (by rw [ei]; rfl) (by decide) (k22 H locs ls P S Lh)
    · exact lv_tableIn (tgt := 764) h.1.1 h.1.2.1 dL_32 h1 h2 (off := 732) (by rw [ei]; rfl) (by decide) (k23 H locs ls P S Lh)
    · exact lv_tableIn (tgt := 787) h.1.1 h.1.2.1 dL_32 h1 h2 (off := 755) (by rw [ei]; rfl) (by decide) (k24 H locs ls P S Lh)
    · exact lv_tableIn (tgt := 810) h.1.1 h.1.2.1 dL_32 h1 h2 (off := 778) (by rw [ei]; rfl) (by decide) (k25 H locs ls P S Lh)
    · exact lv_tableIn (tgt := 853) h.1.1 h.1.2.1 dL_32 h1 h2 (off := 821) (by rw [ei]; rfl) (by decide) (k26 H locs ls P S Lh)
    · exact lv_tableIn (tgt := 907) h.1.1 h.1.2.1 dL_32 h1 h2 (off := 875) (by rw [ei]; rfl) (by decide) (k27 H locs ls P S Lh)
    · exact lv_tableIn (tgt := 931) h.1.1 h.1.2.1 dL_32 h1 h2 (off := 899) (by rw [ei]; rfl) (by decide) (k28 H locs ls P S Lh)
    · exact lv_tableIn (tgt := 964) h.1.1 h.1.2.1 dL_32 h1 h2 (off := 932) (by rw [ei]; rfl) (by decide) (k29 H locs ls P S Lh)
    · exact lv_tableIn (tgt := 987) h.1.1 h.1.2.1 dL_32 h1 h2 (off := 955) (by rw [ei]; rfl) (by decide) (k30 H locs ls P S Lh)
    · exact lv_tableIn (tgt := 1000) h.1.1 h.1.2.1 dL_32 h1 h2 (off := 968) (by rw [ei]; rfl) (by decide) (k31 H locs ls P S Lh)
    · exact lv_tableIn (tgt := 1013) h.1.1 h.1.2.1 dL_32 h1 h2 (off := 981) (by rw [ei]; rfl) (by decide) (k32 H locs ls P S Lh)
    · exact lv_tableIn (tgt := 1056) h.1.1 h.1.2.1 dL_32 h1 h2 (off := 1024) (by rw [ei]; rfl) (by decide) (k33 H locs ls P S Lh)
    · exact lv_tableIn (tgt := 1069) h.1.1 h.1.2.1 dL_32 h1 h2 (off := 1037) (by rw [ei]; rfl) (by decide) (k34 H locs ls P S Lh)
    · exact lv_tableIn (tgt := 1082) h.1.1 h.1.2.1 dL_32 h1 h2 (off := 1050) (by rw [ei]; rfl) (by decide) (k35 H locs ls P S Lh)
/-- the whole loop -/
theorem lw_loop (h : LOK Γ) : ∀ (d j : Nat) (σ : Mem), SI σ → j ≤ Γ.L → Γ.L - j ≤ d → LX Γ 18 j [] σ
  | 0, j, σ, hS, hj, hd => l_head h hj (l_exit h) (fun q => absurd q (by omega))
  | d + 1, j, σ, hS, hj, hd => by
    refine l_head h hj (l_exit h) (fun q => ?_)
    have kk : ∀ υ, SI υ → LX Γ 1105 j [] υ := fun υ hυ => l_next h rfl (lw_loop h d (j + 5) υ hυ q (by omega))
    exact l_switch h q (kk σ hS) (lc_0 h hS q kk) (lc_1 h hS q kk) (lc_2 h hS q kk) (lc_3 h hS q kk) (lc_4 h hS q kk) (lc_5 h hS q kk) (lc_6 h hS q kk) (lc_7 h hS q kk) (lc_8 h hS q kk) (lc_9 h hS q kk) (lc_10 h hS q kk) (lc_11 h hS q kk) (lc_12 h hS q kk) (lc_13 h hS q kk) (lc_14 h hS q kk) (lc_15 h hS q kk) (lc_16 h hS q kk) (lc_17 h hS q kk) (lc_18 h hS q kk) (lc_19 h hS q kk) (lc_20 h hS q kk) (lc_21 h hS q kk) (lc_22 h hS q kk) (lc_23 h hS q kk) (lc_24 h hS q kk) (lc_25 h hS q kk) (lc_26 h hS q kk) (lc_27 h hS q kk) (lc_28 h hS q kk) (lc_29 h hS q kk) (lc_30 h hS q kk) (lc_31 h hS q kk) (lc_32 h hS q kk) (lc_33 h hS q kk) (lc_34 h hS q kk)
end LAWL
/-! ===== the first memory ===== -/
def nx_r0 : Row := upd (fun _ => 0) 3 50
def nx_Z : ZS := zs 0 nx_r0 false 0 nx_r0 0 (fun _ => 0) 0 (fun _ => 0) (fun _ => 0)
theorem nx_wf : wf 0 nx_r0 := ⟨by decide, by decide, ⟨0, by decide, fun _ => rfl, fun q => absurd q (by decide)⟩, ⟨0, by decide, by decide⟩, ⟨0, by decide, by decide⟩, fun x hx => absurd hx (Nat.not_lt_zero x)⟩
theorem nx_ok : nx_Z.ok := ⟨nx_wf, by decide, fun q => absurd q (by decide), by decide, by decide⟩
theorem nx_NW : NW nx_σ := by
  intro t h1 h2 j hj
  unfold nx_σ
  rw [if_neg (by omega), if_pos (by omega)]
  rfl
theorem nx_CI : CI nx_σ nx_Z := ⟨nx_NW, ⟨by decide, by decide, by decide, by decide, fun i hi => absurd hi (Nat.not_lt_zero i)⟩, fun q => absurd q (by decide), by decide, by decide, fun i hi => absurd hi (Nat.not_lt_zero i), by decide, fun i hi => absurd hi (Nat.not_lt_zero i), fun i _ _ => rfl⟩
theorem nx_MI : MI nx_σ nx_Z := ⟨rfl, fun q => absurd q (by decide), by decide, by decide, fun i hi => absurd hi (Nat.not_lt_zero i), by decide, fun i hi => absurd hi (Nat.not_lt_zero i), fun i _ _ => rfl⟩
theorem nx_SI : SI nx_σ := ⟨nx_Z, nx_ok, nx_CI, nx_MI⟩
/-! ===== both worlds in one ===== -/
def nx_rf (rf rg : Nat → Nat) : Nat → Nat := fun k => if k < 35 then rf k else rg (k - 35)
theorem nx_rfa {rf rg : Nat → Nat} {k : Nat} (h : k < 35) : nx_rf rf rg k = rf k := by unfold nx_rf; rw [if_pos h]
theorem nx_rfb {rf rg : Nat → Nat} {k : Nat} (h : 35 ≤ k) : nx_rf rf rg k = rg (k - 35) := by unfold nx_rf; rw [if_neg (by omega)]
theorem nx_g1 {D : va_G} {rf rg : Nat → Nat} {kI kQ : ClassId} {k : Nat} (h : k < 35) : (nx_C D rf kI kQ ++ nx_M D rg kI)[k]? = some (rf k, mx_cell (D, rf, kI, kQ) nx_σ k) := by
  rw [List.getElem?_append_left (by simpa [nx_C] using h)]
  simp [nx_C, List.getElem?_map, List.getElem?_range h]
theorem nx_g2 {D : va_G} {rf rg : Nat → Nat} {kI kQ : ClassId} {k : Nat} (h : k < 9) : (nx_C D rf kI kQ ++ nx_M D rg kI)[35 + k]? = some (rg k, mx_cell (D, fun j => rg (j - 35), kI, kI) nx_σ (35 + k)) := by
  have hl : (nx_C D rf kI kQ).length = 35 := by simp [nx_C]
  rw [List.getElem?_append_right (by rw [hl]; omega), hl, show 35 + k - 35 = k by omega]
  simp [nx_M, List.getElem?_map, List.getElem?_range h]
theorem nx_P {D : va_G} {rf rg : Nat → Nat} {kI kQ : ClassId} {H : Heap} (hP : va_P D mx_cl (nx_C D rf kI kQ ++ nx_M D rg kI) H) : va_P D mx_cl (mx_w (D, nx_rf rf rg, kI, kQ) nx_σ) H := by
  intro k q hq
  obtain ⟨hk, rfl⟩ := mx_some hq
  by_cases h35 : k < 35
  · have h1 := hP k _ (nx_g1 h35)
    show va_at D mx_cl (nx_rf rf rg k, mx_cell (D, nx_rf rf rg, kI, kQ) nx_σ k) H
    rw [nx_rfa h35]
    by_cases h4 : 4 ≤ k ∧ k < 7
    · rw [mx_cQ h4.1 h4.2] at h1 ⊢
      show H[rf k]? = some (vp_cell kQ _)
      rw [nx_cq (g := fun i => some (rf (6 * k - 14 + i))) (fun i hi => congrArg some (nx_rfa (rf := rf) (rg := rg) (k := 6 * k - 14 + i) (by omega)))]
      exact h1
    · have e : mx_cell (D, nx_rf rf rg, kI, kQ) nx_σ k = mx_cell (D, rf, kI, kQ) nx_σ k := by
        by_cases h0 : k = 0
        · subst h0
          rfl
        · by_cases h3 : k < 4
          · rw [mx_cT (by omega) h3, mx_cT (by omega) h3]
            have a : mx_rf (D, nx_rf rf rg, kI, kQ) (k + 3) = mx_rf (D, rf, kI, kQ) (k + 3) := congrArg Value.ref (nx_rfa (by omega))
            have b : mx_rf (D, nx_rf rf rg, kI, kQ) (k + 6) = mx_rf (D, rf, kI, kQ) (k + 6) := congrArg Value.ref (nx_rfa (by omega))
            rw [a, b]
          · by_cases h28 : k < 28
            · rw [mx_cH (by omega) h28, mx_cH (by omega) h28]
            · by_cases h31 : k < 31
              · rw [mx_cR (by omega) h31, mx_cR (by omega) h31]
                have a : mx_rf (D, nx_rf rf rg, kI, kQ) (k + 3) = mx_rf (D, rf, kI, kQ) (k + 3) := congrArg Value.ref (nx_rfa (by omega))
                rw [a]
              · rw [mx_cI (by omega) (by omega), mx_cI (by omega) (by omega)]
      rw [e]
      exact h1
  · obtain ⟨i, rfl⟩ : ∃ i, k = 35 + i := ⟨k - 35, by omega⟩
    have h1 := hP (35 + i) _ (nx_g2 (show i < 9 by omega))
    show va_at D mx_cl (nx_rf rf rg (35 + i), mx_cell (D, nx_rf rf rg, kI, kQ) nx_σ (35 + i)) H
    rw [nx_rfb (by omega), show 35 + i - 35 = i by omega]
    have e : mx_cell (D, nx_rf rf rg, kI, kQ) nx_σ (35 + i) = mx_cell (D, fun j => rg (j - 35), kI, kI) nx_σ (35 + i) := by
      by_cases h0 : i = 0
      · subst h0
        rfl
      · rw [mx_cI (by omega) (by omega), mx_cI (by omega) (by omega)]
    rw [e]
    exact h1
theorem nx_at {D : va_G} {rf rg : Nat → Nat} {kI kQ : ClassId} {k : Nat} (h : k < 44) : ∃ q : va_E, (nx_C D rf kI kQ ++ nx_M D rg kI)[k]? = some (nx_rf rf rg k, q) := by
  by_cases h35 : k < 35
  · exact ⟨_, by rw [nx_rfa h35]; exact nx_g1 h35⟩
  · obtain ⟨i, rfl⟩ : ∃ i, k = 35 + i := ⟨k - 35, by omega⟩
    exact ⟨_, by rw [nx_rfb (by omega), show 35 + i - 35 = i by omega]; exact nx_g2 (by omega)⟩
theorem nx_inj {D : va_G} {rf rg : Nat → Nat} {kI kQ : ClassId} {A : Nat → Prop} (hD : va_D A (nx_C D rf kI kQ ++ nx_M D rg kI)) : mx_inj (D, nx_rf rf rg, kI, kQ) := by
  intro i j hi hj e
  obtain ⟨q1, h1⟩ := nx_at (D := D) (rf := rf) (rg := rg) (kI := kI) (kQ := kQ) hi
  obtain ⟨q2, h2⟩ := nx_at (D := D) (rf := rf) (rg := rg) (kI := kI) (kQ := kQ) hj
  exact hD.1 i j _ _ h1 h2 e
theorem nx_low {D : va_G} {rf rg : Nat → Nat} {kI kQ : ClassId} {A : Nat → Prop} (hD : va_D A (nx_C D rf kI kQ ++ nx_M D rg kI)) : ∀ k, k < 44 → A (nx_rf rf rg k) := by
  intro k hk
  obtain ⟨q, h⟩ := nx_at (D := D) (rf := rf) (rg := rg) (kI := kI) (kQ := kQ) hk
  exact hD.2 k _ h
