set_option maxHeartbeats 4000000 in
theorem qX3_letter {E : mx_E} {σ : Mem} {n : Nat} {r : Row} {hi : Bool} {ni : Nat} {ri : Row} {lm : Nat} {L : Row} {rm : Nat} {R f : Row} (hC : CI σ (zs n r hi ni ri lm L rm R f)) (ok : (zs n r hi ni ri lm L rm R f).ok) (c : Int32) : MX3_letter E 1 [mx_rf E 0, .int c] σ (mx_i (fun v τ => (a_letter (zs n r hi ni ri lm L rm R f) c).1 = v ∧ CI τ (a_letter (zs n r hi ni ri lm L rm R f) c).2 ∧ FC σ τ)) := by
  refine MM.of (lv := [(0, mx_rf E 0), (1, .int c)]) kpX3 rfl (Nat.le_of_ble_eq_true rfl) rfl ?_
  have hN : NW σ := hC.1
  have hT : TI σ 1 n r := hC.2.1
  have hw : wf n r := ok.1
  have hn6 : n ≤ 6 := hw.1
  have hlm : lm ≤ 96 := ok.2.2.2.1
  have hrm : rm ≤ 16 := ok.2.2.2.2
  have hz2 : σ 28 1 = nI lm := hC.2.2.2.2.1
  have hz : σ 29 1 = nI rm := hC.2.2.2.2.2.2.1
  refine x_iload_n 1 dX3_letter_0 rfl ?_
  refine x_if_ge dX3_letter_1 (fun c1 => ?_) (fun c1 => ?_)
  · refine x_iload_n 1 dX3_letter_11 rfl ?_
    refine x_sipush (v := 255) dX3_letter_12 (by decide) ?_
    refine x_icmp_gt dX3_letter_15 (fun c15 => ?_) (fun c15 => ?_)
    · refine x_aload_n 0 dX3_letter_28 rfl ?_
      refine x_bipush (v := -6) dX3_letter_29 (by decide) ?_
      refine clX3_49 (qX3_refuse 6 (by decide) (by decide)) (by decide) rfl dX3_letter_31 (fun r31 τ31 h31 => ?_)
      obtain ⟨rfl, rfl⟩ := h31
      exact x_iret dX3_letter_34 (by rw [show a_letter (zs n r hi ni ri lm L rm R f) c = ((-6 : Int32), (zs n r hi ni ri lm L rm R f).no 6) from by simp [a_letter, c1, (Int32.not_lt.mpr c1), c15, (Int32.not_le.mpr c15)]]; exact ⟨rfl, hC.q ok Qz.no, Qz.no.fc⟩)
    · refine x_aload_n 0 dX3_letter_18 rfl ?_
      refine gfX3_31 dX3_letter_19 ?_
      refine clX3_53 (qX1_isFull (k := 28) (by decide) (by decide) lm hlm hz2) (by decide) (by decide) (by decide) rfl dX3_letter_22 (fun r22 τ22 h22 => ?_)
      obtain ⟨rfl, rfl⟩ := h22
      refine x_if_eq dX3_letter_25 (fun c25 => ?_) (fun c25 => ?_)
      · replace c25 := zb_0 c25
        have hge : ¬ 96 ≤ lm := of_decide_eq_false c25
        have hlt : lm < mx_n (28 + 3) := Nat.lt_of_not_le hge
        have hfl : ¬ lm = 96 := by omega
        refine x_aload_n 0 dX3_letter_35 rfl ?_
        refine gfX3_31 dX3_letter_36 ?_
        refine x_iload_n 1 dX3_letter_39 rfl ?_
        refine clX3_57 (qX1_add (k := 28) (by decide) (by decide) lm hlm hz2 c hlt) (by decide) (by decide) (by decide) rfl dX3_letter_40 (fun τ40 h40 => ?_)
        obtain rfl := h40
        refine x_aload_n 0 dX3_letter_43 rfl ?_
        refine gfX3_31 dX3_letter_44 ?_
        refine gfX3_60 (by decide) (by decide) dX3_letter_47 ?_
        refine x_top (show (mx_up (mx_up σ (28 + 3) lm c) 28 1 (nI (lm + 1))) 28 1 = nI (lm + 1) from ((congrFun mx_up_s _).trans upd_s)) ?_
        exact x_iret dX3_letter_50 (by rw [show a_letter (zs n r hi ni ri lm L rm R f) c = (nI (lm + 1), zs n r hi ni ri (lm + 1) (upd L lm c) rm R f) from by simp [a_letter, c1, (Int32.not_lt.mpr c1), c15, (Int32.not_lt.mp c15), c25, hfl]]; exact ⟨rfl, hC.addL ok, fun k hk => (mx_up_o (by omega)).trans (mx_up_o (by omega))⟩)
      · replace c25 := zb_1 c25
        have hfl : lm = 96 := Nat.le_antisymm hlm (of_decide_eq_true c25)
        refine x_aload_n 0 dX3_letter_28 rfl ?_
        refine x_bipush (v := -6) dX3_letter_29 (by decide) ?_
        refine clX3_49 (qX3_refuse 6 (by decide) (by decide)) (by decide) rfl dX3_letter_31 (fun r31 τ31 h31 => ?_)
        obtain ⟨rfl, rfl⟩ := h31
        exact x_iret dX3_letter_34 (by rw [show a_letter (zs n r hi ni ri lm L rm R f) c = ((-6 : Int32), (zs n r hi ni ri lm L rm R f).no 6) from by simp [a_letter, c1, (Int32.not_lt.mpr c1), c15, (Int32.not_lt.mp c15), c25, hfl]]; exact ⟨rfl, hC.q ok Qz.no, Qz.no.fc⟩)
  · refine x_aload_n 0 dX3_letter_4 rfl ?_
    refine x_bipush (v := -4) dX3_letter_5 (by decide) ?_
    refine clX3_49 (qX3_refuse 4 (by decide) (by decide)) (by decide) rfl dX3_letter_7 (fun r7 τ7 h7 => ?_)
    obtain ⟨rfl, rfl⟩ := h7
    exact x_iret dX3_letter_10 (by rw [show a_letter (zs n r hi ni ri lm L rm R f) c = ((-4 : Int32), (zs n r hi ni ri lm L rm R f).no 4) from by simp [a_letter, c1, (Int32.not_le.mp c1)]]; exact ⟨rfl, hC.q ok Qz.no, Qz.no.fc⟩)

set_option maxHeartbeats 4000000 in
theorem qX3_row {E : mx_E} {σ : Mem} {n : Nat} {r : Row} {hi : Bool} {ni : Nat} {ri : Row} {lm : Nat} {L : Row} {rm : Nat} {R f : Row} (hC : CI σ (zs n r hi ni ri lm L rm R f)) (ok : (zs n r hi ni ri lm L rm R f).ok) (c : Int32) : MX3_row E 1 [mx_rf E 0, .int c] σ (mx_i (fun v τ => (a_row (zs n r hi ni ri lm L rm R f) c).1 = v ∧ CI τ (a_row (zs n r hi ni ri lm L rm R f) c).2 ∧ FC σ τ)) := by
  refine MM.of (lv := [(0, mx_rf E 0), (1, .int c)]) kpX3 rfl (Nat.le_of_ble_eq_true rfl) rfl ?_
  have hN : NW σ := hC.1
  have hT : TI σ 1 n r := hC.2.1
  have hw : wf n r := ok.1
  have hn6 : n ≤ 6 := hw.1
  have hlm : lm ≤ 96 := ok.2.2.2.1
  have hrm : rm ≤ 16 := ok.2.2.2.2
  have hz2 : σ 28 1 = nI lm := hC.2.2.2.2.1
  have hz : σ 29 1 = nI rm := hC.2.2.2.2.2.2.1
  refine x_iload_n 1 dX3_row_0 rfl ?_
  refine x_if_ge dX3_row_1 (fun c1 => ?_) (fun c1 => ?_)
  · refine x_iload_n 1 dX3_row_11 rfl ?_
    refine x_bipush (v := 99) dX3_row_12 (by decide) ?_
    refine x_icmp_gt dX3_row_14 (fun c14 => ?_) (fun c14 => ?_)
    · refine x_aload_n 0 dX3_row_27 rfl ?_
      refine x_bipush (v := -6) dX3_row_28 (by decide) ?_
      refine clX3_49 (qX3_refuse 6 (by decide) (by decide)) (by decide) rfl dX3_row_30 (fun r30 τ30 h30 => ?_)
      obtain ⟨rfl, rfl⟩ := h30
      exact x_iret dX3_row_33 (by rw [show a_row (zs n r hi ni ri lm L rm R f) c = ((-6 : Int32), (zs n r hi ni ri lm L rm R f).no 6) from by simp [a_row, c1, (Int32.not_lt.mpr c1), c14, (Int32.not_le.mpr c14)]]; exact ⟨rfl, hC.q ok Qz.no, Qz.no.fc⟩)
    · refine x_aload_n 0 dX3_row_17 rfl ?_
      refine gfX3_35 dX3_row_18 ?_
      refine clX3_53 (qX1_isFull (k := 29) (by decide) (by decide) rm hrm hz) (by decide) (by decide) (by decide) rfl dX3_row_21 (fun r21 τ21 h21 => ?_)
      obtain ⟨rfl, rfl⟩ := h21
      refine x_if_eq dX3_row_24 (fun c24 => ?_) (fun c24 => ?_)
      · replace c24 := zb_0 c24
        have hge : ¬ 16 ≤ rm := of_decide_eq_false c24
        have hlt : rm < mx_n (29 + 3) := Nat.lt_of_not_le hge
        have hfl : ¬ rm = 16 := by omega
        refine x_aload_n 0 dX3_row_34 rfl ?_
        refine gfX3_35 dX3_row_35 ?_
        refine x_iload_n 1 dX3_row_38 rfl ?_
        refine clX3_57 (qX1_add (k := 29) (by decide) (by decide) rm hrm hz c hlt) (by decide) (by decide) (by decide) rfl dX3_row_39 (fun τ39 h39 => ?_)
        obtain rfl := h39
        refine x_aload_n 0 dX3_row_42 rfl ?_
        refine gfX3_35 dX3_row_43 ?_
        refine gfX3_60 (by decide) (by decide) dX3_row_46 ?_
        refine x_top (show (mx_up (mx_up σ (29 + 3) rm c) 29 1 (nI (rm + 1))) 29 1 = nI (rm + 1) from ((congrFun mx_up_s _).trans upd_s)) ?_
        exact x_iret dX3_row_49 (by rw [show a_row (zs n r hi ni ri lm L rm R f) c = (nI (rm + 1), zs n r hi ni ri lm L (rm + 1) (upd R rm c) f) from by simp [a_row, c1, (Int32.not_lt.mpr c1), c14, (Int32.not_lt.mp c14), c24, hfl]]; exact ⟨rfl, hC.addR ok, fun k hk => (mx_up_o (by omega)).trans (mx_up_o (by omega))⟩)
      · replace c24 := zb_1 c24
        have hfl : rm = 16 := Nat.le_antisymm hrm (of_decide_eq_true c24)
        refine x_aload_n 0 dX3_row_27 rfl ?_
        refine x_bipush (v := -6) dX3_row_28 (by decide) ?_
        refine clX3_49 (qX3_refuse 6 (by decide) (by decide)) (by decide) rfl dX3_row_30 (fun r30 τ30 h30 => ?_)
        obtain ⟨rfl, rfl⟩ := h30
        exact x_iret dX3_row_33 (by rw [show a_row (zs n r hi ni ri lm L rm R f) c = ((-6 : Int32), (zs n r hi ni ri lm L rm R f).no 6) from by simp [a_row, c1, (Int32.not_lt.mpr c1), c14, (Int32.not_lt.mp c14), c24, hfl]]; exact ⟨rfl, hC.q ok Qz.no, Qz.no.fc⟩)
  · refine x_aload_n 0 dX3_row_4 rfl ?_
    refine x_bipush (v := -4) dX3_row_5 (by decide) ?_
    refine clX3_49 (qX3_refuse 4 (by decide) (by decide)) (by decide) rfl dX3_row_7 (fun r7 τ7 h7 => ?_)
    obtain ⟨rfl, rfl⟩ := h7
    exact x_iret dX3_row_10 (by rw [show a_row (zs n r hi ni ri lm L rm R f) c = ((-4 : Int32), (zs n r hi ni ri lm L rm R f).no 4) from by simp [a_row, c1, (Int32.not_le.mp c1)]]; exact ⟨rfl, hC.q ok Qz.no, Qz.no.fc⟩)

set_option maxHeartbeats 4000000 in
theorem qX3_clear {E : mx_E} {σ : Mem} {n : Nat} {r : Row} {hi : Bool} {ni : Nat} {ri : Row} {lm : Nat} {L : Row} {rm : Nat} {R f : Row} (hC : CI σ (zs n r hi ni ri lm L rm R f)) (ok : (zs n r hi ni ri lm L rm R f).ok)  : MX3_clear E 1 [mx_rf E 0] σ (mx_i (fun v τ => (a_clear (zs n r hi ni ri lm L rm R f)).1 = v ∧ CI τ (a_clear (zs n r hi ni ri lm L rm R f)).2 ∧ FC σ τ)) := by
  refine MM.of (lv := [(0, mx_rf E 0)]) kpX3 rfl (Nat.le_of_ble_eq_true rfl) rfl ?_
  have hN : NW σ := hC.1
  have hT : TI σ 1 n r := hC.2.1
  have hw : wf n r := ok.1
  have hn6 : n ≤ 6 := hw.1
  have hlm : lm ≤ 96 := ok.2.2.2.1
  have hrm : rm ≤ 16 := ok.2.2.2.2
  have hz2 : σ 28 1 = nI lm := hC.2.2.2.2.1
  have hz : σ 29 1 = nI rm := hC.2.2.2.2.2.2.1
  refine x_aload_n 0 dX3_clear_0 rfl ?_
  refine gfX3_35 dX3_clear_1 ?_
  refine gfX3_60 (by decide) (by decide) dX3_clear_4 ?_
  refine x_top (show σ 29 1 = nI rm from hz) ?_
  refine x_istore_n (lv' := [(1, .int (nI rm)), (0, mx_rf E 0)]) dX3_clear_7 rfl (by decide) rfl ?_
  refine x_aload_n 1 dX3_clear_8 rfl ?_
  refine gfX3_35 dX3_clear_9 ?_
  refine clX3_70 (qX1_drop0 (k := 29) (by decide) (by decide)) (by decide) (by decide) (by decide) rfl dX3_clear_12 (fun τ12 h12 => ?_)
  obtain rfl := h12
  refine x_iload_n 0 dX3_clear_15 rfl ?_
  exact x_iret dX3_clear_16 ⟨rfl, hC.dropR ok, fun k hk => mx_up_o (by omega)⟩

set_option maxHeartbeats 4000000 in
theorem qX3_image {E : mx_E} {σ : Mem} {n : Nat} {r : Row} {hi : Bool} {ni : Nat} {ri : Row} {lm : Nat} {L : Row} {rm : Nat} {R f : Row} (hC : CI σ (zs n r hi ni ri lm L rm R f)) (ok : (zs n r hi ni ri lm L rm R f).ok)  : MX3_image E 3 [mx_rf E 0] σ (mx_i (fun v τ => (a_image (zs n r hi ni ri lm L rm R f)).1 = v ∧ CI τ (a_image (zs n r hi ni ri lm L rm R f)).2 ∧ FC σ τ)) := by
  refine MM.of (lv := [(0, mx_rf E 0)]) kpX3 rfl (Nat.le_of_ble_eq_true rfl) rfl ?_
  have hN : NW σ := hC.1
  have hT : TI σ 1 n r := hC.2.1
  have hw : wf n r := ok.1
  have hn6 : n ≤ 6 := hw.1
  have hlm : lm ≤ 96 := ok.2.2.2.1
  have hrm : rm ≤ 16 := ok.2.2.2.2
  have hz2 : σ 28 1 = nI lm := hC.2.2.2.2.1
  have hz : σ 29 1 = nI rm := hC.2.2.2.2.2.2.1
  refine x_aload_n 0 dX3_image_0 rfl ?_
  refine gfX3_19 dX3_image_1 ?_
  refine x_aload_n 0 dX3_image_4 rfl ?_
  refine gfX3_10 dX3_image_5 ?_
  refine clX3_73 (qX2_become (t := 3) (u := 1) (by decide) (by decide) (by decide) (by decide) (by decide) hT hw) (by decide) (by decide) (by decide) rfl dX3_image_8 (fun τ8 h8 => ?_)
  refine x_aload_n 0 dX3_image_11 rfl ?_
  refine x_iconst (v := 1) dX3_image_12 (by decide) ?_
  refine pfX3_22 (by decide) dX3_image_13 ?_
  have hI := hC.img ok h8.1 h8.2
  have hT9 : TI (mx_up τ8 0 3 1) 1 n r := hI.2.1
  refine x_aload_n 0 dX3_image_16 rfl ?_
  refine gfX3_10 dX3_image_17 ?_
  refine gfX3_142 (by decide) (by decide) dX3_image_20 ?_
  refine x_top (show (mx_up τ8 0 3 1) 1 5 = r 1 from hT9.2.2.2.1) ?_
  exact x_iret dX3_image_23 ⟨rfl, hI, fun k hk => (mx_up_o (by omega)).trans (h8.2 k (by unfold inT; omega))⟩

set_option maxHeartbeats 4000000 in
theorem qX3_on {E : mx_E} {σ : Mem} {n : Nat} {r : Row} {hi : Bool} {ni : Nat} {ri : Row} {lm : Nat} {L : Row} {rm : Nat} {R f : Row} (hC : CI σ (zs n r hi ni ri lm L rm R f)) (ok : (zs n r hi ni ri lm L rm R f).ok)  : MX3_on E 3 [mx_rf E 0] σ (mx_i (fun v τ => (a_on (zs n r hi ni ri lm L rm R f)).1 = v ∧ CI τ (a_on (zs n r hi ni ri lm L rm R f)).2 ∧ FC σ τ)) := by
  refine MM.of (lv := [(0, mx_rf E 0)]) kpX3 rfl (Nat.le_of_ble_eq_true rfl) rfl ?_
  have hN : NW σ := hC.1
  have hT : TI σ 1 n r := hC.2.1
  have hw : wf n r := ok.1
  have hn6 : n ≤ 6 := hw.1
  have hlm : lm ≤ 96 := ok.2.2.2.1
  have hrm : rm ≤ 16 := ok.2.2.2.2
  have hz2 : σ 28 1 = nI lm := hC.2.2.2.2.1
  have hz : σ 29 1 = nI rm := hC.2.2.2.2.2.2.1
  refine x_aload_n 0 dX3_on_0 rfl ?_
  refine gfX3_22 dX3_on_1 ?_
  refine x_top (show σ 0 3 = zb hi from hC.2.2.2.1) ?_
  refine x_if_ne dX3_on_4 (fun c4 => ?_) (fun c4 => ?_)
  · replace c4 := zb_1 c4
    refine x_aload_n 0 dX3_on_14 rfl ?_
    refine gfX3_10 dX3_on_15 ?_
    refine x_aload_n 0 dX3_on_18 rfl ?_
    refine gfX3_19 dX3_on_19 ?_
    refine clX3_73 (qX2_become (t := 1) (u := 3) (by decide) (by decide) (by decide) (by decide) (by decide) (hC.2.2.1 c4) (ok.2.2.1 c4).1) (by decide) (by decide) (by decide) rfl dX3_on_22 (fun τ22 h22 => ?_)
    refine x_aload_n 0 dX3_on_25 rfl ?_
    refine gfX3_10 dX3_on_26 ?_
    refine gfX3_142 (by decide) (by decide) dX3_on_29 ?_
    refine x_top (show τ22 1 5 = ri 1 from h22.1.2.2.2.1) ?_
    exact x_iret dX3_on_32 (by rw [show a_on (zs n r hi ni ri lm L rm R f) = (ri 1, zs ni ri hi ni ri lm L rm R f) from if_pos c4]; exact ⟨rfl, hC.on ok h22.1 h22.2, fun k hk => h22.2 k (by unfold inT; omega)⟩)
  · replace c4 := zb_0 c4
    refine x_aload_n 0 dX3_on_7 rfl ?_
    refine x_bipush (v := -3) dX3_on_8 (by decide) ?_
    refine clX3_49 (qX3_refuse 3 (by decide) (by decide)) (by decide) rfl dX3_on_10 (fun r10 τ10 h10 => ?_)
    obtain ⟨rfl, rfl⟩ := h10
    exact x_iret dX3_on_13 (by rw [show a_on (zs n r hi ni ri lm L rm R f) = (-3, (zs n r hi ni ri lm L rm R f).no 3) from if_neg (show ¬ hi = true from by rw [c4]; decide)]; exact ⟨rfl, hC.q ok Qz.no, Qz.no.fc⟩)

set_option maxHeartbeats 4000000 in
theorem qX3_judge {E : mx_E} {σ : Mem} {n : Nat} {r : Row} {hi : Bool} {ni : Nat} {ri : Row} {lm : Nat} {L : Row} {rm : Nat} {R f : Row} (hC : CI σ (zs n r hi ni ri lm L rm R f)) (ok : (zs n r hi ni ri lm L rm R f).ok)  : MX3_judge E 1 [mx_rf E 0] σ (mx_i (fun v τ => (a_judge (zs n r hi ni ri lm L rm R f)).1 = v ∧ CI τ (a_judge (zs n r hi ni ri lm L rm R f)).2 ∧ FC σ τ)) := by
  refine MM.of (lv := [(0, mx_rf E 0)]) kpX3 rfl (Nat.le_of_ble_eq_true rfl) rfl ?_
  have hN : NW σ := hC.1
  have hT : TI σ 1 n r := hC.2.1
  have hw : wf n r := ok.1
  have hn6 : n ≤ 6 := hw.1
  have hlm : lm ≤ 96 := ok.2.2.2.1
  have hrm : rm ≤ 16 := ok.2.2.2.2
  have hz2 : σ 28 1 = nI lm := hC.2.2.2.2.1
  have hz : σ 29 1 = nI rm := hC.2.2.2.2.2.2.1
  refine x_bipush (v := -9) dX3_judge_0 (by decide) ?_
  refine x_istore_n (lv' := [(1, .int (-9)), (0, mx_rf E 0)]) dX3_judge_2 rfl (by decide) rfl ?_
  refine x_iconst (v := 0) dX3_judge_3 (by decide) ?_
  refine x_istore_n (lv' := [(2, .int 0), (1, .int (-9)), (0, mx_rf E 0)]) dX3_judge_4 rfl (by decide) rfl ?_
  have key5 : ∀ i, i ≤ rm → f_jg n r R rm (rm - i) i = f_jg n r R rm rm 0 → MX E 1 RX3 cX3_judge 3 (some .int) 5 [(2, .int (nI i)), (1, .int (-9)), (0, mx_rf E 0)] [] σ (mx_i (fun v τ => (a_judge (zs n r hi ni ri lm L rm R f)).1 = v ∧ CI τ (a_judge (zs n r hi ni ri lm L rm R f)).2 ∧ FC σ τ)) := by
    refine mx_ind rm (fun i hi5 ih5 => ?_)
    intro hg
    refine x_iload_n 0 dX3_judge_5 rfl ?_
    refine x_aload_n 2 dX3_judge_6 rfl ?_
    refine gfX3_35 dX3_judge_7 ?_
    refine gfX3_60 (by decide) (by decide) dX3_judge_10 ?_
    refine x_top (show σ 29 1 = nI rm from hz) ?_
    refine x_icmp_ge dX3_judge_13 (fun c13 => ?_) (fun c13 => ?_)
    · have hx := f_jgE (nI_le_of (by omega) (by omega) c13) hg
      refine x_aload_n 2 dX3_judge_63 rfl ?_
      refine gfX3_35 dX3_judge_64 ?_
      refine clX3_70 (qX1_drop0 (k := 29) (by decide) (by decide)) (by decide) (by decide) (by decide) rfl dX3_judge_67 (fun τ67 h67 => ?_)
      obtain rfl := h67
      refine x_iload_n 1 dX3_judge_70 rfl ?_
      exact x_iret dX3_judge_71 ⟨hx, hC.dropR ok, fun k hk => mx_up_o (by omega)⟩
    · have hlm2 := nI_lt_of (by omega) (by omega) c13
      refine x_iload_n 1 dX3_judge_16 rfl ?_
      refine x_bipush (v := -9) dX3_judge_17 (by decide) ?_
      refine x_icmp_ne dX3_judge_19 (fun c => absurd c (by decide)) (fun _ => ?_)
      refine x_aload_n 2 dX3_judge_22 rfl ?_
      refine gfX3_10 dX3_judge_23 ?_
      refine x_iload_n 0 dX3_judge_26 rfl ?_
      refine clX3_122 (qX2_has (by decide) (by decide) hT.1 (nI i)) (by decide) (by decide) (by decide) rfl dX3_judge_27 (fun r27 τ27 h27 => ?_)
      obtain ⟨rfl, rfl⟩ := h27
      refine x_if_eq dX3_judge_30 (fun c30 => ?_) (fun c30 => ?_)
      · replace c30 := zb_0 c30
        refine x_iload_n 0 dX3_judge_55 rfl ?_
        refine x_istore_n (lv' := [(1, .int (nI i)), (2, .int (nI i)), (0, mx_rf E 0)]) dX3_judge_56 rfl (by decide) rfl ?_
        have hx := f_jgF hlm2 hg (fun q => by rw [c30] at q; exact absurd q.1 (by decide))
        refine x_iinc (v := nI (i + 1)) (lv' := [(2, .int (nI (i + 1))), (1, .int (nI i)), (0, mx_rf E 0)]) 1 dX3_judge_57 rfl (nI_1 _) (by decide) rfl ?_
        refine x_goto dX3_judge_60 ?_
        refine x_iload_n 0 dX3_judge_5 rfl ?_
        refine x_aload_n 2 dX3_judge_6 rfl ?_
        refine gfX3_35 dX3_judge_7 ?_
        refine gfX3_60 (by decide) (by decide) dX3_judge_10 ?_
        refine x_top (show σ 29 1 = nI rm from hz) ?_
        refine x_icmp_ge dX3_judge_13 (fun c13 => ?_) (fun c13 => ?_)
        · refine x_aload_n 2 dX3_judge_63 rfl ?_
          refine gfX3_35 dX3_judge_64 ?_
          refine clX3_70 (qX1_drop0 (k := 29) (by decide) (by decide)) (by decide) (by decide) (by decide) rfl dX3_judge_67 (fun τ67 h67 => ?_)
          obtain rfl := h67
          refine x_iload_n 1 dX3_judge_70 rfl ?_
          exact x_iret dX3_judge_71 ⟨hx, hC.dropR ok, fun k hk => mx_up_o (by omega)⟩
        · refine x_iload_n 1 dX3_judge_16 rfl ?_
          refine x_bipush (v := -9) dX3_judge_17 (by decide) ?_
          refine x_icmp_ne dX3_judge_19 (fun c19 => ?_) (fun c19 => ?_)
          · refine x_aload_n 2 dX3_judge_63 rfl ?_
            refine gfX3_35 dX3_judge_64 ?_
            refine clX3_70 (qX1_drop0 (k := 29) (by decide) (by decide)) (by decide) (by decide) (by decide) rfl dX3_judge_67 (fun τ67 h67 => ?_)
            obtain rfl := h67
            refine x_iload_n 1 dX3_judge_70 rfl ?_
            exact x_iret dX3_judge_71 ⟨hx, hC.dropR ok, fun k hk => mx_up_o (by omega)⟩
          · exact absurd c19 (f_n9 (by omega))
      · replace c30 := zb_1 c30
        have hin : i < n := f_inN_l (by omega) (by omega) c30
        refine x_aload_n 2 dX3_judge_33 rfl ?_
        refine gfX3_10 dX3_judge_34 ?_
        refine x_iload_n 0 dX3_judge_37 rfl ?_
        refine clX3_125 (qX2_at (by decide) (by decide) hT.1 hn6 hin) (by decide) (by decide) (by decide) rfl dX3_judge_38 (fun r38 τ38 h38 => ?_)
        obtain ⟨rfl, rfl⟩ := h38
        refine gfX3_157 (by omega) (by omega) dX3_judge_41 ?_
        refine x_top (show σ (4 + 6 * 1 + i) 5 = r (6 + 6 * i + 5) from (hT.2.2.2.2 _ hin).1 5 (by decide)) ?_
        refine x_aload_n 2 dX3_judge_44 rfl ?_
        refine gfX3_35 dX3_judge_45 ?_
        refine x_iload_n 0 dX3_judge_48 rfl ?_
        refine clX3_77 (qX1_at (k := 29) (by decide) (by decide) rm hrm hz i hlm2) (by decide) (by decide) (by decide) rfl dX3_judge_49 (fun r49 τ49 h49 => ?_)
        obtain ⟨rfl, rfl⟩ := h49
        refine x_top (show σ (29 + 3) i = R i from hC.2.2.2.2.2.2.2.1 i hlm2) ?_
        refine x_icmp_eq dX3_judge_52 (fun c52 => ?_) (fun c52 => ?_)
        · refine x_iinc (v := nI (i + 1)) (lv' := [(2, .int (nI (i + 1))), (1, .int (-9)), (0, mx_rf E 0)]) 0 dX3_judge_57 rfl (nI_1 _) (by decide) rfl ?_
          refine x_goto dX3_judge_60 ?_
          exact ih5 (i + 1) (by omega) (by omega) (f_jgT hlm2 hg c30 c52)
        · refine x_iload_n 0 dX3_judge_55 rfl ?_
          refine x_istore_n (lv' := [(1, .int (nI i)), (2, .int (nI i)), (0, mx_rf E 0)]) dX3_judge_56 rfl (by decide) rfl ?_
          have hx := f_jgF hlm2 hg (fun q => c52 q.2)
          refine x_iinc (v := nI (i + 1)) (lv' := [(2, .int (nI (i + 1))), (1, .int (nI i)), (0, mx_rf E 0)]) 1 dX3_judge_57 rfl (nI_1 _) (by decide) rfl ?_
          refine x_goto dX3_judge_60 ?_
          refine x_iload_n 0 dX3_judge_5 rfl ?_
          refine x_aload_n 2 dX3_judge_6 rfl ?_
          refine gfX3_35 dX3_judge_7 ?_
          refine gfX3_60 (by decide) (by decide) dX3_judge_10 ?_
          refine x_top (show σ 29 1 = nI rm from hz) ?_
          refine x_icmp_ge dX3_judge_13 (fun c13 => ?_) (fun c13 => ?_)
          · refine x_aload_n 2 dX3_judge_63 rfl ?_
            refine gfX3_35 dX3_judge_64 ?_
            refine clX3_70 (qX1_drop0 (k := 29) (by decide) (by decide)) (by decide) (by decide) (by decide) rfl dX3_judge_67 (fun τ67 h67 => ?_)
            obtain rfl := h67
            refine x_iload_n 1 dX3_judge_70 rfl ?_
            exact x_iret dX3_judge_71 ⟨hx, hC.dropR ok, fun k hk => mx_up_o (by omega)⟩
          · refine x_iload_n 1 dX3_judge_16 rfl ?_
            refine x_bipush (v := -9) dX3_judge_17 (by decide) ?_
            refine x_icmp_ne dX3_judge_19 (fun c19 => ?_) (fun c19 => ?_)
            · refine x_aload_n 2 dX3_judge_63 rfl ?_
              refine gfX3_35 dX3_judge_64 ?_
              refine clX3_70 (qX1_drop0 (k := 29) (by decide) (by decide)) (by decide) (by decide) (by decide) rfl dX3_judge_67 (fun τ67 h67 => ?_)
              obtain rfl := h67
              refine x_iload_n 1 dX3_judge_70 rfl ?_
              exact x_iret dX3_judge_71 ⟨hx, hC.dropR ok, fun k hk => mx_up_o (by omega)⟩
            · exact absurd c19 (f_n9 (by omega))
  exact key5 0 (Nat.zero_le _) rfl
