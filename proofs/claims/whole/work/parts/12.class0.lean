set_option maxHeartbeats 4000000 in
theorem qX0_crowd {E : mx_E} {σ : Mem} {k : Nat} (hk1 : 7 ≤ k) (hk2 : k < 28) {q : Row} (b : Bool) (hl : q 7 = zb b) : MX0_crowd E 0 [mx_rf E k] (mx_row σ k q) (mx_ie (f_crowd (q 2) (q 3) b) (mx_row σ k q)) := by
  refine MM.of (lv := [(0, mx_rf E k)]) kpX0 rfl (Nat.le_of_ble_eq_true rfl) rfl ?_
  refine x_aload_n 0 dX0_crowd_0 rfl ?_
  refine gfX0_34 (by omega) (by omega) dX0_crowd_1 ?_
  refine x_top (show (mx_row σ k q) k 7 = q 7 from congrFun mx_row_s _) ?_
  refine x_top (show q 7 = zb b from hl) ?_
  refine x_if_eq dX0_crowd_4 (fun c4 => ?_) (fun c4 => ?_)
  · replace c4 := zb_0 c4
    refine x_aload_n 0 dX0_crowd_14 rfl ?_
    refine gfX0_18 (by omega) (by omega) dX0_crowd_15 ?_
    refine x_top (show (mx_row σ k q) k 2 = q 2 from congrFun mx_row_s _) ?_
    refine x_iconst (v := 1) dX0_crowd_18 (by decide) ?_
    refine x_isub dX0_crowd_19 ?_
    refine x_istore_n (lv' := [(1, .int ((q 2) - 1)), (0, mx_rf E k)]) dX0_crowd_20 rfl (by decide) rfl ?_
    refine x_iload_n 0 dX0_crowd_21 rfl ?_
    refine x_iconst (v := 1) dX0_crowd_22 (by decide) ?_
    refine x_icmp_ge dX0_crowd_23 (fun c23 => ?_) (fun c23 => ?_)
    · refine x_aload_n 1 dX0_crowd_28 rfl ?_
      refine gfX0_21 (by omega) (by omega) dX0_crowd_29 ?_
      refine x_top (show (mx_row σ k q) k 3 = q 3 from congrFun mx_row_s _) ?_
      refine x_iload_n 0 dX0_crowd_32 rfl ?_
      refine x_iadd dX0_crowd_33 ?_
      refine x_iconst (v := 1) dX0_crowd_34 (by decide) ?_
      refine x_isub dX0_crowd_35 ?_
      refine x_iload_n 0 dX0_crowd_36 rfl ?_
      refine x_idiv dX0_crowd_37 (by first | decide | exact mx_ge1 c23) ?_
      exact x_iret dX0_crowd_38 ⟨by simp only [f_crowd, f_by, c4, c23, Int32.sub_zero, reduceIte, Bool.false_eq_true], rfl⟩
    · refine x_iconst (v := 1) dX0_crowd_26 (by decide) ?_
      refine x_istore_n (lv' := [(1, .int 1), (0, mx_rf E k)]) dX0_crowd_27 rfl (by decide) rfl ?_
      refine x_aload_n 1 dX0_crowd_28 rfl ?_
      refine gfX0_21 (by omega) (by omega) dX0_crowd_29 ?_
      refine x_top (show (mx_row σ k q) k 3 = q 3 from congrFun mx_row_s _) ?_
      refine x_iload_n 0 dX0_crowd_32 rfl ?_
      refine x_iadd dX0_crowd_33 ?_
      refine x_iconst (v := 1) dX0_crowd_34 (by decide) ?_
      refine x_isub dX0_crowd_35 ?_
      refine x_iload_n 0 dX0_crowd_36 rfl ?_
      refine x_idiv dX0_crowd_37 (by first | decide | exact mx_ge1 c23) ?_
      exact x_iret dX0_crowd_38 ⟨by simp only [f_crowd, f_by, c4, c23, Int32.sub_zero, reduceIte, Bool.false_eq_true], rfl⟩
  · replace c4 := zb_1 c4
    refine x_aload_n 0 dX0_crowd_7 rfl ?_
    refine gfX0_18 (by omega) (by omega) dX0_crowd_8 ?_
    refine x_top (show (mx_row σ k q) k 2 = q 2 from congrFun mx_row_s _) ?_
    refine x_goto dX0_crowd_11 ?_
    refine x_istore_n (lv' := [(1, .int (q 2)), (0, mx_rf E k)]) dX0_crowd_20 rfl (by decide) rfl ?_
    refine x_iload_n 0 dX0_crowd_21 rfl ?_
    refine x_iconst (v := 1) dX0_crowd_22 (by decide) ?_
    refine x_icmp_ge dX0_crowd_23 (fun c23 => ?_) (fun c23 => ?_)
    · refine x_aload_n 1 dX0_crowd_28 rfl ?_
      refine gfX0_21 (by omega) (by omega) dX0_crowd_29 ?_
      refine x_top (show (mx_row σ k q) k 3 = q 3 from congrFun mx_row_s _) ?_
      refine x_iload_n 0 dX0_crowd_32 rfl ?_
      refine x_iadd dX0_crowd_33 ?_
      refine x_iconst (v := 1) dX0_crowd_34 (by decide) ?_
      refine x_isub dX0_crowd_35 ?_
      refine x_iload_n 0 dX0_crowd_36 rfl ?_
      refine x_idiv dX0_crowd_37 (by first | decide | exact mx_ge1 c23) ?_
      exact x_iret dX0_crowd_38 ⟨by simp only [f_crowd, f_by, c4, c23, Int32.sub_zero, reduceIte, Bool.false_eq_true], rfl⟩
    · refine x_iconst (v := 1) dX0_crowd_26 (by decide) ?_
      refine x_istore_n (lv' := [(1, .int 1), (0, mx_rf E k)]) dX0_crowd_27 rfl (by decide) rfl ?_
      refine x_aload_n 1 dX0_crowd_28 rfl ?_
      refine gfX0_21 (by omega) (by omega) dX0_crowd_29 ?_
      refine x_top (show (mx_row σ k q) k 3 = q 3 from congrFun mx_row_s _) ?_
      refine x_iload_n 0 dX0_crowd_32 rfl ?_
      refine x_iadd dX0_crowd_33 ?_
      refine x_iconst (v := 1) dX0_crowd_34 (by decide) ?_
      refine x_isub dX0_crowd_35 ?_
      refine x_iload_n 0 dX0_crowd_36 rfl ?_
      refine x_idiv dX0_crowd_37 (by first | decide | exact mx_ge1 c23) ?_
      exact x_iret dX0_crowd_38 ⟨by simp only [f_crowd, f_by, c4, c23, Int32.sub_zero, reduceIte, Bool.false_eq_true], rfl⟩

set_option maxHeartbeats 4000000 in
theorem qX0_dustIn {E : mx_E} {σ : Mem} {k : Nat} (hk1 : 7 ≤ k) (hk2 : k < 28) {q : Row} (week : Int32) (hk : ∃ x, x < 6 ∧ q 0 = nI x) (hf : ∃ f, f ≤ 9 ∧ q 1 = nI f) : MX0_dustIn E 0 [mx_rf E k, .int week] (mx_row σ k q) (mx_ie (f_dust (q 0) (q 1) week) (mx_row σ k q)) := by
  refine MM.of (lv := [(0, mx_rf E k), (1, .int week)]) kpX0 rfl (Nat.le_of_ble_eq_true rfl) rfl ?_
  refine x_aload_n 0 dX0_dustIn_0 rfl ?_
  refine gfX0_9 (by omega) (by omega) dX0_dustIn_1 ?_
  refine x_top (show (mx_row σ k q) k 0 = q 0 from congrFun mx_row_s _) ?_
  by_cases c4_0 : q 0 = 0
  · refine x_tableIn (off := 36) (tgt := 40) dX0_dustIn_4 (by rw [c4_0]; decide) (by rw [c4_0]; decide) (by rw [c4_0]; decide) (by decide) ?_
    refine x_iconst (v := 1) dX0_dustIn_40 (by decide) ?_
    exact x_iret dX0_dustIn_41 ⟨by simp [f_dust, *], rfl⟩
  by_cases c4_1 : q 0 = 1
  · refine x_tableIn (off := 38) (tgt := 42) dX0_dustIn_4 (by rw [c4_1]; decide) (by rw [c4_1]; decide) (by rw [c4_1]; decide) (by decide) ?_
    refine x_iconst (v := 2) dX0_dustIn_42 (by decide) ?_
    exact x_iret dX0_dustIn_43 ⟨by simp [f_dust, *], rfl⟩
  by_cases c4_2 : q 0 = 2
  · refine x_tableIn (off := 40) (tgt := 44) dX0_dustIn_4 (by rw [c4_2]; decide) (by rw [c4_2]; decide) (by rw [c4_2]; decide) (by decide) ?_
    refine x_iconst (v := 3) dX0_dustIn_44 (by decide) ?_
    exact x_iret dX0_dustIn_45 ⟨by simp [f_dust, *], rfl⟩
  by_cases c4_3 : q 0 = 3
  · refine x_tableIn (off := 40) (tgt := 44) dX0_dustIn_4 (by rw [c4_3]; decide) (by rw [c4_3]; decide) (by rw [c4_3]; decide) (by decide) ?_
    refine x_iconst (v := 3) dX0_dustIn_44 (by decide) ?_
    exact x_iret dX0_dustIn_45 ⟨by simp [f_dust, *], rfl⟩
  by_cases c4_4 : q 0 = 4
  · refine x_tableIn (off := 42) (tgt := 46) dX0_dustIn_4 (by rw [c4_4]; decide) (by rw [c4_4]; decide) (by rw [c4_4]; decide) (by decide) ?_
    refine x_aload_n 0 dX0_dustIn_46 rfl ?_
    refine gfX0_15 (by omega) (by omega) dX0_dustIn_47 ?_
    refine x_top (show (mx_row σ k q) k 1 = q 1 from congrFun mx_row_s _) ?_
    refine x_iconst (v := 2) dX0_dustIn_50 (by decide) ?_
    refine x_iadd dX0_dustIn_51 ?_
    refine x_istore_n (lv' := [(2, .int ((q 1) + 2)), (0, mx_rf E k), (1, .int week)]) dX0_dustIn_52 rfl (by decide) rfl ?_
    refine x_iload_n 0 dX0_dustIn_53 rfl ?_
    refine x_if_le dX0_dustIn_54 (fun c54 => ?_) (fun c54 => ?_)
    · exact absurd c54 (mx_fig hf).1
    · refine x_iload_n 2 dX0_dustIn_57 rfl ?_
      refine x_iload_n 0 dX0_dustIn_58 rfl ?_
      refine x_irem dX0_dustIn_59 ((mx_fig hf).2) ?_
      refine x_if_ne dX0_dustIn_60 (fun c60 => ?_) (fun c60 => ?_)
      · refine x_iconst (v := 2) dX0_dustIn_67 (by decide) ?_
        exact x_iret dX0_dustIn_68 ⟨by simp [f_dust, *], rfl⟩
      · refine x_iconst (v := 0) dX0_dustIn_63 (by decide) ?_
        refine x_goto dX0_dustIn_64 ?_
        exact x_iret dX0_dustIn_68 ⟨by simp [f_dust, *], rfl⟩
  have hsw4 : (q 0).toInt < 0 ∨ 4 < (q 0).toInt := by
    have q_c4_0 := lv_neT c4_0 (show (0 : Int32).toInt = 0 from rfl)
    have q_c4_1 := lv_neT c4_1 (show (1 : Int32).toInt = 1 from rfl)
    have q_c4_2 := lv_neT c4_2 (show (2 : Int32).toInt = 2 from rfl)
    have q_c4_3 := lv_neT c4_3 (show (3 : Int32).toInt = 3 from rfl)
    have q_c4_4 := lv_neT c4_4 (show (4 : Int32).toInt = 4 from rfl)
    omega
  refine x_tableOut (tgt := 69) dX0_dustIn_4 hsw4 (by decide) ?_
  have h5 := mx_kind hk
  refine x_iconst (v := 0) dX0_dustIn_69 (by decide) ?_
  exact x_iret dX0_dustIn_70 ⟨by rcases h5 with h | h | h | h | h | h <;> first | exact absurd h (by assumption) | simp [f_dust, h], rfl⟩

set_option maxHeartbeats 4000000 in
theorem qX0_burns {E : mx_E} {σ : Mem} {k : Nat} (hk1 : 7 ≤ k) (hk2 : k < 28) {q : Row}  : MX0_burns E 0 [mx_rf E k] (mx_row σ k q) (mx_ie (f_burns (q 0)) (mx_row σ k q)) := by
  refine MM.of (lv := [(0, mx_rf E k)]) kpX0 rfl (Nat.le_of_ble_eq_true rfl) rfl ?_
  refine x_aload_n 0 dX0_burns_0 rfl ?_
  refine gfX0_9 (by omega) (by omega) dX0_burns_1 ?_
  refine x_top (show (mx_row σ k q) k 0 = q 0 from congrFun mx_row_s _) ?_
  by_cases c4_0 : q 0 = 1
  · refine x_tableIn (off := 28) (tgt := 32) dX0_burns_4 (by rw [c4_0]; decide) (by rw [c4_0]; decide) (by rw [c4_0]; decide) (by decide) ?_
    refine x_iconst (v := 0) dX0_burns_32 (by decide) ?_
    exact x_iret dX0_burns_33 ⟨by simp [f_burns, *], rfl⟩
  by_cases c4_1 : q 0 = 2
  · refine x_tableIn (off := 30) (tgt := 34) dX0_burns_4 (by rw [c4_1]; decide) (by rw [c4_1]; decide) (by rw [c4_1]; decide) (by decide) ?_
    refine x_iconst (v := 2) dX0_burns_34 (by decide) ?_
    exact x_iret dX0_burns_35 ⟨by simp [f_burns, *], rfl⟩
  by_cases c4_2 : q 0 = 3
  · refine x_tableIn (off := 32) (tgt := 36) dX0_burns_4 (by rw [c4_2]; decide) (by rw [c4_2]; decide) (by rw [c4_2]; decide) (by decide) ?_
    refine x_iconst (v := 3) dX0_burns_36 (by decide) ?_
    exact x_iret dX0_burns_37 ⟨by simp [f_burns, *], rfl⟩
  have hsw4 : (q 0).toInt < 1 ∨ 3 < (q 0).toInt := by
    have q_c4_0 := lv_neT c4_0 (show (1 : Int32).toInt = 1 from rfl)
    have q_c4_1 := lv_neT c4_1 (show (2 : Int32).toInt = 2 from rfl)
    have q_c4_2 := lv_neT c4_2 (show (3 : Int32).toInt = 3 from rfl)
    omega
  refine x_tableOut (tgt := 38) dX0_burns_4 hsw4 (by decide) ?_
  refine x_iconst (v := 1) dX0_burns_38 (by decide) ?_
  exact x_iret dX0_burns_39 ⟨by simp [f_burns, *], rfl⟩

set_option maxHeartbeats 4000000 in
theorem qX0_childFrom {E : mx_E} {σ : Mem} {k : Nat} (hk1 : 7 ≤ k) (hk2 : k < 28) {q : Row} (hk : ∃ x, x < 6 ∧ q 0 = nI x) : MX0_childFrom E 0 [mx_rf E k] (mx_row σ k q) (mx_ie (f_found (q 0) (q 1)) (mx_row σ k q)) := by
  refine MM.of (lv := [(0, mx_rf E k)]) kpX0 rfl (Nat.le_of_ble_eq_true rfl) rfl ?_
  refine x_aload_n 0 dX0_childFrom_0 rfl ?_
  refine gfX0_15 (by omega) (by omega) dX0_childFrom_1 ?_
  refine x_top (show (mx_row σ k q) k 1 = q 1 from congrFun mx_row_s _) ?_
  refine x_iconst (v := 2) dX0_childFrom_4 (by decide) ?_
  refine x_idiv dX0_childFrom_5 (by decide) ?_
  refine x_iconst (v := 3) dX0_childFrom_6 (by decide) ?_
  refine x_iadd dX0_childFrom_7 ?_
  refine x_istore_n (lv' := [(1, .int (((q 1) / 2) + 3)), (0, mx_rf E k)]) dX0_childFrom_8 rfl (by decide) rfl ?_
  refine x_iload_n 0 dX0_childFrom_9 rfl ?_
  refine x_iconst (v := 2) dX0_childFrom_10 (by decide) ?_
  refine x_iadd dX0_childFrom_11 ?_
  refine x_istore_n (lv' := [(2, .int ((((q 1) / 2) + 3) + 2)), (1, .int (((q 1) / 2) + 3)), (0, mx_rf E k)]) dX0_childFrom_12 rfl (by decide) rfl ?_
  refine x_aload_n 2 dX0_childFrom_13 rfl ?_
  refine gfX0_9 (by omega) (by omega) dX0_childFrom_14 ?_
  refine x_top (show (mx_row σ k q) k 0 = q 0 from congrFun mx_row_s _) ?_
  by_cases c17_0 : q 0 = 0
  · refine x_tableIn (off := 35) (tgt := 52) dX0_childFrom_17 (by rw [c17_0]; decide) (by rw [c17_0]; decide) (by rw [c17_0]; decide) (by decide) ?_
    refine x_iload_n 1 dX0_childFrom_52 rfl ?_
    exact x_iret dX0_childFrom_53 ⟨by first | (simp [f_found, *]; done) | (rcases h5 with h | h | h | h | h | h <;> first | exact absurd h (by assumption) | simp [f_found, h]), rfl⟩
  by_cases c17_1 : q 0 = 1
  · refine x_tableIn (off := 46) (tgt := 63) dX0_childFrom_17 (by rw [c17_1]; decide) (by rw [c17_1]; decide) (by rw [c17_1]; decide) (by decide) ?_
    refine x_iload_n 1 dX0_childFrom_63 rfl ?_
    refine x_iconst (v := 1) dX0_childFrom_64 (by decide) ?_
    refine x_isub dX0_childFrom_65 ?_
    exact x_iret dX0_childFrom_66 ⟨by first | (simp [f_found, *]; done) | (rcases h5 with h | h | h | h | h | h <;> first | exact absurd h (by assumption) | simp [f_found, h]), rfl⟩
  by_cases c17_2 : q 0 = 2
  · refine x_tableIn (off := 37) (tgt := 54) dX0_childFrom_17 (by rw [c17_2]; decide) (by rw [c17_2]; decide) (by rw [c17_2]; decide) (by decide) ?_
    refine x_iload_n 0 dX0_childFrom_54 rfl ?_
    exact x_iret dX0_childFrom_55 ⟨by first | (simp [f_found, *]; done) | (rcases h5 with h | h | h | h | h | h <;> first | exact absurd h (by assumption) | simp [f_found, h]), rfl⟩
  by_cases c17_3 : q 0 = 3
  · refine x_tableIn (off := 39) (tgt := 56) dX0_childFrom_17 (by rw [c17_3]; decide) (by rw [c17_3]; decide) (by rw [c17_3]; decide) (by decide) ?_
    refine x_iconst (v := 2) dX0_childFrom_56 (by decide) ?_
    refine x_iload_n 0 dX0_childFrom_57 rfl ?_
    refine x_imul dX0_childFrom_58 ?_
    exact x_iret dX0_childFrom_59 ⟨by first | (simp [f_found, *]; done) | (rcases h5 with h | h | h | h | h | h <;> first | exact absurd h (by assumption) | simp [f_found, h]), rfl⟩
  by_cases c17_4 : q 0 = 4
  · refine x_tableIn (off := 43) (tgt := 60) dX0_childFrom_17 (by rw [c17_4]; decide) (by rw [c17_4]; decide) (by rw [c17_4]; decide) (by decide) ?_
    refine x_bipush (v := 99) dX0_childFrom_60 (by decide) ?_
    exact x_iret dX0_childFrom_62 ⟨by first | (simp [f_found, *]; done) | (rcases h5 with h | h | h | h | h | h <;> first | exact absurd h (by assumption) | simp [f_found, h]), rfl⟩
  have hsw17 : (q 0).toInt < 0 ∨ 4 < (q 0).toInt := by
    have q_c17_0 := lv_neT c17_0 (show (0 : Int32).toInt = 0 from rfl)
    have q_c17_1 := lv_neT c17_1 (show (1 : Int32).toInt = 1 from rfl)
    have q_c17_2 := lv_neT c17_2 (show (2 : Int32).toInt = 2 from rfl)
    have q_c17_3 := lv_neT c17_3 (show (3 : Int32).toInt = 3 from rfl)
    have q_c17_4 := lv_neT c17_4 (show (4 : Int32).toInt = 4 from rfl)
    omega
  refine x_tableOut (tgt := 63) dX0_childFrom_17 hsw17 (by decide) ?_
  have h5 := mx_kind hk
  refine x_iload_n 1 dX0_childFrom_63 rfl ?_
  refine x_iconst (v := 1) dX0_childFrom_64 (by decide) ?_
  refine x_isub dX0_childFrom_65 ?_
  exact x_iret dX0_childFrom_66 ⟨by first | (simp [f_found, *]; done) | (rcases h5 with h | h | h | h | h | h <;> first | exact absurd h (by assumption) | simp [f_found, h]), rfl⟩

def h_isF (q : Row) (kb b : Bool) : Bool := kb && decide (f_found (q 0) (q 1) ≤ f_crowd (q 2) (q 3) b)

set_option maxHeartbeats 4000000 in
theorem qX0_childIsFound {E : mx_E} {σ : Mem} {k : Nat} (hk1 : 7 ≤ k) (hk2 : k < 28) {q : Row} (kb b : Bool) (hb : q 6 = zb kb) (hl : q 7 = zb b) (hk : ∃ x, x < 6 ∧ q 0 = nI x) : MX0_childIsFound E 1 [mx_rf E k] (mx_row σ k q) (mx_ie (zb (h_isF q kb b)) (mx_row σ k q)) := by
  refine MM.of (lv := [(0, mx_rf E k)]) kpX0 rfl (Nat.le_of_ble_eq_true rfl) rfl ?_
  refine x_aload_n 0 dX0_childIsFound_0 rfl ?_
  refine gfX0_30 (by omega) (by omega) dX0_childIsFound_1 ?_
  refine x_top (show (mx_row σ k q) k 6 = q 6 from congrFun mx_row_s _) ?_
  refine x_top (show q 6 = zb kb from hb) ?_
  refine x_if_eq dX0_childIsFound_4 (fun c4 => ?_) (fun c4 => ?_)
  · replace c4 := zb_0 c4
    refine x_iconst (v := 0) dX0_childIsFound_22 (by decide) ?_
    exact x_zret dX0_childIsFound_23 (by decide) ⟨by simp [zb, h_isF, c4], rfl⟩
  · replace c4 := zb_1 c4
    refine x_aload_n 0 dX0_childIsFound_7 rfl ?_
    refine clX0_37 (qX0_crowd hk1 hk2 b hl) (by decide) (by omega) (by omega) rfl dX0_childIsFound_8 (fun r8 τ8 h8 => ?_)
    obtain ⟨rfl, rfl⟩ := h8
    refine x_aload_n 0 dX0_childIsFound_11 rfl ?_
    refine clX0_41 (qX0_childFrom hk1 hk2 hk) (by decide) (by omega) (by omega) rfl dX0_childIsFound_12 (fun r12 τ12 h12 => ?_)
    obtain ⟨rfl, rfl⟩ := h12
    refine x_icmp_lt dX0_childIsFound_15 (fun c15 => ?_) (fun c15 => ?_)
    · refine x_iconst (v := 0) dX0_childIsFound_22 (by decide) ?_
      exact x_zret dX0_childIsFound_23 (by decide) ⟨by simp [zb, h_isF, c4, c15, (Int32.not_le.mpr c15)], rfl⟩
    · refine x_iconst (v := 1) dX0_childIsFound_18 (by decide) ?_
      refine x_goto dX0_childIsFound_19 ?_
      exact x_zret dX0_childIsFound_23 (by decide) ⟨by simp [zb, h_isF, c4, c15, (Int32.not_lt.mp c15)], rfl⟩

set_option maxHeartbeats 4000000 in
theorem qX0_addDust {E : mx_E} {σ : Mem} {k : Nat} (hk1 : 7 ≤ k) (hk2 : k < 28) {q : Row} (m : Int32) : MX0_addDust E 1 [mx_rf E k, .int m] (mx_row σ k q) (mx_ve (mx_row σ k (upd q 4 (f_least 20 (q 4 + m))))) := by
  refine MM.of (lv := [(0, mx_rf E k), (1, .int m)]) kpX0 rfl (Nat.le_of_ble_eq_true rfl) rfl ?_
  refine x_aload_n 0 dX0_addDust_0 rfl ?_
  refine x_bipush (v := 20) dX0_addDust_1 (by decide) ?_
  refine x_aload_n 0 dX0_addDust_3 rfl ?_
  refine gfX0_24 (by omega) (by omega) dX0_addDust_4 ?_
  refine x_top (show (mx_row σ k q) k 4 = q 4 from congrFun mx_row_s _) ?_
  refine x_iload_n 1 dX0_addDust_7 rfl ?_
  refine x_iadd dX0_addDust_8 ?_
  refine clX0_44 (by decide) rfl dX0_addDust_9 ?_
  refine x_top (f_min _ _) ?_
  refine pfX0_24 (by omega) (by omega) dX0_addDust_12 ?_
  refine x_mem mx_row_up ?_
  exact x_vret dX0_addDust_15 rfl

set_option maxHeartbeats 4000000 in
theorem qX0_dent {E : mx_E} {σ : Mem} {k : Nat} (hk1 : 7 ≤ k) (hk2 : k < 28) {q : Row}  : MX0_dent E 1 [mx_rf E k] (mx_row σ k q) (mx_ve (mx_row σ k (upd q 5 (f_least 9 (q 5 + 1))))) := by
  refine MM.of (lv := [(0, mx_rf E k)]) kpX0 rfl (Nat.le_of_ble_eq_true rfl) rfl ?_
  refine x_aload_n 0 dX0_dent_0 rfl ?_
  refine x_bipush (v := 9) dX0_dent_1 (by decide) ?_
  refine x_aload_n 0 dX0_dent_3 rfl ?_
  refine gfX0_27 (by omega) (by omega) dX0_dent_4 ?_
  refine x_top (show (mx_row σ k q) k 5 = q 5 from congrFun mx_row_s _) ?_
  refine x_iconst (v := 1) dX0_dent_7 (by decide) ?_
  refine x_iadd dX0_dent_8 ?_
  refine clX0_44 (by decide) rfl dX0_dent_9 ?_
  refine x_top (f_min _ _) ?_
  refine pfX0_27 (by omega) (by omega) dX0_dent_12 ?_
  refine x_mem mx_row_up ?_
  exact x_vret dX0_dent_15 rfl

set_option maxHeartbeats 4000000 in
theorem qX0_letTheRoom {E : mx_E} {σ : Mem} {k : Nat} (hk1 : 7 ≤ k) (hk2 : k < 28) {q : Row}  : MX0_letTheRoom E 2 [mx_rf E k] (mx_row σ k q) (mx_ve (mx_row σ k (upd (upd q 7 1) 4 (f_least 20 (q 4 + 3))))) := by
  refine MM.of (lv := [(0, mx_rf E k)]) kpX0 rfl (Nat.le_of_ble_eq_true rfl) rfl ?_
  refine x_aload_n 0 dX0_letTheRoom_0 rfl ?_
  refine x_iconst (v := 1) dX0_letTheRoom_1 (by decide) ?_
  refine pfX0_34 (by omega) (by omega) (by decide) dX0_letTheRoom_2 ?_
  refine x_mem mx_row_up ?_
  refine x_aload_n 0 dX0_letTheRoom_5 rfl ?_
  refine x_iconst (v := 3) dX0_letTheRoom_6 (by decide) ?_
  refine clX0_50 (qX0_addDust hk1 hk2 (q := (upd q 7 1)) 3) (by decide) (by omega) (by omega) rfl dX0_letTheRoom_7 (fun τ7 h7 => ?_)
  obtain rfl := h7
  exact x_vret dX0_letTheRoom_10 rfl

def h_lit (q : Row) (candles : Int32) : Bool := decide (f_burns (q 0) ≤ candles)
def h_sp1 (q : Row) (week candles : Int32) : Row := upd q 4 (f_least 20 (q 4 + (if h_lit q candles = true then f_dust (q 0) (q 1) week else 2 * f_dust (q 0) (q 1) week + 1)))
def h_sp (q : Row) (week candles : Int32) (kb b : Bool) : Row := if h_isF (h_sp1 q week candles) kb b = true then upd (h_sp1 q week candles) 5 (f_least 9 (h_sp1 q week candles 5 + 1)) else h_sp1 q week candles
def h_spR (q : Row) (candles : Int32) : Int32 := if h_lit q candles = true then f_burns (q 0) else 0
theorem h_sp_o (q : Row) (week candles : Int32) (kb b : Bool) {j : Nat} (h4 : j ≠ 4) (h5 : j ≠ 5) : h_sp q week candles kb b j = q j := by
  unfold h_sp
  split <;> simp [h_sp1, upd, h4, h5]

set_option maxHeartbeats 4000000 in
theorem qX0_spendWeek {E : mx_E} {σ : Mem} {k : Nat} (hk1 : 7 ≤ k) (hk2 : k < 28) {q : Row} (week candles : Int32) (kb b : Bool) (hb : q 6 = zb kb) (hl : q 7 = zb b) (hk : ∃ x, x < 6 ∧ q 0 = nI x) (hf : ∃ f, f ≤ 9 ∧ q 1 = nI f) : MX0_spendWeek E 2 [mx_rf E k, .int week, .int candles] (mx_row σ k q) (mx_ie (h_spR q candles) (mx_row σ k (h_sp q week candles kb b))) := by
  refine MM.of (lv := [(0, mx_rf E k), (1, .int week), (2, .int candles)]) kpX0 rfl (Nat.le_of_ble_eq_true rfl) rfl ?_
  refine x_iload_n 2 dX0_spendWeek_0 rfl ?_
  refine x_aload_n 0 dX0_spendWeek_1 rfl ?_
  refine clX0_54 (qX0_burns hk1 hk2 (q := q)) (by decide) (by omega) (by omega) rfl dX0_spendWeek_2 (fun r2 τ2 h2 => ?_)
  obtain ⟨rfl, rfl⟩ := h2
  refine x_icmp_lt dX0_spendWeek_5 (fun c5 => ?_) (fun c5 => ?_)
  · have hh : h_lit q candles = false := decide_eq_false (Int32.not_le.mpr c5)
    refine x_iconst (v := 0) dX0_spendWeek_12 (by decide) ?_
    refine x_istore_n (lv' := [(3, .int 0), (0, mx_rf E k), (1, .int week), (2, .int candles)]) dX0_spendWeek_13 rfl (by decide) rfl ?_
    refine x_aload_n 1 dX0_spendWeek_14 rfl ?_
    refine x_iload_n 2 dX0_spendWeek_15 rfl ?_
    refine clX0_57 (qX0_dustIn hk1 hk2 (q := q) week hk hf) (by decide) (by omega) (by omega) rfl dX0_spendWeek_16 (fun r16 τ16 h16 => ?_)
    obtain ⟨rfl, rfl⟩ := h16
    refine x_istore (lv' := [(4, .int (f_dust (q 0) (q 1) week)), (3, .int 0), (0, mx_rf E k), (1, .int week), (2, .int candles)]) dX0_spendWeek_19 rfl (by decide) rfl ?_
    refine x_aload_n 2 dX0_spendWeek_21 rfl ?_
    refine x_iload_n 1 dX0_spendWeek_22 rfl ?_
    refine x_if_eq dX0_spendWeek_23 (fun _ => ?_) (fun c => absurd c (by decide))
    refine x_iconst (v := 2) dX0_spendWeek_31 (by decide) ?_
    refine x_iload 0 dX0_spendWeek_32 rfl ?_
    refine x_imul dX0_spendWeek_34 ?_
    refine x_iconst (v := 1) dX0_spendWeek_35 (by decide) ?_
    refine x_iadd dX0_spendWeek_36 ?_
    refine clX0_50 (qX0_addDust hk1 hk2 (q := q) ((2 * (f_dust (q 0) (q 1) week)) + 1)) (by decide) (by omega) (by omega) rfl dX0_spendWeek_37 (fun τ37 h37 => ?_)
    obtain rfl := h37
    refine x_mem (τ := mx_row σ k (h_sp1 q week candles)) (congrArg (mx_row σ k) (show upd q 4 (f_least 20 (q 4 + ((2 * (f_dust (q 0) (q 1) week)) + 1))) = h_sp1 q week candles from by simp only [h_sp1, hh, reduceIte, Bool.false_eq_true, Bool.true_and, Bool.false_and, Bool.and_true, Bool.and_false, decide_eq_true_eq, decide_true, decide_false])) ?_
    refine x_aload_n 2 dX0_spendWeek_40 rfl ?_
    refine clX0_61 (qX0_childIsFound hk1 hk2 kb b hb hl hk) (by decide) (by omega) (by omega) rfl dX0_spendWeek_41 (fun r41 τ41 h41 => ?_)
    obtain ⟨rfl, rfl⟩ := h41
    refine x_if_eq dX0_spendWeek_44 (fun c44 => ?_) (fun c44 => ?_)
    · replace c44 := zb_0 c44
      refine x_mem (τ := mx_row σ k (h_sp q week candles kb b)) (congrArg (mx_row σ k) (show h_sp1 q week candles = h_sp q week candles kb b from by simp only [h_sp, c44, reduceIte, Bool.false_eq_true, Bool.true_and, Bool.false_and, Bool.and_true, Bool.and_false, decide_eq_true_eq, decide_true, decide_false])) ?_
      refine x_iload_n 1 dX0_spendWeek_51 rfl ?_
      refine x_if_eq dX0_spendWeek_52 (fun _ => ?_) (fun c => absurd c (by decide))
      refine x_iconst (v := 0) dX0_spendWeek_62 (by decide) ?_
      exact x_iret dX0_spendWeek_63 ⟨by simp only [h_spR, hh, reduceIte, Bool.false_eq_true], rfl⟩
    · replace c44 := zb_1 c44
      refine x_aload_n 2 dX0_spendWeek_47 rfl ?_
      refine clX0_65 (qX0_dent hk1 hk2 (q := (h_sp1 q week candles))) (by decide) (by omega) (by omega) rfl dX0_spendWeek_48 (fun τ48 h48 => ?_)
      obtain rfl := h48
      refine x_mem (τ := mx_row σ k (h_sp q week candles kb b)) (congrArg (mx_row σ k) (show upd (h_sp1 q week candles) 5 (f_least 9 ((h_sp1 q week candles) 5 + 1)) = h_sp q week candles kb b from by simp only [h_sp, c44, reduceIte, Bool.false_eq_true, Bool.true_and, Bool.false_and, Bool.and_true, Bool.and_false, decide_eq_true_eq, decide_true, decide_false])) ?_
      refine x_iload_n 1 dX0_spendWeek_51 rfl ?_
      refine x_if_eq dX0_spendWeek_52 (fun _ => ?_) (fun c => absurd c (by decide))
      refine x_iconst (v := 0) dX0_spendWeek_62 (by decide) ?_
      exact x_iret dX0_spendWeek_63 ⟨by simp only [h_spR, hh, reduceIte, Bool.false_eq_true], rfl⟩
  · have hh : h_lit q candles = true := decide_eq_true (Int32.not_lt.mp c5)
    refine x_iconst (v := 1) dX0_spendWeek_8 (by decide) ?_
    refine x_goto dX0_spendWeek_9 ?_
    refine x_istore_n (lv' := [(3, .int 1), (0, mx_rf E k), (1, .int week), (2, .int candles)]) dX0_spendWeek_13 rfl (by decide) rfl ?_
    refine x_aload_n 1 dX0_spendWeek_14 rfl ?_
    refine x_iload_n 2 dX0_spendWeek_15 rfl ?_
    refine clX0_57 (qX0_dustIn hk1 hk2 (q := q) week hk hf) (by decide) (by omega) (by omega) rfl dX0_spendWeek_16 (fun r16 τ16 h16 => ?_)
    obtain ⟨rfl, rfl⟩ := h16
    refine x_istore (lv' := [(4, .int (f_dust (q 0) (q 1) week)), (3, .int 1), (0, mx_rf E k), (1, .int week), (2, .int candles)]) dX0_spendWeek_19 rfl (by decide) rfl ?_
    refine x_aload_n 2 dX0_spendWeek_21 rfl ?_
    refine x_iload_n 1 dX0_spendWeek_22 rfl ?_
    refine x_if_eq dX0_spendWeek_23 (fun c => absurd c (by decide)) (fun _ => ?_)
    refine x_iload 0 dX0_spendWeek_26 rfl ?_
    refine x_goto dX0_spendWeek_28 ?_
    refine clX0_50 (qX0_addDust hk1 hk2 (q := q) (f_dust (q 0) (q 1) week)) (by decide) (by omega) (by omega) rfl dX0_spendWeek_37 (fun τ37 h37 => ?_)
    obtain rfl := h37
    refine x_mem (τ := mx_row σ k (h_sp1 q week candles)) (congrArg (mx_row σ k) (show upd q 4 (f_least 20 (q 4 + (f_dust (q 0) (q 1) week))) = h_sp1 q week candles from by simp only [h_sp1, hh, reduceIte, Bool.false_eq_true, Bool.true_and, Bool.false_and, Bool.and_true, Bool.and_false, decide_eq_true_eq, decide_true, decide_false])) ?_
    refine x_aload_n 2 dX0_spendWeek_40 rfl ?_
    refine clX0_61 (qX0_childIsFound hk1 hk2 kb b hb hl hk) (by decide) (by omega) (by omega) rfl dX0_spendWeek_41 (fun r41 τ41 h41 => ?_)
    obtain ⟨rfl, rfl⟩ := h41
    refine x_if_eq dX0_spendWeek_44 (fun c44 => ?_) (fun c44 => ?_)
    · replace c44 := zb_0 c44
      refine x_mem (τ := mx_row σ k (h_sp q week candles kb b)) (congrArg (mx_row σ k) (show h_sp1 q week candles = h_sp q week candles kb b from by simp only [h_sp, c44, reduceIte, Bool.false_eq_true, Bool.true_and, Bool.false_and, Bool.and_true, Bool.and_false, decide_eq_true_eq, decide_true, decide_false])) ?_
      refine x_iload_n 1 dX0_spendWeek_51 rfl ?_
      refine x_if_eq dX0_spendWeek_52 (fun c => absurd c (by decide)) (fun _ => ?_)
      refine x_aload_n 2 dX0_spendWeek_55 rfl ?_
      refine clX0_54 (qX0_burns hk1 hk2 (q := h_sp q week candles kb b)) (by decide) (by omega) (by omega) rfl dX0_spendWeek_56 (fun r56 τ56 h56 => ?_)
      obtain ⟨rfl, rfl⟩ := h56
      refine x_goto dX0_spendWeek_59 ?_
      exact x_iret dX0_spendWeek_63 ⟨by simp only [h_spR, hh, reduceIte, Bool.false_eq_true]; rw [h_sp_o _ _ _ _ _ (by decide) (by decide)], rfl⟩
    · replace c44 := zb_1 c44
      refine x_aload_n 2 dX0_spendWeek_47 rfl ?_
      refine clX0_65 (qX0_dent hk1 hk2 (q := (h_sp1 q week candles))) (by decide) (by omega) (by omega) rfl dX0_spendWeek_48 (fun τ48 h48 => ?_)
      obtain rfl := h48
      refine x_mem (τ := mx_row σ k (h_sp q week candles kb b)) (congrArg (mx_row σ k) (show upd (h_sp1 q week candles) 5 (f_least 9 ((h_sp1 q week candles) 5 + 1)) = h_sp q week candles kb b from by simp only [h_sp, c44, reduceIte, Bool.false_eq_true, Bool.true_and, Bool.false_and, Bool.and_true, Bool.and_false, decide_eq_true_eq, decide_true, decide_false])) ?_
      refine x_iload_n 1 dX0_spendWeek_51 rfl ?_
      refine x_if_eq dX0_spendWeek_52 (fun c => absurd c (by decide)) (fun _ => ?_)
      refine x_aload_n 2 dX0_spendWeek_55 rfl ?_
      refine clX0_54 (qX0_burns hk1 hk2 (q := h_sp q week candles kb b)) (by decide) (by omega) (by omega) rfl dX0_spendWeek_56 (fun r56 τ56 h56 => ?_)
      obtain ⟨rfl, rfl⟩ := h56
      refine x_goto dX0_spendWeek_59 ?_
      exact x_iret dX0_spendWeek_63 ⟨by simp only [h_spR, hh, reduceIte, Bool.false_eq_true]; rw [h_sp_o _ _ _ _ _ (by decide) (by decide)], rfl⟩

set_option maxHeartbeats 4000000 in
theorem qX0_become {E : mx_E} {σ : Mem} {k : Nat} (hk1 : 7 ≤ k) (hk2 : k < 28) {q : Row} (u : Nat) (hu1 : 7 ≤ u) (hu2 : u < 28) (hne : u ≠ k) (hb : σ u 6 = 0 ∨ σ u 6 = 1) (hl : σ u 7 = 0 ∨ σ u 7 = 1) : MX0_become E 0 [mx_rf E k, mx_rf E u] (mx_row σ k q) (mx_v (fun τ => ∃ q2 : Row, (∀ j, j < 8 → q2 j = σ u j) ∧ mx_row σ k q2 = τ)) := by
  refine MM.of (lv := [(0, mx_rf E k), (1, mx_rf E u)]) kpX0 rfl (Nat.le_of_ble_eq_true rfl) rfl ?_
  refine x_aload_n 0 dX0_become_0 rfl ?_
  refine x_aload_n 1 dX0_become_1 rfl ?_
  refine gfX0_9 (by omega) (by omega) dX0_become_2 ?_
  refine x_top (show (mx_row σ k q) u 0 = σ u 0 from congrFun (mx_row_o hne) _) ?_
  refine pfX0_9 (by omega) (by omega) dX0_become_5 ?_
  refine x_mem mx_row_up ?_
  refine x_aload_n 0 dX0_become_8 rfl ?_
  refine x_aload_n 1 dX0_become_9 rfl ?_
  refine gfX0_15 (by omega) (by omega) dX0_become_10 ?_
  refine x_top (show (mx_row σ k (upd q 0 (σ u 0))) u 1 = σ u 1 from congrFun (mx_row_o hne) _) ?_
  refine pfX0_15 (by omega) (by omega) dX0_become_13 ?_
  refine x_mem mx_row_up ?_
  refine x_aload_n 0 dX0_become_16 rfl ?_
  refine x_aload_n 1 dX0_become_17 rfl ?_
  refine gfX0_18 (by omega) (by omega) dX0_become_18 ?_
  refine x_top (show (mx_row σ k (upd (upd q 0 (σ u 0)) 1 (σ u 1))) u 2 = σ u 2 from congrFun (mx_row_o hne) _) ?_
  refine pfX0_18 (by omega) (by omega) dX0_become_21 ?_
  refine x_mem mx_row_up ?_
  refine x_aload_n 0 dX0_become_24 rfl ?_
  refine x_aload_n 1 dX0_become_25 rfl ?_
  refine gfX0_21 (by omega) (by omega) dX0_become_26 ?_
  refine x_top (show (mx_row σ k (upd (upd (upd q 0 (σ u 0)) 1 (σ u 1)) 2 (σ u 2))) u 3 = σ u 3 from congrFun (mx_row_o hne) _) ?_
  refine pfX0_21 (by omega) (by omega) dX0_become_29 ?_
  refine x_mem mx_row_up ?_
  refine x_aload_n 0 dX0_become_32 rfl ?_
  refine x_aload_n 1 dX0_become_33 rfl ?_
  refine gfX0_24 (by omega) (by omega) dX0_become_34 ?_
  refine x_top (show (mx_row σ k (upd (upd (upd (upd q 0 (σ u 0)) 1 (σ u 1)) 2 (σ u 2)) 3 (σ u 3))) u 4 = σ u 4 from congrFun (mx_row_o hne) _) ?_
  refine pfX0_24 (by omega) (by omega) dX0_become_37 ?_
  refine x_mem mx_row_up ?_
  refine x_aload_n 0 dX0_become_40 rfl ?_
  refine x_aload_n 1 dX0_become_41 rfl ?_
  refine gfX0_27 (by omega) (by omega) dX0_become_42 ?_
  refine x_top (show (mx_row σ k (upd (upd (upd (upd (upd q 0 (σ u 0)) 1 (σ u 1)) 2 (σ u 2)) 3 (σ u 3)) 4 (σ u 4))) u 5 = σ u 5 from congrFun (mx_row_o hne) _) ?_
  refine pfX0_27 (by omega) (by omega) dX0_become_45 ?_
  refine x_mem mx_row_up ?_
  refine x_aload_n 0 dX0_become_48 rfl ?_
  refine x_aload_n 1 dX0_become_49 rfl ?_
  refine gfX0_30 (by omega) (by omega) dX0_become_50 ?_
  refine x_top (show (mx_row σ k (upd (upd (upd (upd (upd (upd q 0 (σ u 0)) 1 (σ u 1)) 2 (σ u 2)) 3 (σ u 3)) 4 (σ u 4)) 5 (σ u 5))) u 6 = σ u 6 from congrFun (mx_row_o hne) _) ?_
  refine pfX0_30 (by omega) (by omega) hb dX0_become_53 ?_
  refine x_mem mx_row_up ?_
  refine x_aload_n 0 dX0_become_56 rfl ?_
  refine x_aload_n 1 dX0_become_57 rfl ?_
  refine gfX0_34 (by omega) (by omega) dX0_become_58 ?_
  refine x_top (show (mx_row σ k (upd (upd (upd (upd (upd (upd (upd q 0 (σ u 0)) 1 (σ u 1)) 2 (σ u 2)) 3 (σ u 3)) 4 (σ u 4)) 5 (σ u 5)) 6 (σ u 6))) u 7 = σ u 7 from congrFun (mx_row_o hne) _) ?_
  refine pfX0_34 (by omega) (by omega) hl dX0_become_61 ?_
  refine x_mem mx_row_up ?_
  exact x_vret dX0_become_64 ⟨_, mx_8, rfl⟩

set_option maxHeartbeats 4000000 in
theorem qX1_isFull {E : mx_E} {σ : Mem} {k : Nat} (hk1 : 28 ≤ k) (hk2 : k < 31) (m : Nat) (hm : m ≤ mx_n (k + 3)) (hs : σ k 1 = nI m)  : MX1_isFull E 0 [mx_rf E k] σ (mx_ie (zb (decide (mx_n (k + 3) ≤ m))) σ) := by
  refine MM.of (lv := [(0, mx_rf E k)]) kpX1 rfl (Nat.le_of_ble_eq_true rfl) rfl ?_
  have hn96 := mx_n_le (k + 3)
  refine x_aload_n 0 dX1_isFull_0 rfl ?_
  refine gfX1_9 (by omega) (by omega) dX1_isFull_1 ?_
  refine x_top (show σ k 1 = nI m from hs) ?_
  refine x_aload_n 0 dX1_isFull_4 rfl ?_
  refine gfX1_21 (by omega) (by omega) dX1_isFull_5 ?_
  refine x_alen (by omega) (by omega) (by omega) dX1_isFull_8 ?_
  refine x_icmp_lt dX1_isFull_9 (fun c9 => ?_) (fun c9 => ?_)
  · have hlt := (nI_ltI (by omega) (by omega)).mp c9
    refine x_iconst (v := 0) dX1_isFull_16 (by decide) ?_
    exact x_zret dX1_isFull_17 (by decide) ⟨zb_f' (decide_eq_false (by omega)), rfl⟩
  · have hlt : ¬ m < mx_n (k + 3) := fun h => c9 ((nI_ltI (by omega) (by omega)).mpr h)
    refine x_iconst (v := 1) dX1_isFull_12 (by decide) ?_
    refine x_goto dX1_isFull_13 ?_
    exact x_zret dX1_isFull_17 (by decide) ⟨zb_t' (decide_eq_true (by omega)), rfl⟩

set_option maxHeartbeats 4000000 in
theorem qX1_add {E : mx_E} {σ : Mem} {k : Nat} (hk1 : 28 ≤ k) (hk2 : k < 31) (m : Nat) (hm : m ≤ mx_n (k + 3)) (hs : σ k 1 = nI m) (v : Int32) (hlt : m < mx_n (k + 3)) : MX1_add E 0 [mx_rf E k, .int v] σ (mx_ve (mx_up (mx_up σ (k + 3) m v) k 1 (nI (m + 1)))) := by
  refine MM.of (lv := [(0, mx_rf E k), (1, .int v)]) kpX1 rfl (Nat.le_of_ble_eq_true rfl) rfl ?_
  have hn96 := mx_n_le (k + 3)
  refine x_aload_n 0 dX1_add_0 rfl ?_
  refine gfX1_9 (by omega) (by omega) dX1_add_1 ?_
  refine x_top (show σ k 1 = nI m from hs) ?_
  refine x_if_lt dX1_add_4 (fun c4 => ?_) (fun c4 => ?_)
  · exact absurd c4 (nI_pos (by omega))
  · refine x_aload_n 0 dX1_add_7 rfl ?_
    refine gfX1_9 (by omega) (by omega) dX1_add_8 ?_
    refine x_top (show σ k 1 = nI m from hs) ?_
    refine x_aload_n 0 dX1_add_11 rfl ?_
    refine gfX1_21 (by omega) (by omega) dX1_add_12 ?_
    refine x_alen (by omega) (by omega) (by omega) dX1_add_15 ?_
    refine x_icmp_ge dX1_add_16 (fun c16 => ?_) (fun c16 => ?_)
    · exact absurd (nI_le_of (by omega) (by omega) c16) (by omega)
    · refine x_aload_n 0 dX1_add_19 rfl ?_
      refine gfX1_21 (by omega) (by omega) dX1_add_20 ?_
      refine x_aload_n 0 dX1_add_23 rfl ?_
      refine gfX1_9 (by omega) (by omega) dX1_add_24 ?_
      refine x_top (show σ k 1 = nI m from hs) ?_
      refine x_iload_n 1 dX1_add_27 rfl ?_
      refine x_iast (j := m) (by omega) (by omega) (by omega) (by omega) dX1_add_28 ?_
      refine x_aload_n 0 dX1_add_29 rfl ?_
      refine x_dup dX1_add_30 rfl ?_
      refine gfX1_9 (by omega) (by omega) dX1_add_31 ?_
      refine x_top (show (mx_up σ (k + 3) m v) k 1 = nI m from (congrFun (mx_up_o (by omega)) _).trans hs) ?_
      refine x_iconst (v := 1) dX1_add_34 (by decide) ?_
      refine x_iadd dX1_add_35 ?_
      refine x_top (show (nI m) + 1 = nI (m + 1) from nI_add m 1) ?_
      refine pfX1_9 (by omega) (by omega) dX1_add_36 ?_
      exact x_vret dX1_add_39 rfl

set_option maxHeartbeats 4000000 in
theorem qX1_drop {E : mx_E} {σ : Mem} {k : Nat} (hk1 : 28 ≤ k) (hk2 : k < 31) (m : Nat) (hm : m ≤ mx_n (k + 3)) (hs : σ k 1 = nI m)  : MX1_drop E 0 [mx_rf E k] σ (mx_ve (mx_up σ k 1 0)) := by
  refine MM.of (lv := [(0, mx_rf E k)]) kpX1 rfl (Nat.le_of_ble_eq_true rfl) rfl ?_
  have hn96 := mx_n_le (k + 3)
  refine x_aload_n 0 dX1_drop_0 rfl ?_
  refine x_iconst (v := 0) dX1_drop_1 (by decide) ?_
  refine pfX1_9 (by omega) (by omega) dX1_drop_2 ?_
  exact x_vret dX1_drop_5 rfl

set_option maxHeartbeats 4000000 in
theorem qX1_drop0 {E : mx_E} {σ : Mem} {k : Nat} (hk1 : 28 ≤ k) (hk2 : k < 31) : MX1_drop E 0 [mx_rf E k] σ (mx_ve (mx_up σ k 1 0)) := by
  refine MM.of (lv := [(0, mx_rf E k)]) kpX1 rfl (Nat.le_of_ble_eq_true rfl) rfl ?_
  refine x_aload_n 0 dX1_drop_0 rfl ?_
  refine x_iconst (v := 0) dX1_drop_1 (by decide) ?_
  refine pfX1_9 (by omega) (by omega) dX1_drop_2 ?_
  exact x_vret dX1_drop_5 rfl

set_option maxHeartbeats 4000000 in
theorem qX1_at {E : mx_E} {σ : Mem} {k : Nat} (hk1 : 28 ≤ k) (hk2 : k < 31) (m : Nat) (hm : m ≤ mx_n (k + 3)) (hs : σ k 1 = nI m) (j : Nat) (hj : j < m) : MX1_at E 0 [mx_rf E k, .int (nI j)] σ (mx_ie (σ (k + 3) j) σ) := by
  refine MM.of (lv := [(0, mx_rf E k), (1, .int (nI j))]) kpX1 rfl (Nat.le_of_ble_eq_true rfl) rfl ?_
  have hn96 := mx_n_le (k + 3)
  refine x_iload_n 1 dX1_at_0 rfl ?_
  refine x_if_lt dX1_at_1 (fun c1 => ?_) (fun c1 => ?_)
  · exact absurd c1 (nI_pos (by omega))
  · refine x_iload_n 1 dX1_at_4 rfl ?_
    refine x_aload_n 0 dX1_at_5 rfl ?_
    refine gfX1_9 (by omega) (by omega) dX1_at_6 ?_
    refine x_top (show σ k 1 = nI m from hs) ?_
    refine x_icmp_ge dX1_at_9 (fun c9 => ?_) (fun c9 => ?_)
    · exact absurd (nI_le_of (by omega) (by omega) c9) (by omega)
    · refine x_iload_n 1 dX1_at_12 rfl ?_
      refine x_aload_n 0 dX1_at_13 rfl ?_
      refine gfX1_21 (by omega) (by omega) dX1_at_14 ?_
      refine x_alen (by omega) (by omega) (by omega) dX1_at_17 ?_
      refine x_icmp_ge dX1_at_18 (fun c18 => ?_) (fun c18 => ?_)
      · exact absurd (nI_le_of (by omega) (by omega) c18) (by omega)
      · refine x_aload_n 0 dX1_at_21 rfl ?_
        refine gfX1_21 (by omega) (by omega) dX1_at_22 ?_
        refine x_iload_n 1 dX1_at_25 rfl ?_
        refine x_iald (j := j) (by omega) (by omega) (by omega) (by omega) dX1_at_26 ?_
        refine x_goto dX1_at_27 ?_
        exact x_iret dX1_at_32 ⟨rfl, rfl⟩

set_option maxHeartbeats 4000000 in
theorem qX1_atN {E : mx_E} {σ : Mem} {k : Nat} (hk1 : 28 ≤ k) (hk2 : k < 31) (m : Nat) (hm : m ≤ mx_n (k + 3)) (hs : σ k 1 = nI m) (i : Int32) (hi : ¬ (0 ≤ i ∧ i < nI m)) : MX1_at E 0 [mx_rf E k, .int i] σ (mx_ie (-9) σ) := by
  refine MM.of (lv := [(0, mx_rf E k), (1, .int i)]) kpX1 rfl (Nat.le_of_ble_eq_true rfl) rfl ?_
  have hn96 := mx_n_le (k + 3)
  refine x_iload_n 1 dX1_at_0 rfl ?_
  refine x_if_lt dX1_at_1 (fun c1 => ?_) (fun c1 => ?_)
  · refine x_bipush (v := -9) dX1_at_30 (by decide) ?_
    exact x_iret dX1_at_32 ⟨rfl, rfl⟩
  · refine x_iload_n 1 dX1_at_4 rfl ?_
    refine x_aload_n 0 dX1_at_5 rfl ?_
    refine gfX1_9 (by omega) (by omega) dX1_at_6 ?_
    refine x_top (show σ k 1 = nI m from hs) ?_
    refine x_icmp_ge dX1_at_9 (fun c9 => ?_) (fun c9 => ?_)
    · refine x_bipush (v := -9) dX1_at_30 (by decide) ?_
      exact x_iret dX1_at_32 ⟨rfl, rfl⟩
    · exact absurd ⟨Int32.not_lt.mp c1, Int32.not_le.mp c9⟩ hi
