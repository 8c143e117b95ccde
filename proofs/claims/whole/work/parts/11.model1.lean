set_option maxHeartbeats 4000000 in
theorem qX4_isIn {E : mx_E} {σ : Mem} (v a b : Int32) : MX4_isIn E 0 [.int v, .int a, .int b] σ (mx_ie (zb (f_in v a b)) σ) := by
  refine MM.of (lv := [(0, .int v), (1, .int a), (2, .int b)]) kpX4 rfl (Nat.le_of_ble_eq_true rfl) rfl ?_
  refine x_iload_n 0 dX4_isIn_0 rfl ?_
  refine x_iload_n 1 dX4_isIn_1 rfl ?_
  refine x_icmp_lt dX4_isIn_2 (fun c2 => ?_) (fun c2 => ?_)
  · refine x_iconst (v := 0) dX4_isIn_14 (by decide) ?_
    exact x_zret dX4_isIn_15 (by decide) ⟨by simp [zb, f_in, c2, (Int32.not_le.mpr c2)], rfl⟩
  · refine x_iload_n 0 dX4_isIn_5 rfl ?_
    refine x_iload_n 2 dX4_isIn_6 rfl ?_
    refine x_icmp_gt dX4_isIn_7 (fun c7 => ?_) (fun c7 => ?_)
    · refine x_iconst (v := 0) dX4_isIn_14 (by decide) ?_
      exact x_zret dX4_isIn_15 (by decide) ⟨by simp [zb, f_in, c2, (Int32.not_lt.mp c2), c7, (Int32.not_le.mpr c7)], rfl⟩
    · refine x_iconst (v := 1) dX4_isIn_10 (by decide) ?_
      refine x_goto dX4_isIn_11 ?_
      exact x_zret dX4_isIn_15 (by decide) ⟨by simp [zb, f_in, c2, (Int32.not_lt.mp c2), c7, (Int32.not_lt.mp c7)], rfl⟩

set_option maxHeartbeats 4000000 in
theorem qX4_least {E : mx_E} {σ : Mem} (a b : Int32) : MX4_least E 0 [.int a, .int b] σ (mx_ie (f_least a b) σ) := by
  refine MM.of (lv := [(0, .int a), (1, .int b)]) kpX4 rfl (Nat.le_of_ble_eq_true rfl) rfl ?_
  refine x_iload_n 0 dX4_least_0 rfl ?_
  refine x_iload_n 1 dX4_least_1 rfl ?_
  refine x_icmp_ge dX4_least_2 (fun c2 => ?_) (fun c2 => ?_)
  · refine x_iload_n 1 dX4_least_9 rfl ?_
    exact x_iret dX4_least_10 ⟨by simp [f_least, c2, (Int32.not_lt.mpr c2)], rfl⟩
  · refine x_iload_n 0 dX4_least_5 rfl ?_
    refine x_goto dX4_least_6 ?_
    exact x_iret dX4_least_10 ⟨by simp [f_least, c2, (Int32.not_le.mp c2)], rfl⟩

set_option maxHeartbeats 4000000 in
theorem qX4_of {E : mx_E} {σ : Mem} (h w : Nat) : MX4_of E 0 [.int (nI h), .int (nI w)] σ (mx_ie (nI (6 + 6 * h + w)) σ) := by
  refine MM.of (lv := [(0, .int (nI h)), (1, .int (nI w))]) kpX4 rfl (Nat.le_of_ble_eq_true rfl) rfl ?_
  refine x_bipush (v := 6) dX4_of_0 (by decide) ?_
  refine x_bipush (v := 6) dX4_of_2 (by decide) ?_
  refine x_iload_n 0 dX4_of_4 rfl ?_
  refine x_imul dX4_of_5 ?_
  refine x_top (show 6 * (nI h) = nI (6 * h) from pk_mul 6 h) ?_
  refine x_iadd dX4_of_6 ?_
  refine x_top (show 6 + (nI (6 * h)) = nI (6 + (6 * h)) from nI_add 6 (6 * h)) ?_
  refine x_iload_n 1 dX4_of_7 rfl ?_
  refine x_iadd dX4_of_8 ?_
  refine x_top (show (nI (6 + (6 * h))) + (nI w) = nI (6 + (6 * h) + w) from nI_add (6 + (6 * h)) w) ?_
  exact x_iret dX4_of_9 ⟨rfl, rfl⟩

theorem qX4_of0 {E : mx_E} {σ : Mem} (h : Nat) : MX4_of E 0 [.int (nI h), .int 0] σ (mx_ie (nI (6 + 6 * h)) σ) := qX4_of h 0

set_option maxHeartbeats 4000000 in
theorem qX4_has {E : mx_E} {σ : Mem} (s k : Int32) : MX4_has E 0 [.int s, .int k] σ (mx_ie (zb (f_has s k)) σ) := by
  refine MM.of (lv := [(0, .int s), (1, .int k)]) kpX4 rfl (Nat.le_of_ble_eq_true rfl) rfl ?_
  refine x_iload_n 0 dX4_has_0 rfl ?_
  refine x_iload_n 1 dX4_has_1 rfl ?_
  refine x_ishr dX4_has_2 ?_
  refine x_iconst (v := 1) dX4_has_3 (by decide) ?_
  refine x_iand dX4_has_4 ?_
  refine x_iconst (v := 1) dX4_has_5 (by decide) ?_
  refine x_icmp_ne dX4_has_6 (fun c6 => ?_) (fun c6 => ?_)
  · refine x_iconst (v := 0) dX4_has_13 (by decide) ?_
    exact x_zret dX4_has_14 (by decide) ⟨by simp [zb, f_has, c6], rfl⟩
  · refine x_iconst (v := 1) dX4_has_9 (by decide) ?_
    refine x_goto dX4_has_10 ?_
    exact x_zret dX4_has_14 (by decide) ⟨by simp [zb, f_has, c6], rfl⟩

theorem f_bits6 (s : Int32) {k : Nat} (h : k ≤ 6) (c : 6 ≤ nI k) : f_bitsU s k = f_bits s := by
  have e : k = 6 := Nat.le_antisymm h ((nI_leI (a := 6) (by decide) (by omega)).mp c)
  rw [e]; rfl

theorem nI_lt_of {a b : Nat} (hb : b < 2 ^ 31) (ha : a < 2 ^ 31) (h : ¬ nI b ≤ nI a) : a < b := by
  rcases Nat.lt_or_ge a b with q | q
  · exact q
  · exact absurd (nI_le q ha) h

theorem nI_le_of {a b : Nat} (hb : b < 2 ^ 31) (ha : a < 2 ^ 31) (h : nI b ≤ nI a) : b ≤ a := (nI_leI hb ha).mp h

set_option maxHeartbeats 4000000 in
theorem qX4_bits {E : mx_E} {σ : Mem} (s : Int32) : MX4_bits E 0 [.int s] σ (mx_ie (f_bits s) σ) := by
  refine MM.of (lv := [(0, .int s)]) kpX4 rfl (Nat.le_of_ble_eq_true rfl) rfl ?_
  refine x_iconst (v := 0) dX4_bits_0 (by decide) ?_
  refine x_istore_n (lv' := [(1, .int 0), (0, .int s)]) dX4_bits_1 rfl (by decide) rfl ?_
  refine x_iconst (v := 0) dX4_bits_2 (by decide) ?_
  refine x_istore_n (lv' := [(2, .int 0), (1, .int 0), (0, .int s)]) dX4_bits_3 rfl (by decide) rfl ?_
  have key4 : ∀ k, k ≤ 6 → MX E 0 RX4 cX4_bits 3 (some .int) 4 [(2, .int (nI k)), (1, .int (f_bitsU s k)), (0, .int s)] [] σ (mx_ie (f_bits s) σ) := by
    refine mx_ind 6 (fun k hi4 ih4 => ?_)
    refine x_iload_n 0 dX4_bits_4 rfl ?_
    refine x_bipush (v := 6) dX4_bits_5 (by decide) ?_
    refine x_icmp_ge dX4_bits_7 (fun c7 => ?_) (fun c7 => ?_)
    · refine x_iload_n 1 dX4_bits_24 rfl ?_
      exact x_iret dX4_bits_25 ⟨(f_bits6 s hi4 c7).symm, rfl⟩
    · have hlt := nI_lt_of (b := 6) (by decide) (by omega) c7
      refine x_iload_n 1 dX4_bits_10 rfl ?_
      refine x_iload_n 2 dX4_bits_11 rfl ?_
      refine x_iload_n 0 dX4_bits_12 rfl ?_
      refine x_ishr dX4_bits_13 ?_
      refine x_iconst (v := 1) dX4_bits_14 (by decide) ?_
      refine x_iand dX4_bits_15 ?_
      refine x_iadd dX4_bits_16 ?_
      refine x_top (show (f_bitsU s k) + ((s >>> ((nI k) &&& 31)) &&& 1) = f_bitsU s (k + 1) from rfl) ?_
      refine x_istore_n (lv' := [(1, .int (f_bitsU s (k + 1))), (2, .int (nI k)), (0, .int s)]) dX4_bits_17 rfl (by decide) rfl ?_
      refine x_iinc (v := nI (k + 1)) (lv' := [(2, .int (nI (k + 1))), (1, .int (f_bitsU s (k + 1))), (0, .int s)]) 1 dX4_bits_18 rfl (nI_1 _) (by decide) rfl ?_
      refine x_goto dX4_bits_21 ?_
      exact ih4 (k + 1) (by omega) (by omega)
  exact key4 0 (Nat.zero_le _)

set_option maxHeartbeats 4000000 in
theorem qX4_dustBy {E : mx_E} {σ : Mem} (kind f week : Int32) (hf : ¬ f + 2 = 0) : MX4_dustBy E 0 [.int kind, .int f, .int week] σ (mx_ie (f_dust kind f week) σ) := by
  refine MM.of (lv := [(0, .int kind), (1, .int f), (2, .int week)]) kpX4 rfl (Nat.le_of_ble_eq_true rfl) rfl ?_
  refine x_iload_n 0 dX4_dustBy_0 rfl ?_
  by_cases c1_0 : kind = 1
  · refine x_tableIn (off := 35) (tgt := 36) dX4_dustBy_1 (by rw [c1_0]; decide) (by rw [c1_0]; decide) (by rw [c1_0]; decide) (by decide) ?_
    refine x_iconst (v := 2) dX4_dustBy_36 (by decide) ?_
    exact x_iret dX4_dustBy_37 ⟨by simp [f_dust, *], rfl⟩
  by_cases c1_1 : kind = 2
  · refine x_tableIn (off := 37) (tgt := 38) dX4_dustBy_1 (by rw [c1_1]; decide) (by rw [c1_1]; decide) (by rw [c1_1]; decide) (by decide) ?_
    refine x_iconst (v := 3) dX4_dustBy_38 (by decide) ?_
    exact x_iret dX4_dustBy_39 ⟨by simp [f_dust, *], rfl⟩
  by_cases c1_2 : kind = 3
  · refine x_tableIn (off := 37) (tgt := 38) dX4_dustBy_1 (by rw [c1_2]; decide) (by rw [c1_2]; decide) (by rw [c1_2]; decide) (by decide) ?_
    refine x_iconst (v := 3) dX4_dustBy_38 (by decide) ?_
    exact x_iret dX4_dustBy_39 ⟨by simp [f_dust, *], rfl⟩
  by_cases c1_3 : kind = 4
  · refine x_tableIn (off := 39) (tgt := 40) dX4_dustBy_1 (by rw [c1_3]; decide) (by rw [c1_3]; decide) (by rw [c1_3]; decide) (by decide) ?_
    refine x_iload_n 2 dX4_dustBy_40 rfl ?_
    refine x_iload_n 1 dX4_dustBy_41 rfl ?_
    refine x_iconst (v := 2) dX4_dustBy_42 (by decide) ?_
    refine x_iadd dX4_dustBy_43 ?_
    refine x_irem dX4_dustBy_44 (hf) ?_
    refine x_if_ne dX4_dustBy_45 (fun c45 => ?_) (fun c45 => ?_)
    · refine x_iconst (v := 2) dX4_dustBy_52 (by decide) ?_
      exact x_iret dX4_dustBy_53 ⟨by simp [f_dust, *], rfl⟩
    · refine x_iconst (v := 0) dX4_dustBy_48 (by decide) ?_
      refine x_goto dX4_dustBy_49 ?_
      exact x_iret dX4_dustBy_53 ⟨by simp [f_dust, *], rfl⟩
  by_cases c1_4 : kind = 5
  · refine x_tableIn (off := 53) (tgt := 54) dX4_dustBy_1 (by rw [c1_4]; decide) (by rw [c1_4]; decide) (by rw [c1_4]; decide) (by decide) ?_
    refine x_iconst (v := 0) dX4_dustBy_54 (by decide) ?_
    exact x_iret dX4_dustBy_55 ⟨by simp [f_dust, *], rfl⟩
  have hsw1 : (kind).toInt < 1 ∨ 5 < (kind).toInt := by
    have q_c1_0 := lv_neT c1_0 (show (1 : Int32).toInt = 1 from rfl)
    have q_c1_1 := lv_neT c1_1 (show (2 : Int32).toInt = 2 from rfl)
    have q_c1_2 := lv_neT c1_2 (show (3 : Int32).toInt = 3 from rfl)
    have q_c1_3 := lv_neT c1_3 (show (4 : Int32).toInt = 4 from rfl)
    have q_c1_4 := lv_neT c1_4 (show (5 : Int32).toInt = 5 from rfl)
    omega
  refine x_tableOut (tgt := 56) dX4_dustBy_1 hsw1 (by decide) ?_
  refine x_iconst (v := 1) dX4_dustBy_56 (by decide) ?_
  exact x_iret dX4_dustBy_57 ⟨by simp [f_dust, *], rfl⟩

set_option maxHeartbeats 4000000 in
theorem qX4_burnsBy {E : mx_E} {σ : Mem} (kind : Int32) : MX4_burnsBy E 0 [.int kind] σ (mx_ie (f_burns kind) σ) := by
  refine MM.of (lv := [(0, .int kind)]) kpX4 rfl (Nat.le_of_ble_eq_true rfl) rfl ?_
  refine x_iload_n 0 dX4_burnsBy_0 rfl ?_
  refine x_iconst (v := 1) dX4_burnsBy_1 (by decide) ?_
  refine x_icmp_ne dX4_burnsBy_2 (fun c2 => ?_) (fun c2 => ?_)
  · refine x_iload_n 0 dX4_burnsBy_9 rfl ?_
    refine x_iconst (v := 2) dX4_burnsBy_10 (by decide) ?_
    refine x_icmp_ne dX4_burnsBy_11 (fun c11 => ?_) (fun c11 => ?_)
    · refine x_iload_n 0 dX4_burnsBy_18 rfl ?_
      refine x_iconst (v := 3) dX4_burnsBy_19 (by decide) ?_
      refine x_icmp_ne dX4_burnsBy_20 (fun c20 => ?_) (fun c20 => ?_)
      · refine x_iconst (v := 1) dX4_burnsBy_27 (by decide) ?_
        exact x_iret dX4_burnsBy_28 ⟨by simp [f_burns, c2, c11, c20], rfl⟩
      · refine x_iconst (v := 3) dX4_burnsBy_23 (by decide) ?_
        refine x_goto dX4_burnsBy_24 ?_
        exact x_iret dX4_burnsBy_28 ⟨by simp [f_burns, c2, c11, c20], rfl⟩
    · refine x_iconst (v := 2) dX4_burnsBy_14 (by decide) ?_
      refine x_goto dX4_burnsBy_15 ?_
      exact x_iret dX4_burnsBy_28 ⟨by simp [f_burns, c2, c11], rfl⟩
  · refine x_iconst (v := 0) dX4_burnsBy_5 (by decide) ?_
    refine x_goto dX4_burnsBy_6 ?_
    exact x_iret dX4_burnsBy_28 ⟨by simp [f_burns, c2], rfl⟩

set_option maxHeartbeats 4000000 in
theorem qX4_foundFrom {E : mx_E} {σ : Mem} (kind f : Int32) : MX4_foundFrom E 0 [.int kind, .int f] σ (mx_ie (f_found kind f) σ) := by
  refine MM.of (lv := [(0, .int kind), (1, .int f)]) kpX4 rfl (Nat.le_of_ble_eq_true rfl) rfl ?_
  refine x_iload_n 1 dX4_foundFrom_0 rfl ?_
  refine x_iconst (v := 2) dX4_foundFrom_1 (by decide) ?_
  refine x_idiv dX4_foundFrom_2 (by decide) ?_
  refine x_iconst (v := 3) dX4_foundFrom_3 (by decide) ?_
  refine x_iadd dX4_foundFrom_4 ?_
  refine x_istore_n (lv' := [(2, .int ((f / 2) + 3)), (0, .int kind), (1, .int f)]) dX4_foundFrom_5 rfl (by decide) rfl ?_
  refine x_iload_n 1 dX4_foundFrom_6 rfl ?_
  by_cases c7_0 : kind = 1
  · refine x_tableIn (off := 33) (tgt := 40) dX4_foundFrom_7 (by rw [c7_0]; decide) (by rw [c7_0]; decide) (by rw [c7_0]; decide) (by decide) ?_
    refine x_iload_n 0 dX4_foundFrom_40 rfl ?_
    refine x_iconst (v := 1) dX4_foundFrom_41 (by decide) ?_
    refine x_isub dX4_foundFrom_42 ?_
    exact x_iret dX4_foundFrom_43 ⟨by simp [f_found, *], rfl⟩
  by_cases c7_1 : kind = 2
  · refine x_tableIn (off := 37) (tgt := 44) dX4_foundFrom_7 (by rw [c7_1]; decide) (by rw [c7_1]; decide) (by rw [c7_1]; decide) (by decide) ?_
    refine x_iload_n 0 dX4_foundFrom_44 rfl ?_
    refine x_iconst (v := 2) dX4_foundFrom_45 (by decide) ?_
    refine x_iadd dX4_foundFrom_46 ?_
    exact x_iret dX4_foundFrom_47 ⟨by simp [f_found, *], rfl⟩
  by_cases c7_2 : kind = 3
  · refine x_tableIn (off := 41) (tgt := 48) dX4_foundFrom_7 (by rw [c7_2]; decide) (by rw [c7_2]; decide) (by rw [c7_2]; decide) (by decide) ?_
    refine x_iconst (v := 2) dX4_foundFrom_48 (by decide) ?_
    refine x_iload_n 0 dX4_foundFrom_49 rfl ?_
    refine x_iconst (v := 2) dX4_foundFrom_50 (by decide) ?_
    refine x_iadd dX4_foundFrom_51 ?_
    refine x_imul dX4_foundFrom_52 ?_
    exact x_iret dX4_foundFrom_53 ⟨by simp [f_found, *], rfl⟩
  by_cases c7_3 : kind = 4
  · refine x_tableIn (off := 47) (tgt := 54) dX4_foundFrom_7 (by rw [c7_3]; decide) (by rw [c7_3]; decide) (by rw [c7_3]; decide) (by decide) ?_
    refine x_bipush (v := 99) dX4_foundFrom_54 (by decide) ?_
    exact x_iret dX4_foundFrom_56 ⟨by simp [f_found, *], rfl⟩
  by_cases c7_4 : kind = 5
  · refine x_tableIn (off := 33) (tgt := 40) dX4_foundFrom_7 (by rw [c7_4]; decide) (by rw [c7_4]; decide) (by rw [c7_4]; decide) (by decide) ?_
    refine x_iload_n 0 dX4_foundFrom_40 rfl ?_
    refine x_iconst (v := 1) dX4_foundFrom_41 (by decide) ?_
    refine x_isub dX4_foundFrom_42 ?_
    exact x_iret dX4_foundFrom_43 ⟨by simp [f_found, *], rfl⟩
  have hsw7 : (kind).toInt < 1 ∨ 5 < (kind).toInt := by
    have q_c7_0 := lv_neT c7_0 (show (1 : Int32).toInt = 1 from rfl)
    have q_c7_1 := lv_neT c7_1 (show (2 : Int32).toInt = 2 from rfl)
    have q_c7_2 := lv_neT c7_2 (show (3 : Int32).toInt = 3 from rfl)
    have q_c7_3 := lv_neT c7_3 (show (4 : Int32).toInt = 4 from rfl)
    have q_c7_4 := lv_neT c7_4 (show (5 : Int32).toInt = 5 from rfl)
    omega
  refine x_tableOut (tgt := 57) dX4_foundFrom_7 hsw7 (by decide) ?_
  refine x_iload_n 0 dX4_foundFrom_57 rfl ?_
  exact x_iret dX4_foundFrom_58 ⟨by simp [f_found, *], rfl⟩

set_option maxHeartbeats 4000000 in
theorem qX4_crowd {E : mx_E} {σ : Mem} {a : Nat} (ha1 : 36 ≤ a) (ha2 : a < 40) (r : Row) (h : Nat) (hh : h < 6) : MX4_crowd E 1 [mx_rf E a, .int (nI h)] (mx_row σ a r) (mx_ie (f_crowdR r h) (mx_row σ a r)) := by
  refine MM.of (lv := [(0, mx_rf E a), (1, .int (nI h))]) kpX4 rfl (Nat.le_of_ble_eq_true rfl) rfl ?_
  refine x_aload_n 0 dX4_crowd_0 rfl ?_
  refine x_iload_n 1 dX4_crowd_1 rfl ?_
  refine x_iconst (v := 2) dX4_crowd_2 (by decide) ?_
  refine clX4_44 (qX4_of h 2) (by decide) rfl dX4_crowd_3 (fun r3 τ3 h3 => ?_)
  obtain ⟨rfl, rfl⟩ := h3
  refine x_ialdR (j := 6 + 6 * h + 2) (by omega) (by omega) (by omega) dX4_crowd_6 ?_
  refine x_aload_n 0 dX4_crowd_7 rfl ?_
  refine x_iconst (v := 5) dX4_crowd_8 (by decide) ?_
  refine x_ialdR (j := 5) (by omega) (by omega) (by decide) dX4_crowd_9 ?_
  refine x_iload_n 1 dX4_crowd_10 rfl ?_
  refine clX4_48 (qX4_has (r 5) (nI h)) (by decide) rfl dX4_crowd_11 (fun r11 τ11 h11 => ?_)
  obtain ⟨rfl, rfl⟩ := h11
  refine x_if_eq dX4_crowd_14 (fun c14 => ?_) (fun c14 => ?_)
  · replace c14 := zb_0 c14
    refine x_iconst (v := 1) dX4_crowd_21 (by decide) ?_
    refine x_isub dX4_crowd_22 ?_
    refine x_istore_n (lv' := [(2, .int ((r (6 + 6 * h + 2)) - 1)), (0, mx_rf E a), (1, .int (nI h))]) dX4_crowd_23 rfl (by decide) rfl ?_
    refine x_iload_n 0 dX4_crowd_24 rfl ?_
    refine x_iconst (v := 1) dX4_crowd_25 (by decide) ?_
    refine x_icmp_ge dX4_crowd_26 (fun c26 => ?_) (fun c26 => ?_)
    · refine x_iload_n 0 dX4_crowd_33 rfl ?_
      refine x_istore_n (lv' := [(3, .int ((r (6 + 6 * h + 2)) - 1)), (2, .int ((r (6 + 6 * h + 2)) - 1)), (0, mx_rf E a), (1, .int (nI h))]) dX4_crowd_34 rfl (by decide) rfl ?_
      refine x_aload_n 2 dX4_crowd_35 rfl ?_
      refine x_iload_n 3 dX4_crowd_36 rfl ?_
      refine x_iconst (v := 3) dX4_crowd_37 (by decide) ?_
      refine clX4_44 (qX4_of h 3) (by decide) rfl dX4_crowd_38 (fun r38 τ38 h38 => ?_)
      obtain ⟨rfl, rfl⟩ := h38
      refine x_ialdR (j := 6 + 6 * h + 3) (by omega) (by omega) (by omega) dX4_crowd_41 ?_
      refine x_iload_n 0 dX4_crowd_42 rfl ?_
      refine x_iadd dX4_crowd_43 ?_
      refine x_iconst (v := 1) dX4_crowd_44 (by decide) ?_
      refine x_isub dX4_crowd_45 ?_
      refine x_iload_n 0 dX4_crowd_46 rfl ?_
      refine x_idiv dX4_crowd_47 (by first | decide | exact mx_ge1 c26) ?_
      exact x_iret dX4_crowd_48 ⟨by simp only [f_crowdR, f_crowd, f_by, f_lets, c14, c26, reduceIte, Bool.false_eq_true, Bool.true_and, Bool.false_and, Bool.and_true, Bool.and_false, decide_eq_true_eq, decide_true, decide_false], rfl⟩
    · refine x_iconst (v := 1) dX4_crowd_29 (by decide) ?_
      refine x_goto dX4_crowd_30 ?_
      refine x_istore_n (lv' := [(3, .int 1), (2, .int ((r (6 + 6 * h + 2)) - 1)), (0, mx_rf E a), (1, .int (nI h))]) dX4_crowd_34 rfl (by decide) rfl ?_
      refine x_aload_n 2 dX4_crowd_35 rfl ?_
      refine x_iload_n 3 dX4_crowd_36 rfl ?_
      refine x_iconst (v := 3) dX4_crowd_37 (by decide) ?_
      refine clX4_44 (qX4_of h 3) (by decide) rfl dX4_crowd_38 (fun r38 τ38 h38 => ?_)
      obtain ⟨rfl, rfl⟩ := h38
      refine x_ialdR (j := 6 + 6 * h + 3) (by omega) (by omega) (by omega) dX4_crowd_41 ?_
      refine x_iload_n 0 dX4_crowd_42 rfl ?_
      refine x_iadd dX4_crowd_43 ?_
      refine x_iconst (v := 1) dX4_crowd_44 (by decide) ?_
      refine x_isub dX4_crowd_45 ?_
      refine x_iload_n 0 dX4_crowd_46 rfl ?_
      refine x_idiv dX4_crowd_47 (by first | decide | exact mx_ge1 c26) ?_
      exact x_iret dX4_crowd_48 ⟨by simp only [f_crowdR, f_crowd, f_by, f_lets, c14, c26, reduceIte, Bool.false_eq_true, Bool.true_and, Bool.false_and, Bool.and_true, Bool.and_false, decide_eq_true_eq, decide_true, decide_false], rfl⟩
  · replace c14 := zb_1 c14
    refine x_iconst (v := 0) dX4_crowd_17 (by decide) ?_
    refine x_goto dX4_crowd_18 ?_
    refine x_isub dX4_crowd_22 ?_
    refine x_istore_n (lv' := [(2, .int ((r (6 + 6 * h + 2)) - 0)), (0, mx_rf E a), (1, .int (nI h))]) dX4_crowd_23 rfl (by decide) rfl ?_
    refine x_iload_n 0 dX4_crowd_24 rfl ?_
    refine x_iconst (v := 1) dX4_crowd_25 (by decide) ?_
    refine x_icmp_ge dX4_crowd_26 (fun c26 => ?_) (fun c26 => ?_)
    · refine x_iload_n 0 dX4_crowd_33 rfl ?_
      refine x_istore_n (lv' := [(3, .int ((r (6 + 6 * h + 2)) - 0)), (2, .int ((r (6 + 6 * h + 2)) - 0)), (0, mx_rf E a), (1, .int (nI h))]) dX4_crowd_34 rfl (by decide) rfl ?_
      refine x_aload_n 2 dX4_crowd_35 rfl ?_
      refine x_iload_n 3 dX4_crowd_36 rfl ?_
      refine x_iconst (v := 3) dX4_crowd_37 (by decide) ?_
      refine clX4_44 (qX4_of h 3) (by decide) rfl dX4_crowd_38 (fun r38 τ38 h38 => ?_)
      obtain ⟨rfl, rfl⟩ := h38
      refine x_ialdR (j := 6 + 6 * h + 3) (by omega) (by omega) (by omega) dX4_crowd_41 ?_
      refine x_iload_n 0 dX4_crowd_42 rfl ?_
      refine x_iadd dX4_crowd_43 ?_
      refine x_iconst (v := 1) dX4_crowd_44 (by decide) ?_
      refine x_isub dX4_crowd_45 ?_
      refine x_iload_n 0 dX4_crowd_46 rfl ?_
      refine x_idiv dX4_crowd_47 (by first | decide | exact mx_ge1 c26) ?_
      exact x_iret dX4_crowd_48 ⟨by simp only [f_crowdR, f_crowd, f_by, f_lets, c14, c26, reduceIte, Bool.false_eq_true, Bool.true_and, Bool.false_and, Bool.and_true, Bool.and_false, decide_eq_true_eq, decide_true, decide_false], rfl⟩
    · refine x_iconst (v := 1) dX4_crowd_29 (by decide) ?_
      refine x_goto dX4_crowd_30 ?_
      refine x_istore_n (lv' := [(3, .int 1), (2, .int ((r (6 + 6 * h + 2)) - 0)), (0, mx_rf E a), (1, .int (nI h))]) dX4_crowd_34 rfl (by decide) rfl ?_
      refine x_aload_n 2 dX4_crowd_35 rfl ?_
      refine x_iload_n 3 dX4_crowd_36 rfl ?_
      refine x_iconst (v := 3) dX4_crowd_37 (by decide) ?_
      refine clX4_44 (qX4_of h 3) (by decide) rfl dX4_crowd_38 (fun r38 τ38 h38 => ?_)
      obtain ⟨rfl, rfl⟩ := h38
      refine x_ialdR (j := 6 + 6 * h + 3) (by omega) (by omega) (by omega) dX4_crowd_41 ?_
      refine x_iload_n 0 dX4_crowd_42 rfl ?_
      refine x_iadd dX4_crowd_43 ?_
      refine x_iconst (v := 1) dX4_crowd_44 (by decide) ?_
      refine x_isub dX4_crowd_45 ?_
      refine x_iload_n 0 dX4_crowd_46 rfl ?_
      refine x_idiv dX4_crowd_47 (by first | decide | exact mx_ge1 c26) ?_
      exact x_iret dX4_crowd_48 ⟨by simp only [f_crowdR, f_crowd, f_by, f_lets, c14, c26, reduceIte, Bool.false_eq_true, Bool.true_and, Bool.false_and, Bool.and_true, Bool.and_false, decide_eq_true_eq, decide_true, decide_false], rfl⟩

set_option maxHeartbeats 4000000 in
theorem qX4_isFound {E : mx_E} {σ : Mem} {a : Nat} (ha1 : 36 ≤ a) (ha2 : a < 40) (r : Row) (h : Nat) (hh : h < 6) : MX4_isFound E 2 [mx_rf E a, .int (nI h)] (mx_row σ a r) (mx_ie (zb (f_isF r h)) (mx_row σ a r)) := by
  refine MM.of (lv := [(0, mx_rf E a), (1, .int (nI h))]) kpX4 rfl (Nat.le_of_ble_eq_true rfl) rfl ?_
  refine x_aload_n 0 dX4_isFound_0 rfl ?_
  refine x_iconst (v := 4) dX4_isFound_1 (by decide) ?_
  refine x_ialdR (j := 4) (by omega) (by omega) (by decide) dX4_isFound_2 ?_
  refine x_iload_n 1 dX4_isFound_3 rfl ?_
  refine clX4_48 (qX4_has (r 4) (nI h)) (by decide) rfl dX4_isFound_4 (fun r4 τ4 h4 => ?_)
  obtain ⟨rfl, rfl⟩ := h4
  refine x_if_eq dX4_isFound_7 (fun c7 => ?_) (fun c7 => ?_)
  · replace c7 := zb_0 c7
    refine x_iconst (v := 0) dX4_isFound_39 (by decide) ?_
    exact x_zret dX4_isFound_40 (by decide) ⟨by simp [zb, f_isF, f_kept, c7], rfl⟩
  · replace c7 := zb_1 c7
    refine x_aload_n 0 dX4_isFound_10 rfl ?_
    refine x_iload_n 1 dX4_isFound_11 rfl ?_
    refine clX4_52 (qX4_crowd ha1 ha2 r h (by omega)) (by decide) rfl dX4_isFound_12 (fun r12 τ12 h12 => ?_)
    obtain ⟨rfl, rfl⟩ := h12
    refine x_aload_n 0 dX4_isFound_15 rfl ?_
    refine x_iload_n 1 dX4_isFound_16 rfl ?_
    refine x_iconst (v := 0) dX4_isFound_17 (by decide) ?_
    refine clX4_44 (qX4_of0 h) (by decide) rfl dX4_isFound_18 (fun r18 τ18 h18 => ?_)
    obtain ⟨rfl, rfl⟩ := h18
    refine x_ialdR (j := 6 + 6 * h) (by omega) (by omega) (by omega) dX4_isFound_21 ?_
    refine x_aload_n 0 dX4_isFound_22 rfl ?_
    refine x_iload_n 1 dX4_isFound_23 rfl ?_
    refine x_iconst (v := 1) dX4_isFound_24 (by decide) ?_
    refine clX4_44 (qX4_of h 1) (by decide) rfl dX4_isFound_25 (fun r25 τ25 h25 => ?_)
    obtain ⟨rfl, rfl⟩ := h25
    refine x_ialdR (j := 6 + 6 * h + 1) (by omega) (by omega) (by omega) dX4_isFound_28 ?_
    refine clX4_56 (qX4_foundFrom (r (6 + 6 * h)) (r (6 + 6 * h + 1))) (by decide) rfl dX4_isFound_29 (fun r29 τ29 h29 => ?_)
    obtain ⟨rfl, rfl⟩ := h29
    refine x_icmp_lt dX4_isFound_32 (fun c32 => ?_) (fun c32 => ?_)
    · refine x_iconst (v := 0) dX4_isFound_39 (by decide) ?_
      exact x_zret dX4_isFound_40 (by decide) ⟨by simp [zb, f_isF, f_kept, c7, c32, (Int32.not_le.mpr c32)], rfl⟩
    · refine x_iconst (v := 1) dX4_isFound_35 (by decide) ?_
      refine x_goto dX4_isFound_36 ?_
      exact x_zret dX4_isFound_40 (by decide) ⟨by simp [zb, f_isF, f_kept, c7, c32, (Int32.not_lt.mp c32)], rfl⟩

set_option maxHeartbeats 4000000 in
theorem qX4_nextKept {E : mx_E} {σ : Mem} {a : Nat} (ha1 : 36 ≤ a) (ha2 : a < 40) (r : Row) (n : Nat) (hn : n ≤ 6) (h0 : r 0 = nI n) (h : Nat) (hh : h < n) : MX4_nextKept E 1 [mx_rf E a, .int (nI h)] (mx_row σ a r) (mx_ie (f_next n r h) (mx_row σ a r)) := by
  refine MM.of (lv := [(0, mx_rf E a), (1, .int (nI h))]) kpX4 rfl (Nat.le_of_ble_eq_true rfl) rfl ?_
  refine x_iconst (v := 1) dX4_nextKept_0 (by decide) ?_
  refine x_istore_n (lv' := [(2, .int 1), (0, mx_rf E a), (1, .int (nI h))]) dX4_nextKept_1 rfl (by decide) rfl ?_
  have key2 : ∀ k, k ≤ n → f_nextG n (r 4) h (n - 1 - k) (k + 1) = f_next n r h → MX E 1 RX4 cX4_nextKept 3 (some .int) 2 [(2, .int (nI (k + 1))), (0, mx_rf E a), (1, .int (nI h))] [] (mx_row σ a r) (mx_ie (f_next n r h) (mx_row σ a r)) := by
    refine mx_ind n (fun k hi2 ih2 => ?_)
    intro hg
    refine x_iload_n 0 dX4_nextKept_2 rfl ?_
    refine x_aload_n 1 dX4_nextKept_3 rfl ?_
    refine x_iconst (v := 0) dX4_nextKept_4 (by decide) ?_
    refine x_ialdR (j := 0) (by omega) (by omega) (by decide) dX4_nextKept_5 ?_
    refine x_top (show r 0 = nI n from h0) ?_
    refine x_icmp_ge dX4_nextKept_6 (fun c6 => ?_) (fun c6 => ?_)
    · have hge := nI_le_of (by omega) (by omega) c6
      refine x_bipush (v := -9) dX4_nextKept_39 (by decide) ?_
      exact x_iret dX4_nextKept_41 ⟨f_nextE hge hg, rfl⟩
    · have hlt := nI_lt_of (by omega) (by omega) c6
      have hg1 := f_nextT hlt hg
      have hg2 := f_nextF hlt hg
      refine x_aload_n 1 dX4_nextKept_9 rfl ?_
      refine x_iconst (v := 4) dX4_nextKept_10 (by decide) ?_
      refine x_ialdR (j := 4) (by omega) (by omega) (by decide) dX4_nextKept_11 ?_
      refine x_iload_n 2 dX4_nextKept_12 rfl ?_
      refine x_iload_n 0 dX4_nextKept_13 rfl ?_
      refine x_iadd dX4_nextKept_14 ?_
      refine x_top (show (nI h) + (nI (k + 1)) = nI (h + (k + 1)) from nI_add h (k + 1)) ?_
      refine x_aload_n 1 dX4_nextKept_15 rfl ?_
      refine x_iconst (v := 0) dX4_nextKept_16 (by decide) ?_
      refine x_ialdR (j := 0) (by omega) (by omega) (by decide) dX4_nextKept_17 ?_
      refine x_top (show r 0 = nI n from h0) ?_
      refine x_irem dX4_nextKept_18 (nI_ne0 (by omega) (by omega)) ?_
      refine x_top (show (nI (h + (k + 1))) % (nI n) = nI ((h + (k + 1)) % n) from mx_rem (by omega) (by omega) (by omega)) ?_
      refine clX4_48 (qX4_has (r 4) (nI ((h + (k + 1)) % n))) (by decide) rfl dX4_nextKept_19 (fun r19 τ19 h19 => ?_)
      obtain ⟨rfl, rfl⟩ := h19
      refine x_if_eq dX4_nextKept_22 (fun c22 => ?_) (fun c22 => ?_)
      · replace c22 := zb_0 c22
        refine x_iinc (v := nI (k + 1 + 1)) (lv' := [(2, .int (nI (k + 1 + 1))), (0, mx_rf E a), (1, .int (nI h))]) 0 dX4_nextKept_33 rfl (nI_1 _) (by decide) rfl ?_
        refine x_goto dX4_nextKept_36 ?_
        exact ih2 (k + 1) (by omega) (by omega) (hg2 c22)
      · replace c22 := zb_1 c22
        refine x_iload_n 2 dX4_nextKept_25 rfl ?_
        refine x_iload_n 0 dX4_nextKept_26 rfl ?_
        refine x_iadd dX4_nextKept_27 ?_
        refine x_top (show (nI h) + (nI (k + 1)) = nI (h + (k + 1)) from nI_add h (k + 1)) ?_
        refine x_aload_n 1 dX4_nextKept_28 rfl ?_
        refine x_iconst (v := 0) dX4_nextKept_29 (by decide) ?_
        refine x_ialdR (j := 0) (by omega) (by omega) (by decide) dX4_nextKept_30 ?_
        refine x_top (show r 0 = nI n from h0) ?_
        refine x_irem dX4_nextKept_31 (nI_ne0 (by omega) (by omega)) ?_
        refine x_top (show (nI (h + (k + 1))) % (nI n) = nI ((h + (k + 1)) % n) from mx_rem (by omega) (by omega) (by omega)) ?_
        exact x_iret dX4_nextKept_32 ⟨hg1 c22, rfl⟩
  exact key2 0 (Nat.zero_le _) rfl

set_option maxHeartbeats 4000000 in
theorem qX4_ages {E : mx_E} {σ : Mem} {a : Nat} (ha1 : 36 ≤ a) (ha2 : a < 40) (r : Row) (h : Nat) (hh : h < 6) (hf : ¬ r (6 + 6 * h + 1) + 2 = 0) : MX4_ages E 3 [mx_rf E a, .int (nI h)] (mx_row σ a r) (mx_ve (mx_row σ a (f_ages r h))) := by
  refine MM.of (lv := [(0, mx_rf E a), (1, .int (nI h))]) kpX4 rfl (Nat.le_of_ble_eq_true rfl) rfl ?_
  refine x_aload_n 0 dX4_ages_0 rfl ?_
  refine x_iload_n 1 dX4_ages_1 rfl ?_
  refine x_iconst (v := 0) dX4_ages_2 (by decide) ?_
  refine clX4_44 (qX4_of0 h) (by decide) rfl dX4_ages_3 (fun r3 τ3 h3 => ?_)
  obtain ⟨rfl, rfl⟩ := h3
  refine x_ialdR (j := 6 + 6 * h) (by omega) (by omega) (by omega) dX4_ages_6 ?_
  refine clX4_59 (qX4_burnsBy (r (6 + 6 * h))) (by decide) rfl dX4_ages_7 (fun r7 τ7 h7 => ?_)
  obtain ⟨rfl, rfl⟩ := h7
  refine x_istore_n (lv' := [(2, .int (f_burns (r (6 + 6 * h)))), (0, mx_rf E a), (1, .int (nI h))]) dX4_ages_10 rfl (by decide) rfl ?_
  refine x_aload_n 1 dX4_ages_11 rfl ?_
  refine x_iload_n 2 dX4_ages_12 rfl ?_
  refine x_iconst (v := 0) dX4_ages_13 (by decide) ?_
  refine clX4_44 (qX4_of0 h) (by decide) rfl dX4_ages_14 (fun r14 τ14 h14 => ?_)
  obtain ⟨rfl, rfl⟩ := h14
  refine x_ialdR (j := 6 + 6 * h) (by omega) (by omega) (by omega) dX4_ages_17 ?_
  refine x_aload_n 1 dX4_ages_18 rfl ?_
  refine x_iload_n 2 dX4_ages_19 rfl ?_
  refine x_iconst (v := 1) dX4_ages_20 (by decide) ?_
  refine clX4_44 (qX4_of h 1) (by decide) rfl dX4_ages_21 (fun r21 τ21 h21 => ?_)
  obtain ⟨rfl, rfl⟩ := h21
  refine x_ialdR (j := 6 + 6 * h + 1) (by omega) (by omega) (by omega) dX4_ages_24 ?_
  refine x_aload_n 1 dX4_ages_25 rfl ?_
  refine x_iconst (v := 1) dX4_ages_26 (by decide) ?_
  refine x_ialdR (j := 1) (by omega) (by omega) (by decide) dX4_ages_27 ?_
  refine clX4_62 (qX4_dustBy (r (6 + 6 * h)) (r (6 + 6 * h + 1)) (r 1) hf) (by decide) rfl dX4_ages_28 (fun r28 τ28 h28 => ?_)
  obtain ⟨rfl, rfl⟩ := h28
  refine x_istore_n (lv' := [(3, .int (f_duM r h)), (2, .int (f_burns (r (6 + 6 * h)))), (0, mx_rf E a), (1, .int (nI h))]) dX4_ages_31 rfl (by decide) rfl ?_
  refine x_aload_n 2 dX4_ages_32 rfl ?_
  refine x_iconst (v := 3) dX4_ages_33 (by decide) ?_
  refine x_ialdR (j := 3) (by omega) (by omega) (by decide) dX4_ages_34 ?_
  refine x_iload_n 1 dX4_ages_35 rfl ?_
  refine x_icmp_lt dX4_ages_36 (fun c36 => ?_) (fun c36 => ?_)
  · have hl : f_lit r h = false := decide_eq_false (Int32.not_le.mpr c36)
    refine x_iconst (v := 0) dX4_ages_43 (by decide) ?_
    refine x_istore (lv' := [(4, .int 0), (3, .int (f_duM r h)), (2, .int (f_burns (r (6 + 6 * h)))), (0, mx_rf E a), (1, .int (nI h))]) dX4_ages_44 rfl (by decide) rfl ?_
    refine x_aload_n 3 dX4_ages_46 rfl ?_
    refine x_iconst (v := 3) dX4_ages_47 (by decide) ?_
    refine x_dup2 dX4_ages_48 rfl rfl ?_
    refine x_ialdR (j := 3) (by omega) (by omega) (by decide) dX4_ages_49 ?_
    refine x_iload 0 dX4_ages_50 rfl ?_
    refine x_if_eq dX4_ages_52 (fun _ => ?_) (fun c => absurd c (by decide))
    refine x_iconst (v := 0) dX4_ages_59 (by decide) ?_
    refine x_isub dX4_ages_60 ?_
    refine x_iastR (j := 3) (by omega) (by omega) (by decide) dX4_ages_61 ?_
    refine x_mem (τ := mx_row σ a (f_ages1 r h)) (congrArg (mx_row σ a) (show upd r 3 ((r 3) - 0) = f_ages1 r h from by simp only [f_ages1, hl, reduceIte, Bool.false_eq_true, Bool.true_and, Bool.false_and, Bool.and_true, Bool.and_false, decide_eq_true_eq, decide_true, decide_false])) ?_
    refine x_aload_n 3 dX4_ages_62 rfl ?_
    refine x_iload_n 4 dX4_ages_63 rfl ?_
    refine x_iconst (v := 4) dX4_ages_64 (by decide) ?_
    refine clX4_44 (qX4_of h 4) (by decide) rfl dX4_ages_65 (fun r65 τ65 h65 => ?_)
    obtain ⟨rfl, rfl⟩ := h65
    refine x_bipush (v := 20) dX4_ages_68 (by decide) ?_
    refine x_aload_n 3 dX4_ages_70 rfl ?_
    refine x_iload_n 4 dX4_ages_71 rfl ?_
    refine x_iconst (v := 4) dX4_ages_72 (by decide) ?_
    refine clX4_44 (qX4_of h 4) (by decide) rfl dX4_ages_73 (fun r73 τ73 h73 => ?_)
    obtain ⟨rfl, rfl⟩ := h73
    refine x_ialdR (j := 6 + 6 * h + 4) (by omega) (by omega) (by omega) dX4_ages_76 ?_
    refine x_iload 0 dX4_ages_77 rfl ?_
    refine x_if_eq dX4_ages_79 (fun _ => ?_) (fun c => absurd c (by decide))
    refine x_iconst (v := 2) dX4_ages_86 (by decide) ?_
    refine x_iload_n 1 dX4_ages_87 rfl ?_
    refine x_imul dX4_ages_88 ?_
    refine x_iconst (v := 1) dX4_ages_89 (by decide) ?_
    refine x_iadd dX4_ages_90 ?_
    refine x_iadd dX4_ages_91 ?_
    refine clX4_66 (qX4_least 20 (((f_ages1 r h) (6 + 6 * h + 4)) + ((2 * (f_duM r h)) + 1))) (by decide) rfl dX4_ages_92 (fun r92 τ92 h92 => ?_)
    obtain ⟨rfl, rfl⟩ := h92
    refine x_iastR (j := 6 + 6 * h + 4) (by omega) (by omega) (by omega) dX4_ages_95 ?_
    refine x_mem (τ := mx_row σ a (f_ages2 r h)) (congrArg (mx_row σ a) (show upd (f_ages1 r h) (6 + 6 * h + 4) (f_least 20 (((f_ages1 r h) (6 + 6 * h + 4)) + ((2 * (f_duM r h)) + 1))) = f_ages2 r h from by simp only [f_ages2, hl, reduceIte, Bool.false_eq_true, Bool.true_and, Bool.false_and, Bool.and_true, Bool.and_false, decide_eq_true_eq, decide_true, decide_false])) ?_
    refine x_aload_n 3 dX4_ages_96 rfl ?_
    refine x_iload_n 4 dX4_ages_97 rfl ?_
    refine clX4_69 (qX4_isFound ha1 ha2 (f_ages2 r h) h (by omega)) (by decide) rfl dX4_ages_98 (fun r98 τ98 h98 => ?_)
    obtain ⟨rfl, rfl⟩ := h98
    refine x_if_eq dX4_ages_101 (fun c101 => ?_) (fun c101 => ?_)
    · replace c101 := zb_0 c101
      exact x_vret dX4_ages_125 (congrArg (mx_row σ a) (by simp only [f_ages, c101, reduceIte, Bool.false_eq_true, Bool.true_and, Bool.false_and, Bool.and_true, Bool.and_false, decide_eq_true_eq, decide_true, decide_false]))
    · replace c101 := zb_1 c101
      refine x_aload_n 3 dX4_ages_104 rfl ?_
      refine x_iload_n 4 dX4_ages_105 rfl ?_
      refine x_iconst (v := 5) dX4_ages_106 (by decide) ?_
      refine clX4_44 (qX4_of h 5) (by decide) rfl dX4_ages_107 (fun r107 τ107 h107 => ?_)
      obtain ⟨rfl, rfl⟩ := h107
      refine x_bipush (v := 9) dX4_ages_110 (by decide) ?_
      refine x_aload_n 3 dX4_ages_112 rfl ?_
      refine x_iload_n 4 dX4_ages_113 rfl ?_
      refine x_iconst (v := 5) dX4_ages_114 (by decide) ?_
      refine clX4_44 (qX4_of h 5) (by decide) rfl dX4_ages_115 (fun r115 τ115 h115 => ?_)
      obtain ⟨rfl, rfl⟩ := h115
      refine x_ialdR (j := 6 + 6 * h + 5) (by omega) (by omega) (by omega) dX4_ages_118 ?_
      refine x_iconst (v := 1) dX4_ages_119 (by decide) ?_
      refine x_iadd dX4_ages_120 ?_
      refine clX4_66 (qX4_least 9 (((f_ages2 r h) (6 + 6 * h + 5)) + 1)) (by decide) rfl dX4_ages_121 (fun r121 τ121 h121 => ?_)
      obtain ⟨rfl, rfl⟩ := h121
      refine x_iastR (j := 6 + 6 * h + 5) (by omega) (by omega) (by omega) dX4_ages_124 ?_
      exact x_vret dX4_ages_125 (congrArg (mx_row σ a) (by simp only [f_ages, c101, reduceIte, Bool.false_eq_true, Bool.true_and, Bool.false_and, Bool.and_true, Bool.and_false, decide_eq_true_eq, decide_true, decide_false]))
  · have hl : f_lit r h = true := decide_eq_true (Int32.not_lt.mp c36)
    refine x_iconst (v := 1) dX4_ages_39 (by decide) ?_
    refine x_goto dX4_ages_40 ?_
    refine x_istore (lv' := [(4, .int 1), (3, .int (f_duM r h)), (2, .int (f_burns (r (6 + 6 * h)))), (0, mx_rf E a), (1, .int (nI h))]) dX4_ages_44 rfl (by decide) rfl ?_
    refine x_aload_n 3 dX4_ages_46 rfl ?_
    refine x_iconst (v := 3) dX4_ages_47 (by decide) ?_
    refine x_dup2 dX4_ages_48 rfl rfl ?_
    refine x_ialdR (j := 3) (by omega) (by omega) (by decide) dX4_ages_49 ?_
    refine x_iload 0 dX4_ages_50 rfl ?_
    refine x_if_eq dX4_ages_52 (fun c => absurd c (by decide)) (fun _ => ?_)
    refine x_iload_n 2 dX4_ages_55 rfl ?_
    refine x_goto dX4_ages_56 ?_
    refine x_isub dX4_ages_60 ?_
    refine x_iastR (j := 3) (by omega) (by omega) (by decide) dX4_ages_61 ?_
    refine x_mem (τ := mx_row σ a (f_ages1 r h)) (congrArg (mx_row σ a) (show upd r 3 ((r 3) - (f_burns (r (6 + 6 * h)))) = f_ages1 r h from by simp only [f_ages1, hl, reduceIte, Bool.false_eq_true, Bool.true_and, Bool.false_and, Bool.and_true, Bool.and_false, decide_eq_true_eq, decide_true, decide_false])) ?_
    refine x_aload_n 3 dX4_ages_62 rfl ?_
    refine x_iload_n 4 dX4_ages_63 rfl ?_
    refine x_iconst (v := 4) dX4_ages_64 (by decide) ?_
    refine clX4_44 (qX4_of h 4) (by decide) rfl dX4_ages_65 (fun r65 τ65 h65 => ?_)
    obtain ⟨rfl, rfl⟩ := h65
    refine x_bipush (v := 20) dX4_ages_68 (by decide) ?_
    refine x_aload_n 3 dX4_ages_70 rfl ?_
    refine x_iload_n 4 dX4_ages_71 rfl ?_
    refine x_iconst (v := 4) dX4_ages_72 (by decide) ?_
    refine clX4_44 (qX4_of h 4) (by decide) rfl dX4_ages_73 (fun r73 τ73 h73 => ?_)
    obtain ⟨rfl, rfl⟩ := h73
    refine x_ialdR (j := 6 + 6 * h + 4) (by omega) (by omega) (by omega) dX4_ages_76 ?_
    refine x_iload 0 dX4_ages_77 rfl ?_
    refine x_if_eq dX4_ages_79 (fun c => absurd c (by decide)) (fun _ => ?_)
    refine x_iload_n 1 dX4_ages_82 rfl ?_
    refine x_goto dX4_ages_83 ?_
    refine x_iadd dX4_ages_91 ?_
    refine clX4_66 (qX4_least 20 (((f_ages1 r h) (6 + 6 * h + 4)) + (f_duM r h))) (by decide) rfl dX4_ages_92 (fun r92 τ92 h92 => ?_)
    obtain ⟨rfl, rfl⟩ := h92
    refine x_iastR (j := 6 + 6 * h + 4) (by omega) (by omega) (by omega) dX4_ages_95 ?_
    refine x_mem (τ := mx_row σ a (f_ages2 r h)) (congrArg (mx_row σ a) (show upd (f_ages1 r h) (6 + 6 * h + 4) (f_least 20 (((f_ages1 r h) (6 + 6 * h + 4)) + (f_duM r h))) = f_ages2 r h from by simp only [f_ages2, hl, reduceIte, Bool.false_eq_true, Bool.true_and, Bool.false_and, Bool.and_true, Bool.and_false, decide_eq_true_eq, decide_true, decide_false])) ?_
    refine x_aload_n 3 dX4_ages_96 rfl ?_
    refine x_iload_n 4 dX4_ages_97 rfl ?_
    refine clX4_69 (qX4_isFound ha1 ha2 (f_ages2 r h) h (by omega)) (by decide) rfl dX4_ages_98 (fun r98 τ98 h98 => ?_)
    obtain ⟨rfl, rfl⟩ := h98
    refine x_if_eq dX4_ages_101 (fun c101 => ?_) (fun c101 => ?_)
    · replace c101 := zb_0 c101
      exact x_vret dX4_ages_125 (congrArg (mx_row σ a) (by simp only [f_ages, c101, reduceIte, Bool.false_eq_true, Bool.true_and, Bool.false_and, Bool.and_true, Bool.and_false, decide_eq_true_eq, decide_true, decide_false]))
    · replace c101 := zb_1 c101
      refine x_aload_n 3 dX4_ages_104 rfl ?_
      refine x_iload_n 4 dX4_ages_105 rfl ?_
      refine x_iconst (v := 5) dX4_ages_106 (by decide) ?_
      refine clX4_44 (qX4_of h 5) (by decide) rfl dX4_ages_107 (fun r107 τ107 h107 => ?_)
      obtain ⟨rfl, rfl⟩ := h107
      refine x_bipush (v := 9) dX4_ages_110 (by decide) ?_
      refine x_aload_n 3 dX4_ages_112 rfl ?_
      refine x_iload_n 4 dX4_ages_113 rfl ?_
      refine x_iconst (v := 5) dX4_ages_114 (by decide) ?_
      refine clX4_44 (qX4_of h 5) (by decide) rfl dX4_ages_115 (fun r115 τ115 h115 => ?_)
      obtain ⟨rfl, rfl⟩ := h115
      refine x_ialdR (j := 6 + 6 * h + 5) (by omega) (by omega) (by omega) dX4_ages_118 ?_
      refine x_iconst (v := 1) dX4_ages_119 (by decide) ?_
      refine x_iadd dX4_ages_120 ?_
      refine clX4_66 (qX4_least 9 (((f_ages2 r h) (6 + 6 * h + 5)) + 1)) (by decide) rfl dX4_ages_121 (fun r121 τ121 h121 => ?_)
      obtain ⟨rfl, rfl⟩ := h121
      refine x_iastR (j := 6 + 6 * h + 5) (by omega) (by omega) (by omega) dX4_ages_124 ?_
      exact x_vret dX4_ages_125 (congrArg (mx_row σ a) (by simp only [f_ages, c101, reduceIte, Bool.false_eq_true, Bool.true_and, Bool.false_and, Bool.and_true, Bool.and_false, decide_eq_true_eq, decide_true, decide_false]))

set_option maxHeartbeats 4000000 in
theorem qX4_loses {E : mx_E} {σ : Mem} {a : Nat} (ha1 : 36 ≤ a) (ha2 : a < 40) (r : Row) (n : Nat) (hn6 : n ≤ 6) (h0 : r 0 = nI n) (h : Nat) (hh : h < n) : MX4_loses E 2 [mx_rf E a, .int (nI h)] (mx_row σ a r) (mx_ve (mx_row σ a (f_loses n r h))) := by
  refine MM.of (lv := [(0, mx_rf E a), (1, .int (nI h))]) kpX4 rfl (Nat.le_of_ble_eq_true rfl) rfl ?_
  refine x_aload_n 0 dX4_loses_0 rfl ?_
  refine x_iconst (v := 4) dX4_loses_1 (by decide) ?_
  refine x_dup2 dX4_loses_2 rfl rfl ?_
  refine x_ialdR (j := 4) (by omega) (by omega) (by decide) dX4_loses_3 ?_
  refine x_iconst (v := 1) dX4_loses_4 (by decide) ?_
  refine x_iload_n 1 dX4_loses_5 rfl ?_
  refine x_ishl dX4_loses_6 ?_
  refine x_iconst (v := -1) dX4_loses_7 (by decide) ?_
  refine x_ixor dX4_loses_8 ?_
  refine x_iand dX4_loses_9 ?_
  refine x_iastR (j := 4) (by omega) (by omega) (by decide) dX4_loses_10 ?_
  refine x_mem (τ := mx_row σ a (f_loses1 r h)) (congrArg (mx_row σ a) (show upd r 4 ((r 4) &&& ((1 <<< ((nI h) &&& 31)) ^^^ (-1))) = f_loses1 r h from rfl)) ?_
  refine x_aload_n 0 dX4_loses_11 rfl ?_
  refine x_iload_n 1 dX4_loses_12 rfl ?_
  refine clX4_73 (qX4_nextKept ha1 ha2 (f_loses1 r h) n hn6 h0 h hh) (by decide) rfl dX4_loses_13 (fun r13 τ13 h13 => ?_)
  obtain ⟨rfl, rfl⟩ := h13
  rcases f_next_in (n := n) (r := f_loses1 r h) hh with hx | ⟨j, hj, hx⟩
  · refine x_top hx ?_
    refine x_istore_n (lv' := [(2, .int (-9)), (0, mx_rf E a), (1, .int (nI h))]) dX4_loses_16 rfl (by decide) rfl ?_
    refine x_iload_n 0 dX4_loses_17 rfl ?_
    refine x_if_lt dX4_loses_18 (fun _ => ?_) (fun c => absurd c (by decide))
    refine x_aload_n 1 dX4_loses_48 rfl ?_
    refine x_iload_n 2 dX4_loses_49 rfl ?_
    refine x_iconst (v := 3) dX4_loses_50 (by decide) ?_
    refine clX4_44 (qX4_of h 3) (by decide) rfl dX4_loses_51 (fun r51 τ51 h51 => ?_)
    obtain ⟨rfl, rfl⟩ := h51
    refine x_iconst (v := 0) dX4_loses_54 (by decide) ?_
    refine x_iastR (j := 6 + 6 * h + 3) (by omega) (by omega) (by omega) dX4_loses_55 ?_
    exact x_vret dX4_loses_56 (congrArg (mx_row σ a) (by unfold f_loses; first | rw [hx, if_neg (by decide)] | rw [hx, if_pos (nI_pos' (by omega)), nI_clamp (by omega)]))
  · refine x_top hx ?_
    refine x_istore_n (lv' := [(2, .int (nI j)), (0, mx_rf E a), (1, .int (nI h))]) dX4_loses_16 rfl (by decide) rfl ?_
    refine x_iload_n 0 dX4_loses_17 rfl ?_
    refine x_if_lt dX4_loses_18 (fun c18 => ?_) (fun c18 => ?_)
    · exact absurd c18 (nI_pos (by omega))
    · refine x_aload_n 1 dX4_loses_21 rfl ?_
      refine x_iload_n 0 dX4_loses_22 rfl ?_
      refine x_iconst (v := 3) dX4_loses_23 (by decide) ?_
      refine clX4_44 (qX4_of j 3) (by decide) rfl dX4_loses_24 (fun r24 τ24 h24 => ?_)
      obtain ⟨rfl, rfl⟩ := h24
      refine x_bipush (v := 30) dX4_loses_27 (by decide) ?_
      refine x_aload_n 1 dX4_loses_29 rfl ?_
      refine x_iload_n 0 dX4_loses_30 rfl ?_
      refine x_iconst (v := 3) dX4_loses_31 (by decide) ?_
      refine clX4_44 (qX4_of j 3) (by decide) rfl dX4_loses_32 (fun r32 τ32 h32 => ?_)
      obtain ⟨rfl, rfl⟩ := h32
      refine x_ialdR (j := 6 + 6 * j + 3) (by omega) (by omega) (by omega) dX4_loses_35 ?_
      refine x_aload_n 1 dX4_loses_36 rfl ?_
      refine x_iload_n 2 dX4_loses_37 rfl ?_
      refine x_iconst (v := 3) dX4_loses_38 (by decide) ?_
      refine clX4_44 (qX4_of h 3) (by decide) rfl dX4_loses_39 (fun r39 τ39 h39 => ?_)
      obtain ⟨rfl, rfl⟩ := h39
      refine x_ialdR (j := 6 + 6 * h + 3) (by omega) (by omega) (by omega) dX4_loses_42 ?_
      refine x_iadd dX4_loses_43 ?_
      refine clX4_66 (qX4_least 30 (((f_loses1 r h) (6 + 6 * j + 3)) + ((f_loses1 r h) (6 + 6 * h + 3)))) (by decide) rfl dX4_loses_44 (fun r44 τ44 h44 => ?_)
      obtain ⟨rfl, rfl⟩ := h44
      refine x_iastR (j := 6 + 6 * j + 3) (by omega) (by omega) (by omega) dX4_loses_47 ?_
      refine x_aload_n 1 dX4_loses_48 rfl ?_
      refine x_iload_n 2 dX4_loses_49 rfl ?_
      refine x_iconst (v := 3) dX4_loses_50 (by decide) ?_
      refine clX4_44 (qX4_of h 3) (by decide) rfl dX4_loses_51 (fun r51 τ51 h51 => ?_)
      obtain ⟨rfl, rfl⟩ := h51
      refine x_iconst (v := 0) dX4_loses_54 (by decide) ?_
      refine x_iastR (j := 6 + 6 * h + 3) (by omega) (by omega) (by omega) dX4_loses_55 ?_
      exact x_vret dX4_loses_56 (congrArg (mx_row σ a) (by unfold f_loses; first | rw [hx, if_neg (by decide)] | rw [hx, if_pos (nI_pos' (by omega)), nI_clamp (by omega)]))

set_option maxHeartbeats 4000000 in
theorem qX4_week37 {E : mx_E} {σ : Mem} {a : Nat} (ha1 : 36 ≤ a) (ha2 : a < 40) (r : Row) {v1 : Int32} (n : Nat) (hw : wf n r) : MX E 4 RX4 cX4_week 2 none 37 [(1, .int v1), (0, mx_rf E a)] [] (mx_row σ a r) (mx_ve (mx_row σ a (f_insp n r))) := by
  have hn6 := hw.1
  have h0 := hw.2.1
  obtain ⟨e2, -, hz1⟩ := wf_at hw
  refine x_aload_n 1 dX4_week_37 rfl ?_
  refine x_iconst (v := 0) dX4_week_38 (by decide) ?_
  refine x_ialdR (j := 0) (by omega) (by omega) (by decide) dX4_week_39 ?_
  refine x_top (show r 0 = nI n from h0) ?_
  refine x_if_ne dX4_week_40 (fun c40 => ?_) (fun c40 => ?_)
  · have hz : 0 < n := Nat.pos_of_ne_zero (fun q => c40 (by rw [q]; rfl))
    have hlt := hz1 hz
    refine x_aload_n 1 dX4_week_44 rfl ?_
    refine x_iconst (v := 2) dX4_week_45 (by decide) ?_
    refine x_ialdR (j := 2) (by omega) (by omega) (by decide) dX4_week_46 ?_
    refine x_top (show r 2 = nI (f_at r) from e2) ?_
    refine x_istore_n (lv' := [(1, .int (nI (f_at r))), (0, mx_rf E a)]) dX4_week_47 rfl (by decide) rfl ?_
    refine x_aload_n 1 dX4_week_48 rfl ?_
    refine x_iconst (v := 4) dX4_week_49 (by decide) ?_
    refine x_ialdR (j := 4) (by omega) (by omega) (by decide) dX4_week_50 ?_
    refine x_iload_n 0 dX4_week_51 rfl ?_
    refine clX4_48 (qX4_has (r 4) (nI (f_at r))) (by decide) rfl dX4_week_52 (fun r52 τ52 h52 => ?_)
    obtain ⟨rfl, rfl⟩ := h52
    refine x_if_eq dX4_week_55 (fun c55 => ?_) (fun c55 => ?_)
    · replace c55 := zb_0 c55
      refine x_aload_n 1 dX4_week_97 rfl ?_
      refine x_iconst (v := 2) dX4_week_98 (by decide) ?_
      refine x_iload_n 0 dX4_week_99 rfl ?_
      refine x_iconst (v := 1) dX4_week_100 (by decide) ?_
      refine x_iadd dX4_week_101 ?_
      refine x_top (show (nI (f_at r)) + 1 = nI (f_at r + 1) from nI_add (f_at r) 1) ?_
      refine x_aload_n 1 dX4_week_102 rfl ?_
      refine x_iconst (v := 0) dX4_week_103 (by decide) ?_
      refine x_ialdR (j := 0) (by omega) (by omega) (by decide) dX4_week_104 ?_
      refine x_top (show r 0 = nI n from h0) ?_
      refine x_irem dX4_week_105 (nI_ne0 (by omega) (by omega)) ?_
      refine x_top (show (nI (f_at r + 1)) % (nI n) = nI ((f_at r + 1) % n) from mx_rem (by omega) (by omega) (by omega)) ?_
      refine x_iastR (j := 2) (by omega) (by omega) (by decide) dX4_week_106 ?_
      exact x_vret dX4_week_107 (congrArg (mx_row σ a) (by unfold f_insp; rw [if_neg (by omega)]; simp only [f_kept, c55, or_true, true_or, or_false, reduceIte, Bool.false_eq_true, not_false_eq_true, not_true_eq_false]))
    · replace c55 := zb_1 c55
      refine x_aload_n 1 dX4_week_58 rfl ?_
      refine x_iload_n 0 dX4_week_59 rfl ?_
      refine x_iconst (v := 4) dX4_week_60 (by decide) ?_
      refine clX4_44 (qX4_of (f_at r) 4) (by decide) rfl dX4_week_61 (fun r61 τ61 h61 => ?_)
      obtain ⟨rfl, rfl⟩ := h61
      refine x_ialdR (j := 6 + 6 * (f_at r) + 4) (by omega) (by omega) (by omega) dX4_week_64 ?_
      refine x_bipush (v := 10) dX4_week_65 (by decide) ?_
      refine x_icmp_ge dX4_week_67 (fun c67 => ?_) (fun c67 => ?_)
      · refine x_aload_n 1 dX4_week_81 rfl ?_
        refine x_iload_n 0 dX4_week_82 rfl ?_
        refine clX4_80 (qX4_loses ha1 ha2 r n hn6 h0 (f_at r) hlt) (by decide) rfl dX4_week_83 (fun τ83 h83 => ?_)
        obtain rfl := h83
        refine x_goto dX4_week_86 ?_
        refine x_aload_n 1 dX4_week_97 rfl ?_
        refine x_iconst (v := 2) dX4_week_98 (by decide) ?_
        refine x_iload_n 0 dX4_week_99 rfl ?_
        refine x_iconst (v := 1) dX4_week_100 (by decide) ?_
        refine x_iadd dX4_week_101 ?_
        refine x_top (show (nI (f_at r)) + 1 = nI (f_at r + 1) from nI_add (f_at r) 1) ?_
        refine x_aload_n 1 dX4_week_102 rfl ?_
        refine x_iconst (v := 0) dX4_week_103 (by decide) ?_
        refine x_ialdR (j := 0) (by omega) (by omega) (by decide) dX4_week_104 ?_
        refine x_top (show (f_loses n r (f_at r)) 0 = nI n from (f_loses_o (by omega) (by omega)).trans h0) ?_
        refine x_irem dX4_week_105 (nI_ne0 (by omega) (by omega)) ?_
        refine x_top (show (nI (f_at r + 1)) % (nI n) = nI ((f_at r + 1) % n) from mx_rem (by omega) (by omega) (by omega)) ?_
        refine x_iastR (j := 2) (by omega) (by omega) (by decide) dX4_week_106 ?_
        exact x_vret dX4_week_107 (congrArg (mx_row σ a) (by unfold f_insp; rw [if_neg (by omega)]; simp only [f_kept, c55, c67, (Int32.not_lt.mpr c67), or_true, true_or, or_false, reduceIte, Bool.false_eq_true, not_false_eq_true, not_true_eq_false]))
      · refine x_aload_n 1 dX4_week_70 rfl ?_
        refine x_iload_n 0 dX4_week_71 rfl ?_
        refine x_iconst (v := 5) dX4_week_72 (by decide) ?_
        refine clX4_44 (qX4_of (f_at r) 5) (by decide) rfl dX4_week_73 (fun r73 τ73 h73 => ?_)
        obtain ⟨rfl, rfl⟩ := h73
        refine x_ialdR (j := 6 + 6 * (f_at r) + 5) (by omega) (by omega) (by omega) dX4_week_76 ?_
        refine x_iconst (v := 3) dX4_week_77 (by decide) ?_
        refine x_icmp_lt dX4_week_78 (fun c78 => ?_) (fun c78 => ?_)
        · refine x_aload_n 1 dX4_week_89 rfl ?_
          refine x_iload_n 0 dX4_week_90 rfl ?_
          refine x_iconst (v := 4) dX4_week_91 (by decide) ?_
          refine clX4_44 (qX4_of (f_at r) 4) (by decide) rfl dX4_week_92 (fun r92 τ92 h92 => ?_)
          obtain ⟨rfl, rfl⟩ := h92
          refine x_iconst (v := 0) dX4_week_95 (by decide) ?_
          refine x_iastR (j := 6 + 6 * (f_at r) + 4) (by omega) (by omega) (by omega) dX4_week_96 ?_
          refine x_aload_n 1 dX4_week_97 rfl ?_
          refine x_iconst (v := 2) dX4_week_98 (by decide) ?_
          refine x_iload_n 0 dX4_week_99 rfl ?_
          refine x_iconst (v := 1) dX4_week_100 (by decide) ?_
          refine x_iadd dX4_week_101 ?_
          refine x_top (show (nI (f_at r)) + 1 = nI (f_at r + 1) from nI_add (f_at r) 1) ?_
          refine x_aload_n 1 dX4_week_102 rfl ?_
          refine x_iconst (v := 0) dX4_week_103 (by decide) ?_
          refine x_ialdR (j := 0) (by omega) (by omega) (by decide) dX4_week_104 ?_
          refine x_top (show (upd r (6 + 6 * (f_at r) + 4) 0) 0 = nI n from h0) ?_
          refine x_irem dX4_week_105 (nI_ne0 (by omega) (by omega)) ?_
          refine x_top (show (nI (f_at r + 1)) % (nI n) = nI ((f_at r + 1) % n) from mx_rem (by omega) (by omega) (by omega)) ?_
          refine x_iastR (j := 2) (by omega) (by omega) (by decide) dX4_week_106 ?_
          exact x_vret dX4_week_107 (congrArg (mx_row σ a) (by unfold f_insp; rw [if_neg (by omega)]; simp only [f_kept, c55, c67, (Int32.not_le.mp c67), c78, (Int32.not_le.mpr c78), or_true, true_or, or_false, reduceIte, Bool.false_eq_true, not_false_eq_true, not_true_eq_false]))
        · refine x_aload_n 1 dX4_week_81 rfl ?_
          refine x_iload_n 0 dX4_week_82 rfl ?_
          refine clX4_80 (qX4_loses ha1 ha2 r n hn6 h0 (f_at r) hlt) (by decide) rfl dX4_week_83 (fun τ83 h83 => ?_)
          obtain rfl := h83
          refine x_goto dX4_week_86 ?_
          refine x_aload_n 1 dX4_week_97 rfl ?_
          refine x_iconst (v := 2) dX4_week_98 (by decide) ?_
          refine x_iload_n 0 dX4_week_99 rfl ?_
          refine x_iconst (v := 1) dX4_week_100 (by decide) ?_
          refine x_iadd dX4_week_101 ?_
          refine x_top (show (nI (f_at r)) + 1 = nI (f_at r + 1) from nI_add (f_at r) 1) ?_
          refine x_aload_n 1 dX4_week_102 rfl ?_
          refine x_iconst (v := 0) dX4_week_103 (by decide) ?_
          refine x_ialdR (j := 0) (by omega) (by omega) (by decide) dX4_week_104 ?_
          refine x_top (show (f_loses n r (f_at r)) 0 = nI n from (f_loses_o (by omega) (by omega)).trans h0) ?_
          refine x_irem dX4_week_105 (nI_ne0 (by omega) (by omega)) ?_
          refine x_top (show (nI (f_at r + 1)) % (nI n) = nI ((f_at r + 1) % n) from mx_rem (by omega) (by omega) (by omega)) ?_
          refine x_iastR (j := 2) (by omega) (by omega) (by decide) dX4_week_106 ?_
          exact x_vret dX4_week_107 (congrArg (mx_row σ a) (by unfold f_insp; rw [if_neg (by omega)]; simp only [f_kept, c55, c67, (Int32.not_le.mp c67), c78, (Int32.not_lt.mp c78), or_true, true_or, or_false, reduceIte, Bool.false_eq_true, not_false_eq_true, not_true_eq_false]))
  · have hz : n = 0 := (nI_eq (b := 0) (by omega) (by decide)).mp c40
    exact x_vret dX4_week_43 (congrArg (mx_row σ a) (by unfold f_insp; rw [if_pos hz]))

theorem f_ageU_end {n h : Nat} {r : Row} (hn : n ≤ 6) (hh : h ≤ n) (c : nI n ≤ nI h) : f_ageU r h = f_ageU r n := by
  rw [show h = n from Nat.le_antisymm hh (nI_le_of (by omega) (by omega) c)]

set_option maxHeartbeats 4000000 in
theorem qX4_week {E : mx_E} {σ : Mem} {a : Nat} (ha1 : 36 ≤ a) (ha2 : a < 40) (r : Row) (n : Nat) (hw : wf n r) : MX4_week E 4 [mx_rf E a] (mx_row σ a r) (mx_ve (mx_row σ a (f_week n r))) := by
  refine MM.of (lv := [(0, mx_rf E a)]) kpX4 rfl (Nat.le_of_ble_eq_true rfl) rfl ?_
  have hn6 := hw.1
  have h0 := hw.2.1
  have hw1 := wf_week1 hw (r 1 + 1)
  refine x_aload_n 0 dX4_week_0 rfl ?_
  refine x_iconst (v := 1) dX4_week_1 (by decide) ?_
  refine x_dup2 dX4_week_2 rfl rfl ?_
  refine x_ialdR (j := 1) (by omega) (by omega) (by decide) dX4_week_3 ?_
  refine x_iconst (v := 1) dX4_week_4 (by decide) ?_
  refine x_iadd dX4_week_5 ?_
  refine x_iastR (j := 1) (by omega) (by omega) (by decide) dX4_week_6 ?_
  refine x_iconst (v := 0) dX4_week_7 (by decide) ?_
  refine x_istore_n (lv' := [(1, .int 0), (0, mx_rf E a)]) dX4_week_8 rfl (by decide) rfl ?_
  have key9 : ∀ h, h ≤ n → MX E 4 RX4 cX4_week 2 none 9 [(1, .int (nI h)), (0, mx_rf E a)] [] (mx_row σ a (f_ageU (upd r 1 (r 1 + 1)) h)) (mx_ve (mx_row σ a (f_week n r))) := by
    refine mx_ind n (fun h hi9 ih9 => ?_)
    refine x_iload_n 0 dX4_week_9 rfl ?_
    refine x_aload_n 1 dX4_week_10 rfl ?_
    refine x_iconst (v := 0) dX4_week_11 (by decide) ?_
    refine x_ialdR (j := 0) (by omega) (by omega) (by decide) dX4_week_12 ?_
    refine x_top (show (f_ageU (upd r 1 (r 1 + 1)) h) 0 = nI n from (wf_ageU hw1 h).2.1) ?_
    refine x_icmp_ge dX4_week_13 (fun c13 => ?_) (fun c13 => ?_)
    · rw [f_ageU_end hn6 hi9 c13]
      exact qX4_week37 ha1 ha2 _ n (wf_ageU hw1 n)
    · have hlt := nI_lt_of (by omega) (by omega) c13
      refine x_aload_n 1 dX4_week_16 rfl ?_
      refine x_iconst (v := 4) dX4_week_17 (by decide) ?_
      refine x_ialdR (j := 4) (by omega) (by omega) (by decide) dX4_week_18 ?_
      refine x_iload_n 0 dX4_week_19 rfl ?_
      refine clX4_48 (qX4_has ((f_ageU (upd r 1 (r 1 + 1)) h) 4) (nI h)) (by decide) rfl dX4_week_20 (fun r20 τ20 h20 => ?_)
      obtain ⟨rfl, rfl⟩ := h20
      refine x_if_eq dX4_week_23 (fun c23 => ?_) (fun c23 => ?_)
      · replace c23 := zb_0 c23
        refine x_mem (τ := mx_row σ a (f_ageU (upd r 1 (r 1 + 1)) (h + 1))) (congrArg (mx_row σ a) (show f_ageU (upd r 1 (r 1 + 1)) h = f_ageU (upd r 1 (r 1 + 1)) (h + 1) from by rw [f_ageU_s]; simp only [f_kept, c23, reduceIte, Bool.false_eq_true])) ?_
        refine x_iinc (v := nI (h + 1)) (lv' := [(1, .int (nI (h + 1))), (0, mx_rf E a)]) 0 dX4_week_31 rfl (nI_1 _) (by decide) rfl ?_
        refine x_goto dX4_week_34 ?_
        exact ih9 (h + 1) (by omega) (by omega)
      · replace c23 := zb_1 c23
        refine x_aload_n 1 dX4_week_26 rfl ?_
        refine x_iload_n 0 dX4_week_27 rfl ?_
        refine clX4_76 (qX4_ages ha1 ha2 (f_ageU (upd r 1 (r 1 + 1)) h) h (by omega) (wf_f (wf_ageU hw1 h) hlt)) (by decide) rfl dX4_week_28 (fun τ28 h28 => ?_)
        obtain rfl := h28
        refine x_mem (τ := mx_row σ a (f_ageU (upd r 1 (r 1 + 1)) (h + 1))) (congrArg (mx_row σ a) (show f_ages (f_ageU (upd r 1 (r 1 + 1)) h) h = f_ageU (upd r 1 (r 1 + 1)) (h + 1) from by rw [f_ageU_s]; simp only [f_kept, c23, reduceIte, Bool.false_eq_true])) ?_
        refine x_iinc (v := nI (h + 1)) (lv' := [(1, .int (nI (h + 1))), (0, mx_rf E a)]) 0 dX4_week_31 rfl (nI_1 _) (by decide) rfl ?_
        refine x_goto dX4_week_34 ?_
        exact ih9 (h + 1) (by omega) (by omega)
  exact key9 0 (Nat.zero_le _)

theorem wf_weeks {n : Nat} {r : Row} (h : wf n r) : ∀ k, wf n (f_weeks n r k)
  | 0 => h
  | k + 1 => wf_week (wf_weeks h k)

set_option maxHeartbeats 4000000 in
theorem qX4_weeksOn {E : mx_E} {σ : Mem} {a : Nat} (ha1 : 36 ≤ a) (ha2 : a < 40) (r : Row) (n : Nat) (hw : wf n r) (k : Nat) (hk : k < 1000) : MX4_weeksOn E 5 [mx_rf E a, .int (nI k)] (mx_row σ a r) (mx_ve (mx_row σ a (f_weeks n r k))) := by
  refine MM.of (lv := [(0, mx_rf E a), (1, .int (nI k))]) kpX4 rfl (Nat.le_of_ble_eq_true rfl) rfl ?_
  refine x_iconst (v := 0) dX4_weeksOn_0 (by decide) ?_
  refine x_istore_n (lv' := [(2, .int 0), (0, mx_rf E a), (1, .int (nI k))]) dX4_weeksOn_1 rfl (by decide) rfl ?_
  have key2 : ∀ j, j ≤ k → MX E 5 RX4 cX4_weeksOn 3 none 2 [(2, .int (nI j)), (0, mx_rf E a), (1, .int (nI k))] [] (mx_row σ a (f_weeks n r j)) (mx_ve (mx_row σ a (f_weeks n r k))) := by
    refine mx_ind k (fun j hi2 ih2 => ?_)
    refine x_iload_n 0 dX4_weeksOn_2 rfl ?_
    refine x_iload_n 2 dX4_weeksOn_3 rfl ?_
    refine x_icmp_ge dX4_weeksOn_4 (fun c4 => ?_) (fun c4 => ?_)
    · have hge := nI_le_of (by omega) (by omega) c4
      have hjk : j = k := by omega
      exact x_vret dX4_weeksOn_17 (by rw [hjk])
    · have hlt := nI_lt_of (by omega) (by omega) c4
      refine x_aload_n 1 dX4_weeksOn_7 rfl ?_
      refine clX4_83 (qX4_week ha1 ha2 (f_weeks n r j) n (wf_weeks hw j)) (by decide) rfl dX4_weeksOn_8 (fun τ8 h8 => ?_)
      obtain rfl := h8
      refine x_iinc (v := nI (j + 1)) (lv' := [(2, .int (nI (j + 1))), (0, mx_rf E a), (1, .int (nI k))]) 0 dX4_weeksOn_11 rfl (nI_1 _) (by decide) rfl ?_
      refine x_goto dX4_weeksOn_14 ?_
      exact ih2 (j + 1) (by omega) (by omega)
  exact key2 0 (Nat.zero_le _)

set_option maxHeartbeats 4000000 in
theorem qX4_burnsIn {E : mx_E} {σ : Mem} {a : Nat} (ha1 : 36 ≤ a) (ha2 : a < 40) (r : Row) (n : Nat) (hn6 : n ≤ 6) (h0 : r 0 = nI n) : MX4_burnsIn E 1 [mx_rf E a] (mx_row σ a r) (mx_ie (f_burnsU r n) (mx_row σ a r)) := by
  refine MM.of (lv := [(0, mx_rf E a)]) kpX4 rfl (Nat.le_of_ble_eq_true rfl) rfl ?_
  refine x_iconst (v := 0) dX4_burnsIn_0 (by decide) ?_
  refine x_istore_n (lv' := [(1, .int 0), (0, mx_rf E a)]) dX4_burnsIn_1 rfl (by decide) rfl ?_
  refine x_iconst (v := 0) dX4_burnsIn_2 (by decide) ?_
  refine x_istore_n (lv' := [(2, .int 0), (1, .int 0), (0, mx_rf E a)]) dX4_burnsIn_3 rfl (by decide) rfl ?_
  have key4 : ∀ h, h ≤ n → MX E 1 RX4 cX4_burnsIn 3 (some .int) 4 [(2, .int (nI h)), (1, .int (f_burnsU r h)), (0, mx_rf E a)] [] (mx_row σ a r) (mx_ie (f_burnsU r n) (mx_row σ a r)) := by
    refine mx_ind n (fun h hi4 ih4 => ?_)
    refine x_iload_n 0 dX4_burnsIn_4 rfl ?_
    refine x_aload_n 2 dX4_burnsIn_5 rfl ?_
    refine x_iconst (v := 0) dX4_burnsIn_6 (by decide) ?_
    refine x_ialdR (j := 0) (by omega) (by omega) (by decide) dX4_burnsIn_7 ?_
    refine x_top (show r 0 = nI n from h0) ?_
    refine x_icmp_ge dX4_burnsIn_8 (fun c8 => ?_) (fun c8 => ?_)
    · have hge := nI_le_of (by omega) (by omega) c8
      have hjk : h = n := by omega
      refine x_iload_n 1 dX4_burnsIn_44 rfl ?_
      exact x_iret dX4_burnsIn_45 ⟨by rw [hjk], rfl⟩
    · have hlt := nI_lt_of (by omega) (by omega) c8
      refine x_iload_n 1 dX4_burnsIn_11 rfl ?_
      refine x_aload_n 2 dX4_burnsIn_12 rfl ?_
      refine x_iconst (v := 4) dX4_burnsIn_13 (by decide) ?_
      refine x_ialdR (j := 4) (by omega) (by omega) (by decide) dX4_burnsIn_14 ?_
      refine x_iload_n 0 dX4_burnsIn_15 rfl ?_
      refine clX4_48 (qX4_has (r 4) (nI h)) (by decide) rfl dX4_burnsIn_16 (fun r16 τ16 h16 => ?_)
      obtain ⟨rfl, rfl⟩ := h16
      refine x_if_eq dX4_burnsIn_19 (fun c19 => ?_) (fun c19 => ?_)
      · replace c19 := zb_0 c19
        refine x_iconst (v := 0) dX4_burnsIn_35 (by decide) ?_
        refine x_iadd dX4_burnsIn_36 ?_
        refine x_top (show (f_burnsU r h) + 0 = f_burnsU r (h + 1) from (by rw [f_burnsU_s]; simp only [f_kept, c19, reduceIte, Bool.false_eq_true])) ?_
        refine x_istore_n (lv' := [(1, .int (f_burnsU r (h + 1))), (2, .int (nI h)), (0, mx_rf E a)]) dX4_burnsIn_37 rfl (by decide) rfl ?_
        refine x_iinc (v := nI (h + 1)) (lv' := [(2, .int (nI (h + 1))), (1, .int (f_burnsU r (h + 1))), (0, mx_rf E a)]) 1 dX4_burnsIn_38 rfl (nI_1 _) (by decide) rfl ?_
        refine x_goto dX4_burnsIn_41 ?_
        exact ih4 (h + 1) (by omega) (by omega)
      · replace c19 := zb_1 c19
        refine x_aload_n 2 dX4_burnsIn_22 rfl ?_
        refine x_iload_n 0 dX4_burnsIn_23 rfl ?_
        refine x_iconst (v := 0) dX4_burnsIn_24 (by decide) ?_
        refine clX4_44 (qX4_of0 h) (by decide) rfl dX4_burnsIn_25 (fun r25 τ25 h25 => ?_)
        obtain ⟨rfl, rfl⟩ := h25
        refine x_ialdR (j := 6 + 6 * h) (by omega) (by omega) (by omega) dX4_burnsIn_28 ?_
        refine clX4_59 (qX4_burnsBy (r (6 + 6 * h))) (by decide) rfl dX4_burnsIn_29 (fun r29 τ29 h29 => ?_)
        obtain ⟨rfl, rfl⟩ := h29
        refine x_goto dX4_burnsIn_32 ?_
        refine x_iadd dX4_burnsIn_36 ?_
        refine x_top (show (f_burnsU r h) + (f_burns (r (6 + 6 * h))) = f_burnsU r (h + 1) from (by rw [f_burnsU_s]; simp only [f_kept, c19, reduceIte, Bool.false_eq_true])) ?_
        refine x_istore_n (lv' := [(1, .int (f_burnsU r (h + 1))), (2, .int (nI h)), (0, mx_rf E a)]) dX4_burnsIn_37 rfl (by decide) rfl ?_
        refine x_iinc (v := nI (h + 1)) (lv' := [(2, .int (nI (h + 1))), (1, .int (f_burnsU r (h + 1))), (0, mx_rf E a)]) 1 dX4_burnsIn_38 rfl (nI_1 _) (by decide) rfl ?_
        refine x_goto dX4_burnsIn_41 ?_
        exact ih4 (h + 1) (by omega) (by omega)
  exact key4 0 (Nat.zero_le _)

set_option maxHeartbeats 4000000 in
theorem qX4_allPeople {E : mx_E} {σ : Mem} {a : Nat} (ha1 : 36 ≤ a) (ha2 : a < 40) (r : Row) (n : Nat) (hn6 : n ≤ 6) (h0 : r 0 = nI n) : MX4_allPeople E 1 [mx_rf E a] (mx_row σ a r) (mx_ie (f_pplU r n) (mx_row σ a r)) := by
  refine MM.of (lv := [(0, mx_rf E a)]) kpX4 rfl (Nat.le_of_ble_eq_true rfl) rfl ?_
  refine x_iconst (v := 0) dX4_allPeople_0 (by decide) ?_
  refine x_istore_n (lv' := [(1, .int 0), (0, mx_rf E a)]) dX4_allPeople_1 rfl (by decide) rfl ?_
  refine x_iconst (v := 0) dX4_allPeople_2 (by decide) ?_
  refine x_istore_n (lv' := [(2, .int 0), (1, .int 0), (0, mx_rf E a)]) dX4_allPeople_3 rfl (by decide) rfl ?_
  have key4 : ∀ h, h ≤ n → MX E 1 RX4 cX4_allPeople 3 (some .int) 4 [(2, .int (nI h)), (1, .int (f_pplU r h)), (0, mx_rf E a)] [] (mx_row σ a r) (mx_ie (f_pplU r n) (mx_row σ a r)) := by
    refine mx_ind n (fun h hi4 ih4 => ?_)
    refine x_iload_n 0 dX4_allPeople_4 rfl ?_
    refine x_aload_n 2 dX4_allPeople_5 rfl ?_
    refine x_iconst (v := 0) dX4_allPeople_6 (by decide) ?_
    refine x_ialdR (j := 0) (by omega) (by omega) (by decide) dX4_allPeople_7 ?_
    refine x_top (show r 0 = nI n from h0) ?_
    refine x_icmp_ge dX4_allPeople_8 (fun c8 => ?_) (fun c8 => ?_)
    · have hge := nI_le_of (by omega) (by omega) c8
      have hjk : h = n := by omega
      refine x_iload_n 1 dX4_allPeople_27 rfl ?_
      exact x_iret dX4_allPeople_28 ⟨by rw [hjk], rfl⟩
    · have hlt := nI_lt_of (by omega) (by omega) c8
      refine x_iload_n 1 dX4_allPeople_11 rfl ?_
      refine x_aload_n 2 dX4_allPeople_12 rfl ?_
      refine x_iload_n 0 dX4_allPeople_13 rfl ?_
      refine x_iconst (v := 3) dX4_allPeople_14 (by decide) ?_
      refine clX4_44 (qX4_of h 3) (by decide) rfl dX4_allPeople_15 (fun r15 τ15 h15 => ?_)
      obtain ⟨rfl, rfl⟩ := h15
      refine x_ialdR (j := 6 + 6 * h + 3) (by omega) (by omega) (by omega) dX4_allPeople_18 ?_
      refine x_iadd dX4_allPeople_19 ?_
      refine x_top (show (f_pplU r h) + (r (6 + 6 * h + 3)) = f_pplU r (h + 1) from rfl) ?_
      refine x_istore_n (lv' := [(1, .int (f_pplU r (h + 1))), (2, .int (nI h)), (0, mx_rf E a)]) dX4_allPeople_20 rfl (by decide) rfl ?_
      refine x_iinc (v := nI (h + 1)) (lv' := [(2, .int (nI (h + 1))), (1, .int (f_pplU r (h + 1))), (0, mx_rf E a)]) 1 dX4_allPeople_21 rfl (nI_1 _) (by decide) rfl ?_
      refine x_goto dX4_allPeople_24 ?_
      exact ih4 (h + 1) (by omega) (by omega)
  exact key4 0 (Nat.zero_le _)
