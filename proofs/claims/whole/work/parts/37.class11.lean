set_option maxHeartbeats 4000000 in
theorem qX3_kindOf {E : mx_E} {σ : Mem} (c : Int32) : MX3_kindOf E 0 [.int c] σ (mx_ie (f_kd c) σ) := by
  refine MM.of (lv := [(0, .int c)]) kpX3 rfl (Nat.le_of_ble_eq_true rfl) rfl ?_
  refine x_iload_n 0 dX3_kindOf_0 rfl ?_
  by_cases c1_0 : c = 99
  · refine x_tableIn (off := 81) (tgt := 82) dX3_kindOf_1 (by rw [c1_0]; decide) (by rw [c1_0]; decide) (by rw [c1_0]; decide) (by decide) ?_
    refine x_iconst (v := 5) dX3_kindOf_82 (by decide) ?_
    exact x_iret dX3_kindOf_83 ⟨by simp [f_kd, *], rfl⟩
  by_cases c1_1 : c = 100
  · refine x_tableIn (off := 83) (tgt := 84) dX3_kindOf_1 (by rw [c1_1]; decide) (by rw [c1_1]; decide) (by rw [c1_1]; decide) (by decide) ?_
    refine x_bipush (v := -9) dX3_kindOf_84 (by decide) ?_
    exact x_iret dX3_kindOf_86 ⟨by simp [f_kd, *], rfl⟩
  by_cases c1_2 : c = 101
  · refine x_tableIn (off := 83) (tgt := 84) dX3_kindOf_1 (by rw [c1_2]; decide) (by rw [c1_2]; decide) (by rw [c1_2]; decide) (by decide) ?_
    refine x_bipush (v := -9) dX3_kindOf_84 (by decide) ?_
    exact x_iret dX3_kindOf_86 ⟨by simp [f_kd, *], rfl⟩
  by_cases c1_3 : c = 102
  · refine x_tableIn (off := 83) (tgt := 84) dX3_kindOf_1 (by rw [c1_3]; decide) (by rw [c1_3]; decide) (by rw [c1_3]; decide) (by decide) ?_
    refine x_bipush (v := -9) dX3_kindOf_84 (by decide) ?_
    exact x_iret dX3_kindOf_86 ⟨by simp [f_kd, *], rfl⟩
  by_cases c1_4 : c = 103
  · refine x_tableIn (off := 79) (tgt := 80) dX3_kindOf_1 (by rw [c1_4]; decide) (by rw [c1_4]; decide) (by rw [c1_4]; decide) (by decide) ?_
    refine x_iconst (v := 4) dX3_kindOf_80 (by decide) ?_
    exact x_iret dX3_kindOf_81 ⟨by simp [f_kd, *], rfl⟩
  by_cases c1_5 : c = 104
  · refine x_tableIn (off := 71) (tgt := 72) dX3_kindOf_1 (by rw [c1_5]; decide) (by rw [c1_5]; decide) (by rw [c1_5]; decide) (by decide) ?_
    refine x_iconst (v := 0) dX3_kindOf_72 (by decide) ?_
    exact x_iret dX3_kindOf_73 ⟨by simp [f_kd, *], rfl⟩
  by_cases c1_6 : c = 105
  · refine x_tableIn (off := 77) (tgt := 78) dX3_kindOf_1 (by rw [c1_6]; decide) (by rw [c1_6]; decide) (by rw [c1_6]; decide) (by decide) ?_
    refine x_iconst (v := 3) dX3_kindOf_78 (by decide) ?_
    exact x_iret dX3_kindOf_79 ⟨by simp [f_kd, *], rfl⟩
  by_cases c1_7 : c = 106
  · refine x_tableIn (off := 83) (tgt := 84) dX3_kindOf_1 (by rw [c1_7]; decide) (by rw [c1_7]; decide) (by rw [c1_7]; decide) (by decide) ?_
    refine x_bipush (v := -9) dX3_kindOf_84 (by decide) ?_
    exact x_iret dX3_kindOf_86 ⟨by simp [f_kd, *], rfl⟩
  by_cases c1_8 : c = 107
  · refine x_tableIn (off := 83) (tgt := 84) dX3_kindOf_1 (by rw [c1_8]; decide) (by rw [c1_8]; decide) (by rw [c1_8]; decide) (by decide) ?_
    refine x_bipush (v := -9) dX3_kindOf_84 (by decide) ?_
    exact x_iret dX3_kindOf_86 ⟨by simp [f_kd, *], rfl⟩
  by_cases c1_9 : c = 108
  · refine x_tableIn (off := 83) (tgt := 84) dX3_kindOf_1 (by rw [c1_9]; decide) (by rw [c1_9]; decide) (by rw [c1_9]; decide) (by decide) ?_
    refine x_bipush (v := -9) dX3_kindOf_84 (by decide) ?_
    exact x_iret dX3_kindOf_86 ⟨by simp [f_kd, *], rfl⟩
  by_cases c1_10 : c = 109
  · refine x_tableIn (off := 75) (tgt := 76) dX3_kindOf_1 (by rw [c1_10]; decide) (by rw [c1_10]; decide) (by rw [c1_10]; decide) (by decide) ?_
    refine x_iconst (v := 2) dX3_kindOf_76 (by decide) ?_
    exact x_iret dX3_kindOf_77 ⟨by simp [f_kd, *], rfl⟩
  by_cases c1_11 : c = 110
  · refine x_tableIn (off := 83) (tgt := 84) dX3_kindOf_1 (by rw [c1_11]; decide) (by rw [c1_11]; decide) (by rw [c1_11]; decide) (by decide) ?_
    refine x_bipush (v := -9) dX3_kindOf_84 (by decide) ?_
    exact x_iret dX3_kindOf_86 ⟨by simp [f_kd, *], rfl⟩
  by_cases c1_12 : c = 111
  · refine x_tableIn (off := 83) (tgt := 84) dX3_kindOf_1 (by rw [c1_12]; decide) (by rw [c1_12]; decide) (by rw [c1_12]; decide) (by decide) ?_
    refine x_bipush (v := -9) dX3_kindOf_84 (by decide) ?_
    exact x_iret dX3_kindOf_86 ⟨by simp [f_kd, *], rfl⟩
  by_cases c1_13 : c = 112
  · refine x_tableIn (off := 73) (tgt := 74) dX3_kindOf_1 (by rw [c1_13]; decide) (by rw [c1_13]; decide) (by rw [c1_13]; decide) (by decide) ?_
    refine x_iconst (v := 1) dX3_kindOf_74 (by decide) ?_
    exact x_iret dX3_kindOf_75 ⟨by simp [f_kd, *], rfl⟩
  have hsw1 : (c).toInt < 99 ∨ 112 < (c).toInt := by
    have q_c1_0 := lv_neT c1_0 (show (99 : Int32).toInt = 99 from rfl)
    have q_c1_1 := lv_neT c1_1 (show (100 : Int32).toInt = 100 from rfl)
    have q_c1_2 := lv_neT c1_2 (show (101 : Int32).toInt = 101 from rfl)
    have q_c1_3 := lv_neT c1_3 (show (102 : Int32).toInt = 102 from rfl)
    have q_c1_4 := lv_neT c1_4 (show (103 : Int32).toInt = 103 from rfl)
    have q_c1_5 := lv_neT c1_5 (show (104 : Int32).toInt = 104 from rfl)
    have q_c1_6 := lv_neT c1_6 (show (105 : Int32).toInt = 105 from rfl)
    have q_c1_7 := lv_neT c1_7 (show (106 : Int32).toInt = 106 from rfl)
    have q_c1_8 := lv_neT c1_8 (show (107 : Int32).toInt = 107 from rfl)
    have q_c1_9 := lv_neT c1_9 (show (108 : Int32).toInt = 108 from rfl)
    have q_c1_10 := lv_neT c1_10 (show (109 : Int32).toInt = 109 from rfl)
    have q_c1_11 := lv_neT c1_11 (show (110 : Int32).toInt = 110 from rfl)
    have q_c1_12 := lv_neT c1_12 (show (111 : Int32).toInt = 111 from rfl)
    have q_c1_13 := lv_neT c1_13 (show (112 : Int32).toInt = 112 from rfl)
    omega
  refine x_tableOut (tgt := 84) dX3_kindOf_1 hsw1 (by decide) ?_
  refine x_bipush (v := -9) dX3_kindOf_84 (by decide) ?_
  exact x_iret dX3_kindOf_86 ⟨by simp [f_kd, *], rfl⟩

set_option maxHeartbeats 4000000 in
theorem qX3_waitsBehindFirst {E : mx_E} {σ : Mem} (c : Int32) : MX3_waitsBehindFirst E 0 [.int c] σ (mx_ie (f_w1 c) σ) := by
  refine MM.of (lv := [(0, .int c)]) kpX3 rfl (Nat.le_of_ble_eq_true rfl) rfl ?_
  refine x_iload_n 0 dX3_waitsBehindFirst_0 rfl ?_
  by_cases c1_0 : c = 99
  · refine x_tableIn (off := 106) (tgt := 107) dX3_waitsBehindFirst_1 (by rw [c1_0]; decide) (by rw [c1_0]; decide) (by rw [c1_0]; decide) (by decide) ?_
    refine x_iconst (v := 3) dX3_waitsBehindFirst_107 (by decide) ?_
    exact x_iret dX3_waitsBehindFirst_108 ⟨by simp [f_w1, *], rfl⟩
  by_cases c1_1 : c = 100
  · refine x_tableIn (off := 106) (tgt := 107) dX3_waitsBehindFirst_1 (by rw [c1_1]; decide) (by rw [c1_1]; decide) (by rw [c1_1]; decide) (by decide) ?_
    refine x_iconst (v := 3) dX3_waitsBehindFirst_107 (by decide) ?_
    exact x_iret dX3_waitsBehindFirst_108 ⟨by simp [f_w1, *], rfl⟩
  by_cases c1_2 : c = 101
  · refine x_tableIn (off := 112) (tgt := 113) dX3_waitsBehindFirst_1 (by rw [c1_2]; decide) (by rw [c1_2]; decide) (by rw [c1_2]; decide) (by decide) ?_
    refine x_bipush (v := -3) dX3_waitsBehindFirst_113 (by decide) ?_
    exact x_iret dX3_waitsBehindFirst_115 ⟨by simp [f_w1, *], rfl⟩
  by_cases c1_3 : c = 102
  · refine x_tableIn (off := 112) (tgt := 113) dX3_waitsBehindFirst_1 (by rw [c1_3]; decide) (by rw [c1_3]; decide) (by rw [c1_3]; decide) (by decide) ?_
    refine x_bipush (v := -3) dX3_waitsBehindFirst_113 (by decide) ?_
    exact x_iret dX3_waitsBehindFirst_115 ⟨by simp [f_w1, *], rfl⟩
  by_cases c1_4 : c = 103
  · refine x_tableIn (off := 112) (tgt := 113) dX3_waitsBehindFirst_1 (by rw [c1_4]; decide) (by rw [c1_4]; decide) (by rw [c1_4]; decide) (by decide) ?_
    refine x_bipush (v := -3) dX3_waitsBehindFirst_113 (by decide) ?_
    exact x_iret dX3_waitsBehindFirst_115 ⟨by simp [f_w1, *], rfl⟩
  by_cases c1_5 : c = 104
  · refine x_tableIn (off := 103) (tgt := 104) dX3_waitsBehindFirst_1 (by rw [c1_5]; decide) (by rw [c1_5]; decide) (by rw [c1_5]; decide) (by decide) ?_
    refine x_bipush (v := -2) dX3_waitsBehindFirst_104 (by decide) ?_
    exact x_iret dX3_waitsBehindFirst_106 ⟨by simp [f_w1, *], rfl⟩
  by_cases c1_6 : c = 105
  · refine x_tableIn (off := 110) (tgt := 111) dX3_waitsBehindFirst_1 (by rw [c1_6]; decide) (by rw [c1_6]; decide) (by rw [c1_6]; decide) (by decide) ?_
    refine x_iconst (v := 1) dX3_waitsBehindFirst_111 (by decide) ?_
    exact x_iret dX3_waitsBehindFirst_112 ⟨by simp [f_w1, *], rfl⟩
  by_cases c1_7 : c = 106
  · refine x_tableIn (off := 112) (tgt := 113) dX3_waitsBehindFirst_1 (by rw [c1_7]; decide) (by rw [c1_7]; decide) (by rw [c1_7]; decide) (by decide) ?_
    refine x_bipush (v := -3) dX3_waitsBehindFirst_113 (by decide) ?_
    exact x_iret dX3_waitsBehindFirst_115 ⟨by simp [f_w1, *], rfl⟩
  by_cases c1_8 : c = 107
  · refine x_tableIn (off := 112) (tgt := 113) dX3_waitsBehindFirst_1 (by rw [c1_8]; decide) (by rw [c1_8]; decide) (by rw [c1_8]; decide) (by decide) ?_
    refine x_bipush (v := -3) dX3_waitsBehindFirst_113 (by decide) ?_
    exact x_iret dX3_waitsBehindFirst_115 ⟨by simp [f_w1, *], rfl⟩
  by_cases c1_9 : c = 108
  · refine x_tableIn (off := 112) (tgt := 113) dX3_waitsBehindFirst_1 (by rw [c1_9]; decide) (by rw [c1_9]; decide) (by rw [c1_9]; decide) (by decide) ?_
    refine x_bipush (v := -3) dX3_waitsBehindFirst_113 (by decide) ?_
    exact x_iret dX3_waitsBehindFirst_115 ⟨by simp [f_w1, *], rfl⟩
  by_cases c1_10 : c = 109
  · refine x_tableIn (off := 112) (tgt := 113) dX3_waitsBehindFirst_1 (by rw [c1_10]; decide) (by rw [c1_10]; decide) (by rw [c1_10]; decide) (by decide) ?_
    refine x_bipush (v := -3) dX3_waitsBehindFirst_113 (by decide) ?_
    exact x_iret dX3_waitsBehindFirst_115 ⟨by simp [f_w1, *], rfl⟩
  by_cases c1_11 : c = 110
  · refine x_tableIn (off := 112) (tgt := 113) dX3_waitsBehindFirst_1 (by rw [c1_11]; decide) (by rw [c1_11]; decide) (by rw [c1_11]; decide) (by decide) ?_
    refine x_bipush (v := -3) dX3_waitsBehindFirst_113 (by decide) ?_
    exact x_iret dX3_waitsBehindFirst_115 ⟨by simp [f_w1, *], rfl⟩
  by_cases c1_12 : c = 111
  · refine x_tableIn (off := 112) (tgt := 113) dX3_waitsBehindFirst_1 (by rw [c1_12]; decide) (by rw [c1_12]; decide) (by rw [c1_12]; decide) (by decide) ?_
    refine x_bipush (v := -3) dX3_waitsBehindFirst_113 (by decide) ?_
    exact x_iret dX3_waitsBehindFirst_115 ⟨by simp [f_w1, *], rfl⟩
  by_cases c1_13 : c = 112
  · refine x_tableIn (off := 106) (tgt := 107) dX3_waitsBehindFirst_1 (by rw [c1_13]; decide) (by rw [c1_13]; decide) (by rw [c1_13]; decide) (by decide) ?_
    refine x_iconst (v := 3) dX3_waitsBehindFirst_107 (by decide) ?_
    exact x_iret dX3_waitsBehindFirst_108 ⟨by simp [f_w1, *], rfl⟩
  by_cases c1_14 : c = 113
  · refine x_tableIn (off := 112) (tgt := 113) dX3_waitsBehindFirst_1 (by rw [c1_14]; decide) (by rw [c1_14]; decide) (by rw [c1_14]; decide) (by decide) ?_
    refine x_bipush (v := -3) dX3_waitsBehindFirst_113 (by decide) ?_
    exact x_iret dX3_waitsBehindFirst_115 ⟨by simp [f_w1, *], rfl⟩
  by_cases c1_15 : c = 114
  · refine x_tableIn (off := 112) (tgt := 113) dX3_waitsBehindFirst_1 (by rw [c1_15]; decide) (by rw [c1_15]; decide) (by rw [c1_15]; decide) (by decide) ?_
    refine x_bipush (v := -3) dX3_waitsBehindFirst_113 (by decide) ?_
    exact x_iret dX3_waitsBehindFirst_115 ⟨by simp [f_w1, *], rfl⟩
  by_cases c1_16 : c = 115
  · refine x_tableIn (off := 112) (tgt := 113) dX3_waitsBehindFirst_1 (by rw [c1_16]; decide) (by rw [c1_16]; decide) (by rw [c1_16]; decide) (by decide) ?_
    refine x_bipush (v := -3) dX3_waitsBehindFirst_113 (by decide) ?_
    exact x_iret dX3_waitsBehindFirst_115 ⟨by simp [f_w1, *], rfl⟩
  by_cases c1_17 : c = 116
  · refine x_tableIn (off := 112) (tgt := 113) dX3_waitsBehindFirst_1 (by rw [c1_17]; decide) (by rw [c1_17]; decide) (by rw [c1_17]; decide) (by decide) ?_
    refine x_bipush (v := -3) dX3_waitsBehindFirst_113 (by decide) ?_
    exact x_iret dX3_waitsBehindFirst_115 ⟨by simp [f_w1, *], rfl⟩
  by_cases c1_18 : c = 117
  · refine x_tableIn (off := 112) (tgt := 113) dX3_waitsBehindFirst_1 (by rw [c1_18]; decide) (by rw [c1_18]; decide) (by rw [c1_18]; decide) (by decide) ?_
    refine x_bipush (v := -3) dX3_waitsBehindFirst_113 (by decide) ?_
    exact x_iret dX3_waitsBehindFirst_115 ⟨by simp [f_w1, *], rfl⟩
  by_cases c1_19 : c = 118
  · refine x_tableIn (off := 112) (tgt := 113) dX3_waitsBehindFirst_1 (by rw [c1_19]; decide) (by rw [c1_19]; decide) (by rw [c1_19]; decide) (by decide) ?_
    refine x_bipush (v := -3) dX3_waitsBehindFirst_113 (by decide) ?_
    exact x_iret dX3_waitsBehindFirst_115 ⟨by simp [f_w1, *], rfl⟩
  by_cases c1_20 : c = 119
  · refine x_tableIn (off := 108) (tgt := 109) dX3_waitsBehindFirst_1 (by rw [c1_20]; decide) (by rw [c1_20]; decide) (by rw [c1_20]; decide) (by decide) ?_
    refine x_iconst (v := 2) dX3_waitsBehindFirst_109 (by decide) ?_
    exact x_iret dX3_waitsBehindFirst_110 ⟨by simp [f_w1, *], rfl⟩
  by_cases c1_21 : c = 120
  · refine x_tableIn (off := 110) (tgt := 111) dX3_waitsBehindFirst_1 (by rw [c1_21]; decide) (by rw [c1_21]; decide) (by rw [c1_21]; decide) (by decide) ?_
    refine x_iconst (v := 1) dX3_waitsBehindFirst_111 (by decide) ?_
    exact x_iret dX3_waitsBehindFirst_112 ⟨by simp [f_w1, *], rfl⟩
  have hsw1 : (c).toInt < 99 ∨ 120 < (c).toInt := by
    have q_c1_0 := lv_neT c1_0 (show (99 : Int32).toInt = 99 from rfl)
    have q_c1_1 := lv_neT c1_1 (show (100 : Int32).toInt = 100 from rfl)
    have q_c1_2 := lv_neT c1_2 (show (101 : Int32).toInt = 101 from rfl)
    have q_c1_3 := lv_neT c1_3 (show (102 : Int32).toInt = 102 from rfl)
    have q_c1_4 := lv_neT c1_4 (show (103 : Int32).toInt = 103 from rfl)
    have q_c1_5 := lv_neT c1_5 (show (104 : Int32).toInt = 104 from rfl)
    have q_c1_6 := lv_neT c1_6 (show (105 : Int32).toInt = 105 from rfl)
    have q_c1_7 := lv_neT c1_7 (show (106 : Int32).toInt = 106 from rfl)
    have q_c1_8 := lv_neT c1_8 (show (107 : Int32).toInt = 107 from rfl)
    have q_c1_9 := lv_neT c1_9 (show (108 : Int32).toInt = 108 from rfl)
    have q_c1_10 := lv_neT c1_10 (show (109 : Int32).toInt = 109 from rfl)
    have q_c1_11 := lv_neT c1_11 (show (110 : Int32).toInt = 110 from rfl)
    have q_c1_12 := lv_neT c1_12 (show (111 : Int32).toInt = 111 from rfl)
    have q_c1_13 := lv_neT c1_13 (show (112 : Int32).toInt = 112 from rfl)
    have q_c1_14 := lv_neT c1_14 (show (113 : Int32).toInt = 113 from rfl)
    have q_c1_15 := lv_neT c1_15 (show (114 : Int32).toInt = 114 from rfl)
    have q_c1_16 := lv_neT c1_16 (show (115 : Int32).toInt = 115 from rfl)
    have q_c1_17 := lv_neT c1_17 (show (116 : Int32).toInt = 116 from rfl)
    have q_c1_18 := lv_neT c1_18 (show (117 : Int32).toInt = 117 from rfl)
    have q_c1_19 := lv_neT c1_19 (show (118 : Int32).toInt = 118 from rfl)
    have q_c1_20 := lv_neT c1_20 (show (119 : Int32).toInt = 119 from rfl)
    have q_c1_21 := lv_neT c1_21 (show (120 : Int32).toInt = 120 from rfl)
    omega
  refine x_tableOut (tgt := 113) dX3_waitsBehindFirst_1 hsw1 (by decide) ?_
  refine x_bipush (v := -3) dX3_waitsBehindFirst_113 (by decide) ?_
  exact x_iret dX3_waitsBehindFirst_115 ⟨by simp [f_w1, *], rfl⟩

set_option maxHeartbeats 4000000 in
theorem qX3_waitsBehind {E : mx_E} {σ : Mem} (w c : Int32) : MX3_waitsBehind E 1 [.int w, .int c] σ (mx_ie (f_ws w c) σ) := by
  refine MM.of (lv := [(0, .int w), (1, .int c)]) kpX3 rfl (Nat.le_of_ble_eq_true rfl) rfl ?_
  refine x_iload_n 0 dX3_waitsBehind_0 rfl ?_
  refine x_iconst (v := -1) dX3_waitsBehind_1 (by decide) ?_
  refine x_icmp_ne dX3_waitsBehind_2 (fun c2 => ?_) (fun c2 => ?_)
  · refine x_iload_n 0 dX3_waitsBehind_10 rfl ?_
    refine x_bipush (v := -2) dX3_waitsBehind_11 (by decide) ?_
    refine x_icmp_ne dX3_waitsBehind_13 (fun c13 => ?_) (fun c13 => ?_)
    · refine x_iload_n 0 dX3_waitsBehind_32 rfl ?_
      refine x_if_ne dX3_waitsBehind_33 (fun c33 => ?_) (fun c33 => ?_)
      · refine x_iload_n 1 dX3_waitsBehind_49 rfl ?_
        refine x_bipush (v := 48) dX3_waitsBehind_50 (by decide) ?_
        refine x_icmp_lt dX3_waitsBehind_52 (fun c52 => ?_) (fun c52 => ?_)
        · refine x_bipush (v := -3) dX3_waitsBehind_67 (by decide) ?_
          exact x_iret dX3_waitsBehind_69 ⟨by simp [f_ws, f_in, c2, c13, c33, c52, (Int32.not_le.mpr c52)], rfl⟩
        · refine x_iload_n 1 dX3_waitsBehind_55 rfl ?_
          refine x_bipush (v := 57) dX3_waitsBehind_56 (by decide) ?_
          refine x_icmp_gt dX3_waitsBehind_58 (fun c58 => ?_) (fun c58 => ?_)
          · refine x_bipush (v := -3) dX3_waitsBehind_67 (by decide) ?_
            exact x_iret dX3_waitsBehind_69 ⟨by simp [f_ws, f_in, c2, c13, c33, c52, (Int32.not_lt.mp c52), c58, (Int32.not_le.mpr c58)], rfl⟩
          · refine x_iload_n 0 dX3_waitsBehind_61 rfl ?_
            refine x_iconst (v := 1) dX3_waitsBehind_62 (by decide) ?_
            refine x_isub dX3_waitsBehind_63 ?_
            refine x_goto dX3_waitsBehind_64 ?_
            exact x_iret dX3_waitsBehind_69 ⟨by simp [f_ws, f_in, c2, c13, c33, c52, (Int32.not_lt.mp c52), c58, (Int32.not_lt.mp c58)], rfl⟩
      · refine x_iload_n 1 dX3_waitsBehind_36 rfl ?_
        refine x_bipush (v := 59) dX3_waitsBehind_37 (by decide) ?_
        refine x_icmp_ne dX3_waitsBehind_39 (fun c39 => ?_) (fun c39 => ?_)
        · refine x_bipush (v := -3) dX3_waitsBehind_46 (by decide) ?_
          exact x_iret dX3_waitsBehind_48 ⟨by simp [f_ws, f_in, c2, c13, c33, c39], rfl⟩
        · refine x_iconst (v := -1) dX3_waitsBehind_42 (by decide) ?_
          refine x_goto dX3_waitsBehind_43 ?_
          exact x_iret dX3_waitsBehind_48 ⟨by simp [f_ws, f_in, c2, c13, c33, c39], rfl⟩
    · refine x_iload_n 1 dX3_waitsBehind_16 rfl ?_
      refine clX3_91 (qX3_kindOf c) (by decide) rfl dX3_waitsBehind_17 (fun r17 τ17 h17 => ?_)
      obtain ⟨rfl, rfl⟩ := h17
      refine x_bipush (v := -9) dX3_waitsBehind_20 (by decide) ?_
      refine x_icmp_ne dX3_waitsBehind_22 (fun c22 => ?_) (fun c22 => ?_)
      · refine x_iconst (v := 4) dX3_waitsBehind_30 (by decide) ?_
        exact x_iret dX3_waitsBehind_31 ⟨by simp [f_ws, f_in, c2, c13, c22], rfl⟩
      · refine x_bipush (v := -3) dX3_waitsBehind_25 (by decide) ?_
        refine x_goto dX3_waitsBehind_27 ?_
        exact x_iret dX3_waitsBehind_31 ⟨by simp [f_ws, f_in, c2, c13, c22], rfl⟩
  · refine x_iload_n 1 dX3_waitsBehind_5 rfl ?_
    refine clX3_88 (qX3_waitsBehindFirst c) (by decide) rfl dX3_waitsBehind_6 (fun r6 τ6 h6 => ?_)
    obtain ⟨rfl, rfl⟩ := h6
    exact x_iret dX3_waitsBehind_9 ⟨by simp [f_ws, f_in, c2], rfl⟩

set_option maxHeartbeats 4000000 in
theorem qX3_brokenPlace {E : mx_E} {σ : Mem} {L : Row} {lm : Nat} (hlm : lm ≤ 96) (hz2 : σ 28 1 = nI lm) (hL : ∀ j, j < lm → σ 31 j = L j)  : MX3_brokenPlace E 2 [mx_rf E 0] σ (mx_ie (f_o9 (f_brk L lm)) σ) := by
  refine MM.of (lv := [(0, mx_rf E 0)]) kpX3 rfl (Nat.le_of_ble_eq_true rfl) rfl ?_
  refine x_iconst (v := -1) dX3_brokenPlace_0 (by decide) ?_
  refine x_istore_n (lv' := [(1, .int (-1)), (0, mx_rf E 0)]) dX3_brokenPlace_1 rfl (by decide) rfl ?_
  refine x_iconst (v := 0) dX3_brokenPlace_2 (by decide) ?_
  refine x_istore_n (lv' := [(2, .int 0), (1, .int (-1)), (0, mx_rf E 0)]) dX3_brokenPlace_3 rfl (by decide) rfl ?_
  have key4 : ∀ i, i ≤ lm → ∀ w : Int32, f_scan L lm (lm - i) i w = f_scan L lm lm 0 (-1) → MX E 2 RX3 cX3_brokenPlace 3 (some .int) 4 [(2, .int (nI i)), (1, .int w), (0, mx_rf E 0)] [] σ (mx_ie (f_o9 (f_brk L lm)) σ) := by
    refine mx_ind lm (fun i hi4 ih4 => ?_)
    intro w hg
    refine x_iload_n 0 dX3_brokenPlace_4 rfl ?_
    refine x_aload_n 2 dX3_brokenPlace_5 rfl ?_
    refine gfX3_31 dX3_brokenPlace_6 ?_
    refine gfX3_60 (by decide) (by decide) dX3_brokenPlace_9 ?_
    refine x_top (show σ 28 1 = nI lm from hz2) ?_
    refine x_icmp_ge dX3_brokenPlace_12 (fun c12 => ?_) (fun c12 => ?_)
    · have hge := nI_le_of (by omega) (by omega) c12
      have hB := f_scanE hge hg
      refine x_iload_n 1 dX3_brokenPlace_42 rfl ?_
      refine x_iconst (v := -1) dX3_brokenPlace_43 (by decide) ?_
      refine x_icmp_ne dX3_brokenPlace_44 (fun c44 => ?_) (fun c44 => ?_)
      · rw [if_neg c44] at hB
        refine x_iconst (v := 0) dX3_brokenPlace_61 (by decide) ?_
        refine x_istore_n (lv' := [(2, .int 0), (1, .int w), (0, mx_rf E 0)]) dX3_brokenPlace_62 rfl (by decide) rfl ?_
        refine x_iload_n 0 dX3_brokenPlace_63 rfl ?_
        refine x_if_eq dX3_brokenPlace_64 (fun _ => ?_) (fun c => absurd c (by decide))
        refine x_aload_n 2 dX3_brokenPlace_72 rfl ?_
        refine gfX3_31 dX3_brokenPlace_73 ?_
        refine gfX3_60 (by decide) (by decide) dX3_brokenPlace_76 ?_
        refine x_top (show σ 28 1 = nI lm from hz2) ?_
        exact x_iret dX3_brokenPlace_79 ⟨by rcases Nat.eq_zero_or_pos lm with q | q; (rw [q]; rfl); first | exact f_brk_1 q (by rw [hB]; rfl) | omega, rfl⟩
      · rw [if_pos c44] at hB
        refine x_aload_n 2 dX3_brokenPlace_47 rfl ?_
        refine gfX3_31 dX3_brokenPlace_48 ?_
        refine gfX3_60 (by decide) (by decide) dX3_brokenPlace_51 ?_
        refine x_top (show σ 28 1 = nI lm from hz2) ?_
        refine x_if_le dX3_brokenPlace_54 (fun c54 => ?_) (fun c54 => ?_)
        · have hl0 : lm = 0 := Nat.le_zero.mp ((nI_leI (b := 0) (by omega) (by decide)).mp c54)
          refine x_iconst (v := 0) dX3_brokenPlace_61 (by decide) ?_
          refine x_istore_n (lv' := [(2, .int 0), (1, .int w), (0, mx_rf E 0)]) dX3_brokenPlace_62 rfl (by decide) rfl ?_
          refine x_iload_n 0 dX3_brokenPlace_63 rfl ?_
          refine x_if_eq dX3_brokenPlace_64 (fun _ => ?_) (fun c => absurd c (by decide))
          refine x_aload_n 2 dX3_brokenPlace_72 rfl ?_
          refine gfX3_31 dX3_brokenPlace_73 ?_
          refine gfX3_60 (by decide) (by decide) dX3_brokenPlace_76 ?_
          refine x_top (show σ 28 1 = nI lm from hz2) ?_
          exact x_iret dX3_brokenPlace_79 ⟨by rcases Nat.eq_zero_or_pos lm with q | q; (rw [q]; rfl); first | exact f_brk_1 q (by rw [hB]; rfl) | omega, rfl⟩
        · have hl0 : 0 < lm := (nI_ltI (a := 0) (by decide) (by omega)).mp (Int32.not_le.mp c54)
          refine x_iconst (v := 1) dX3_brokenPlace_57 (by decide) ?_
          refine x_goto dX3_brokenPlace_58 ?_
          refine x_istore_n (lv' := [(2, .int 1), (1, .int w), (0, mx_rf E 0)]) dX3_brokenPlace_62 rfl (by decide) rfl ?_
          refine x_iload_n 0 dX3_brokenPlace_63 rfl ?_
          refine x_if_eq dX3_brokenPlace_64 (fun c => absurd c (by decide)) (fun _ => ?_)
          refine x_bipush (v := -9) dX3_brokenPlace_67 (by decide) ?_
          refine x_goto dX3_brokenPlace_69 ?_
          exact x_iret dX3_brokenPlace_79 ⟨f_brk_1 (by omega) (by rw [hB]; rfl), rfl⟩
    · have hlt := nI_lt_of (by omega) (by omega) c12
      refine x_iload_n 1 dX3_brokenPlace_15 rfl ?_
      refine x_aload_n 2 dX3_brokenPlace_16 rfl ?_
      refine gfX3_31 dX3_brokenPlace_17 ?_
      refine x_iload_n 0 dX3_brokenPlace_20 rfl ?_
      refine clX3_77 (qX1_at (k := 28) (by decide) (by decide) lm hlm hz2 i hlt) (by decide) (by decide) (by decide) rfl dX3_brokenPlace_21 (fun r21 τ21 h21 => ?_)
      obtain ⟨rfl, rfl⟩ := h21
      refine x_top (show σ (28 + 3) i = L i from hL i hlt) ?_
      refine clX3_84 (qX3_waitsBehind w (L i)) (by decide) rfl dX3_brokenPlace_24 (fun r24 τ24 h24 => ?_)
      obtain ⟨rfl, rfl⟩ := h24
      refine x_istore_n (lv' := [(1, .int (f_ws w (L i))), (2, .int (nI i)), (0, mx_rf E 0)]) dX3_brokenPlace_27 rfl (by decide) rfl ?_
      refine x_iload_n 0 dX3_brokenPlace_28 rfl ?_
      refine x_bipush (v := -3) dX3_brokenPlace_29 (by decide) ?_
      refine x_icmp_ne dX3_brokenPlace_31 (fun c31 => ?_) (fun c31 => ?_)
      · refine x_iinc (v := nI (i + 1)) (lv' := [(2, .int (nI (i + 1))), (1, .int (f_ws w (L i))), (0, mx_rf E 0)]) 1 dX3_brokenPlace_36 rfl (nI_1 _) (by decide) rfl ?_
        refine x_goto dX3_brokenPlace_39 ?_
        exact ih4 (i + 1) (by omega) (by omega) _ (f_scanT hlt hg c31)
      · have hB := f_scanF hlt hg c31
        refine x_iload_n 1 dX3_brokenPlace_34 rfl ?_
        exact x_iret dX3_brokenPlace_35 ⟨f_brk_1 (by omega) (by rw [hB]; rfl), rfl⟩
  exact key4 0 (Nat.zero_le _) _ rfl

set_option maxHeartbeats 4000000 in
theorem qX3_number {E : mx_E} {σ : Mem} {L : Row} {lm : Nat} (hlm : lm ≤ 96) (hz2 : σ 28 1 = nI lm) (hL : ∀ j, j < lm → σ 31 j = L j) (p d : Nat) (hpd : p + d ≤ lm) : MX3_number E 1 [mx_rf E 0, .int (nI p), .int (nI d)] σ (mx_ie (f_num L p d) σ) := by
  refine MM.of (lv := [(0, mx_rf E 0), (1, .int (nI p)), (2, .int (nI d))]) kpX3 rfl (Nat.le_of_ble_eq_true rfl) rfl ?_
  refine x_iconst (v := 0) dX3_number_0 (by decide) ?_
  refine x_istore_n (lv' := [(3, .int 0), (0, mx_rf E 0), (1, .int (nI p)), (2, .int (nI d))]) dX3_number_1 rfl (by decide) rfl ?_
  refine x_iconst (v := 0) dX3_number_2 (by decide) ?_
  refine x_istore (lv' := [(4, .int 0), (3, .int 0), (0, mx_rf E 0), (1, .int (nI p)), (2, .int (nI d))]) dX3_number_3 rfl (by decide) rfl ?_
  have key5 : ∀ i, i ≤ d → MX E 1 RX3 cX3_number 5 (some .int) 5 [(4, .int (nI i)), (3, .int (f_num L p i)), (0, mx_rf E 0), (1, .int (nI p)), (2, .int (nI d))] [] σ (mx_ie (f_num L p d) σ) := by
    refine mx_ind d (fun i hi5 ih5 => ?_)
    refine x_iload 0 dX3_number_5 rfl ?_
    refine x_iload_n 4 dX3_number_7 rfl ?_
    refine x_icmp_ge dX3_number_8 (fun c8 => ?_) (fun c8 => ?_)
    · have hge := nI_le_of (by omega) (by omega) c8
      have hid : i = d := by omega
      refine x_iload_n 1 dX3_number_37 rfl ?_
      exact x_iret dX3_number_38 ⟨by rw [hid], rfl⟩
    · have hlt := nI_lt_of (by omega) (by omega) c8
      refine x_iload_n 1 dX3_number_11 rfl ?_
      refine x_bipush (v := 10) dX3_number_12 (by decide) ?_
      refine x_imul dX3_number_14 ?_
      refine x_aload_n 2 dX3_number_15 rfl ?_
      refine gfX3_31 dX3_number_16 ?_
      refine x_iload_n 3 dX3_number_19 rfl ?_
      refine x_iload 0 dX3_number_20 rfl ?_
      refine x_iadd dX3_number_22 ?_
      refine x_top (show (nI p) + (nI i) = nI (p + i) from nI_add p i) ?_
      refine clX3_77 (qX1_at (k := 28) (by decide) (by decide) lm hlm hz2 (p + i) (show p + i < lm by omega)) (by decide) (by decide) (by decide) rfl dX3_number_23 (fun r23 τ23 h23 => ?_)
      obtain ⟨rfl, rfl⟩ := h23
      refine x_top (show σ (28 + 3) (p + i) = L (p + i) from hL (p + i) (show p + i < lm by omega)) ?_
      refine x_iadd dX3_number_26 ?_
      refine x_bipush (v := 48) dX3_number_27 (by decide) ?_
      refine x_isub dX3_number_29 ?_
      refine x_top (show (((f_num L p i) * 10) + (L (p + i))) - 48 = f_num L p (i + 1) from rfl) ?_
      refine x_istore_n (lv' := [(3, .int (f_num L p (i + 1))), (4, .int (nI i)), (0, mx_rf E 0), (1, .int (nI p)), (2, .int (nI d))]) dX3_number_30 rfl (by decide) rfl ?_
      refine x_iinc (v := nI (i + 1)) (lv' := [(4, .int (nI (i + 1))), (3, .int (f_num L p (i + 1))), (0, mx_rf E 0), (1, .int (nI p)), (2, .int (nI d))]) 1 dX3_number_31 rfl (nI_1 _) (by decide) rfl ?_
      refine x_goto dX3_number_34 ?_
      exact ih5 (i + 1) (by omega) (by omega)
  exact key5 0 (Nat.zero_le _)

set_option maxHeartbeats 4000000 in
theorem qX3_comesPeople {E : mx_E} {σ : Mem} {n : Nat} {r L : Row} {lm : Nat} (hN : NW σ) (hT2 : TI σ 2 n r) (hw : wf n r) (h5 : r 5 = 0) (hlm : lm ≤ 96) (hz2 : σ 28 1 = nI lm) (hL : ∀ j, j < lm → σ 31 j = L j) (p : Nat) (hg : f_gd L lm p) (hc : L p = 112) : MX3_comesPeople E 2 [mx_rf E 0, .int (nI p)] σ (mx_i (fun v τ => Sx (f_st n r L p) σ τ v)) := by
  refine MM.of (lv := [(0, mx_rf E 0), (1, .int (nI p))]) kpX3 rfl (Nat.le_of_ble_eq_true rfl) rfl ?_
  have hn6 := hw.1
  obtain ⟨hln, hdg⟩ := f_gd0 hg hc 0 3 (by decide) (by decide)
  obtain ⟨h, kh, eh⟩ := hdg 0 1 (by decide)
  replace eh : f_num L (p + 1) 1 = nI h := by rw [← eh]
  obtain ⟨u, ku, eu⟩ := hdg 1 2 (by decide)
  replace eu : f_num L (p + 2) 2 = nI u := by rw [← eu]
  have k10 : 10 ^ 1 = 10 := rfl
  have k100 : 10 ^ 2 = 100 := rfl
  have k1000 : 10 ^ 3 = 1000 := rfl
  refine x_aload_n 0 dX3_comesPeople_0 rfl ?_
  refine x_iload_n 1 dX3_comesPeople_1 rfl ?_
  refine x_iconst (v := 1) dX3_comesPeople_2 (by decide) ?_
  refine x_iadd dX3_comesPeople_3 ?_
  refine x_top (show (nI p) + 1 = nI (p + 1) from nI_add p 1) ?_
  refine x_iconst (v := 1) dX3_comesPeople_4 (by decide) ?_
  refine clX3_109 (qX3_number hlm hz2 hL (p + 1) 1 (by omega)) (by decide) rfl dX3_comesPeople_5 (fun r5 τ5 h5 => ?_)
  obtain ⟨rfl, rfl⟩ := h5
  refine x_top (show f_num L (p + 1) 1 = nI h from eh) ?_
  refine x_istore_n (lv' := [(2, .int (nI h)), (0, mx_rf E 0), (1, .int (nI p))]) dX3_comesPeople_8 rfl (by decide) rfl ?_
  refine x_aload_n 1 dX3_comesPeople_9 rfl ?_
  refine x_iload_n 2 dX3_comesPeople_10 rfl ?_
  refine x_iconst (v := 2) dX3_comesPeople_11 (by decide) ?_
  refine x_iadd dX3_comesPeople_12 ?_
  refine x_top (show (nI p) + 2 = nI (p + 2) from nI_add p 2) ?_
  refine x_iconst (v := 2) dX3_comesPeople_13 (by decide) ?_
  refine clX3_109 (qX3_number hlm hz2 hL (p + 2) 2 (by omega)) (by decide) rfl dX3_comesPeople_14 (fun r14 τ14 h14 => ?_)
  obtain ⟨rfl, rfl⟩ := h14
  refine x_top (show f_num L (p + 2) 2 = nI u from eu) ?_
  refine x_istore_n (lv' := [(3, .int (nI u)), (2, .int (nI h)), (0, mx_rf E 0), (1, .int (nI p))]) dX3_comesPeople_17 rfl (by decide) rfl ?_
  refine x_aload_n 2 dX3_comesPeople_18 rfl ?_
  refine gfX3_16 dX3_comesPeople_19 ?_
  refine x_iload_n 1 dX3_comesPeople_22 rfl ?_
  refine clX3_122 (qX2_has (by decide) (by decide) hT2.1 (nI h)) (by decide) (by decide) (by decide) rfl dX3_comesPeople_23 (fun r23 τ23 h23 => ?_)
  obtain ⟨rfl, rfl⟩ := h23
  refine x_if_eq dX3_comesPeople_26 (fun c26 => ?_) (fun c26 => ?_)
  · replace c26 := zb_0 c26
    refine x_iconst (v := 0) dX3_comesPeople_35 (by decide) ?_
    exact x_zret dX3_comesPeople_36 (by decide) (Sx.no (by simp [f_st, hc, c26, eh, eu, nI_clamp (show h < 2 ^ 31 by omega)]))
  · replace c26 := zb_1 c26
    have hh : h < n := f_inN_l (by omega) (by omega) c26
    refine x_iload_n 0 dX3_comesPeople_29 rfl ?_
    refine x_bipush (v := 30) dX3_comesPeople_30 (by decide) ?_
    refine x_icmp_le dX3_comesPeople_32 (fun c32 => ?_) (fun c32 => ?_)
    · refine x_aload_n 2 dX3_comesPeople_37 rfl ?_
      refine gfX3_16 dX3_comesPeople_38 ?_
      refine x_iload_n 1 dX3_comesPeople_41 rfl ?_
      refine clX3_125 (qX2_at (by decide) (by decide) hT2.1 hn6 hh) (by decide) (by decide) (by decide) rfl dX3_comesPeople_42 (fun r42 τ42 h42 => ?_)
      obtain ⟨rfl, rfl⟩ := h42
      refine x_iload_n 0 dX3_comesPeople_45 rfl ?_
      refine pfX3_128 (by omega) (by omega) dX3_comesPeople_46 ?_
      have hT46 : TI (mx_up σ (4 + 6 * 2 + h) 3 (nI u)) 2 n (upd r (6 + 6 * h + 3) (nI u)) := hT2.fld (by decide) hh (by decide)
      have hO46 : Off 2 σ (mx_up σ (4 + 6 * 2 + h) 3 (nI u)) := (Off.rf (t := 2)).up (inT_h (by omega))
      refine x_iconst (v := 1) dX3_comesPeople_49 (by decide) ?_
      exact x_zret dX3_comesPeople_50 (by decide) (Sx.ok (n := n) (r := (upd r (6 + 6 * h + 3) (nI u))) (by simp [f_st, hc, c26, c32, (Int32.not_lt.mpr c32), eh, eu, nI_clamp (show h < 2 ^ 31 by omega)]) hT46 hO46)
    · refine x_iconst (v := 0) dX3_comesPeople_35 (by decide) ?_
      exact x_zret dX3_comesPeople_36 (by decide) (Sx.no (by simp [f_st, hc, c26, c32, (Int32.not_le.mp c32), eh, eu, nI_clamp (show h < 2 ^ 31 by omega)]))

set_option maxHeartbeats 4000000 in
theorem qX3_comesDust {E : mx_E} {σ : Mem} {n : Nat} {r L : Row} {lm : Nat} (hN : NW σ) (hT2 : TI σ 2 n r) (hw : wf n r) (h5 : r 5 = 0) (hlm : lm ≤ 96) (hz2 : σ 28 1 = nI lm) (hL : ∀ j, j < lm → σ 31 j = L j) (p : Nat) (hg : f_gd L lm p) (hc : L p = 100) : MX3_comesDust E 2 [mx_rf E 0, .int (nI p)] σ (mx_i (fun v τ => Sx (f_st n r L p) σ τ v)) := by
  refine MM.of (lv := [(0, mx_rf E 0), (1, .int (nI p))]) kpX3 rfl (Nat.le_of_ble_eq_true rfl) rfl ?_
  have hn6 := hw.1
  obtain ⟨hln, hdg⟩ := f_gd0 hg hc 0 3 (by decide) (by decide)
  obtain ⟨h, kh, eh⟩ := hdg 0 1 (by decide)
  replace eh : f_num L (p + 1) 1 = nI h := by rw [← eh]
  obtain ⟨u, ku, eu⟩ := hdg 1 2 (by decide)
  replace eu : f_num L (p + 2) 2 = nI u := by rw [← eu]
  have k10 : 10 ^ 1 = 10 := rfl
  have k100 : 10 ^ 2 = 100 := rfl
  have k1000 : 10 ^ 3 = 1000 := rfl
  refine x_aload_n 0 dX3_comesDust_0 rfl ?_
  refine x_iload_n 1 dX3_comesDust_1 rfl ?_
  refine x_iconst (v := 1) dX3_comesDust_2 (by decide) ?_
  refine x_iadd dX3_comesDust_3 ?_
  refine x_top (show (nI p) + 1 = nI (p + 1) from nI_add p 1) ?_
  refine x_iconst (v := 1) dX3_comesDust_4 (by decide) ?_
  refine clX3_109 (qX3_number hlm hz2 hL (p + 1) 1 (by omega)) (by decide) rfl dX3_comesDust_5 (fun r5 τ5 h5 => ?_)
  obtain ⟨rfl, rfl⟩ := h5
  refine x_top (show f_num L (p + 1) 1 = nI h from eh) ?_
  refine x_istore_n (lv' := [(2, .int (nI h)), (0, mx_rf E 0), (1, .int (nI p))]) dX3_comesDust_8 rfl (by decide) rfl ?_
  refine x_aload_n 1 dX3_comesDust_9 rfl ?_
  refine x_iload_n 2 dX3_comesDust_10 rfl ?_
  refine x_iconst (v := 2) dX3_comesDust_11 (by decide) ?_
  refine x_iadd dX3_comesDust_12 ?_
  refine x_top (show (nI p) + 2 = nI (p + 2) from nI_add p 2) ?_
  refine x_iconst (v := 2) dX3_comesDust_13 (by decide) ?_
  refine clX3_109 (qX3_number hlm hz2 hL (p + 2) 2 (by omega)) (by decide) rfl dX3_comesDust_14 (fun r14 τ14 h14 => ?_)
  obtain ⟨rfl, rfl⟩ := h14
  refine x_top (show f_num L (p + 2) 2 = nI u from eu) ?_
  refine x_istore_n (lv' := [(3, .int (nI u)), (2, .int (nI h)), (0, mx_rf E 0), (1, .int (nI p))]) dX3_comesDust_17 rfl (by decide) rfl ?_
  refine x_aload_n 2 dX3_comesDust_18 rfl ?_
  refine gfX3_16 dX3_comesDust_19 ?_
  refine x_iload_n 1 dX3_comesDust_22 rfl ?_
  refine clX3_122 (qX2_has (by decide) (by decide) hT2.1 (nI h)) (by decide) (by decide) (by decide) rfl dX3_comesDust_23 (fun r23 τ23 h23 => ?_)
  obtain ⟨rfl, rfl⟩ := h23
  refine x_if_eq dX3_comesDust_26 (fun c26 => ?_) (fun c26 => ?_)
  · replace c26 := zb_0 c26
    refine x_iconst (v := 0) dX3_comesDust_35 (by decide) ?_
    exact x_zret dX3_comesDust_36 (by decide) (Sx.no (by simp [f_st, hc, c26, eh, eu, nI_clamp (show h < 2 ^ 31 by omega)]))
  · replace c26 := zb_1 c26
    have hh : h < n := f_inN_l (by omega) (by omega) c26
    refine x_iload_n 0 dX3_comesDust_29 rfl ?_
    refine x_bipush (v := 20) dX3_comesDust_30 (by decide) ?_
    refine x_icmp_le dX3_comesDust_32 (fun c32 => ?_) (fun c32 => ?_)
    · refine x_aload_n 2 dX3_comesDust_37 rfl ?_
      refine gfX3_16 dX3_comesDust_38 ?_
      refine x_iload_n 1 dX3_comesDust_41 rfl ?_
      refine clX3_125 (qX2_at (by decide) (by decide) hT2.1 hn6 hh) (by decide) (by decide) (by decide) rfl dX3_comesDust_42 (fun r42 τ42 h42 => ?_)
      obtain ⟨rfl, rfl⟩ := h42
      refine x_iload_n 0 dX3_comesDust_45 rfl ?_
      refine pfX3_133 (by omega) (by omega) dX3_comesDust_46 ?_
      have hT46 : TI (mx_up σ (4 + 6 * 2 + h) 4 (nI u)) 2 n (upd r (6 + 6 * h + 4) (nI u)) := hT2.fld (by decide) hh (by decide)
      have hO46 : Off 2 σ (mx_up σ (4 + 6 * 2 + h) 4 (nI u)) := (Off.rf (t := 2)).up (inT_h (by omega))
      refine x_iconst (v := 1) dX3_comesDust_49 (by decide) ?_
      exact x_zret dX3_comesDust_50 (by decide) (Sx.ok (n := n) (r := (upd r (6 + 6 * h + 4) (nI u))) (by simp [f_st, hc, c26, c32, (Int32.not_lt.mpr c32), eh, eu, nI_clamp (show h < 2 ^ 31 by omega)]) hT46 hO46)
    · refine x_iconst (v := 0) dX3_comesDust_35 (by decide) ?_
      exact x_zret dX3_comesDust_36 (by decide) (Sx.no (by simp [f_st, hc, c26, c32, (Int32.not_le.mp c32), eh, eu, nI_clamp (show h < 2 ^ 31 by omega)]))

set_option maxHeartbeats 4000000 in
theorem qX3_comesInspector {E : mx_E} {σ : Mem} {n : Nat} {r L : Row} {lm : Nat} (hN : NW σ) (hT2 : TI σ 2 n r) (hw : wf n r) (h5 : r 5 = 0) (hlm : lm ≤ 96) (hz2 : σ 28 1 = nI lm) (hL : ∀ j, j < lm → σ 31 j = L j) (p : Nat) (hg : f_gd L lm p) (hc : L p = 105) : MX3_comesInspector E 2 [mx_rf E 0, .int (nI p)] σ (mx_i (fun v τ => Sx (f_st n r L p) σ τ v)) := by
  refine MM.of (lv := [(0, mx_rf E 0), (1, .int (nI p))]) kpX3 rfl (Nat.le_of_ble_eq_true rfl) rfl ?_
  have hn6 := hw.1
  obtain ⟨hln, hdg⟩ := f_gd0 hg hc 0 1 (by decide) (by decide)
  obtain ⟨h, kh, eh⟩ := hdg 0 1 (by decide)
  replace eh : f_num L (p + 1) 1 = nI h := by rw [← eh]
  have k10 : 10 ^ 1 = 10 := rfl
  have k100 : 10 ^ 2 = 100 := rfl
  have k1000 : 10 ^ 3 = 1000 := rfl
  refine x_aload_n 0 dX3_comesInspector_0 rfl ?_
  refine x_iload_n 1 dX3_comesInspector_1 rfl ?_
  refine x_iconst (v := 1) dX3_comesInspector_2 (by decide) ?_
  refine x_iadd dX3_comesInspector_3 ?_
  refine x_top (show (nI p) + 1 = nI (p + 1) from nI_add p 1) ?_
  refine x_iconst (v := 1) dX3_comesInspector_4 (by decide) ?_
  refine clX3_109 (qX3_number hlm hz2 hL (p + 1) 1 (by omega)) (by decide) rfl dX3_comesInspector_5 (fun r5 τ5 h5 => ?_)
  obtain ⟨rfl, rfl⟩ := h5
  refine x_top (show f_num L (p + 1) 1 = nI h from eh) ?_
  refine x_istore_n (lv' := [(2, .int (nI h)), (0, mx_rf E 0), (1, .int (nI p))]) dX3_comesInspector_8 rfl (by decide) rfl ?_
  refine x_aload_n 1 dX3_comesInspector_9 rfl ?_
  refine gfX3_16 dX3_comesInspector_10 ?_
  refine x_iload_n 0 dX3_comesInspector_13 rfl ?_
  refine clX3_122 (qX2_has (by decide) (by decide) hT2.1 (nI h)) (by decide) (by decide) (by decide) rfl dX3_comesInspector_14 (fun r14 τ14 h14 => ?_)
  obtain ⟨rfl, rfl⟩ := h14
  refine x_if_ne dX3_comesInspector_17 (fun c17 => ?_) (fun c17 => ?_)
  · replace c17 := zb_1 c17
    have hh : h < n := f_inN_l (by omega) (by omega) c17
    refine x_aload_n 1 dX3_comesInspector_22 rfl ?_
    refine gfX3_16 dX3_comesInspector_23 ?_
    refine x_iload_n 0 dX3_comesInspector_26 rfl ?_
    refine pfX3_139 (by decide) (by decide) dX3_comesInspector_27 ?_
    have hT27 : TI (mx_up σ 2 3 (nI h)) 2 n (upd r 2 (nI h)) := hT2.insp (by decide) _
    have hO27 : Off 2 σ (mx_up σ 2 3 (nI h)) := (Off.rf (t := 2)).up inT_t
    refine x_iconst (v := 1) dX3_comesInspector_30 (by decide) ?_
    exact x_zret dX3_comesInspector_31 (by decide) (Sx.ok (n := n) (r := (upd r (2) (nI h))) (by simp [f_st, hc, c17, eh, nI_clamp (show h < 2 ^ 31 by omega)]) hT27 hO27)
  · replace c17 := zb_0 c17
    refine x_iconst (v := 0) dX3_comesInspector_20 (by decide) ?_
    exact x_zret dX3_comesInspector_21 (by decide) (Sx.no (by simp [f_st, hc, c17, eh, nI_clamp (show h < 2 ^ 31 by omega)]))

set_option maxHeartbeats 4000000 in
theorem qX3_comesTurned {E : mx_E} {σ : Mem} {n : Nat} {r L : Row} {lm : Nat} (hN : NW σ) (hT2 : TI σ 2 n r) (hw : wf n r) (h5 : r 5 = 0) (hlm : lm ≤ 96) (hz2 : σ 28 1 = nI lm) (hL : ∀ j, j < lm → σ 31 j = L j) (p : Nat) (hg : f_gd L lm p) (hc : L p = 120) : MX3_comesTurned E 2 [mx_rf E 0, .int (nI p)] σ (mx_i (fun v τ => Sx (f_st n r L p) σ τ v)) := by
  refine MM.of (lv := [(0, mx_rf E 0), (1, .int (nI p))]) kpX3 rfl (Nat.le_of_ble_eq_true rfl) rfl ?_
  have hn6 := hw.1
  obtain ⟨hln, hdg⟩ := f_gd0 hg hc 0 1 (by decide) (by decide)
  obtain ⟨h, kh, eh⟩ := hdg 0 1 (by decide)
  replace eh : f_num L (p + 1) 1 = nI h := by rw [← eh]
  have k10 : 10 ^ 1 = 10 := rfl
  have k100 : 10 ^ 2 = 100 := rfl
  have k1000 : 10 ^ 3 = 1000 := rfl
  refine x_aload_n 0 dX3_comesTurned_0 rfl ?_
  refine x_iload_n 1 dX3_comesTurned_1 rfl ?_
  refine x_iconst (v := 1) dX3_comesTurned_2 (by decide) ?_
  refine x_iadd dX3_comesTurned_3 ?_
  refine x_top (show (nI p) + 1 = nI (p + 1) from nI_add p 1) ?_
  refine x_iconst (v := 1) dX3_comesTurned_4 (by decide) ?_
  refine clX3_109 (qX3_number hlm hz2 hL (p + 1) 1 (by omega)) (by decide) rfl dX3_comesTurned_5 (fun r5 τ5 h5 => ?_)
  obtain ⟨rfl, rfl⟩ := h5
  refine x_top (show f_num L (p + 1) 1 = nI h from eh) ?_
  refine x_istore_n (lv' := [(2, .int (nI h)), (0, mx_rf E 0), (1, .int (nI p))]) dX3_comesTurned_8 rfl (by decide) rfl ?_
  refine x_aload_n 1 dX3_comesTurned_9 rfl ?_
  refine gfX3_16 dX3_comesTurned_10 ?_
  refine x_iload_n 0 dX3_comesTurned_13 rfl ?_
  refine clX3_122 (qX2_has (by decide) (by decide) hT2.1 (nI h)) (by decide) (by decide) (by decide) rfl dX3_comesTurned_14 (fun r14 τ14 h14 => ?_)
  obtain ⟨rfl, rfl⟩ := h14
  refine x_if_ne dX3_comesTurned_17 (fun c17 => ?_) (fun c17 => ?_)
  · replace c17 := zb_1 c17
    have hh : h < n := f_inN_l (by omega) (by omega) c17
    refine x_aload_n 1 dX3_comesTurned_22 rfl ?_
    refine gfX3_16 dX3_comesTurned_23 ?_
    refine x_iload_n 0 dX3_comesTurned_26 rfl ?_
    refine clX3_125 (qX2_at (by decide) (by decide) hT2.1 hn6 hh) (by decide) (by decide) (by decide) rfl dX3_comesTurned_27 (fun r27 τ27 h27 => ?_)
    obtain ⟨rfl, rfl⟩ := h27
    refine x_aload_n 1 dX3_comesTurned_30 rfl ?_
    refine gfX3_16 dX3_comesTurned_31 ?_
    refine x_iload_n 0 dX3_comesTurned_34 rfl ?_
    refine clX3_125 (qX2_at (by decide) (by decide) hT2.1 hn6 hh) (by decide) (by decide) (by decide) rfl dX3_comesTurned_35 (fun r35 τ35 h35 => ?_)
    obtain ⟨rfl, rfl⟩ := h35
    refine gfX3_136 (by omega) (by omega) dX3_comesTurned_38 ?_
    refine x_top (show σ (4 + 6 * 2 + h) 6 = zb (f_kept r h) from (hT2.2.2.2.2 _ hh).2.1) ?_
    refine x_if_ne dX3_comesTurned_41 (fun c41 => ?_) (fun c41 => ?_)
    · replace c41 := zb_1 c41
      refine x_iconst (v := 0) dX3_comesTurned_48 (by decide) ?_
      refine pfX3_136 (by omega) (by omega) (by decide) dX3_comesTurned_49 ?_
      have hT49 : TI (mx_up σ (4 + 6 * 2 + h) 6 0) 2 n (f_tog r h) := hT2.tog hw (by decide) hh (by rw [c41]; rfl)
      have hO49 : Off 2 σ (mx_up σ (4 + 6 * 2 + h) 6 0) := Off.rf.up (inT_h (by omega))
      refine x_iconst (v := 1) dX3_comesTurned_52 (by decide) ?_
      exact x_zret dX3_comesTurned_53 (by decide) (Sx.ok (n := n) (r := (f_tog r h)) (by simp [f_st, hc, c17, c41, eh, nI_clamp (show h < 2 ^ 31 by omega)]) hT49 hO49)
    · replace c41 := zb_0 c41
      refine x_iconst (v := 1) dX3_comesTurned_44 (by decide) ?_
      refine x_goto dX3_comesTurned_45 ?_
      refine pfX3_136 (by omega) (by omega) (by decide) dX3_comesTurned_49 ?_
      have hT49 : TI (mx_up σ (4 + 6 * 2 + h) 6 1) 2 n (f_tog r h) := hT2.tog hw (by decide) hh (by rw [c41]; rfl)
      have hO49 : Off 2 σ (mx_up σ (4 + 6 * 2 + h) 6 1) := Off.rf.up (inT_h (by omega))
      refine x_iconst (v := 1) dX3_comesTurned_52 (by decide) ?_
      exact x_zret dX3_comesTurned_53 (by decide) (Sx.ok (n := n) (r := (f_tog r h)) (by simp [f_st, hc, c17, c41, eh, nI_clamp (show h < 2 ^ 31 by omega)]) hT49 hO49)
  · replace c17 := zb_0 c17
    refine x_iconst (v := 0) dX3_comesTurned_20 (by decide) ?_
    exact x_zret dX3_comesTurned_21 (by decide) (Sx.no (by simp [f_st, hc, c17, eh, nI_clamp (show h < 2 ^ 31 by omega)]))

set_option maxHeartbeats 4000000 in
theorem qX3_comesWeeks {E : mx_E} {σ : Mem} {n : Nat} {r L : Row} {lm : Nat} (hN : NW σ) (hT2 : TI σ 2 n r) (hw : wf n r) (h5 : r 5 = 0) (hlm : lm ≤ 96) (hz2 : σ 28 1 = nI lm) (hL : ∀ j, j < lm → σ 31 j = L j) (p : Nat) (hg : f_gd L lm p) (hc : L p = 119) : MX3_comesWeeks E 4 [mx_rf E 0, .int (nI p)] σ (mx_i (fun v τ => Sx (f_st n r L p) σ τ v)) := by
  refine MM.of (lv := [(0, mx_rf E 0), (1, .int (nI p))]) kpX3 rfl (Nat.le_of_ble_eq_true rfl) rfl ?_
  have hn6 := hw.1
  obtain ⟨hln, hdg⟩ := f_gd0 hg hc 0 2 (by decide) (by decide)
  obtain ⟨u, ku, eu⟩ := hdg 0 2 (by decide)
  replace eu : f_num L (p + 1) 2 = nI u := by rw [← eu]
  have k10 : 10 ^ 1 = 10 := rfl
  have k100 : 10 ^ 2 = 100 := rfl
  have k1000 : 10 ^ 3 = 1000 := rfl
  refine x_aload_n 0 dX3_comesWeeks_0 rfl ?_
  refine x_iload_n 1 dX3_comesWeeks_1 rfl ?_
  refine x_iconst (v := 1) dX3_comesWeeks_2 (by decide) ?_
  refine x_iadd dX3_comesWeeks_3 ?_
  refine x_top (show (nI p) + 1 = nI (p + 1) from nI_add p 1) ?_
  refine x_iconst (v := 2) dX3_comesWeeks_4 (by decide) ?_
  refine clX3_109 (qX3_number hlm hz2 hL (p + 1) 2 (by omega)) (by decide) rfl dX3_comesWeeks_5 (fun r5 τ5 h5 => ?_)
  obtain ⟨rfl, rfl⟩ := h5
  refine x_top (show f_num L (p + 1) 2 = nI u from eu) ?_
  refine x_istore_n (lv' := [(2, .int (nI u)), (0, mx_rf E 0), (1, .int (nI p))]) dX3_comesWeeks_8 rfl (by decide) rfl ?_
  refine x_iload_n 0 dX3_comesWeeks_9 rfl ?_
  refine x_iconst (v := 1) dX3_comesWeeks_10 (by decide) ?_
  refine x_icmp_lt dX3_comesWeeks_11 (fun c11 => ?_) (fun c11 => ?_)
  · refine x_iconst (v := 0) dX3_comesWeeks_35 (by decide) ?_
    exact x_zret dX3_comesWeeks_36 (by decide) (Sx.no (by simp [f_st, hc, c11, (Int32.not_le.mpr c11), eu, nI_clamp (show u < 2 ^ 31 by omega)]))
  · refine x_iload_n 0 dX3_comesWeeks_14 rfl ?_
    refine x_bipush (v := 60) dX3_comesWeeks_15 (by decide) ?_
    refine x_icmp_gt dX3_comesWeeks_17 (fun c17 => ?_) (fun c17 => ?_)
    · refine x_iconst (v := 0) dX3_comesWeeks_35 (by decide) ?_
      exact x_zret dX3_comesWeeks_36 (by decide) (Sx.no (by simp [f_st, hc, c11, (Int32.not_lt.mp c11), c17, (Int32.not_le.mpr c17), eu, nI_clamp (show u < 2 ^ 31 by omega)]))
    · refine x_aload_n 1 dX3_comesWeeks_20 rfl ?_
      refine gfX3_16 dX3_comesWeeks_21 ?_
      refine gfX3_142 (by decide) (by decide) dX3_comesWeeks_24 ?_
      refine x_top (show σ 2 5 = r 1 from hT2.2.2.2.1) ?_
      refine x_iload_n 0 dX3_comesWeeks_27 rfl ?_
      refine x_iadd dX3_comesWeeks_28 ?_
      refine x_sipush (v := 999) dX3_comesWeeks_29 (by decide) ?_
      refine x_icmp_le dX3_comesWeeks_32 (fun c32 => ?_) (fun c32 => ?_)
      · refine x_aload_n 1 dX3_comesWeeks_37 rfl ?_
        refine gfX3_16 dX3_comesWeeks_38 ?_
        refine x_iload_n 0 dX3_comesWeeks_41 rfl ?_
        refine clX3_145 (qX2_pass (t := 2) (by decide) (by decide) hT2 hw (hN.off (by decide) (by decide) (Off.rf (t := 2))) u (by omega)) (by decide) (by decide) (by decide) rfl dX3_comesWeeks_42 (fun τ42 h42 => ?_)
        have hO42 : Off 2 σ τ42 := (Off.rf (t := 2)).tr h42.2
        refine x_iconst (v := 1) dX3_comesWeeks_45 (by decide) ?_
        exact x_zret dX3_comesWeeks_46 (by decide) (Sx.ok (n := n) (r := (f_weeks n r u)) (by simp [f_st, hc, c11, (Int32.not_lt.mp c11), c17, (Int32.not_lt.mp c17), c32, (Int32.not_lt.mpr c32), eu, nI_clamp (show u < 2 ^ 31 by omega)]) h42.1 hO42)
      · refine x_iconst (v := 0) dX3_comesWeeks_35 (by decide) ?_
        exact x_zret dX3_comesWeeks_36 (by decide) (Sx.no (by simp [f_st, hc, c11, (Int32.not_lt.mp c11), c17, (Int32.not_lt.mp c17), c32, (Int32.not_le.mp c32), eu, nI_clamp (show u < 2 ^ 31 by omega)]))

set_option maxHeartbeats 4000000 in
theorem qX3_comesHouse {E : mx_E} {σ : Mem} {n : Nat} {r L : Row} {lm : Nat} (hN : NW σ) (hT2 : TI σ 2 n r) (hw : wf n r) (h5 : r 5 = 0) (hlm : lm ≤ 96) (hz2 : σ 28 1 = nI lm) (hL : ∀ j, j < lm → σ 31 j = L j) (p : Nat) (hg : f_gd L lm p) (hc : L p = 104) : MX3_comesHouse E 3 [mx_rf E 0, .int (nI p)] σ (mx_i (fun v τ => Sx (f_st n r L p) σ τ v)) := by
  refine MM.of (lv := [(0, mx_rf E 0), (1, .int (nI p))]) kpX3 rfl (Nat.le_of_ble_eq_true rfl) rfl ?_
  have hn6 := hw.1
  obtain ⟨hln, hdg⟩ := f_gd0 hg hc 1 4 (by decide) (by decide)
  obtain ⟨rooms, krooms, erooms⟩ := hdg 1 1 (by decide)
  replace erooms : f_num L (p + 3) 1 = nI rooms := by rw [← erooms]
  obtain ⟨ppl, kppl, eppl⟩ := hdg 2 2 (by decide)
  replace eppl : f_num L (p + 4) 2 = nI ppl := by rw [← eppl]
  obtain ⟨fig, kfig, efig⟩ := hdg 0 1 (by decide)
  replace efig : f_num L (p + 2) 1 = nI fig := by rw [← efig]
  have k10 : 10 ^ 1 = 10 := rfl
  have k100 : 10 ^ 2 = 100 := rfl
  have k1000 : 10 ^ 3 = 1000 := rfl
  refine x_aload_n 0 dX3_comesHouse_0 rfl ?_
  refine x_iload_n 1 dX3_comesHouse_1 rfl ?_
  refine x_iconst (v := 3) dX3_comesHouse_2 (by decide) ?_
  refine x_iadd dX3_comesHouse_3 ?_
  refine x_top (show (nI p) + 3 = nI (p + 3) from nI_add p 3) ?_
  refine x_iconst (v := 1) dX3_comesHouse_4 (by decide) ?_
  refine clX3_109 (qX3_number hlm hz2 hL (p + 3) 1 (by omega)) (by decide) rfl dX3_comesHouse_5 (fun r5 τ5 h5 => ?_)
  obtain ⟨rfl, rfl⟩ := h5
  refine x_top (show f_num L (p + 3) 1 = nI rooms from erooms) ?_
  refine x_istore_n (lv' := [(2, .int (nI rooms)), (0, mx_rf E 0), (1, .int (nI p))]) dX3_comesHouse_8 rfl (by decide) rfl ?_
  refine x_aload_n 1 dX3_comesHouse_9 rfl ?_
  refine x_iload_n 2 dX3_comesHouse_10 rfl ?_
  refine x_iconst (v := 4) dX3_comesHouse_11 (by decide) ?_
  refine x_iadd dX3_comesHouse_12 ?_
  refine x_top (show (nI p) + 4 = nI (p + 4) from nI_add p 4) ?_
  refine x_iconst (v := 2) dX3_comesHouse_13 (by decide) ?_
  refine clX3_109 (qX3_number hlm hz2 hL (p + 4) 2 (by omega)) (by decide) rfl dX3_comesHouse_14 (fun r14 τ14 h14 => ?_)
  obtain ⟨rfl, rfl⟩ := h14
  refine x_top (show f_num L (p + 4) 2 = nI ppl from eppl) ?_
  refine x_istore_n (lv' := [(3, .int (nI ppl)), (2, .int (nI rooms)), (0, mx_rf E 0), (1, .int (nI p))]) dX3_comesHouse_17 rfl (by decide) rfl ?_
  refine x_aload_n 2 dX3_comesHouse_18 rfl ?_
  refine gfX3_16 dX3_comesHouse_19 ?_
  refine gfX3_115 (by decide) (by decide) dX3_comesHouse_22 ?_
  refine x_top (show σ 2 2 = nI n from hT2.1) ?_
  refine x_bipush (v := 6) dX3_comesHouse_25 (by decide) ?_
  refine x_icmp_ge dX3_comesHouse_27 (fun c27 => ?_) (fun c27 => ?_)
  · have hn6e : n = 6 := by have := nI_le_of (b := 6) (by decide) (by omega) c27; omega
    refine x_iconst (v := 0) dX3_comesHouse_41 (by decide) ?_
    exact x_zret dX3_comesHouse_42 (by decide) (Sx.no (by simp [f_st, hc, c27, (Int32.not_lt.mpr c27), hn6e, erooms, eppl, efig]))
  · have hn5 : n < 6 := nI_lt_of (b := 6) (by decide) (by omega) c27
    refine x_iload_n 1 dX3_comesHouse_30 rfl ?_
    refine x_iconst (v := 1) dX3_comesHouse_31 (by decide) ?_
    refine x_icmp_lt dX3_comesHouse_32 (fun c32 => ?_) (fun c32 => ?_)
    · refine x_iconst (v := 0) dX3_comesHouse_41 (by decide) ?_
      exact x_zret dX3_comesHouse_42 (by decide) (Sx.no (by simp [f_st, hc, c27, (Int32.not_le.mp c27), c32, (Int32.not_le.mpr c32), erooms, eppl, efig]))
    · refine x_iload_n 0 dX3_comesHouse_35 rfl ?_
      refine x_bipush (v := 30) dX3_comesHouse_36 (by decide) ?_
      refine x_icmp_le dX3_comesHouse_38 (fun c38 => ?_) (fun c38 => ?_)
      · have hn6e : ¬ n = 6 := by omega
        refine x_aload_n 2 dX3_comesHouse_43 rfl ?_
        refine gfX3_16 dX3_comesHouse_44 ?_
        refine x_aload_n 2 dX3_comesHouse_47 rfl ?_
        refine gfX3_31 dX3_comesHouse_48 ?_
        refine x_iload_n 3 dX3_comesHouse_51 rfl ?_
        refine x_iconst (v := 1) dX3_comesHouse_52 (by decide) ?_
        refine x_iadd dX3_comesHouse_53 ?_
        refine x_top (show (nI p) + 1 = nI (p + 1) from nI_add p 1) ?_
        refine clX3_77 (qX1_at (k := 28) (by decide) (by decide) lm hlm hz2 (p + 1) (show p + 1 < lm by omega)) (by decide) (by decide) (by decide) rfl dX3_comesHouse_54 (fun r54 τ54 h54 => ?_)
        obtain ⟨rfl, rfl⟩ := h54
        refine x_top (show σ (28 + 3) (p + 1) = L (p + 1) from hL (p + 1) (show p + 1 < lm by omega)) ?_
        refine clX3_91 (qX3_kindOf (L (p + 1))) (by decide) rfl dX3_comesHouse_57 (fun r57 τ57 h57 => ?_)
        obtain ⟨rfl, rfl⟩ := h57
        refine x_aload_n 2 dX3_comesHouse_60 rfl ?_
        refine x_iload_n 3 dX3_comesHouse_61 rfl ?_
        refine x_iconst (v := 2) dX3_comesHouse_62 (by decide) ?_
        refine x_iadd dX3_comesHouse_63 ?_
        refine x_top (show (nI p) + 2 = nI (p + 2) from nI_add p 2) ?_
        refine x_iconst (v := 1) dX3_comesHouse_64 (by decide) ?_
        refine clX3_109 (qX3_number hlm hz2 hL (p + 2) 1 (by omega)) (by decide) rfl dX3_comesHouse_65 (fun r65 τ65 h65 => ?_)
        obtain ⟨rfl, rfl⟩ := h65
        refine x_top (show f_num L (p + 2) 1 = nI fig from efig) ?_
        refine x_iload_n 1 dX3_comesHouse_68 rfl ?_
        refine x_iload_n 0 dX3_comesHouse_69 rfl ?_
        refine clX3_118 (qX2_build (t := 2) (by decide) (by decide) hT2 hw hN hn5 h5 (f_kd (L (p + 1))) (nI fig) (nI rooms) (nI ppl)) (by decide) (by decide) (by decide) rfl dX3_comesHouse_70 (fun τ70 h70 => ?_)
        refine x_iconst (v := 1) dX3_comesHouse_73 (by decide) ?_
        exact x_zret dX3_comesHouse_74 (by decide) (Sx.ok (n := (n + 1)) (r := (f_build n r (f_kd (L (p + 1))) (nI fig) (nI rooms) (nI ppl))) (by simp [f_st, hc, c27, (Int32.not_le.mp c27), c32, (Int32.not_lt.mp c32), c38, (Int32.not_lt.mpr c38), hn6e, erooms, eppl, efig]) h70.1 h70.2)
      · refine x_iconst (v := 0) dX3_comesHouse_41 (by decide) ?_
        exact x_zret dX3_comesHouse_42 (by decide) (Sx.no (by simp [f_st, hc, c27, (Int32.not_le.mp c27), c32, (Int32.not_lt.mp c32), c38, (Int32.not_le.mp c38), erooms, eppl, efig]))

set_option maxHeartbeats 4000000 in
theorem qX3_comes {E : mx_E} {σ : Mem} {n : Nat} {r L : Row} {lm : Nat} (hN : NW σ) (hT2 : TI σ 2 n r) (hw : wf n r) (h5 : r 5 = 0) (hlm : lm ≤ 96) (hz2 : σ 28 1 = nI lm) (hL : ∀ j, j < lm → σ 31 j = L j) (p : Nat) (hg : f_gd L lm p)  : MX3_comes E 5 [mx_rf E 0, .int (nI p)] σ (mx_i (fun v τ => Sx (f_st n r L p) σ τ v)) := by
  refine MM.of (lv := [(0, mx_rf E 0), (1, .int (nI p))]) kpX3 rfl (Nat.le_of_ble_eq_true rfl) rfl ?_
  have hn6 := hw.1
  have hp0 := hg.2.1
  refine x_aload_n 0 dX3_comes_0 rfl ?_
  refine gfX3_31 dX3_comes_1 ?_
  refine x_iload_n 1 dX3_comes_4 rfl ?_
  refine clX3_77 (qX1_at (k := 28) (by decide) (by decide) lm hlm hz2 p (show p < lm by omega)) (by decide) (by decide) (by decide) rfl dX3_comes_5 (fun r5 τ5 h5 => ?_)
  obtain ⟨rfl, rfl⟩ := h5
  refine x_top (show σ (28 + 3) p = L p from hL p (show p < lm by omega)) ?_
  by_cases c8_0 : L p = 99
  · refine x_tableIn (off := 134) (tgt := 142) dX3_comes_8 (by rw [c8_0]; decide) (by rw [c8_0]; decide) (by rw [c8_0]; decide) (by decide) ?_
    refine x_aload_n 0 dX3_comes_142 rfl ?_
    refine gfX3_16 dX3_comes_143 ?_
    refine x_aload_n 0 dX3_comes_146 rfl ?_
    refine x_iload_n 1 dX3_comes_147 rfl ?_
    refine x_iconst (v := 1) dX3_comes_148 (by decide) ?_
    refine x_iadd dX3_comes_149 ?_
    refine x_top (show (nI p) + 1 = nI (p + 1) from nI_add p 1) ?_
    refine x_iconst (v := 3) dX3_comes_150 (by decide) ?_
    refine clX3_109 (qX3_number hlm hz2 hL (p + 1) 3 (by have := (f_gd0 hg c8_0 0 3 (by decide) (by decide)).1; omega)) (by decide) rfl dX3_comes_151 (fun r151 τ151 h151 => ?_)
    obtain ⟨rfl, rfl⟩ := h151
    refine pfX3_45 (by decide) (by decide) dX3_comes_154 ?_
    have hT154 : TI (mx_up σ 2 4 (f_num L (p + 1) 3)) 2 n (upd r 3 (f_num L (p + 1) 3)) := hT2.cand (by decide) _
    have hO154 : Off 2 σ (mx_up σ 2 4 (f_num L (p + 1) 3)) := (Off.rf (t := 2)).up inT_t
    refine x_iconst (v := 1) dX3_comes_157 (by decide) ?_
    exact x_zret dX3_comes_158 (by decide) (Sx.ok (n := n) (r := (upd r (3) (f_num L (p + 1) 3))) (by simp [f_st, c8_0]) hT154 hO154)
  by_cases c8_1 : L p = 100
  · refine x_tableIn (off := 116) (tgt := 124) dX3_comes_8 (by rw [c8_1]; decide) (by rw [c8_1]; decide) (by rw [c8_1]; decide) (by decide) ?_
    refine x_aload_n 0 dX3_comes_124 rfl ?_
    refine x_iload_n 1 dX3_comes_125 rfl ?_
    refine clX3_100 (qX3_comesDust hN hT2 hw h5 hlm hz2 hL p hg c8_1) (by decide) rfl dX3_comes_126 (fun r126 τ126 h126 => ?_)
    exact x_zret dX3_comes_129 h126.z h126
  by_cases c8_2 : L p = 101
  · refine x_tableIn (off := 157) (tgt := 165) dX3_comes_8 (by rw [c8_2]; decide) (by rw [c8_2]; decide) (by rw [c8_2]; decide) (by decide) ?_
    exact absurd (by rw [c8_2]; decide) hg.1
  by_cases c8_3 : L p = 102
  · refine x_tableIn (off := 157) (tgt := 165) dX3_comes_8 (by rw [c8_3]; decide) (by rw [c8_3]; decide) (by rw [c8_3]; decide) (by decide) ?_
    exact absurd (by rw [c8_3]; decide) hg.1
  by_cases c8_4 : L p = 103
  · refine x_tableIn (off := 157) (tgt := 165) dX3_comes_8 (by rw [c8_4]; decide) (by rw [c8_4]; decide) (by rw [c8_4]; decide) (by decide) ?_
    exact absurd (by rw [c8_4]; decide) hg.1
  by_cases c8_5 : L p = 104
  · refine x_tableIn (off := 104) (tgt := 112) dX3_comes_8 (by rw [c8_5]; decide) (by rw [c8_5]; decide) (by rw [c8_5]; decide) (by decide) ?_
    refine x_aload_n 0 dX3_comes_112 rfl ?_
    refine x_iload_n 1 dX3_comes_113 rfl ?_
    refine clX3_94 (qX3_comesHouse hN hT2 hw h5 hlm hz2 hL p hg c8_5) (by decide) rfl dX3_comes_114 (fun r114 τ114 h114 => ?_)
    exact x_zret dX3_comes_117 h114.z h114
  by_cases c8_6 : L p = 105
  · refine x_tableIn (off := 128) (tgt := 136) dX3_comes_8 (by rw [c8_6]; decide) (by rw [c8_6]; decide) (by rw [c8_6]; decide) (by decide) ?_
    refine x_aload_n 0 dX3_comes_136 rfl ?_
    refine x_iload_n 1 dX3_comes_137 rfl ?_
    refine clX3_106 (qX3_comesInspector hN hT2 hw h5 hlm hz2 hL p hg c8_6) (by decide) rfl dX3_comes_138 (fun r138 τ138 h138 => ?_)
    exact x_zret dX3_comes_141 h138.z h138
  by_cases c8_7 : L p = 106
  · refine x_tableIn (off := 157) (tgt := 165) dX3_comes_8 (by rw [c8_7]; decide) (by rw [c8_7]; decide) (by rw [c8_7]; decide) (by decide) ?_
    exact absurd (by rw [c8_7]; decide) hg.1
  by_cases c8_8 : L p = 107
  · refine x_tableIn (off := 157) (tgt := 165) dX3_comes_8 (by rw [c8_8]; decide) (by rw [c8_8]; decide) (by rw [c8_8]; decide) (by decide) ?_
    exact absurd (by rw [c8_8]; decide) hg.1
  by_cases c8_9 : L p = 108
  · refine x_tableIn (off := 157) (tgt := 165) dX3_comes_8 (by rw [c8_9]; decide) (by rw [c8_9]; decide) (by rw [c8_9]; decide) (by decide) ?_
    exact absurd (by rw [c8_9]; decide) hg.1
  by_cases c8_10 : L p = 109
  · refine x_tableIn (off := 157) (tgt := 165) dX3_comes_8 (by rw [c8_10]; decide) (by rw [c8_10]; decide) (by rw [c8_10]; decide) (by decide) ?_
    exact absurd (by rw [c8_10]; decide) hg.1
  by_cases c8_11 : L p = 110
  · refine x_tableIn (off := 157) (tgt := 165) dX3_comes_8 (by rw [c8_11]; decide) (by rw [c8_11]; decide) (by rw [c8_11]; decide) (by decide) ?_
    exact absurd (by rw [c8_11]; decide) hg.1
  by_cases c8_12 : L p = 111
  · refine x_tableIn (off := 157) (tgt := 165) dX3_comes_8 (by rw [c8_12]; decide) (by rw [c8_12]; decide) (by rw [c8_12]; decide) (by decide) ?_
    exact absurd (by rw [c8_12]; decide) hg.1
  by_cases c8_13 : L p = 112
  · refine x_tableIn (off := 110) (tgt := 118) dX3_comes_8 (by rw [c8_13]; decide) (by rw [c8_13]; decide) (by rw [c8_13]; decide) (by decide) ?_
    refine x_aload_n 0 dX3_comes_118 rfl ?_
    refine x_iload_n 1 dX3_comes_119 rfl ?_
    refine clX3_97 (qX3_comesPeople hN hT2 hw h5 hlm hz2 hL p hg c8_13) (by decide) rfl dX3_comes_120 (fun r120 τ120 h120 => ?_)
    exact x_zret dX3_comes_123 h120.z h120
  by_cases c8_14 : L p = 113
  · refine x_tableIn (off := 157) (tgt := 165) dX3_comes_8 (by rw [c8_14]; decide) (by rw [c8_14]; decide) (by rw [c8_14]; decide) (by decide) ?_
    exact absurd (by rw [c8_14]; decide) hg.1
  by_cases c8_15 : L p = 114
  · refine x_tableIn (off := 157) (tgt := 165) dX3_comes_8 (by rw [c8_15]; decide) (by rw [c8_15]; decide) (by rw [c8_15]; decide) (by decide) ?_
    exact absurd (by rw [c8_15]; decide) hg.1
  by_cases c8_16 : L p = 115
  · refine x_tableIn (off := 157) (tgt := 165) dX3_comes_8 (by rw [c8_16]; decide) (by rw [c8_16]; decide) (by rw [c8_16]; decide) (by decide) ?_
    exact absurd (by rw [c8_16]; decide) hg.1
  by_cases c8_17 : L p = 116
  · refine x_tableIn (off := 157) (tgt := 165) dX3_comes_8 (by rw [c8_17]; decide) (by rw [c8_17]; decide) (by rw [c8_17]; decide) (by decide) ?_
    exact absurd (by rw [c8_17]; decide) hg.1
  by_cases c8_18 : L p = 117
  · refine x_tableIn (off := 157) (tgt := 165) dX3_comes_8 (by rw [c8_18]; decide) (by rw [c8_18]; decide) (by rw [c8_18]; decide) (by decide) ?_
    exact absurd (by rw [c8_18]; decide) hg.1
  by_cases c8_19 : L p = 118
  · refine x_tableIn (off := 157) (tgt := 165) dX3_comes_8 (by rw [c8_19]; decide) (by rw [c8_19]; decide) (by rw [c8_19]; decide) (by decide) ?_
    exact absurd (by rw [c8_19]; decide) hg.1
  by_cases c8_20 : L p = 119
  · refine x_tableIn (off := 151) (tgt := 159) dX3_comes_8 (by rw [c8_20]; decide) (by rw [c8_20]; decide) (by rw [c8_20]; decide) (by decide) ?_
    refine x_aload_n 0 dX3_comes_159 rfl ?_
    refine x_iload_n 1 dX3_comes_160 rfl ?_
    refine clX3_112 (qX3_comesWeeks hN hT2 hw h5 hlm hz2 hL p hg c8_20) (by decide) rfl dX3_comes_161 (fun r161 τ161 h161 => ?_)
    exact x_zret dX3_comes_164 h161.z h161
  by_cases c8_21 : L p = 120
  · refine x_tableIn (off := 122) (tgt := 130) dX3_comes_8 (by rw [c8_21]; decide) (by rw [c8_21]; decide) (by rw [c8_21]; decide) (by decide) ?_
    refine x_aload_n 0 dX3_comes_130 rfl ?_
    refine x_iload_n 1 dX3_comes_131 rfl ?_
    refine clX3_103 (qX3_comesTurned hN hT2 hw h5 hlm hz2 hL p hg c8_21) (by decide) rfl dX3_comes_132 (fun r132 τ132 h132 => ?_)
    exact x_zret dX3_comes_135 h132.z h132
  have hsw8 : (L p).toInt < 99 ∨ 120 < (L p).toInt := by
    have q_c8_0 := lv_neT c8_0 (show (99 : Int32).toInt = 99 from rfl)
    have q_c8_1 := lv_neT c8_1 (show (100 : Int32).toInt = 100 from rfl)
    have q_c8_2 := lv_neT c8_2 (show (101 : Int32).toInt = 101 from rfl)
    have q_c8_3 := lv_neT c8_3 (show (102 : Int32).toInt = 102 from rfl)
    have q_c8_4 := lv_neT c8_4 (show (103 : Int32).toInt = 103 from rfl)
    have q_c8_5 := lv_neT c8_5 (show (104 : Int32).toInt = 104 from rfl)
    have q_c8_6 := lv_neT c8_6 (show (105 : Int32).toInt = 105 from rfl)
    have q_c8_7 := lv_neT c8_7 (show (106 : Int32).toInt = 106 from rfl)
    have q_c8_8 := lv_neT c8_8 (show (107 : Int32).toInt = 107 from rfl)
    have q_c8_9 := lv_neT c8_9 (show (108 : Int32).toInt = 108 from rfl)
    have q_c8_10 := lv_neT c8_10 (show (109 : Int32).toInt = 109 from rfl)
    have q_c8_11 := lv_neT c8_11 (show (110 : Int32).toInt = 110 from rfl)
    have q_c8_12 := lv_neT c8_12 (show (111 : Int32).toInt = 111 from rfl)
    have q_c8_13 := lv_neT c8_13 (show (112 : Int32).toInt = 112 from rfl)
    have q_c8_14 := lv_neT c8_14 (show (113 : Int32).toInt = 113 from rfl)
    have q_c8_15 := lv_neT c8_15 (show (114 : Int32).toInt = 114 from rfl)
    have q_c8_16 := lv_neT c8_16 (show (115 : Int32).toInt = 115 from rfl)
    have q_c8_17 := lv_neT c8_17 (show (116 : Int32).toInt = 116 from rfl)
    have q_c8_18 := lv_neT c8_18 (show (117 : Int32).toInt = 117 from rfl)
    have q_c8_19 := lv_neT c8_19 (show (118 : Int32).toInt = 118 from rfl)
    have q_c8_20 := lv_neT c8_20 (show (119 : Int32).toInt = 119 from rfl)
    have q_c8_21 := lv_neT c8_21 (show (120 : Int32).toInt = 120 from rfl)
    omega
  refine x_tableOut (tgt := 165) dX3_comes_8 hsw8 (by decide) ?_
  exact absurd (by simp [f_w1, c8_0, c8_1, c8_5, c8_6, c8_13, c8_20, c8_21]) hg.1

set_option maxHeartbeats 4000000 in
theorem qX3_readStatements {E : mx_E} {σ : Mem} {n : Nat} {r : Row} (hN : NW σ) (hT : TI σ 1 n r) (hw : wf n r) (h5 : r 5 = 0) {L : Row} {lm : Nat} (hlm : lm ≤ 96) (hz2 : σ 28 1 = nI lm) (hL : ∀ j, j < lm → σ 31 j = L j) (hgood : ∀ k, k < lm → (k = 0 ∨ L (k - 1) = 59) → f_gd L lm k)  : MX3_readStatements E 6 [mx_rf E 0] σ (mx_i (fun v τ => Gx (f_tg n r L lm 0 0 n r) σ τ v)) := by
  refine MM.of (lv := [(0, mx_rf E 0)]) kpX3 rfl (Nat.le_of_ble_eq_true rfl) rfl ?_
  have hn6 := hw.1
  refine x_aload_n 0 dX3_readStatements_0 rfl ?_
  refine gfX3_16 dX3_readStatements_1 ?_
  refine x_aload_n 0 dX3_readStatements_4 rfl ?_
  refine gfX3_10 dX3_readStatements_5 ?_
  refine clX3_73 (qX2_become (t := 2) (u := 1) (by decide) (by decide) (by decide) (by decide) (by decide) hT hw) (by decide) (by decide) (by decide) rfl dX3_readStatements_8 (fun τ8 h8 => ?_)
  refine x_iconst (v := 0) dX3_readStatements_11 (by decide) ?_
  refine x_istore_n (lv' := [(1, .int 0), (0, mx_rf E 0)]) dX3_readStatements_12 rfl (by decide) rfl ?_
  refine x_iconst (v := 0) dX3_readStatements_13 (by decide) ?_
  refine x_istore_n (lv' := [(2, .int 0), (1, .int 0), (0, mx_rf E 0)]) dX3_readStatements_14 rfl (by decide) rfl ?_
  have key15 : ∀ k, k ≤ lm → ∀ (c n1 : Nat) (r1 : Row) (τ : Mem), c ≤ k → TI τ 2 n1 r1 → wf n1 r1 → r1 5 = 0 → Off 2 σ τ → f_tg n r L (lm - k) k c n1 r1 = f_tg n r L lm 0 0 n r → MX E 6 RX3 cX3_readStatements 3 (some .int) 15 [(2, .int (nI k)), (1, .int (nI c)), (0, mx_rf E 0)] [] τ (mx_i (fun v τ => Gx (f_tg n r L lm 0 0 n r) σ τ v)) := by
    refine mx_ind lm (fun k hi15 ih15 => ?_)
    intro c n1 r1 τ hc hT2 hw1 h51 hO hgo
    refine x_iload_n 0 dX3_readStatements_15 rfl ?_
    refine x_aload_n 2 dX3_readStatements_16 rfl ?_
    refine gfX3_31 dX3_readStatements_17 ?_
    refine gfX3_60 (by decide) (by decide) dX3_readStatements_20 ?_
    refine x_top (show τ 28 1 = nI lm from ((congrFun (hO 28 (by unfold inT; omega)) 1).trans hz2)) ?_
    refine x_icmp_ge dX3_readStatements_23 (fun c23 => ?_) (fun c23 => ?_)
    · have hge := nI_le_of (by omega) (by omega) c23
      have hx := f_tgE hge hgo
      refine x_aload_n 2 dX3_readStatements_68 rfl ?_
      refine gfX3_10 dX3_readStatements_69 ?_
      refine x_aload_n 2 dX3_readStatements_72 rfl ?_
      refine gfX3_16 dX3_readStatements_73 ?_
      refine clX3_73 (qX2_become (t := 1) (u := 2) (by decide) (by decide) (by decide) (by decide) (by decide) hT2 hw1) (by decide) (by decide) (by decide) rfl dX3_readStatements_76 (fun τ76 h76 => ?_)
      refine x_iload_n 1 dX3_readStatements_79 rfl ?_
      exact x_iret dX3_readStatements_80 ⟨by rw [hx], by rw [hx]; exact h76.1, fun k h1 h2 => (h76.2 k h1).trans (hO k h2)⟩
    · have hlt := nI_lt_of (by omega) (by omega) c23
      refine x_iload_n 0 dX3_readStatements_26 rfl ?_
      refine x_if_eq dX3_readStatements_27 (fun c27 => ?_) (fun c27 => ?_)
      · have hk0 : k = 0 := (nI_eq (b := 0) (by omega) (by decide)).mp c27
        have hst : k = 0 ∨ L (k - 1) = 59 := Or.inl hk0
        refine x_aload_n 2 dX3_readStatements_45 rfl ?_
        refine x_iload_n 0 dX3_readStatements_46 rfl ?_
        have hgd := hgood k hlt hst
        refine clX3_80 (qX3_comes (hN.off (by decide) (by decide) hO) hT2 hw1 h51 hlm ((congrFun (hO 28 (by unfold inT; omega)) 1).trans hz2) (fun j hj => (congrFun (hO 31 (by unfold inT; omega)) j).trans (hL j hj)) k hgd) (by decide) rfl dX3_readStatements_47 (fun r47 τ47 h47 => ?_)
        have hS := h47
        refine x_if_ne dX3_readStatements_50 (fun c50 => ?_) (fun c50 => ?_)
        · obtain ⟨n2, r2, hs, hT3⟩ : ∃ n2 r2, f_st n1 r1 L k = some (n2, r2) ∧ TI τ47 2 n2 r2 := by
            rcases hS.2 with ⟨n2, r2, a, b, d⟩ | ⟨a, b⟩
            · exact ⟨n2, r2, a, d⟩
            · exact absurd b c50
          refine x_iinc (v := nI (c + 1)) (lv' := [(1, .int (nI (c + 1))), (2, .int (nI k)), (0, mx_rf E 0)]) 1 dX3_readStatements_59 rfl (nI_1 _) (by decide) rfl ?_
          refine x_iinc (v := nI (k + 1)) (lv' := [(2, .int (nI (k + 1))), (1, .int (nI (c + 1))), (0, mx_rf E 0)]) 1 dX3_readStatements_62 rfl (nI_1 _) (by decide) rfl ?_
          refine x_goto dX3_readStatements_65 ?_
          exact ih15 (k + 1) (by omega) (by omega) _ _ _ _ (by omega) hT3 (f_st_wf hw1 h51 hgd hs).1 (f_st_wf hw1 h51 hgd hs).2 (hO.tr hS.1) (f_tgT hlt hgo hst hs)
        · have hs : f_st n1 r1 L k = none := by
            rcases hS.2 with ⟨n2, r2, a, b, d⟩ | ⟨a, b⟩
            · exact absurd (b.symm.trans c50) (by decide)
            · exact a
          have hx := f_tgF hlt hgo hst hs
          refine x_sipush (v := -2000) dX3_readStatements_53 (by decide) ?_
          refine x_iload_n 0 dX3_readStatements_56 rfl ?_
          refine x_isub dX3_readStatements_57 ?_
          exact x_iret dX3_readStatements_58 ⟨by rw [hx], by rw [hx]; exact hT.offt hn6 (by decide) (by decide) (by decide) (by decide) (by decide) (hO.tr hS.1), fun k h1 h2 => (hO.tr hS.1) k h2⟩
      · have hk0 : ¬ k = 0 := fun q => c27 (by rw [q]; rfl)
        refine x_aload_n 2 dX3_readStatements_30 rfl ?_
        refine gfX3_31 dX3_readStatements_31 ?_
        refine x_iload_n 0 dX3_readStatements_34 rfl ?_
        refine x_iconst (v := 1) dX3_readStatements_35 (by decide) ?_
        refine x_isub dX3_readStatements_36 ?_
        refine x_top (show (nI k) - 1 = nI (k - 1) from (pk_sub (show 1 ≤ k by omega))) ?_
        refine clX3_77 (qX1_at (k := 28) (by decide) (by decide) lm hlm ((congrFun (hO 28 (by unfold inT; omega)) 1).trans hz2) (k - 1) (by omega)) (by decide) (by decide) (by decide) rfl dX3_readStatements_37 (fun r37 τ37 h37 => ?_)
        obtain ⟨rfl, rfl⟩ := h37
        refine x_top (show τ (28 + 3) (k - 1) = L (k - 1) from (congrFun (hO 31 (by unfold inT; omega)) _).trans (hL (k - 1) (by omega))) ?_
        refine x_bipush (v := 59) dX3_readStatements_40 (by decide) ?_
        refine x_icmp_ne dX3_readStatements_42 (fun c42 => ?_) (fun c42 => ?_)
        · have hns : ¬ (k = 0 ∨ L (k - 1) = 59) := not_or.mpr ⟨hk0, c42⟩
          refine x_iinc (v := nI (k + 1)) (lv' := [(2, .int (nI (k + 1))), (1, .int (nI c)), (0, mx_rf E 0)]) 0 dX3_readStatements_62 rfl (nI_1 _) (by decide) rfl ?_
          refine x_goto dX3_readStatements_65 ?_
          exact ih15 (k + 1) (by omega) (by omega) _ _ _ _ (by omega) hT2 hw1 h51 hO (f_tgN hlt hgo hns)
        · have hst : k = 0 ∨ L (k - 1) = 59 := Or.inr c42
          refine x_aload_n 2 dX3_readStatements_45 rfl ?_
          refine x_iload_n 0 dX3_readStatements_46 rfl ?_
          have hgd := hgood k hlt hst
          refine clX3_80 (qX3_comes (hN.off (by decide) (by decide) hO) hT2 hw1 h51 hlm ((congrFun (hO 28 (by unfold inT; omega)) 1).trans hz2) (fun j hj => (congrFun (hO 31 (by unfold inT; omega)) j).trans (hL j hj)) k hgd) (by decide) rfl dX3_readStatements_47 (fun r47 τ47 h47 => ?_)
          have hS := h47
          refine x_if_ne dX3_readStatements_50 (fun c50 => ?_) (fun c50 => ?_)
          · obtain ⟨n2, r2, hs, hT3⟩ : ∃ n2 r2, f_st n1 r1 L k = some (n2, r2) ∧ TI τ47 2 n2 r2 := by
              rcases hS.2 with ⟨n2, r2, a, b, d⟩ | ⟨a, b⟩
              · exact ⟨n2, r2, a, d⟩
              · exact absurd b c50
            refine x_iinc (v := nI (c + 1)) (lv' := [(1, .int (nI (c + 1))), (2, .int (nI k)), (0, mx_rf E 0)]) 1 dX3_readStatements_59 rfl (nI_1 _) (by decide) rfl ?_
            refine x_iinc (v := nI (k + 1)) (lv' := [(2, .int (nI (k + 1))), (1, .int (nI (c + 1))), (0, mx_rf E 0)]) 1 dX3_readStatements_62 rfl (nI_1 _) (by decide) rfl ?_
            refine x_goto dX3_readStatements_65 ?_
            exact ih15 (k + 1) (by omega) (by omega) _ _ _ _ (by omega) hT3 (f_st_wf hw1 h51 hgd hs).1 (f_st_wf hw1 h51 hgd hs).2 (hO.tr hS.1) (f_tgT hlt hgo hst hs)
          · have hs : f_st n1 r1 L k = none := by
              rcases hS.2 with ⟨n2, r2, a, b, d⟩ | ⟨a, b⟩
              · exact absurd (b.symm.trans c50) (by decide)
              · exact a
            have hx := f_tgF hlt hgo hst hs
            refine x_sipush (v := -2000) dX3_readStatements_53 (by decide) ?_
            refine x_iload_n 0 dX3_readStatements_56 rfl ?_
            refine x_isub dX3_readStatements_57 ?_
            exact x_iret dX3_readStatements_58 ⟨by rw [hx], by rw [hx]; exact hT.offt hn6 (by decide) (by decide) (by decide) (by decide) (by decide) (hO.tr hS.1), fun k h1 h2 => (hO.tr hS.1) k h2⟩
  exact key15 0 (Nat.zero_le _) 0 n r _ (Nat.le_refl 0) h8.1 hw h5 h8.2 rfl
