set_option maxHeartbeats 4000000 in
theorem qX3_kindOf {E : mx_E} {σ : Mem} (c : Int32) : MX3_kindOf E 0 [.int c] σ (mx_ie (f_kd c) σ) := by
  refine MM.of (lv := [(0, .int c)]) kpX3 rfl (Nat.le_of_ble_eq_true rfl) rfl ?_
  refine x_iload_n 0 dX3_kindOf_0 rfl ?_
  by_cases c1_0 : c = 99
  · refine x_tableIn (off := 81) (tgt := 82) dX3_kindOf_1 (by rw [c1_0]; decide) (by rw [c1_0]; decide) (by rw [c1_0]; decide) (by decide) ?_
    refine x_iconst (v := 5) dX3_kindOf_82 (by decide) ?_
    exact x_iret dX3_kindOf_83 ⟨by simp [f_kd, *], rfl⟩
  by_cases c1_1 : c = 100
  · refine x_tableIn (off := 83) (tgt := 84) dX3_kindOf_1 (by rw [c1_1]; decide) (by rw [c1_1]; decide) (by rw [c1_1]; decide) (by decide) ?_
    refine x_bipush (v := -9) dX3_kindOf_84 (by decide) ?_
    exact x_iret dX3_kindOf_86 ⟨by simp [f_kd, *], rfl⟩
  by_cases c1_2 : c = 101
  · refine x_tableIn (off := 83) (tgt := 84) dX3_kindOf_1 (by rw [c1_2]; decide) (by rw [c1_2]; decide) (by rw [c1_2]; decide) (by decide) ?_
    refine x_bipush (v := -9) dX3_kindOf_84 (by decide) ?_
    exact x_iret dX3_kindOf_86 ⟨by simp [f_kd, *], rfl⟩
  by_cases c1_3 : c = 102
  · refine x_tableIn (off := 83) (tgt := 84) dX3_kindOf_1 (by rw [c1_3]; decide) (by rw [c1_3]; decide) (by rw [c1_3]; decide) (by decide) ?_
    refine x_bipush (v := -9) dX3_kindOf_84 (by decide) ?_
    exact x_iret dX3_kindOf_86 ⟨by simp [f_kd, *], rfl⟩
  by_cases c1_4 : c = 103
  · refine x_tableIn (off := 79) (tgt := 80) dX3_kindOf_1 (by rw [c1_4]; decide) (by rw [c1_4]; decide) (by rw [c1_4]; decide) (by decide) ?_
    refine x_iconst (v := 4) dX3_kindOf_80 (by decide) ?_
    exact x_iret dX3_kindOf_81 ⟨by simp [f_kd, *], rfl⟩
  by_cases c1_5 : c = 104
  · refine x_tableIn (off := 71) (tgt := 72) dX3_kindOf_1 (by rw [c1_5]; decide) (by rw [c1_5]; decide) (by rw [c1_5]; decide) (by decide) ?_
    refine x_iconst (v := 0) dX3_kindOf_72 (by decide) ?_
    exact x_iret dX3_kindOf_73 ⟨by simp [f_kd, *], rfl⟩
  by_cases c1_6 : c = 105
  · refine x_tableIn (off := 77) (tgt := 78) dX3_kindOf_1 (by rw [c1_6]; decide) (by rw [c1_6]; decide) (by rw [c1_6]; decide) (by decide) ?_
    refine x_iconst (v := 3) dX3_kindOf_78 (by decide) ?_
    exact x_iret dX3_kindOf_79 ⟨by simp [f_kd, *], rfl⟩
  by_cases c1_7 : c = 106
  · refine x_tableIn (off := 83) (tgt := 84) dX3_kindOf_1 (by rw [c1_7]; decide) (by rw [c1_7]; decide) (by rw [c1_7]; decide) (by decide) ?_
    refine x_bipush (v := -9) dX3_kindOf_84 (by decide) ?_
    exact x_iret dX3_kindOf_86 ⟨by simp [f_kd, *], rfl⟩
  by_cases c1_8 : c = 107
  · refine x_tableIn (off := 83) (tgt := 84) dX3_kindOf_1 (by rw [c1_8]; decide) (by rw [c1_8]; decide) (by rw [c1_8]; decide) (by decide) ?_
    refine x_bipush (v := -9) dX3_kindOf_84 (by decide) ?_
    exact x_iret dX3_kindOf_86 ⟨by simp [f_kd, *], rfl⟩
  by_cases c1_9 : c = 108
  · refine x_tableIn (off := 83) (tgt := 84) dX3_kindOf_1 (by rw [c1_9]; decide) (by rw [c1_9]; decide) (by rw [c1_9]; decide) (by decide) ?_
    refine x_bipush (v := -9) dX3_kindOf_84 (by decide) ?_
    exact x_iret dX3_kindOf_86 ⟨by simp [f_kd, *], rfl⟩
  by_cases c1_10 : c = 109
  · refine x_tableIn (off := 75) (tgt := 76) dX3_kindOf_1 (by rw [c1_10]; decide) (by rw [c1_10]; decide) (by rw [c1_10]; decide) (by decide) ?_
    refine x_iconst (v := 2) dX3_kindOf_76 (by decide) ?_
    exact x_iret dX3_kindOf_77 ⟨by simp [f_kd, *], rfl⟩
  by_cases c1_11 : c = 110
  · refine x_tableIn (off := 83) (tgt := 84) dX3_kindOf_1 (by rw [c1_11]; decide) (by rw [c1_11]; decide) (by rw [c1_11]; decide) (by decide) ?_
    refine x_bipush (v := -9) dX3_kindOf_84 (by decide) ?_
    exact x_iret dX3_kindOf_86 ⟨by simp [f_kd, *], rfl⟩
  by_cases c1_12 : c = 111
  · refine x_tableIn (off := 83) (tgt := 84) dX3_kindOf_1 (by rw [c1_12]; decide) (by rw [c1_12]; decide) (by rw [c1_12]; decide) (by decide) ?_
    refine x_bipush (v := -9) dX3_kindOf_84 (by decide) ?_
    exact x_iret dX3_kindOf_86 ⟨by simp [f_kd, *], rfl⟩
  by_cases c1_13 : c = 112
  · refine x_tableIn (off := 73) (tgt := 74) dX3_kindOf_1 (by rw [c1_13]; decide) (by rw [c1_13]; decide) (by rw [c1_13]; decide) (by decide) ?_
    refine x_iconst (v := 1) dX3_kindOf_74 (by decide) ?_
    exact x_iret dX3_kindOf_75 ⟨by simp [f_kd, *], rfl⟩
  have hsw1 : (c).toInt < 99 ∨ 112 < (c).toInt := by
    have q_c1_0 := lv_neT c1_0 (show (99 : Int32).toInt = 99 from rfl)
    have q_c1_1 := lv_neT c1_1 (show (100 : Int32).toInt = 100 from rfl)
    have q_c1_2 := lv_neT c1_2 (show (101 : Int32).toInt = 101 from rfl)
    have q_c1_3 := lv_neT c1_3 (show (102 : Int32).toInt = 102 from rfl)
    have q_c1_4 := lv_neT c1_4 (show (103 : Int32).toInt = 103 from rfl)
    have q_c1_5 := lv_neT c1_5 (show (104 : Int32).toInt = 104 from rfl)
    have q_c1_6 := lv_neT c1_6 (show (105 : Int32).toInt = 105 from rfl)
    have q_c1_7 := lv_neT c1_7 (show (106 : Int32).toInt = 106 from rfl)
    have q_c1_8 := lv_neT c1_8 (show (107 : Int32).toInt = 107 from rfl)
    have q_c1_9 := lv_neT c1_9 (show (108 : Int32).toInt = 108 from rfl)
    have q_c1_10 := lv_neT c1_10 (show (109 : Int32).toInt = 109 from rfl)
    have q_c1_11 := lv_neT c1_11 (show (110 : Int32).toInt = 110 from rfl)
    have q_c1_12 := lv_neT c1_12 (show (111 : Int32).toInt = 111 from rfl)
    have q_c1_13 := lv_neT c1_13 (show (112 : Int32).toInt = 112 from rfl)
    omega
  refine x_tableOut (tgt := 84) dX3_kindOf_1 hsw1 (by decide) ?_
  refine x_bipush (v := -9) dX3_kindOf_84 (by decide) ?_
  exact x_iret dX3_kindOf_86 ⟨by simp [f_kd, *], rfl⟩

set_option maxHeartbeats 4000000 in
theorem qX3_waitsBehindFirst {E : mx_E} {σ : Mem} (c : Int32) : MX3_waitsBehindFirst E 0 [.int c] σ (mx_ie (f_w1 c) σ) := by
  refine MM.of (lv := [(0, .int c)]) kpX3 rfl (Nat.le_of_ble_eq_true rfl) rfl ?_
  refine x_iload_n 0 dX3_waitsBehindFirst_0 rfl ?_
  by_cases c1_0 : c = 99
  · refine x_tableIn (off := 106) (tgt := 107) dX3_waitsBehindFirst_1 (by rw [c1_0]; decide) (by rw [c1_0]; decide) (by rw [c1_0]; decide) (by decide) ?_
    refine x_iconst (v := 3) dX3_waitsBehindFirst_107 (by decide) ?_
    exact x_iret dX3_waitsBehindFirst_108 ⟨by simp [f_w1, *], rfl⟩
  by_cases c1_1 : c = 100
  · refine x_tableIn (off := 106) (tgt := 107) dX3_waitsBehindFirst_1 (by rw [c1_1]; decide) (by rw [c1_1]; decide) (by rw [c1_1]; decide) (by decide) ?_
    refine x_iconst (v := 3) dX3_waitsBehindFirst_107 (by decide) ?_
    exact x_iret dX3_waitsBehindFirst_108 ⟨by simp [f_w1, *], rfl⟩
  by_cases c1_2 : c = 101
  · refine x_tableIn (off := 112) (tgt := 113) dX3_waitsBehindFirst_1 (by rw [c1_2]; decide) (by rw [c1_2]; decide) (by rw [c1_2]; decide) (by decide) ?_
    refine x_bipush (v := -3) dX3_waitsBehindFirst_113 (by decide) ?_
    exact x_iret dX3_waitsBehindFirst_115 ⟨by simp [f_w1, *], rfl⟩
  by_cases c1_3 : c = 102
  · refine x_tableIn (off := 112) (tgt := 113) dX3_waitsBehindFirst_1 (by rw [c1_3]; decide) (by rw [c1_3]; decide) (by rw [c1_3]; decide) (by decide) ?_
    refine x_bipush (v := -3) dX3_waitsBehindFirst_113 (by decide) ?_
    exact x_iret dX3_waitsBehindFirst_115 ⟨by simp [f_w1, *], rfl⟩
  by_cases c1_4 : c = 103
  · refine x_tableIn (off := 112) (tgt := 113) dX3_waitsBehindFirst_1 (by rw [c1_4]; decide) (by rw [c1_4]; decide) (by rw [c1_4]; decide) (by decide) ?_
    refine x_bipush (v := -3) dX3_waitsBehindFirst_113 (by decide) ?_
    exact x_iret dX3_waitsBehindFirst_115 ⟨by simp [f_w1, *], rfl⟩
  by_cases c1_5 : c = 104
  · refine x_tableIn (off := 103) (tgt := 104) dX3_waitsBehindFirst_1 (by rw [c1_5]; decide) (by rw [c1_5]; decide) (by rw [c1_5]; decide) (by decide) ?_
    refine x_bipush (v := -2) dX3_waitsBehindFirst_104 (by decide) ?_
    exact x_iret dX3_waitsBehindFirst_106 ⟨by simp [f_w1, *], rfl⟩
  by_cases c1_6 : c = 105
  · refine x_tableIn (off := 110) (tgt := 111) dX3_waitsBehindFirst_1 (by rw [c1_6]; decide) (by rw [c1_6]; decide) (by rw [c1_6]; decide) (by decide) ?_
    refine x_iconst (v := 1) dX3_waitsBehindFirst_111 (by decide) ?_
    exact x_iret dX3_waitsBehindFirst_112 ⟨by simp [f_w1, *], rfl⟩
  by_cases c1_7 : c = 106
  · refine x_tableIn (off := 112) (tgt := 113) dX3_waitsBehindFirst_1 (by rw [c1_7]; decide) (by rw [c1_7]; decide) (by rw [c1_7]; decide) (by decide) ?_
    refine x_bipush (v := -3) dX3_waitsBehindFirst_113 (by decide) ?_
    exact x_iret dX3_waitsBehindFirst_115 ⟨by simp [f_w1, *], rfl⟩
  by_cases c1_8 : c = 107
  · refine x_tableIn (off := 112) (tgt := 113) dX3_waitsBehindFirst_1 (by rw [c1_8]; decide) (by rw [c1_8]; decide) (by rw [c1_8]; decide) (by decide) ?_
    refine x_bipush (v := -3) dX3_waitsBehindFirst_113 (by decide) ?_
    exact x_iret dX3_waitsBehindFirst_115 ⟨by simp [f_w1, *], rfl⟩
  by_cases c1_9 : c = 108
  · refine x_tableIn (off := 112) (tgt := 113) dX3_waitsBehindFirst_1 (by rw [c1_9]; decide) (by rw [c1_9]; decide) (by rw [c1_9]; decide) (by decide) ?_
    refine x_bipush (v := -3) dX3_waitsBehindFirst_113 (by decide) ?_
    exact x_iret dX3_waitsBehindFirst_115 ⟨by simp [f_w1, *], rfl⟩
  by_cases c1_10 : c = 109
  · refine x_tableIn (off := 112) (tgt := 113) dX3_waitsBehindFirst_1 (by rw [c1_10]; decide) (by rw [c1_10]; decide) (by rw [c1_10]; decide) (by decide) ?_
    refine x_bipush (v := -3) dX3_waitsBehindFirst_113 (by decide) ?_
    exact x_iret dX3_waitsBehindFirst_115 ⟨by simp [f_w1, *], rfl⟩
  by_cases c1_11 : c = 110
  · refine x_tableIn (off := 112) (tgt := 113) dX3_waitsBehindFirst_1 (by rw [c1_11]; decide) (by rw [c1_11]; decide) (by rw [c1_11]; decide) (by decide) ?_
    refine x_bipush (v := -3) dX3_waitsBehindFirst_113 (by decide) ?_
    exact x_iret dX3_waitsBehindFirst_115 ⟨by simp [f_w1, *], rfl⟩
  by_cases c1_12 : c = 111
  · refine x_tableIn (off := 112) (tgt := 113) dX3_waitsBehindFirst_1 (by rw [c1_12]; decide) (by rw [c1_12]; decide) (by rw [c1_12]; decide) (by decide) ?_
    refine x_bipush (v := -3) dX3_waitsBehindFirst_113 (by decide) ?_
    exact x_iret dX3_waitsBehindFirst_115 ⟨by simp [f_w1, *], rfl⟩
  by_cases c1_13 : c = 112
  · refine x_tableIn (off := 106) (tgt := 107) dX3_waitsBehindFirst_1 (by rw [c1_13]; decide) (by rw [c1_13]; decide) (by rw [c1_13]; decide) (by decide) ?_
    refine x_iconst (v := 3) dX3_waitsBehindFirst_107 (by decide) ?_
    exact x_iret dX3_waitsBehindFirst_108 ⟨by simp [f_w1, *], rfl⟩
  by_cases c1_14 : c = 113
  · refine x_tableIn (off := 112) (tgt := 113) dX3_waitsBehindFirst_1 (by rw [c1_14]; decide) (by rw [c1_14]; decide) (by rw [c1_14]; decide) (by decide) ?_
    refine x_bipush (v := -3) dX3_waitsBehindFirst_113 (by decide) ?_
    exact x_iret dX3_waitsBehindFirst_115 ⟨by simp [f_w1, *], rfl⟩
  by_cases c1_15 : c = 114
  · refine x_tableIn (off := 112) (tgt := 113) dX3_waitsBehindFirst_1 (by rw [c1_15]; decide) (by rw [c1_15]; decide) (by rw [c1_15]; decide) (by decide) ?_
    refine x_bipush (v := -3) dX3_waitsBehindFirst_113 (by decide) ?_
    exact x_iret dX3_waitsBehindFirst_115 ⟨by simp [f_w1, *], rfl⟩
  by_cases c1_16 : c = 115
  · refine x_tableIn (off := 112) (tgt := 113) dX3_waitsBehindFirst_1 (by rw [c1_16]; decide) (by rw [c1_16]; decide) (by rw [c1_16]; decide) (by decide) ?_
    refine x_bipush (v := -3) dX3_waitsBehindFirst_113 (by decide) ?_
    exact x_iret dX3_waitsBehindFirst_115 ⟨by simp [f_w1, *], rfl⟩
  by_cases c1_17 : c = 116
  · refine x_tableIn (off := 112) (tgt := 113) dX3_waitsBehindFirst_1 (by rw [c1_17]; decide) (by rw [c1_17]; decide) (by rw [c1_17]; decide) (by decide) ?_
    refine x_bipush (v := -3) dX3_waitsBehindFirst_113 (by decide) ?_
    exact x_iret dX3_waitsBehindFirst_115 ⟨by simp [f_w1, *], rfl⟩
  by_cases c1_18 : c = 117
  · refine x_tableIn (off := 112) (tgt := 113) dX3_waitsBehindFirst_1 (by rw [c1_18]; decide) (by rw [c1_18]; decide) (by rw [c1_18]; decide) (by decide) ?_
    refine x_bipush (v := -3) dX3_waitsBehindFirst_113 (by decide) ?_
    exact x_iret dX3_waitsBehindFirst_115 ⟨by simp [f_w1, *], rfl⟩
  by_cases c1_19 : c = 118
  · refine x_tableIn (off := 112) (tgt := 113) dX3_waitsBehindFirst_1 (by rw [c1_19]; decide) (by rw [c1_19]; decide) (by rw [c1_19]; decide) (by decide) ?_
    refine x_bipush (v := -3) dX3_waitsBehindFirst_113 (by decide) ?_
    exact x_iret dX3_waitsBehindFirst_115 ⟨by simp [f_w1, *], rfl⟩
  by_cases c1_20 : c = 119
  · refine x_tableIn (off := 108) (tgt := 109) dX3_waitsBehindFirst_1 (by rw [c1_20]; decide) (by rw [c1_20]; decide) (by rw [c1_20]; decide) (by decide) ?_
    refine x_iconst (v := 2) dX3_waitsBehindFirst_109 (by decide) ?_
    exact x_iret dX3_waitsBehindFirst_110 ⟨by simp [f_w1, *], rfl⟩
  by_cases c1_21 : c = 120
  · refine x_tableIn (off := 110) (tgt := 111) dX3_waitsBehindFirst_1 (by rw [c1_21]; decide) (by rw [c1_21]; decide) (by rw [c1_21]; decide) (by decide) ?_
    refine x_iconst (v := 1) dX3_waitsBehindFirst_111 (by decide) ?_
    exact x_iret dX3_waitsBehindFirst_112 ⟨by simp [f_w1, *], rfl⟩
  have hsw1 : (c).toInt < 99 ∨ 120 < (c).toInt := by
    have q_c1_0 := lv_neT c1_0 (show (99 : Int32).toInt = 99 from rfl)
    have q_c1_1 := lv_neT c1_1 (show (100 : Int32).toInt = 100 from rfl)
    have q_c1_2 := lv_neT c1_2 (show (101 : Int32).toInt = 101 from rfl)
    have q_c1_3 := lv_neT c1_3 (show (102 : Int32).toInt = 102 from rfl)
    have q_c1_4 := lv_neT c1_4 (show (103 : Int32).toInt = 103 from rfl)
    have q_c1_5 := lv_neT c1_5 (show (104 : Int32).toInt = 104 from rfl)
    have q_c1_6 := lv_neT c1_6 (show (105 : Int32).toInt = 105 from rfl)
    have q_c1_7 := lv_neT c1_7 (show (106 : Int32).toInt = 106 from rfl)
    have q_c1_8 := lv_neT c1_8 (show (107 : Int32).toInt = 107 from rfl)
    have q_c1_9 := lv_neT c1_9 (show (108 : Int32).toInt = 108 from rfl)
    have q_c1_10 := lv_neT c1_10 (show (109 : Int32).toInt = 109 from rfl)
    have q_c1_11 := lv_neT c1_11 (show (110 : Int32).toInt = 110 from rfl)
    have q_c1_12 := lv_neT c1_12 (show (111 : Int32).toInt = 111 from rfl)
    have q_c1_13 := lv_neT c1_13 (show (112 : Int32).toInt = 112 from rfl)
    have q_c1_14 := lv_neT c1_14 (show (113 : Int32).toInt = 113 from rfl)
    have q_c1_15 := lv_neT c1_15 (show (114 : Int32).toInt = 114 from rfl)
    have q_c1_16 := lv_neT c1_16 (show (115 : Int32).toInt = 115 from rfl)
    have q_c1_17 := lv_neT c1_17 (show (116 : Int32).toInt = 116 from rfl)
    have q_c1_18 := lv_neT c1_18 (show (117 : Int32).toInt = 117 from rfl)
    have q_c1_19 := lv_neT c1_19 (show (118 : Int32).toInt = 118 from rfl)
    have q_c1_20 := lv_neT c1_20 (show (119 : Int32).toInt = 119 from rfl)
    have q_c1_21 := lv_neT c1_21 (show (120 : Int32).toInt = 120 from rfl)
    omega
  refine x_tableOut (tgt := 113) dX3_waitsBehindFirst_1 hsw1 (by decide) ?_
  refine x_bipush (v := -3) dX3_waitsBehindFirst_113 (by decide) ?_
  exact x_iret dX3_waitsBehindFirst_115 ⟨by simp [f_w1, *], rfl⟩

set_option maxHeartbeats 4000000 in
theorem qX3_waitsBehind {E : mx_E} {σ : Mem} (w c : Int32) : MX3_waitsBehind E 1 [.int w, .int c] σ (mx_ie (f_ws w c) σ) := by
  refine MM.of (lv := [(0, .int w), (1, .int c)]) kpX3 rfl (Nat.le_of_ble_eq_true rfl) rfl ?_
  refine x_iload_n 0 dX3_waitsBehind_0 rfl ?_
  refine x_iconst (v := -1) dX3_waitsBehind_1 (by decide) ?_
  refine x_icmp_ne dX3_waitsBehind_2 (fun c2 => ?_) (fun c2 => ?_)
  · refine x_iload_n 0 dX3_waitsBehind_10 rfl ?_
    refine x_bipush (v := -2) dX3_waitsBehind_11 (by decide) ?_
    refine x_icmp_ne dX3_waitsBehind_13 (fun c13 => ?_) (fun c13 => ?_)
    · refine x_iload_n 0 dX3_waitsBehind_32 rfl ?_
      refine x_if_ne dX3_waitsBehind_33 (fun c33 => ?_) (fun c33 => ?_)
      · refine x_iload_n 1 dX3_waitsBehind_49 rfl ?_
        refine x_bipush (v := 48) dX3_waitsBehind_50 (by decide) ?_
        refine x_icmp_lt dX3_waitsBehind_52 (fun c52 => ?_) (fun c52 => ?_)
        · refine x_bipush (v := -3) dX3_waitsBehind_67 (by decide) ?_
          exact x_iret dX3_waitsBehind_69 ⟨by simp [f_ws, f_in, c2, c13, c33, c52, (Int32.not_le.mpr c52)], rfl⟩
        · refine x_iload_n 1 dX3_waitsBehind_55 rfl ?_
          refine x_bipush (v := 57) dX3_waitsBehind_56 (by decide) ?_
          refine x_icmp_gt dX3_waitsBehind_58 (fun c58 => ?_) (fun c58 => ?_)
          · refine x_bipush (v := -3) dX3_waitsBehind_67 (by decide) ?_
            exact x_iret dX3_waitsBehind_69 ⟨by simp [f_ws, f_in, c2, c13, c33, c52, (Int32.not_lt.mp c52), c58, (Int32.not_le.mpr c58)], rfl⟩
          · refine x_iload_n 0 dX3_waitsBehind_61 rfl ?_
            refine x_iconst (v := 1) dX3_waitsBehind_62 (by decide) ?_
            refine x_isub dX3_waitsBehind_63 ?_
            refine x_goto dX3_waitsBehind_64 ?_
            exact x_iret dX3_waitsBehind_69 ⟨by simp [f_ws, f_in, c2, c13, c33, c52, (Int32.not_lt.mp c52), c58, (Int32.not_lt.mp c58)], rfl⟩
      · refine x_iload_n 1 dX3_waitsBehind_36 rfl ?_
        refine x_bipush (v := 59) dX3_waitsBehind_37 (by decide) ?_
        refine x_icmp_ne dX3_waitsBehind_39 (fun c39 => ?_) (fun c39 => ?_)
        · refine x_bipush (v := -3) dX3_waitsBehind_46 (by decide) ?_
          exact x_iret dX3_waitsBehind_48 ⟨by simp [f_ws, f_in, c2, c13, c33, c39], rfl⟩
        · refine x_iconst (v := -1) dX3_waitsBehind_42 (by decide) ?_
          refine x_goto dX3_waitsBehind_43 ?_
          exact x_iret dX3_waitsBehind_48 ⟨by simp [f_ws, f_in, c2, c13, c33, c39], rfl⟩
    · refine x_iload_n 1 dX3_waitsBehind_16 rfl ?_
      refine clX3_91 (qX3_kindOf c) (by decide) rfl dX3_waitsBehind_17 (fun r17 τ17 h17 => ?_)
      obtain ⟨rfl, rfl⟩ := h17
      refine x_bipush (v := -9) dX3_waitsBehind_20 (by decide) ?_
      refine x_icmp_ne dX3_waitsBehind_22 (fun c22 => ?_) (fun c22 => ?_)
      · refine x_iconst (v := 4) dX3_waitsBehind_30 (by decide) ?_
        exact x_iret dX3_waitsBehind_31 ⟨by simp [f_ws, f_in, c2, c13, c22], rfl⟩
      · refine x_bipush (v := -3) dX3_waitsBehind_25 (by decide) ?_
        refine x_goto dX3_waitsBehind_27 ?_
        exact x_iret dX3_waitsBehind_31 ⟨by simp [f_ws, f_in, c2, c13, c22], rfl⟩
  · refine x_iload_n 1 dX3_waitsBehind_5 rfl ?_
    refine clX3_88 (qX3_waitsBehindFirst c) (by decide) rfl dX3_waitsBehind_6 (fun r6 τ6 h6 => ?_)
    obtain ⟨rfl, rfl⟩ := h6
    exact x_iret dX3_waitsBehind_9 ⟨by simp [f_ws, f_in, c2], rfl⟩
