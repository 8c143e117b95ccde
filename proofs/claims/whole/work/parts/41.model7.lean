set_option maxHeartbeats 4000000 in
theorem qX4_kindBy {E : mx_E} {σ : Mem} (c : Int32) : MX4_kindBy E 0 [.int c] σ (mx_ie (f_kd c) σ) := by
  refine MM.of (lv := [(0, .int c)]) kpX4 rfl (Nat.le_of_ble_eq_true rfl) rfl ?_
  refine x_iload_n 0 dX4_kindBy_0 rfl ?_
  by_cases c1_0 : c = 99
  · refine x_tableIn (off := 81) (tgt := 82) dX4_kindBy_1 (by rw [c1_0]; decide) (by rw [c1_0]; decide) (by rw [c1_0]; decide) (by decide) ?_
    refine x_iconst (v := 5) dX4_kindBy_82 (by decide) ?_
    exact x_iret dX4_kindBy_83 ⟨by simp [f_kd, *], rfl⟩
  by_cases c1_1 : c = 100
  · refine x_tableIn (off := 83) (tgt := 84) dX4_kindBy_1 (by rw [c1_1]; decide) (by rw [c1_1]; decide) (by rw [c1_1]; decide) (by decide) ?_
    refine x_bipush (v := -9) dX4_kindBy_84 (by decide) ?_
    exact x_iret dX4_kindBy_86 ⟨by simp [f_kd, *], rfl⟩
  by_cases c1_2 : c = 101
  · refine x_tableIn (off := 83) (tgt := 84) dX4_kindBy_1 (by rw [c1_2]; decide) (by rw [c1_2]; decide) (by rw [c1_2]; decide) (by decide) ?_
    refine x_bipush (v := -9) dX4_kindBy_84 (by decide) ?_
    exact x_iret dX4_kindBy_86 ⟨by simp [f_kd, *], rfl⟩
  by_cases c1_3 : c = 102
  · refine x_tableIn (off := 83) (tgt := 84) dX4_kindBy_1 (by rw [c1_3]; decide) (by rw [c1_3]; decide) (by rw [c1_3]; decide) (by decide) ?_
    refine x_bipush (v := -9) dX4_kindBy_84 (by decide) ?_
    exact x_iret dX4_kindBy_86 ⟨by simp [f_kd, *], rfl⟩
  by_cases c1_4 : c = 103
  · refine x_tableIn (off := 79) (tgt := 80) dX4_kindBy_1 (by rw [c1_4]; decide) (by rw [c1_4]; decide) (by rw [c1_4]; decide) (by decide) ?_
    refine x_iconst (v := 4) dX4_kindBy_80 (by decide) ?_
    exact x_iret dX4_kindBy_81 ⟨by simp [f_kd, *], rfl⟩
  by_cases c1_5 : c = 104
  · refine x_tableIn (off := 71) (tgt := 72) dX4_kindBy_1 (by rw [c1_5]; decide) (by rw [c1_5]; decide) (by rw [c1_5]; decide) (by decide) ?_
    refine x_iconst (v := 0) dX4_kindBy_72 (by decide) ?_
    exact x_iret dX4_kindBy_73 ⟨by simp [f_kd, *], rfl⟩
  by_cases c1_6 : c = 105
  · refine x_tableIn (off := 77) (tgt := 78) dX4_kindBy_1 (by rw [c1_6]; decide) (by rw [c1_6]; decide) (by rw [c1_6]; decide) (by decide) ?_
    refine x_iconst (v := 3) dX4_kindBy_78 (by decide) ?_
    exact x_iret dX4_kindBy_79 ⟨by simp [f_kd, *], rfl⟩
  by_cases c1_7 : c = 106
  · refine x_tableIn (off := 83) (tgt := 84) dX4_kindBy_1 (by rw [c1_7]; decide) (by rw [c1_7]; decide) (by rw [c1_7]; decide) (by decide) ?_
    refine x_bipush (v := -9) dX4_kindBy_84 (by decide) ?_
    exact x_iret dX4_kindBy_86 ⟨by simp [f_kd, *], rfl⟩
  by_cases c1_8 : c = 107
  · refine x_tableIn (off := 83) (tgt := 84) dX4_kindBy_1 (by rw [c1_8]; decide) (by rw [c1_8]; decide) (by rw [c1_8]; decide) (by decide) ?_
    refine x_bipush (v := -9) dX4_kindBy_84 (by decide) ?_
    exact x_iret dX4_kindBy_86 ⟨by simp [f_kd, *], rfl⟩
  by_cases c1_9 : c = 108
  · refine x_tableIn (off := 83) (tgt := 84) dX4_kindBy_1 (by rw [c1_9]; decide) (by rw [c1_9]; decide) (by rw [c1_9]; decide) (by decide) ?_
    refine x_bipush (v := -9) dX4_kindBy_84 (by decide) ?_
    exact x_iret dX4_kindBy_86 ⟨by simp [f_kd, *], rfl⟩
  by_cases c1_10 : c = 109
  · refine x_tableIn (off := 75) (tgt := 76) dX4_kindBy_1 (by rw [c1_10]; decide) (by rw [c1_10]; decide) (by rw [c1_10]; decide) (by decide) ?_
    refine x_iconst (v := 2) dX4_kindBy_76 (by decide) ?_
    exact x_iret dX4_kindBy_77 ⟨by simp [f_kd, *], rfl⟩
  by_cases c1_11 : c = 110
  · refine x_tableIn (off := 83) (tgt := 84) dX4_kindBy_1 (by rw [c1_11]; decide) (by rw [c1_11]; decide) (by rw [c1_11]; decide) (by decide) ?_
    refine x_bipush (v := -9) dX4_kindBy_84 (by decide) ?_
    exact x_iret dX4_kindBy_86 ⟨by simp [f_kd, *], rfl⟩
  by_cases c1_12 : c = 111
  · refine x_tableIn (off := 83) (tgt := 84) dX4_kindBy_1 (by rw [c1_12]; decide) (by rw [c1_12]; decide) (by rw [c1_12]; decide) (by decide) ?_
    refine x_bipush (v := -9) dX4_kindBy_84 (by decide) ?_
    exact x_iret dX4_kindBy_86 ⟨by simp [f_kd, *], rfl⟩
  by_cases c1_13 : c = 112
  · refine x_tableIn (off := 73) (tgt := 74) dX4_kindBy_1 (by rw [c1_13]; decide) (by rw [c1_13]; decide) (by rw [c1_13]; decide) (by decide) ?_
    refine x_iconst (v := 1) dX4_kindBy_74 (by decide) ?_
    exact x_iret dX4_kindBy_75 ⟨by simp [f_kd, *], rfl⟩
  have hsw1 : (c).toInt < 99 ∨ 112 < (c).toInt := by
    have q_c1_0 := lv_neT c1_0 (show (99 : Int32).toInt = 99 from rfl)
    have q_c1_1 := lv_neT c1_1 (show (100 : Int32).toInt = 100 from rfl)
    have q_c1_2 := lv_neT c1_2 (show (101 : Int32).toInt = 101 from rfl)
    have q_c1_3 := lv_neT c1_3 (show (102 : Int32).toInt = 102 from rfl)
    have q_c1_4 := lv_neT c1_4 (show (103 : Int32).toInt = 103 from rfl)
    have q_c1_5 := lv_neT c1_5 (show (104 : Int32).toInt = 104 from rfl)
    have q_c1_6 := lv_neT c1_6 (show (105 : Int32).toInt = 105 from rfl)
    have q_c1_7 := lv_neT c1_7 (show (106 : Int32).toInt = 106 from rfl)
    have q_c1_8 := lv_neT c1_8 (show (107 : Int32).toInt = 107 from rfl)
    have q_c1_9 := lv_neT c1_9 (show (108 : Int32).toInt = 108 from rfl)
    have q_c1_10 := lv_neT c1_10 (show (109 : Int32).toInt = 109 from rfl)
    have q_c1_11 := lv_neT c1_11 (show (110 : Int32).toInt = 110 from rfl)
    have q_c1_12 := lv_neT c1_12 (show (111 : Int32).toInt = 111 from rfl)
    have q_c1_13 := lv_neT c1_13 (show (112 : Int32).toInt = 112 from rfl)
    omega
  refine x_tableOut (tgt := 84) dX4_kindBy_1 hsw1 (by decide) ?_
  refine x_bipush (v := -9) dX4_kindBy_84 (by decide) ?_
  exact x_iret dX4_kindBy_86 ⟨by simp [f_kd, *], rfl⟩

set_option maxHeartbeats 4000000 in
theorem qX4_here {E : mx_E} {σ : Mem} {L : Row} {lm p : Nat} (hlm : lm ≤ 96) (hz2 : σ 35 8 = nI lm) (hL : ∀ j, j < lm → σ 40 j = L j) (hpl : σ 35 10 = nI p) (hp : p < 2000)  : MX4_here E 0 [mx_rf E 35] σ (mx_ie (f_here L lm p) σ) := by
  refine MM.of (lv := [(0, mx_rf E 35)]) kpX4 rfl (Nat.le_of_ble_eq_true rfl) rfl ?_
  refine x_aload_n 0 dX4_here_0 rfl ?_
  refine gfX4_91 dX4_here_1 ?_
  refine x_top (show σ 35 10 = nI p from hpl) ?_
  refine x_aload_n 0 dX4_here_4 rfl ?_
  refine gfX4_87 dX4_here_5 ?_
  refine x_top (show σ 35 8 = nI lm from hz2) ?_
  refine x_icmp_ge dX4_here_8 (fun c8 => ?_) (fun c8 => ?_)
  · have hge := nI_le_of (by omega) (by omega) c8
    refine x_iconst (v := -1) dX4_here_23 (by decide) ?_
    exact x_iret dX4_here_24 ⟨if_neg (by omega), rfl⟩
  · have hlt := nI_lt_of (by omega) (by omega) c8
    refine x_aload_n 0 dX4_here_11 rfl ?_
    refine gfX4_22 dX4_here_12 ?_
    refine x_aload_n 0 dX4_here_15 rfl ?_
    refine gfX4_91 dX4_here_16 ?_
    refine x_top (show σ 35 10 = nI p from hpl) ?_
    refine x_iald (j := p) (by decide) (by decide) (by decide) (show p < 96 by omega) dX4_here_19 ?_
    refine x_top (show σ 40 p = L p from (hL p hlt)) ?_
    refine x_goto dX4_here_20 ?_
    exact x_iret dX4_here_24 ⟨if_pos hlt, rfl⟩

set_option maxHeartbeats 4000000 in
theorem qX4_readsNumber {E : mx_E} {σ : Mem} {L : Row} {lm p : Nat} (hlm : lm ≤ 96) (hz2 : σ 35 8 = nI lm) (hL : ∀ j, j < lm → σ 40 j = L j) (hpl : σ 35 10 = nI p) (hp : p < 1000) (k d : Nat) (hk : k < 4) (hd : d < 10)  : MX4_readsNumber E 1 [mx_rf E 35, .int (nI k), .int (nI d)] σ (mx_ie (zb (decide (f_dc L lm p d = d))) (mx_nm σ k (f_num L p (f_dc L lm p d)) (p + f_dc L lm p d))) := by
  refine MM.of (lv := [(0, mx_rf E 35), (1, .int (nI k)), (2, .int (nI d))]) kpX4 rfl (Nat.le_of_ble_eq_true rfl) rfl ?_
  refine x_aload_n 0 dX4_readsNumber_0 rfl ?_
  refine gfX4_31 dX4_readsNumber_1 ?_
  refine x_iload_n 1 dX4_readsNumber_4 rfl ?_
  refine x_iconst (v := 0) dX4_readsNumber_5 (by decide) ?_
  refine x_iast (j := k) (by decide) (by decide) (by decide) (show k < 4 by omega) dX4_readsNumber_6 ?_
  refine x_mem (mx_nm_0 hpl) ?_
  refine x_iconst (v := 0) dX4_readsNumber_7 (by decide) ?_
  refine x_istore_n (lv' := [(3, .int 0), (0, mx_rf E 35), (1, .int (nI k)), (2, .int (nI d))]) dX4_readsNumber_8 rfl (by decide) rfl ?_
  have key9 : ∀ i, i ≤ d → f_dc L lm p i = i → MX E 1 RX4 cX4_readsNumber 4 (some .boolean) 9 [(3, .int (nI i)), (0, mx_rf E 35), (1, .int (nI k)), (2, .int (nI d))] [] (mx_nm σ k (f_num L p i) (p + i)) (mx_ie (zb (decide (f_dc L lm p d = d))) (mx_nm σ k (f_num L p (f_dc L lm p d)) (p + f_dc L lm p d))) := by
    refine mx_ind d (fun i hi9 ih9 => ?_)
    intro hdc
    refine x_iload_n 0 dX4_readsNumber_9 rfl ?_
    refine x_iload_n 3 dX4_readsNumber_10 rfl ?_
    refine x_icmp_ge dX4_readsNumber_11 (fun c11 => ?_) (fun c11 => ?_)
    · have hge := nI_le_of (by omega) (by omega) c11
      have hid : i = d := by omega
      rw [hid] at hdc
      refine x_iconst (v := 1) dX4_readsNumber_69 (by decide) ?_
      exact x_zret dX4_readsNumber_70 (by decide) ⟨zb_t' (decide_eq_true hdc), by rw [hdc, hid]⟩
    · have hlt := nI_lt_of (by omega) (by omega) c11
      refine x_aload_n 1 dX4_readsNumber_14 rfl ?_
      refine clX4_94 (qX4_here (p := (p + i)) hlm ((mx_nm_35 (by decide)).trans hz2) (fun j hj => (congrFun (mx_nm_o (by decide) (by decide)) j).trans (hL j hj)) mx_nm_p (by omega)) (by decide) rfl dX4_readsNumber_15 (fun r15 τ15 h15 => ?_)
      obtain ⟨rfl, rfl⟩ := h15
      refine x_bipush (v := 48) dX4_readsNumber_18 (by decide) ?_
      refine x_bipush (v := 57) dX4_readsNumber_20 (by decide) ?_
      refine clX4_40 (qX4_isIn (f_here L lm (p + i)) 48 57) (by decide) rfl dX4_readsNumber_22 (fun r22 τ22 h22 => ?_)
      obtain ⟨rfl, rfl⟩ := h22
      refine x_if_ne dX4_readsNumber_25 (fun c25 => ?_) (fun c25 => ?_)
      · replace c25 := zb_1 c25
        refine x_aload_n 1 dX4_readsNumber_30 rfl ?_
        refine gfX4_31 dX4_readsNumber_31 ?_
        refine x_iload_n 2 dX4_readsNumber_34 rfl ?_
        refine x_bipush (v := 10) dX4_readsNumber_35 (by decide) ?_
        refine x_aload_n 1 dX4_readsNumber_37 rfl ?_
        refine gfX4_31 dX4_readsNumber_38 ?_
        refine x_iload_n 2 dX4_readsNumber_41 rfl ?_
        refine x_iald (j := k) (by decide) (by decide) (by decide) (show k < 4 by omega) dX4_readsNumber_42 ?_
        refine x_top (show (mx_nm σ k (f_num L p i) (p + i)) 43 k = f_num L p i from mx_nm_s) ?_
        refine x_imul dX4_readsNumber_43 ?_
        refine x_aload_n 1 dX4_readsNumber_44 rfl ?_
        refine clX4_94 (qX4_here (p := (p + i)) hlm ((mx_nm_35 (by decide)).trans hz2) (fun j hj => (congrFun (mx_nm_o (by decide) (by decide)) j).trans (hL j hj)) mx_nm_p (by omega)) (by decide) rfl dX4_readsNumber_45 (fun r45 τ45 h45 => ?_)
        obtain ⟨rfl, rfl⟩ := h45
        refine x_iadd dX4_readsNumber_48 ?_
        refine x_bipush (v := 48) dX4_readsNumber_49 (by decide) ?_
        refine x_isub dX4_readsNumber_51 ?_
        refine x_top (show ((10 * (f_num L p i)) + (f_here L lm (p + i))) - 48 = f_num L p (i + 1) from (by rw [f_here_l (f_here_d c25).1, Int32.mul_comm]; rfl)) ?_
        refine x_iast (j := k) (by decide) (by decide) (by decide) (show k < 4 by omega) dX4_readsNumber_52 ?_
        refine x_aload_n 1 dX4_readsNumber_53 rfl ?_
        refine x_dup dX4_readsNumber_54 rfl ?_
        refine gfX4_91 dX4_readsNumber_55 ?_
        refine x_top (show (mx_up (mx_nm σ k (f_num L p i) (p + i)) 43 k (f_num L p (i + 1))) 35 10 = nI (p + i) from ((congrFun (mx_up_o (by decide)) 10).trans mx_nm_p)) ?_
        refine x_iconst (v := 1) dX4_readsNumber_58 (by decide) ?_
        refine x_iadd dX4_readsNumber_59 ?_
        refine x_top (show (nI (p + i)) + 1 = nI (p + i + 1) from nI_add (p + i) 1) ?_
        refine pfX4_91 dX4_readsNumber_60 ?_
        refine x_mem (τ := mx_nm σ k (f_num L p (i + 1)) (p + (i + 1))) mx_nm_1 ?_
        refine x_iinc (v := nI (i + 1)) (lv' := [(3, .int (nI (i + 1))), (0, mx_rf E 35), (1, .int (nI k)), (2, .int (nI d))]) 0 dX4_readsNumber_63 rfl (nI_1 _) (by decide) rfl ?_
        refine x_goto dX4_readsNumber_66 ?_
        exact ih9 (i + 1) (by omega) (by omega) (f_dc_T hdc (f_here_d c25).1 (f_here_d c25).2)
      · replace c25 := zb_0 c25
        refine x_iconst (v := 0) dX4_readsNumber_28 (by decide) ?_
        exact x_zret dX4_readsNumber_29 (by decide) ⟨zb_f' (decide_eq_false (by rw [f_dc_F hdc (f_here_n c25) d hlt]; omega)), by rw [f_dc_F hdc (f_here_n c25) d hlt]⟩
  exact key9 0 (Nat.zero_le _) rfl

set_option maxHeartbeats 4000000 in
theorem qX4_readsKind {E : mx_E} {σ : Mem} {L : Row} {lm p : Nat} (hlm : lm ≤ 96) (hz2 : σ 35 8 = nI lm) (hL : ∀ j, j < lm → σ 40 j = L j) (hpl : σ 35 10 = nI p) (hp : p < 1000)  : MX4_readsKind E 1 [mx_rf E 35] σ (mx_ie (zb (!decide (f_kd (f_here L lm p) = -9))) (mx_nm σ 0 (f_kd (f_here L lm p)) (if f_kd (f_here L lm p) = -9 then p else p + 1))) := by
  refine MM.of (lv := [(0, mx_rf E 35)]) kpX4 rfl (Nat.le_of_ble_eq_true rfl) rfl ?_
  refine x_aload_n 0 dX4_readsKind_0 rfl ?_
  refine gfX4_31 dX4_readsKind_1 ?_
  refine x_iconst (v := 0) dX4_readsKind_4 (by decide) ?_
  refine x_aload_n 0 dX4_readsKind_5 rfl ?_
  refine clX4_94 (qX4_here (p := p) hlm hz2 hL hpl (by omega)) (by decide) rfl dX4_readsKind_6 (fun r6 τ6 h6 => ?_)
  obtain ⟨rfl, rfl⟩ := h6
  refine clX4_98 (qX4_kindBy (f_here L lm p)) (by decide) rfl dX4_readsKind_9 (fun r9 τ9 h9 => ?_)
  obtain ⟨rfl, rfl⟩ := h9
  refine x_iast (j := 0) (by decide) (by decide) (by decide) (by decide) dX4_readsKind_12 ?_
  refine x_mem (mx_nm_0 hpl) ?_
  refine x_aload_n 0 dX4_readsKind_13 rfl ?_
  refine x_dup dX4_readsKind_14 rfl ?_
  refine gfX4_91 dX4_readsKind_15 ?_
  refine x_top (show (mx_nm σ 0 (f_kd (f_here L lm p)) p) 35 10 = nI p from mx_nm_p) ?_
  refine x_aload_n 0 dX4_readsKind_18 rfl ?_
  refine gfX4_31 dX4_readsKind_19 ?_
  refine x_iconst (v := 0) dX4_readsKind_22 (by decide) ?_
  refine x_iald (j := 0) (by decide) (by decide) (by decide) (by decide) dX4_readsKind_23 ?_
  refine x_top (show (mx_nm σ 0 (f_kd (f_here L lm p)) p) 43 0 = f_kd (f_here L lm p) from mx_nm_s) ?_
  refine x_if_ge dX4_readsKind_24 (fun c24 => ?_) (fun c24 => ?_)
  · refine x_iconst (v := 1) dX4_readsKind_31 (by decide) ?_
    refine x_iadd dX4_readsKind_32 ?_
    refine x_top (show (nI p) + 1 = nI (p + 1) from nI_add p 1) ?_
    refine pfX4_91 dX4_readsKind_33 ?_
    refine x_mem (τ := mx_nm σ 0 (f_kd (f_here L lm p)) (p + 1)) mx_nm_2 ?_
    refine x_aload_n 0 dX4_readsKind_36 rfl ?_
    refine gfX4_31 dX4_readsKind_37 ?_
    refine x_iconst (v := 0) dX4_readsKind_40 (by decide) ?_
    refine x_iald (j := 0) (by decide) (by decide) (by decide) (by decide) dX4_readsKind_41 ?_
    refine x_top (show (mx_nm σ 0 (f_kd (f_here L lm p)) (p + 1)) 43 0 = f_kd (f_here L lm p) from mx_nm_s) ?_
    refine x_if_lt dX4_readsKind_42 (fun c42 => ?_) (fun c42 => ?_)
    · exact absurd c24 (Int32.not_le.mpr c42)
    · refine x_iconst (v := 1) dX4_readsKind_45 (by decide) ?_
      refine x_goto dX4_readsKind_46 ?_
      exact x_zret dX4_readsKind_50 (by decide) ⟨zb_t' (by rw [decide_eq_false (f_kd_ge.mp c24)]; rfl), by rw [if_neg (f_kd_ge.mp c24)]⟩
  · refine x_iconst (v := 0) dX4_readsKind_27 (by decide) ?_
    refine x_goto dX4_readsKind_28 ?_
    refine x_iadd dX4_readsKind_32 ?_
    refine x_top (show (nI p) + 0 = nI (p + 0) from nI_add p 0) ?_
    refine pfX4_91 dX4_readsKind_33 ?_
    refine x_mem (τ := mx_nm σ 0 (f_kd (f_here L lm p)) p) mx_nm_2 ?_
    refine x_aload_n 0 dX4_readsKind_36 rfl ?_
    refine gfX4_31 dX4_readsKind_37 ?_
    refine x_iconst (v := 0) dX4_readsKind_40 (by decide) ?_
    refine x_iald (j := 0) (by decide) (by decide) (by decide) (by decide) dX4_readsKind_41 ?_
    refine x_top (show (mx_nm σ 0 (f_kd (f_here L lm p)) p) 43 0 = f_kd (f_here L lm p) from mx_nm_s) ?_
    refine x_if_lt dX4_readsKind_42 (fun c42 => ?_) (fun c42 => ?_)
    · refine x_iconst (v := 0) dX4_readsKind_49 (by decide) ?_
      exact x_zret dX4_readsKind_50 (by decide) ⟨zb_f' (by rw [decide_eq_true (Decidable.not_not.mp (fun q => c24 (f_kd_ge.mpr q)))]; rfl), by rw [if_pos (Decidable.not_not.mp (fun q => c24 (f_kd_ge.mpr q)))]⟩
    · exact absurd (Int32.not_lt.mp c42) c24
