set_option maxHeartbeats 4000000 in
theorem qX4_kindBy {E : mx_E} {σ : Mem} (c : Int32) : MX4_kindBy E 0 [.int c] σ (mx_ie (f_kd c) σ) := by
  refine MM.of (lv := [(0, .int c)]) kpX4 rfl (Nat.le_of_ble_eq_true rfl) rfl ?_
  refine x_iload_n 0 dX4_kindBy_0 rfl ?_
  by_cases c1_0 : c = 99
  · refine x_tableIn (off := 81) (tgt := 82) dX4_kindBy_1 (by rw [c1_0]; decide) (by rw [c1_0]; decide) (by rw [c1_0]; decide) (by decide) ?_
    refine x_iconst (v := 5) dX4_kindBy_82 (by decide) ?_
    exact x_iret dX4_kindBy_83 ⟨by simp [f_kd, *], rfl⟩
  by_cases c1_1 : c = 100
  · refine x_tableIn (off := 83) (tgt := 84) dX4_kindBy_1 (by rw [c1_1]; decide) (by rw [c1_1]; decide) (by rw [c1_1]; decide) (by decide) ?_
    refine x_bipush (v := -9) dX4_kindBy_84 (by decide) ?_
    exact x_iret dX4_kindBy_86 ⟨by simp [f_kd, *], rfl⟩
  by_cases c1_2 : c = 101
  · refine x_tableIn (off := 83) (tgt := 84) dX4_kindBy_1 (by rw [c1_2]; decide) (by rw [c1_2]; decide) (by rw [c1_2]; decide) (by decide) ?_
    refine x_bipush (v := -9) dX4_kindBy_84 (by decide) ?_
    exact x_iret dX4_kindBy_86 ⟨by simp [f_kd, *], rfl⟩
  by_cases c1_3 : c = 102
  · refine x_tableIn (off := 83) (tgt := 84) dX4_kindBy_1 (by rw [c1_3]; decide) (by rw [c1_3]; decide) (by rw [c1_3]; decide) (by decide) ?_
    refine x_bipush (v := -9) dX4_kindBy_84 (by decide) ?_
    exact x_iret dX4_kindBy_86 ⟨by simp [f_kd, *], rfl⟩
  by_cases c1_4 : c = 103
  · refine x_tableIn (off := 79) (tgt := 80) dX4_kindBy_1 (by rw [c1_4]; decide) (by rw [c1_4]; decide) (by rw [c1_4]; decide) (by decide) ?_
    refine x_iconst (v := 4) dX4_kindBy_80 (by decide) ?_
    exact x_iret dX4_kindBy_81 ⟨by simp [f_kd, *], rfl⟩
  by_cases c1_5 : c = 104
  · refine x_tableIn (off := 71) (tgt := 72) dX4_kindBy_1 (by rw [c1_5]; decide) (by rw [c1_5]; decide) (by rw [c1_5]; decide) (by decide) ?_
    refine x_iconst (v := 0) dX4_kindBy_72 (by decide) ?_
    exact x_iret dX4_kindBy_73 ⟨by simp [f_kd, *], rfl⟩
  by_cases c1_6 : c = 105
  · refine x_tableIn (off := 77) (tgt := 78) dX4_kindBy_1 (by rw [c1_6]; decide) (by rw [c1_6]; decide) (by rw [c1_6]; decide) (by decide) ?_
    refine x_iconst (v := 3) dX4_kindBy_78 (by decide) ?_
    exact x_iret dX4_kindBy_79 ⟨by simp [f_kd, *], rfl⟩
  by_cases c1_7 : c = 106
  · refine x_tableIn (off := 83) (tgt := 84) dX4_kindBy_1 (by rw [c1_7]; decide) (by rw [c1_7]; decide) (by rw [c1_7]; decide) (by decide) ?_
    refine x_bipush (v := -9) dX4_kindBy_84 (by decide) ?_
    exact x_iret dX4_kindBy_86 ⟨by simp [f_kd, *], rfl⟩
  by_cases c1_8 : c = 107
  · refine x_tableIn (off := 83) (tgt := 84) dX4_kindBy_1 (by rw [c1_8]; decide) (by rw [c1_8]; decide) (by rw [c1_8]; decide) (by decide) ?_
    refine x_bipush (v := -9) dX4_kindBy_84 (by decide) ?_
    exact x_iret dX4_kindBy_86 ⟨by simp [f_kd, *], rfl⟩
  by_cases c1_9 : c = 108
  · refine x_tableIn (off := 83) (tgt := 84) dX4_kindBy_1 (by rw [c1_9]; decide) (by rw [c1_9]; decide) (by rw [c1_9]; decide) (by decide) ?_
    refine x_bipush (v := -9) dX4_kindBy_84 (by decide) ?_
    exact x_iret dX4_kindBy_86 ⟨by simp [f_kd, *], rfl⟩
  by_cases c1_10 : c = 109
  · refine x_tableIn (off := 75) (tgt := 76) dX4_kindBy_1 (by rw [c1_10]; decide) (by rw [c1_10]; decide) (by rw [c1_10]; decide) (by decide) ?_
    refine x_iconst (v := 2) dX4_kindBy_76 (by decide) ?_
    exact x_iret dX4_kindBy_77 ⟨by simp [f_kd, *], rfl⟩
  by_cases c1_11 : c = 110
  · refine x_tableIn (off := 83) (tgt := 84) dX4_kindBy_1 (by rw [c1_11]; decide) (by rw [c1_11]; decide) (by rw [c1_11]; decide) (by decide) ?_
    refine x_bipush (v := -9) dX4_kindBy_84 (by decide) ?_
    exact x_iret dX4_kindBy_86 ⟨by simp [f_kd, *], rfl⟩
  by_cases c1_12 : c = 111
  · refine x_tableIn (off := 83) (tgt := 84) dX4_kindBy_1 (by rw [c1_12]; decide) (by rw [c1_12]; decide) (by rw [c1_12]; decide) (by decide) ?_
    refine x_bipush (v := -9) dX4_kindBy_84 (by decide) ?_
    exact x_iret dX4_kindBy_86 ⟨by simp [f_kd, *], rfl⟩
  by_cases c1_13 : c = 112
  · refine x_tableIn (off := 73) (tgt := 74) dX4_kindBy_1 (by rw [c1_13]; decide) (by rw [c1_13]; decide) (by rw [c1_13]; decide) (by decide) ?_
    refine x_iconst (v := 1) dX4_kindBy_74 (by decide) ?_
    exact x_iret dX4_kindBy_75 ⟨by simp [f_kd, *], rfl⟩
  have hsw1 : (c).toInt < 99 ∨ 112 < (c).toInt := by
    have q_c1_0 := lv_neT c1_0 (show (99 : Int32).toInt = 99 from rfl)
    have q_c1_1 := lv_neT c1_1 (show (100 : Int32).toInt = 100 from rfl)
    have q_c1_2 := lv_neT c1_2 (show (101 : Int32).toInt = 101 from rfl)
    have q_c1_3 := lv_neT c1_3 (show (102 : Int32).toInt = 102 from rfl)
    have q_c1_4 := lv_neT c1_4 (show (103 : Int32).toInt = 103 from rfl)
    have q_c1_5 := lv_neT c1_5 (show (104 : Int32).toInt = 104 from rfl)
    have q_c1_6 := lv_neT c1_6 (show (105 : Int32).toInt = 105 from rfl)
    have q_c1_7 := lv_neT c1_7 (show (106 : Int32).toInt = 106 from rfl)
    have q_c1_8 := lv_neT c1_8 (show (107 : Int32).toInt = 107 from rfl)
    have q_c1_9 := lv_neT c1_9 (show (108 : Int32).toInt = 108 from rfl)
    have q_c1_10 := lv_neT c1_10 (show (109 : Int32).toInt = 109 from rfl)
    have q_c1_11 := lv_neT c1_11 (show (110 : Int32).toInt = 110 from rfl)
    have q_c1_12 := lv_neT c1_12 (show (111 : Int32).toInt = 111 from rfl)
    have q_c1_13 := lv_neT c1_13 (show (112 : Int32).toInt = 112 from rfl)
    omega
  refine x_tableOut (tgt := 84) dX4_kindBy_1 hsw1 (by decide) ?_
  refine x_bipush (v := -9) dX4_kindBy_84 (by decide) ?_
  exact x_iret dX4_kindBy_86 ⟨by simp [f_kd, *], rfl⟩

set_option maxHeartbeats 4000000 in
theorem qX4_here {E : mx_E} {σ : Mem} {L : Row} {lm p : Nat} (hlm : lm ≤ 96) (hz2 : σ 35 8 = nI lm) (hL : ∀ j, j < lm → σ 40 j = L j) (hpl : σ 35 10 = nI p) (hp : p < 2000)  : MX4_here E 0 [mx_rf E 35] σ (mx_ie (f_here L lm p) σ) := by
  refine MM.of (lv := [(0, mx_rf E 35)]) kpX4 rfl (Nat.le_of_ble_eq_true rfl) rfl ?_
  refine x_aload_n 0 dX4_here_0 rfl ?_
  refine gfX4_91 dX4_here_1 ?_
  refine x_top (show σ 35 10 = nI p from hpl) ?_
  refine x_aload_n 0 dX4_here_4 rfl ?_
  refine gfX4_87 dX4_here_5 ?_
  refine x_top (show σ 35 8 = nI lm from hz2) ?_
  refine x_icmp_ge dX4_here_8 (fun c8 => ?_) (fun c8 => ?_)
  · have hge := nI_le_of (by omega) (by omega) c8
    refine x_iconst (v := -1) dX4_here_23 (by decide) ?_
    exact x_iret dX4_here_24 ⟨if_neg (by omega), rfl⟩
  · have hlt := nI_lt_of (by omega) (by omega) c8
    refine x_aload_n 0 dX4_here_11 rfl ?_
    refine gfX4_22 dX4_here_12 ?_
    refine x_aload_n 0 dX4_here_15 rfl ?_
    refine gfX4_91 dX4_here_16 ?_
    refine x_top (show σ 35 10 = nI p from hpl) ?_
    refine x_iald (j := p) (by decide) (by decide) (by decide) (show p < 96 by omega) dX4_here_19 ?_
    refine x_top (show σ 40 p = L p from (hL p hlt)) ?_
    refine x_goto dX4_here_20 ?_
    exact x_iret dX4_here_24 ⟨if_pos hlt, rfl⟩

set_option maxHeartbeats 4000000 in
theorem qX4_readsNumber {E : mx_E} {σ : Mem} {L : Row} {lm p : Nat} (hlm : lm ≤ 96) (hz2 : σ 35 8 = nI lm) (hL : ∀ j, j < lm → σ 40 j = L j) (hpl : σ 35 10 = nI p) (hp : p < 1000) (k d : Nat) (hk : k < 4) (hd : d < 10)  : MX4_readsNumber E 1 [mx_rf E 35, .int (nI k), .int (nI d)] σ (mx_ie (zb (decide (f_dc L lm p d = d))) (mx_nm σ k (f_num L p (f_dc L lm p d)) (p + f_dc L lm p d))) := by
  refine MM.of (lv := [(0, mx_rf E 35), (1, .int (nI k)), (2, .int (nI d))]) kpX4 rfl (Nat.le_of_ble_eq_true rfl) rfl ?_
  refine x_aload_n 0 dX4_readsNumber_0 rfl ?_
  refine gfX4_31 dX4_readsNumber_1 ?_
  refine x_iload_n 1 dX4_readsNumber_4 rfl ?_
  refine x_iconst (v := 0) dX4_readsNumber_5 (by decide) ?_
  refine x_iast (j := k) (by decide) (by decide) (by decide) (show k < 4 by omega) dX4_readsNumber_6 ?_
  refine x_mem (mx_nm_0 hpl) ?_
  refine x_iconst (v := 0) dX4_readsNumber_7 (by decide) ?_
  refine x_istore_n (lv' := [(3, .int 0), (0, mx_rf E 35), (1, .int (nI k)), (2, .int (nI d))]) dX4_readsNumber_8 rfl (by decide) rfl ?_
  have key9 : ∀ i, i ≤ d → f_dc L lm p i = i → MX E 1 RX4 cX4_readsNumber 4 (some .boolean) 9 [(3, .int (nI i)), (0, mx_rf E 35), (1, .int (nI k)), (2, .int (nI d))] [] (mx_nm σ k (f_num L p i) (p + i)) (mx_ie (zb (decide (f_dc L lm p d = d))) (mx_nm σ k (f_num L p (f_dc L lm p d)) (p + f_dc L lm p d))) := by
    refine mx_ind d (fun i hi9 ih9 => ?_)
    intro hdc
    refine x_iload_n 0 dX4_readsNumber_9 rfl ?_
    refine x_iload_n 3 dX4_readsNumber_10 rfl ?_
    refine x_icmp_ge dX4_readsNumber_11 (fun c11 => ?_) (fun c11 => ?_)
    · have hge := nI_le_of (by omega) (by omega) c11
      have hid : i = d := by omega
      rw [hid] at hdc
      refine x_iconst (v := 1) dX4_readsNumber_69 (by decide) ?_
      exact x_zret dX4_readsNumber_70 (by decide) ⟨zb_t' (decide_eq_true hdc), by rw [hdc, hid]⟩
    · have hlt := nI_lt_of (by omega) (by omega) c11
      refine x_aload_n 1 dX4_readsNumber_14 rfl ?_
      refine clX4_94 (qX4_here (p := (p + i)) hlm ((mx_nm_35 (by decide)).trans hz2) (fun j hj => (congrFun (mx_nm_o (by decide) (by decide)) j).trans (hL j hj)) mx_nm_p (by omega)) (by decide) rfl dX4_readsNumber_15 (fun r15 τ15 h15 => ?_)
      obtain ⟨rfl, rfl⟩ := h15
      refine x_bipush (v := 48) dX4_readsNumber_18 (by decide) ?_
      refine x_bipush (v := 57) dX4_readsNumber_20 (by decide) ?_
      refine clX4_40 (qX4_isIn (f_here L lm (p + i)) 48 57) (by decide) rfl dX4_readsNumber_22 (fun r22 τ22 h22 => ?_)
      obtain ⟨rfl, rfl⟩ := h22
      refine x_if_ne dX4_readsNumber_25 (fun c25 => ?_) (fun c25 => ?_)
      · replace c25 := zb_1 c25
        refine x_aload_n 1 dX4_readsNumber_30 rfl ?_
        refine gfX4_31 dX4_readsNumber_31 ?_
        refine x_iload_n 2 dX4_readsNumber_34 rfl ?_
        refine x_bipush (v := 10) dX4_readsNumber_35 (by decide) ?_
        refine x_aload_n 1 dX4_readsNumber_37 rfl ?_
        refine gfX4_31 dX4_readsNumber_38 ?_
        refine x_iload_n 2 dX4_readsNumber_41 rfl ?_
        refine x_iald (j := k) (by decide) (by decide) (by decide) (show k < 4 by omega) dX4_readsNumber_42 ?_
        refine x_top (show (mx_nm σ k (f_num L p i) (p + i)) 43 k = f_num L p i from mx_nm_s) ?_
        refine x_imul dX4_readsNumber_43 ?_
        refine x_aload_n 1 dX4_readsNumber_44 rfl ?_
        refine clX4_94 (qX4_here (p := (p + i)) hlm ((mx_nm_35 (by decide)).trans hz2) (fun j hj => (congrFun (mx_nm_o (by decide) (by decide)) j).trans (hL j hj)) mx_nm_p (by omega)) (by decide) rfl dX4_readsNumber_45 (fun r45 τ45 h45 => ?_)
        obtain ⟨rfl, rfl⟩ := h45
        refine x_iadd dX4_readsNumber_48 ?_
        refine x_bipush (v := 48) dX4_readsNumber_49 (by decide) ?_
        refine x_isub dX4_readsNumber_51 ?_
        refine x_top (show ((10 * (f_num L p i)) + (f_here L lm (p + i))) - 48 = f_num L p (i + 1) from (by rw [f_here_l (f_here_d c25).1, Int32.mul_comm]; rfl)) ?_
        refine x_iast (j := k) (by decide) (by decide) (by decide) (show k < 4 by omega) dX4_readsNumber_52 ?_
        refine x_aload_n 1 dX4_readsNumber_53 rfl ?_
        refine x_dup dX4_readsNumber_54 rfl ?_
        refine gfX4_91 dX4_readsNumber_55 ?_
        refine x_top (show (mx_up (mx_nm σ k (f_num L p i) (p + i)) 43 k (f_num L p (i + 1))) 35 10 = nI (p + i) from ((congrFun (mx_up_o (by decide)) 10).trans mx_nm_p)) ?_
        refine x_iconst (v := 1) dX4_readsNumber_58 (by decide) ?_
        refine x_iadd dX4_readsNumber_59 ?_
        refine x_top (show (nI (p + i)) + 1 = nI (p + i + 1) from nI_add (p + i) 1) ?_
        refine pfX4_91 dX4_readsNumber_60 ?_
        refine x_mem (τ := mx_nm σ k (f_num L p (i + 1)) (p + (i + 1))) mx_nm_1 ?_
        refine x_iinc (v := nI (i + 1)) (lv' := [(3, .int (nI (i + 1))), (0, mx_rf E 35), (1, .int (nI k)), (2, .int (nI d))]) 0 dX4_readsNumber_63 rfl (nI_1 _) (by decide) rfl ?_
        refine x_goto dX4_readsNumber_66 ?_
        exact ih9 (i + 1) (by omega) (by omega) (f_dc_T hdc (f_here_d c25).1 (f_here_d c25).2)
      · replace c25 := zb_0 c25
        refine x_iconst (v := 0) dX4_readsNumber_28 (by decide) ?_
        exact x_zret dX4_readsNumber_29 (by decide) ⟨zb_f' (decide_eq_false (by rw [f_dc_F hdc (f_here_n c25) d hlt]; omega)), by rw [f_dc_F hdc (f_here_n c25) d hlt]⟩
  exact key9 0 (Nat.zero_le _) rfl

set_option maxHeartbeats 4000000 in
theorem qX4_readsKind {E : mx_E} {σ : Mem} {L : Row} {lm p : Nat} (hlm : lm ≤ 96) (hz2 : σ 35 8 = nI lm) (hL : ∀ j, j < lm → σ 40 j = L j) (hpl : σ 35 10 = nI p) (hp : p < 1000)  : MX4_readsKind E 1 [mx_rf E 35] σ (mx_ie (zb (!decide (f_kd (f_here L lm p) = -9))) (mx_nm σ 0 (f_kd (f_here L lm p)) (if f_kd (f_here L lm p) = -9 then p else p + 1))) := by
  refine MM.of (lv := [(0, mx_rf E 35)]) kpX4 rfl (Nat.le_of_ble_eq_true rfl) rfl ?_
  refine x_aload_n 0 dX4_readsKind_0 rfl ?_
  refine gfX4_31 dX4_readsKind_1 ?_
  refine x_iconst (v := 0) dX4_readsKind_4 (by decide) ?_
  refine x_aload_n 0 dX4_readsKind_5 rfl ?_
  refine clX4_94 (qX4_here (p := p) hlm hz2 hL hpl (by omega)) (by decide) rfl dX4_readsKind_6 (fun r6 τ6 h6 => ?_)
  obtain ⟨rfl, rfl⟩ := h6
  refine clX4_98 (qX4_kindBy (f_here L lm p)) (by decide) rfl dX4_readsKind_9 (fun r9 τ9 h9 => ?_)
  obtain ⟨rfl, rfl⟩ := h9
  refine x_iast (j := 0) (by decide) (by decide) (by decide) (by decide) dX4_readsKind_12 ?_
  refine x_mem (mx_nm_0 hpl) ?_
  refine x_aload_n 0 dX4_readsKind_13 rfl ?_
  refine x_dup dX4_readsKind_14 rfl ?_
  refine gfX4_91 dX4_readsKind_15 ?_
  refine x_top (show (mx_nm σ 0 (f_kd (f_here L lm p)) p) 35 10 = nI p from mx_nm_p) ?_
  refine x_aload_n 0 dX4_readsKind_18 rfl ?_
  refine gfX4_31 dX4_readsKind_19 ?_
  refine x_iconst (v := 0) dX4_readsKind_22 (by decide) ?_
  refine x_iald (j := 0) (by decide) (by decide) (by decide) (by decide) dX4_readsKind_23 ?_
  refine x_top (show (mx_nm σ 0 (f_kd (f_here L lm p)) p) 43 0 = f_kd (f_here L lm p) from mx_nm_s) ?_
  refine x_if_ge dX4_readsKind_24 (fun c24 => ?_) (fun c24 => ?_)
  · refine x_iconst (v := 1) dX4_readsKind_31 (by decide) ?_
    refine x_iadd dX4_readsKind_32 ?_
    refine x_top (show (nI p) + 1 = nI (p + 1) from nI_add p 1) ?_
    refine pfX4_91 dX4_readsKind_33 ?_
    refine x_mem (τ := mx_nm σ 0 (f_kd (f_here L lm p)) (p + 1)) mx_nm_2 ?_
    refine x_aload_n 0 dX4_readsKind_36 rfl ?_
    refine gfX4_31 dX4_readsKind_37 ?_
    refine x_iconst (v := 0) dX4_readsKind_40 (by decide) ?_
    refine x_iald (j := 0) (by decide) (by decide) (by decide) (by decide) dX4_readsKind_41 ?_
    refine x_top (show (mx_nm σ 0 (f_kd (f_here L lm p)) (p + 1)) 43 0 = f_kd (f_here L lm p) from mx_nm_s) ?_
    refine x_if_lt dX4_readsKind_42 (fun c42 => ?_) (fun c42 => ?_)
    · exact absurd c24 (Int32.not_le.mpr c42)
    · refine x_iconst (v := 1) dX4_readsKind_45 (by decide) ?_
      refine x_goto dX4_readsKind_46 ?_
      exact x_zret dX4_readsKind_50 (by decide) ⟨zb_t' (by rw [decide_eq_false (f_kd_ge.mp c24)]; rfl), by rw [if_neg (f_kd_ge.mp c24)]⟩
  · refine x_iconst (v := 0) dX4_readsKind_27 (by decide) ?_
    refine x_goto dX4_readsKind_28 ?_
    refine x_iadd dX4_readsKind_32 ?_
    refine x_top (show (nI p) + 0 = nI (p + 0) from nI_add p 0) ?_
    refine pfX4_91 dX4_readsKind_33 ?_
    refine x_mem (τ := mx_nm σ 0 (f_kd (f_here L lm p)) p) mx_nm_2 ?_
    refine x_aload_n 0 dX4_readsKind_36 rfl ?_
    refine gfX4_31 dX4_readsKind_37 ?_
    refine x_iconst (v := 0) dX4_readsKind_40 (by decide) ?_
    refine x_iald (j := 0) (by decide) (by decide) (by decide) (by decide) dX4_readsKind_41 ?_
    refine x_top (show (mx_nm σ 0 (f_kd (f_here L lm p)) p) 43 0 = f_kd (f_here L lm p) from mx_nm_s) ?_
    refine x_if_lt dX4_readsKind_42 (fun c42 => ?_) (fun c42 => ?_)
    · refine x_iconst (v := 0) dX4_readsKind_49 (by decide) ?_
      exact x_zret dX4_readsKind_50 (by decide) ⟨zb_f' (by rw [decide_eq_true (Decidable.not_not.mp (fun q => c24 (f_kd_ge.mpr q)))]; rfl), by rw [if_pos (Decidable.not_not.mp (fun q => c24 (f_kd_ge.mpr q)))]⟩
    · exact absurd (Int32.not_lt.mp c42) c24

set_option maxHeartbeats 4000000 in
theorem qX4_readsStatement {E : mx_E} {σ : Mem} {L : Row} {lm p : Nat} (hlm : lm ≤ 96) (hz2 : σ 35 8 = nI lm) (hL : ∀ j, j < lm → σ 40 j = L j) (hpl : σ 35 10 = nI p) (hp : p < 900)  : MX4_readsStatement E 2 [mx_rf E 35] σ (mx_i (fun v τ => Rd L lm p σ τ v)) := by
  refine MM.of (lv := [(0, mx_rf E 35)]) kpX4 rfl (Nat.le_of_ble_eq_true rfl) rfl ?_
  refine x_aload_n 0 dX4_readsStatement_0 rfl ?_
  refine clX4_94 (qX4_here (p := p) hlm hz2 hL hpl (by omega)) (by decide) rfl dX4_readsStatement_1 (fun r1 τ1 h1 => ?_)
  obtain ⟨rfl, rfl⟩ := h1
  refine x_istore_n (lv' := [(1, .int (f_here L lm p)), (0, mx_rf E 35)]) dX4_readsStatement_4 rfl (by decide) rfl ?_
  refine x_aload_n 1 dX4_readsStatement_5 rfl ?_
  refine x_dup dX4_readsStatement_6 rfl ?_
  refine gfX4_91 dX4_readsStatement_7 ?_
  refine x_top (show σ 35 10 = nI p from hpl) ?_
  refine x_iconst (v := 1) dX4_readsStatement_10 (by decide) ?_
  refine x_iadd dX4_readsStatement_11 ?_
  refine x_top (show (nI p) + 1 = nI (p + 1) from nI_add p 1) ?_
  refine pfX4_91 dX4_readsStatement_12 ?_
  refine x_mem (mx_rd_0 (q := p + 1)) ?_
  refine x_iload_n 0 dX4_readsStatement_15 rfl ?_
  by_cases c16_0 : f_here L lm p = 99
  · refine x_tableIn (off := 184) (tgt := 200) dX4_readsStatement_16 (by rw [c16_0]; decide) (by rw [c16_0]; decide) (by rw [c16_0]; decide) (by decide) ?_
    have hp2 := f_here_w c16_0 (by decide)
    refine x_aload_n 1 dX4_readsStatement_200 rfl ?_
    refine x_iconst (v := 0) dX4_readsStatement_201 (by decide) ?_
    refine x_iconst (v := 3) dX4_readsStatement_202 (by decide) ?_
    refine clX4_105 (qX4_readsNumber (p := (p + 1)) hlm ((mx_rd_35 (by decide)).trans hz2) (fun j hj => (congrFun (mx_rd_o (by decide) (by decide)) j).trans (hL j hj)) mx_rd_p (by omega) 0 3 (by decide) (by decide)) (by decide) rfl dX4_readsStatement_203 (fun r203 τ203 h203 => ?_)
    obtain ⟨rfl, rfl⟩ := h203
    refine x_mem mx_rd_nm ?_
    refine x_istore_n (lv' := [(2, .int (zb (decide (f_dc L lm (p + 1) 3 = 3)))), (1, .int (f_here L lm p)), (0, mx_rf E 35)]) dX4_readsStatement_206 rfl (by decide) rfl ?_
    refine x_goto dX4_readsStatement_207 ?_
    refine x_iload_n 0 dX4_readsStatement_232 rfl ?_
    refine x_if_eq dX4_readsStatement_233 (fun c233 => ?_) (fun c233 => ?_)
    · replace c233 := zb_0 c233
      have nb : ¬ f_dc L lm (p + 1) 3 = 3 := of_decide_eq_false c233
      have lb := f_dc_le L lm (p + 1) 3
      have hbad : f_rd L lm p = (false, (p + 1 + f_dc L lm (p + 1) 3)) := (f_rd_d (a := 0) (d := 3) hp2.1 hp2.2 (by decide) (by decide) (by decide) (fun z => absurd z (by decide)) (show f_dc L lm (p + 1) 3 = f_dc L lm (p + 1) 3 from rfl) (by omega)).trans (by rw [Prod.mk.injEq]; exact ⟨rfl, by omega⟩)
      refine x_iconst (v := 0) dX4_readsStatement_245 (by decide) ?_
      exact x_zret dX4_readsStatement_246 (by decide) (Rd.no hbad)
    · replace c233 := zb_1 c233
      have ec233 : f_dc L lm (p + 1) 3 = 3 := of_decide_eq_true c233
      rw [ec233]
      have d3 : f_dc L lm (p + 1) 3 = 3 := ec233
      refine x_aload_n 2 dX4_readsStatement_236 rfl ?_
      refine clX4_94 (qX4_here (p := (p + 4)) hlm ((mx_rd_35 (by decide)).trans hz2) (fun j hj => (congrFun (mx_rd_o (by decide) (by decide)) j).trans (hL j hj)) mx_rd_p (by omega)) (by decide) rfl dX4_readsStatement_237 (fun r237 τ237 h237 => ?_)
      obtain ⟨rfl, rfl⟩ := h237
      refine x_bipush (v := 59) dX4_readsStatement_240 (by decide) ?_
      refine x_icmp_eq dX4_readsStatement_242 (fun c242 => ?_) (fun c242 => ?_)
      · have hsm := f_rd_y (a := 0) (d := 3) hp2.1 hp2.2 (by decide) (by decide) (by decide) (fun z => absurd z (by decide)) d3 c242
        refine x_aload_n 2 dX4_readsStatement_247 rfl ?_
        refine x_dup dX4_readsStatement_248 rfl ?_
        refine gfX4_91 dX4_readsStatement_249 ?_
        refine x_top (show (mx_rd σ (upd (σ 43) 0 (f_num L (p + 1) 3)) (p + 4)) 35 10 = nI (p + 4) from mx_rd_p) ?_
        refine x_iconst (v := 1) dX4_readsStatement_252 (by decide) ?_
        refine x_iadd dX4_readsStatement_253 ?_
        refine x_top (show (nI (p + 4)) + 1 = nI (p + 4 + 1) from nI_add (p + 4) 1) ?_
        refine pfX4_91 dX4_readsStatement_254 ?_
        refine x_mem (τ := mx_rd σ (upd (σ 43) 0 (f_num L (p + 1) 3)) (p + 5)) mx_rd_p2 ?_
        refine x_iconst (v := 1) dX4_readsStatement_257 (by decide) ?_
        exact x_zret dX4_readsStatement_258 (by decide) (Rd.yes hsm (by refine ⟨fun z => ?_, fun z => ?_, fun z => ?_, fun z => ?_, fun z => ?_⟩ <;> first | (rw [hp2.2] at z; exact absurd z (by decide)) | exact ⟨rfl, rfl, rfl, rfl⟩ | exact ⟨rfl, rfl⟩ | rfl))
      · have hsm := f_rd_n (a := 0) (d := 3) hp2.1 hp2.2 (by decide) (by decide) (by decide) (fun z => absurd z (by decide)) d3 c242
        refine x_iconst (v := 0) dX4_readsStatement_245 (by decide) ?_
        exact x_zret dX4_readsStatement_246 (by decide) (Rd.no hsm)
  by_cases c16_1 : f_here L lm p = 100
  · refine x_tableIn (off := 147) (tgt := 163) dX4_readsStatement_16 (by rw [c16_1]; decide) (by rw [c16_1]; decide) (by rw [c16_1]; decide) (by decide) ?_
    have hp2 := f_here_w c16_1 (by decide)
    refine x_aload_n 1 dX4_readsStatement_163 rfl ?_
    refine x_iconst (v := 0) dX4_readsStatement_164 (by decide) ?_
    refine x_iconst (v := 1) dX4_readsStatement_165 (by decide) ?_
    refine clX4_105 (qX4_readsNumber (p := (p + 1)) hlm ((mx_rd_35 (by decide)).trans hz2) (fun j hj => (congrFun (mx_rd_o (by decide) (by decide)) j).trans (hL j hj)) mx_rd_p (by omega) 0 1 (by decide) (by decide)) (by decide) rfl dX4_readsStatement_166 (fun r166 τ166 h166 => ?_)
    obtain ⟨rfl, rfl⟩ := h166
    refine x_mem mx_rd_nm ?_
    refine x_if_eq dX4_readsStatement_169 (fun c169 => ?_) (fun c169 => ?_)
    · replace c169 := zb_0 c169
      have nb : ¬ f_dc L lm (p + 1) 1 = 1 := of_decide_eq_false c169
      have lb := f_dc_le L lm (p + 1) 1
      have hbad : f_rd L lm p = (false, (p + 1 + f_dc L lm (p + 1) 1)) := (f_rd_d (a := 0) (d := 3) hp2.1 hp2.2 (by decide) (by decide) (by decide) (fun z => absurd z (by decide)) (show f_dc L lm (p + 1) 3 = f_dc L lm (p + 1) 1 from f_dcB (b := 2) nb) (by omega)).trans (by rw [Prod.mk.injEq]; exact ⟨rfl, by omega⟩)
      refine x_iconst (v := 0) dX4_readsStatement_185 (by decide) ?_
      refine x_istore_n (lv' := [(2, .int 0), (1, .int (f_here L lm p)), (0, mx_rf E 35)]) dX4_readsStatement_186 rfl (by decide) rfl ?_
      refine x_goto dX4_readsStatement_187 ?_
      refine x_iload_n 0 dX4_readsStatement_232 rfl ?_
      refine x_if_eq dX4_readsStatement_233 (fun _ => ?_) (fun c => absurd c (by decide))
      refine x_iconst (v := 0) dX4_readsStatement_245 (by decide) ?_
      exact x_zret dX4_readsStatement_246 (by decide) (Rd.no hbad)
    · replace c169 := zb_1 c169
      have ec169 : f_dc L lm (p + 1) 1 = 1 := of_decide_eq_true c169
      rw [ec169]
      have d1 : f_dc L lm (p + 1) 1 = 1 := ec169
      refine x_aload_n 1 dX4_readsStatement_172 rfl ?_
      refine x_iconst (v := 1) dX4_readsStatement_173 (by decide) ?_
      refine x_iconst (v := 2) dX4_readsStatement_174 (by decide) ?_
      refine clX4_105 (qX4_readsNumber (p := (p + 2)) hlm ((mx_rd_35 (by decide)).trans hz2) (fun j hj => (congrFun (mx_rd_o (by decide) (by decide)) j).trans (hL j hj)) mx_rd_p (by omega) 1 2 (by decide) (by decide)) (by decide) rfl dX4_readsStatement_175 (fun r175 τ175 h175 => ?_)
      obtain ⟨rfl, rfl⟩ := h175
      refine x_mem mx_rd_nm ?_
      refine x_if_eq dX4_readsStatement_178 (fun c178 => ?_) (fun c178 => ?_)
      · replace c178 := zb_0 c178
        have nb : ¬ f_dc L lm (p + 2) 2 = 2 := of_decide_eq_false c178
        have lb := f_dc_le L lm (p + 2) 2
        have hbad : f_rd L lm p = (false, (p + 2 + f_dc L lm (p + 2) 2)) := (f_rd_d (a := 0) (d := 3) hp2.1 hp2.2 (by decide) (by decide) (by decide) (fun z => absurd z (by decide)) (show f_dc L lm (p + 1) 3 = 1 + f_dc L lm (p + 2) 2 from (f_dcA (b := 2) d1).trans (congrArg (fun z => 1 + z) (rfl))) (by omega)).trans (by rw [Prod.mk.injEq]; exact ⟨rfl, by omega⟩)
        refine x_iconst (v := 0) dX4_readsStatement_185 (by decide) ?_
        refine x_istore_n (lv' := [(2, .int 0), (1, .int (f_here L lm p)), (0, mx_rf E 35)]) dX4_readsStatement_186 rfl (by decide) rfl ?_
        refine x_goto dX4_readsStatement_187 ?_
        refine x_iload_n 0 dX4_readsStatement_232 rfl ?_
        refine x_if_eq dX4_readsStatement_233 (fun _ => ?_) (fun c => absurd c (by decide))
        refine x_iconst (v := 0) dX4_readsStatement_245 (by decide) ?_
        exact x_zret dX4_readsStatement_246 (by decide) (Rd.no hbad)
      · replace c178 := zb_1 c178
        have ec178 : f_dc L lm (p + 2) 2 = 2 := of_decide_eq_true c178
        rw [ec178]
        have d3 : f_dc L lm (p + 1) (1 + 2) = 1 + 2 := (f_dcA d1).trans (by rw [ec178])
        refine x_iconst (v := 1) dX4_readsStatement_181 (by decide) ?_
        refine x_goto dX4_readsStatement_182 ?_
        refine x_istore_n (lv' := [(2, .int 1), (1, .int (f_here L lm p)), (0, mx_rf E 35)]) dX4_readsStatement_186 rfl (by decide) rfl ?_
        refine x_goto dX4_readsStatement_187 ?_
        refine x_iload_n 0 dX4_readsStatement_232 rfl ?_
        refine x_if_eq dX4_readsStatement_233 (fun c => absurd c (by decide)) (fun _ => ?_)
        refine x_aload_n 2 dX4_readsStatement_236 rfl ?_
        refine clX4_94 (qX4_here (p := (p + 4)) hlm ((mx_rd_35 (by decide)).trans hz2) (fun j hj => (congrFun (mx_rd_o (by decide) (by decide)) j).trans (hL j hj)) mx_rd_p (by omega)) (by decide) rfl dX4_readsStatement_237 (fun r237 τ237 h237 => ?_)
        obtain ⟨rfl, rfl⟩ := h237
        refine x_bipush (v := 59) dX4_readsStatement_240 (by decide) ?_
        refine x_icmp_eq dX4_readsStatement_242 (fun c242 => ?_) (fun c242 => ?_)
        · have hsm := f_rd_y (a := 0) (d := 3) hp2.1 hp2.2 (by decide) (by decide) (by decide) (fun z => absurd z (by decide)) d3 c242
          refine x_aload_n 2 dX4_readsStatement_247 rfl ?_
          refine x_dup dX4_readsStatement_248 rfl ?_
          refine gfX4_91 dX4_readsStatement_249 ?_
          refine x_top (show (mx_rd σ (upd (upd (σ 43) 0 (f_num L (p + 1) 1)) 1 (f_num L (p + 2) 2)) (p + 4)) 35 10 = nI (p + 4) from mx_rd_p) ?_
          refine x_iconst (v := 1) dX4_readsStatement_252 (by decide) ?_
          refine x_iadd dX4_readsStatement_253 ?_
          refine x_top (show (nI (p + 4)) + 1 = nI (p + 4 + 1) from nI_add (p + 4) 1) ?_
          refine pfX4_91 dX4_readsStatement_254 ?_
          refine x_mem (τ := mx_rd σ (upd (upd (σ 43) 0 (f_num L (p + 1) 1)) 1 (f_num L (p + 2) 2)) (p + 5)) mx_rd_p2 ?_
          refine x_iconst (v := 1) dX4_readsStatement_257 (by decide) ?_
          exact x_zret dX4_readsStatement_258 (by decide) (Rd.yes hsm (by refine ⟨fun z => ?_, fun z => ?_, fun z => ?_, fun z => ?_, fun z => ?_⟩ <;> first | (rw [hp2.2] at z; exact absurd z (by decide)) | exact ⟨rfl, rfl, rfl, rfl⟩ | exact ⟨rfl, rfl⟩ | rfl))
        · have hsm := f_rd_n (a := 0) (d := 3) hp2.1 hp2.2 (by decide) (by decide) (by decide) (fun z => absurd z (by decide)) d3 c242
          refine x_iconst (v := 0) dX4_readsStatement_245 (by decide) ?_
          exact x_zret dX4_readsStatement_246 (by decide) (Rd.no hsm)
  by_cases c16_2 : f_here L lm p = 101
  · refine x_tableIn (off := 204) (tgt := 220) dX4_readsStatement_16 (by rw [c16_2]; decide) (by rw [c16_2]; decide) (by rw [c16_2]; decide) (by decide) ?_
    have hrd := f_rd_0 (L := L) (lm := lm) (p := p) (by rw [c16_2]; decide)
    refine x_aload_n 1 dX4_readsStatement_220 rfl ?_
    refine x_dup dX4_readsStatement_221 rfl ?_
    refine gfX4_91 dX4_readsStatement_222 ?_
    refine x_top (show (mx_rd σ (σ 43) (p + 1)) 35 10 = nI (p + 1) from mx_rd_p) ?_
    refine x_iconst (v := 1) dX4_readsStatement_225 (by decide) ?_
    refine x_isub dX4_readsStatement_226 ?_
    refine x_top (show (nI (p + 1)) - 1 = nI p from (nI_pred p)) ?_
    refine pfX4_91 dX4_readsStatement_227 ?_
    refine x_mem (τ := mx_rd σ (σ 43) p) mx_rd_p2 ?_
    refine x_iconst (v := 0) dX4_readsStatement_230 (by decide) ?_
    exact x_zret dX4_readsStatement_231 (by decide) (Rd.no hrd)
  by_cases c16_3 : f_here L lm p = 102
  · refine x_tableIn (off := 204) (tgt := 220) dX4_readsStatement_16 (by rw [c16_3]; decide) (by rw [c16_3]; decide) (by rw [c16_3]; decide) (by decide) ?_
    have hrd := f_rd_0 (L := L) (lm := lm) (p := p) (by rw [c16_3]; decide)
    refine x_aload_n 1 dX4_readsStatement_220 rfl ?_
    refine x_dup dX4_readsStatement_221 rfl ?_
    refine gfX4_91 dX4_readsStatement_222 ?_
    refine x_top (show (mx_rd σ (σ 43) (p + 1)) 35 10 = nI (p + 1) from mx_rd_p) ?_
    refine x_iconst (v := 1) dX4_readsStatement_225 (by decide) ?_
    refine x_isub dX4_readsStatement_226 ?_
    refine x_top (show (nI (p + 1)) - 1 = nI p from (nI_pred p)) ?_
    refine pfX4_91 dX4_readsStatement_227 ?_
    refine x_mem (τ := mx_rd σ (σ 43) p) mx_rd_p2 ?_
    refine x_iconst (v := 0) dX4_readsStatement_230 (by decide) ?_
    exact x_zret dX4_readsStatement_231 (by decide) (Rd.no hrd)
  by_cases c16_4 : f_here L lm p = 103
  · refine x_tableIn (off := 204) (tgt := 220) dX4_readsStatement_16 (by rw [c16_4]; decide) (by rw [c16_4]; decide) (by rw [c16_4]; decide) (by decide) ?_
    have hrd := f_rd_0 (L := L) (lm := lm) (p := p) (by rw [c16_4]; decide)
    refine x_aload_n 1 dX4_readsStatement_220 rfl ?_
    refine x_dup dX4_readsStatement_221 rfl ?_
    refine gfX4_91 dX4_readsStatement_222 ?_
    refine x_top (show (mx_rd σ (σ 43) (p + 1)) 35 10 = nI (p + 1) from mx_rd_p) ?_
    refine x_iconst (v := 1) dX4_readsStatement_225 (by decide) ?_
    refine x_isub dX4_readsStatement_226 ?_
    refine x_top (show (nI (p + 1)) - 1 = nI p from (nI_pred p)) ?_
    refine pfX4_91 dX4_readsStatement_227 ?_
    refine x_mem (τ := mx_rd σ (σ 43) p) mx_rd_p2 ?_
    refine x_iconst (v := 0) dX4_readsStatement_230 (by decide) ?_
    exact x_zret dX4_readsStatement_231 (by decide) (Rd.no hrd)
  by_cases c16_5 : f_here L lm p = 104
  · refine x_tableIn (off := 104) (tgt := 120) dX4_readsStatement_16 (by rw [c16_5]; decide) (by rw [c16_5]; decide) (by rw [c16_5]; decide) (by decide) ?_
    have hp2 := f_here_w c16_5 (by decide)
    refine x_aload_n 1 dX4_readsStatement_120 rfl ?_
    refine clX4_101 (qX4_readsKind (p := (p + 1)) hlm ((mx_rd_35 (by decide)).trans hz2) (fun j hj => (congrFun (mx_rd_o (by decide) (by decide)) j).trans (hL j hj)) mx_rd_p (by omega)) (by decide) rfl dX4_readsStatement_121 (fun r121 τ121 h121 => ?_)
    obtain ⟨rfl, rfl⟩ := h121
    refine x_mem mx_rd_nm ?_
    refine x_if_eq dX4_readsStatement_124 (fun c124 => ?_) (fun c124 => ?_)
    · replace c124 := zb_0 c124
      have hk9 : f_kd (f_here L lm (p + 1)) = -9 := by
        by_cases z : f_kd (f_here L lm (p + 1)) = -9
        · exact z
        · rw [decide_eq_false z] at c124; exact absurd c124 (by decide)
      rw [if_pos hk9]
      have hbad := f_rd_k hp2.1 hp2.2 hk9
      refine x_iconst (v := 0) dX4_readsStatement_158 (by decide) ?_
      refine x_istore_n (lv' := [(2, .int 0), (1, .int (f_here L lm p)), (0, mx_rf E 35)]) dX4_readsStatement_159 rfl (by decide) rfl ?_
      refine x_goto dX4_readsStatement_160 ?_
      refine x_iload_n 0 dX4_readsStatement_232 rfl ?_
      refine x_if_eq dX4_readsStatement_233 (fun _ => ?_) (fun c => absurd c (by decide))
      refine x_iconst (v := 0) dX4_readsStatement_245 (by decide) ?_
      exact x_zret dX4_readsStatement_246 (by decide) (Rd.no hbad)
    · replace c124 := zb_1 c124
      have hk9 : ¬ f_kd (f_here L lm (p + 1)) = -9 := fun q => by rw [q] at c124; exact absurd c124 (by decide)
      rw [if_neg hk9]
      have hkd : p + 1 < lm ∧ ¬ f_kd (L (p + 1)) = -9 := by
        by_cases z : p + 1 < lm
        · rw [f_here_l z] at hk9; exact ⟨z, hk9⟩
        · exact absurd (by unfold f_here; rw [if_neg z]; decide) hk9
      rw [f_here_l hkd.1]
      refine x_aload_n 1 dX4_readsStatement_127 rfl ?_
      refine x_iconst (v := 1) dX4_readsStatement_128 (by decide) ?_
      refine x_iconst (v := 1) dX4_readsStatement_129 (by decide) ?_
      refine clX4_105 (qX4_readsNumber (p := (p + 2)) hlm ((mx_rd_35 (by decide)).trans hz2) (fun j hj => (congrFun (mx_rd_o (by decide) (by decide)) j).trans (hL j hj)) mx_rd_p (by omega) 1 1 (by decide) (by decide)) (by decide) rfl dX4_readsStatement_130 (fun r130 τ130 h130 => ?_)
      obtain ⟨rfl, rfl⟩ := h130
      refine x_mem mx_rd_nm ?_
      refine x_if_eq dX4_readsStatement_133 (fun c133 => ?_) (fun c133 => ?_)
      · replace c133 := zb_0 c133
        have nb : ¬ f_dc L lm (p + 2) 1 = 1 := of_decide_eq_false c133
        have lb := f_dc_le L lm (p + 2) 1
        have hbad : f_rd L lm p = (false, (p + 2 + f_dc L lm (p + 2) 1)) := (f_rd_d (a := 1) (d := 4) hp2.1 hp2.2 (by decide) (by decide) (by decide) (fun _ => hkd) (show f_dc L lm (p + 2) 4 = f_dc L lm (p + 2) 1 from f_dcB (b := 3) nb) (by omega)).trans (by rw [Prod.mk.injEq]; exact ⟨rfl, by omega⟩)
        refine x_iconst (v := 0) dX4_readsStatement_158 (by decide) ?_
        refine x_istore_n (lv' := [(2, .int 0), (1, .int (f_here L lm p)), (0, mx_rf E 35)]) dX4_readsStatement_159 rfl (by decide) rfl ?_
        refine x_goto dX4_readsStatement_160 ?_
        refine x_iload_n 0 dX4_readsStatement_232 rfl ?_
        refine x_if_eq dX4_readsStatement_233 (fun _ => ?_) (fun c => absurd c (by decide))
        refine x_iconst (v := 0) dX4_readsStatement_245 (by decide) ?_
        exact x_zret dX4_readsStatement_246 (by decide) (Rd.no hbad)
      · replace c133 := zb_1 c133
        have ec133 : f_dc L lm (p + 2) 1 = 1 := of_decide_eq_true c133
        rw [ec133]
        have d1 : f_dc L lm (p + 2) 1 = 1 := ec133
        refine x_aload_n 1 dX4_readsStatement_136 rfl ?_
        refine x_iconst (v := 2) dX4_readsStatement_137 (by decide) ?_
        refine x_iconst (v := 1) dX4_readsStatement_138 (by decide) ?_
        refine clX4_105 (qX4_readsNumber (p := (p + 3)) hlm ((mx_rd_35 (by decide)).trans hz2) (fun j hj => (congrFun (mx_rd_o (by decide) (by decide)) j).trans (hL j hj)) mx_rd_p (by omega) 2 1 (by decide) (by decide)) (by decide) rfl dX4_readsStatement_139 (fun r139 τ139 h139 => ?_)
        obtain ⟨rfl, rfl⟩ := h139
        refine x_mem mx_rd_nm ?_
        refine x_if_eq dX4_readsStatement_142 (fun c142 => ?_) (fun c142 => ?_)
        · replace c142 := zb_0 c142
          have nb : ¬ f_dc L lm (p + 3) 1 = 1 := of_decide_eq_false c142
          have lb := f_dc_le L lm (p + 3) 1
          have hbad : f_rd L lm p = (false, (p + 3 + f_dc L lm (p + 3) 1)) := (f_rd_d (a := 1) (d := 4) hp2.1 hp2.2 (by decide) (by decide) (by decide) (fun _ => hkd) (show f_dc L lm (p + 2) 4 = 1 + f_dc L lm (p + 3) 1 from (f_dcA (b := 3) d1).trans (congrArg (fun z => 1 + z) (f_dcB (b := 2) nb))) (by omega)).trans (by rw [Prod.mk.injEq]; exact ⟨rfl, by omega⟩)
          refine x_iconst (v := 0) dX4_readsStatement_158 (by decide) ?_
          refine x_istore_n (lv' := [(2, .int 0), (1, .int (f_here L lm p)), (0, mx_rf E 35)]) dX4_readsStatement_159 rfl (by decide) rfl ?_
          refine x_goto dX4_readsStatement_160 ?_
          refine x_iload_n 0 dX4_readsStatement_232 rfl ?_
          refine x_if_eq dX4_readsStatement_233 (fun _ => ?_) (fun c => absurd c (by decide))
          refine x_iconst (v := 0) dX4_readsStatement_245 (by decide) ?_
          exact x_zret dX4_readsStatement_246 (by decide) (Rd.no hbad)
        · replace c142 := zb_1 c142
          have ec142 : f_dc L lm (p + 3) 1 = 1 := of_decide_eq_true c142
          rw [ec142]
          have d2 : f_dc L lm (p + 2) (1 + 1) = 1 + 1 := (f_dcA d1).trans (by rw [ec142])
          refine x_aload_n 1 dX4_readsStatement_145 rfl ?_
          refine x_iconst (v := 3) dX4_readsStatement_146 (by decide) ?_
          refine x_iconst (v := 2) dX4_readsStatement_147 (by decide) ?_
          refine clX4_105 (qX4_readsNumber (p := (p + 4)) hlm ((mx_rd_35 (by decide)).trans hz2) (fun j hj => (congrFun (mx_rd_o (by decide) (by decide)) j).trans (hL j hj)) mx_rd_p (by omega) 3 2 (by decide) (by decide)) (by decide) rfl dX4_readsStatement_148 (fun r148 τ148 h148 => ?_)
          obtain ⟨rfl, rfl⟩ := h148
          refine x_mem mx_rd_nm ?_
          refine x_if_eq dX4_readsStatement_151 (fun c151 => ?_) (fun c151 => ?_)
          · replace c151 := zb_0 c151
            have nb : ¬ f_dc L lm (p + 4) 2 = 2 := of_decide_eq_false c151
            have lb := f_dc_le L lm (p + 4) 2
            have hbad : f_rd L lm p = (false, (p + 4 + f_dc L lm (p + 4) 2)) := (f_rd_d (a := 1) (d := 4) hp2.1 hp2.2 (by decide) (by decide) (by decide) (fun _ => hkd) (show f_dc L lm (p + 2) 4 = 2 + f_dc L lm (p + 4) 2 from (f_dcA (b := 2) d2).trans (congrArg (fun z => 2 + z) (rfl))) (by omega)).trans (by rw [Prod.mk.injEq]; exact ⟨rfl, by omega⟩)
            refine x_iconst (v := 0) dX4_readsStatement_158 (by decide) ?_
            refine x_istore_n (lv' := [(2, .int 0), (1, .int (f_here L lm p)), (0, mx_rf E 35)]) dX4_readsStatement_159 rfl (by decide) rfl ?_
            refine x_goto dX4_readsStatement_160 ?_
            refine x_iload_n 0 dX4_readsStatement_232 rfl ?_
            refine x_if_eq dX4_readsStatement_233 (fun _ => ?_) (fun c => absurd c (by decide))
            refine x_iconst (v := 0) dX4_readsStatement_245 (by decide) ?_
            exact x_zret dX4_readsStatement_246 (by decide) (Rd.no hbad)
          · replace c151 := zb_1 c151
            have ec151 : f_dc L lm (p + 4) 2 = 2 := of_decide_eq_true c151
            rw [ec151]
            have d4 : f_dc L lm (p + 2) (2 + 2) = 2 + 2 := (f_dcA d2).trans (by rw [ec151])
            refine x_iconst (v := 1) dX4_readsStatement_154 (by decide) ?_
            refine x_goto dX4_readsStatement_155 ?_
            refine x_istore_n (lv' := [(2, .int 1), (1, .int (f_here L lm p)), (0, mx_rf E 35)]) dX4_readsStatement_159 rfl (by decide) rfl ?_
            refine x_goto dX4_readsStatement_160 ?_
            refine x_iload_n 0 dX4_readsStatement_232 rfl ?_
            refine x_if_eq dX4_readsStatement_233 (fun c => absurd c (by decide)) (fun _ => ?_)
            refine x_aload_n 2 dX4_readsStatement_236 rfl ?_
            refine clX4_94 (qX4_here (p := (p + 6)) hlm ((mx_rd_35 (by decide)).trans hz2) (fun j hj => (congrFun (mx_rd_o (by decide) (by decide)) j).trans (hL j hj)) mx_rd_p (by omega)) (by decide) rfl dX4_readsStatement_237 (fun r237 τ237 h237 => ?_)
            obtain ⟨rfl, rfl⟩ := h237
            refine x_bipush (v := 59) dX4_readsStatement_240 (by decide) ?_
            refine x_icmp_eq dX4_readsStatement_242 (fun c242 => ?_) (fun c242 => ?_)
            · have hsm := f_rd_y (a := 1) (d := 4) hp2.1 hp2.2 (by decide) (by decide) (by decide) (fun _ => hkd) d4 c242
              refine x_aload_n 2 dX4_readsStatement_247 rfl ?_
              refine x_dup dX4_readsStatement_248 rfl ?_
              refine gfX4_91 dX4_readsStatement_249 ?_
              refine x_top (show (mx_rd σ (upd (upd (upd (upd (σ 43) 0 (f_kd (L (p + 1)))) 1 (f_num L (p + 2) 1)) 2 (f_num L (p + 3) 1)) 3 (f_num L (p + 4) 2)) (p + 6)) 35 10 = nI (p + 6) from mx_rd_p) ?_
              refine x_iconst (v := 1) dX4_readsStatement_252 (by decide) ?_
              refine x_iadd dX4_readsStatement_253 ?_
              refine x_top (show (nI (p + 6)) + 1 = nI (p + 6 + 1) from nI_add (p + 6) 1) ?_
              refine pfX4_91 dX4_readsStatement_254 ?_
              refine x_mem (τ := mx_rd σ (upd (upd (upd (upd (σ 43) 0 (f_kd (L (p + 1)))) 1 (f_num L (p + 2) 1)) 2 (f_num L (p + 3) 1)) 3 (f_num L (p + 4) 2)) (p + 7)) mx_rd_p2 ?_
              refine x_iconst (v := 1) dX4_readsStatement_257 (by decide) ?_
              exact x_zret dX4_readsStatement_258 (by decide) (Rd.yes hsm (by refine ⟨fun z => ?_, fun z => ?_, fun z => ?_, fun z => ?_, fun z => ?_⟩ <;> first | (rw [hp2.2] at z; exact absurd z (by decide)) | exact ⟨rfl, rfl, rfl, rfl⟩ | exact ⟨rfl, rfl⟩ | rfl))
            · have hsm := f_rd_n (a := 1) (d := 4) hp2.1 hp2.2 (by decide) (by decide) (by decide) (fun _ => hkd) d4 c242
              refine x_iconst (v := 0) dX4_readsStatement_245 (by decide) ?_
              exact x_zret dX4_readsStatement_246 (by decide) (Rd.no hsm)
  by_cases c16_6 : f_here L lm p = 105
  · refine x_tableIn (off := 174) (tgt := 190) dX4_readsStatement_16 (by rw [c16_6]; decide) (by rw [c16_6]; decide) (by rw [c16_6]; decide) (by decide) ?_
    have hp2 := f_here_w c16_6 (by decide)
    refine x_aload_n 1 dX4_readsStatement_190 rfl ?_
    refine x_iconst (v := 0) dX4_readsStatement_191 (by decide) ?_
    refine x_iconst (v := 1) dX4_readsStatement_192 (by decide) ?_
    refine clX4_105 (qX4_readsNumber (p := (p + 1)) hlm ((mx_rd_35 (by decide)).trans hz2) (fun j hj => (congrFun (mx_rd_o (by decide) (by decide)) j).trans (hL j hj)) mx_rd_p (by omega) 0 1 (by decide) (by decide)) (by decide) rfl dX4_readsStatement_193 (fun r193 τ193 h193 => ?_)
    obtain ⟨rfl, rfl⟩ := h193
    refine x_mem mx_rd_nm ?_
    refine x_istore_n (lv' := [(2, .int (zb (decide (f_dc L lm (p + 1) 1 = 1)))), (1, .int (f_here L lm p)), (0, mx_rf E 35)]) dX4_readsStatement_196 rfl (by decide) rfl ?_
    refine x_goto dX4_readsStatement_197 ?_
    refine x_iload_n 0 dX4_readsStatement_232 rfl ?_
    refine x_if_eq dX4_readsStatement_233 (fun c233 => ?_) (fun c233 => ?_)
    · replace c233 := zb_0 c233
      have nb : ¬ f_dc L lm (p + 1) 1 = 1 := of_decide_eq_false c233
      have lb := f_dc_le L lm (p + 1) 1
      have hbad : f_rd L lm p = (false, (p + 1 + f_dc L lm (p + 1) 1)) := (f_rd_d (a := 0) (d := 1) hp2.1 hp2.2 (by decide) (by decide) (by decide) (fun z => absurd z (by decide)) (show f_dc L lm (p + 1) 1 = f_dc L lm (p + 1) 1 from rfl) (by omega)).trans (by rw [Prod.mk.injEq]; exact ⟨rfl, by omega⟩)
      refine x_iconst (v := 0) dX4_readsStatement_245 (by decide) ?_
      exact x_zret dX4_readsStatement_246 (by decide) (Rd.no hbad)
    · replace c233 := zb_1 c233
      have ec233 : f_dc L lm (p + 1) 1 = 1 := of_decide_eq_true c233
      rw [ec233]
      have d1 : f_dc L lm (p + 1) 1 = 1 := ec233
      refine x_aload_n 2 dX4_readsStatement_236 rfl ?_
      refine clX4_94 (qX4_here (p := (p + 2)) hlm ((mx_rd_35 (by decide)).trans hz2) (fun j hj => (congrFun (mx_rd_o (by decide) (by decide)) j).trans (hL j hj)) mx_rd_p (by omega)) (by decide) rfl dX4_readsStatement_237 (fun r237 τ237 h237 => ?_)
      obtain ⟨rfl, rfl⟩ := h237
      refine x_bipush (v := 59) dX4_readsStatement_240 (by decide) ?_
      refine x_icmp_eq dX4_readsStatement_242 (fun c242 => ?_) (fun c242 => ?_)
      · have hsm := f_rd_y (a := 0) (d := 1) hp2.1 hp2.2 (by decide) (by decide) (by decide) (fun z => absurd z (by decide)) d1 c242
        refine x_aload_n 2 dX4_readsStatement_247 rfl ?_
        refine x_dup dX4_readsStatement_248 rfl ?_
        refine gfX4_91 dX4_readsStatement_249 ?_
        refine x_top (show (mx_rd σ (upd (σ 43) 0 (f_num L (p + 1) 1)) (p + 2)) 35 10 = nI (p + 2) from mx_rd_p) ?_
        refine x_iconst (v := 1) dX4_readsStatement_252 (by decide) ?_
        refine x_iadd dX4_readsStatement_253 ?_
        refine x_top (show (nI (p + 2)) + 1 = nI (p + 2 + 1) from nI_add (p + 2) 1) ?_
        refine pfX4_91 dX4_readsStatement_254 ?_
        refine x_mem (τ := mx_rd σ (upd (σ 43) 0 (f_num L (p + 1) 1)) (p + 3)) mx_rd_p2 ?_
        refine x_iconst (v := 1) dX4_readsStatement_257 (by decide) ?_
        exact x_zret dX4_readsStatement_258 (by decide) (Rd.yes hsm (by refine ⟨fun z => ?_, fun z => ?_, fun z => ?_, fun z => ?_, fun z => ?_⟩ <;> first | (rw [hp2.2] at z; exact absurd z (by decide)) | exact ⟨rfl, rfl, rfl, rfl⟩ | exact ⟨rfl, rfl⟩ | rfl))
      · have hsm := f_rd_n (a := 0) (d := 1) hp2.1 hp2.2 (by decide) (by decide) (by decide) (fun z => absurd z (by decide)) d1 c242
        refine x_iconst (v := 0) dX4_readsStatement_245 (by decide) ?_
        exact x_zret dX4_readsStatement_246 (by decide) (Rd.no hsm)
  by_cases c16_7 : f_here L lm p = 106
  · refine x_tableIn (off := 204) (tgt := 220) dX4_readsStatement_16 (by rw [c16_7]; decide) (by rw [c16_7]; decide) (by rw [c16_7]; decide) (by decide) ?_
    have hrd := f_rd_0 (L := L) (lm := lm) (p := p) (by rw [c16_7]; decide)
    refine x_aload_n 1 dX4_readsStatement_220 rfl ?_
    refine x_dup dX4_readsStatement_221 rfl ?_
    refine gfX4_91 dX4_readsStatement_222 ?_
    refine x_top (show (mx_rd σ (σ 43) (p + 1)) 35 10 = nI (p + 1) from mx_rd_p) ?_
    refine x_iconst (v := 1) dX4_readsStatement_225 (by decide) ?_
    refine x_isub dX4_readsStatement_226 ?_
    refine x_top (show (nI (p + 1)) - 1 = nI p from (nI_pred p)) ?_
    refine pfX4_91 dX4_readsStatement_227 ?_
    refine x_mem (τ := mx_rd σ (σ 43) p) mx_rd_p2 ?_
    refine x_iconst (v := 0) dX4_readsStatement_230 (by decide) ?_
    exact x_zret dX4_readsStatement_231 (by decide) (Rd.no hrd)
  by_cases c16_8 : f_here L lm p = 107
  · refine x_tableIn (off := 204) (tgt := 220) dX4_readsStatement_16 (by rw [c16_8]; decide) (by rw [c16_8]; decide) (by rw [c16_8]; decide) (by decide) ?_
    have hrd := f_rd_0 (L := L) (lm := lm) (p := p) (by rw [c16_8]; decide)
    refine x_aload_n 1 dX4_readsStatement_220 rfl ?_
    refine x_dup dX4_readsStatement_221 rfl ?_
    refine gfX4_91 dX4_readsStatement_222 ?_
    refine x_top (show (mx_rd σ (σ 43) (p + 1)) 35 10 = nI (p + 1) from mx_rd_p) ?_
    refine x_iconst (v := 1) dX4_readsStatement_225 (by decide) ?_
    refine x_isub dX4_readsStatement_226 ?_
    refine x_top (show (nI (p + 1)) - 1 = nI p from (nI_pred p)) ?_
    refine pfX4_91 dX4_readsStatement_227 ?_
    refine x_mem (τ := mx_rd σ (σ 43) p) mx_rd_p2 ?_
    refine x_iconst (v := 0) dX4_readsStatement_230 (by decide) ?_
    exact x_zret dX4_readsStatement_231 (by decide) (Rd.no hrd)
  by_cases c16_9 : f_here L lm p = 108
  · refine x_tableIn (off := 204) (tgt := 220) dX4_readsStatement_16 (by rw [c16_9]; decide) (by rw [c16_9]; decide) (by rw [c16_9]; decide) (by decide) ?_
    have hrd := f_rd_0 (L := L) (lm := lm) (p := p) (by rw [c16_9]; decide)
    refine x_aload_n 1 dX4_readsStatement_220 rfl ?_
    refine x_dup dX4_readsStatement_221 rfl ?_
    refine gfX4_91 dX4_readsStatement_222 ?_
    refine x_top (show (mx_rd σ (σ 43) (p + 1)) 35 10 = nI (p + 1) from mx_rd_p) ?_
    refine x_iconst (v := 1) dX4_readsStatement_225 (by decide) ?_
    refine x_isub dX4_readsStatement_226 ?_
    refine x_top (show (nI (p + 1)) - 1 = nI p from (nI_pred p)) ?_
    refine pfX4_91 dX4_readsStatement_227 ?_
    refine x_mem (τ := mx_rd σ (σ 43) p) mx_rd_p2 ?_
    refine x_iconst (v := 0) dX4_readsStatement_230 (by decide) ?_
    exact x_zret dX4_readsStatement_231 (by decide) (Rd.no hrd)
  by_cases c16_10 : f_here L lm p = 109
  · refine x_tableIn (off := 204) (tgt := 220) dX4_readsStatement_16 (by rw [c16_10]; decide) (by rw [c16_10]; decide) (by rw [c16_10]; decide) (by decide) ?_
    have hrd := f_rd_0 (L := L) (lm := lm) (p := p) (by rw [c16_10]; decide)
    refine x_aload_n 1 dX4_readsStatement_220 rfl ?_
    refine x_dup dX4_readsStatement_221 rfl ?_
    refine gfX4_91 dX4_readsStatement_222 ?_
    refine x_top (show (mx_rd σ (σ 43) (p + 1)) 35 10 = nI (p + 1) from mx_rd_p) ?_
    refine x_iconst (v := 1) dX4_readsStatement_225 (by decide) ?_
    refine x_isub dX4_readsStatement_226 ?_
    refine x_top (show (nI (p + 1)) - 1 = nI p from (nI_pred p)) ?_
    refine pfX4_91 dX4_readsStatement_227 ?_
    refine x_mem (τ := mx_rd σ (σ 43) p) mx_rd_p2 ?_
    refine x_iconst (v := 0) dX4_readsStatement_230 (by decide) ?_
    exact x_zret dX4_readsStatement_231 (by decide) (Rd.no hrd)
  by_cases c16_11 : f_here L lm p = 110
  · refine x_tableIn (off := 204) (tgt := 220) dX4_readsStatement_16 (by rw [c16_11]; decide) (by rw [c16_11]; decide) (by rw [c16_11]; decide) (by decide) ?_
    have hrd := f_rd_0 (L := L) (lm := lm) (p := p) (by rw [c16_11]; decide)
    refine x_aload_n 1 dX4_readsStatement_220 rfl ?_
    refine x_dup dX4_readsStatement_221 rfl ?_
    refine gfX4_91 dX4_readsStatement_222 ?_
    refine x_top (show (mx_rd σ (σ 43) (p + 1)) 35 10 = nI (p + 1) from mx_rd_p) ?_
    refine x_iconst (v := 1) dX4_readsStatement_225 (by decide) ?_
    refine x_isub dX4_readsStatement_226 ?_
    refine x_top (show (nI (p + 1)) - 1 = nI p from (nI_pred p)) ?_
    refine pfX4_91 dX4_readsStatement_227 ?_
    refine x_mem (τ := mx_rd σ (σ 43) p) mx_rd_p2 ?_
    refine x_iconst (v := 0) dX4_readsStatement_230 (by decide) ?_
    exact x_zret dX4_readsStatement_231 (by decide) (Rd.no hrd)
  by_cases c16_12 : f_here L lm p = 111
  · refine x_tableIn (off := 204) (tgt := 220) dX4_readsStatement_16 (by rw [c16_12]; decide) (by rw [c16_12]; decide) (by rw [c16_12]; decide) (by decide) ?_
    have hrd := f_rd_0 (L := L) (lm := lm) (p := p) (by rw [c16_12]; decide)
    refine x_aload_n 1 dX4_readsStatement_220 rfl ?_
    refine x_dup dX4_readsStatement_221 rfl ?_
    refine gfX4_91 dX4_readsStatement_222 ?_
    refine x_top (show (mx_rd σ (σ 43) (p + 1)) 35 10 = nI (p + 1) from mx_rd_p) ?_
    refine x_iconst (v := 1) dX4_readsStatement_225 (by decide) ?_
    refine x_isub dX4_readsStatement_226 ?_
    refine x_top (show (nI (p + 1)) - 1 = nI p from (nI_pred p)) ?_
    refine pfX4_91 dX4_readsStatement_227 ?_
    refine x_mem (τ := mx_rd σ (σ 43) p) mx_rd_p2 ?_
    refine x_iconst (v := 0) dX4_readsStatement_230 (by decide) ?_
    exact x_zret dX4_readsStatement_231 (by decide) (Rd.no hrd)
  by_cases c16_13 : f_here L lm p = 112
  · refine x_tableIn (off := 147) (tgt := 163) dX4_readsStatement_16 (by rw [c16_13]; decide) (by rw [c16_13]; decide) (by rw [c16_13]; decide) (by decide) ?_
    have hp2 := f_here_w c16_13 (by decide)
    refine x_aload_n 1 dX4_readsStatement_163 rfl ?_
    refine x_iconst (v := 0) dX4_readsStatement_164 (by decide) ?_
    refine x_iconst (v := 1) dX4_readsStatement_165 (by decide) ?_
    refine clX4_105 (qX4_readsNumber (p := (p + 1)) hlm ((mx_rd_35 (by decide)).trans hz2) (fun j hj => (congrFun (mx_rd_o (by decide) (by decide)) j).trans (hL j hj)) mx_rd_p (by omega) 0 1 (by decide) (by decide)) (by decide) rfl dX4_readsStatement_166 (fun r166 τ166 h166 => ?_)
    obtain ⟨rfl, rfl⟩ := h166
    refine x_mem mx_rd_nm ?_
    refine x_if_eq dX4_readsStatement_169 (fun c169 => ?_) (fun c169 => ?_)
    · replace c169 := zb_0 c169
      have nb : ¬ f_dc L lm (p + 1) 1 = 1 := of_decide_eq_false c169
      have lb := f_dc_le L lm (p + 1) 1
      have hbad : f_rd L lm p = (false, (p + 1 + f_dc L lm (p + 1) 1)) := (f_rd_d (a := 0) (d := 3) hp2.1 hp2.2 (by decide) (by decide) (by decide) (fun z => absurd z (by decide)) (show f_dc L lm (p + 1) 3 = f_dc L lm (p + 1) 1 from f_dcB (b := 2) nb) (by omega)).trans (by rw [Prod.mk.injEq]; exact ⟨rfl, by omega⟩)
      refine x_iconst (v := 0) dX4_readsStatement_185 (by decide) ?_
      refine x_istore_n (lv' := [(2, .int 0), (1, .int (f_here L lm p)), (0, mx_rf E 35)]) dX4_readsStatement_186 rfl (by decide) rfl ?_
      refine x_goto dX4_readsStatement_187 ?_
      refine x_iload_n 0 dX4_readsStatement_232 rfl ?_
      refine x_if_eq dX4_readsStatement_233 (fun _ => ?_) (fun c => absurd c (by decide))
      refine x_iconst (v := 0) dX4_readsStatement_245 (by decide) ?_
      exact x_zret dX4_readsStatement_246 (by decide) (Rd.no hbad)
    · replace c169 := zb_1 c169
      have ec169 : f_dc L lm (p + 1) 1 = 1 := of_decide_eq_true c169
      rw [ec169]
      have d1 : f_dc L lm (p + 1) 1 = 1 := ec169
      refine x_aload_n 1 dX4_readsStatement_172 rfl ?_
      refine x_iconst (v := 1) dX4_readsStatement_173 (by decide) ?_
      refine x_iconst (v := 2) dX4_readsStatement_174 (by decide) ?_
      refine clX4_105 (qX4_readsNumber (p := (p + 2)) hlm ((mx_rd_35 (by decide)).trans hz2) (fun j hj => (congrFun (mx_rd_o (by decide) (by decide)) j).trans (hL j hj)) mx_rd_p (by omega) 1 2 (by decide) (by decide)) (by decide) rfl dX4_readsStatement_175 (fun r175 τ175 h175 => ?_)
      obtain ⟨rfl, rfl⟩ := h175
      refine x_mem mx_rd_nm ?_
      refine x_if_eq dX4_readsStatement_178 (fun c178 => ?_) (fun c178 => ?_)
      · replace c178 := zb_0 c178
        have nb : ¬ f_dc L lm (p + 2) 2 = 2 := of_decide_eq_false c178
        have lb := f_dc_le L lm (p + 2) 2
        have hbad : f_rd L lm p = (false, (p + 2 + f_dc L lm (p + 2) 2)) := (f_rd_d (a := 0) (d := 3) hp2.1 hp2.2 (by decide) (by decide) (by decide) (fun z => absurd z (by decide)) (show f_dc L lm (p + 1) 3 = 1 + f_dc L lm (p + 2) 2 from (f_dcA (b := 2) d1).trans (congrArg (fun z => 1 + z) (rfl))) (by omega)).trans (by rw [Prod.mk.injEq]; exact ⟨rfl, by omega⟩)
        refine x_iconst (v := 0) dX4_readsStatement_185 (by decide) ?_
        refine x_istore_n (lv' := [(2, .int 0), (1, .int (f_here L lm p)), (0, mx_rf E 35)]) dX4_readsStatement_186 rfl (by decide) rfl ?_
        refine x_goto dX4_readsStatement_187 ?_
        refine x_iload_n 0 dX4_readsStatement_232 rfl ?_
        refine x_if_eq dX4_readsStatement_233 (fun _ => ?_) (fun c => absurd c (by decide))
        refine x_iconst (v := 0) dX4_readsStatement_245 (by decide) ?_
        exact x_zret dX4_readsStatement_246 (by decide) (Rd.no hbad)
      · replace c178 := zb_1 c178
        have ec178 : f_dc L lm (p + 2) 2 = 2 := of_decide_eq_true c178
        rw [ec178]
        have d3 : f_dc L lm (p + 1) (1 + 2) = 1 + 2 := (f_dcA d1).trans (by rw [ec178])
        refine x_iconst (v := 1) dX4_readsStatement_181 (by decide) ?_
        refine x_goto dX4_readsStatement_182 ?_
        refine x_istore_n (lv' := [(2, .int 1), (1, .int (f_here L lm p)), (0, mx_rf E 35)]) dX4_readsStatement_186 rfl (by decide) rfl ?_
        refine x_goto dX4_readsStatement_187 ?_
        refine x_iload_n 0 dX4_readsStatement_232 rfl ?_
        refine x_if_eq dX4_readsStatement_233 (fun c => absurd c (by decide)) (fun _ => ?_)
        refine x_aload_n 2 dX4_readsStatement_236 rfl ?_
        refine clX4_94 (qX4_here (p := (p + 4)) hlm ((mx_rd_35 (by decide)).trans hz2) (fun j hj => (congrFun (mx_rd_o (by decide) (by decide)) j).trans (hL j hj)) mx_rd_p (by omega)) (by decide) rfl dX4_readsStatement_237 (fun r237 τ237 h237 => ?_)
        obtain ⟨rfl, rfl⟩ := h237
        refine x_bipush (v := 59) dX4_readsStatement_240 (by decide) ?_
        refine x_icmp_eq dX4_readsStatement_242 (fun c242 => ?_) (fun c242 => ?_)
        · have hsm := f_rd_y (a := 0) (d := 3) hp2.1 hp2.2 (by decide) (by decide) (by decide) (fun z => absurd z (by decide)) d3 c242
          refine x_aload_n 2 dX4_readsStatement_247 rfl ?_
          refine x_dup dX4_readsStatement_248 rfl ?_
          refine gfX4_91 dX4_readsStatement_249 ?_
          refine x_top (show (mx_rd σ (upd (upd (σ 43) 0 (f_num L (p + 1) 1)) 1 (f_num L (p + 2) 2)) (p + 4)) 35 10 = nI (p + 4) from mx_rd_p) ?_
          refine x_iconst (v := 1) dX4_readsStatement_252 (by decide) ?_
          refine x_iadd dX4_readsStatement_253 ?_
          refine x_top (show (nI (p + 4)) + 1 = nI (p + 4 + 1) from nI_add (p + 4) 1) ?_
          refine pfX4_91 dX4_readsStatement_254 ?_
          refine x_mem (τ := mx_rd σ (upd (upd (σ 43) 0 (f_num L (p + 1) 1)) 1 (f_num L (p + 2) 2)) (p + 5)) mx_rd_p2 ?_
          refine x_iconst (v := 1) dX4_readsStatement_257 (by decide) ?_
          exact x_zret dX4_readsStatement_258 (by decide) (Rd.yes hsm (by refine ⟨fun z => ?_, fun z => ?_, fun z => ?_, fun z => ?_, fun z => ?_⟩ <;> first | (rw [hp2.2] at z; exact absurd z (by decide)) | exact ⟨rfl, rfl, rfl, rfl⟩ | exact ⟨rfl, rfl⟩ | rfl))
        · have hsm := f_rd_n (a := 0) (d := 3) hp2.1 hp2.2 (by decide) (by decide) (by decide) (fun z => absurd z (by decide)) d3 c242
          refine x_iconst (v := 0) dX4_readsStatement_245 (by decide) ?_
          exact x_zret dX4_readsStatement_246 (by decide) (Rd.no hsm)
  by_cases c16_14 : f_here L lm p = 113
  · refine x_tableIn (off := 204) (tgt := 220) dX4_readsStatement_16 (by rw [c16_14]; decide) (by rw [c16_14]; decide) (by rw [c16_14]; decide) (by decide) ?_
    have hrd := f_rd_0 (L := L) (lm := lm) (p := p) (by rw [c16_14]; decide)
    refine x_aload_n 1 dX4_readsStatement_220 rfl ?_
    refine x_dup dX4_readsStatement_221 rfl ?_
    refine gfX4_91 dX4_readsStatement_222 ?_
    refine x_top (show (mx_rd σ (σ 43) (p + 1)) 35 10 = nI (p + 1) from mx_rd_p) ?_
    refine x_iconst (v := 1) dX4_readsStatement_225 (by decide) ?_
    refine x_isub dX4_readsStatement_226 ?_
    refine x_top (show (nI (p + 1)) - 1 = nI p from (nI_pred p)) ?_
    refine pfX4_91 dX4_readsStatement_227 ?_
    refine x_mem (τ := mx_rd σ (σ 43) p) mx_rd_p2 ?_
    refine x_iconst (v := 0) dX4_readsStatement_230 (by decide) ?_
    exact x_zret dX4_readsStatement_231 (by decide) (Rd.no hrd)
  by_cases c16_15 : f_here L lm p = 114
  · refine x_tableIn (off := 204) (tgt := 220) dX4_readsStatement_16 (by rw [c16_15]; decide) (by rw [c16_15]; decide) (by rw [c16_15]; decide) (by decide) ?_
    have hrd := f_rd_0 (L := L) (lm := lm) (p := p) (by rw [c16_15]; decide)
    refine x_aload_n 1 dX4_readsStatement_220 rfl ?_
    refine x_dup dX4_readsStatement_221 rfl ?_
    refine gfX4_91 dX4_readsStatement_222 ?_
    refine x_top (show (mx_rd σ (σ 43) (p + 1)) 35 10 = nI (p + 1) from mx_rd_p) ?_
    refine x_iconst (v := 1) dX4_readsStatement_225 (by decide) ?_
    refine x_isub dX4_readsStatement_226 ?_
    refine x_top (show (nI (p + 1)) - 1 = nI p from (nI_pred p)) ?_
    refine pfX4_91 dX4_readsStatement_227 ?_
    refine x_mem (τ := mx_rd σ (σ 43) p) mx_rd_p2 ?_
    refine x_iconst (v := 0) dX4_readsStatement_230 (by decide) ?_
    exact x_zret dX4_readsStatement_231 (by decide) (Rd.no hrd)
  by_cases c16_16 : f_here L lm p = 115
  · refine x_tableIn (off := 204) (tgt := 220) dX4_readsStatement_16 (by rw [c16_16]; decide) (by rw [c16_16]; decide) (by rw [c16_16]; decide) (by decide) ?_
    have hrd := f_rd_0 (L := L) (lm := lm) (p := p) (by rw [c16_16]; decide)
    refine x_aload_n 1 dX4_readsStatement_220 rfl ?_
    refine x_dup dX4_readsStatement_221 rfl ?_
    refine gfX4_91 dX4_readsStatement_222 ?_
    refine x_top (show (mx_rd σ (σ 43) (p + 1)) 35 10 = nI (p + 1) from mx_rd_p) ?_
    refine x_iconst (v := 1) dX4_readsStatement_225 (by decide) ?_
    refine x_isub dX4_readsStatement_226 ?_
    refine x_top (show (nI (p + 1)) - 1 = nI p from (nI_pred p)) ?_
    refine pfX4_91 dX4_readsStatement_227 ?_
    refine x_mem (τ := mx_rd σ (σ 43) p) mx_rd_p2 ?_
    refine x_iconst (v := 0) dX4_readsStatement_230 (by decide) ?_
    exact x_zret dX4_readsStatement_231 (by decide) (Rd.no hrd)
  by_cases c16_17 : f_here L lm p = 116
  · refine x_tableIn (off := 204) (tgt := 220) dX4_readsStatement_16 (by rw [c16_17]; decide) (by rw [c16_17]; decide) (by rw [c16_17]; decide) (by decide) ?_
    have hrd := f_rd_0 (L := L) (lm := lm) (p := p) (by rw [c16_17]; decide)
    refine x_aload_n 1 dX4_readsStatement_220 rfl ?_
    refine x_dup dX4_readsStatement_221 rfl ?_
    refine gfX4_91 dX4_readsStatement_222 ?_
    refine x_top (show (mx_rd σ (σ 43) (p + 1)) 35 10 = nI (p + 1) from mx_rd_p) ?_
    refine x_iconst (v := 1) dX4_readsStatement_225 (by decide) ?_
    refine x_isub dX4_readsStatement_226 ?_
    refine x_top (show (nI (p + 1)) - 1 = nI p from (nI_pred p)) ?_
    refine pfX4_91 dX4_readsStatement_227 ?_
    refine x_mem (τ := mx_rd σ (σ 43) p) mx_rd_p2 ?_
    refine x_iconst (v := 0) dX4_readsStatement_230 (by decide) ?_
    exact x_zret dX4_readsStatement_231 (by decide) (Rd.no hrd)
  by_cases c16_18 : f_here L lm p = 117
  · refine x_tableIn (off := 204) (tgt := 220) dX4_readsStatement_16 (by rw [c16_18]; decide) (by rw [c16_18]; decide) (by rw [c16_18]; decide) (by decide) ?_
    have hrd := f_rd_0 (L := L) (lm := lm) (p := p) (by rw [c16_18]; decide)
    refine x_aload_n 1 dX4_readsStatement_220 rfl ?_
    refine x_dup dX4_readsStatement_221 rfl ?_
    refine gfX4_91 dX4_readsStatement_222 ?_
    refine x_top (show (mx_rd σ (σ 43) (p + 1)) 35 10 = nI (p + 1) from mx_rd_p) ?_
    refine x_iconst (v := 1) dX4_readsStatement_225 (by decide) ?_
    refine x_isub dX4_readsStatement_226 ?_
    refine x_top (show (nI (p + 1)) - 1 = nI p from (nI_pred p)) ?_
    refine pfX4_91 dX4_readsStatement_227 ?_
    refine x_mem (τ := mx_rd σ (σ 43) p) mx_rd_p2 ?_
    refine x_iconst (v := 0) dX4_readsStatement_230 (by decide) ?_
    exact x_zret dX4_readsStatement_231 (by decide) (Rd.no hrd)
  by_cases c16_19 : f_here L lm p = 118
  · refine x_tableIn (off := 204) (tgt := 220) dX4_readsStatement_16 (by rw [c16_19]; decide) (by rw [c16_19]; decide) (by rw [c16_19]; decide) (by decide) ?_
    have hrd := f_rd_0 (L := L) (lm := lm) (p := p) (by rw [c16_19]; decide)
    refine x_aload_n 1 dX4_readsStatement_220 rfl ?_
    refine x_dup dX4_readsStatement_221 rfl ?_
    refine gfX4_91 dX4_readsStatement_222 ?_
    refine x_top (show (mx_rd σ (σ 43) (p + 1)) 35 10 = nI (p + 1) from mx_rd_p) ?_
    refine x_iconst (v := 1) dX4_readsStatement_225 (by decide) ?_
    refine x_isub dX4_readsStatement_226 ?_
    refine x_top (show (nI (p + 1)) - 1 = nI p from (nI_pred p)) ?_
    refine pfX4_91 dX4_readsStatement_227 ?_
    refine x_mem (τ := mx_rd σ (σ 43) p) mx_rd_p2 ?_
    refine x_iconst (v := 0) dX4_readsStatement_230 (by decide) ?_
    exact x_zret dX4_readsStatement_231 (by decide) (Rd.no hrd)
  by_cases c16_20 : f_here L lm p = 119
  · refine x_tableIn (off := 194) (tgt := 210) dX4_readsStatement_16 (by rw [c16_20]; decide) (by rw [c16_20]; decide) (by rw [c16_20]; decide) (by decide) ?_
    have hp2 := f_here_w c16_20 (by decide)
    refine x_aload_n 1 dX4_readsStatement_210 rfl ?_
    refine x_iconst (v := 0) dX4_readsStatement_211 (by decide) ?_
    refine x_iconst (v := 2) dX4_readsStatement_212 (by decide) ?_
    refine clX4_105 (qX4_readsNumber (p := (p + 1)) hlm ((mx_rd_35 (by decide)).trans hz2) (fun j hj => (congrFun (mx_rd_o (by decide) (by decide)) j).trans (hL j hj)) mx_rd_p (by omega) 0 2 (by decide) (by decide)) (by decide) rfl dX4_readsStatement_213 (fun r213 τ213 h213 => ?_)
    obtain ⟨rfl, rfl⟩ := h213
    refine x_mem mx_rd_nm ?_
    refine x_istore_n (lv' := [(2, .int (zb (decide (f_dc L lm (p + 1) 2 = 2)))), (1, .int (f_here L lm p)), (0, mx_rf E 35)]) dX4_readsStatement_216 rfl (by decide) rfl ?_
    refine x_goto dX4_readsStatement_217 ?_
    refine x_iload_n 0 dX4_readsStatement_232 rfl ?_
    refine x_if_eq dX4_readsStatement_233 (fun c233 => ?_) (fun c233 => ?_)
    · replace c233 := zb_0 c233
      have nb : ¬ f_dc L lm (p + 1) 2 = 2 := of_decide_eq_false c233
      have lb := f_dc_le L lm (p + 1) 2
      have hbad : f_rd L lm p = (false, (p + 1 + f_dc L lm (p + 1) 2)) := (f_rd_d (a := 0) (d := 2) hp2.1 hp2.2 (by decide) (by decide) (by decide) (fun z => absurd z (by decide)) (show f_dc L lm (p + 1) 2 = f_dc L lm (p + 1) 2 from rfl) (by omega)).trans (by rw [Prod.mk.injEq]; exact ⟨rfl, by omega⟩)
      refine x_iconst (v := 0) dX4_readsStatement_245 (by decide) ?_
      exact x_zret dX4_readsStatement_246 (by decide) (Rd.no hbad)
    · replace c233 := zb_1 c233
      have ec233 : f_dc L lm (p + 1) 2 = 2 := of_decide_eq_true c233
      rw [ec233]
      have d2 : f_dc L lm (p + 1) 2 = 2 := ec233
      refine x_aload_n 2 dX4_readsStatement_236 rfl ?_
      refine clX4_94 (qX4_here (p := (p + 3)) hlm ((mx_rd_35 (by decide)).trans hz2) (fun j hj => (congrFun (mx_rd_o (by decide) (by decide)) j).trans (hL j hj)) mx_rd_p (by omega)) (by decide) rfl dX4_readsStatement_237 (fun r237 τ237 h237 => ?_)
      obtain ⟨rfl, rfl⟩ := h237
      refine x_bipush (v := 59) dX4_readsStatement_240 (by decide) ?_
      refine x_icmp_eq dX4_readsStatement_242 (fun c242 => ?_) (fun c242 => ?_)
      · have hsm := f_rd_y (a := 0) (d := 2) hp2.1 hp2.2 (by decide) (by decide) (by decide) (fun z => absurd z (by decide)) d2 c242
        refine x_aload_n 2 dX4_readsStatement_247 rfl ?_
        refine x_dup dX4_readsStatement_248 rfl ?_
        refine gfX4_91 dX4_readsStatement_249 ?_
        refine x_top (show (mx_rd σ (upd (σ 43) 0 (f_num L (p + 1) 2)) (p + 3)) 35 10 = nI (p + 3) from mx_rd_p) ?_
        refine x_iconst (v := 1) dX4_readsStatement_252 (by decide) ?_
        refine x_iadd dX4_readsStatement_253 ?_
        refine x_top (show (nI (p + 3)) + 1 = nI (p + 3 + 1) from nI_add (p + 3) 1) ?_
        refine pfX4_91 dX4_readsStatement_254 ?_
        refine x_mem (τ := mx_rd σ (upd (σ 43) 0 (f_num L (p + 1) 2)) (p + 4)) mx_rd_p2 ?_
        refine x_iconst (v := 1) dX4_readsStatement_257 (by decide) ?_
        exact x_zret dX4_readsStatement_258 (by decide) (Rd.yes hsm (by refine ⟨fun z => ?_, fun z => ?_, fun z => ?_, fun z => ?_, fun z => ?_⟩ <;> first | (rw [hp2.2] at z; exact absurd z (by decide)) | exact ⟨rfl, rfl, rfl, rfl⟩ | exact ⟨rfl, rfl⟩ | rfl))
      · have hsm := f_rd_n (a := 0) (d := 2) hp2.1 hp2.2 (by decide) (by decide) (by decide) (fun z => absurd z (by decide)) d2 c242
        refine x_iconst (v := 0) dX4_readsStatement_245 (by decide) ?_
        exact x_zret dX4_readsStatement_246 (by decide) (Rd.no hsm)
  by_cases c16_21 : f_here L lm p = 120
  · refine x_tableIn (off := 174) (tgt := 190) dX4_readsStatement_16 (by rw [c16_21]; decide) (by rw [c16_21]; decide) (by rw [c16_21]; decide) (by decide) ?_
    have hp2 := f_here_w c16_21 (by decide)
    refine x_aload_n 1 dX4_readsStatement_190 rfl ?_
    refine x_iconst (v := 0) dX4_readsStatement_191 (by decide) ?_
    refine x_iconst (v := 1) dX4_readsStatement_192 (by decide) ?_
    refine clX4_105 (qX4_readsNumber (p := (p + 1)) hlm ((mx_rd_35 (by decide)).trans hz2) (fun j hj => (congrFun (mx_rd_o (by decide) (by decide)) j).trans (hL j hj)) mx_rd_p (by omega) 0 1 (by decide) (by decide)) (by decide) rfl dX4_readsStatement_193 (fun r193 τ193 h193 => ?_)
    obtain ⟨rfl, rfl⟩ := h193
    refine x_mem mx_rd_nm ?_
    refine x_istore_n (lv' := [(2, .int (zb (decide (f_dc L lm (p + 1) 1 = 1)))), (1, .int (f_here L lm p)), (0, mx_rf E 35)]) dX4_readsStatement_196 rfl (by decide) rfl ?_
    refine x_goto dX4_readsStatement_197 ?_
    refine x_iload_n 0 dX4_readsStatement_232 rfl ?_
    refine x_if_eq dX4_readsStatement_233 (fun c233 => ?_) (fun c233 => ?_)
    · replace c233 := zb_0 c233
      have nb : ¬ f_dc L lm (p + 1) 1 = 1 := of_decide_eq_false c233
      have lb := f_dc_le L lm (p + 1) 1
      have hbad : f_rd L lm p = (false, (p + 1 + f_dc L lm (p + 1) 1)) := (f_rd_d (a := 0) (d := 1) hp2.1 hp2.2 (by decide) (by decide) (by decide) (fun z => absurd z (by decide)) (show f_dc L lm (p + 1) 1 = f_dc L lm (p + 1) 1 from rfl) (by omega)).trans (by rw [Prod.mk.injEq]; exact ⟨rfl, by omega⟩)
      refine x_iconst (v := 0) dX4_readsStatement_245 (by decide) ?_
      exact x_zret dX4_readsStatement_246 (by decide) (Rd.no hbad)
    · replace c233 := zb_1 c233
      have ec233 : f_dc L lm (p + 1) 1 = 1 := of_decide_eq_true c233
      rw [ec233]
      have d1 : f_dc L lm (p + 1) 1 = 1 := ec233
      refine x_aload_n 2 dX4_readsStatement_236 rfl ?_
      refine clX4_94 (qX4_here (p := (p + 2)) hlm ((mx_rd_35 (by decide)).trans hz2) (fun j hj => (congrFun (mx_rd_o (by decide) (by decide)) j).trans (hL j hj)) mx_rd_p (by omega)) (by decide) rfl dX4_readsStatement_237 (fun r237 τ237 h237 => ?_)
      obtain ⟨rfl, rfl⟩ := h237
      refine x_bipush (v := 59) dX4_readsStatement_240 (by decide) ?_
      refine x_icmp_eq dX4_readsStatement_242 (fun c242 => ?_) (fun c242 => ?_)
      · have hsm := f_rd_y (a := 0) (d := 1) hp2.1 hp2.2 (by decide) (by decide) (by decide) (fun z => absurd z (by decide)) d1 c242
        refine x_aload_n 2 dX4_readsStatement_247 rfl ?_
        refine x_dup dX4_readsStatement_248 rfl ?_
        refine gfX4_91 dX4_readsStatement_249 ?_
        refine x_top (show (mx_rd σ (upd (σ 43) 0 (f_num L (p + 1) 1)) (p + 2)) 35 10 = nI (p + 2) from mx_rd_p) ?_
        refine x_iconst (v := 1) dX4_readsStatement_252 (by decide) ?_
        refine x_iadd dX4_readsStatement_253 ?_
        refine x_top (show (nI (p + 2)) + 1 = nI (p + 2 + 1) from nI_add (p + 2) 1) ?_
        refine pfX4_91 dX4_readsStatement_254 ?_
        refine x_mem (τ := mx_rd σ (upd (σ 43) 0 (f_num L (p + 1) 1)) (p + 3)) mx_rd_p2 ?_
        refine x_iconst (v := 1) dX4_readsStatement_257 (by decide) ?_
        exact x_zret dX4_readsStatement_258 (by decide) (Rd.yes hsm (by refine ⟨fun z => ?_, fun z => ?_, fun z => ?_, fun z => ?_, fun z => ?_⟩ <;> first | (rw [hp2.2] at z; exact absurd z (by decide)) | exact ⟨rfl, rfl, rfl, rfl⟩ | exact ⟨rfl, rfl⟩ | rfl))
      · have hsm := f_rd_n (a := 0) (d := 1) hp2.1 hp2.2 (by decide) (by decide) (by decide) (fun z => absurd z (by decide)) d1 c242
        refine x_iconst (v := 0) dX4_readsStatement_245 (by decide) ?_
        exact x_zret dX4_readsStatement_246 (by decide) (Rd.no hsm)
  have hsw16 : (f_here L lm p).toInt < 99 ∨ 120 < (f_here L lm p).toInt := by
    have q_c16_0 := lv_neT c16_0 (show (99 : Int32).toInt = 99 from rfl)
    have q_c16_1 := lv_neT c16_1 (show (100 : Int32).toInt = 100 from rfl)
    have q_c16_2 := lv_neT c16_2 (show (101 : Int32).toInt = 101 from rfl)
    have q_c16_3 := lv_neT c16_3 (show (102 : Int32).toInt = 102 from rfl)
    have q_c16_4 := lv_neT c16_4 (show (103 : Int32).toInt = 103 from rfl)
    have q_c16_5 := lv_neT c16_5 (show (104 : Int32).toInt = 104 from rfl)
    have q_c16_6 := lv_neT c16_6 (show (105 : Int32).toInt = 105 from rfl)
    have q_c16_7 := lv_neT c16_7 (show (106 : Int32).toInt = 106 from rfl)
    have q_c16_8 := lv_neT c16_8 (show (107 : Int32).toInt = 107 from rfl)
    have q_c16_9 := lv_neT c16_9 (show (108 : Int32).toInt = 108 from rfl)
    have q_c16_10 := lv_neT c16_10 (show (109 : Int32).toInt = 109 from rfl)
    have q_c16_11 := lv_neT c16_11 (show (110 : Int32).toInt = 110 from rfl)
    have q_c16_12 := lv_neT c16_12 (show (111 : Int32).toInt = 111 from rfl)
    have q_c16_13 := lv_neT c16_13 (show (112 : Int32).toInt = 112 from rfl)
    have q_c16_14 := lv_neT c16_14 (show (113 : Int32).toInt = 113 from rfl)
    have q_c16_15 := lv_neT c16_15 (show (114 : Int32).toInt = 114 from rfl)
    have q_c16_16 := lv_neT c16_16 (show (115 : Int32).toInt = 115 from rfl)
    have q_c16_17 := lv_neT c16_17 (show (116 : Int32).toInt = 116 from rfl)
    have q_c16_18 := lv_neT c16_18 (show (117 : Int32).toInt = 117 from rfl)
    have q_c16_19 := lv_neT c16_19 (show (118 : Int32).toInt = 118 from rfl)
    have q_c16_20 := lv_neT c16_20 (show (119 : Int32).toInt = 119 from rfl)
    have q_c16_21 := lv_neT c16_21 (show (120 : Int32).toInt = 120 from rfl)
    omega
  refine x_tableOut (tgt := 220) dX4_readsStatement_16 hsw16 (by decide) ?_
  have hrd := f_rd_0 (L := L) (lm := lm) (p := p) (by unfold f_w1; rw [if_neg c16_5, if_neg c16_13, if_neg c16_1, if_neg c16_0, if_neg c16_20, if_neg c16_21, if_neg c16_6])
  refine x_aload_n 1 dX4_readsStatement_220 rfl ?_
  refine x_dup dX4_readsStatement_221 rfl ?_
  refine gfX4_91 dX4_readsStatement_222 ?_
  refine x_top (show (mx_rd σ (σ 43) (p + 1)) 35 10 = nI (p + 1) from mx_rd_p) ?_
  refine x_iconst (v := 1) dX4_readsStatement_225 (by decide) ?_
  refine x_isub dX4_readsStatement_226 ?_
  refine x_top (show (nI (p + 1)) - 1 = nI p from (nI_pred p)) ?_
  refine pfX4_91 dX4_readsStatement_227 ?_
  refine x_mem (τ := mx_rd σ (σ 43) p) mx_rd_p2 ?_
  refine x_iconst (v := 0) dX4_readsStatement_230 (by decide) ?_
  exact x_zret dX4_readsStatement_231 (by decide) (Rd.no hrd)
