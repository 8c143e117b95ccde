set_option maxHeartbeats 4000000 in
theorem qX3_dustIsAsTold {E : mx_E} {σ : Mem} {n : Nat} {r : Row} (hN : NW σ) (hT : TI σ 1 n r) (hw : wf n r) (R : Row) (m : Nat) (hm : m ≤ 16) (hz : σ 29 1 = nI m) (hv : ∀ j, j < m → σ 32 j = R j) {q : Row} (hT2 : TI σ 2 n q) (hwq : wf n q) (h : Nat) (hh : h < n)  : MX3_dustIsAsTold E 4 [mx_rf E 0, .int (nI h)] σ (mx_i (fun v τ => zb (f_asT n q R h m) = v ∧ Off 2 σ τ)) := by
  refine MM.of (lv := [(0, mx_rf E 0), (1, .int (nI h))]) kpX3 rfl (Nat.le_of_ble_eq_true rfl) rfl ?_
  have hn6 := hw.1
  refine x_iconst (v := 0) dX3_dustIsAsTold_0 (by decide) ?_
  refine x_istore_n (lv' := [(2, .int 0), (0, mx_rf E 0), (1, .int (nI h))]) dX3_dustIsAsTold_1 rfl (by decide) rfl ?_
  have key2 : ∀ k, k ≤ m → ∀ τ : Mem, TI τ 2 n (f_weeks n q k) → Off 2 σ τ → f_asT n q R h k = true → MX E 4 RX3 cX3_dustIsAsTold 3 (some .boolean) 2 [(2, .int (nI k)), (0, mx_rf E 0), (1, .int (nI h))] [] τ (mx_i (fun v τ => zb (f_asT n q R h m) = v ∧ Off 2 σ τ)) := by
    refine mx_ind m (fun k hi2 ih2 => ?_)
    intro τ hT2 hO ha
    refine x_iload_n 0 dX3_dustIsAsTold_2 rfl ?_
    refine x_aload_n 1 dX3_dustIsAsTold_3 rfl ?_
    refine gfX3_35 dX3_dustIsAsTold_4 ?_
    refine gfX3_60 (by decide) (by decide) dX3_dustIsAsTold_7 ?_
    refine x_top (show τ 29 1 = nI m from ((congrFun (hO 29 (by unfold inT; omega)) 1).trans hz)) ?_
    refine x_icmp_ge dX3_dustIsAsTold_10 (fun c10 => ?_) (fun c10 => ?_)
    · have hge := nI_le_of (by omega) (by omega) c10
      have hkm : k = m := by omega
      refine x_iconst (v := 1) dX3_dustIsAsTold_51 (by decide) ?_
      exact x_zret dX3_dustIsAsTold_52 (by decide) ⟨zb_t' (by rw [← hkm]; exact ha), hO⟩
    · have hlt := nI_lt_of (by omega) (by omega) c10
      refine x_aload_n 1 dX3_dustIsAsTold_13 rfl ?_
      refine gfX3_16 dX3_dustIsAsTold_14 ?_
      refine x_iload_n 2 dX3_dustIsAsTold_17 rfl ?_
      refine clX3_125 (qX2_at (by decide) (by decide) hT2.1 hn6 hh) (by decide) (by decide) (by decide) rfl dX3_dustIsAsTold_18 (fun r18 τ18 h18 => ?_)
      obtain ⟨rfl, rfl⟩ := h18
      refine gfX3_133 (by omega) (by omega) dX3_dustIsAsTold_21 ?_
      refine x_top (show τ (4 + 6 * 2 + h) 4 = (f_weeks n q k) (6 + 6 * h + 4) from (hT2.2.2.2.2 _ hh).1 4 (by decide)) ?_
      refine x_aload_n 1 dX3_dustIsAsTold_24 rfl ?_
      refine gfX3_35 dX3_dustIsAsTold_25 ?_
      refine x_iload_n 0 dX3_dustIsAsTold_28 rfl ?_
      refine clX3_77 (qX1_at (k := 29) (by decide) (by decide) m hm ((congrFun (hO 29 (by unfold inT; omega)) 1).trans hz) k (by omega)) (by decide) (by decide) (by decide) rfl dX3_dustIsAsTold_29 (fun r29 τ29 h29 => ?_)
      obtain ⟨rfl, rfl⟩ := h29
      refine x_top (show τ (29 + 3) k = R k from (congrFun (hO 32 (by unfold inT; omega)) _).trans (hv k (by omega))) ?_
      refine x_icmp_eq dX3_dustIsAsTold_32 (fun c32 => ?_) (fun c32 => ?_)
      · refine x_aload_n 1 dX3_dustIsAsTold_37 rfl ?_
        refine gfX3_16 dX3_dustIsAsTold_38 ?_
        refine x_iconst (v := 1) dX3_dustIsAsTold_41 (by decide) ?_
        refine clX3_145 (qX2_pass (t := 2) (by decide) (by decide) hT2 (wf_weeks hwq k) (hN.off (by decide) (by decide) hO) 1 (by omega)) (by decide) (by decide) (by decide) rfl dX3_dustIsAsTold_42 (fun τ42 h42 => ?_)
        have hO42 : Off 2 σ τ42 := hO.tr h42.2
        refine x_iinc (v := nI (k + 1)) (lv' := [(2, .int (nI (k + 1))), (0, mx_rf E 0), (1, .int (nI h))]) 0 dX3_dustIsAsTold_45 rfl (nI_1 _) (by decide) rfl ?_
        refine x_goto dX3_dustIsAsTold_48 ?_
        exact ih2 (k + 1) (by omega) (by omega) _ (by exact h42.1) hO42 (f_asT_T ha c32)
      · refine x_iconst (v := 0) dX3_dustIsAsTold_35 (by decide) ?_
        exact x_zret dX3_dustIsAsTold_36 (by decide) ⟨zb_f' (f_asT_F c32 m (by omega)), hO⟩
  exact key2 0 (Nat.zero_le _) _ hT2 Off.rf rfl

set_option maxHeartbeats 4000000 in
theorem qX3_whatIs {E : mx_E} {σ : Mem} {n : Nat} {r : Row} (hN : NW σ) (hT : TI σ 1 n r) (hw : wf n r) (R : Row) (m : Nat) (hm : m ≤ 16) (hz : σ 29 1 = nI m) (hv : ∀ j, j < m → σ 32 j = R j) (house what : Int32) : MX3_whatIs E 5 [mx_rf E 0, .int house, .int what] σ (mx_i (fun v τ => (p_whatIs n r m R house what).1 = v ∧ Qz (p_whatIs n r m R house what).2 σ τ)) := by
  refine MM.of (lv := [(0, mx_rf E 0), (1, .int house), (2, .int what)]) kpX3 rfl (Nat.le_of_ble_eq_true rfl) rfl ?_
  have hn6 := hw.1
  refine x_aload_n 0 dX3_whatIs_0 rfl ?_
  refine gfX3_10 dX3_whatIs_1 ?_
  refine x_iload_n 1 dX3_whatIs_4 rfl ?_
  refine clX3_122 (qX2_has (by decide) (by decide) hT.1 house) (by decide) (by decide) (by decide) rfl dX3_whatIs_5 (fun r5 τ5 h5 => ?_)
  obtain ⟨rfl, rfl⟩ := h5
  refine x_if_ne dX3_whatIs_8 (fun c8 => ?_) (fun c8 => ?_)
  · replace c8 := zb_1 c8
    obtain ⟨h, hh, rfl⟩ := f_inN_t (by omega) c8
    refine x_iload_n 2 dX3_whatIs_17 rfl ?_
    refine x_if_lt dX3_whatIs_18 (fun c18 => ?_) (fun c18 => ?_)
    · have hwt : f_in what 0 1 = false := by unfold f_in; rw [decide_eq_false (Int32.not_le.mpr c18)]; rfl
      refine x_aload_n 0 dX3_whatIs_26 rfl ?_
      refine x_bipush (v := -2) dX3_whatIs_27 (by decide) ?_
      refine clX3_49 (qX3_refuse 2 (by decide) (by decide)) (by decide) rfl dX3_whatIs_29 (fun r29 τ29 h29 => ?_)
      obtain ⟨rfl, rfl⟩ := h29
      exact x_iret dX3_whatIs_32 (by rw [show p_whatIs n r m R (nI h) what = (-2, 2) from by simp [p_whatIs, c8, c18, (Int32.not_le.mpr c18), nI_clamp (show h < 2 ^ 31 by omega), hwt]]; exact ⟨rfl, Qz.no⟩)
    · refine x_iload_n 2 dX3_whatIs_21 rfl ?_
      refine x_iconst (v := 1) dX3_whatIs_22 (by decide) ?_
      refine x_icmp_le dX3_whatIs_23 (fun c23 => ?_) (fun c23 => ?_)
      · have hwt : f_in what 0 1 = true := by unfold f_in; rw [decide_eq_true (Int32.not_lt.mp c18), decide_eq_true c23]; rfl
        obtain ⟨y, hy, rfl⟩ := f_in_t (hi := 1) (by decide) hwt
        rcases (show y = 0 ∨ y = 1 by omega) with rfl | rfl
        · refine x_iload_n 2 dX3_whatIs_33 rfl ?_
          refine x_if_ne dX3_whatIs_34 (fun c => absurd c (by decide)) (fun _ => ?_)
          refine x_bipush (v := 6) dX3_whatIs_37 (by decide) ?_
          refine x_goto dX3_whatIs_39 ?_
          refine x_istore_n (lv' := [(3, .int 6), (0, mx_rf E 0), (1, .int (nI h)), (2, .int 0)]) dX3_whatIs_44 rfl (by decide) rfl ?_
          refine x_iconst (v := 0) dX3_whatIs_45 (by decide) ?_
          refine x_istore (lv' := [(4, .int 0), (3, .int 6), (0, mx_rf E 0), (1, .int (nI h)), (2, .int 0)]) dX3_whatIs_46 rfl (by decide) rfl ?_
          refine x_iconst (v := 0) dX3_whatIs_48 (by decide) ?_
          refine x_istore (lv' := [(5, .int 0), (4, .int 0), (3, .int 6), (0, mx_rf E 0), (1, .int (nI h)), (2, .int 0)]) dX3_whatIs_49 rfl (by decide) rfl ?_
          have key51 : ∀ z, z ≤ 6 → ∀ τ : Mem, Off 2 σ τ → MX E 5 RX3 cX3_whatIs 6 (some .int) 51 [(5, .int (nI z)), (4, .int (f_wi n m r R h 0 z)), (3, .int 6), (0, mx_rf E 0), (1, .int (nI h)), (2, .int 0)] [] τ (mx_i (fun v τ => (p_whatIs n r m R (nI h) (nI 0)).1 = v ∧ Qz (p_whatIs n r m R (nI h) (nI 0)).2 σ τ)) := by
            refine mx_ind 6 (fun z hi51 ih51 => ?_)
            intro τ hO
            refine x_iload 0 dX3_whatIs_51 rfl ?_
            refine x_iload_n 2 dX3_whatIs_53 rfl ?_
            refine x_icmp_ge dX3_whatIs_54 (fun c54 => ?_) (fun c54 => ?_)
            · have hge := nI_le_of (b := 6) (by decide) (by omega) c54
              have hzl : z = 6 := by omega
              refine x_iload 1 dX3_whatIs_124 rfl ?_
              exact x_iret dX3_whatIs_126 (by rw [show p_whatIs n r m R (nI h) (nI 0) = (f_wi n m r R h 0 z, 0) from by unfold p_whatIs; rw [if_pos c8, if_pos hwt, nI_clamp (show h < 2 ^ 31 by omega), hzl]; rfl]; exact ⟨rfl, Qz.off hO⟩)
            · have hz6 := nI_lt_of (b := 6) (by decide) (by omega) c54
              refine x_aload_n 3 dX3_whatIs_57 rfl ?_
              refine gfX3_16 dX3_whatIs_58 ?_
              refine x_aload_n 3 dX3_whatIs_61 rfl ?_
              refine gfX3_10 dX3_whatIs_62 ?_
              refine clX3_73 (qX2_become (t := 2) (u := 1) (by decide) (by decide) (by decide) (by decide) (by decide) (hT.offt hn6 (by decide) (by decide) (by decide) (by decide) (by decide) hO) hw) (by decide) (by decide) (by decide) rfl dX3_whatIs_65 (fun τ65 h65 => ?_)
              refine x_iload_n 5 dX3_whatIs_68 rfl ?_
              refine x_if_ne dX3_whatIs_69 (fun c => absurd c (by decide)) (fun _ => ?_)
              refine x_aload_n 3 dX3_whatIs_72 rfl ?_
              refine gfX3_16 dX3_whatIs_73 ?_
              refine x_iload_n 4 dX3_whatIs_76 rfl ?_
              refine clX3_125 (qX2_at (by decide) (by decide) h65.1.1 hn6 hh) (by decide) (by decide) (by decide) rfl dX3_whatIs_77 (fun r77 τ77 h77 => ?_)
              obtain ⟨rfl, rfl⟩ := h77
              refine x_iload 0 dX3_whatIs_80 rfl ?_
              refine pfX3_148 (by omega) (by omega) dX3_whatIs_82 ?_
              have hT82 : TI (mx_up τ65 (4 + 6 * 2 + h) 0 (nI z)) 2 n (upd r (6 + 6 * h) (nI z)) := h65.1.fld (by decide) hh (by decide)
              have hO82 : Off 2 σ (mx_up τ65 (4 + 6 * 2 + h) 0 (nI z)) := (hO.tr h65.2).up (inT_h (by omega))
              refine x_goto dX3_whatIs_85 ?_
              refine x_aload_n 3 dX3_whatIs_101 rfl ?_
              refine x_iload_n 4 dX3_whatIs_102 rfl ?_
              refine clX3_265 (qX3_dustIsAsTold (hN.off (by decide) (by decide) hO82) (hT.offt hn6 (by decide) (by decide) (by decide) (by decide) (by decide) hO82) hw R m hm ((congrFun (hO82 29 (by unfold inT; omega)) 1).trans hz) (fun j hj => (congrFun (hO82 32 (by unfold inT; omega)) j).trans (hv j hj)) hT82 (wf_cd0 hw hz6) h hh) (by decide) rfl dX3_whatIs_103 (fun r103 τ103 h103 => ?_)
              obtain ⟨rfl, hO9⟩ := h103
              have hO103 := hO82.tr hO9
              refine x_if_eq dX3_whatIs_106 (fun c106 => ?_) (fun c106 => ?_)
              · replace c106 := zb_0 c106
                refine x_iinc (v := nI (z + 1)) (lv' := [(5, .int (nI (z + 1))), (4, .int (f_wi n m r R h 0 z)), (3, .int 6), (0, mx_rf E 0), (1, .int (nI h)), (2, .int 0)]) 0 dX3_whatIs_118 rfl (nI_1 _) (by decide) rfl ?_
                refine x_goto dX3_whatIs_121 ?_
                exact acc_eq (P := fun x => MX E _ _ _ _ _ _ [(5, .int (nI (z + 1))), (4, .int x), (3, .int 6), (0, mx_rf E 0), (1, .int (nI h)), (2, .int 0)] _ _ _) (f_wi_F c106).symm (ih51 (z + 1) (by omega) (by omega) _ hO103)
              · replace c106 := zb_1 c106
                refine x_iload 1 dX3_whatIs_109 rfl ?_
                refine x_iconst (v := 1) dX3_whatIs_111 (by decide) ?_
                refine x_iload 0 dX3_whatIs_112 rfl ?_
                refine x_ishl dX3_whatIs_114 ?_
                refine x_ior dX3_whatIs_115 ?_
                refine x_istore (lv' := [(4, .int ((f_wi n m r R h 0 z) ||| (1 <<< ((nI z) &&& 31)))), (5, .int (nI z)), (3, .int 6), (0, mx_rf E 0), (1, .int (nI h)), (2, .int 0)]) dX3_whatIs_116 rfl (by decide) rfl ?_
                refine x_iinc (v := nI (z + 1)) (lv' := [(5, .int (nI (z + 1))), (4, .int ((f_wi n m r R h 0 z) ||| (1 <<< ((nI z) &&& 31)))), (3, .int 6), (0, mx_rf E 0), (1, .int (nI h)), (2, .int 0)]) 1 dX3_whatIs_118 rfl (nI_1 _) (by decide) rfl ?_
                refine x_goto dX3_whatIs_121 ?_
                exact acc_eq (P := fun x => MX E _ _ _ _ _ _ [(5, .int (nI (z + 1))), (4, .int x), (3, .int 6), (0, mx_rf E 0), (1, .int (nI h)), (2, .int 0)] _ _ _) (f_wi_T c106).symm (ih51 (z + 1) (by omega) (by omega) _ hO103)
          exact key51 0 (Nat.zero_le _) _ Off.rf
        · refine x_iload_n 2 dX3_whatIs_33 rfl ?_
          refine x_if_ne dX3_whatIs_34 (fun _ => ?_) (fun c => absurd c (by decide))
          refine x_bipush (v := 10) dX3_whatIs_42 (by decide) ?_
          refine x_istore_n (lv' := [(3, .int 10), (0, mx_rf E 0), (1, .int (nI h)), (2, .int 1)]) dX3_whatIs_44 rfl (by decide) rfl ?_
          refine x_iconst (v := 0) dX3_whatIs_45 (by decide) ?_
          refine x_istore (lv' := [(4, .int 0), (3, .int 10), (0, mx_rf E 0), (1, .int (nI h)), (2, .int 1)]) dX3_whatIs_46 rfl (by decide) rfl ?_
          refine x_iconst (v := 0) dX3_whatIs_48 (by decide) ?_
          refine x_istore (lv' := [(5, .int 0), (4, .int 0), (3, .int 10), (0, mx_rf E 0), (1, .int (nI h)), (2, .int 1)]) dX3_whatIs_49 rfl (by decide) rfl ?_
          have key51 : ∀ z, z ≤ 10 → ∀ τ : Mem, Off 2 σ τ → MX E 5 RX3 cX3_whatIs 6 (some .int) 51 [(5, .int (nI z)), (4, .int (f_wi n m r R h 1 z)), (3, .int 10), (0, mx_rf E 0), (1, .int (nI h)), (2, .int 1)] [] τ (mx_i (fun v τ => (p_whatIs n r m R (nI h) (nI 1)).1 = v ∧ Qz (p_whatIs n r m R (nI h) (nI 1)).2 σ τ)) := by
            refine mx_ind 10 (fun z hi51 ih51 => ?_)
            intro τ hO
            refine x_iload 0 dX3_whatIs_51 rfl ?_
            refine x_iload_n 2 dX3_whatIs_53 rfl ?_
            refine x_icmp_ge dX3_whatIs_54 (fun c54 => ?_) (fun c54 => ?_)
            · have hge := nI_le_of (b := 10) (by decide) (by omega) c54
              have hzl : z = 10 := by omega
              refine x_iload 1 dX3_whatIs_124 rfl ?_
              exact x_iret dX3_whatIs_126 (by rw [show p_whatIs n r m R (nI h) (nI 1) = (f_wi n m r R h 1 z, 0) from by unfold p_whatIs; rw [if_pos c8, if_pos hwt, nI_clamp (show h < 2 ^ 31 by omega), hzl]; rfl]; exact ⟨rfl, Qz.off hO⟩)
            · have hz6 := nI_lt_of (b := 10) (by decide) (by omega) c54
              refine x_aload_n 3 dX3_whatIs_57 rfl ?_
              refine gfX3_16 dX3_whatIs_58 ?_
              refine x_aload_n 3 dX3_whatIs_61 rfl ?_
              refine gfX3_10 dX3_whatIs_62 ?_
              refine clX3_73 (qX2_become (t := 2) (u := 1) (by decide) (by decide) (by decide) (by decide) (by decide) (hT.offt hn6 (by decide) (by decide) (by decide) (by decide) (by decide) hO) hw) (by decide) (by decide) (by decide) rfl dX3_whatIs_65 (fun τ65 h65 => ?_)
              refine x_iload_n 5 dX3_whatIs_68 rfl ?_
              refine x_if_ne dX3_whatIs_69 (fun _ => ?_) (fun c => absurd c (by decide))
              refine x_aload_n 3 dX3_whatIs_88 rfl ?_
              refine gfX3_16 dX3_whatIs_89 ?_
              refine x_iload_n 4 dX3_whatIs_92 rfl ?_
              refine clX3_125 (qX2_at (by decide) (by decide) h65.1.1 hn6 hh) (by decide) (by decide) (by decide) rfl dX3_whatIs_93 (fun r93 τ93 h93 => ?_)
              obtain ⟨rfl, rfl⟩ := h93
              refine x_iload 0 dX3_whatIs_96 rfl ?_
              refine pfX3_151 (by omega) (by omega) dX3_whatIs_98 ?_
              have hT98 : TI (mx_up τ65 (4 + 6 * 2 + h) 1 (nI z)) 2 n (upd r (6 + 6 * h + 1) (nI z)) := h65.1.fld (by decide) hh (by decide)
              have hO98 : Off 2 σ (mx_up τ65 (4 + 6 * 2 + h) 1 (nI z)) := (hO.tr h65.2).up (inT_h (by omega))
              refine x_aload_n 3 dX3_whatIs_101 rfl ?_
              refine x_iload_n 4 dX3_whatIs_102 rfl ?_
              refine clX3_265 (qX3_dustIsAsTold (hN.off (by decide) (by decide) hO98) (hT.offt hn6 (by decide) (by decide) (by decide) (by decide) (by decide) hO98) hw R m hm ((congrFun (hO98 29 (by unfold inT; omega)) 1).trans hz) (fun j hj => (congrFun (hO98 32 (by unfold inT; omega)) j).trans (hv j hj)) hT98 (wf_cd1 hw hz6) h hh) (by decide) rfl dX3_whatIs_103 (fun r103 τ103 h103 => ?_)
              obtain ⟨rfl, hO9⟩ := h103
              have hO103 := hO98.tr hO9
              refine x_if_eq dX3_whatIs_106 (fun c106 => ?_) (fun c106 => ?_)
              · replace c106 := zb_0 c106
                refine x_iinc (v := nI (z + 1)) (lv' := [(5, .int (nI (z + 1))), (4, .int (f_wi n m r R h 1 z)), (3, .int 10), (0, mx_rf E 0), (1, .int (nI h)), (2, .int 1)]) 0 dX3_whatIs_118 rfl (nI_1 _) (by decide) rfl ?_
                refine x_goto dX3_whatIs_121 ?_
                exact acc_eq (P := fun x => MX E _ _ _ _ _ _ [(5, .int (nI (z + 1))), (4, .int x), (3, .int 10), (0, mx_rf E 0), (1, .int (nI h)), (2, .int 1)] _ _ _) (f_wi_F c106).symm (ih51 (z + 1) (by omega) (by omega) _ hO103)
              · replace c106 := zb_1 c106
                refine x_iload 1 dX3_whatIs_109 rfl ?_
                refine x_iconst (v := 1) dX3_whatIs_111 (by decide) ?_
                refine x_iload 0 dX3_whatIs_112 rfl ?_
                refine x_ishl dX3_whatIs_114 ?_
                refine x_ior dX3_whatIs_115 ?_
                refine x_istore (lv' := [(4, .int ((f_wi n m r R h 1 z) ||| (1 <<< ((nI z) &&& 31)))), (5, .int (nI z)), (3, .int 10), (0, mx_rf E 0), (1, .int (nI h)), (2, .int 1)]) dX3_whatIs_116 rfl (by decide) rfl ?_
                refine x_iinc (v := nI (z + 1)) (lv' := [(5, .int (nI (z + 1))), (4, .int ((f_wi n m r R h 1 z) ||| (1 <<< ((nI z) &&& 31)))), (3, .int 10), (0, mx_rf E 0), (1, .int (nI h)), (2, .int 1)]) 1 dX3_whatIs_118 rfl (nI_1 _) (by decide) rfl ?_
                refine x_goto dX3_whatIs_121 ?_
                exact acc_eq (P := fun x => MX E _ _ _ _ _ _ [(5, .int (nI (z + 1))), (4, .int x), (3, .int 10), (0, mx_rf E 0), (1, .int (nI h)), (2, .int 1)] _ _ _) (f_wi_T c106).symm (ih51 (z + 1) (by omega) (by omega) _ hO103)
          exact key51 0 (Nat.zero_le _) _ Off.rf
      · have hwt : f_in what 0 1 = false := by unfold f_in; rw [decide_eq_false c23, Bool.and_false]
        refine x_aload_n 0 dX3_whatIs_26 rfl ?_
        refine x_bipush (v := -2) dX3_whatIs_27 (by decide) ?_
        refine clX3_49 (qX3_refuse 2 (by decide) (by decide)) (by decide) rfl dX3_whatIs_29 (fun r29 τ29 h29 => ?_)
        obtain ⟨rfl, rfl⟩ := h29
        exact x_iret dX3_whatIs_32 (by rw [show p_whatIs n r m R (nI h) what = (-2, 2) from by simp [p_whatIs, c8, c18, (Int32.not_lt.mp c18), c23, (Int32.not_le.mp c23), nI_clamp (show h < 2 ^ 31 by omega), hwt]]; exact ⟨rfl, Qz.no⟩)
  · replace c8 := zb_0 c8
    refine x_aload_n 0 dX3_whatIs_11 rfl ?_
    refine x_iconst (v := -1) dX3_whatIs_12 (by decide) ?_
    refine clX3_49 (qX3_refuse 1 (by decide) (by decide)) (by decide) rfl dX3_whatIs_13 (fun r13 τ13 h13 => ?_)
    obtain ⟨rfl, rfl⟩ := h13
    exact x_iret dX3_whatIs_16 (by rw [show p_whatIs n r m R house what = (-1, 1) from by simp [p_whatIs, c8]]; exact ⟨rfl, Qz.no⟩)

set_option maxHeartbeats 4000000 in
theorem qX3_drawPeople {E : mx_E} {σ : Mem} {n : Nat} {r : Row} (hN : NW σ) (hT : TI σ 1 n r) (hw : wf n r) {q : Row} (hT2 : TI σ 2 n q) (hwq : wf n q) (s0 : Int32)  : MX3_drawPeople E 2 [mx_rf E 0, .int s0] σ (mx_i (fun v τ => f_sd s0 n = v ∧ TI τ 2 n (f_dpR q s0 n) ∧ Off 2 σ τ)) := by
  refine MM.of (lv := [(0, mx_rf E 0), (1, .int s0)]) kpX3 rfl (Nat.le_of_ble_eq_true rfl) rfl ?_
  have hn6 := hw.1
  refine x_iload_n 1 dX3_drawPeople_0 rfl ?_
  refine x_istore_n (lv' := [(2, .int s0), (0, mx_rf E 0), (1, .int s0)]) dX3_drawPeople_1 rfl (by decide) rfl ?_
  refine x_iconst (v := 0) dX3_drawPeople_2 (by decide) ?_
  refine x_istore_n (lv' := [(3, .int 0), (2, .int s0), (0, mx_rf E 0), (1, .int s0)]) dX3_drawPeople_3 rfl (by decide) rfl ?_
  have key4 : ∀ i, i ≤ n → ∀ τ : Mem, TI τ 2 n (f_dpR q s0 i) → Off 2 σ τ → MX E 2 RX3 cX3_drawPeople 5 (some .int) 4 [(3, .int (nI i)), (2, .int (f_sd s0 i)), (0, mx_rf E 0), (1, .int s0)] [] τ (mx_i (fun v τ => f_sd s0 n = v ∧ TI τ 2 n (f_dpR q s0 n) ∧ Off 2 σ τ)) := by
    refine mx_ind n (fun i hi4 ih4 => ?_)
    intro τ hT2 hO
    refine x_iload_n 0 dX3_drawPeople_4 rfl ?_
    refine x_aload_n 2 dX3_drawPeople_5 rfl ?_
    refine gfX3_16 dX3_drawPeople_6 ?_
    refine gfX3_115 (by decide) (by decide) dX3_drawPeople_9 ?_
    refine x_top (show τ 2 2 = nI n from hT2.1) ?_
    refine x_icmp_ge dX3_drawPeople_12 (fun c12 => ?_) (fun c12 => ?_)
    · have hge := nI_le_of (by omega) (by omega) c12
      have hin : i = n := by omega
      rw [hin] at hT2
      refine x_iload_n 1 dX3_drawPeople_64 rfl ?_
      exact x_iret dX3_drawPeople_65 ⟨by rw [hin], hT2, hO⟩
    · have hlt := nI_lt_of (by omega) (by omega) c12
      refine x_iload_n 1 dX3_drawPeople_15 rfl ?_
      refine x_ldcw dX3_drawPeople_16 kkX3_271 ?_
      refine x_imul dX3_drawPeople_19 ?_
      refine x_ldcw dX3_drawPeople_20 kkX3_272 ?_
      refine x_iadd dX3_drawPeople_23 ?_
      refine x_top (show ((f_sd s0 i) * 1664525) + 1013904223 = f_sd s0 (i + 1) from rfl) ?_
      refine x_istore_n (lv' := [(2, .int (f_sd s0 (i + 1))), (3, .int (nI i)), (0, mx_rf E 0), (1, .int s0)]) dX3_drawPeople_24 rfl (by decide) rfl ?_
      refine x_aload_n 2 dX3_drawPeople_25 rfl ?_
      refine gfX3_16 dX3_drawPeople_26 ?_
      refine x_iload_n 1 dX3_drawPeople_29 rfl ?_
      refine clX3_125 (qX2_at (by decide) (by decide) hT2.1 hn6 hlt) (by decide) (by decide) (by decide) rfl dX3_drawPeople_30 (fun r30 τ30 h30 => ?_)
      obtain ⟨rfl, rfl⟩ := h30
      refine x_astore (lv' := [(4, mx_rf E (4 + 6 * 2 + i)), (2, .int (f_sd s0 (i + 1))), (3, .int (nI i)), (0, mx_rf E 0), (1, .int s0)]) dX3_drawPeople_33 rfl (by decide) rfl ?_
      refine x_aload 0 dX3_drawPeople_35 rfl ?_
      refine x_iload_n 1 dX3_drawPeople_37 rfl ?_
      refine x_ldcw dX3_drawPeople_38 kkX3_273 ?_
      refine x_iand dX3_drawPeople_41 ?_
      refine x_sipush (v := 256) dX3_drawPeople_42 (by decide) ?_
      refine x_idiv dX3_drawPeople_45 (by decide) ?_
      refine x_bipush (v := 31) dX3_drawPeople_46 (by decide) ?_
      refine x_irem dX3_drawPeople_48 (by decide) ?_
      refine x_top (show (((f_sd s0 (i + 1)) &&& 2147483647) / 256) % 31 = f_drw (f_sd s0 (i + 1)) from rfl) ?_
      refine pfX3_128 (by omega) (by omega) dX3_drawPeople_49 ?_
      have hT49 : TI (mx_up τ (4 + 6 * 2 + i) 3 (f_drw (f_sd s0 (i + 1)))) 2 n (upd (f_dpR q s0 i) (6 + 6 * i + 3) (f_drw (f_sd s0 (i + 1)))) := hT2.fld (by decide) hlt (by decide)
      have hO49 : Off 2 σ (mx_up τ (4 + 6 * 2 + i) 3 (f_drw (f_sd s0 (i + 1)))) := hO.up (inT_h (by omega))
      refine x_aload 0 dX3_drawPeople_52 rfl ?_
      refine x_iconst (v := 0) dX3_drawPeople_54 (by decide) ?_
      refine pfX3_157 (by omega) (by omega) dX3_drawPeople_55 ?_
      have hT55 : TI (mx_up (mx_up τ (4 + 6 * 2 + i) 3 (f_drw (f_sd s0 (i + 1)))) (4 + 6 * 2 + i) 5 0) 2 n (upd (upd (f_dpR q s0 i) (6 + 6 * i + 3) (f_drw (f_sd s0 (i + 1)))) (6 + 6 * i + 5) (0)) := hT49.fld (by decide) hlt (by decide)
      have hO55 : Off 2 σ (mx_up (mx_up τ (4 + 6 * 2 + i) 3 (f_drw (f_sd s0 (i + 1)))) (4 + 6 * 2 + i) 5 0) := hO49.up (inT_h (by omega))
      refine x_iinc (v := nI (i + 1)) (lv' := [(3, .int (nI (i + 1))), (4, mx_rf E (4 + 6 * 2 + i)), (2, .int (f_sd s0 (i + 1))), (0, mx_rf E 0), (1, .int s0)]) 2 dX3_drawPeople_58 rfl (nI_1 _) (by decide) rfl ?_
      refine x_goto dX3_drawPeople_61 ?_
      refine x_lvs [0, 2, 3, 4] rfl ?_
      exact ih4 (i + 1) (by omega) (by omega) _ hT55 hO55
  exact key4 0 (Nat.zero_le _) _ hT2 Off.rf

set_option maxHeartbeats 4000000 in
theorem qX3_lots {E : mx_E} {σ : Mem} {n : Nat} {r : Row} (hN : NW σ) (hT : TI σ 1 n r) (hw : wf n r) (years seed what : Int32) : MX3_lots E 5 [mx_rf E 0, .int years, .int seed, .int what] σ (mx_i (fun v τ => (p_lots n r years seed what).1 = v ∧ Qz (p_lots n r years seed what).2 σ τ)) := by
  refine MM.of (lv := [(0, mx_rf E 0), (1, .int years), (2, .int seed), (3, .int what)]) kpX3 rfl (Nat.le_of_ble_eq_true rfl) rfl ?_
  have hn6 := hw.1
  refine x_iload_n 1 dX3_lots_0 rfl ?_
  refine x_iconst (v := 1) dX3_lots_1 (by decide) ?_
  refine x_bipush (v := 20) dX3_lots_2 (by decide) ?_
  refine clX3_169 (qX3_outOf years 1 20) (by decide) rfl dX3_lots_4 (fun r4 τ4 h4 => ?_)
  obtain ⟨rfl, rfl⟩ := h4
  rcases f_out_c (v := years) (lo := 1) (hi := 20) (l := 1) (h := 20) (by decide) (by decide) rfl rfl with ⟨k1, e⟩ | ⟨k1, k2, e⟩ | ⟨k, hk1, hk2, rfl, k1, k2, e⟩
  · refine x_top (show f_out years 1 20 = -4 from e) ?_
    refine x_istore (lv' := [(4, .int (-4)), (0, mx_rf E 0), (1, .int years), (2, .int seed), (3, .int what)]) dX3_lots_7 rfl (by decide) rfl ?_
    refine x_iload 0 dX3_lots_9 rfl ?_
    refine x_if_eq dX3_lots_11 (fun c => absurd c (by decide)) (fun _ => ?_)
    refine x_aload_n 1 dX3_lots_14 rfl ?_
    refine x_iload 0 dX3_lots_15 rfl ?_
    refine clX3_49 (qX3_refuse 4 (by decide) (by decide)) (by decide) rfl dX3_lots_17 (fun r17 τ17 h17 => ?_)
    obtain ⟨rfl, rfl⟩ := h17
    exact x_iret dX3_lots_20 (by rw [show p_lots n r years seed what = ((-4 : Int32), 4) from by simp [zbT, zbF, f_in002, f_in102, f_in001, f_in101, p_lots, k1]]; exact ⟨rfl, Qz.no⟩)
  · refine x_top (show f_out years 1 20 = -6 from e) ?_
    refine x_istore (lv' := [(4, .int (-6)), (0, mx_rf E 0), (1, .int years), (2, .int seed), (3, .int what)]) dX3_lots_7 rfl (by decide) rfl ?_
    refine x_iload 0 dX3_lots_9 rfl ?_
    refine x_if_eq dX3_lots_11 (fun c => absurd c (by decide)) (fun _ => ?_)
    refine x_aload_n 1 dX3_lots_14 rfl ?_
    refine x_iload 0 dX3_lots_15 rfl ?_
    refine clX3_49 (qX3_refuse 6 (by decide) (by decide)) (by decide) rfl dX3_lots_17 (fun r17 τ17 h17 => ?_)
    obtain ⟨rfl, rfl⟩ := h17
    exact x_iret dX3_lots_20 (by rw [show p_lots n r years seed what = ((-6 : Int32), 6) from by simp [zbT, zbF, f_in002, f_in102, f_in001, f_in101, p_lots, k1, k2]]; exact ⟨rfl, Qz.no⟩)
  · refine x_top (show f_out (nI k) 1 20 = 0 from e) ?_
    refine x_istore (lv' := [(4, .int 0), (0, mx_rf E 0), (1, .int (nI k)), (2, .int seed), (3, .int what)]) dX3_lots_7 rfl (by decide) rfl ?_
    refine x_iload 0 dX3_lots_9 rfl ?_
    refine x_if_eq dX3_lots_11 (fun _ => ?_) (fun c => absurd c (by decide))
    refine x_iload_n 4 dX3_lots_21 rfl ?_
    refine x_if_lt dX3_lots_22 (fun c22 => ?_) (fun c22 => ?_)
    · have hwt : f_in what 0 1 = false := by unfold f_in; rw [decide_eq_false (Int32.not_le.mpr c22)]; rfl
      refine x_aload_n 1 dX3_lots_30 rfl ?_
      refine x_bipush (v := -2) dX3_lots_31 (by decide) ?_
      refine clX3_49 (qX3_refuse 2 (by decide) (by decide)) (by decide) rfl dX3_lots_33 (fun r33 τ33 h33 => ?_)
      obtain ⟨rfl, rfl⟩ := h33
      exact x_iret dX3_lots_36 (by rw [show p_lots n r (nI k) seed what = ((-2 : Int32), 2) from by simp [zbT, zbF, f_in002, f_in102, f_in001, f_in101, p_lots, k1, k2, c22, (Int32.not_le.mpr c22), nI_clamp (show k < 2 ^ 31 by omega), hwt]]; exact ⟨rfl, Qz.no⟩)
    · refine x_iload_n 4 dX3_lots_25 rfl ?_
      refine x_iconst (v := 1) dX3_lots_26 (by decide) ?_
      refine x_icmp_le dX3_lots_27 (fun c27 => ?_) (fun c27 => ?_)
      · have hwt : f_in what 0 1 = true := by unfold f_in; rw [decide_eq_true (Int32.not_lt.mp c22), decide_eq_true c27]; rfl
        refine x_iload_n 3 dX3_lots_37 rfl ?_
        refine x_istore (lv' := [(5, .int seed), (4, .int 0), (0, mx_rf E 0), (1, .int (nI k)), (2, .int seed), (3, .int what)]) dX3_lots_38 rfl (by decide) rfl ?_
        refine x_iconst (v := 0) dX3_lots_40 (by decide) ?_
        refine x_istore (lv' := [(6, .int 0), (5, .int seed), (4, .int 0), (0, mx_rf E 0), (1, .int (nI k)), (2, .int seed), (3, .int what)]) dX3_lots_41 rfl (by decide) rfl ?_
        refine x_iconst (v := 0) dX3_lots_43 (by decide) ?_
        refine x_istore (lv' := [(7, .int 0), (6, .int 0), (5, .int seed), (4, .int 0), (0, mx_rf E 0), (1, .int (nI k)), (2, .int seed), (3, .int what)]) dX3_lots_44 rfl (by decide) rfl ?_
        refine x_iconst (v := 0) dX3_lots_46 (by decide) ?_
        refine x_istore (lv' := [(8, .int 0), (7, .int 0), (6, .int 0), (5, .int seed), (4, .int 0), (0, mx_rf E 0), (1, .int (nI k)), (2, .int seed), (3, .int what)]) dX3_lots_47 rfl (by decide) rfl ?_
        have key49 : ∀ y, y ≤ k → ∀ τ : Mem, Off 2 σ τ → MX E 5 RX3 cX3_lots 9 (some .int) 49 [(8, .int (nI y)), (7, .int (f_lp n r seed y)), (6, .int (f_lk n r seed y)), (5, .int (f_ys n seed y)), (0, mx_rf E 0), (1, .int (nI k)), (2, .int seed), (3, .int what)] [] τ (mx_i (fun v τ => (p_lots n r (nI k) seed what).1 = v ∧ Qz (p_lots n r (nI k) seed what).2 σ τ)) := by
          refine mx_ind k (fun y hi49 ih49 => ?_)
          intro τ hO
          refine x_iload 0 dX3_lots_49 rfl ?_
          refine x_iload_n 5 dX3_lots_51 rfl ?_
          refine x_icmp_ge dX3_lots_52 (fun c52 => ?_) (fun c52 => ?_)
          · have hge := nI_le_of (by omega) (by omega) c52
            have hyk : k = y := by omega
            refine x_iload_n 7 dX3_lots_113 rfl ?_
            refine x_if_ne dX3_lots_114 (fun c114 => ?_) (fun c114 => ?_)
            · refine x_iload 1 dX3_lots_122 rfl ?_
              exact x_iret dX3_lots_124 (by rw [show p_lots n r (nI k) seed what = (f_lp n r seed y, 0) from by unfold p_lots; rw [if_neg k1, if_neg k2, if_pos hwt, if_neg c114, nI_clamp (show k < 2 ^ 31 by omega), hyk]]; exact ⟨rfl, Qz.off hO⟩)
            · refine x_iload 2 dX3_lots_117 rfl ?_
              refine x_goto dX3_lots_119 ?_
              exact x_iret dX3_lots_124 (by rw [show p_lots n r (nI k) seed what = (f_lk n r seed y, 0) from by unfold p_lots; rw [if_neg k1, if_neg k2, if_pos hwt, if_pos c114, nI_clamp (show k < 2 ^ 31 by omega), hyk]]; exact ⟨rfl, Qz.off hO⟩)
          · have hlt := nI_lt_of (by omega) (by omega) c52
            refine x_aload_n 4 dX3_lots_55 rfl ?_
            refine gfX3_16 dX3_lots_56 ?_
            refine x_aload_n 4 dX3_lots_59 rfl ?_
            refine gfX3_10 dX3_lots_60 ?_
            refine clX3_73 (qX2_become (t := 2) (u := 1) (by decide) (by decide) (by decide) (by decide) (by decide) (hT.offt hn6 (by decide) (by decide) (by decide) (by decide) (by decide) hO) hw) (by decide) (by decide) (by decide) rfl dX3_lots_63 (fun τ63 h63 => ?_)
            refine x_aload_n 4 dX3_lots_66 rfl ?_
            refine x_iload 3 dX3_lots_67 rfl ?_
            refine clX3_268 (qX3_drawPeople (hN.off (by decide) (by decide) (hO.tr h63.2)) (hT.offt hn6 (by decide) (by decide) (by decide) (by decide) (by decide) (hO.tr h63.2)) hw h63.1 hw (f_ys n seed y)) (by decide) rfl dX3_lots_69 (fun r69 τ69 h69 => ?_)
            obtain ⟨rfl, hT69, hO9⟩ := h69
            have hO69 := (hO.tr h63.2).tr hO9
            refine x_istore (lv' := [(5, .int (f_sd (f_ys n seed y) n)), (8, .int (nI y)), (7, .int (f_lp n r seed y)), (6, .int (f_lk n r seed y)), (0, mx_rf E 0), (1, .int (nI k)), (2, .int seed), (3, .int what)]) dX3_lots_72 rfl (by decide) rfl ?_
            refine x_aload_n 4 dX3_lots_74 rfl ?_
            refine gfX3_16 dX3_lots_75 ?_
            refine x_bipush (v := 12) dX3_lots_78 (by decide) ?_
            refine clX3_145 (qX2_pass (t := 2) (by decide) (by decide) hT69 (wf_dpR hw n (Nat.le_refl n)) (hN.off (by decide) (by decide) hO69) 12 (by omega)) (by decide) (by decide) (by decide) rfl dX3_lots_80 (fun τ80 h80 => ?_)
            have hO80 : Off 2 σ τ80 := hO69.tr h80.2
            refine x_iload 3 dX3_lots_83 rfl ?_
            refine x_aload_n 4 dX3_lots_85 rfl ?_
            refine gfX3_16 dX3_lots_86 ?_
            refine clX3_166 (qX2_howManyKept (by decide) (by decide) h80.1 (wf_weeks (wf_dpR hw n (Nat.le_refl n)) 12)) (by decide) (by decide) (by decide) rfl dX3_lots_89 (fun r89 τ89 h89 => ?_)
            obtain ⟨rfl, rfl⟩ := h89
            refine x_iadd dX3_lots_92 ?_
            refine x_top (show (f_lk n r seed y) + (f_bits ((f_weeks n (f_dpR r (f_ys n seed y) n) 12) 4)) = f_lk n r seed (y + 1) from rfl) ?_
            refine x_istore (lv' := [(6, .int (f_lk n r seed (y + 1))), (5, .int (f_sd (f_ys n seed y) n)), (8, .int (nI y)), (7, .int (f_lp n r seed y)), (0, mx_rf E 0), (1, .int (nI k)), (2, .int seed), (3, .int what)]) dX3_lots_93 rfl (by decide) rfl ?_
            refine x_iload 3 dX3_lots_95 rfl ?_
            refine x_aload_n 4 dX3_lots_97 rfl ?_
            refine gfX3_16 dX3_lots_98 ?_
            refine clX3_255 (qX2_allPeople (by decide) (by decide) h80.1 (wf_weeks (wf_dpR hw n (Nat.le_refl n)) 12)) (by decide) (by decide) (by decide) rfl dX3_lots_101 (fun r101 τ101 h101 => ?_)
            obtain ⟨rfl, rfl⟩ := h101
            refine x_iadd dX3_lots_104 ?_
            refine x_top (show (f_lp n r seed y) + (f_pplU (f_weeks n (f_dpR r (f_ys n seed y) n) 12) n) = f_lp n r seed (y + 1) from rfl) ?_
            refine x_istore (lv' := [(7, .int (f_lp n r seed (y + 1))), (6, .int (f_lk n r seed (y + 1))), (5, .int (f_sd (f_ys n seed y) n)), (8, .int (nI y)), (0, mx_rf E 0), (1, .int (nI k)), (2, .int seed), (3, .int what)]) dX3_lots_105 rfl (by decide) rfl ?_
            refine x_iinc (v := nI (y + 1)) (lv' := [(8, .int (nI (y + 1))), (7, .int (f_lp n r seed (y + 1))), (6, .int (f_lk n r seed (y + 1))), (5, .int (f_sd (f_ys n seed y) n)), (0, mx_rf E 0), (1, .int (nI k)), (2, .int seed), (3, .int what)]) 3 dX3_lots_107 rfl (nI_1 _) (by decide) rfl ?_
            refine x_goto dX3_lots_110 ?_
            exact ih49 (y + 1) (by omega) (by omega) _ hO80
        refine x_lvs [0, 1, 2, 3, 5, 6, 7, 8] rfl ?_
        exact key49 0 (Nat.zero_le _) _ Off.rf
      · have hwt : f_in what 0 1 = false := by unfold f_in; rw [decide_eq_false c27, Bool.and_false]
        refine x_aload_n 1 dX3_lots_30 rfl ?_
        refine x_bipush (v := -2) dX3_lots_31 (by decide) ?_
        refine clX3_49 (qX3_refuse 2 (by decide) (by decide)) (by decide) rfl dX3_lots_33 (fun r33 τ33 h33 => ?_)
        obtain ⟨rfl, rfl⟩ := h33
        exact x_iret dX3_lots_36 (by rw [show p_lots n r (nI k) seed what = ((-2 : Int32), 2) from by simp [zbT, zbF, f_in002, f_in102, f_in001, f_in101, p_lots, k1, k2, c22, (Int32.not_lt.mp c22), c27, (Int32.not_le.mp c27), nI_clamp (show k < 2 ^ 31 by omega), hwt]]; exact ⟨rfl, Qz.no⟩)

set_option maxHeartbeats 4000000 in
theorem qX3_refused {E : mx_E} {σ : Mem} (f : Row) (hf : ∀ j, 1 ≤ j → j < 7 → σ 34 j = f j) (what : Int32) : MX3_refused E 0 [mx_rf E 0, .int what] σ (mx_ie (f_ref f what) σ) := by
  refine MM.of (lv := [(0, mx_rf E 0), (1, .int what)]) kpX3 rfl (Nat.le_of_ble_eq_true rfl) rfl ?_
  refine x_iload_n 1 dX3_refused_0 rfl ?_
  refine x_bipush (v := 10) dX3_refused_1 (by decide) ?_
  refine x_icmp_le dX3_refused_3 (fun c3 => ?_) (fun c3 => ?_)
  · refine x_iconst (v := 0) dX3_refused_16 (by decide) ?_
    refine x_istore_n (lv' := [(2, .int 0), (0, mx_rf E 0), (1, .int what)]) dX3_refused_17 rfl (by decide) rfl ?_
    refine x_iload_n 0 dX3_refused_18 rfl ?_
    refine x_if_eq dX3_refused_19 (fun _ => ?_) (fun c => absurd c (by decide))
    refine x_bipush (v := -9) dX3_refused_46 (by decide) ?_
    exact x_iret dX3_refused_48 ⟨f_ref_f (f_11b (Int32.not_lt.mpr c3)), rfl⟩
  · refine x_iload_n 1 dX3_refused_6 rfl ?_
    refine x_bipush (v := 16) dX3_refused_7 (by decide) ?_
    refine x_icmp_gt dX3_refused_9 (fun c9 => ?_) (fun c9 => ?_)
    · refine x_iconst (v := 0) dX3_refused_16 (by decide) ?_
      refine x_istore_n (lv' := [(2, .int 0), (0, mx_rf E 0), (1, .int what)]) dX3_refused_17 rfl (by decide) rfl ?_
      refine x_iload_n 0 dX3_refused_18 rfl ?_
      refine x_if_eq dX3_refused_19 (fun _ => ?_) (fun c => absurd c (by decide))
      refine x_bipush (v := -9) dX3_refused_46 (by decide) ?_
      exact x_iret dX3_refused_48 ⟨f_ref_f (f_16b (Int32.not_le.mpr c9)), rfl⟩
    · obtain ⟨j, hj1, hj2, rfl⟩ := f_in_ab (a := 11) (b := 16) (by decide) (by decide) (f_11 (Int32.not_le.mp c3)) c9
      refine x_iconst (v := 1) dX3_refused_12 (by decide) ?_
      refine x_goto dX3_refused_13 ?_
      refine x_istore_n (lv' := [(2, .int 1), (0, mx_rf E 0), (1, .int (nI j))]) dX3_refused_17 rfl (by decide) rfl ?_
      refine x_iload_n 0 dX3_refused_18 rfl ?_
      refine x_if_eq dX3_refused_19 (fun c => absurd c (by decide)) (fun _ => ?_)
      refine x_iload_n 2 dX3_refused_22 rfl ?_
      refine x_bipush (v := 10) dX3_refused_23 (by decide) ?_
      refine x_isub dX3_refused_25 ?_
      refine x_top (show (nI j) - 10 = nI (j - 10) from (pk_sub (show 10 ≤ j by omega))) ?_
      refine x_aload_n 1 dX3_refused_26 rfl ?_
      refine gfX3_41 dX3_refused_27 ?_
      refine x_alen (by decide) (by decide) (by decide) dX3_refused_30 ?_
      refine x_icmp_ge dX3_refused_31 (fun c31 => ?_) (fun c31 => ?_)
      · exact absurd (nI_le_of (b := 7) (by decide) (by omega) c31) (by omega)
      · refine x_aload_n 1 dX3_refused_34 rfl ?_
        refine gfX3_41 dX3_refused_35 ?_
        refine x_iload_n 2 dX3_refused_38 rfl ?_
        refine x_bipush (v := 10) dX3_refused_39 (by decide) ?_
        refine x_isub dX3_refused_41 ?_
        refine x_top (show (nI j) - 10 = nI (j - 10) from (pk_sub (show 10 ≤ j by omega))) ?_
        refine x_iald (j := j - 10) (by decide) (by decide) (by decide) (show j - 10 < 7 by omega) dX3_refused_42 ?_
        refine x_top (show σ 34 (j - 10) = f (j - 10) from (hf _ (by omega) (by omega))) ?_
        refine x_goto dX3_refused_43 ?_
        exact x_iret dX3_refused_48 ⟨f_ref_t hj1 hj2, rfl⟩

set_option maxHeartbeats 4000000 in
theorem qX3_count {E : mx_E} {σ : Mem} {n : Nat} {r : Row} (hN : NW σ) (hT : TI σ 1 n r) (hw : wf n r) (m lm : Nat) (hz : σ 29 1 = nI m) (hz2 : σ 28 1 = nI lm) (f : Row) (hf : ∀ j, 1 ≤ j → j < 7 → σ 34 j = f j) (what : Int32) : MX3_count E 3 [mx_rf E 0, .int what] σ (mx_ie (p_count n r m lm f what) σ) := by
  refine MM.of (lv := [(0, mx_rf E 0), (1, .int what)]) kpX3 rfl (Nat.le_of_ble_eq_true rfl) rfl ?_
  have hn6 := hw.1
  refine x_iload_n 1 dX3_count_0 rfl ?_
  by_cases c1_0 : what = 0
  · refine x_tableIn (off := 47) (tgt := 48) dX3_count_1 (by rw [c1_0]; decide) (by rw [c1_0]; decide) (by rw [c1_0]; decide) (by decide) ?_
    refine x_aload_n 0 dX3_count_48 rfl ?_
    refine gfX3_10 dX3_count_49 ?_
    refine gfX3_115 (by decide) (by decide) dX3_count_52 ?_
    refine x_top (show σ 1 2 = nI n from hT.1) ?_
    exact x_iret dX3_count_55 ⟨by simp [p_count, c1_0], rfl⟩
  by_cases c1_1 : what = 1
  · refine x_tableIn (off := 55) (tgt := 56) dX3_count_1 (by rw [c1_1]; decide) (by rw [c1_1]; decide) (by rw [c1_1]; decide) (by decide) ?_
    refine x_aload_n 0 dX3_count_56 rfl ?_
    refine gfX3_10 dX3_count_57 ?_
    refine gfX3_142 (by decide) (by decide) dX3_count_60 ?_
    refine x_top (show σ 1 5 = r 1 from hT.2.2.2.1) ?_
    exact x_iret dX3_count_63 ⟨by simp [p_count, c1_1], rfl⟩
  by_cases c1_2 : what = 2
  · refine x_tableIn (off := 63) (tgt := 64) dX3_count_1 (by rw [c1_2]; decide) (by rw [c1_2]; decide) (by rw [c1_2]; decide) (by decide) ?_
    refine x_aload_n 0 dX3_count_64 rfl ?_
    refine gfX3_10 dX3_count_65 ?_
    refine clX3_173 (qX2_keptBits (by decide) (by decide) hT hw) (by decide) (by decide) (by decide) rfl dX3_count_68 (fun r68 τ68 h68 => ?_)
    obtain ⟨rfl, rfl⟩ := h68
    exact x_iret dX3_count_71 ⟨by simp [p_count, c1_2], rfl⟩
  by_cases c1_3 : what = 3
  · refine x_tableIn (off := 71) (tgt := 72) dX3_count_1 (by rw [c1_3]; decide) (by rw [c1_3]; decide) (by rw [c1_3]; decide) (by decide) ?_
    refine x_aload_n 0 dX3_count_72 rfl ?_
    refine gfX3_10 dX3_count_73 ?_
    refine clX3_255 (qX2_allPeople (by decide) (by decide) hT hw) (by decide) (by decide) (by decide) rfl dX3_count_76 (fun r76 τ76 h76 => ?_)
    obtain ⟨rfl, rfl⟩ := h76
    exact x_iret dX3_count_79 ⟨by simp [p_count, c1_3], rfl⟩
  by_cases c1_4 : what = 4
  · refine x_tableIn (off := 79) (tgt := 80) dX3_count_1 (by rw [c1_4]; decide) (by rw [c1_4]; decide) (by rw [c1_4]; decide) (by decide) ?_
    refine x_aload_n 0 dX3_count_80 rfl ?_
    refine gfX3_10 dX3_count_81 ?_
    refine gfX3_45 (by decide) (by decide) dX3_count_84 ?_
    refine x_top (show σ 1 4 = r 3 from hT.2.2.1) ?_
    exact x_iret dX3_count_87 ⟨by simp [p_count, c1_4], rfl⟩
  by_cases c1_5 : what = 5
  · refine x_tableIn (off := 87) (tgt := 88) dX3_count_1 (by rw [c1_5]; decide) (by rw [c1_5]; decide) (by rw [c1_5]; decide) (by decide) ?_
    refine x_aload_n 0 dX3_count_88 rfl ?_
    refine gfX3_10 dX3_count_89 ?_
    refine gfX3_139 (by decide) (by decide) dX3_count_92 ?_
    refine x_top (show σ 1 3 = r 2 from hT.2.1) ?_
    exact x_iret dX3_count_95 ⟨by simp [p_count, c1_5], rfl⟩
  by_cases c1_6 : what = 6
  · refine x_tableIn (off := 95) (tgt := 96) dX3_count_1 (by rw [c1_6]; decide) (by rw [c1_6]; decide) (by rw [c1_6]; decide) (by decide) ?_
    refine x_aload_n 0 dX3_count_96 rfl ?_
    refine gfX3_35 dX3_count_97 ?_
    refine gfX3_60 (by decide) (by decide) dX3_count_100 ?_
    refine x_top (show σ 29 1 = nI m from hz) ?_
    exact x_iret dX3_count_103 ⟨by simp [p_count, c1_6], rfl⟩
  by_cases c1_7 : what = 7
  · refine x_tableIn (off := 103) (tgt := 104) dX3_count_1 (by rw [c1_7]; decide) (by rw [c1_7]; decide) (by rw [c1_7]; decide) (by decide) ?_
    refine x_aload_n 0 dX3_count_104 rfl ?_
    refine gfX3_31 dX3_count_105 ?_
    refine gfX3_60 (by decide) (by decide) dX3_count_108 ?_
    refine x_top (show σ 28 1 = nI lm from hz2) ?_
    exact x_iret dX3_count_111 ⟨by simp [p_count, c1_7], rfl⟩
  have hsw1 : (what).toInt < 0 ∨ 7 < (what).toInt := by
    have q_c1_0 := lv_neT c1_0 (show (0 : Int32).toInt = 0 from rfl)
    have q_c1_1 := lv_neT c1_1 (show (1 : Int32).toInt = 1 from rfl)
    have q_c1_2 := lv_neT c1_2 (show (2 : Int32).toInt = 2 from rfl)
    have q_c1_3 := lv_neT c1_3 (show (3 : Int32).toInt = 3 from rfl)
    have q_c1_4 := lv_neT c1_4 (show (4 : Int32).toInt = 4 from rfl)
    have q_c1_5 := lv_neT c1_5 (show (5 : Int32).toInt = 5 from rfl)
    have q_c1_6 := lv_neT c1_6 (show (6 : Int32).toInt = 6 from rfl)
    have q_c1_7 := lv_neT c1_7 (show (7 : Int32).toInt = 7 from rfl)
    omega
  refine x_tableOut (tgt := 112) dX3_count_1 hsw1 (by decide) ?_
  refine x_aload_n 0 dX3_count_112 rfl ?_
  refine x_iload_n 1 dX3_count_113 rfl ?_
  refine clX3_274 (qX3_refused f hf what) (by decide) rfl dX3_count_114 (fun r114 τ114 h114 => ?_)
  obtain ⟨rfl, rfl⟩ := h114
  exact x_iret dX3_count_117 ⟨by simp [p_count, c1_0, c1_1, c1_2, c1_3, c1_4, c1_5, c1_6, c1_7], rfl⟩
