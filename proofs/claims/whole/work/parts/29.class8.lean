set_option maxHeartbeats 4000000 in
theorem qX3_dustIsAsTold {E : mx_E} {σ : Mem} {n : Nat} {r : Row} (hN : NW σ) (hT : TI σ 1 n r) (hw : wf n r) (R : Row) (m : Nat) (hm : m ≤ 16) (hz : σ 29 1 = nI m) (hv : ∀ j, j < m → σ 32 j = R j) {q : Row} (hT2 : TI σ 2 n q) (hwq : wf n q) (h : Nat) (hh : h < n)  : MX3_dustIsAsTold E 4 [mx_rf E 0, .int (nI h)] σ (mx_i (fun v τ => zb (f_asT n q R h m) = v ∧ Off 2 σ τ)) := by
  refine MM.of (lv := [(0, mx_rf E 0), (1, .int (nI h))]) kpX3 rfl (Nat.le_of_ble_eq_true rfl) rfl ?_
  have hn6 := hw.1
  refine x_iconst (v := 0) dX3_dustIsAsTold_0 (by decide) ?_
  refine x_istore_n (lv' := [(2, .int 0), (0, mx_rf E 0), (1, .int (nI h))]) dX3_dustIsAsTold_1 rfl (by decide) rfl ?_
  have key2 : ∀ k, k ≤ m → ∀ τ : Mem, TI τ 2 n (f_weeks n q k) → Off 2 σ τ → f_asT n q R h k = true → MX E 4 RX3 cX3_dustIsAsTold 3 (some .boolean) 2 [(2, .int (nI k)), (0, mx_rf E 0), (1, .int (nI h))] [] τ (mx_i (fun v τ => zb (f_asT n q R h m) = v ∧ Off 2 σ τ)) := by
    refine mx_ind m (fun k hi2 ih2 => ?_)
    intro τ hT2 hO ha
    refine x_iload_n 0 dX3_dustIsAsTold_2 rfl ?_
    refine x_aload_n 1 dX3_dustIsAsTold_3 rfl ?_
    refine gfX3_35 dX3_dustIsAsTold_4 ?_
    refine gfX3_60 (by decide) (by decide) dX3_dustIsAsTold_7 ?_
    refine x_top (show τ 29 1 = nI m from ((congrFun (hO 29 (by unfold inT; omega)) 1).trans hz)) ?_
    refine x_icmp_ge dX3_dustIsAsTold_10 (fun c10 => ?_) (fun c10 => ?_)
    · have hge := nI_le_of (by omega) (by omega) c10
      have hkm : k = m := by omega
      refine x_iconst (v := 1) dX3_dustIsAsTold_51 (by decide) ?_
      exact x_zret dX3_dustIsAsTold_52 (by decide) ⟨zb_t' (by rw [← hkm]; exact ha), hO⟩
    · have hlt := nI_lt_of (by omega) (by omega) c10
      refine x_aload_n 1 dX3_dustIsAsTold_13 rfl ?_
      refine gfX3_16 dX3_dustIsAsTold_14 ?_
      refine x_iload_n 2 dX3_dustIsAsTold_17 rfl ?_
      refine clX3_125 (qX2_at (by decide) (by decide) hT2.1 hn6 hh) (by decide) (by decide) (by decide) rfl dX3_dustIsAsTold_18 (fun r18 τ18 h18 => ?_)
      obtain ⟨rfl, rfl⟩ := h18
      refine gfX3_133 (by omega) (by omega) dX3_dustIsAsTold_21 ?_
      refine x_top (show τ (4 + 6 * 2 + h) 4 = (f_weeks n q k) (6 + 6 * h + 4) from (hT2.2.2.2.2 _ hh).1 4 (by decide)) ?_
      refine x_aload_n 1 dX3_dustIsAsTold_24 rfl ?_
      refine gfX3_35 dX3_dustIsAsTold_25 ?_
      refine x_iload_n 0 dX3_dustIsAsTold_28 rfl ?_
      refine clX3_77 (qX1_at (k := 29) (by decide) (by decide) m hm ((congrFun (hO 29 (by unfold inT; omega)) 1).trans hz) k (by omega)) (by decide) (by decide) (by decide) rfl dX3_dustIsAsTold_29 (fun r29 τ29 h29 => ?_)
      obtain ⟨rfl, rfl⟩ := h29
      refine x_top (show τ (29 + 3) k = R k from (congrFun (hO 32 (by unfold inT; omega)) _).trans (hv k (by omega))) ?_
      refine x_icmp_eq dX3_dustIsAsTold_32 (fun c32 => ?_) (fun c32 => ?_)
      · refine x_aload_n 1 dX3_dustIsAsTold_37 rfl ?_
        refine gfX3_16 dX3_dustIsAsTold_38 ?_
        refine x_iconst (v := 1) dX3_dustIsAsTold_41 (by decide) ?_
        refine clX3_145 (qX2_pass (t := 2) (by decide) (by decide) hT2 (wf_weeks hwq k) (hN.off (by decide) (by decide) hO) 1 (by omega)) (by decide) (by decide) (by decide) rfl dX3_dustIsAsTold_42 (fun τ42 h42 => ?_)
        have hO42 : Off 2 σ τ42 := hO.tr h42.2
        refine x_iinc (v := nI (k + 1)) (lv' := [(2, .int (nI (k + 1))), (0, mx_rf E 0), (1, .int (nI h))]) 0 dX3_dustIsAsTold_45 rfl (nI_1 _) (by decide) rfl ?_
        refine x_goto dX3_dustIsAsTold_48 ?_
        exact ih2 (k + 1) (by omega) (by omega) _ (by exact h42.1) hO42 (f_asT_T ha c32)
      · refine x_iconst (v := 0) dX3_dustIsAsTold_35 (by decide) ?_
        exact x_zret dX3_dustIsAsTold_36 (by decide) ⟨zb_f' (f_asT_F c32 m (by omega)), hO⟩
  exact key2 0 (Nat.zero_le _) _ hT2 Off.rf rfl

set_option maxHeartbeats 4000000 in
theorem qX3_whatIs {E : mx_E} {σ : Mem} {n : Nat} {r : Row} (hN : NW σ) (hT : TI σ 1 n r) (hw : wf n r) (R : Row) (m : Nat) (hm : m ≤ 16) (hz : σ 29 1 = nI m) (hv : ∀ j, j < m → σ 32 j = R j) (house what : Int32) : MX3_whatIs E 5 [mx_rf E 0, .int house, .int what] σ (mx_i (fun v τ => (p_whatIs n r m R house what).1 = v ∧ Qz (p_whatIs n r m R house what).2 σ τ)) := by
  refine MM.of (lv := [(0, mx_rf E 0), (1, .int house), (2, .int what)]) kpX3 rfl (Nat.le_of_ble_eq_true rfl) rfl ?_
  have hn6 := hw.1
  refine x_aload_n 0 dX3_whatIs_0 rfl ?_
  refine gfX3_10 dX3_whatIs_1 ?_
  refine x_iload_n 1 dX3_whatIs_4 rfl ?_
  refine clX3_122 (qX2_has (by decide) (by decide) hT.1 house) (by decide) (by decide) (by decide) rfl dX3_whatIs_5 (fun r5 τ5 h5 => ?_)
  obtain ⟨rfl, rfl⟩ := h5
  refine x_if_ne dX3_whatIs_8 (fun c8 => ?_) (fun c8 => ?_)
  · replace c8 := zb_1 c8
    obtain ⟨h, hh, rfl⟩ := f_inN_t (by omega) c8
    refine x_iload_n 2 dX3_whatIs_17 rfl ?_
    refine x_if_lt dX3_whatIs_18 (fun c18 => ?_) (fun c18 => ?_)
    · have hwt : f_in what 0 1 = false := by unfold f_in; rw [decide_eq_false (Int32.not_le.mpr c18)]; rfl
      refine x_aload_n 0 dX3_whatIs_26 rfl ?_
      refine x_bipush (v := -2) dX3_whatIs_27 (by decide) ?_
      refine clX3_49 (qX3_refuse 2 (by decide) (by decide)) (by decide) rfl dX3_whatIs_29 (fun r29 τ29 h29 => ?_)
      obtain ⟨rfl, rfl⟩ := h29
      exact x_iret dX3_whatIs_32 (by rw [show p_whatIs n r m R (nI h) what = (-2, 2) from by simp [p_whatIs, c8, c18, (Int32.not_le.mpr c18), nI_clamp (show h < 2 ^ 31 by omega), hwt]]; exact ⟨rfl, Qz.no⟩)
    · refine x_iload_n 2 dX3_whatIs_21 rfl ?_
      refine x_iconst (v := 1) dX3_whatIs_22 (by decide) ?_
      refine x_icmp_le dX3_whatIs_23 (fun c23 => ?_) (fun c23 => ?_)
      · have hwt : f_in what 0 1 = true := by unfold f_in; rw [decide_eq_true (Int32.not_lt.mp c18), decide_eq_true c23]; rfl
        obtain ⟨y, hy, rfl⟩ := f_in_t (hi := 1) (by decide) hwt
        rcases (show y = 0 ∨ y = 1 by omega) with rfl | rfl
        · refine x_iload_n 2 dX3_whatIs_33 rfl ?_
          refine x_if_ne dX3_whatIs_34 (fun c => absurd c (by decide)) (fun _ => ?_)
          refine x_bipush (v := 6) dX3_whatIs_37 (by decide) ?_
          refine x_goto dX3_whatIs_39 ?_
          refine x_istore_n (lv' := [(3, .int 6), (0, mx_rf E 0), (1, .int (nI h)), (2, .int 0)]) dX3_whatIs_44 rfl (by decide) rfl ?_
          refine x_iconst (v := 0) dX3_whatIs_45 (by decide) ?_
          refine x_istore (lv' := [(4, .int 0), (3, .int 6), (0, mx_rf E 0), (1, .int (nI h)), (2, .int 0)]) dX3_whatIs_46 rfl (by decide) rfl ?_
          refine x_iconst (v := 0) dX3_whatIs_48 (by decide) ?_
          refine x_istore (lv' := [(5, .int 0), (4, .int 0), (3, .int 6), (0, mx_rf E 0), (1, .int (nI h)), (2, .int 0)]) dX3_whatIs_49 rfl (by decide) rfl ?_
          have key51 : ∀ z, z ≤ 6 → ∀ τ : Mem, Off 2 σ τ → MX E 5 RX3 cX3_whatIs 6 (some .int) 51 [(5, .int (nI z)), (4, .int (f_wi n m r R h 0 z)), (3, .int 6), (0, mx_rf E 0), (1, .int (nI h)), (2, .int 0)] [] τ (mx_i (fun v τ => (p_whatIs n r m R (nI h) (nI 0)).1 = v ∧ Qz (p_whatIs n r m R (nI h) (nI 0)).2 σ τ)) := by
            refine mx_ind 6 (fun z hi51 ih51 => ?_)
            intro τ hO
            refine x_iload 0 dX3_whatIs_51 rfl ?_
            refine x_iload_n 2 dX3_whatIs_53 rfl ?_
            refine x_icmp_ge dX3_whatIs_54 (fun c54 => ?_) (fun c54 => ?_)
            · have hge := nI_le_of (b := 6) (by decide) (by omega) c54
              have hzl : z = 6 := by omega
              refine x_iload 1 dX3_whatIs_124 rfl ?_
              exact x_iret dX3_whatIs_126 (by rw [show p_whatIs n r m R (nI h) (nI 0) = (f_wi n m r R h 0 z, 0) from by unfold p_whatIs; rw [if_pos c8, if_pos hwt, nI_clamp (show h < 2 ^ 31 by omega), hzl]; rfl]; exact ⟨rfl, Qz.off hO⟩)
            · have hz6 := nI_lt_of (b := 6) (by decide) (by omega) c54
              refine x_aload_n 3 dX3_whatIs_57 rfl ?_
              refine gfX3_16 dX3_whatIs_58 ?_
              refine x_aload_n 3 dX3_whatIs_61 rfl ?_
              refine gfX3_10 dX3_whatIs_62 ?_
              refine clX3_73 (qX2_become (t := 2) (u := 1) (by decide) (by decide) (by decide) (by decide) (by decide) (hT.offt hn6 (by decide) (by decide) (by decide) (by decide) (by decide) hO) hw) (by decide) (by decide) (by decide) rfl dX3_whatIs_65 (fun τ65 h65 => ?_)
              refine x_iload_n 5 dX3_whatIs_68 rfl ?_
              refine x_if_ne dX3_whatIs_69 (fun c => absurd c (by decide)) (fun _ => ?_)
              refine x_aload_n 3 dX3_whatIs_72 rfl ?_
              refine gfX3_16 dX3_whatIs_73 ?_
              refine x_iload_n 4 dX3_whatIs_76 rfl ?_
              refine clX3_125 (qX2_at (by decide) (by decide) h65.1.1 hn6 hh) (by decide) (by decide) (by decide) rfl dX3_whatIs_77 (fun r77 τ77 h77 => ?_)
              obtain ⟨rfl, rfl⟩ := h77
              refine x_iload 0 dX3_whatIs_80 rfl ?_
              refine pfX3_148 (by omega) (by omega) dX3_whatIs_82 ?_
              have hT82 : TI (mx_up τ65 (4 + 6 * 2 + h) 0 (nI z)) 2 n (upd r (6 + 6 * h) (nI z)) := h65.1.fld (by decide) hh (by decide)
              have hO82 : Off 2 σ (mx_up τ65 (4 + 6 * 2 + h) 0 (nI z)) := (hO.tr h65.2).up (inT_h (by omega))
              refine x_goto dX3_whatIs_85 ?_
              refine x_aload_n 3 dX3_whatIs_101 rfl ?_
              refine x_iload_n 4 dX3_whatIs_102 rfl ?_
              refine clX3_265 (qX3_dustIsAsTold (hN.off (by decide) (by decide) hO82) (hT.offt hn6 (by decide) (by decide) (by decide) (by decide) (by decide) hO82) hw R m hm ((congrFun (hO82 29 (by unfold inT; omega)) 1).trans hz) (fun j hj => (congrFun (hO82 32 (by unfold inT; omega)) j).trans (hv j hj)) hT82 (wf_cd0 hw hz6) h hh) (by decide) rfl dX3_whatIs_103 (fun r103 τ103 h103 => ?_)
              obtain ⟨rfl, hO9⟩ := h103
              have hO103 := hO82.tr hO9
              refine x_if_eq dX3_whatIs_106 (fun c106 => ?_) (fun c106 => ?_)
              · replace c106 := zb_0 c106
                refine x_iinc (v := nI (z + 1)) (lv' := [(5, .int (nI (z + 1))), (4, .int (f_wi n m r R h 0 z)), (3, .int 6), (0, mx_rf E 0), (1, .int (nI h)), (2, .int 0)]) 0 dX3_whatIs_118 rfl (nI_1 _) (by decide) rfl ?_
                refine x_goto dX3_whatIs_121 ?_
                exact acc_eq (P := fun x => MX E _ _ _ _ _ _ [(5, .int (nI (z + 1))), (4, .int x), (3, .int 6), (0, mx_rf E 0), (1, .int (nI h)), (2, .int 0)] _ _ _) (f_wi_F c106).symm (ih51 (z + 1) (by omega) (by omega) _ hO103)
              · replace c106 := zb_1 c106
                refine x_iload 1 dX3_whatIs_109 rfl ?_
                refine x_iconst (v := 1) dX3_whatIs_111 (by decide) ?_
                refine x_iload 0 dX3_whatIs_112 rfl ?_
                refine x_ishl dX3_whatIs_114 ?_
                refine x_ior dX3_whatIs_115 ?_
                refine x_istore (lv' := [(4, .int ((f_wi n m r R h 0 z) ||| (1 <<< ((nI z) &&& 31)))), (5, .int (nI z)), (3, .int 6), (0, mx_rf E 0), (1, .int (nI h)), (2, .int 0)]) dX3_whatIs_116 rfl (by decide) rfl ?_
                refine x_iinc (v := nI (z + 1)) (lv' := [(5, .int (nI (z + 1))), (4, .int ((f_wi n m r R h 0 z) ||| (1 <<< ((nI z) &&& 31)))), (3, .int 6), (0, mx_rf E 0), (1, .int (nI h)), (2, .int 0)]) 1 dX3_whatIs_118 rfl (nI_1 _) (by decide) rfl ?_
                refine x_goto dX3_whatIs_121 ?_
                exact acc_eq (P := fun x => MX E _ _ _ _ _ _ [(5, .int (nI (z + 1))), (4, .int x), (3, .int 6), (0, mx_rf E 0), (1, .int (nI h)), (2, .int 0)] _ _ _) (f_wi_T c106).symm (ih51 (z + 1) (by omega) (by omega) _ hO103)
          exact key51 0 (Nat.zero_le _) _ Off.rf
        · refine x_iload_n 2 dX3_whatIs_33 rfl ?_
          refine x_if_ne dX3_whatIs_34 (fun _ => ?_) (fun c => absurd c (by decide))
          refine x_bipush (v := 10) dX3_whatIs_42 (by decide) ?_
          refine x_istore_n (lv' := [(3, .int 10), (0, mx_rf E 0), (1, .int (nI h)), (2, .int 1)]) dX3_whatIs_44 rfl (by decide) rfl ?_
          refine x_iconst (v := 0) dX3_whatIs_45 (by decide) ?_
          refine x_istore (lv' := [(4, .int 0), (3, .int 10), (0, mx_rf E 0), (1, .int (nI h)), (2, .int 1)]) dX3_whatIs_46 rfl (by decide) rfl ?_
          refine x_iconst (v := 0) dX3_whatIs_48 (by decide) ?_
          refine x_istore (lv' := [(5, .int 0), (4, .int 0), (3, .int 10), (0, mx_rf E 0), (1, .int (nI h)), (2, .int 1)]) dX3_whatIs_49 rfl (by decide) rfl ?_
          have key51 : ∀ z, z ≤ 10 → ∀ τ : Mem, Off 2 σ τ → MX E 5 RX3 cX3_whatIs 6 (some .int) 51 [(5, .int (nI z)), (4, .int (f_wi n m r R h 1 z)), (3, .int 10), (0, mx_rf E 0), (1, .int (nI h)), (2, .int 1)] [] τ (mx_i (fun v τ => (p_whatIs n r m R (nI h) (nI 1)).1 = v ∧ Qz (p_whatIs n r m R (nI h) (nI 1)).2 σ τ)) := by
            refine mx_ind 10 (fun z hi51 ih51 => ?_)
            intro τ hO
            refine x_iload 0 dX3_whatIs_51 rfl ?_
            refine x_iload_n 2 dX3_whatIs_53 rfl ?_
            refine x_icmp_ge dX3_whatIs_54 (fun c54 => ?_) (fun c54 => ?_)
            · have hge := nI_le_of (b := 10) (by decide) (by omega) c54
              have hzl : z = 10 := by omega
              refine x_iload 1 dX3_whatIs_124 rfl ?_
              exact x_iret dX3_whatIs_126 (by rw [show p_whatIs n r m R (nI h) (nI 1) = (f_wi n m r R h 1 z, 0) from by unfold p_whatIs; rw [if_pos c8, if_pos hwt, nI_clamp (show h < 2 ^ 31 by omega), hzl]; rfl]; exact ⟨rfl, Qz.off hO⟩)
            · have hz6 := nI_lt_of (b := 10) (by decide) (by omega) c54
              refine x_aload_n 3 dX3_whatIs_57 rfl ?_
              refine gfX3_16 dX3_whatIs_58 ?_
              refine x_aload_n 3 dX3_whatIs_61 rfl ?_
              refine gfX3_10 dX3_whatIs_62 ?_
              refine clX3_73 (qX2_become (t := 2) (u := 1) (by decide) (by decide) (by decide) (by decide) (by decide) (hT.offt hn6 (by decide) (by decide) (by decide) (by decide) (by decide) hO) hw) (by decide) (by decide) (by decide) rfl dX3_whatIs_65 (fun τ65 h65 => ?_)
              refine x_iload_n 5 dX3_whatIs_68 rfl ?_
              refine x_if_ne dX3_whatIs_69 (fun _ => ?_) (fun c => absurd c (by decide))
              refine x_aload_n 3 dX3_whatIs_88 rfl ?_
              refine gfX3_16 dX3_whatIs_89 ?_
              refine x_iload_n 4 dX3_whatIs_92 rfl ?_
              refine clX3_125 (qX2_at (by decide) (by decide) h65.1.1 hn6 hh) (by decide) (by decide) (by decide) rfl dX3_whatIs_93 (fun r93 τ93 h93 => ?_)
              obtain ⟨rfl, rfl⟩ := h93
              refine x_iload 0 dX3_whatIs_96 rfl ?_
              refine pfX3_151 (by omega) (by omega) dX3_whatIs_98 ?_
              have hT98 : TI (mx_up τ65 (4 + 6 * 2 + h) 1 (nI z)) 2 n (upd r (6 + 6 * h + 1) (nI z)) := h65.1.fld (by decide) hh (by decide)
              have hO98 : Off 2 σ (mx_up τ65 (4 + 6 * 2 + h) 1 (nI z)) := (hO.tr h65.2).up (inT_h (by omega))
              refine x_aload_n 3 dX3_whatIs_101 rfl ?_
              refine x_iload_n 4 dX3_whatIs_102 rfl ?_
              refine clX3_265 (qX3_dustIsAsTold (hN.off (by decide) (by decide) hO98) (hT.offt hn6 (by decide) (by decide) (by decide) (by decide) (by decide) hO98) hw R m hm ((congrFun (hO98 29 (by unfold inT; omega)) 1).trans hz) (fun j hj => (congrFun (hO98 32 (by unfold inT; omega)) j).trans (hv j hj)) hT98 (wf_cd1 hw hz6) h hh) (by decide) rfl dX3_whatIs_103 (fun r103 τ103 h103 => ?_)
              obtain ⟨rfl, hO9⟩ := h103
              have hO103 := hO98.tr hO9
              refine x_if_eq dX3_whatIs_106 (fun c106 => ?_) (fun c106 => ?_)
              · replace c106 := zb_0 c106
                refine x_iinc (v := nI (z + 1)) (lv' := [(5, .int (nI (z + 1))), (4, .int (f_wi n m r R h 1 z)), (3, .int 10), (0, mx_rf E 0), (1, .int (nI h)), (2, .int 1)]) 0 dX3_whatIs_118 rfl (nI_1 _) (by decide) rfl ?_
                refine x_goto dX3_whatIs_121 ?_
                exact acc_eq (P := fun x => MX E _ _ _ _ _ _ [(5, .int (nI (z + 1))), (4, .int x), (3, .int 10), (0, mx_rf E 0), (1, .int (nI h)), (2, .int 1)] _ _ _) (f_wi_F c106).symm (ih51 (z + 1) (by omega) (by omega) _ hO103)
              · replace c106 := zb_1 c106
                refine x_iload 1 dX3_whatIs_109 rfl ?_
                refine x_iconst (v := 1) dX3_whatIs_111 (by decide) ?_
                refine x_iload 0 dX3_whatIs_112 rfl ?_
                refine x_ishl dX3_whatIs_114 ?_
                refine x_ior dX3_whatIs_115 ?_
                refine x_istore (lv' := [(4, .int ((f_wi n m r R h 1 z) ||| (1 <<< ((nI z) &&& 31)))), (5, .int (nI z)), (3, .int 10), (0, mx_rf E 0), (1, .int (nI h)), (2, .int 1)]) dX3_whatIs_116 rfl (by decide) rfl ?_
                refine x_iinc (v := nI (z + 1)) (lv' := [(5, .int (nI (z + 1))), (4, .int ((f_wi n m r R h 1 z) ||| (1 <<< ((nI z) &&& 31)))), (3, .int 10), (0, mx_rf E 0), (1, .int (nI h)), (2, .int 1)]) 1 dX3_whatIs_118 rfl (nI_1 _) (by decide) rfl ?_
                refine x_goto dX3_whatIs_121 ?_
                exact acc_eq (P := fun x => MX E _ _ _ _ _ _ [(5, .int (nI (z + 1))), (4, .int x), (3, .int 10), (0, mx_rf E 0), (1, .int (nI h)), (2, .int 1)] _ _ _) (f_wi_T c106).symm (ih51 (z + 1) (by omega) (by omega) _ hO103)
          exact key51 0 (Nat.zero_le _) _ Off.rf
      · have hwt : f_in what 0 1 = false := by unfold f_in; rw [decide_eq_false c23, Bool.and_false]
        refine x_aload_n 0 dX3_whatIs_26 rfl ?_
        refine x_bipush (v := -2) dX3_whatIs_27 (by decide) ?_
        refine clX3_49 (qX3_refuse 2 (by decide) (by decide)) (by decide) rfl dX3_whatIs_29 (fun r29 τ29 h29 => ?_)
        obtain ⟨rfl, rfl⟩ := h29
        exact x_iret dX3_whatIs_32 (by rw [show p_whatIs n r m R (nI h) what = (-2, 2) from by simp [p_whatIs, c8, c18, (Int32.not_lt.mp c18), c23, (Int32.not_le.mp c23), nI_clamp (show h < 2 ^ 31 by omega), hwt]]; exact ⟨rfl, Qz.no⟩)
  · replace c8 := zb_0 c8
    refine x_aload_n 0 dX3_whatIs_11 rfl ?_
    refine x_iconst (v := -1) dX3_whatIs_12 (by decide) ?_
    refine clX3_49 (qX3_refuse 1 (by decide) (by decide)) (by decide) rfl dX3_whatIs_13 (fun r13 τ13 h13 => ?_)
    obtain ⟨rfl, rfl⟩ := h13
    exact x_iret dX3_whatIs_16 (by rw [show p_whatIs n r m R house what = (-1, 1) from by simp [p_whatIs, c8]]; exact ⟨rfl, Qz.no⟩)
