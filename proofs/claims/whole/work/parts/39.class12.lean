set_option maxHeartbeats 4000000 in
theorem qX3_town {E : mx_E} {σ : Mem} {n : Nat} {r : Row} {hi : Bool} {ni : Nat} {ri : Row} {lm : Nat} {L : Row} {rm : Nat} {R f : Row} (hC : CI σ (zs n r hi ni ri lm L rm R f)) (ok : (zs n r hi ni ri lm L rm R f).ok)  : MX3_town E 7 [mx_rf E 0] σ (mx_i (fun v τ => (a_town (zs n r hi ni ri lm L rm R f)).1 = v ∧ CI τ (a_town (zs n r hi ni ri lm L rm R f)).2 ∧ FC σ τ)) := by
  refine MM.of (lv := [(0, mx_rf E 0)]) kpX3 rfl (Nat.le_of_ble_eq_true rfl) rfl ?_
  have hN : NW σ := hC.1
  have hT : TI σ 1 n r := hC.2.1
  have hw : wf n r := ok.1
  have hn6 : n ≤ 6 := hw.1
  have hlm : lm ≤ 96 := ok.2.2.2.1
  have hrm : rm ≤ 16 := ok.2.2.2.2
  have hz2 : σ 28 1 = nI lm := hC.2.2.2.2.1
  have hz : σ 29 1 = nI rm := hC.2.2.2.2.2.2.1
  have hL : ∀ j, j < lm → σ 31 j = L j := hC.2.2.2.2.2.1
  have h5 : r 5 = 0 := ok.2.1
  refine x_aload_n 0 dX3_town_0 rfl ?_
  refine clX3_63 (qX3_brokenPlace hlm hz2 hL) (by decide) rfl dX3_town_1 (fun r1 τ1 h1 => ?_)
  obtain ⟨rfl, rfl⟩ := h1
  rcases hb : f_brk L lm with _ | q
  · show MX E 7 RX3 cX3_town 3 (some .int) 4 [(0, mx_rf E 0)] [.int (-9)] σ (mx_i (fun v τ => (a_town (zs n r hi ni ri lm L rm R f)).1 = v ∧ CI τ (a_town (zs n r hi ni ri lm L rm R f)).2 ∧ FC σ τ))
    refine x_istore_n (lv' := [(1, .int (-9)), (0, mx_rf E 0)]) dX3_town_4 rfl (by decide) rfl ?_
    refine x_iload_n 0 dX3_town_5 rfl ?_
    refine x_bipush (v := -9) dX3_town_6 (by decide) ?_
    refine x_icmp_ne dX3_town_8 (fun c => absurd c (by decide)) (fun _ => ?_)
    refine x_aload_n 1 dX3_town_11 rfl ?_
    refine clX3_67 (qX3_readStatements hN hT hw h5 hlm hz2 hL (f_good hb).2) (by decide) rfl dX3_town_12 (fun r12 τ12 h12 => ?_)
    obtain ⟨g1, g2, g3⟩ := h12
    subst g1
    refine x_goto dX3_town_15 ?_
    refine x_istore_n (lv' := [(2, .int ((f_tg n r L lm 0 0 n r).1)), (1, .int (-9)), (0, mx_rf E 0)]) dX3_town_23 rfl (by decide) rfl ?_
    refine x_aload_n 2 dX3_town_24 rfl ?_
    refine gfX3_31 dX3_town_25 ?_
    refine clX3_70 (qX1_drop0 (k := 28) (by decide) (by decide)) (by decide) (by decide) (by decide) rfl dX3_town_28 (fun τ28 h28 => ?_)
    obtain rfl := h28
    refine x_iload_n 0 dX3_town_31 rfl ?_
    exact x_iret dX3_town_32 (by rw [a_town_n (s := (zs n r hi ni ri lm L rm R f)) hb]; exact ⟨rfl, (hC.off12 ok g2 g3).dropL ⟨(f_tg_wf hw h5 (f_good hb).2 lm 0 0 n r (by omega) hw h5).1, (f_tg_wf hw h5 (f_good hb).2 lm 0 0 n r (by omega) hw h5).2, ok.2.2.1, hlm, hrm⟩, fun k hk => (mx_up_o (by omega)).trans (g3 k (by unfold inT; omega) (by unfold inT; omega))⟩)
  · have hq := f_brk_le hb
    show MX E 7 RX3 cX3_town 3 (some .int) 4 [(0, mx_rf E 0)] [.int (nI q)] σ (mx_i (fun v τ => (a_town (zs n r hi ni ri lm L rm R f)).1 = v ∧ CI τ (a_town (zs n r hi ni ri lm L rm R f)).2 ∧ FC σ τ))
    refine x_istore_n (lv' := [(1, .int (nI q)), (0, mx_rf E 0)]) dX3_town_4 rfl (by decide) rfl ?_
    refine x_iload_n 0 dX3_town_5 rfl ?_
    refine x_bipush (v := -9) dX3_town_6 (by decide) ?_
    refine x_icmp_ne dX3_town_8 (fun c8 => ?_) (fun c8 => ?_)
    · refine x_sipush (v := -1000) dX3_town_18 (by decide) ?_
      refine x_iload_n 0 dX3_town_21 rfl ?_
      refine x_isub dX3_town_22 ?_
      refine x_istore_n (lv' := [(2, .int ((-1000) - (nI q))), (1, .int (nI q)), (0, mx_rf E 0)]) dX3_town_23 rfl (by decide) rfl ?_
      refine x_aload_n 2 dX3_town_24 rfl ?_
      refine gfX3_31 dX3_town_25 ?_
      refine clX3_70 (qX1_drop0 (k := 28) (by decide) (by decide)) (by decide) (by decide) (by decide) rfl dX3_town_28 (fun τ28 h28 => ?_)
      obtain rfl := h28
      refine x_iload_n 0 dX3_town_31 rfl ?_
      exact x_iret dX3_town_32 (by rw [a_town_s (s := (zs n r hi ni ri lm L rm R f)) hb]; exact ⟨rfl, hC.dropL ok, fun k hk => mx_up_o (by omega)⟩)
    · exact absurd c8 (f_n9 (by omega))
