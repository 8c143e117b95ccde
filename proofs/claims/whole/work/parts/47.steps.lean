/-! ===== WHAT EVERY CALL KEEPS: the state stays in its bounds; both sides hold it again ===== -/
def SI (σ : Mem) : Prop := ∃ s : ZS, s.ok ∧ CI σ s ∧ MI σ s
theorem ok_no {s : ZS} {c : Nat} (h : s.ok) : (s.no c).ok := h
theorem ok_to {s : ZS} {r' : Row} (h : s.ok) (w : wf s.n r' ∧ r' 5 = 0) : (s.to r').ok := ⟨w.1, w.2, h.2.2⟩
theorem SI.q {σ τ υ : Mem} {s : ZS} {c : Nat} (ok : s.ok) (hC : CI σ s) (hM : MI σ s) (q1 : Qz c σ τ) (q2 : Qm c τ υ) : SI υ := ⟨s.no c, ok, (hC.q ok q1).fm (s := s.no c) ok q2.fm, (hM.fc q1.fc).q q2⟩
theorem SI.S {σ τ υ : Mem} {s : ZS} {r' : Row} {c : Nat} (ok : s.ok) (hC : CI σ s) (hM : MI σ s) (w : wf s.n r' ∧ r' 5 = 0) (q1 : Sz s.n r' c σ τ) (q2 : Sm r' c τ υ) : SI υ := by
  have ok2 : (s.to r').ok := ok_to ok w
  exact ⟨(s.to r').no c, ok2, (hC.S ok ok2 q1).fm (s := (s.to r').no c) ok2 q2.fm, (hM.fc q1.fc).S q2⟩
theorem SI.a {τ υ : Mem} {s : ZS} (ok : s.ok) (h1 : CI τ s) (h2 : MI υ s) (f : FM τ υ) : SI υ := ⟨s, ok, h1.fm ok f, h2⟩
theorem f_rng {u : Int32} {hi : Nat} (hh : hi < 2 ^ 31) (h1 : ¬ u < 0) (h2 : ¬ nI hi < u) : ∃ q, q ≤ hi ∧ u = nI q := by
  refine f_in_t hh ?_
  unfold f_in
  rw [decide_eq_true (Int32.not_lt.mp h1), decide_eq_true (Int32.not_lt.mp h2)]
  rfl
theorem okz_3 {n : Nat} {r : Row} {house u : Int32} (hw : wf n r) (h5 : r 5 = 0) : wf n (zt_set n r house u 3 30).2.2 ∧ (zt_set n r house u 3 30).2.2 5 = 0 := by
  have hn := hw.1
  unfold zt_set
  split
  · rename_i h
    split
    · exact ⟨hw, h5⟩
    · rename_i a
      split
      · exact ⟨hw, h5⟩
      · rename_i b
        obtain ⟨j, hj, e⟩ := f_inN_t (by omega) h
        obtain ⟨q, hq, e2⟩ := f_rng (hi := 30) (by decide) a b
        rw [e, nI_clamp (by omega), e2]
        exact ⟨wf_ppl hw hj hq, (upd_o (by omega)).trans h5⟩
  · exact ⟨hw, h5⟩
theorem okz_5 {n : Nat} {r : Row} {house u : Int32} (hw : wf n r) (h5 : r 5 = 0) : wf n (zt_set n r house u 5 9).2.2 ∧ (zt_set n r house u 5 9).2.2 5 = 0 := by
  unfold zt_set
  split
  · split
    · exact ⟨hw, h5⟩
    · split
      · exact ⟨hw, h5⟩
      · exact ⟨wf_dent hw, (upd_o (by omega)).trans h5⟩
  · exact ⟨hw, h5⟩
theorem okz_airs {n : Nat} {r : Row} {house : Int32} (hw : wf n r) (h5 : r 5 = 0) : wf n (zt_airs n r house).2.2 ∧ (zt_airs n r house).2.2 5 = 0 := by
  unfold zt_airs
  split
  · split
    · exact ⟨wf_dust hw, (upd_o (by omega)).trans h5⟩
    · exact ⟨hw, h5⟩
  · exact ⟨hw, h5⟩
theorem okz_keeps {n : Nat} {r : Row} {house : Int32} (hw : wf n r) (h5 : r 5 = 0) : wf n (zt_keeps n r house).2.2 ∧ (zt_keeps n r house).2.2 5 = 0 := by
  have hn := hw.1
  unfold zt_keeps
  split
  · rename_i h
    obtain ⟨j, hj, e⟩ := f_inN_t (by omega) h
    rw [e, nI_clamp (by omega)]
    exact ⟨wf_tog hw hj, (f_tog_o (h := j) (i := 5) (by decide)).trans h5⟩
  · exact ⟨hw, h5⟩
theorem okz_visits {n : Nat} {r : Row} {house : Int32} (hw : wf n r) (h5 : r 5 = 0) : wf n (zt_visits n r house).2.2 ∧ (zt_visits n r house).2.2 5 = 0 := by
  have hn := hw.1
  unfold zt_visits
  split
  · rename_i h
    obtain ⟨j, hj, e⟩ := f_inN_t (by omega) h
    rw [e]
    exact ⟨wf_inspAt hw hj, (show upd r 2 (nI j) 5 = r 5 from upd_o (by decide)).trans h5⟩
  · exact ⟨hw, h5⟩
theorem okz_candles {n : Nat} {r : Row} {u : Int32} (hw : wf n r) (h5 : r 5 = 0) : wf n (zt_candles n r u).2.2 ∧ (zt_candles n r u).2.2 5 = 0 := by
  unfold zt_candles
  split
  · exact ⟨hw, h5⟩
  · split
    · exact ⟨hw, h5⟩
    · exact ⟨wf_cand hw, (show upd r 3 u 5 = r 5 from upd_o (by decide)).trans h5⟩
theorem okz_turn {n : Nat} {r : Row} {house kind figure : Int32} (hw : wf n r) (h5 : r 5 = 0) : wf n (zt_turn n r house kind figure).2.2 ∧ (zt_turn n r house kind figure).2.2 5 = 0 := by
  unfold zt_turn
  split
  · split
    · rename_i h
      split
      · exact ⟨hw, h5⟩
      · rename_i a
        split
        · exact ⟨hw, h5⟩
        · rename_i b
          obtain ⟨k, hk, e⟩ := f_in_t (hi := 5) (by decide) h
          obtain ⟨q, hq, e2⟩ := f_rng (hi := 9) (by decide) a b
          rw [e, e2]
          exact ⟨wf_fig (wf_kind hw (by omega)) hq, ((upd_o (by omega)).trans (upd_o (by omega))).trans h5⟩
    · exact ⟨hw, h5⟩
  · exact ⟨hw, h5⟩
theorem okz_weeks {n : Nat} {r : Row} {k : Int32} (hw : wf n r) (h5 : r 5 = 0) : wf n (zt_weeks n r k).2.2 ∧ (zt_weeks n r k).2.2 5 = 0 := by
  unfold zt_weeks
  split
  · exact ⟨hw, h5⟩
  · split
    · exact ⟨hw, h5⟩
    · exact ⟨wf_weeks hw _, (f_weeks_5 _).trans h5⟩
theorem oka_letter {s : ZS} {c : Int32} (ok : s.ok) : (a_letter s c).2.ok := by
  unfold a_letter
  split
  · exact ok
  · split
    · exact ok
    · split
      · exact ok
      · rename_i h
        have h1 : s.lm ≤ 96 := ok.2.2.2.1
        exact ⟨ok.1, ok.2.1, ok.2.2.1, show s.lm + 1 ≤ 96 by omega, ok.2.2.2.2⟩
theorem oka_row {s : ZS} {c : Int32} (ok : s.ok) : (a_row s c).2.ok := by
  unfold a_row
  split
  · exact ok
  · split
    · exact ok
    · split
      · exact ok
      · rename_i h
        have h1 : s.rm ≤ 16 := ok.2.2.2.2
        exact ⟨ok.1, ok.2.1, ok.2.2.1, ok.2.2.2.1, show s.rm + 1 ≤ 16 by omega⟩
theorem oka_judge {s : ZS} (ok : s.ok) : (a_judge s).2.ok := ⟨ok.1, ok.2.1, ok.2.2.1, ok.2.2.2.1, Nat.zero_le _⟩
theorem oka_clear {s : ZS} (ok : s.ok) : (a_clear s).2.ok := ⟨ok.1, ok.2.1, ok.2.2.1, ok.2.2.2.1, Nat.zero_le _⟩
theorem oka_image {s : ZS} (ok : s.ok) : (a_image s).2.ok := ⟨ok.1, ok.2.1, fun _ => ⟨ok.1, ok.2.1⟩, ok.2.2.2⟩
theorem oka_on {s : ZS} (ok : s.ok) : (a_on s).2.ok := by
  unfold a_on
  split
  · rename_i h
    exact ⟨(ok.2.2.1 h).1, (ok.2.2.1 h).2, ok.2.2⟩
  · exact ok
theorem oka_town {s : ZS} (ok : s.ok) : (a_town s).2.ok := by
  unfold a_town
  split
  · exact ⟨ok.1, ok.2.1, ok.2.2.1, Nat.zero_le _, ok.2.2.2.2⟩
  · rename_i h
    have hg := (f_good h).2
    have w := f_tg_wf ok.1 ok.2.1 hg s.lm 0 0 s.n s.r (by omega) ok.1 ok.2.1
    exact ⟨w.1, w.2, ok.2.2.1, Nat.zero_le _, ok.2.2.2.2⟩
