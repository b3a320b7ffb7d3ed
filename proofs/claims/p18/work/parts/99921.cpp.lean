/-! ===== both objects: a path read alike (own text) ===== -/
section
variable {I J M N : wd_I}
theorem h_rd.w (h : h_rd I M) {j : Nat} {v : Int32} (hj : j = 26 ∨ j = 27) : h_rd I (wd_up M 102 j v) := by
  have ht := (m_sd_w (x := v) (m_sd.rf h.2.2.1) hj).2.2.1
  obtain ⟨h1, h2, h3, h4, h5⟩ := h
  have e : ∀ i, i = 22 ∨ i = 23 ∨ i = 24 → wd_up M 102 j v 102 i = M 102 i := fun i q => wd_up_ne _ _ (by omega)
  exact ⟨h1.fr (fun _ => ⟨rfl, rfl⟩) ⟨e 22 (by omega), wd_up_row _ _ _ (by decide)⟩, h2, ht, by rw [e 24 (by omega)]; exact h4, by rw [e 24 (by omega), e 23 (by omega)]; exact h5⟩
theorem h_rd.wM (h : h_rd I M) {a j : Nat} {v : Int32} (ha : a = 121 ∨ a = 122) : h_rd I (wd_up M a j v) := by
  have e : ∀ i, wd_up M a j v 102 i = M 102 i := fun i => wd_up_ne _ _ (by omega)
  obtain ⟨h1, h2, h3, h4, h5⟩ := h
  exact ⟨h1.fr (fun _ => ⟨rfl, rfl⟩) ⟨e 22, wd_up_row _ _ _ (by omega)⟩, h2, (by unfold m_tp at *; rw [e 22, e 23]; exact h3), by rw [e 24]; exact h4, by rw [e 24, e 23]; exact h5⟩
theorem h_rd.wI (h : h_rd I M) {a j : Nat} {v : Int32} (ha : a = 5 ∨ a = 6) : h_rd (wd_up I a j v) M := by
  have e : ∀ b i, b = 1 ∨ b = 2 → wd_up I a j v b i = I b i := fun b i q => wd_up_ne _ _ (by omega)
  obtain ⟨h1, h2, h3, h4, h5⟩ := h
  exact ⟨h1.fr (fun i => ⟨(e 1 1 (by omega)).symm, e 2 i (by omega)⟩) ⟨rfl, rfl⟩, t_tp_up h2 (by omega), h3, by rw [e 1 3 (by omega)]; exact h4, by rw [e 1 2 (by omega)]; exact h5⟩
/-- a word found -/
def h_v (J N N' : wd_I) (w : Int32) : Prop := h_rd J N' ∧ ((N' 102 24).toInt = -1 → N' 102 26 = N 102 26 ∧ N' 102 27 = w)
theorem h_val {v w : Int32} (h : h_rd J N) (hv : (N 102 24).toInt = -1 → v = w) : h_v J N (wd_up N 102 27 v) w := ⟨h.w (Or.inr rfl), fun q => ⟨wd_up_ne _ _ (by omega), by rw [wd_up_self]; exact hv (by rw [wd_up_ne _ _ (by omega)] at q; exact q)⟩⟩
theorem h_cls {v w b : Int32} (h : h_rd J N) (hv : (N 102 24).toInt = -1 → v = w) (hb : 0 ≤ b.toInt) : h_v (t_needs J b) N (m_one (wd_up N 102 27 v) b b).1 w := by
  have h1 := h.w (v := v) (Or.inr (rfl : 27 = 27))
  have h2 := (m_one_sc (hi := b) h1.2.2.1 hb).1.2.1
  refine ⟨h_needs h1 hb, fun q => ?_⟩
  have q2 := m_one_uf q
  exact ⟨(h2 26 (by decide) (by decide)).trans (wd_up_ne _ _ (by omega)), (h2 27 (by decide) (by decide)).trans ((wd_up_self _ _ _ _).trans (hv (by rw [wd_up_ne _ _ (by omega)] at q2; exact q2)))⟩
theorem h_v.of {N0 N' : wd_I} {w : Int32} (h : h_v J N N' w) (e : (N' 102 24).toInt = -1 → N 102 26 = N0 102 26) : h_v J N0 N' w := ⟨h.1, fun q => ⟨(h.2 q).1.trans (e q), (h.2 q).2⟩⟩
theorem h_side (h : h_rd I M) (hf : (M 102 24).toInt = -1) : h_v (r_side I).1 M (wd_up (m_one M (ab_ii 48) (ab_ii 49)).1 102 27 (ab_ii ((m_one M (ab_ii 48) (ab_ii 49)).2.toInt - 48))) (r_side I).2 := by
  obtain ⟨h1, h2⟩ := h_one h hf (lo := ab_ii 48) (hi := ab_ii 49) (by decide)
  rw [show (ab_ii 48).toInt = 48 from rfl, show (ab_ii 49).toInt = 49 from rfl] at h1 h2
  have hs := (m_one_sc (lo := ab_ii 48) (hi := ab_ii 49) h.2.2.1 (by decide)).1.2.1 26 (by decide) (by decide)
  by_cases c : 48 ≤ (t_next I).toInt ∧ (t_next I).toInt ≤ 49
  · obtain ⟨e1, e2, e3⟩ := h1 c
    rw [e1] at hs ⊢
    by_cases c9 : (t_next I).toInt = 49
    · unfold r_side
      rw [if_pos c9]
      exact (h_val e2 (fun _ => by dsimp only; rw [c9]; rfl)).of (fun _ => hs)
    · unfold r_side t_needs
      rw [if_neg c9, if_pos (show (t_next I).toInt = (ab_ii 48).toInt by rw [show (ab_ii 48).toInt = 48 from rfl]; omega)]
      exact (h_val e2 (fun _ => by dsimp only; rw [show (t_next I).toInt = 48 by omega]; rfl)).of (fun _ => hs)
  · obtain ⟨e1, e2, e3⟩ := h2 c
    rw [e1] at hs ⊢
    unfold r_side t_needs
    rw [if_neg (by omega), if_neg (show ¬ (t_next I).toInt = (ab_ii 48).toInt by rw [show (ab_ii 48).toInt = 48 from rfl]; omega)]
    exact (h_val e2 (fun q => absurd q e3)).of (fun _ => hs)
theorem m_rS_26 {M : wd_I} {i : Int} : m_rS M i 102 26 = ab_ii i := by
  unfold m_rS m_stp
  rw [wd_up_ne _ _ (by omega)]
  unfold m_r0
  rw [wd_up_ne _ _ (by omega), wd_up_self]
theorem h_rS (h : h_rd I M) (hf : (M 102 24).toInt = -1) (hp : (M 102 23).toInt < (M 102 22).toInt) (i : Int) : h_rd (t_step I) (m_rS M i) ∧ (m_rS M i 102 24).toInt = -1 := by
  have h0 : h_rd I (m_r0 M i) := (h.w (Or.inl rfl)).w (Or.inr rfl)
  have f0 : (m_r0 M i 102 24).toInt = -1 := by rw [m_r0_n (by decide)]; exact hf
  refine ⟨h_step h0 f0 (by rw [m_r0_n (by decide), m_r0_n (by decide)]; exact hp), ?_⟩
  show (m_stp (m_r0 M i) 102 24).toInt = -1
  rw [show m_stp (m_r0 M i) 102 24 = m_r0 M i 102 24 from wd_up_ne _ _ (Or.inr (by decide))]
  exact f0
theorem h_rst (h : h_rd I M) (hf : (M 102 24).toInt = -1) (hp : (M 102 23).toInt < (M 102 22).toInt) : h_rd (r_step I).1 (m_rst M) ∧ ((m_rst M 102 24).toInt = -1 → m_rst M 102 26 = ab_ii (q_s (t_next I).toInt) ∧ m_rst M 102 27 = (r_step I).2) := by
  have hn := h.nx hf
  have key : ∀ (i : Int) (N : wd_I), q_s (t_next I).toInt = i → ¬ i = 9 → (m_rsi i (m_rS M i) = N) → h_v (r_step I).1 (m_rS M i) N (r_step I).2 → h_rd (r_step I).1 (m_rst M) ∧ ((m_rst M 102 24).toInt = -1 → m_rst M 102 26 = ab_ii (q_s (t_next I).toInt) ∧ m_rst M 102 27 = (r_step I).2) := by
    intro i N e1 e2 e3 hv
    have e0 : m_stc (m_here M).toInt = i := by rw [← hn]; exact e1
    have e4 : m_rst M = N := by unfold m_rst; rw [e0, if_neg e2]; exact e3
    rw [e4, e1]
    exact ⟨hv.1, fun q => ⟨(hv.2 q).1.trans m_rS_26, (hv.2 q).2⟩⟩
  have hS := h_rS h hf hp
  unfold r_step at key ⊢
  by_cases c0 : (t_next I).toInt = 42 ∨ (t_next I).toInt = 126 ∨ (t_next I).toInt = 37
  · rw [if_pos c0] at key ⊢
    rcases c0 with c | c | c
    · have hv := h_val (v := ab_ii 0) (w := ab_ii 0) (hS 4).1 (fun _ => rfl)
      exact key 4 _ (by rw [c]; rfl) (by decide) (by unfold m_rsi; simp only [reduceIte, Int.reduceEq]) hv
    · have hv := h_val (v := ab_ii 0) (w := ab_ii 0) (hS 5).1 (fun _ => rfl)
      exact key 5 _ (by rw [c]; rfl) (by decide) (by unfold m_rsi; simp only [reduceIte, Int.reduceEq]) hv
    · have hv := h_val (v := ab_ii 0) (w := ab_ii 0) (hS 6).1 (fun _ => rfl)
      exact key 6 _ (by rw [c]; rfl) (by decide) (by unfold m_rsi; simp only [reduceIte, Int.reduceEq]) hv
  rw [if_neg c0] at key ⊢
  by_cases c : (t_next I).toInt = 46
  · rw [if_pos c] at key ⊢
    have hv := h_side (hS 0).1 (hS 0).2
    exact key 0 _ (by rw [c]; rfl) (by decide) (by unfold m_rsi; simp only [reduceIte, Int.reduceEq]) hv
  rw [if_neg c] at key ⊢
  by_cases c : (t_next I).toInt = 47
  · rw [if_pos c] at key ⊢
    have e := h_digits (hS 1).1 (show 1 ≤ 2 by omega)
    have hv := (h_val e.1 e.2).of (N0 := m_rS M 1) (fun _ => (m_digits_sc (hS 1).1.2.2.1).1.2.1 26 (by decide) (by decide))
    exact key 1 _ (by rw [c]; rfl) (by decide) (by unfold m_rsi; simp only [reduceIte, Int.reduceEq]) hv
  rw [if_neg c] at key ⊢
  by_cases c : (t_next I).toInt = 35
  · rw [if_pos c] at key ⊢
    have e := h_digits (hS 3).1 (show 1 ≤ 1 by omega)
    have hv := (h_val e.1 e.2).of (N0 := m_rS M 3) (fun _ => (m_digits_sc (hS 3).1.2.2.1).1.2.1 26 (by decide) (by decide))
    exact key 3 _ (by rw [c]; rfl) (by decide) (by unfold m_rsi m_digits; simp only [reduceIte, Int.reduceEq]; rfl) hv
  rw [if_neg c] at key ⊢
  by_cases c : (t_next I).toInt = 36
  · rw [if_pos c] at key ⊢
    dsimp only at key ⊢
    have e := h_letters (hS 2).1
    have hv := (h_cls (b := ab_ii 46) e.1 e.2 (by decide)).of (N0 := m_rS M 2) (fun _ => (m_letters_sc (hS 2).1.2.2.1).2.1 26 (by decide) (by decide))
    exact key 2 _ (by rw [c]; rfl) (by decide) (by unfold m_rsi; simp only [reduceIte, Int.reduceEq]) hv
  rw [if_neg c] at key ⊢
  by_cases c : (t_next I).toInt = 60
  · rw [if_pos c] at key ⊢
    dsimp only at key ⊢
    have e := h_digits (hS 7).1 (show 1 ≤ 2 by omega)
    have hv := (h_cls (b := ab_ii 62) e.1 e.2 (by decide)).of (N0 := m_rS M 7) (fun _ => (m_digits_sc (hS 7).1.2.2.1).1.2.1 26 (by decide) (by decide))
    exact key 7 _ (by rw [c]; rfl) (by decide) (by unfold m_rsi; simp only [reduceIte, Int.reduceEq]) hv
  rw [if_neg c] at key ⊢
  by_cases c : (t_next I).toInt = 61
  · rw [if_pos c] at key ⊢
    dsimp only at key ⊢
    have e := h_signed (hS 8).1
    have hv := (h_cls (b := ab_ii 59) e.1 e.2 (by decide)).of (N0 := m_rS M 8) (fun _ => (m_signed_sc (hS 8).1.2.2.1).1.2.1 26 (by decide) (by decide))
    exact key 8 _ (by rw [c]; rfl) (by decide) (by unfold m_rsi; simp only [reduceIte, Int.reduceEq]) hv
  rw [if_neg c]
  have e0 : m_stc (m_here M).toInt = 9 := by
    rw [← hn]
    unfold m_stc
    repeat' split
    all_goals omega
  have e4 : m_rst M = m_fails (m_r0 M 9) (M 102 23) := by unfold m_rst; rw [if_pos e0]
  have h0 : h_rd I (m_r0 M 9) := (h.w (Or.inl rfl)).w (Or.inr rfl)
  have f0 : (m_r0 M 9 102 24).toInt = -1 := by rw [m_r0_n (by decide)]; exact hf
  have e5 : (m_fails (m_r0 M 9) (M 102 23) 102 24) = M 102 23 := by unfold m_fails; rw [wd_up_self, if_pos f0]
  have p0 := h.2.2.1.1
  rw [e4]
  refine ⟨?_, fun q => by rw [e5] at q; omega⟩
  have a1 := (t_step_tf h.2.1).1
  have a2 := (t_fail_tf (p := I 1 2) a1.2.1).1
  have a3 := a1.tr a2
  have a4 := m_fails_sc (p := M 102 23) h0.2.2.1 p0
  have a5 : t_step I 1 3 = I 1 3 := by
    unfold t_step
    split
    · exact wd_up_ne _ _ (Or.inr (by decide))
    · rfl
  have a6 : t_fail (t_step I) (I 1 2) 1 3 = I 1 2 := by
    unfold t_fail
    rw [a5, if_pos (by rw [h.2.2.2.1]; omega), wd_up_self]
  refine ⟨h0.1.fr (fun j => ⟨(a3.1 1 1 (by omega)).symm, a3.1 2 j (by omega)⟩) a4.1.h, a3.2.1, a4.1.2.2.1, ?_, Or.inr (by rw [e5]; exact p0)⟩
  show t_fail (t_step I) (I 1 2) 1 3 = _
  rw [a6, e5, h.at hf]
/-! all of a path -/
def h_st (n : Nat) (I M : wd_I) : Prop := ∀ i, i < n → q_s (I 5 i).toInt = (M 121 i).toInt ∧ I 6 i = M 122 i
theorem r_end_flt {I : wd_I} (h : 0 ≤ (I 1 3).toInt) : r_end I = I := by
  unfold r_end
  split
  · rfl
  · unfold t_fail
    rw [if_neg (by omega)]
theorem q_s_09 {x : Int} : 0 ≤ q_s x ∧ q_s x ≤ 9 := by
  unfold q_s
  repeat' split
  all_goals omega
theorem h_rl : ∀ (r f n : Nat) (I M : wd_I), h_rd I M → n + r = 8 → r + 2 ≤ f → ((M 102 24).toInt = -1 → h_st n I M) → h_rd (r_end (r_loop r I n).1) (m_pl f n M).1 ∧ (((m_pl f n M).1 102 24).toInt = -1 → (m_pl f n M).2 = (r_loop r I n).2 ∧ h_st (r_loop r I n).2 (r_end (r_loop r I n).1) (m_pl f n M).1)
  | r, 0, n, I, M, h, hn, hf, hs => by omega
  | r, f + 1, n, I, M, h, hn, hf, hs => by
    rcases h.f0 with f0 | f0
    · have ha := h.at f0
      by_cases hp : (M 102 23).toInt < (M 102 22).toInt
      · unfold m_pl
        rw [if_pos ⟨f0, hp⟩]
        by_cases h8 : n = 8
        · obtain rfl : r = 0 := by omega
          obtain ⟨f, rfl⟩ : ∃ j, f = j + 1 := ⟨f - 1, by omega⟩
          have e3 : ¬ (m_fails M (M 102 23) 102 24).toInt = -1 := by
            unfold m_fails
            rw [wd_up_self, if_pos f0]
            have := h.2.2.1.1
            omega
          have e : m_pl (f + 1) 8 (m_fails M (M 102 23)) = (m_fails M (M 102 23), 8) := by
            unfold m_pl
            rw [if_neg (fun q => e3 q.1)]
          rw [if_pos h8, e]
          unfold r_loop r_end
          dsimp only
          rw [if_neg (by rw [ha, h.1.1]; omega)]
          exact ⟨h_failat h, fun q => absurd q e3⟩
        · obtain ⟨r, rfl⟩ : ∃ j, r = j + 1 := ⟨r - 1, by omega⟩
          rw [if_neg h8]
          unfold r_loop
          rw [if_neg (by rw [ha, h.1.1]; omega), if_neg (by rw [h.2.2.2.1]; omega)]
          have h5 := h.wI (j := n) (v := t_next I) (Or.inl (rfl : 5 = 5))
          have hn5 := (h5.nx f0).trans (h.nx f0).symm
          obtain ⟨s1, s2⟩ := h_rst h5 f0 hp
          rw [hn5] at s2
          have sM := (m_rst_sd h.2.2.1 f0 hp).1.1
          have sI := (r_step_tf h5.2.1).1
          have hR : h_rd (r_one I n) (m_pw (m_rst M) n) := ((s1.wI (Or.inr rfl)).wM (Or.inl rfl)).wM (Or.inr rfl)
          refine h_rl r f (n + 1) _ _ hR (by omega) (by omega) (fun q => ?_)
          have q2 : (m_rst M 102 24).toInt = -1 := by
            unfold m_pw at q
            rw [wd_up_row _ _ _ (by omega), wd_up_row _ _ _ (by omega)] at q
            exact q
          obtain ⟨v1, v2⟩ := s2 q2
          intro i hi
          unfold r_one m_pw
          by_cases e : i = n
          · subst e
            rw [wd_up_self, wd_up_self, wd_up_row _ _ _ (show 121 ≠ 122 by decide), wd_up_self, wd_up_row _ _ _ (show 5 ≠ 6 by decide), sI 5 i (by omega), wd_up_self, v1, ab_tI (by have := @q_s_09 (t_next I).toInt; omega) (by have := @q_s_09 (t_next I).toInt; omega)]
            exact ⟨rfl, v2.symm⟩
          · obtain ⟨p1, p2⟩ := hs f0 i (by omega)
            rw [wd_up_ne (b := 5) _ _ (Or.inr e), sI 5 i (by omega), wd_up_ne (b := 5) _ _ (Or.inr e), wd_up_ne (b := 6) _ _ (Or.inr e), sI 6 i (by omega), wd_up_ne (b := 6) _ _ (Or.inr e), wd_up_ne (b := 121) _ _ (Or.inr e), wd_up_ne (b := 121) _ _ (Or.inr e), wd_up_ne (b := 122) _ _ (Or.inr e), wd_up_ne (b := 122) _ _ (Or.inr e), sM 121 (by decide), sM 122 (by decide)]
            exact ⟨p1, p2⟩
      · have e1 : m_pl (f + 1) n M = (M, n) := by
          unfold m_pl
          rw [if_neg (fun q => hp q.2)]
        have e2 : r_loop r I n = (I, n) := by
          cases r with
          | zero => rfl
          | succ r =>
            unfold r_loop
            rw [if_pos (by rw [ha, h.1.1]; omega)]
        have e3 : r_end I = I := by
          unfold r_end
          rw [if_pos (by rw [ha, h.1.1]; omega)]
        rw [e1, e2]
        dsimp only
        rw [e3]
        exact ⟨h, fun q => ⟨rfl, hs q⟩⟩
    · have e1 : m_pl (f + 1) n M = (M, n) := by
        unfold m_pl
        rw [if_neg (fun q => by have := q.1; omega)]
      have fI : 0 ≤ (I 1 3).toInt := by rw [h.2.2.2.1]; exact f0
      have e2 : r_loop r I n = (I, n) := by
        cases r with
        | zero => rfl
        | succ r =>
          unfold r_loop
          rw [if_pos fI, ite_self]
      rw [e1, e2]
      dsimp only
      rw [r_end_flt fI]
      exact ⟨h, fun q => by omega⟩
theorem h_who (h : h_tp I M) (hb : 0 ≤ (I 1 1).toInt ∧ (I 1 1).toInt ≤ 100) : h_rd (r_who I) (m_p1 M).1 ∧ (((m_p1 M).1 102 24).toInt = -1 → (m_p1 M).2 = r_len I ∧ h_st (r_len I) (r_who I) (m_p1 M).1) := by
  have e22 : m_p0 M 102 22 = M 102 22 := by unfold m_p0; rw [wd_up_ne _ _ (by omega), wd_up_ne _ _ (by omega)]
  have e23 : m_p0 M 102 23 = ab_ii 0 := by unfold m_p0; rw [wd_up_ne _ _ (by omega), wd_up_self]
  have e24 : m_p0 M 102 24 = ab_ii (-1) := by unfold m_p0; rw [wd_up_self]
  have f12 : r_new I 1 2 = ab_ii 0 := by unfold r_new; rw [wd_up_ne _ _ (by omega), wd_up_self]
  have f13 : r_new I 1 3 = ab_ii (-1) := by unfold r_new; rw [wd_up_self]
  have h0 : h_rd (r_new I) (m_p0 M) := by
    refine ⟨h.fr (fun j => ⟨?_, ?_⟩) ⟨e22, ?_⟩, r_new_tp hb, ?_, f13.trans e24.symm, Or.inl ⟨by rw [e24]; rfl, f12.trans e23.symm⟩⟩
    · unfold r_new; rw [wd_up_ne _ _ (by omega), wd_up_ne _ _ (by omega)]
    · unfold r_new; rw [wd_up_ne _ _ (by omega), wd_up_ne _ _ (by omega)]
    · unfold m_p0; rw [wd_up_row _ _ _ (by decide), wd_up_row _ _ _ (by decide)]
    · unfold m_tp
      rw [e22, e23, ← h.1]
      exact ⟨by decide, hb.1, hb.2⟩
  exact h_rl 8 102 0 (r_new I) (m_p0 M) h0 rfl (by omega) (fun _ i hi => absurd hi (Nat.not_lt_zero _))
end
