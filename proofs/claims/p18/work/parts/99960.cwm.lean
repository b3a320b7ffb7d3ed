/-! ===== both objects: undo, take, count, image, back, join alike (own text) ===== -/
section
variable {F : Nat → Int32 → Prop} {T : Nat → Prop} {I I' : wd_I} {P P' : wd_P} {M M' : wd_I} {g : Nat → ab_C} {k z n d : Nat} {Q : ab_Q}
theorem k_ok_undo (h : k_ok T I P g k) {s c b : Nat} (hs' : s < 12) (hc : s_ok T I P s (c + 1)) (hb : P (22 + 5 * s) c = some b) : k_ok T (wd_up I (18 + 5 * s) 1 (ab_ii (c : Int))) (wd_up P (18 + 5 * s) 2 (some b)) g k := by
  obtain ⟨b', hb', hTb⟩ := hc.2.2.2 c (by omega)
  rw [hb] at hb'
  cases hb'
  obtain ⟨h1, h2, h3, h4, h5, h6, h7⟩ := h
  refine ⟨h1, h2, by rw [wd_up_ne _ _ (by omega)]; exact h3, fun j hj => ?_, fun p hp => ?_, by rw [wd_up_ne _ _ (by omega)]; exact h6, fun q => ?_⟩
  · by_cases e : j = s
    · subst e
      refine ⟨c, wd_up_self _ _ _ _, by have := hc.2.1; omega, ⟨b, wd_up_self _ _ _ _, hTb⟩, fun i hi => ?_⟩
      rw [wd_up_ne _ _ (by omega)]
      exact hc.2.2.2 i (by omega)
    · obtain ⟨c2, hc2⟩ := h4 j hj
      exact ⟨c2, s_ok_eq hc2 (wd_up_ne _ _ (by omega)) (wd_up_ne _ _ (by omega)) (fun i => wd_up_ne _ _ (by omega))⟩
  · rw [wd_up_ne _ _ (by omega)]; exact h5 p hp
  · rw [wd_up_ne _ _ (by omega)] at q
    obtain ⟨q1, q2⟩ := h7 q
    exact ⟨fun p hp => by rw [wd_up_ne _ _ (by omega)]; exact q1 p hp, fun p hp => by rw [wd_up_ne _ _ (by omega)]; exact q2 p hp⟩
/-- rows of things the same -/
theorem m_ra_of {q : Nat} (h : ∀ a, 103 ≤ a → a ≤ 109 → M' a = M a) : m_ra M M' q := ⟨by rw [h 103 (by decide) (by decide)], by rw [h 104 (by decide) (by decide)], by rw [h 105 (by decide) (by decide)], by rw [h 106 (by decide) (by decide)], by rw [h 107 (by decide) (by decide)], fun j _ => ⟨by rw [h 108 (by decide) (by decide)], by rw [h 109 (by decide) (by decide)]⟩⟩
theorem v_s1.ok {s c : Nat} {n0 : Int} (h : v_s1 F I P M s c) (hk : h_k F T g M n0) : s_ok T I P s c := by
  obtain ⟨a1, a2, a3, ⟨a, a4, a5⟩, a6⟩ := h
  exact ⟨a1, a3, ⟨a, a4, (hk.in a5).1⟩, fun i hi => by obtain ⟨b, b1, b2⟩ := a6 i hi; exact ⟨b, b1, (hk.in b2).1⟩⟩
theorem hc_undo (hd : 3 ≤ d) (h : w_In F T I P M g k) (hr : k_rm (n + 1) I k z) {s : Int32} (hQ : w_res 177 3 [wd_v 102, .inl s] n M Q) : ab_CT d 111 [wd_v 0, .inl s] (wd I P M g, k, z) Q := by
  have hr0 : k_rm n I k z := hr.le (Int.le_refl _) (Nat.le_add_right _ _) (Nat.le_add_right _ _)
  by_cases hs : c_sh s
  · have hs2 := hs
    unfold c_sh at hs2
    have hs' : s.toInt.toNat < 12 := by omega
    obtain ⟨c, hc⟩ := h.2.2.2.2.2.1 s.toInt.toNat hs'
    have hok := hc.ok h.2.2.1
    refine y_undo hd (c := c) (fun q => absurd hs q) (fun _ => hc.1) hc.2.2.1 (fun _ e => ?_) (fun _ c' e => ?_)
    · subst e
      exact hQ _ F T _ _ _ _ _ (w_ref_bad h (fun d Q hd hq => x_undo_0 hd hs2.1 (by omega) hc.2.1 hq)) hr0
    · subst e
      obtain ⟨b, b1, b2⟩ := hc.2.2.2.2 c' (by omega)
      refine ⟨b, b1, hQ _ F T _ _ _ _ _ (fun d Q hd hq => ?_) (hr.le (by rw [wd_up_ne _ _ (by omega)]; exact Int.le_refl _) (Nat.le_add_right _ _) (Nat.le_add_right _ _))⟩
      have hc9 : c' ≤ 9 := by have := hc.2.2.1; omega
      have hm : M 112 s.toInt.toNat = ab_ii ((c' : Int) + 1) := hc.2.1
      refine x_undo hd hs2.1 (by omega) hm hc9 (hq _ ?_)
      obtain ⟨h1, h2, h3, h4, h5, h6, h7, h8⟩ := h
      have er : ∀ a, a ≠ 110 → a ≠ 112 → m_undo M s.toInt.toNat c' a = M a := fun a a1 a2 => by unfold m_undo; rw [wd_up_row _ _ _ a1, wd_up_row _ _ _ a2]
      have e102 := er 102 (by decide) (by decide)
      exact ⟨m_ok_undo h1 hs' hm hc9, k_ok_undo h2 hs' hok b1, h3.mv (fun _ q => q) (fun _ _ => h_sm.rf) (fun _ _ _ => m_ra_of (fun a a1 a2 => er a (by omega) (by omega))) (by rw [e102]; exact Int.le_refl _), h4.fr (fun j => ⟨(wd_up_ne _ _ (by omega)).symm, wd_up_ne _ _ (by omega)⟩) ⟨by rw [e102], er 120 (by decide) (by decide)⟩, by rw [wd_up_ne _ _ (by omega), e102]; exact h5, h6.un hs' hc b1, h7.mv (fun _ _ q => q) (wd_up_ne _ _ (by omega)) (fun i => wd_up_ne _ _ (by omega)) (er 116 (by decide) (by decide)), h8.fr h2 (.of (fun _ _ q => wd_up_ne _ _ (by omega)) c_ofr.rf (fun _ _ q => wd_up_ne _ _ (by omega))) ⟨fun a a1 a2 a3 => er a (by omega) (by omega), by rw [e102]⟩⟩
  · refine y_undo hd (c := 0) (fun _ => ?_) (fun q => absurd q hs) (by omega) (fun q => absurd q hs) (fun q => absurd q hs)
    exact hQ _ F T _ _ _ _ _ (w_ref_bad h (fun d Q hd hq => x_undo_b hd (by unfold c_sh at hs; omega) hq)) hr0
theorem hc_take (hd : 50 ≤ d) (h : w_In F T I P M g k) (hr : k_rm (n + 1) I k z) {s f p q : Int32} (hQ : w_res 176 25 [wd_v 102, .inl s, .inl f, .inl p, .inl q] n M Q) : ab_CT d 110 [wd_v 0, .inl s, .inl f, .inl p, .inl q] (wd I P M g, k, z) Q := by
  have hr0 : k_rm n I k z := hr.le (Int.le_refl _) (Nat.le_add_right _ _) (Nat.le_add_right _ _)
  obtain ⟨a, ha⟩ := h.sh f
  obtain ⟨b, hb⟩ := h.pa p
  obtain ⟨c, hc⟩ : ∃ c, c_sh s → v_s1 F I P M s.toInt.toNat c := by
    by_cases hs : c_sh s
    · obtain ⟨c, hc⟩ := h.2.2.2.2.2.1 s.toInt.toNat (by unfold c_sh at hs; omega)
      exact ⟨c, fun _ => hc⟩
    · exact ⟨0, fun q => absurd q hs⟩
  obtain ⟨c9, hc9⟩ : ∃ c9 : Nat, (c_sh s → c9 = c) ∧ c9 ≤ 10 := by
    by_cases hs : c_sh s
    · exact ⟨c, fun _ => rfl, (hc hs).2.2.1⟩
    · exact ⟨0, fun q => absurd q hs, by omega⟩
  have hpm : 0 ≤ s.toInt → s.toInt ≤ 11 → M 112 s.toInt.toNat = ab_ii (c9 : Int) := fun q1 q2 => by
    have hs : c_sh s := ⟨q1, by omega⟩
    rw [hc9.1 hs]
    exact (hc hs).2.1
  have hrf : k_rm n (f_fnd I P g b a).1 k z := hr.le (by rw [f_fnd_ne.1 _ _ (by omega)]; exact Int.le_refl _) (Nat.le_add_right _ _) (Nat.le_add_right _ _)
  have hx := fun (I' : wd_I) (P' : wd_P) (d : Nat) (Q : ab_Q) (hd : 25 ≤ d) => x_take (d := d) (I := I') (P := P') (M := M) (g := g) (k := k) (z := z) (c := c9) (s := s) (f := f) (p := p) (n := q) (Q := Q) hd h.1.lok hpm hc9.2
  have hall : (0 ≤ s.toInt ∧ s.toInt ≤ 11 ∧ 0 ≤ f.toInt ∧ f.toInt ≤ 11 ∧ 0 ≤ p.toInt ∧ p.toInt ≤ 7) ↔ (c_sh s ∧ c_sh f ∧ c_pp p) := by unfold c_sh c_pp; omega
  have hm1 : (ab_ii (-1)).toInt = -1 := rfl
  refine y_take hd h.2.1.1 (fun e => ?_) (fun e => (hc e).ok h.2.2.1) (fun e => (ha e).1) (fun e => (hb e).1) (fun e e2 => ?_) (fun e e2 e3 => ?_)
  · exact hQ _ F T _ _ _ _ _ (w_ref_bad h (fun d Q hd hq => hx I P d Q hd (fun _ => hq) (fun q => absurd (hall.mp q) e) (fun q => absurd (hall.mp q) e))) hr0
  · have hf := (w_foc h e.2.1 e.2.2 (ha e.2.1).2 (hb e.2.2).2).2 e2
    exact hQ _ F T _ _ _ _ _ (fun d Q hd hq => hx _ _ d Q hd (fun q => absurd (hall.mpr e) q) (fun _ _ M' hE => hq M' (h.fnd.eqv hE)) (fun _ q => absurd (by rw [hf]; exact hm1) q)) hrf
  · have hf := (w_foc h e.2.1 e.2.2 (ha e.2.1).2 (hb e.2.2).2).1 e2 e3
    have hcs := hc e.1
    have ec := hc9.1 e.1
    subst ec
    have hs9 : s.toInt.toNat < 12 := by have := e.1; unfold c_sh at this; omega
    have hb0 := h.2.2.1.in hf
    refine hQ _ F T _ _ _ _ _ (fun d Q hd hq => ?_) (hr.le (by rw [s_becI_ne (by omega), f_fnd_ne.1 _ _ (by omega)]; exact Int.le_refl _) (Nat.le_add_right _ _) (Nat.le_add_right _ _))
    refine hx _ _ d Q hd (fun q => absurd (hall.mpr e) q) (fun _ q => by exfalso; omega) (fun _ _ M' hE => ?_)
    rw [← (h.2.2.1.1.p hf).2.2.1]
    refine hq _ ?_
    obtain ⟨h1, h2, h3, h4, h5, h6, h7, h8⟩ := (h.fnd (p := b) (a := a)).eqv hE
    obtain ⟨c', hc'⟩ := h6 s.toInt.toNat hs9
    have ec' : c' = c9 := by
      have e1 := hc'.1
      have e4 := hcs.1
      rw [f_fnd_ne.1 _ _ (by omega), e4] at e1
      have e5 := congrArg Int32.toInt e1
      have b1 := hc'.2.2.1
      rw [ab_tI (by omega) (by omega), ab_tI (by omega) (by omega)] at e5
      omega
    subst ec'
    have er : ∀ x, x ≠ 110 → x ≠ 111 → x ≠ 112 → m_becomes M' s.toInt.toNat (m_foc M f p q) c' x = M' x := fun x x1 x2 x3 => m_becomes_row x1 x2 x3
    have e102 := er 102 (by decide) (by decide) (by decide)
    have hTx := (h3.in (show F ((c_fs41 g b a).getD q.toInt.toNat 0) (m_foc M f p q) from hf)).1
    exact ⟨m_ok_bec h1 hs9 hc'.2.1 hc'.2.2.1 (by rw [hE.2.1]; exact hb0.2), h2.bec hs9 (hc'.ok h3) hTx, h3.mv (fun _ q => q) (fun _ _ => h_sm.rf) (fun _ _ _ => m_ra_of (fun a a1 a2 => er a (by omega) (by omega) (by omega))) (by rw [e102]; exact Int.le_refl _), h4.fr (fun j => ⟨(s_becI_ne (by omega)).symm, s_becI_ne (by omega)⟩) ⟨by rw [e102], er 120 (by decide) (by decide) (by decide)⟩, by rw [s_becI_ne (by omega), e102]; exact h5, h6.bec hs9 hc' hf, h7.mv (fun _ _ q => q) (s_becI_ne (by omega)) (fun i => s_becP_ne (by omega) (by omega)) (er 116 (by decide) (by decide) (by decide)), h8.fr h2 (.of (fun _ _ q => s_becI_fp q) c_ofr.rf (fun _ _ q => s_becP_fp q)) (r_fp.rf.bec)⟩
theorem hc_count (hd : 3 ≤ d) (h : w_In F T I P M g k) (hr : k_rm (n + 1) I k z) {w : Int32} (hQ : w_res 197 2 [wd_v 102, .inl w] n M Q) : ab_CT d 122 [wd_v 0, .inl w] (wd I P M g, k, z) Q := by
  have hr0 : k_rm n I k z := hr.le (Int.le_refl _) (Nat.le_add_right _ _) (Nat.le_add_right _ _)
  have hgo : ∀ r : Int32, (∀ (d : Nat) (Q : ab_Q), 2 ≤ d → Q (some (.inl r)) (wd I P M g, k, z) → ab_CT d 197 [wd_v 102, .inl w] (wd I P M g, k, z) Q) → Q (some (.inl r)) (wd I P M g, k, z) := fun r hx => hQ _ F T _ _ _ _ _ (w_ref_bad h hx) hr0
  refine y_count hd (fun e => hgo _ (fun d Q hd hq => ?_)) (fun e1 e2 => hgo _ (fun d Q hd hq => ?_)) (fun e1 e2 => ?_) (fun e => hgo _ (fun d Q hd hq => ?_)) (fun e => hgo _ (fun d Q hd hq => ?_))
  · exact x_count hd (fun q => by exfalso; omega) (fun q => by exfalso; omega) (fun q1 q2 => by exfalso; omega) (fun q1 q2 => by exfalso; omega) (fun _ => hq)
  · obtain ⟨c, hc⟩ := h.2.2.2.2.2.1 w.toInt.toNat (by omega)
    rw [hc.1] at hq
    exact x_count hd (fun q => by exfalso; omega) (fun q => by exfalso; omega) (fun q1 q2 => by rw [hc.2.1]; exact hq) (fun q1 q2 => by exfalso; omega) (fun q => by exfalso; omega)
  · obtain ⟨b, b1, b2⟩ := h.2.2.2.2.2.2.2.1 (w.toInt - 12).toNat (by omega)
    obtain ⟨b', b1', b2'⟩ := h.2.1.2.2.2.2.1 (w.toInt - 12).toNat (by omega)
    rw [b1] at b1'
    cases b1'
    refine ⟨b, b1, b2', hgo _ (fun d Q hd hq => ?_)⟩
    have e : M 115 (w.toInt - 12).toNat = ab_ii (p_n g b : Int) := by rw [b2.1]; exact (ab_ii_toInt _).symm
    exact x_count hd (fun q => by exfalso; omega) (fun q => by exfalso; omega) (fun q1 q2 => by exfalso; omega) (fun q1 q2 => by rw [e]; exact hq) (fun q => by exfalso; omega)
  · rw [h.2.2.2.1.1] at hq
    exact x_count hd (fun _ => hq) (fun q => by exfalso; omega) (fun q1 q2 => by exfalso; omega) (fun q1 q2 => by exfalso; omega) (fun q => by exfalso; omega)
  · rw [h.2.2.2.2.1] at hq
    exact x_count hd (fun q => by exfalso; omega) (fun _ => hq) (fun q1 q2 => by exfalso; omega) (fun q1 q2 => by exfalso; omega) (fun q => by exfalso; omega)
end
