/-! ===== both objects: image, back, join alike (own text) ===== -/
section
variable {F : Nat → Int32 → Prop} {T : Nat → Prop} {I I' : wd_I} {P P' : wd_P} {M M' : wd_I} {g : Nat → ab_C} {k z n d : Nat} {Q : ab_Q}
theorem h_an {n0 : Int} (h : v_sh F I P M) (hk : h_k F T g M n0) : ∀ j, j ≤ 12 → c_an g P j = m_alln M j
  | 0, _ => rfl
  | j + 1, hj => by
    obtain ⟨c, -, -, -, ⟨a, a1, a2⟩, -⟩ := h j (by omega)
    unfold c_an m_alln
    rw [h_an h hk j (by omega), a1, show (some a).getD 0 = a from rfl, (hk.1.p a2).2.2.1]
theorem k_ok_image (h : k_ok T I P g k) : k_ok T (c_imI I) (c_imP P) g k := by
  have hsh := h.shT
  obtain ⟨h1, h2, h3, h4, h5, h6, h7⟩ := h
  unfold c_imI
  refine ⟨h1, h2, by rw [wd_up_ne _ _ (by omega)]; exact h3, fun j hj => ?_, fun p hp => ?_, by rw [wd_up_ne _ _ (by omega)]; exact h6, fun _ => ⟨fun j hj => ?_, fun p hp => ?_⟩⟩
  · obtain ⟨c, hc⟩ := h4 j hj
    exact ⟨c, s_ok_eq hc (wd_up_ne _ _ (by omega)) (c_imP_sh hj) (fun i => by unfold c_imP; rw [c_iP_ne (by omega), c_iT_ne (by omega)])⟩
  · unfold c_imP; rw [c_iP_ne (by omega), c_iT_ne (by omega)]; exact h5 p hp
  · unfold c_imP; rw [c_iP_ne (by omega), c_iT_at 12 hj]; exact hsh j hj
  · unfold c_imP; rw [c_iP_at 8 hp, c_iT_ne (by omega)]; exact h5 p hp
theorem k_ok_back (h : k_ok T I P g k) (q : ¬ (I 0 11).toInt = 0) : k_ok T (c_bI I 12) (c_baP P) g k := by
  obtain ⟨h1, h2, h3, h4, h5, h6, h7⟩ := h
  obtain ⟨q1, q2⟩ := h7 q
  refine ⟨h1, h2, by rw [c_bI_ne (fun j hj => by omega) 12 (by omega)]; exact h3, fun j hj => ⟨0, c_bI_at 12 hj, by omega, ?_, fun i hi => absurd hi (Nat.not_lt_zero _)⟩, fun p hp => ?_, by rw [c_bI_ne (fun j hj => by omega) 12 (by omega)]; exact h6, fun _ => ⟨fun j hj => ?_, fun p hp => ?_⟩⟩
  · rw [c_baP_sh hj]; exact q1 j hj
  · unfold c_baP; rw [c_bP_at 8 hp, c_bT_ne (fun j hj => by omega) 12 (by omega)]; exact q2 p hp
  · unfold c_baP; rw [c_bP_ne (by omega), c_bT_ne (fun j hj => by omega) 12 (by omega)]; exact q1 j hj
  · unfold c_baP; rw [c_bP_ne (by omega), c_bT_ne (fun j hj => by omega) 12 (by omega)]; exact q2 p hp
theorem w_In.im (h : w_In F T I P M g k) : w_In F T (c_imI I) (c_imP P) (m_image M) g k := by
  obtain ⟨h1, h2, h3, h4, h5, h6, h7, h8⟩ := h
  have er : ∀ a, a ≠ 102 → a ≠ 116 → a ≠ 117 → a ≠ 118 → a ≠ 119 → m_image M a = M a := fun a a1 a2 a3 a4 a5 => by
    funext j
    unfold m_image
    rw [wd_up_row _ _ _ a1, m_cp_ne a5, m_cq_ne ⟨a3, a4⟩, m_cp_ne a2]
  have en : ∀ j, j ≠ 20 → m_image M 102 j = M 102 j := fun j hj => by
    unfold m_image
    rw [wd_up_ne _ _ (Or.inr hj), m_cp_ne (by decide), m_cq_ne ⟨by decide, by decide⟩, m_cp_ne (by decide)]
  obtain ⟨s1, s2⟩ := v_im h6
  exact ⟨(m_ok_image h1).1, k_ok_image h2, h3.mv (fun _ q => q) (fun _ _ => h_sm.rf) (fun _ _ _ => m_ra_of (fun a a1 a2 => er a (by omega) (by omega) (by omega) (by omega) (by omega))) (by rw [en 8 (by decide)]; exact Int.le_refl _), h4.fr (fun j => ⟨(wd_up_ne _ _ (by omega)).symm, wd_up_ne _ _ (by omega)⟩) ⟨en 22 (by decide), er 120 (by decide) (by decide) (by decide) (by decide) (by decide)⟩, by rw [en 9 (by decide), ← h5]; exact wd_up_ne _ _ (by omega), s1, s2, h8.im h2⟩
theorem w_In.bk (h : w_In F T I P M g k) (q : ¬ (I 0 11).toInt = 0) : w_In F T (c_bI I 12) (c_baP P) (m_back M) g k := by
  obtain ⟨h1, h2, h3, h4, h5, h6, h7, h8⟩ := h
  have q2 : ¬ (M 102 20).toInt = 0 := fun e => q (h8.2.1.mpr e)
  have er : ∀ a, a ≠ 110 → a ≠ 112 → a ≠ 113 → a ≠ 114 → a ≠ 115 → m_back M a = M a := fun a a1 a2 a3 a4 a5 => by
    funext j
    unfold m_back
    rw [m_cp_ne a5, m_cq_ne ⟨a3, a4⟩, m_cz_ne ⟨a1, a2⟩]
  have e102 := er 102 (by decide) (by decide) (by decide) (by decide) (by decide)
  have eI : ∀ a j, (∀ i, i < 12 → a ≠ 18 + 5 * i) → c_bI I 12 a j = I a j := fun a j ha => by rw [c_bI_ne ha 12 (by omega)]
  obtain ⟨s1, s2⟩ := v_bk h7 q
  exact ⟨(m_ok_back h1 q2).1, k_ok_back h2 q, h3.mv (fun _ q => q) (fun _ _ => h_sm.rf) (fun _ _ _ => m_ra_of (fun a a1 a2 => er a (by omega) (by omega) (by omega) (by omega) (by omega))) (by rw [e102]; exact Int.le_refl _), h4.fr (fun j => ⟨(eI 1 1 (fun i _ => by omega)).symm, eI 2 j (fun i _ => by omega)⟩) ⟨by rw [e102], er 120 (by decide) (by decide) (by decide) (by decide) (by decide)⟩, by rw [e102, ← h5]; exact eI 9 0 (fun i _ => by omega), s1, s2, h8.bk h2 q⟩
theorem hc_image (hd : 5 ≤ d) (h : w_In F T I P M g k) (hr : k_rm (n + 1) I k z) (hQ : w_res 195 2 [wd_v 102] n M Q) : ab_CT d 120 [wd_v 0] (wd I P M g, k, z) Q := by
  have h' := h.im
  refine y_image hd h.2.1.1 h.2.1.shT h.2.1.2.2.2.2.1 (hQ _ F T _ _ _ _ _ (fun d Q hd hq => x_image hd (m_ok_sh3 h.1) ?_) (hr.le (by unfold c_imI; rw [wd_up_ne _ _ (by omega)]; exact Int.le_refl _) (Nat.le_add_right _ _) (Nat.le_add_right _ _)))
  rw [← h_an h'.2.2.2.2.2.1 h'.2.2.1 12 (Nat.le_refl _)]
  exact hq _ h'
theorem hc_back (hd : 5 ≤ d) (h : w_In F T I P M g k) (hr : k_rm (n + 1) I k z) (hQ : w_res 196 2 [wd_v 102] n M Q) : ab_CT d 121 [wd_v 0] (wd I P M g, k, z) Q := by
  have hr0 : k_rm n I k z := hr.le (Int.le_refl _) (Nat.le_add_right _ _) (Nat.le_add_right _ _)
  have hfl := h.2.2.2.2.2.2.2.2.1
  refine y_back hd h.2.1.1 (fun q => ?_) (fun q => h.2.1.2.2.2.2.2.2 q) (fun q => ?_)
  · refine hQ _ F T _ _ _ _ _ (w_ref_bad h (fun d Q hd hq => ?_)) hr0
    exact x_back hd (fun _ => hq) (fun e => absurd (hfl.mp q) e) (fun e => absurd (hfl.mp q) e)
  · have h' := h.bk q
    have q2 : ¬ (M 102 20).toInt = 0 := fun e => q (hfl.mpr e)
    refine hQ _ F T _ _ _ _ _ (fun d Q hd hq => x_back hd (fun e => absurd e q2) (fun e => m_ok_sh3 (m_ok_back h.1 e).1) (fun e => ?_)) (hr.le (by rw [c_bI_ne (fun j hj => by omega) 12 (by omega)]; exact Int.le_refl _) (Nat.le_add_right _ _) (Nat.le_add_right _ _))
    rw [← h_an h'.2.2.2.2.2.1 h'.2.2.1 12 (Nat.le_refl _)]
    exact hq _ h'
end
