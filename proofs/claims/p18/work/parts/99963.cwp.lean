/-! ===== both objects: path alike (own text) ===== -/
section
variable {F : Nat → Int32 → Prop} {T : Nat → Prop} {I I' : wd_I} {P P' : wd_P} {M M' : wd_I} {g : Nat → ab_C} {k z n d : Nat} {Q : ab_Q}
theorem v_p2_n (hb : 0 ≤ (M 102 22).toInt ∧ (M 102 22).toInt ≤ 100) {j : Nat} (j1 : j ≠ 22) (j2 : j ≠ 23) (j3 : j ≠ 24) (j4 : j ≠ 26) (j5 : j ≠ 27) : m_p2 M 102 j = M 102 j := by
  have ht : m_tp (m_p0 M) := by
    have e1 : m_p0 M 102 23 = ab_ii 0 := by unfold m_p0; rw [wd_up_ne _ _ (by omega), wd_up_self]
    have e3 : m_p0 M 102 22 = M 102 22 := by unfold m_p0; rw [wd_up_ne _ _ (by omega), wd_up_ne _ _ (by omega)]
    unfold m_tp
    rw [e1, e3]
    exact ⟨by decide, hb.1, hb.2⟩
  obtain ⟨g1, g2, -⟩ := (m_pl_pg 102 0 (m_p0 M) ht (by omega)).1
  unfold m_p2
  rw [wd_up_ne _ _ (Or.inr j1)]
  show (m_pl 102 0 (m_p0 M)).1 102 j = _
  rw [g2 j j2 j3 j4 j5]
  unfold m_p0
  rw [wd_up_ne _ _ (Or.inr j3), wd_up_ne _ _ (Or.inr j2)]
theorem v_p3_r {p : Nat} {a : Nat} (a1 : a ≠ 113) (a2 : a ≠ 114) (a3 : a ≠ 115) : m_p3 M p a = m_p2 M a := by
  unfold m_p3
  rw [wd_up_row _ _ _ a3, m_pcp_row a1 a2]
theorem hc_path (hd : 8 ≤ d) (h : w_In F T I P M g k) (hr : k_rm (n + 1) I k z) {p : Int32} (hQ : w_res 159 6 [wd_v 102, .inl p] n M Q) : ab_CT d 106 [wd_v 0, .inl p] (wd I P M g, k, z) Q := by
  have hr0 : k_rm n I k z := hr.le (Int.le_refl _) (Nat.le_add_right _ _) (Nat.le_add_right _ _)
  have hrb := hr.b h.2.1.2.2.1.2
  have htp := h.2.1.tp
  have ht := h.2.2.2.1
  have hb2 : 0 ≤ (M 102 22).toInt ∧ (M 102 22).toInt ≤ 100 := by rw [← ht.1]; exact htp
  obtain ⟨w1, w2⟩ := r_who_pf htp
  obtain ⟨v1, v2⟩ := h_who ht htp
  have h8 : r_len I ≤ 8 := by have := r_loop_le 8 (r_new I) 0; unfold r_len; omega
  obtain ⟨r1, r2⟩ := m_p2_r hb2
  have rn := fun j => v_p2_n (j := j) hb2
  have hJ : ∀ a j, a ≠ 5 → a ≠ 6 → a ≠ 1 → wd_up (r_who I) 1 1 (ab_ii 0) a j = I a j := fun a j q1 q2 q3 => (wd_up_ne _ _ (Or.inl q3)).trans (w1 a j q1 q2 (fun e => q3 e.1))
  have e1 : wd_up (r_who I) 1 1 (ab_ii 0) 1 1 = ab_ii 0 := wd_up_self _ _ _ _
  have hr1 : ∀ k' z', k' ≤ k + 700 → z' ≤ z + 7000 → k_rm n (wd_up (r_who I) 1 1 (ab_ii 0)) k' z' := fun k' z' q1 q2 => hr.le (by rw [hJ 9 0 (by omega) (by omega) (by omega)]; exact Int.le_refl _) q1 q2
  have htp0 : ∀ M', M' 102 22 = ab_ii 0 → h_tp (wd_up (r_who I) 1 1 (ab_ii 0)) M' := fun M' e => ⟨e1.trans e.symm, v_tb_0 e⟩
  have h24 : m_p2 M 102 24 = (m_p1 M).1 102 24 := by unfold m_p2; exact wd_up_ne _ _ (Or.inr (by decide))
  refine y_path hd h.2.1.2.1 htp ⟨by omega, by omega⟩ (fun e => ?_) (fun e e2 => ?_) (fun e e2 => ?_)
  · exact hQ _ F T _ _ _ _ _ (w_ref_bad h (fun d Q hd hq => x_pathS hd ht htp (fun _ => hq) (fun q => absurd q e) (fun q => absurd q e))) hr0
  · refine hQ _ F T _ _ _ _ _ (fun d Q hd hq => x_pathS hd ht htp (fun q => absurd e q) (fun _ _ => hq _ ?_) (fun _ q => by exfalso; omega)) (hr1 _ _ (by omega) (by omega))
    obtain ⟨h1, h2, h3, h4, h5, h6, h7, h8'⟩ := h
    exact ⟨(m_ok_p2 h1).1, h2.fr h2.1 (fun _ q => q) c_ofr.rf (Nat.le_refl _) (k_sm_of (fun a j q => hJ a j (by omega) (by omega) (by omega)) (fun _ _ _ => rfl)) (by rw [hJ 9 0 (by omega) (by omega) (by omega)]; exact h2.2.2.1) ⟨0, e1, by omega⟩, h3.mv (fun _ q => q) (fun _ _ => h_sm.rf) (fun _ _ _ => m_ra_of (fun x x1 x2 => r1 x (by omega) (by omega) (by omega))) (by rw [rn 8 (by decide) (by decide) (by decide) (by decide) (by decide)]; exact Int.le_refl _), htp0 _ (m_ok_p2 h1).2.2, by rw [hJ 9 0 (by omega) (by omega) (by omega), rn 9 (by decide) (by decide) (by decide) (by decide) (by decide)]; exact h5, h6.mv (fun _ _ q => q) (fun s hs => ⟨hJ _ _ (by omega) (by omega) (by omega), rfl, fun _ => rfl⟩) (fun x x1 x2 => r1 x (by omega) (by omega) (by omega)), h7.mv (fun _ _ q => q) (hJ 0 11 (by omega) (by omega) (by omega)) (fun _ => rfl) (r1 116 (by decide) (by decide) (by decide)), h8'.ptf h2 hb2 (hJ 0 11 (by omega) (by omega) (by omega))⟩
  · have hp8 : p.toInt.toNat < 8 := by unfold c_pp at e; omega
    refine hQ _ F T _ _ _ _ _ (fun d Q hd hq => x_pathS hd ht htp (fun q => absurd e q) (fun _ q => by exfalso; omega) (fun _ _ => hq _ ?_)) (hr1 _ _ (by omega) (by omega))
    obtain ⟨h1, h2, h3, h4, h5, h6, h7, h8'⟩ := h
    have hp3 := m_ok_p3 h1 (p := p.toInt.toNat) hp8
    have hu : (m_p2 M 102 24).toInt = -1 := by
      rw [h24]
      have e3 := v1.2.2.2.1
      rcases v1.f0 with q | q
      · exact q
      · rw [← e3] at q; omega
    have er : ∀ x, x ≠ 102 → x ≠ 113 → x ≠ 114 → x ≠ 115 → x ≠ 121 → x ≠ 122 → m_p3 M p.toInt.toNat x = M x := fun x x0 x1 x2 x3 x4 x5 => (v_p3_r x1 x2 x3).trans (r1 x x0 x4 x5)
    have en : ∀ j, j ≠ 22 → j ≠ 23 → j ≠ 24 → j ≠ 26 → j ≠ 27 → m_p3 M p.toInt.toNat 102 j = M 102 j := fun j j1 j2 j3 j4 j5 => by rw [v_p3_r (by decide) (by decide) (by decide)]; exact rn j j1 j2 j3 j4 j5
    exact ⟨hp3.1, h2.pset c_mkr_of (by omega) (c_mkr_wf h2.2.1 h8).1 (fun a j q => hJ a j (by omega) (by omega) (by omega)) ⟨0, e1, by omega⟩, h3.mv (fun _ q => q) (fun x hx => h_sm_wf (c_wf_xt (k' := k + 1 + 1 + 1) (h2.1 x hx) c_mkr_of (by omega))) (fun _ _ _ => m_ra_of (fun x x1 x2 => er x (by omega) (by omega) (by omega) (by omega) (by omega) (by omega))) (by rw [en 8 (by decide) (by decide) (by decide) (by decide) (by decide)]; exact Int.le_refl _), htp0 _ hp3.2, by rw [hJ 9 0 (by omega) (by omega) (by omega), en 9 (by decide) (by decide) (by decide) (by decide) (by decide)]; exact h5, h6.mv (fun _ _ q => q) (fun s hs => ⟨hJ _ _ (by omega) (by omega) (by omega), wd_up_ne _ _ (by omega), fun _ => wd_up_ne _ _ (by omega)⟩) (fun x x1 x2 => er x (by omega) (by omega) (by omega) (by omega) (by omega) (by omega)), h7.mv (fun _ _ q => q) (hJ 0 11 (by omega) (by omega) (by omega)) (fun _ => wd_up_ne _ _ (by omega)) (er 116 (by decide) (by decide) (by decide) (by decide) (by decide) (by decide)), h8'.pth h2 ht htp hp8 hu (hJ 0 11 (by omega) (by omega) (by omega))⟩
end
