/-! ===== both objects: thing answers alike (own text) ===== -/
section
variable {F : Nat → Int32 → Prop} {T : Nat → Prop} {I : wd_I} {P : wd_P} {M : wd_I} {g : Nat → ab_C} {k z n d : Nat} {Q : ab_Q}
theorem hc_thing (hd : 60 ≤ d) (h : w_In F T I P M g k) (hr : k_rm (n + 1) I k z) {s : Int32} (hQ : w_res 157 46 [wd_v 102, .inl s] n M Q) : ab_CT d 105 [wd_v 0, .inl s] (wd I P M g, k, z) Q := by
  have hr0 : k_rm n I k z := hr.le (Int.le_refl _) (Nat.le_add_right _ _) (Nat.le_add_right _ _)
  have hrb := hr.b h.2.1.2.2.1.2
  have hk9 := h.hk9
  have hb := m_ok_b h.1
  have htp := h.2.1.tp
  have htm : 0 ≤ (M 102 22).toInt ∧ (M 102 22).toInt ≤ 100 := by rw [← h.2.2.2.1.1]; exact htp
  have esh : c_sh s ↔ m_sh s := by unfold c_sh m_sh; omega
  obtain ⟨e1, e2, e3, e4⟩ := h_Rd (z := z) h.2.2.2.1 htp h.2.1.1 h.2.1.2.1 hk9.1 hk9.2 h.2.2.1
  obtain ⟨T0, w0, b1, b2⟩ := w_thn (z := z) h
  obtain ⟨-, -, -, g3, -⟩ := r_R_gd (z := z) h.2.1.1 h.2.1.2.1 htp
  have hJ9 : r_RJ (I, g, k, z) 9 0 = I 9 0 := (wd_up_ne _ _ (by omega)).trans (g3 9 0 (by omega))
  have hrJ : k_rm n (r_RJ (I, g, k, z)) (r_R (I, g, k, z)).2.2.2.1 (r_R (I, g, k, z)).2.2.2.2 := hr.le (by rw [hJ9]; exact Int.le_refl _) (by omega) (by omega)
  obtain ⟨c, hc⟩ : ∃ c, c_sh s → v_s1 F I P M s.toInt.toNat c := by
    by_cases hs : c_sh s
    · obtain ⟨c, hc⟩ := h.2.2.2.2.2.1 s.toInt.toNat (by unfold c_sh at hs; omega)
      exact ⟨c, fun _ => hc⟩
    · exact ⟨0, fun q => absurd q hs⟩
  have hun : (r_RI (I, g, k, z) 1 3).toInt < 0 → (m_th2 M 102 24).toInt = -1 := fun q => by
    rw [e1] at q
    rcases e2 with e | e
    · exact e
    · omega
  have hnd : ∀ a, (r_R (I, g, k, z)).1 = some a → (m_th2 M 102 24).toInt = -1 → c_i (r_R (I, g, k, z)).2.2.1 a 2 = m_th2 M 106 (m_th1 M).2.toInt.toNat ∧ (m_th3 M).toInt = (I 9 0).toInt + (c_i (r_R (I, g, k, z)).2.2.1 a 2).toInt ∧ 1 ≤ (c_i (r_R (I, g, k, z)).2.2.1 a 2).toInt ∧ (c_i (r_R (I, g, k, z)).2.2.1 a 2).toInt ≤ 101 := fun a ha hu => by
    obtain ⟨T', F', a', s1, s2, s3, s4, s5, s6⟩ := e4 hu
    rw [ha] at s1
    cases s1
    have ei := (s5.1.p s6).2.2.1
    obtain ⟨t1, t2, t3, t4, t5, t6, t7⟩ := m_th_T h.1.1 hk9.1 hb.2.1 htm hu
    have e9 : m_th2 M 102 9 = I 9 0 := by
      have q := w0.2.2.2.2.1
      rw [hJ9] at q
      rw [q]
      unfold m_rs
      exact (wd_up_ne _ _ (Or.inr (by decide))).symm
    have h9 := h.2.1.2.2.1
    rw [ei]
    refine ⟨rfl, ?_, t4.1, t4.2⟩
    unfold m_th3
    rw [e9, ab_tI (by omega) (by omega)]
    omega
  refine y_thing hd h.2.1.1 h.2.1.2.1 htp h.2.1.2.2.1 ⟨by omega, by omega⟩ (fun q => (hc q).ok h.2.2.1) (fun q => ?_) (fun q q2 => ?_) (fun q a ha hu => ?_) (fun q a ha hu hlt => ?_) (fun q a ha hu hle => ?_)
  · exact hQ _ F T _ _ _ _ _ (w_ref_bad h (fun d Q hd hq => x_thing_b hd (fun e => q (esh.mpr e)) hq)) hr0
  · have hf : ¬ (m_th2 M 102 24).toInt = -1 := fun e => by
      rcases q2 with q2 | q2
      · rw [e1, e] at q2; omega
      · obtain ⟨T', F', a', s1, -⟩ := e4 e
        rw [q2] at s1
        cases s1
    refine hQ _ F T0 _ _ _ _ _ (fun d Q hd hq => x_thing hd hk9.1 hk9.2 htm (hc q).2.1 (hc q).2.2.1 (fun e => absurd (esh.mp q) e) (fun _ _ => ?_) (fun _ e => absurd e hf) (fun _ e => absurd e hf)) hrJ
    rw [← e1]
    exact hq _ w0
  · have := hnd a ha (hun hu)
    omega
  · have hu' := hun hu
    have hn := hnd a ha hu'
    exact hQ _ F T0 _ _ _ _ _ (fun d Q hd hq => x_thing hd hk9.1 hk9.2 htm (hc q).2.1 (hc q).2.2.1 (fun e => absurd (esh.mp q) e) (fun _ e => absurd hu' e) (fun _ _ _ => hq _ w0) (fun _ _ e => by exfalso; omega)) hrJ
  · have hu' := hun hu
    have hn := hnd a ha hu'
    have h9 := h.2.1.2.2.1
    obtain ⟨T', F', a', s1, s2, s3, s4, s5, s6⟩ := e4 hu'
    rw [ha] at s1
    cases s1
    have hs9 : s.toInt.toNat < 12 := by unfold c_sh at q; omega
    have ev : ab_ii ((I 9 0).toInt + (c_i (r_R (I, g, k, z)).2.2.1 a 2).toInt) = m_th3 M := by rw [← hn.2.1]; exact ab_ii_toInt _
    have hw := w_thy (z := z) h hu' hs9 (hc q) s2 s3 s5 s6 ev (by omega)
    refine hQ _ F' T' _ _ _ _ _ (fun d Q hd hq => x_thing hd hk9.1 hk9.2 htm (hc q).2.1 (hc q).2.2.1 (fun e => absurd (esh.mp q) e) (fun _ e => absurd hu' e) (fun _ _ e => by exfalso; omega) (fun _ _ _ => ?_)) (hr.le ?_ (by dsimp only; omega) (by dsimp only; omega))
    · rw [← hn.1]
      exact hq _ hw
    · dsimp only
      rw [s_becI_ne (by omega), wd_up_self, ab_tI (by omega) (by omega)]
      omega
end
