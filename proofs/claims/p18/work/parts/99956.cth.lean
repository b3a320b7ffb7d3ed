/-! ===== both objects: a whole THING read (own text) ===== -/
section
variable {F : Nat → Int32 → Prop} {T : Nat → Prop} {I J : wd_I} {M N : wd_I} {g : Nat → ab_C} {k z : Nat}
theorem h_rend (h : h_rd J N) : h_rd (r_end J) (m_thf N) := by
  rcases h.f0 with f0 | f0
  · have ha := h.at f0
    unfold r_end m_thf
    by_cases c : (N 102 23).toInt < (N 102 22).toInt
    · rw [if_neg (by rw [ha, h.1.1]; omega), if_pos ⟨f0, c⟩]
      exact h_failat h
    · rw [if_pos (by rw [ha, h.1.1]; omega), if_neg (fun q => c q.2)]
      exact h
  · have fJ : 0 ≤ (J 1 3).toInt := by rw [h.2.2.2.1]; exact f0
    rw [r_end_flt fJ]
    unfold m_thf
    rw [if_neg (fun q => by have := q.1; omega)]
    exact h
theorem h_Rd (h : h_tp I M) (hb : 0 ≤ (I 1 1).toInt ∧ (I 1 1).toInt ≤ 100) (hW : c_W T g k) (h125 : 125 ≤ k) (h1 : 1 ≤ (M 102 8).toInt) (h2 : (M 102 8).toInt ≤ 3012) (hk : h_k F T g M (M 102 8).toInt) : r_RI (I, g, k, z) 1 3 = m_th2 M 102 24 ∧ ((m_th2 M 102 24).toInt = -1 ∨ 0 ≤ (m_th2 M 102 24).toInt) ∧ (¬ (m_th2 M 102 24).toInt = -1 → 0 ≤ (r_RI (I, g, k, z) 1 3).toInt) ∧ ((m_th2 M 102 24).toInt = -1 → ∃ (T' : Nat → Prop) (F' : Nat → Int32 → Prop) (a : Nat), (r_R (I, g, k, z)).1 = some a ∧ c_hs T (I, g, k, z) T' (r_R (I, g, k, z)).2 ∧ (∀ b u, F b u → F' b u) ∧ (∀ b u, F' b u → F b u ∨ (M 102 8).toInt ≤ u.toInt) ∧ h_k F' T' (r_R (I, g, k, z)).2.2.1 (m_th2 M) (m_th2 M 102 8).toInt ∧ F' a (m_th1 M).2) := by
  have htp : 0 ≤ (M 102 22).toInt ∧ (M 102 22).toInt ≤ 100 := by rw [← h.1]; exact hb
  have e22 : m_th0 M 102 22 = M 102 22 := m_th0_n ⟨by decide, by decide, by decide⟩
  have e8 : m_th0 M 102 8 = M 102 8 := m_th0_n ⟨by decide, by decide, by decide⟩
  have e23 : m_th0 M 102 23 = ab_ii 0 := by unfold m_th0; rw [wd_up_ne _ _ (by omega), wd_up_ne _ _ (by omega), wd_up_self]
  have e24 : m_th0 M 102 24 = ab_ii (-1) := by unfold m_th0; rw [wd_up_ne _ _ (by omega), wd_up_self]
  have f12 : r_new I 1 2 = ab_ii 0 := by unfold r_new; rw [wd_up_ne _ _ (by omega), wd_up_self]
  have f13 : r_new I 1 3 = ab_ii (-1) := by unfold r_new; rw [wd_up_self]
  have h0 : h_rd (r_new I) (m_th0 M) := by
    refine ⟨h.fr (fun j => ⟨?_, ?_⟩) ⟨e22, m_th0_row (by decide)⟩, r_new_tp hb, ?_, f13.trans e24.symm, Or.inl ⟨by rw [e24]; rfl, f12.trans e23.symm⟩⟩
    · unfold r_new; rw [wd_up_ne _ _ (by omega), wd_up_ne _ _ (by omega)]
    · unfold r_new; rw [wd_up_ne _ _ (by omega), wd_up_ne _ _ (by omega)]
    · unfold m_tp
      rw [e22, e23]
      exact ⟨by decide, htp.1, htp.2⟩
  have hra : ∀ b u, F b u → m_ra M (m_th0 M) u.toInt.toNat := fun b u _ => ⟨by rw [m_th0_row (by decide)], by rw [m_th0_row (by decide)], by rw [m_th0_row (by decide)], by rw [m_th0_row (by decide)], by rw [m_th0_row (by decide)], fun j _ => ⟨by rw [m_th0_row (by decide)], by rw [m_th0_row (by decide)]⟩⟩
  obtain ⟨r1, r2, r3⟩ := h_rdG 13 (by omega) F T (r_new I, g, k, z) (m_th0 M) ⟨hW, h125, r_new_tp hb⟩ (m_th0_rp h1 h2 htp) h0 (by rw [e24]; rfl) (hk.mv (fun _ q => q) (fun _ _ => h_sm.rf) hra (by rw [e8]; exact Int.le_refl _))
  have r4 : h_rd (r_RI (I, g, k, z)) (m_thf (m_th1 M).1) := h_rend r1
  have e2 : m_th2 M 102 24 = m_thf (m_th1 M).1 102 24 := wd_up_ne _ _ (by omega)
  refine ⟨by rw [e2]; exact r4.2.2.2.1, by rw [e2]; exact r4.f0, fun q => ?_, fun q => ?_⟩
  · rw [e2] at q
    rw [r4.2.2.2.1]
    rcases r4.f0 with q1 | q1
    · exact absurd q1 q
    · exact q1
  · have q1 : ((m_th1 M).1 102 24).toInt = -1 := by
      rw [e2] at q
      unfold m_thf at q
      split at q
      next hc => exact hc.1
      next hc => exact q
    obtain ⟨T', F', a, s1, s2, s3, s4, s5, s6, s7⟩ := r3 q1
    rw [e8] at s4
    have hr2 : ∀ b u, F' b u → m_ra (m_rd 13 (m_th0 M)).1 (m_th2 M) u.toInt.toNat := fun b u _ => ⟨by rw [m_th2_row (by decide)]; rfl, by rw [m_th2_row (by decide)]; rfl, by rw [m_th2_row (by decide)]; rfl, by rw [m_th2_row (by decide)]; rfl, by rw [m_th2_row (by decide)]; rfl, fun j _ => ⟨by rw [m_th2_row (by decide)]; rfl, by rw [m_th2_row (by decide)]; rfl⟩⟩
    exact ⟨T', F', a, s1, s2, s3, s4, s5.mv (fun _ q => q) (fun _ _ => h_sm.rf) hr2 (by rw [m_th2_n ⟨by decide, by decide⟩]; exact Int.le_refl _), s6⟩
end
