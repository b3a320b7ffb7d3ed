/-! ===== both objects: thing alike (own text) ===== -/
section
variable {F : Nat → Int32 → Prop} {T : Nat → Prop} {I I' : wd_I} {P P' : wd_P} {M M' : wd_I} {g : Nat → ab_C} {k z n d : Nat} {Q : ab_Q}
theorem w_In.hk9 (h : w_In F T I P M g k) : 1 ≤ (M 102 8).toInt ∧ (M 102 8).toInt ≤ 3012 := by have := m_ok_b h.1; omega
/-- what a reading leaves, and nothing kept of it -/
theorem w_thn (h : w_In F T I P M g k) : ∃ T', w_In F T' (r_RJ (I, g, k, z)) P (m_rs M (m_th2 M)) (r_R (I, g, k, z)).2.2.1 (r_R (I, g, k, z)).2.2.2.1 ∧ (r_R (I, g, k, z)).2.2.2.1 ≤ k + 600 ∧ (r_R (I, g, k, z)).2.2.2.2 ≤ z + 6100 := by
  obtain ⟨h1, h2, h3, h4, h5, h6, h7, h8⟩ := h
  obtain ⟨T', g1, g2, g3, g4, g5, g6⟩ := r_R_gd (z := z) h2.1 h2.2.1 h2.tp
  have hb := m_ok_b h1
  have htp : 0 ≤ (M 102 22).toInt ∧ (M 102 22).toInt ≤ 100 := by rw [← h4.1]; exact h2.tp
  have hp := m_th0_rp (M := M) (by omega) hb.2.1 htp
  have hrr := m_rd_rr 13 (m_th0 M) hp
  have hfr := hrr.1.1
  rw [m_th0_n (by decide)] at hfr
  have hsb : m_sb (M 102 8).toInt M (m_th2 M) := by
    refine ⟨fun t ht => ?_, fun i hi => ?_⟩
    · rw [m_th2_row (by decide), m_th2_row (by decide), m_th2_row (by decide), m_th2_row (by decide), m_th2_row (by decide)]
      have := hfr.1.1 t ht
      rw [m_th0_row (by decide), m_th0_row (by decide), m_th0_row (by decide), m_th0_row (by decide), m_th0_row (by decide)] at this
      exact this
    · rw [m_th2_row (by decide), m_th2_row (by decide)]
      have := hfr.1.2 i hi
      rw [m_th0_row (by decide), m_th0_row (by decide)] at this
      exact this
  have hrow : ∀ a, 110 ≤ a → a ≤ 120 → m_th2 M a = M a := fun a a1 a2 => by
    rw [m_th2_row (by omega), show (m_th1 M).1 a = m_th0 M a from hfr.2.1 a a1, m_th0_row (by omega)]
  have hnn : ∀ j, j ≠ 8 → j ≠ 22 → j ≠ 23 → j ≠ 24 → j ≠ 25 → m_th2 M 102 j = M 102 j := fun j j1 j2 j3 j4 j5 => by
    rw [m_th2_n ⟨j2, j4⟩, show (m_th1 M).1 102 j = m_th0 M 102 j from hfr.2.2 j j1 j3 j4 j5, m_th0_n ⟨j3, j4, j5⟩]
  have e9 := hnn 9 (by decide) (by decide) (by decide) (by decide) (by decide)
  have e20 := hnn 20 (by decide) (by decide) (by decide) (by decide) (by decide)
  have e22 : m_th2 M 102 22 = ab_ii 0 := by unfold m_th2; rw [wd_up_self]
  have hrs : m_ok (m_rs M (m_th2 M)) := m_ok_rs h1 hsb (m_9_e e9) (by rw [e9]; exact hb.2.2.2) (fun a a1 a2 => hrow a a1 (by omega)) e20 ⟨0, e22, by omega⟩
  have er : ∀ a, a ≠ 102 → m_rs M (m_th2 M) a = m_th2 M a := fun a ha => by unfold m_rs; rw [wd_up_row _ _ _ ha]
  have en : ∀ j, j ≠ 8 → m_rs M (m_th2 M) 102 j = m_th2 M 102 j := fun j hj => by unfold m_rs; rw [wd_up_ne _ _ (Or.inr hj)]
  have en8 : m_rs M (m_th2 M) 102 8 = M 102 8 := by unfold m_rs; rw [wd_up_self]
  have hJ : ∀ a j, ¬ (a = 1) → r_RJ (I, g, k, z) a j = I a j := fun a j q => (wd_up_ne _ _ (by omega)).trans (g3 a j (by omega))
  have hJ1 : r_RJ (I, g, k, z) 1 1 = ab_ii 0 := wd_up_self _ _ _ _
  have hk0 : k_ok T' (r_RJ (I, g, k, z)) P (r_R (I, g, k, z)).2.2.1 (r_R (I, g, k, z)).2.2.2.1 := h2.fr (c_hs_wf g1) g1.inc (c_hs_ofr g1) (c_hs_kk g1) (k_sm_of (fun a j q => hJ a j (by omega)) (fun _ _ _ => rfl)) (by rw [hJ 9 0 (by omega)]; exact h2.2.2.1) ⟨0, hJ1, by omega⟩
  exact ⟨T', ⟨hrs, hk0, h3.mv g1.inc (h_sm_st (S := (I, g, k, z)) h2.1 g1) (fun b u q => by
    have := (h3.in q)
    have ra := hsb.ra (q := u.toInt.toNat) (by omega)
    exact ra.tr (m_ra_of (fun a a1 a2 => er a (by omega)))) (by rw [en8]; exact Int.le_refl _), ⟨hJ1.trans ((en 22 (by decide)).trans e22).symm, v_tb_0 ((en 22 (by decide)).trans e22)⟩, by rw [hJ 9 0 (by omega), en 9 (by decide), e9]; exact h5, h6.mv (fun _ _ q => q) (fun s hs => ⟨hJ _ _ (by omega), rfl, fun _ => rfl⟩) (fun x x1 x2 => (er x (by omega)).trans (hrow x x1 (by omega))), h7.mv (fun _ _ q => q) (hJ 0 11 (by omega)) (fun _ => rfl) ((er 116 (by decide)).trans (hrow 116 (by decide) (by decide))), h8.fr h2 (.of (fun a j q => hJ a j (by omega)) (c_hs_ofr g1) (fun _ _ _ => rfl)) (.rs hrow e20)⟩, g5, g6⟩
end
