/-! ===== both objects: the tape between calls (own text) ===== -/
def v_tb (I M : wd_I) : Prop := ∀ j : Nat, (j : Int) < (M 102 22).toInt → I 2 j = M 120 j
section
variable {I I' M M' : wd_I}
theorem v_tb.fr (h : v_tb I M) (hI : ∀ j, I' 2 j = I 2 j) (hM : r_fp M M') (h22 : M' 102 22 = M 102 22) : v_tb I' M' := fun j hj => by
  rw [hI j, hM.1 120 (by decide) (by decide) (by decide)]
  exact h j (by rw [← h22]; exact hj)
theorem v_tb_0 (h : M' 102 22 = ab_ii 0) : v_tb I' M' := fun j hj => by
  rw [h, show (ab_ii 0).toInt = 0 from rfl] at hj
  omega
theorem v_tb.thg (h : v_tb I M) (hI : ∀ j, I' 2 j = I 2 j) (hM : r_fp M M') {s : Int32} (h22 : M' 102 22 = @ite Int32 (m_sh s) (Classical.propDecidable _) (ab_ii 0) (M 102 22)) : v_tb I' M' := by
  by_cases q : m_sh s
  · rw [if_pos q] at h22
    exact v_tb_0 h22
  · rw [if_neg q] at h22
    exact h.fr hI hM h22
theorem v_fed {w : Int32} {c : Nat} (h : ∀ i, i < c → I 2 i = M 120 i) : ∀ j, j ≤ 4 → ∀ i, i < c + j → c_fed I w c j 2 i = m_fed M w c j 120 i
  | 0, _, i, hi => h i hi
  | j + 1, hj, i, hi => by
    unfold c_fed m_fed
    rw [wd_up_row _ _ _ (show 2 ≠ 1 by decide), wd_up_row _ _ _ (show 120 ≠ 102 by decide)]
    by_cases e : i = c + j
    · subst e
      rw [wd_up_self, wd_up_self]
      exact h_byte w (by omega)
    · rw [wd_up_ne _ _ (Or.inr e), wd_up_ne _ _ (Or.inr e)]
      exact v_fed h j (by omega) i (by omega)
theorem v_tb.fed (h : v_tb I M) {w : Int32} {c j : Nat} (hm : M 102 22 = ab_ii (c : Int)) (hc : c + j ≤ 100) (hj : j ≤ 4) : v_tb (c_fed I w c j) (m_fed M w c j) := fun i hi => by
  rw [m_fed_n hm, ab_tI (by omega) (by omega)] at hi
  exact v_fed (fun i hi => h i (by rw [hm, ab_tI (by omega) (by omega)]; omega)) j hj i (by omega)
end
section
variable {d : Nat} {I0 I : wd_I} {P : wd_P} {M : wd_I} {g : Nat → ab_C} {k z : Nat} {Q : ab_Q}
/-- the reference's path, in the class's words -/
theorem x_pathS (hd : 6 ≤ d) {p : Int32} (ht : h_tp I0 M) (hb0 : 0 ≤ (I0 1 1).toInt ∧ (I0 1 1).toInt ≤ 100) (hb : ¬ c_pp p → Q (some (.inl (ab_ii (-2)))) (wd I P M g, k, z)) (hF : c_pp p → 0 ≤ (r_who I0 1 3).toInt → Q (some (.inl (ab_ii (-100 - (r_who I0 1 3).toInt)))) (wd I P (m_p2 M) g, k, z)) (hD : c_pp p → (r_who I0 1 3).toInt < 0 → Q (some (.inl (ab_ii (r_len I0 : Int)))) (wd I P (m_p3 M p.toInt.toNat) g, k, z)) : ab_CT d 159 [wd_v 102, .inl p] (wd I P M g, k, z) Q := by
  obtain ⟨w1, w2⟩ := h_who ht hb0
  have e24 : m_p2 M 102 24 = r_who I0 1 3 := by
    rw [w1.2.2.2.1]
    unfold m_p2
    exact wd_up_ne _ _ (Or.inr (by decide))
  have f0 := w1.f0
  rw [← w1.2.2.2.1] at f0 w2
  have ep : c_pp p ↔ m_pa p := by unfold c_pp m_pa; omega
  refine x_path hd (by rw [← ht.1]; exact hb0) (fun q => hb (fun e => q (ep.mp e))) (fun q1 q2 => ?_) (fun q1 q2 => ?_)
  · rw [e24] at q2 ⊢
    exact hF (ep.mpr q1) (by omega)
  · rw [e24] at q2
    rw [(w2 q2).1]
    exact hD (ep.mpr q1) (by omega)
end
