/-! ===== the law's calls, one by one (own text) ===== -/
def v_In (L : Nat) (xs : Nat → Int32) (n : Nat) (T : Nat → Prop) (I : wd_I) (P : wd_P) (M : wd_I) (g : Nat → ab_C) (k z : Nat) : Prop := m_ok M ∧ k_ok T I P g k ∧ I 1 1 = M 102 22 ∧ k_rm n I k z ∧ g ab_scr = ab_ia 9 L xs ∧ v_tb I M
def v_Q : ab_Q := fun r _ => r = some (.inl (ab_ii 1))
def v_nx (L : Nat) (xs : Nat → Int32) (n i : Nat) : Prop := ∀ (T : Nat → Prop) (I : wd_I) (P : wd_P) (M : wd_I) (g : Nat → ab_C) (k z : Nat), v_In L xs n T I P M g k z → ab_WB 2048 201 v_Q 841 [(0, .inr (.inr (some 1000000000))), (1, wd_v 0), (2, wd_v 102), (3, .inl (ab_ii (i : Int)))] [] (wd I P M g, k, z)
theorem v_tb.fr2 {I I' M M' : wd_I} (h : v_tb I M) (hI : ∀ j, I' 2 j = I 2 j) (hM : M' 120 = M 120) (h22 : M' 102 22 = M 102 22) : v_tb I' M' := fun j hj => by
  rw [hI j, hM]
  exact h j (by rw [← h22]; exact hj)
theorem v_kthing {d n : Nat} {T : Nat → Prop} {I : wd_I} {P : wd_P} {M : wd_I} {g : Nat → ab_C} {k z : Nat} {Q : ab_Q} (hd : 60 ≤ d) (h : k_ok T I P g k) (hr : k_rm (n + 1) I k z) {s : Int32} (hQ : kf_q I P g k M Q n (@ite Int32 (c_sh s) (Classical.propDecidable _) (ab_ii 0) (I 1 1))) : ab_CT d 105 [wd_v 0, .inl s] (wd I P M g, k, z) Q := kf_thing hd h hr (fun q => by rw [if_neg q] at hQ; exact hQ) (fun q => by rw [if_pos q] at hQ; exact hQ)
theorem v_tthing {s a b x y : Int32} (h1 : a = @ite Int32 (c_sh s) (Classical.propDecidable _) (ab_ii 0) x) (h2 : x = y) (h3 : b = @ite Int32 (m_sh s) (Classical.propDecidable _) (ab_ii 0) y) : a = b := by
  rw [h1, h3, h2]
  have : c_sh s ↔ m_sh s := by unfold c_sh m_sh; omega
  by_cases q : c_sh s
  · rw [if_pos q, if_pos (this.mp q)]
  · rw [if_neg q, if_neg (fun e => q (this.mpr e))]
/-! image, back, join: the tape is left -/
def kt_q (I0 : wd_I) (M : wd_I) (Q : ab_Q) (n : Nat) (t : Int32) : Prop := ∀ (r : Int32) (T' : Nat → Prop) (I' : wd_I) (P' : wd_P) (g' : Nat → ab_C) (k' z' : Nat), k_ok T' I' P' g' k' → (∀ j, I' 2 j = I0 2 j) → I' 1 1 = t → k_rm n I' k' z' → Q (some (.inl r)) (wd I' P' M g', k', z')
def rt_q (M : wd_I) (I : wd_I) (P : wd_P) (g : Nat → ab_C) (k z : Nat) (Q : ab_Q) (T : Int32) : Prop := ∀ (r : Int32) (M' : wd_I), m_ok M' → M' 120 = M 120 → M' 102 22 = T → Q (some (.inl r)) (wd I P M' g, k, z)
section
variable {d : Nat} {T : Nat → Prop} {I : wd_I} {P : wd_P} {M : wd_I} {g : Nat → ab_C} {k z n : Nat} {Q : ab_Q}
theorem kt_image (hd : 5 ≤ d) (h : k_ok T I P g k) (hr : k_rm (n + 1) I k z) (hQ : kt_q I M Q n (I 1 1)) : ab_CT d 120 [wd_v 0] (wd I P M g, k, z) Q := by
  refine y_image hd h.1 h.shT h.2.2.2.2.1 (hQ _ T _ _ _ _ _ ?_ (fun _ => wd_up_ne _ _ (by omega)) (wd_up_ne _ _ (by omega)) (hr.le (by unfold c_imI; rw [wd_up_ne _ _ (by omega)]; exact Int.le_refl _) (by omega) (by omega)))
  have hsh := h.shT
  obtain ⟨h1, h2, h3, h4, h5, h6, h7⟩ := h
  unfold c_imI
  refine ⟨h1, h2, by rw [wd_up_ne _ _ (by omega)]; exact h3, fun j hj => ?_, fun p hp => ?_, by rw [wd_up_ne _ _ (by omega)]; exact h6, fun _ => ⟨fun j hj => ?_, fun p hp => ?_⟩⟩
  · obtain ⟨c, hc⟩ := h4 j hj
    exact ⟨c, s_ok_eq hc (wd_up_ne _ _ (by omega)) (c_imP_sh hj) (fun i => by unfold c_imP; rw [c_iP_ne (by omega), c_iT_ne (by omega)])⟩
  · unfold c_imP; rw [c_iP_ne (by omega), c_iT_ne (by omega)]; exact h5 p hp
  · unfold c_imP; rw [c_iP_ne (by omega), c_iT_at 12 hj]; exact hsh j hj
  · unfold c_imP; rw [c_iP_at 8 hp, c_iT_ne (by omega)]; exact h5 p hp
theorem kt_back (hd : 5 ≤ d) (h : k_ok T I P g k) (hr : k_rm (n + 1) I k z) (hQ : kt_q I M Q n (I 1 1)) : ab_CT d 121 [wd_v 0] (wd I P M g, k, z) Q := by
  refine y_back hd h.1 (fun _ => hQ _ _ _ _ _ _ _ h (fun _ => rfl) rfl (hr.le (Int.le_refl _) (by omega) (by omega))) (fun q => h.2.2.2.2.2.2 q) (fun q => hQ _ T _ _ _ _ _ ?_ (fun _ => by rw [c_bI_ne (fun j hj => by omega) 12 (by omega)]) (by rw [c_bI_ne (fun j hj => by omega) 12 (by omega)]) (hr.le (by rw [c_bI_ne (fun j hj => by omega) 12 (by omega)]; exact Int.le_refl _) (by omega) (by omega)))
  obtain ⟨h1, h2, h3, h4, h5, h6, h7⟩ := h
  obtain ⟨q1, q2⟩ := h7 q
  refine ⟨h1, h2, by rw [c_bI_ne (fun j hj => by omega) 12 (by omega)]; exact h3, fun j hj => ⟨0, c_bI_at 12 hj, by omega, ?_, fun i hi => absurd hi (Nat.not_lt_zero _)⟩, fun p hp => ?_, by rw [c_bI_ne (fun j hj => by omega) 12 (by omega)]; exact h6, fun _ => ⟨fun j hj => ?_, fun p hp => ?_⟩⟩
  · rw [c_baP_sh hj]; exact q1 j hj
  · unfold c_baP; rw [c_bP_at 8 hp, c_bT_ne (fun j hj => by omega) 12 (by omega)]; exact q2 p hp
  · unfold c_baP; rw [c_bP_ne (by omega), c_bT_ne (fun j hj => by omega) 12 (by omega)]; exact q1 j hj
  · unfold c_baP; rw [c_bP_ne (by omega), c_bT_ne (fun j hj => by omega) 12 (by omega)]; exact q2 p hp
theorem kt_join (hd : 4 ≤ d) (h : k_ok T I P g k) (hr : k_rm (n + 1) I k z) {p o : Int32} (hQ : kt_q I M Q n (I 1 1)) : ab_CT d 107 [wd_v 0, .inl p, .inl o] (wd I P M g, k, z) Q := by
  have hq := fun r => hQ r _ _ _ _ _ _ h (fun _ => rfl) rfl (hr.le (Int.le_refl _) (Nat.le_add_right _ _) (Nat.le_add_right _ _))
  obtain ⟨a, ha⟩ := k_okp h p
  obtain ⟨b, hb⟩ := k_okp h o
  have hrb := hr.b h.2.2.1.2
  refine y_join hd h.2.1 (fun _ => hq _) ha hb ⟨by omega, by omega⟩ (fun _ _ _ => hq _) (fun _ _ h8 => hQ _ T _ _ _ _ _ (h.pset c_mkp_of (by omega) (c_mkp_wf h.2.1 h8).1 (fun _ _ _ => rfl) h.2.2.2.2.2.1) (fun _ => rfl) rfl (hr.le (Int.le_refl _) (by omega) (by omega)))

theorem rt_image (hd : 2 ≤ d) (hok : m_ok M) (hQ : rt_q M I P g k z Q (M 102 22)) : ab_CT d 195 [wd_v 102] (wd I P M g, k, z) Q := by
  obtain ⟨h1, h2, h3⟩ := m_ok_image hok
  exact x_image hd (m_ok_sh3 hok) (hQ _ _ h1 (by unfold m_image; rw [wd_up_row _ _ _ (by decide)]; funext j; rw [m_cp_ne (by decide), m_cq_ne ⟨by decide, by decide⟩, m_cp_ne (by decide)]) h2)
theorem rt_back (hd : 2 ≤ d) (hok : m_ok M) (hQ : rt_q M I P g k z Q (M 102 22)) : ab_CT d 196 [wd_v 102] (wd I P M g, k, z) Q :=
  x_back hd (fun _ => hQ _ _ hok rfl rfl) (fun h => m_ok_sh3 (m_ok_back hok h).1) (fun h => hQ _ _ (m_ok_back hok h).1 (by unfold m_back; funext j; rw [m_cp_ne (by decide), m_cq_ne ⟨by decide, by decide⟩, m_cz_ne ⟨by decide, by decide⟩]) (m_ok_back hok h).2)
theorem rt_join (hd : 3 ≤ d) (hok : m_ok M) {p o : Int32} (hQ : rt_q M I P g k z Q (M 102 22)) : ab_CT d 160 [wd_v 102, .inl p, .inl o] (wd I P M g, k, z) Q := by
  by_cases hg : 0 ≤ p.toInt ∧ p.toInt ≤ 7 ∧ 0 ≤ o.toInt ∧ o.toInt ≤ 7
  · have h5 := hok.2.2.2.2.1
    have hp := h5 p.toInt.toNat (by omega)
    have ho := h5 o.toInt.toNat (by omega)
    have e1 : M 115 p.toInt.toNat = ab_ii (((M 115 p.toInt.toNat).toInt.toNat : Nat) : Int) := by rw [Int.toNat_of_nonneg hp.1]; exact (ab_ii_toInt _).symm
    have e2 : M 115 o.toInt.toNat = ab_ii (((M 115 o.toInt.toNat).toInt.toNat : Nat) : Int) := by rw [Int.toNat_of_nonneg ho.1]; exact (ab_ii_toInt _).symm
    refine x_join hd e1 e2 (by omega) (by omega) (fun h => hQ _ _ hok rfl rfl) (fun _ _ => hQ _ _ hok rfl rfl) (fun _ hcn => hQ _ _ (m_ok_joins hok (by omega) e1 hcn) (m_joins_row (by decide) (by decide) (by decide) _) ?_)
    rw [m_joins_row (by decide) (by decide) (by decide)]
  · exact x_join_b hd hg (hQ _ _ hok rfl rfl)

end
