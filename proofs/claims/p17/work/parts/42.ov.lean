/-! ===== the reference: became, walked (own text) ===== -/
theorem i_getN {c : ab_C} {ci k : Nat} {K : ab_V → Prop} {fs : List ab_V} {w : ab_V} (h1 : c = ab_ob ci fs) (h2 : fs[k]? = some w) (h3 : ∀ v, v = w → K v) : ∃ fs w, c = ab_ob ci fs ∧ fs[k]? = some w ∧ K w := ⟨fs, w, h1, h2, h3 _ rfl⟩
theorem m_ov1_fr {n : Int} {M : wd_I} : m_fr n M (m_ov1 M) := m_fr_up m_fr.rf (by unfold m_wr; omega)
theorem m_ov1_8 {M : wd_I} : m_ov1 M 102 8 = M 102 8 := wd_up_ne _ _ (Or.inr (by decide))
theorem m_ov1_rm {M : wd_I} (h : m_rm M) : m_rm (m_ov1 M) := by
  unfold m_rm at h ⊢
  rw [m_ov1_8, show m_ov1 M 102 9 = M 102 9 from wd_up_ne _ _ (Or.inr (by decide))]
  exact h
theorem m_ov1_row {M : wd_I} {a : Nat} (h : a ≠ 102) : m_ov1 M a = M a := wd_up_row _ _ _ h
set_option maxHeartbeats 4000000 in
set_option maxRecDepth 100000 in
theorem x_became {d : Nat} (hd : 16 ≤ d) {I : wd_I} {P : wd_P} {M : wd_I} {g : Nat → ab_C} {k z s : Nat} {n : Int} {t : Int32} {Q : ab_Q} (hcl : m_cl M n) (ht0 : 0 ≤ t.toInt) (ht1 : t.toInt < n) (hn1 : n ≤ (M 102 8).toInt) (hrm : m_rm M) (hs : (M 105 t.toInt.toNat).toInt = (s : Int)) (hh : 0 ≤ (M 102 33).toInt ∧ (M 102 33).toInt ≤ 11) (h7 : (M 102 33).toInt = 7 → 0 ≤ (M 102 34).toInt ∧ (M 102 34).toInt ≤ 11) (hQ : Q (some (.inl (m_became M t s).2)) (wd I P (m_became M t s).1 g, k, z)) : ab_CT d 171 [wd_v 102, .inl t] (wd I P M g, k, z) Q := by
  have hn3 := hcl.1
  have hf1 : m_fr n M (m_ov1 M) := m_ov1_fr
  have hcl1 := m_cl_sb hf1.1 hcl
  have hrm1 := m_ov1_rm hrm
  have e8 := m_ov1_8 (M := M)
  have e8i : (m_ov1 M 102 8).toInt = (M 102 8).toInt := by rw [e8]
  have hs1 : (m_ov1 M 105 t.toInt.toNat).toInt = (s : Int) := by rw [m_ov1_row (by decide)]; exact hs
  have e103 : m_ov1 M 103 = M 103 := m_ov1_row (by decide)
  have e104 : m_ov1 M 104 = M 104 := m_ov1_row (by decide)
  have e110 : m_ov1 M 110 = M 110 := m_ov1_row (by decide)
  have e33 : m_ov1 M 102 33 = M 102 33 := wd_up_ne _ _ (Or.inr (by decide))
  have e34 : m_ov1 M 102 34 = M 102 34 := wd_up_ne _ _ (Or.inr (by decide))
  have eM1 : wd_up M 102 35 (ab_ii ((M 102 35).toInt + 1)) = m_ov1 M := rfl
  unfold m_became m_bec at hQ
  rw [e103, e104, e110] at hQ
  by_cases h4 : (M 102 33).toInt < 4
  · clear h7
    rw [if_pos h4] at hQ
    by_cases hk : (M 103 t.toInt.toNat).toInt = 0
    · rw [if_pos hk] at hQ
      unfold m_numb m_val at hQ
      by_cases hcan : m_can (m_ov1 M)
      · rw [m_cani_t hcan] at hQ
        refine wd_inC rfl (by omega) rfl ?_
        intro C9 X9 hC9 hX9
        repeat' ((conv => whnf); first
    | (apply i_getN; (focus (exact rfl)); (focus (exact rfl)); (intro v9 hv9; (try simp (disch := omega) only [ab_tI, ab_c0, wd_ix12, wd_ix8, wd_ix10, wd_up_self, wd_up_eq, wd_up_ne, Int.toNat_natCast, Int.toNat_of_nonneg, not_true_eq_false, not_false_eq_true, Option.some.injEq, e33, e34, e103, e104] at hv9); subst hv9))
    | (rw [eM1]; refine hC9 167 _ _ _ (x_numbered (by omega) hrm1 (fun hm => ?_) (fun hm => absurd hcan hm)))
    | (intro v9 hv9; (try simp (disch := omega) only [ab_tI, ab_c0, wd_ix12, wd_ix8, wd_ix10, wd_up_self, wd_up_eq, wd_up_ne, Int.toNat_natCast, Int.toNat_of_nonneg, not_true_eq_false, not_false_eq_true, Option.some.injEq, e33, e34, e103, e104] at hv9); subst hv9)
    | (apply i_get; (focus (exact rfl)); (focus (exact rfl)))
    | (refine hX9 _ _ _ _ (wd_rnC rfl ?_); clear hC9 hX9 X9 C9; intro C9 X9 hC9 hX9)
    | (apply w_ialM; (focus (exact rfl)); (focus (exact (by first | exact ⟨by decide, by decide⟩ | ((try simp (disch := omega) only [ab_tI, ab_c0, wd_ix12, wd_ix8, wd_ix10, wd_up_self, wd_up_eq, wd_up_ne, Int.toNat_natCast, Int.toNat_of_nonneg, not_true_eq_false, not_false_eq_true, Option.some.injEq, e33, e34, e103, e104, wd_l103, wd_l104, wd_l105, wd_l106, wd_l107, wd_l108, wd_l109, wd_l110, wd_l111, wd_l112, wd_l113, wd_l114, wd_l115, wd_l116, wd_l117, wd_l118, wd_l119, wd_l120, wd_l121, wd_l122, wd_l123, wd_l124]); omega)))); (intro v9 hv9; (try simp (disch := omega) only [ab_tI, ab_c0, wd_ix12, wd_ix8, wd_ix10, wd_up_self, wd_up_eq, wd_up_ne, Int.toNat_natCast, Int.toNat_of_nonneg, not_true_eq_false, not_false_eq_true, Option.some.injEq, e33, e34, e103, e104] at hv9); subst hv9))
    | (apply w_putM; (focus (exact rfl)); (focus (first | exact trivial | exact Or.inl rfl | exact Or.inr rfl)); (focus (exact rfl)))
    | (apply w_iasM; (focus (exact rfl)); (focus (exact (by first | exact ⟨by decide, by decide⟩ | ((try simp (disch := omega) only [ab_tI, ab_c0, wd_ix12, wd_ix8, wd_ix10, wd_up_self, wd_up_eq, wd_up_ne, Int.toNat_natCast, Int.toNat_of_nonneg, not_true_eq_false, not_false_eq_true, Option.some.injEq, e33, e34, e103, e104, wd_l103, wd_l104, wd_l105, wd_l106, wd_l107, wd_l108, wd_l109, wd_l110, wd_l111, wd_l112, wd_l113, wd_l114, wd_l115, wd_l116, wd_l117, wd_l118, wd_l119, wd_l120, wd_l121, wd_l122, wd_l123, wd_l124]); omega)))); (intro v9 hv9; (try simp (disch := omega) only [ab_tI, ab_c0, wd_ix12, wd_ix8, wd_ix10, wd_up_self, wd_up_eq, wd_up_ne, Int.toNat_natCast, Int.toNat_of_nonneg, not_true_eq_false, not_false_eq_true, Option.some.injEq, e33, e34, e103, e104] at hv9); subst hv9))
    | (refine i_brF (by decide) ?_)
    | (refine i_brT (by decide) ?_)
    | (refine ⟨fun hc => ?_, fun hc => ?_⟩ <;> (try simp (disch := omega) only [ab_tI, ab_c0, wd_ix12, wd_ix8, wd_ix10, wd_up_self, wd_up_eq, wd_up_ne, Int.toNat_natCast, Int.toNat_of_nonneg, not_true_eq_false, not_false_eq_true, Option.some.injEq, e33, e34, e103, e104] at hc) <;> first | (exfalso; omega) | skip)
    | (apply i_cv; (focus (exact rfl)))
    | (apply w_balM; (focus (exact (by first | exact ⟨by decide, by decide⟩ | ((try simp (disch := omega) only [ab_tI, ab_c0, wd_ix12, wd_ix8, wd_ix10, wd_up_self, wd_up_eq, wd_up_ne, Int.toNat_natCast, Int.toNat_of_nonneg, not_true_eq_false, not_false_eq_true, Option.some.injEq, e33, e34, e103, e104, wd_l103, wd_l104, wd_l105, wd_l106, wd_l107, wd_l108, wd_l109, wd_l110, wd_l111, wd_l112, wd_l113, wd_l114, wd_l115, wd_l116, wd_l117, wd_l118, wd_l119, wd_l120, wd_l121, wd_l122, wd_l123, wd_l124]); omega)))); (intro v9 hv9; (try simp (disch := omega) only [ab_tI, ab_c0, wd_ix12, wd_ix8, wd_ix10, wd_up_self, wd_up_eq, wd_up_ne, Int.toNat_natCast, Int.toNat_of_nonneg, not_true_eq_false, not_false_eq_true, Option.some.injEq, e33, e34, e103, e104] at hv9); subst hv9))
    | (apply w_basM; (focus (exact (by first | exact ⟨by decide, by decide⟩ | ((try simp (disch := omega) only [ab_tI, ab_c0, wd_ix12, wd_ix8, wd_ix10, wd_up_self, wd_up_eq, wd_up_ne, Int.toNat_natCast, Int.toNat_of_nonneg, not_true_eq_false, not_false_eq_true, Option.some.injEq, e33, e34, e103, e104, wd_l103, wd_l104, wd_l105, wd_l106, wd_l107, wd_l108, wd_l109, wd_l110, wd_l111, wd_l112, wd_l113, wd_l114, wd_l115, wd_l116, wd_l117, wd_l118, wd_l119, wd_l120, wd_l121, wd_l122, wd_l123, wd_l124]); omega)))); (focus (first | exact Or.inl rfl | exact Or.inr rfl)); (intro v9 hv9; (try simp (disch := omega) only [ab_tI, ab_c0, wd_ix12, wd_ix8, wd_ix10, wd_up_self, wd_up_eq, wd_up_ne, Int.toNat_natCast, Int.toNat_of_nonneg, not_true_eq_false, not_false_eq_true, Option.some.injEq, e33, e34, e103, e104] at hv9); subst hv9))
    | (refine And.intro trivial ?_)
    | (refine And.intro (Or.inl rfl) ?_)
    | (refine And.intro (Or.inr rfl) ?_)
    | (refine And.intro (by ((try simp (disch := omega) only [ab_tI, ab_c0, wd_ix12, wd_ix8, wd_ix10, wd_up_self, wd_up_eq, wd_up_ne, Int.toNat_natCast, Int.toNat_of_nonneg, not_true_eq_false, not_false_eq_true, Option.some.injEq, e33, e34, e103, e104]); omega)) ?_)
    | fail)
        all_goals (repeat' (split at hQ)) <;> first | exact hQ | (exfalso; omega)
      · rw [m_cani_f hcan] at hQ
        refine wd_inC rfl (by omega) rfl ?_
        intro C9 X9 hC9 hX9
        repeat' ((conv => whnf); first
    | (apply i_getN; (focus (exact rfl)); (focus (exact rfl)); (intro v9 hv9; (try simp (disch := omega) only [ab_tI, ab_c0, wd_ix12, wd_ix8, wd_ix10, wd_up_self, wd_up_eq, wd_up_ne, Int.toNat_natCast, Int.toNat_of_nonneg, not_true_eq_false, not_false_eq_true, Option.some.injEq, e33, e34, e103, e104] at hv9); subst hv9))
    | (rw [eM1]; refine hC9 167 _ _ _ (x_numbered (by omega) hrm1 (fun hm => absurd hm hcan) (fun hm => ?_)))
    | (intro v9 hv9; (try simp (disch := omega) only [ab_tI, ab_c0, wd_ix12, wd_ix8, wd_ix10, wd_up_self, wd_up_eq, wd_up_ne, Int.toNat_natCast, Int.toNat_of_nonneg, not_true_eq_false, not_false_eq_true, Option.some.injEq, e33, e34, e103, e104] at hv9); subst hv9)
    | (apply i_get; (focus (exact rfl)); (focus (exact rfl)))
    | (refine hX9 _ _ _ _ (wd_rnC rfl ?_); clear hC9 hX9 X9 C9; intro C9 X9 hC9 hX9)
    | (apply w_ialM; (focus (exact rfl)); (focus (exact (by first | exact ⟨by decide, by decide⟩ | ((try simp (disch := omega) only [ab_tI, ab_c0, wd_ix12, wd_ix8, wd_ix10, wd_up_self, wd_up_eq, wd_up_ne, Int.toNat_natCast, Int.toNat_of_nonneg, not_true_eq_false, not_false_eq_true, Option.some.injEq, e33, e34, e103, e104, wd_l103, wd_l104, wd_l105, wd_l106, wd_l107, wd_l108, wd_l109, wd_l110, wd_l111, wd_l112, wd_l113, wd_l114, wd_l115, wd_l116, wd_l117, wd_l118, wd_l119, wd_l120, wd_l121, wd_l122, wd_l123, wd_l124]); omega)))); (intro v9 hv9; (try simp (disch := omega) only [ab_tI, ab_c0, wd_ix12, wd_ix8, wd_ix10, wd_up_self, wd_up_eq, wd_up_ne, Int.toNat_natCast, Int.toNat_of_nonneg, not_true_eq_false, not_false_eq_true, Option.some.injEq, e33, e34, e103, e104] at hv9); subst hv9))
    | (apply w_putM; (focus (exact rfl)); (focus (first | exact trivial | exact Or.inl rfl | exact Or.inr rfl)); (focus (exact rfl)))
    | (apply w_iasM; (focus (exact rfl)); (focus (exact (by first | exact ⟨by decide, by decide⟩ | ((try simp (disch := omega) only [ab_tI, ab_c0, wd_ix12, wd_ix8, wd_ix10, wd_up_self, wd_up_eq, wd_up_ne, Int.toNat_natCast, Int.toNat_of_nonneg, not_true_eq_false, not_false_eq_true, Option.some.injEq, e33, e34, e103, e104, wd_l103, wd_l104, wd_l105, wd_l106, wd_l107, wd_l108, wd_l109, wd_l110, wd_l111, wd_l112, wd_l113, wd_l114, wd_l115, wd_l116, wd_l117, wd_l118, wd_l119, wd_l120, wd_l121, wd_l122, wd_l123, wd_l124]); omega)))); (intro v9 hv9; (try simp (disch := omega) only [ab_tI, ab_c0, wd_ix12, wd_ix8, wd_ix10, wd_up_self, wd_up_eq, wd_up_ne, Int.toNat_natCast, Int.toNat_of_nonneg, not_true_eq_false, not_false_eq_true, Option.some.injEq, e33, e34, e103, e104] at hv9); subst hv9))
    | (refine i_brF (by decide) ?_)
    | (refine i_brT (by decide) ?_)
    | (refine ⟨fun hc => ?_, fun hc => ?_⟩ <;> (try simp (disch := omega) only [ab_tI, ab_c0, wd_ix12, wd_ix8, wd_ix10, wd_up_self, wd_up_eq, wd_up_ne, Int.toNat_natCast, Int.toNat_of_nonneg, not_true_eq_false, not_false_eq_true, Option.some.injEq, e33, e34, e103, e104] at hc) <;> first | (exfalso; omega) | skip)
    | (apply i_cv; (focus (exact rfl)))
    | (apply w_balM; (focus (exact (by first | exact ⟨by decide, by decide⟩ | ((try simp (disch := omega) only [ab_tI, ab_c0, wd_ix12, wd_ix8, wd_ix10, wd_up_self, wd_up_eq, wd_up_ne, Int.toNat_natCast, Int.toNat_of_nonneg, not_true_eq_false, not_false_eq_true, Option.some.injEq, e33, e34, e103, e104, wd_l103, wd_l104, wd_l105, wd_l106, wd_l107, wd_l108, wd_l109, wd_l110, wd_l111, wd_l112, wd_l113, wd_l114, wd_l115, wd_l116, wd_l117, wd_l118, wd_l119, wd_l120, wd_l121, wd_l122, wd_l123, wd_l124]); omega)))); (intro v9 hv9; (try simp (disch := omega) only [ab_tI, ab_c0, wd_ix12, wd_ix8, wd_ix10, wd_up_self, wd_up_eq, wd_up_ne, Int.toNat_natCast, Int.toNat_of_nonneg, not_true_eq_false, not_false_eq_true, Option.some.injEq, e33, e34, e103, e104] at hv9); subst hv9))
    | (apply w_basM; (focus (exact (by first | exact ⟨by decide, by decide⟩ | ((try simp (disch := omega) only [ab_tI, ab_c0, wd_ix12, wd_ix8, wd_ix10, wd_up_self, wd_up_eq, wd_up_ne, Int.toNat_natCast, Int.toNat_of_nonneg, not_true_eq_false, not_false_eq_true, Option.some.injEq, e33, e34, e103, e104, wd_l103, wd_l104, wd_l105, wd_l106, wd_l107, wd_l108, wd_l109, wd_l110, wd_l111, wd_l112, wd_l113, wd_l114, wd_l115, wd_l116, wd_l117, wd_l118, wd_l119, wd_l120, wd_l121, wd_l122, wd_l123, wd_l124]); omega)))); (focus (first | exact Or.inl rfl | exact Or.inr rfl)); (intro v9 hv9; (try simp (disch := omega) only [ab_tI, ab_c0, wd_ix12, wd_ix8, wd_ix10, wd_up_self, wd_up_eq, wd_up_ne, Int.toNat_natCast, Int.toNat_of_nonneg, not_true_eq_false, not_false_eq_true, Option.some.injEq, e33, e34, e103, e104] at hv9); subst hv9))
    | (refine And.intro trivial ?_)
    | (refine And.intro (Or.inl rfl) ?_)
    | (refine And.intro (Or.inr rfl) ?_)
    | (refine And.intro (by ((try simp (disch := omega) only [ab_tI, ab_c0, wd_ix12, wd_ix8, wd_ix10, wd_up_self, wd_up_eq, wd_up_ne, Int.toNat_natCast, Int.toNat_of_nonneg, not_true_eq_false, not_false_eq_true, Option.some.injEq, e33, e34, e103, e104]); omega)) ?_)
    | fail)
        all_goals first | exact hQ | (exfalso; omega)
    · rw [if_neg hk] at hQ
      refine wd_inC rfl (by omega) rfl ?_
      intro C9 X9 hC9 hX9
      repeat' ((conv => whnf); first
    | (apply i_getN; (focus (exact rfl)); (focus (exact rfl)); (intro v9 hv9; (try simp (disch := omega) only [ab_tI, ab_c0, wd_ix12, wd_ix8, wd_ix10, wd_up_self, wd_up_eq, wd_up_ne, Int.toNat_natCast, Int.toNat_of_nonneg, not_true_eq_false, not_false_eq_true, Option.some.injEq] at hv9); subst hv9))
    | (intro v9 hv9; (try simp (disch := omega) only [ab_tI, ab_c0, wd_ix12, wd_ix8, wd_ix10, wd_up_self, wd_up_eq, wd_up_ne, Int.toNat_natCast, Int.toNat_of_nonneg, not_true_eq_false, not_false_eq_true, Option.some.injEq] at hv9); subst hv9)
    | (apply i_get; (focus (exact rfl)); (focus (exact rfl)))
    | (refine hX9 _ _ _ _ (wd_rnC rfl ?_); clear hC9 hX9 X9 C9; intro C9 X9 hC9 hX9)
    | (apply w_ialM; (focus (exact rfl)); (focus (exact (by first | exact ⟨by decide, by decide⟩ | ((try simp (disch := omega) only [ab_tI, ab_c0, wd_ix12, wd_ix8, wd_ix10, wd_up_self, wd_up_eq, wd_up_ne, Int.toNat_natCast, Int.toNat_of_nonneg, not_true_eq_false, not_false_eq_true, Option.some.injEq, wd_l103, wd_l104, wd_l105, wd_l106, wd_l107, wd_l108, wd_l109, wd_l110, wd_l111, wd_l112, wd_l113, wd_l114, wd_l115, wd_l116, wd_l117, wd_l118, wd_l119, wd_l120, wd_l121, wd_l122, wd_l123, wd_l124]); omega)))); (intro v9 hv9; (try simp (disch := omega) only [ab_tI, ab_c0, wd_ix12, wd_ix8, wd_ix10, wd_up_self, wd_up_eq, wd_up_ne, Int.toNat_natCast, Int.toNat_of_nonneg, not_true_eq_false, not_false_eq_true, Option.some.injEq] at hv9); subst hv9))
    | (apply w_putM; (focus (exact rfl)); (focus (first | exact trivial | exact Or.inl rfl | exact Or.inr rfl)); (focus (exact rfl)))
    | (apply w_iasM; (focus (exact rfl)); (focus (exact (by first | exact ⟨by decide, by decide⟩ | ((try simp (disch := omega) only [ab_tI, ab_c0, wd_ix12, wd_ix8, wd_ix10, wd_up_self, wd_up_eq, wd_up_ne, Int.toNat_natCast, Int.toNat_of_nonneg, not_true_eq_false, not_false_eq_true, Option.some.injEq, wd_l103, wd_l104, wd_l105, wd_l106, wd_l107, wd_l108, wd_l109, wd_l110, wd_l111, wd_l112, wd_l113, wd_l114, wd_l115, wd_l116, wd_l117, wd_l118, wd_l119, wd_l120, wd_l121, wd_l122, wd_l123, wd_l124]); omega)))); (intro v9 hv9; (try simp (disch := omega) only [ab_tI, ab_c0, wd_ix12, wd_ix8, wd_ix10, wd_up_self, wd_up_eq, wd_up_ne, Int.toNat_natCast, Int.toNat_of_nonneg, not_true_eq_false, not_false_eq_true, Option.some.injEq] at hv9); subst hv9))
    | (refine i_brF (by decide) ?_)
    | (refine i_brT (by decide) ?_)
    | (refine ⟨fun hc => ?_, fun hc => ?_⟩ <;> (try simp (disch := omega) only [ab_tI, ab_c0, wd_ix12, wd_ix8, wd_ix10, wd_up_self, wd_up_eq, wd_up_ne, Int.toNat_natCast, Int.toNat_of_nonneg, not_true_eq_false, not_false_eq_true, Option.some.injEq] at hc) <;> first | (exfalso; omega) | skip)
    | (apply i_cv; (focus (exact rfl)))
    | (apply w_balM; (focus (exact (by first | exact ⟨by decide, by decide⟩ | ((try simp (disch := omega) only [ab_tI, ab_c0, wd_ix12, wd_ix8, wd_ix10, wd_up_self, wd_up_eq, wd_up_ne, Int.toNat_natCast, Int.toNat_of_nonneg, not_true_eq_false, not_false_eq_true, Option.some.injEq, wd_l103, wd_l104, wd_l105, wd_l106, wd_l107, wd_l108, wd_l109, wd_l110, wd_l111, wd_l112, wd_l113, wd_l114, wd_l115, wd_l116, wd_l117, wd_l118, wd_l119, wd_l120, wd_l121, wd_l122, wd_l123, wd_l124]); omega)))); (intro v9 hv9; (try simp (disch := omega) only [ab_tI, ab_c0, wd_ix12, wd_ix8, wd_ix10, wd_up_self, wd_up_eq, wd_up_ne, Int.toNat_natCast, Int.toNat_of_nonneg, not_true_eq_false, not_false_eq_true, Option.some.injEq] at hv9); subst hv9))
    | (apply w_basM; (focus (exact (by first | exact ⟨by decide, by decide⟩ | ((try simp (disch := omega) only [ab_tI, ab_c0, wd_ix12, wd_ix8, wd_ix10, wd_up_self, wd_up_eq, wd_up_ne, Int.toNat_natCast, Int.toNat_of_nonneg, not_true_eq_false, not_false_eq_true, Option.some.injEq, wd_l103, wd_l104, wd_l105, wd_l106, wd_l107, wd_l108, wd_l109, wd_l110, wd_l111, wd_l112, wd_l113, wd_l114, wd_l115, wd_l116, wd_l117, wd_l118, wd_l119, wd_l120, wd_l121, wd_l122, wd_l123, wd_l124]); omega)))); (focus (first | exact Or.inl rfl | exact Or.inr rfl)); (intro v9 hv9; (try simp (disch := omega) only [ab_tI, ab_c0, wd_ix12, wd_ix8, wd_ix10, wd_up_self, wd_up_eq, wd_up_ne, Int.toNat_natCast, Int.toNat_of_nonneg, not_true_eq_false, not_false_eq_true, Option.some.injEq] at hv9); subst hv9))
    | (refine And.intro trivial ?_)
    | (refine And.intro (Or.inl rfl) ?_)
    | (refine And.intro (Or.inr rfl) ?_)
    | (refine And.intro (by ((try simp (disch := omega) only [ab_tI, ab_c0, wd_ix12, wd_ix8, wd_ix10, wd_up_self, wd_up_eq, wd_up_ne, Int.toNat_natCast, Int.toNat_of_nonneg, not_true_eq_false, not_false_eq_true, Option.some.injEq]); omega)) ?_)
    | fail)
      all_goals first | exact hQ | (exfalso; omega)
  · rw [if_neg h4] at hQ
    by_cases h7' : (M 102 33).toInt = 7
    · rw [if_pos h7'] at hQ
      replace h7 := h7 h7'
      refine wd_inC rfl (by omega) rfl ?_
      intro C9 X9 hC9 hX9
      repeat' ((conv => whnf); first
    | (apply i_getN; (focus (exact rfl)); (focus (exact rfl)); (intro v9 hv9; (try simp (disch := omega) only [ab_tI, ab_c0, wd_ix12, wd_ix8, wd_ix10, wd_up_self, wd_up_eq, wd_up_ne, Int.toNat_natCast, Int.toNat_of_nonneg, not_true_eq_false, not_false_eq_true, Option.some.injEq] at hv9); subst hv9))
    | (intro v9 hv9; (try simp (disch := omega) only [ab_tI, ab_c0, wd_ix12, wd_ix8, wd_ix10, wd_up_self, wd_up_eq, wd_up_ne, Int.toNat_natCast, Int.toNat_of_nonneg, not_true_eq_false, not_false_eq_true, Option.some.injEq] at hv9); subst hv9)
    | (apply i_get; (focus (exact rfl)); (focus (exact rfl)))
    | (refine hX9 _ _ _ _ (wd_rnC rfl ?_); clear hC9 hX9 X9 C9; intro C9 X9 hC9 hX9)
    | (apply w_ialM; (focus (exact rfl)); (focus (exact (by first | exact ⟨by decide, by decide⟩ | ((try simp (disch := omega) only [ab_tI, ab_c0, wd_ix12, wd_ix8, wd_ix10, wd_up_self, wd_up_eq, wd_up_ne, Int.toNat_natCast, Int.toNat_of_nonneg, not_true_eq_false, not_false_eq_true, Option.some.injEq, wd_l103, wd_l104, wd_l105, wd_l106, wd_l107, wd_l108, wd_l109, wd_l110, wd_l111, wd_l112, wd_l113, wd_l114, wd_l115, wd_l116, wd_l117, wd_l118, wd_l119, wd_l120, wd_l121, wd_l122, wd_l123, wd_l124]); omega)))); (intro v9 hv9; (try simp (disch := omega) only [ab_tI, ab_c0, wd_ix12, wd_ix8, wd_ix10, wd_up_self, wd_up_eq, wd_up_ne, Int.toNat_natCast, Int.toNat_of_nonneg, not_true_eq_false, not_false_eq_true, Option.some.injEq] at hv9); subst hv9))
    | (apply w_putM; (focus (exact rfl)); (focus (first | exact trivial | exact Or.inl rfl | exact Or.inr rfl)); (focus (exact rfl)))
    | (apply w_iasM; (focus (exact rfl)); (focus (exact (by first | exact ⟨by decide, by decide⟩ | ((try simp (disch := omega) only [ab_tI, ab_c0, wd_ix12, wd_ix8, wd_ix10, wd_up_self, wd_up_eq, wd_up_ne, Int.toNat_natCast, Int.toNat_of_nonneg, not_true_eq_false, not_false_eq_true, Option.some.injEq, wd_l103, wd_l104, wd_l105, wd_l106, wd_l107, wd_l108, wd_l109, wd_l110, wd_l111, wd_l112, wd_l113, wd_l114, wd_l115, wd_l116, wd_l117, wd_l118, wd_l119, wd_l120, wd_l121, wd_l122, wd_l123, wd_l124]); omega)))); (intro v9 hv9; (try simp (disch := omega) only [ab_tI, ab_c0, wd_ix12, wd_ix8, wd_ix10, wd_up_self, wd_up_eq, wd_up_ne, Int.toNat_natCast, Int.toNat_of_nonneg, not_true_eq_false, not_false_eq_true, Option.some.injEq] at hv9); subst hv9))
    | (refine i_brF (by decide) ?_)
    | (refine i_brT (by decide) ?_)
    | (refine ⟨fun hc => ?_, fun hc => ?_⟩ <;> (try simp (disch := omega) only [ab_tI, ab_c0, wd_ix12, wd_ix8, wd_ix10, wd_up_self, wd_up_eq, wd_up_ne, Int.toNat_natCast, Int.toNat_of_nonneg, not_true_eq_false, not_false_eq_true, Option.some.injEq] at hc) <;> first | (exfalso; omega) | skip)
    | (apply i_cv; (focus (exact rfl)))
    | (apply w_balM; (focus (exact (by first | exact ⟨by decide, by decide⟩ | ((try simp (disch := omega) only [ab_tI, ab_c0, wd_ix12, wd_ix8, wd_ix10, wd_up_self, wd_up_eq, wd_up_ne, Int.toNat_natCast, Int.toNat_of_nonneg, not_true_eq_false, not_false_eq_true, Option.some.injEq, wd_l103, wd_l104, wd_l105, wd_l106, wd_l107, wd_l108, wd_l109, wd_l110, wd_l111, wd_l112, wd_l113, wd_l114, wd_l115, wd_l116, wd_l117, wd_l118, wd_l119, wd_l120, wd_l121, wd_l122, wd_l123, wd_l124]); omega)))); (intro v9 hv9; (try simp (disch := omega) only [ab_tI, ab_c0, wd_ix12, wd_ix8, wd_ix10, wd_up_self, wd_up_eq, wd_up_ne, Int.toNat_natCast, Int.toNat_of_nonneg, not_true_eq_false, not_false_eq_true, Option.some.injEq] at hv9); subst hv9))
    | (apply w_basM; (focus (exact (by first | exact ⟨by decide, by decide⟩ | ((try simp (disch := omega) only [ab_tI, ab_c0, wd_ix12, wd_ix8, wd_ix10, wd_up_self, wd_up_eq, wd_up_ne, Int.toNat_natCast, Int.toNat_of_nonneg, not_true_eq_false, not_false_eq_true, Option.some.injEq, wd_l103, wd_l104, wd_l105, wd_l106, wd_l107, wd_l108, wd_l109, wd_l110, wd_l111, wd_l112, wd_l113, wd_l114, wd_l115, wd_l116, wd_l117, wd_l118, wd_l119, wd_l120, wd_l121, wd_l122, wd_l123, wd_l124]); omega)))); (focus (first | exact Or.inl rfl | exact Or.inr rfl)); (intro v9 hv9; (try simp (disch := omega) only [ab_tI, ab_c0, wd_ix12, wd_ix8, wd_ix10, wd_up_self, wd_up_eq, wd_up_ne, Int.toNat_natCast, Int.toNat_of_nonneg, not_true_eq_false, not_false_eq_true, Option.some.injEq] at hv9); subst hv9))
    | (refine And.intro trivial ?_)
    | (refine And.intro (Or.inl rfl) ?_)
    | (refine And.intro (Or.inr rfl) ?_)
    | (refine And.intro (by ((try simp (disch := omega) only [ab_tI, ab_c0, wd_ix12, wd_ix8, wd_ix10, wd_up_self, wd_up_eq, wd_up_ne, Int.toNat_natCast, Int.toNat_of_nonneg, not_true_eq_false, not_false_eq_true, Option.some.injEq]); omega)) ?_)
    | fail)
      all_goals first | exact hQ | (exfalso; omega)
    · clear h7
      rw [if_neg h7'] at hQ
      by_cases h4' : (M 102 33).toInt = 4
      · rw [if_pos h4'] at hQ
        unfold m_numb at hQ
        by_cases hcan : m_can (m_ov1 M)
        · rw [m_cani_t hcan] at hQ
          obtain ⟨hrmN, h8N⟩ := m_rm_s1 hrm1 hcan (m_number_s1 (v := M 102 34))
          obtain ⟨r1, r2, r3⟩ := id hrmN
          have hlt := m_can_lt hrm1 hcan
          have hpos := hrm1.1
          generalize hN : m_number (m_mk (m_ov1 M)) (M 102 34) = N at *
          by_cases hcan2 : m_can N
          · rw [m_cani_t hcan2] at hQ
            have hlt2 := m_can_lt hrmN hcan2
            have eK := m_mk_8 (M := N)
            generalize hK : m_mk N = K at *
            have eKi : (K 102 8).toInt = (N 102 8).toInt := by rw [eK]
            have hQ2 : Q (some (.inl (K 102 8))) (wd I P (m_pair K t (m_ov1 M 102 8)) g, k, z) := by rw [eK]; exact hQ
            have hparts : ∀ j, j < 2 → 0 ≤ (m_adds (m_adds (m_begins K (ab_ii 1) (ab_ii 0) (ab_ii 0)) (K 102 8) (ab_ii 0) t 0) (K 102 8) (ab_ii 0) (m_ov1 M 102 8) 1 108 (12 * (K 102 8).toInt.toNat + j)).toInt ∧ (m_adds (m_adds (m_begins K (ab_ii 1) (ab_ii 0) (ab_ii 0)) (K 102 8) (ab_ii 0) t 0) (K 102 8) (ab_ii 0) (m_ov1 M 102 8) 1 108 (12 * (K 102 8).toInt.toNat + j)).toInt < 3120 := fun j hj => by
              by_cases e : j = 1
              · subst e
                rw [m_adds_pt]
                omega
              · have e0 : j = 0 := by omega
                subst e0
                rw [m_adds_pn (by omega), m_adds_pt]
                omega
            have hs0 : (m_begins K (ab_ii 1) (ab_ii 0) (ab_ii 0) 105 (K 102 8).toInt.toNat).toInt = ((0 : Nat) : Int) := by rw [m_begins_sz]; rfl
            have hs1' : (m_adds (m_begins K (ab_ii 1) (ab_ii 0) (ab_ii 0)) (K 102 8) (ab_ii 0) t 0 105 (K 102 8).toInt.toNat).toInt = ((1 : Nat) : Int) := by rw [m_adds_sz]; rfl
            have hs2' : (m_adds (m_adds (m_begins K (ab_ii 1) (ab_ii 0) (ab_ii 0)) (K 102 8) (ab_ii 0) t 0) (K 102 8) (ab_ii 0) (m_ov1 M 102 8) 1 105 (K 102 8).toInt.toNat).toInt = ((2 : Nat) : Int) := by rw [m_adds_sz]; rfl
            refine wd_inC rfl (by omega) rfl ?_
            intro C9 X9 hC9 hX9
            repeat' ((conv => whnf); first
    | (apply i_getN; (focus (exact rfl)); (focus (exact rfl)); (intro v9 hv9; (try simp (disch := omega) only [ab_tI, ab_c0, wd_ix12, wd_ix8, wd_ix10, wd_up_self, wd_up_eq, wd_up_ne, Int.toNat_natCast, Int.toNat_of_nonneg, not_true_eq_false, not_false_eq_true, Option.some.injEq, e33, e34, e103, e104] at hv9); subst hv9))
    | (rw [eM1]; refine hC9 167 _ _ _ (x_numbered (by omega) hrm1 (fun hm => ?_) (fun hm => absurd hcan hm)); rw [hN])
    | (refine hC9 166 _ _ _ (x_makes (by omega) (fun hm => ?_) (fun hm => absurd hcan2 hm)); rw [hK])
    | (refine hC9 136 _ _ _ (x_begins (M := K) (by omega) (by omega) (by omega) ?_))
    | (refine hC9 151 _ _ _ (x_adds (s := 0) (by omega) (by omega) (by omega) hs0 (by decide) ?_))
    | (refine hC9 151 _ _ _ (x_adds (s := 1) (by omega) (by omega) (by omega) hs1' (by decide) ?_))
    | (refine hC9 137 _ _ _ (x_ends (s := 2) (by omega) (by omega) (by omega) hs2' (by decide) hparts ?_))
    | (intro v9 hv9; (try simp (disch := omega) only [ab_tI, ab_c0, wd_ix12, wd_ix8, wd_ix10, wd_up_self, wd_up_eq, wd_up_ne, Int.toNat_natCast, Int.toNat_of_nonneg, not_true_eq_false, not_false_eq_true, Option.some.injEq, e33, e34, e103, e104] at hv9); subst hv9)
    | (apply i_get; (focus (exact rfl)); (focus (exact rfl)))
    | (refine hX9 _ _ _ _ (wd_rnC rfl ?_); clear hC9 hX9 X9 C9; intro C9 X9 hC9 hX9)
    | (apply w_ialM; (focus (exact rfl)); (focus (exact (by first | exact ⟨by decide, by decide⟩ | ((try simp (disch := omega) only [ab_tI, ab_c0, wd_ix12, wd_ix8, wd_ix10, wd_up_self, wd_up_eq, wd_up_ne, Int.toNat_natCast, Int.toNat_of_nonneg, not_true_eq_false, not_false_eq_true, Option.some.injEq, e33, e34, e103, e104, wd_l103, wd_l104, wd_l105, wd_l106, wd_l107, wd_l108, wd_l109, wd_l110, wd_l111, wd_l112, wd_l113, wd_l114, wd_l115, wd_l116, wd_l117, wd_l118, wd_l119, wd_l120, wd_l121, wd_l122, wd_l123, wd_l124]); omega)))); (intro v9 hv9; (try simp (disch := omega) only [ab_tI, ab_c0, wd_ix12, wd_ix8, wd_ix10, wd_up_self, wd_up_eq, wd_up_ne, Int.toNat_natCast, Int.toNat_of_nonneg, not_true_eq_false, not_false_eq_true, Option.some.injEq, e33, e34, e103, e104] at hv9); subst hv9))
    | (apply w_putM; (focus (exact rfl)); (focus (first | exact trivial | exact Or.inl rfl | exact Or.inr rfl)); (focus (exact rfl)))
    | (apply w_iasM; (focus (exact rfl)); (focus (exact (by first | exact ⟨by decide, by decide⟩ | ((try simp (disch := omega) only [ab_tI, ab_c0, wd_ix12, wd_ix8, wd_ix10, wd_up_self, wd_up_eq, wd_up_ne, Int.toNat_natCast, Int.toNat_of_nonneg, not_true_eq_false, not_false_eq_true, Option.some.injEq, e33, e34, e103, e104, wd_l103, wd_l104, wd_l105, wd_l106, wd_l107, wd_l108, wd_l109, wd_l110, wd_l111, wd_l112, wd_l113, wd_l114, wd_l115, wd_l116, wd_l117, wd_l118, wd_l119, wd_l120, wd_l121, wd_l122, wd_l123, wd_l124]); omega)))); (intro v9 hv9; (try simp (disch := omega) only [ab_tI, ab_c0, wd_ix12, wd_ix8, wd_ix10, wd_up_self, wd_up_eq, wd_up_ne, Int.toNat_natCast, Int.toNat_of_nonneg, not_true_eq_false, not_false_eq_true, Option.some.injEq, e33, e34, e103, e104] at hv9); subst hv9))
    | (refine i_brF (by decide) ?_)
    | (refine i_brT (by decide) ?_)
    | (refine ⟨fun hc => ?_, fun hc => ?_⟩ <;> (try simp (disch := omega) only [ab_tI, ab_c0, wd_ix12, wd_ix8, wd_ix10, wd_up_self, wd_up_eq, wd_up_ne, Int.toNat_natCast, Int.toNat_of_nonneg, not_true_eq_false, not_false_eq_true, Option.some.injEq, e33, e34, e103, e104] at hc) <;> first | (exfalso; omega) | skip)
    | (apply i_cv; (focus (exact rfl)))
    | (apply w_balM; (focus (exact (by first | exact ⟨by decide, by decide⟩ | ((try simp (disch := omega) only [ab_tI, ab_c0, wd_ix12, wd_ix8, wd_ix10, wd_up_self, wd_up_eq, wd_up_ne, Int.toNat_natCast, Int.toNat_of_nonneg, not_true_eq_false, not_false_eq_true, Option.some.injEq, e33, e34, e103, e104, wd_l103, wd_l104, wd_l105, wd_l106, wd_l107, wd_l108, wd_l109, wd_l110, wd_l111, wd_l112, wd_l113, wd_l114, wd_l115, wd_l116, wd_l117, wd_l118, wd_l119, wd_l120, wd_l121, wd_l122, wd_l123, wd_l124]); omega)))); (intro v9 hv9; (try simp (disch := omega) only [ab_tI, ab_c0, wd_ix12, wd_ix8, wd_ix10, wd_up_self, wd_up_eq, wd_up_ne, Int.toNat_natCast, Int.toNat_of_nonneg, not_true_eq_false, not_false_eq_true, Option.some.injEq, e33, e34, e103, e104] at hv9); subst hv9))
    | (apply w_basM; (focus (exact (by first | exact ⟨by decide, by decide⟩ | ((try simp (disch := omega) only [ab_tI, ab_c0, wd_ix12, wd_ix8, wd_ix10, wd_up_self, wd_up_eq, wd_up_ne, Int.toNat_natCast, Int.toNat_of_nonneg, not_true_eq_false, not_false_eq_true, Option.some.injEq, e33, e34, e103, e104, wd_l103, wd_l104, wd_l105, wd_l106, wd_l107, wd_l108, wd_l109, wd_l110, wd_l111, wd_l112, wd_l113, wd_l114, wd_l115, wd_l116, wd_l117, wd_l118, wd_l119, wd_l120, wd_l121, wd_l122, wd_l123, wd_l124]); omega)))); (focus (first | exact Or.inl rfl | exact Or.inr rfl)); (intro v9 hv9; (try simp (disch := omega) only [ab_tI, ab_c0, wd_ix12, wd_ix8, wd_ix10, wd_up_self, wd_up_eq, wd_up_ne, Int.toNat_natCast, Int.toNat_of_nonneg, not_true_eq_false, not_false_eq_true, Option.some.injEq, e33, e34, e103, e104] at hv9); subst hv9))
    | (refine And.intro trivial ?_)
    | (refine And.intro (Or.inl rfl) ?_)
    | (refine And.intro (Or.inr rfl) ?_)
    | (refine And.intro (by ((try simp (disch := omega) only [ab_tI, ab_c0, wd_ix12, wd_ix8, wd_ix10, wd_up_self, wd_up_eq, wd_up_ne, Int.toNat_natCast, Int.toNat_of_nonneg, not_true_eq_false, not_false_eq_true, Option.some.injEq, e33, e34, e103, e104]); omega)) ?_)
    | fail)
            all_goals first | exact hQ2 | (exfalso; omega)
          · rw [m_cani_f hcan2] at hQ
            refine wd_inC rfl (by omega) rfl ?_
            intro C9 X9 hC9 hX9
            repeat' ((conv => whnf); first
    | (apply i_getN; (focus (exact rfl)); (focus (exact rfl)); (intro v9 hv9; (try simp (disch := omega) only [ab_tI, ab_c0, wd_ix12, wd_ix8, wd_ix10, wd_up_self, wd_up_eq, wd_up_ne, Int.toNat_natCast, Int.toNat_of_nonneg, not_true_eq_false, not_false_eq_true, Option.some.injEq, e33, e34, e103, e104] at hv9); subst hv9))
    | (rw [eM1]; refine hC9 167 _ _ _ (x_numbered (by omega) hrm1 (fun hm => ?_) (fun hm => absurd hcan hm)); rw [hN])
    | (refine hC9 166 _ _ _ (x_makes (by omega) (fun hm => absurd hm hcan2) (fun hm => ?_)))
    | (intro v9 hv9; (try simp (disch := omega) only [ab_tI, ab_c0, wd_ix12, wd_ix8, wd_ix10, wd_up_self, wd_up_eq, wd_up_ne, Int.toNat_natCast, Int.toNat_of_nonneg, not_true_eq_false, not_false_eq_true, Option.some.injEq, e33, e34, e103, e104] at hv9); subst hv9)
    | (apply i_get; (focus (exact rfl)); (focus (exact rfl)))
    | (refine hX9 _ _ _ _ (wd_rnC rfl ?_); clear hC9 hX9 X9 C9; intro C9 X9 hC9 hX9)
    | (apply w_ialM; (focus (exact rfl)); (focus (exact (by first | exact ⟨by decide, by decide⟩ | ((try simp (disch := omega) only [ab_tI, ab_c0, wd_ix12, wd_ix8, wd_ix10, wd_up_self, wd_up_eq, wd_up_ne, Int.toNat_natCast, Int.toNat_of_nonneg, not_true_eq_false, not_false_eq_true, Option.some.injEq, e33, e34, e103, e104, wd_l103, wd_l104, wd_l105, wd_l106, wd_l107, wd_l108, wd_l109, wd_l110, wd_l111, wd_l112, wd_l113, wd_l114, wd_l115, wd_l116, wd_l117, wd_l118, wd_l119, wd_l120, wd_l121, wd_l122, wd_l123, wd_l124]); omega)))); (intro v9 hv9; (try simp (disch := omega) only [ab_tI, ab_c0, wd_ix12, wd_ix8, wd_ix10, wd_up_self, wd_up_eq, wd_up_ne, Int.toNat_natCast, Int.toNat_of_nonneg, not_true_eq_false, not_false_eq_true, Option.some.injEq, e33, e34, e103, e104] at hv9); subst hv9))
    | (apply w_putM; (focus (exact rfl)); (focus (first | exact trivial | exact Or.inl rfl | exact Or.inr rfl)); (focus (exact rfl)))
    | (apply w_iasM; (focus (exact rfl)); (focus (exact (by first | exact ⟨by decide, by decide⟩ | ((try simp (disch := omega) only [ab_tI, ab_c0, wd_ix12, wd_ix8, wd_ix10, wd_up_self, wd_up_eq, wd_up_ne, Int.toNat_natCast, Int.toNat_of_nonneg, not_true_eq_false, not_false_eq_true, Option.some.injEq, e33, e34, e103, e104, wd_l103, wd_l104, wd_l105, wd_l106, wd_l107, wd_l108, wd_l109, wd_l110, wd_l111, wd_l112, wd_l113, wd_l114, wd_l115, wd_l116, wd_l117, wd_l118, wd_l119, wd_l120, wd_l121, wd_l122, wd_l123, wd_l124]); omega)))); (intro v9 hv9; (try simp (disch := omega) only [ab_tI, ab_c0, wd_ix12, wd_ix8, wd_ix10, wd_up_self, wd_up_eq, wd_up_ne, Int.toNat_natCast, Int.toNat_of_nonneg, not_true_eq_false, not_false_eq_true, Option.some.injEq, e33, e34, e103, e104] at hv9); subst hv9))
    | (refine i_brF (by decide) ?_)
    | (refine i_brT (by decide) ?_)
    | (refine ⟨fun hc => ?_, fun hc => ?_⟩ <;> (try simp (disch := omega) only [ab_tI, ab_c0, wd_ix12, wd_ix8, wd_ix10, wd_up_self, wd_up_eq, wd_up_ne, Int.toNat_natCast, Int.toNat_of_nonneg, not_true_eq_false, not_false_eq_true, Option.some.injEq, e33, e34, e103, e104] at hc) <;> first | (exfalso; omega) | skip)
    | (apply i_cv; (focus (exact rfl)))
    | (apply w_balM; (focus (exact (by first | exact ⟨by decide, by decide⟩ | ((try simp (disch := omega) only [ab_tI, ab_c0, wd_ix12, wd_ix8, wd_ix10, wd_up_self, wd_up_eq, wd_up_ne, Int.toNat_natCast, Int.toNat_of_nonneg, not_true_eq_false, not_false_eq_true, Option.some.injEq, e33, e34, e103, e104, wd_l103, wd_l104, wd_l105, wd_l106, wd_l107, wd_l108, wd_l109, wd_l110, wd_l111, wd_l112, wd_l113, wd_l114, wd_l115, wd_l116, wd_l117, wd_l118, wd_l119, wd_l120, wd_l121, wd_l122, wd_l123, wd_l124]); omega)))); (intro v9 hv9; (try simp (disch := omega) only [ab_tI, ab_c0, wd_ix12, wd_ix8, wd_ix10, wd_up_self, wd_up_eq, wd_up_ne, Int.toNat_natCast, Int.toNat_of_nonneg, not_true_eq_false, not_false_eq_true, Option.some.injEq, e33, e34, e103, e104] at hv9); subst hv9))
    | (apply w_basM; (focus (exact (by first | exact ⟨by decide, by decide⟩ | ((try simp (disch := omega) only [ab_tI, ab_c0, wd_ix12, wd_ix8, wd_ix10, wd_up_self, wd_up_eq, wd_up_ne, Int.toNat_natCast, Int.toNat_of_nonneg, not_true_eq_false, not_false_eq_true, Option.some.injEq, e33, e34, e103, e104, wd_l103, wd_l104, wd_l105, wd_l106, wd_l107, wd_l108, wd_l109, wd_l110, wd_l111, wd_l112, wd_l113, wd_l114, wd_l115, wd_l116, wd_l117, wd_l118, wd_l119, wd_l120, wd_l121, wd_l122, wd_l123, wd_l124]); omega)))); (focus (first | exact Or.inl rfl | exact Or.inr rfl)); (intro v9 hv9; (try simp (disch := omega) only [ab_tI, ab_c0, wd_ix12, wd_ix8, wd_ix10, wd_up_self, wd_up_eq, wd_up_ne, Int.toNat_natCast, Int.toNat_of_nonneg, not_true_eq_false, not_false_eq_true, Option.some.injEq, e33, e34, e103, e104] at hv9); subst hv9))
    | (refine And.intro trivial ?_)
    | (refine And.intro (Or.inl rfl) ?_)
    | (refine And.intro (Or.inr rfl) ?_)
    | (refine And.intro (by ((try simp (disch := omega) only [ab_tI, ab_c0, wd_ix12, wd_ix8, wd_ix10, wd_up_self, wd_up_eq, wd_up_ne, Int.toNat_natCast, Int.toNat_of_nonneg, not_true_eq_false, not_false_eq_true, Option.some.injEq, e33, e34, e103, e104]); omega)) ?_)
    | fail)
            all_goals first | exact hQ | (exfalso; omega)
        · rw [m_cani_f hcan] at hQ
          have hcan2 := m_nomk_can (M := m_ov1 M)
          rw [m_cani_f hcan2] at hQ
          refine wd_inC rfl (by omega) rfl ?_
          intro C9 X9 hC9 hX9
          repeat' ((conv => whnf); first
    | (apply i_getN; (focus (exact rfl)); (focus (exact rfl)); (intro v9 hv9; (try simp (disch := omega) only [ab_tI, ab_c0, wd_ix12, wd_ix8, wd_ix10, wd_up_self, wd_up_eq, wd_up_ne, Int.toNat_natCast, Int.toNat_of_nonneg, not_true_eq_false, not_false_eq_true, Option.some.injEq, e33, e34, e103, e104] at hv9); subst hv9))
    | (rw [eM1]; refine hC9 167 _ _ _ (x_numbered (by omega) hrm1 (fun hm => absurd hm hcan) (fun hm => ?_)))
    | (refine hC9 166 _ _ _ (x_makes (M := m_nomk (m_ov1 M)) (by omega) (fun hm => absurd hm hcan2) (fun hm => ?_)))
    | (intro v9 hv9; (try simp (disch := omega) only [ab_tI, ab_c0, wd_ix12, wd_ix8, wd_ix10, wd_up_self, wd_up_eq, wd_up_ne, Int.toNat_natCast, Int.toNat_of_nonneg, not_true_eq_false, not_false_eq_true, Option.some.injEq, e33, e34, e103, e104] at hv9); subst hv9)
    | (apply i_get; (focus (exact rfl)); (focus (exact rfl)))
    | (refine hX9 _ _ _ _ (wd_rnC rfl ?_); clear hC9 hX9 X9 C9; intro C9 X9 hC9 hX9)
    | (apply w_ialM; (focus (exact rfl)); (focus (exact (by first | exact ⟨by decide, by decide⟩ | ((try simp (disch := omega) only [ab_tI, ab_c0, wd_ix12, wd_ix8, wd_ix10, wd_up_self, wd_up_eq, wd_up_ne, Int.toNat_natCast, Int.toNat_of_nonneg, not_true_eq_false, not_false_eq_true, Option.some.injEq, e33, e34, e103, e104, wd_l103, wd_l104, wd_l105, wd_l106, wd_l107, wd_l108, wd_l109, wd_l110, wd_l111, wd_l112, wd_l113, wd_l114, wd_l115, wd_l116, wd_l117, wd_l118, wd_l119, wd_l120, wd_l121, wd_l122, wd_l123, wd_l124]); omega)))); (intro v9 hv9; (try simp (disch := omega) only [ab_tI, ab_c0, wd_ix12, wd_ix8, wd_ix10, wd_up_self, wd_up_eq, wd_up_ne, Int.toNat_natCast, Int.toNat_of_nonneg, not_true_eq_false, not_false_eq_true, Option.some.injEq, e33, e34, e103, e104] at hv9); subst hv9))
    | (apply w_putM; (focus (exact rfl)); (focus (first | exact trivial | exact Or.inl rfl | exact Or.inr rfl)); (focus (exact rfl)))
    | (apply w_iasM; (focus (exact rfl)); (focus (exact (by first | exact ⟨by decide, by decide⟩ | ((try simp (disch := omega) only [ab_tI, ab_c0, wd_ix12, wd_ix8, wd_ix10, wd_up_self, wd_up_eq, wd_up_ne, Int.toNat_natCast, Int.toNat_of_nonneg, not_true_eq_false, not_false_eq_true, Option.some.injEq, e33, e34, e103, e104, wd_l103, wd_l104, wd_l105, wd_l106, wd_l107, wd_l108, wd_l109, wd_l110, wd_l111, wd_l112, wd_l113, wd_l114, wd_l115, wd_l116, wd_l117, wd_l118, wd_l119, wd_l120, wd_l121, wd_l122, wd_l123, wd_l124]); omega)))); (intro v9 hv9; (try simp (disch := omega) only [ab_tI, ab_c0, wd_ix12, wd_ix8, wd_ix10, wd_up_self, wd_up_eq, wd_up_ne, Int.toNat_natCast, Int.toNat_of_nonneg, not_true_eq_false, not_false_eq_true, Option.some.injEq, e33, e34, e103, e104] at hv9); subst hv9))
    | (refine i_brF (by decide) ?_)
    | (refine i_brT (by decide) ?_)
    | (refine ⟨fun hc => ?_, fun hc => ?_⟩ <;> (try simp (disch := omega) only [ab_tI, ab_c0, wd_ix12, wd_ix8, wd_ix10, wd_up_self, wd_up_eq, wd_up_ne, Int.toNat_natCast, Int.toNat_of_nonneg, not_true_eq_false, not_false_eq_true, Option.some.injEq, e33, e34, e103, e104] at hc) <;> first | (exfalso; omega) | skip)
    | (apply i_cv; (focus (exact rfl)))
    | (apply w_balM; (focus (exact (by first | exact ⟨by decide, by decide⟩ | ((try simp (disch := omega) only [ab_tI, ab_c0, wd_ix12, wd_ix8, wd_ix10, wd_up_self, wd_up_eq, wd_up_ne, Int.toNat_natCast, Int.toNat_of_nonneg, not_true_eq_false, not_false_eq_true, Option.some.injEq, e33, e34, e103, e104, wd_l103, wd_l104, wd_l105, wd_l106, wd_l107, wd_l108, wd_l109, wd_l110, wd_l111, wd_l112, wd_l113, wd_l114, wd_l115, wd_l116, wd_l117, wd_l118, wd_l119, wd_l120, wd_l121, wd_l122, wd_l123, wd_l124]); omega)))); (intro v9 hv9; (try simp (disch := omega) only [ab_tI, ab_c0, wd_ix12, wd_ix8, wd_ix10, wd_up_self, wd_up_eq, wd_up_ne, Int.toNat_natCast, Int.toNat_of_nonneg, not_true_eq_false, not_false_eq_true, Option.some.injEq, e33, e34, e103, e104] at hv9); subst hv9))
    | (apply w_basM; (focus (exact (by first | exact ⟨by decide, by decide⟩ | ((try simp (disch := omega) only [ab_tI, ab_c0, wd_ix12, wd_ix8, wd_ix10, wd_up_self, wd_up_eq, wd_up_ne, Int.toNat_natCast, Int.toNat_of_nonneg, not_true_eq_false, not_false_eq_true, Option.some.injEq, e33, e34, e103, e104, wd_l103, wd_l104, wd_l105, wd_l106, wd_l107, wd_l108, wd_l109, wd_l110, wd_l111, wd_l112, wd_l113, wd_l114, wd_l115, wd_l116, wd_l117, wd_l118, wd_l119, wd_l120, wd_l121, wd_l122, wd_l123, wd_l124]); omega)))); (focus (first | exact Or.inl rfl | exact Or.inr rfl)); (intro v9 hv9; (try simp (disch := omega) only [ab_tI, ab_c0, wd_ix12, wd_ix8, wd_ix10, wd_up_self, wd_up_eq, wd_up_ne, Int.toNat_natCast, Int.toNat_of_nonneg, not_true_eq_false, not_false_eq_true, Option.some.injEq, e33, e34, e103, e104] at hv9); subst hv9))
    | (refine And.intro trivial ?_)
    | (refine And.intro (Or.inl rfl) ?_)
    | (refine And.intro (Or.inr rfl) ?_)
    | (refine And.intro (by ((try simp (disch := omega) only [ab_tI, ab_c0, wd_ix12, wd_ix8, wd_ix10, wd_up_self, wd_up_eq, wd_up_ne, Int.toNat_natCast, Int.toNat_of_nonneg, not_true_eq_false, not_false_eq_true, Option.some.injEq, e33, e34, e103, e104]); omega)) ?_)
    | fail)
          all_goals first | exact hQ | (exfalso; omega)
      · rw [if_neg h4'] at hQ
        by_cases his : m_isch (M 102 33).toInt (M 103 t.toInt.toNat).toInt
        · rw [if_pos his] at hQ
          unfold m_isch at his
          by_cases hcan : m_can (m_ov1 M)
          · rw [m_cani_t hcan] at hQ
            have hlt := m_can_lt hrm1 hcan
            have hpos := hrm1.1
            have hK8 := m_mk_8 (M := m_ov1 M)
            have hclK : m_cl (m_mk (m_ov1 M)) n := m_cl_sb (m_mk_fr (n := n) m_fr.rf).1 hcl1
            have hsK : (m_mk (m_ov1 M) 105 t.toInt.toNat).toInt = (s : Int) := by rw [show m_mk (m_ov1 M) 105 = m_ov1 M 105 from wd_up_row _ _ _ (by decide)]; exact hs1
            have e34K : m_mk (m_ov1 M) 102 34 = M 102 34 := (wd_up_ne _ _ (Or.inr (by decide))).trans e34
            have e33K : m_mk (m_ov1 M) 102 33 = M 102 33 := (wd_up_ne _ _ (Or.inr (by decide))).trans e33
            generalize hK : m_mk (m_ov1 M) = K at *
            have hK8i : (K 102 8).toInt = (m_ov1 M 102 8).toInt := by rw [hK8]
            rw [← hK8] at hQ
            refine wd_inC rfl (by omega) rfl ?_
            intro C9 X9 hC9 hX9
            repeat' ((conv => whnf); first
    | (apply i_getN; (focus (exact rfl)); (focus (exact rfl)); (intro v9 hv9; (try simp (disch := omega) only [ab_tI, ab_c0, wd_ix12, wd_ix8, wd_ix10, wd_up_self, wd_up_eq, wd_up_ne, Int.toNat_natCast, Int.toNat_of_nonneg, not_true_eq_false, not_false_eq_true, Option.some.injEq, e33, e34, e103, e104, e33K, e34K] at hv9); subst hv9))
    | (rw [eM1]; refine hC9 166 _ _ _ (x_makes (by omega) (fun hm => ?_) (fun hm => absurd hcan hm)); rw [hK])
    | (refine hC9 170 _ _ _ (x_around (M := K) (by omega) (by omega) (by omega) (by omega) ?_))
    | (refine hC9 169 _ _ _ (x_changed (M := K) (by omega) hclK ht0 ht1 (by omega) (by omega) hsK ?_))
    | (intro v9 hv9; (try simp (disch := omega) only [ab_tI, ab_c0, wd_ix12, wd_ix8, wd_ix10, wd_up_self, wd_up_eq, wd_up_ne, Int.toNat_natCast, Int.toNat_of_nonneg, not_true_eq_false, not_false_eq_true, Option.some.injEq, e33, e34, e103, e104, e33K, e34K] at hv9); subst hv9)
    | (apply i_get; (focus (exact rfl)); (focus (exact rfl)))
    | (refine hX9 _ _ _ _ (wd_rnC rfl ?_); clear hC9 hX9 X9 C9; intro C9 X9 hC9 hX9)
    | (apply w_ialM; (focus (exact rfl)); (focus (exact (by first | exact ⟨by decide, by decide⟩ | ((try simp (disch := omega) only [ab_tI, ab_c0, wd_ix12, wd_ix8, wd_ix10, wd_up_self, wd_up_eq, wd_up_ne, Int.toNat_natCast, Int.toNat_of_nonneg, not_true_eq_false, not_false_eq_true, Option.some.injEq, e33, e34, e103, e104, e33K, e34K, wd_l103, wd_l104, wd_l105, wd_l106, wd_l107, wd_l108, wd_l109, wd_l110, wd_l111, wd_l112, wd_l113, wd_l114, wd_l115, wd_l116, wd_l117, wd_l118, wd_l119, wd_l120, wd_l121, wd_l122, wd_l123, wd_l124]); omega)))); (intro v9 hv9; (try simp (disch := omega) only [ab_tI, ab_c0, wd_ix12, wd_ix8, wd_ix10, wd_up_self, wd_up_eq, wd_up_ne, Int.toNat_natCast, Int.toNat_of_nonneg, not_true_eq_false, not_false_eq_true, Option.some.injEq, e33, e34, e103, e104, e33K, e34K] at hv9); subst hv9))
    | (apply w_putM; (focus (exact rfl)); (focus (first | exact trivial | exact Or.inl rfl | exact Or.inr rfl)); (focus (exact rfl)))
    | (apply w_iasM; (focus (exact rfl)); (focus (exact (by first | exact ⟨by decide, by decide⟩ | ((try simp (disch := omega) only [ab_tI, ab_c0, wd_ix12, wd_ix8, wd_ix10, wd_up_self, wd_up_eq, wd_up_ne, Int.toNat_natCast, Int.toNat_of_nonneg, not_true_eq_false, not_false_eq_true, Option.some.injEq, e33, e34, e103, e104, e33K, e34K, wd_l103, wd_l104, wd_l105, wd_l106, wd_l107, wd_l108, wd_l109, wd_l110, wd_l111, wd_l112, wd_l113, wd_l114, wd_l115, wd_l116, wd_l117, wd_l118, wd_l119, wd_l120, wd_l121, wd_l122, wd_l123, wd_l124]); omega)))); (intro v9 hv9; (try simp (disch := omega) only [ab_tI, ab_c0, wd_ix12, wd_ix8, wd_ix10, wd_up_self, wd_up_eq, wd_up_ne, Int.toNat_natCast, Int.toNat_of_nonneg, not_true_eq_false, not_false_eq_true, Option.some.injEq, e33, e34, e103, e104, e33K, e34K] at hv9); subst hv9))
    | (refine i_brF (by decide) ?_)
    | (refine i_brT (by decide) ?_)
    | (refine ⟨fun hc => ?_, fun hc => ?_⟩ <;> (try simp (disch := omega) only [ab_tI, ab_c0, wd_ix12, wd_ix8, wd_ix10, wd_up_self, wd_up_eq, wd_up_ne, Int.toNat_natCast, Int.toNat_of_nonneg, not_true_eq_false, not_false_eq_true, Option.some.injEq, e33, e34, e103, e104, e33K, e34K] at hc) <;> first | (exfalso; omega) | skip)
    | (apply i_cv; (focus (exact rfl)))
    | (apply w_balM; (focus (exact (by first | exact ⟨by decide, by decide⟩ | ((try simp (disch := omega) only [ab_tI, ab_c0, wd_ix12, wd_ix8, wd_ix10, wd_up_self, wd_up_eq, wd_up_ne, Int.toNat_natCast, Int.toNat_of_nonneg, not_true_eq_false, not_false_eq_true, Option.some.injEq, e33, e34, e103, e104, e33K, e34K, wd_l103, wd_l104, wd_l105, wd_l106, wd_l107, wd_l108, wd_l109, wd_l110, wd_l111, wd_l112, wd_l113, wd_l114, wd_l115, wd_l116, wd_l117, wd_l118, wd_l119, wd_l120, wd_l121, wd_l122, wd_l123, wd_l124]); omega)))); (intro v9 hv9; (try simp (disch := omega) only [ab_tI, ab_c0, wd_ix12, wd_ix8, wd_ix10, wd_up_self, wd_up_eq, wd_up_ne, Int.toNat_natCast, Int.toNat_of_nonneg, not_true_eq_false, not_false_eq_true, Option.some.injEq, e33, e34, e103, e104, e33K, e34K] at hv9); subst hv9))
    | (apply w_basM; (focus (exact (by first | exact ⟨by decide, by decide⟩ | ((try simp (disch := omega) only [ab_tI, ab_c0, wd_ix12, wd_ix8, wd_ix10, wd_up_self, wd_up_eq, wd_up_ne, Int.toNat_natCast, Int.toNat_of_nonneg, not_true_eq_false, not_false_eq_true, Option.some.injEq, e33, e34, e103, e104, e33K, e34K, wd_l103, wd_l104, wd_l105, wd_l106, wd_l107, wd_l108, wd_l109, wd_l110, wd_l111, wd_l112, wd_l113, wd_l114, wd_l115, wd_l116, wd_l117, wd_l118, wd_l119, wd_l120, wd_l121, wd_l122, wd_l123, wd_l124]); omega)))); (focus (first | exact Or.inl rfl | exact Or.inr rfl)); (intro v9 hv9; (try simp (disch := omega) only [ab_tI, ab_c0, wd_ix12, wd_ix8, wd_ix10, wd_up_self, wd_up_eq, wd_up_ne, Int.toNat_natCast, Int.toNat_of_nonneg, not_true_eq_false, not_false_eq_true, Option.some.injEq, e33, e34, e103, e104, e33K, e34K] at hv9); subst hv9))
    | (refine And.intro trivial ?_)
    | (refine And.intro (Or.inl rfl) ?_)
    | (refine And.intro (Or.inr rfl) ?_)
    | (refine And.intro (by ((try simp (disch := omega) only [ab_tI, ab_c0, wd_ix12, wd_ix8, wd_ix10, wd_up_self, wd_up_eq, wd_up_ne, Int.toNat_natCast, Int.toNat_of_nonneg, not_true_eq_false, not_false_eq_true, Option.some.injEq, e33, e34, e103, e104, e33K, e34K]); omega)) ?_)
    | fail)
            all_goals (repeat' (split at hQ)) <;> first | exact hQ | (exfalso; omega)
          · rw [m_cani_f hcan] at hQ
            refine wd_inC rfl (by omega) rfl ?_
            intro C9 X9 hC9 hX9
            repeat' ((conv => whnf); first
    | (apply i_getN; (focus (exact rfl)); (focus (exact rfl)); (intro v9 hv9; (try simp (disch := omega) only [ab_tI, ab_c0, wd_ix12, wd_ix8, wd_ix10, wd_up_self, wd_up_eq, wd_up_ne, Int.toNat_natCast, Int.toNat_of_nonneg, not_true_eq_false, not_false_eq_true, Option.some.injEq, e33, e34, e103, e104] at hv9); subst hv9))
    | (rw [eM1]; refine hC9 166 _ _ _ (x_makes (by omega) (fun hm => absurd hm hcan) (fun hm => ?_)))
    | (intro v9 hv9; (try simp (disch := omega) only [ab_tI, ab_c0, wd_ix12, wd_ix8, wd_ix10, wd_up_self, wd_up_eq, wd_up_ne, Int.toNat_natCast, Int.toNat_of_nonneg, not_true_eq_false, not_false_eq_true, Option.some.injEq, e33, e34, e103, e104] at hv9); subst hv9)
    | (apply i_get; (focus (exact rfl)); (focus (exact rfl)))
    | (refine hX9 _ _ _ _ (wd_rnC rfl ?_); clear hC9 hX9 X9 C9; intro C9 X9 hC9 hX9)
    | (apply w_ialM; (focus (exact rfl)); (focus (exact (by first | exact ⟨by decide, by decide⟩ | ((try simp (disch := omega) only [ab_tI, ab_c0, wd_ix12, wd_ix8, wd_ix10, wd_up_self, wd_up_eq, wd_up_ne, Int.toNat_natCast, Int.toNat_of_nonneg, not_true_eq_false, not_false_eq_true, Option.some.injEq, e33, e34, e103, e104, wd_l103, wd_l104, wd_l105, wd_l106, wd_l107, wd_l108, wd_l109, wd_l110, wd_l111, wd_l112, wd_l113, wd_l114, wd_l115, wd_l116, wd_l117, wd_l118, wd_l119, wd_l120, wd_l121, wd_l122, wd_l123, wd_l124]); omega)))); (intro v9 hv9; (try simp (disch := omega) only [ab_tI, ab_c0, wd_ix12, wd_ix8, wd_ix10, wd_up_self, wd_up_eq, wd_up_ne, Int.toNat_natCast, Int.toNat_of_nonneg, not_true_eq_false, not_false_eq_true, Option.some.injEq, e33, e34, e103, e104] at hv9); subst hv9))
    | (apply w_putM; (focus (exact rfl)); (focus (first | exact trivial | exact Or.inl rfl | exact Or.inr rfl)); (focus (exact rfl)))
    | (apply w_iasM; (focus (exact rfl)); (focus (exact (by first | exact ⟨by decide, by decide⟩ | ((try simp (disch := omega) only [ab_tI, ab_c0, wd_ix12, wd_ix8, wd_ix10, wd_up_self, wd_up_eq, wd_up_ne, Int.toNat_natCast, Int.toNat_of_nonneg, not_true_eq_false, not_false_eq_true, Option.some.injEq, e33, e34, e103, e104, wd_l103, wd_l104, wd_l105, wd_l106, wd_l107, wd_l108, wd_l109, wd_l110, wd_l111, wd_l112, wd_l113, wd_l114, wd_l115, wd_l116, wd_l117, wd_l118, wd_l119, wd_l120, wd_l121, wd_l122, wd_l123, wd_l124]); omega)))); (intro v9 hv9; (try simp (disch := omega) only [ab_tI, ab_c0, wd_ix12, wd_ix8, wd_ix10, wd_up_self, wd_up_eq, wd_up_ne, Int.toNat_natCast, Int.toNat_of_nonneg, not_true_eq_false, not_false_eq_true, Option.some.injEq, e33, e34, e103, e104] at hv9); subst hv9))
    | (refine i_brF (by decide) ?_)
    | (refine i_brT (by decide) ?_)
    | (refine ⟨fun hc => ?_, fun hc => ?_⟩ <;> (try simp (disch := omega) only [ab_tI, ab_c0, wd_ix12, wd_ix8, wd_ix10, wd_up_self, wd_up_eq, wd_up_ne, Int.toNat_natCast, Int.toNat_of_nonneg, not_true_eq_false, not_false_eq_true, Option.some.injEq, e33, e34, e103, e104] at hc) <;> first | (exfalso; omega) | skip)
    | (apply i_cv; (focus (exact rfl)))
    | (apply w_balM; (focus (exact (by first | exact ⟨by decide, by decide⟩ | ((try simp (disch := omega) only [ab_tI, ab_c0, wd_ix12, wd_ix8, wd_ix10, wd_up_self, wd_up_eq, wd_up_ne, Int.toNat_natCast, Int.toNat_of_nonneg, not_true_eq_false, not_false_eq_true, Option.some.injEq, e33, e34, e103, e104, wd_l103, wd_l104, wd_l105, wd_l106, wd_l107, wd_l108, wd_l109, wd_l110, wd_l111, wd_l112, wd_l113, wd_l114, wd_l115, wd_l116, wd_l117, wd_l118, wd_l119, wd_l120, wd_l121, wd_l122, wd_l123, wd_l124]); omega)))); (intro v9 hv9; (try simp (disch := omega) only [ab_tI, ab_c0, wd_ix12, wd_ix8, wd_ix10, wd_up_self, wd_up_eq, wd_up_ne, Int.toNat_natCast, Int.toNat_of_nonneg, not_true_eq_false, not_false_eq_true, Option.some.injEq, e33, e34, e103, e104] at hv9); subst hv9))
    | (apply w_basM; (focus (exact (by first | exact ⟨by decide, by decide⟩ | ((try simp (disch := omega) only [ab_tI, ab_c0, wd_ix12, wd_ix8, wd_ix10, wd_up_self, wd_up_eq, wd_up_ne, Int.toNat_natCast, Int.toNat_of_nonneg, not_true_eq_false, not_false_eq_true, Option.some.injEq, e33, e34, e103, e104, wd_l103, wd_l104, wd_l105, wd_l106, wd_l107, wd_l108, wd_l109, wd_l110, wd_l111, wd_l112, wd_l113, wd_l114, wd_l115, wd_l116, wd_l117, wd_l118, wd_l119, wd_l120, wd_l121, wd_l122, wd_l123, wd_l124]); omega)))); (focus (first | exact Or.inl rfl | exact Or.inr rfl)); (intro v9 hv9; (try simp (disch := omega) only [ab_tI, ab_c0, wd_ix12, wd_ix8, wd_ix10, wd_up_self, wd_up_eq, wd_up_ne, Int.toNat_natCast, Int.toNat_of_nonneg, not_true_eq_false, not_false_eq_true, Option.some.injEq, e33, e34, e103, e104] at hv9); subst hv9))
    | (refine And.intro trivial ?_)
    | (refine And.intro (Or.inl rfl) ?_)
    | (refine And.intro (Or.inr rfl) ?_)
    | (refine And.intro (by ((try simp (disch := omega) only [ab_tI, ab_c0, wd_ix12, wd_ix8, wd_ix10, wd_up_self, wd_up_eq, wd_up_ne, Int.toNat_natCast, Int.toNat_of_nonneg, not_true_eq_false, not_false_eq_true, Option.some.injEq, e33, e34, e103, e104]); omega)) ?_)
    | fail)
            all_goals first | exact hQ | (exfalso; omega)
        · rw [if_neg his] at hQ
          unfold m_isch at his
          refine wd_inC rfl (by omega) rfl ?_
          intro C9 X9 hC9 hX9
          repeat' ((conv => whnf); first
    | (apply i_getN; (focus (exact rfl)); (focus (exact rfl)); (intro v9 hv9; (try simp (disch := omega) only [ab_tI, ab_c0, wd_ix12, wd_ix8, wd_ix10, wd_up_self, wd_up_eq, wd_up_ne, Int.toNat_natCast, Int.toNat_of_nonneg, not_true_eq_false, not_false_eq_true, Option.some.injEq, e33, e34, e103, e104] at hv9); subst hv9))
    | (refine hC9 166 _ _ _ ?_; exfalso; omega)
    | (intro v9 hv9; (try simp (disch := omega) only [ab_tI, ab_c0, wd_ix12, wd_ix8, wd_ix10, wd_up_self, wd_up_eq, wd_up_ne, Int.toNat_natCast, Int.toNat_of_nonneg, not_true_eq_false, not_false_eq_true, Option.some.injEq, e33, e34, e103, e104] at hv9); subst hv9)
    | (apply i_get; (focus (exact rfl)); (focus (exact rfl)))
    | (refine hX9 _ _ _ _ (wd_rnC rfl ?_); clear hC9 hX9 X9 C9; intro C9 X9 hC9 hX9)
    | (apply w_ialM; (focus (exact rfl)); (focus (exact (by first | exact ⟨by decide, by decide⟩ | ((try simp (disch := omega) only [ab_tI, ab_c0, wd_ix12, wd_ix8, wd_ix10, wd_up_self, wd_up_eq, wd_up_ne, Int.toNat_natCast, Int.toNat_of_nonneg, not_true_eq_false, not_false_eq_true, Option.some.injEq, e33, e34, e103, e104, wd_l103, wd_l104, wd_l105, wd_l106, wd_l107, wd_l108, wd_l109, wd_l110, wd_l111, wd_l112, wd_l113, wd_l114, wd_l115, wd_l116, wd_l117, wd_l118, wd_l119, wd_l120, wd_l121, wd_l122, wd_l123, wd_l124]); omega)))); (intro v9 hv9; (try simp (disch := omega) only [ab_tI, ab_c0, wd_ix12, wd_ix8, wd_ix10, wd_up_self, wd_up_eq, wd_up_ne, Int.toNat_natCast, Int.toNat_of_nonneg, not_true_eq_false, not_false_eq_true, Option.some.injEq, e33, e34, e103, e104] at hv9); subst hv9))
    | (apply w_putM; (focus (exact rfl)); (focus (first | exact trivial | exact Or.inl rfl | exact Or.inr rfl)); (focus (exact rfl)))
    | (apply w_iasM; (focus (exact rfl)); (focus (exact (by first | exact ⟨by decide, by decide⟩ | ((try simp (disch := omega) only [ab_tI, ab_c0, wd_ix12, wd_ix8, wd_ix10, wd_up_self, wd_up_eq, wd_up_ne, Int.toNat_natCast, Int.toNat_of_nonneg, not_true_eq_false, not_false_eq_true, Option.some.injEq, e33, e34, e103, e104, wd_l103, wd_l104, wd_l105, wd_l106, wd_l107, wd_l108, wd_l109, wd_l110, wd_l111, wd_l112, wd_l113, wd_l114, wd_l115, wd_l116, wd_l117, wd_l118, wd_l119, wd_l120, wd_l121, wd_l122, wd_l123, wd_l124]); omega)))); (intro v9 hv9; (try simp (disch := omega) only [ab_tI, ab_c0, wd_ix12, wd_ix8, wd_ix10, wd_up_self, wd_up_eq, wd_up_ne, Int.toNat_natCast, Int.toNat_of_nonneg, not_true_eq_false, not_false_eq_true, Option.some.injEq, e33, e34, e103, e104] at hv9); subst hv9))
    | (refine i_brF (by decide) ?_)
    | (refine i_brT (by decide) ?_)
    | (refine ⟨fun hc => ?_, fun hc => ?_⟩ <;> (try simp (disch := omega) only [ab_tI, ab_c0, wd_ix12, wd_ix8, wd_ix10, wd_up_self, wd_up_eq, wd_up_ne, Int.toNat_natCast, Int.toNat_of_nonneg, not_true_eq_false, not_false_eq_true, Option.some.injEq, e33, e34, e103, e104] at hc) <;> first | (exfalso; omega) | skip)
    | (apply i_cv; (focus (exact rfl)))
    | (apply w_balM; (focus (exact (by first | exact ⟨by decide, by decide⟩ | ((try simp (disch := omega) only [ab_tI, ab_c0, wd_ix12, wd_ix8, wd_ix10, wd_up_self, wd_up_eq, wd_up_ne, Int.toNat_natCast, Int.toNat_of_nonneg, not_true_eq_false, not_false_eq_true, Option.some.injEq, e33, e34, e103, e104, wd_l103, wd_l104, wd_l105, wd_l106, wd_l107, wd_l108, wd_l109, wd_l110, wd_l111, wd_l112, wd_l113, wd_l114, wd_l115, wd_l116, wd_l117, wd_l118, wd_l119, wd_l120, wd_l121, wd_l122, wd_l123, wd_l124]); omega)))); (intro v9 hv9; (try simp (disch := omega) only [ab_tI, ab_c0, wd_ix12, wd_ix8, wd_ix10, wd_up_self, wd_up_eq, wd_up_ne, Int.toNat_natCast, Int.toNat_of_nonneg, not_true_eq_false, not_false_eq_true, Option.some.injEq, e33, e34, e103, e104] at hv9); subst hv9))
    | (apply w_basM; (focus (exact (by first | exact ⟨by decide, by decide⟩ | ((try simp (disch := omega) only [ab_tI, ab_c0, wd_ix12, wd_ix8, wd_ix10, wd_up_self, wd_up_eq, wd_up_ne, Int.toNat_natCast, Int.toNat_of_nonneg, not_true_eq_false, not_false_eq_true, Option.some.injEq, e33, e34, e103, e104, wd_l103, wd_l104, wd_l105, wd_l106, wd_l107, wd_l108, wd_l109, wd_l110, wd_l111, wd_l112, wd_l113, wd_l114, wd_l115, wd_l116, wd_l117, wd_l118, wd_l119, wd_l120, wd_l121, wd_l122, wd_l123, wd_l124]); omega)))); (focus (first | exact Or.inl rfl | exact Or.inr rfl)); (intro v9 hv9; (try simp (disch := omega) only [ab_tI, ab_c0, wd_ix12, wd_ix8, wd_ix10, wd_up_self, wd_up_eq, wd_up_ne, Int.toNat_natCast, Int.toNat_of_nonneg, not_true_eq_false, not_false_eq_true, Option.some.injEq, e33, e34, e103, e104] at hv9); subst hv9))
    | (refine And.intro trivial ?_)
    | (refine And.intro (Or.inl rfl) ?_)
    | (refine And.intro (Or.inr rfl) ?_)
    | (refine And.intro (by ((try simp (disch := omega) only [ab_tI, ab_c0, wd_ix12, wd_ix8, wd_ix10, wd_up_self, wd_up_eq, wd_up_ne, Int.toNat_natCast, Int.toNat_of_nonneg, not_true_eq_false, not_false_eq_true, Option.some.injEq, e33, e34, e103, e104]); omega)) ?_)
    | fail)
          all_goals first | exact hQ | (exfalso; omega)
