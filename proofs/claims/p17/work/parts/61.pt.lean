/-! ===== the reference: put (own text) ===== -/
theorem m_key_lt {M : wd_I} {t s : Nat} (h : ∀ j, j + 1 < s → (M 109 (12 * t + j)).toInt < (M 109 (12 * t + (j + 1))).toInt) : ∀ i j, i < j → j < s → (M 109 (12 * t + i)).toInt < (M 109 (12 * t + j)).toInt
  | i, 0, hi, _ => absurd hi (Nat.not_lt_zero _)
  | i, j + 1, hi, hj => by
    have h1 := h j hj
    by_cases e : i = j
    · subst e; exact h1
    · have := m_key_lt h i j (by omega) (by omega)
      omega
theorem m_hk_ex {M : wd_I} {t : Nat} {key : Int32} : ∀ s, ¬ (m_hk M t key s).toInt = 0 → ∃ j, j < s ∧ (M 109 (12 * t + j)).toInt = key.toInt
  | 0, h => absurd (by unfold m_hk; decide) h
  | s + 1, h => by
    unfold m_hk at h
    split at h
    next hc => exact absurd (by decide) h
    next hc =>
      by_cases e : (M 109 (12 * t + s)).toInt = key.toInt
      · exact ⟨s, by omega, e⟩
      · obtain ⟨j, hj, h2⟩ := m_hk_ex s (fun q => hc ⟨q, e⟩)
        exact ⟨j, by omega, h2⟩
theorem m_ppos_at {M : wd_I} {t s j : Nat} {key : Int32} (hs : ∀ j, j + 1 < s → (M 109 (12 * t + j)).toInt < (M 109 (12 * t + (j + 1))).toInt) (hj : j < s) (hk : (M 109 (12 * t + j)).toInt = key.toInt) : ∀ n i, i + n = s → i ≤ j → m_ppos M t key n i = j
  | 0, i, hi, hij => by omega
  | n + 1, i, hi, hij => by
    unfold m_ppos
    by_cases e : i = j
    · subst e; rw [if_neg (by omega)]
    · have := m_key_lt hs i j (by omega) hj
      rw [if_pos (by omega)]
      exact m_ppos_at hs hj hk n (i + 1) (by omega) (by omega)
theorem m_pn_has {M : wd_I} {t key : Int32} {s : Nat} (hs : ∀ j, j + 1 < s → (M 109 (12 * t.toInt.toNat + j)).toInt < (M 109 (12 * t.toInt.toNat + (j + 1))).toInt) (h : ∃ j, j < s ∧ (M 109 (12 * t.toInt.toNat + j)).toInt = key.toInt) : ¬ m_pn M t key s := by
  obtain ⟨j, hj, hk⟩ := h
  have e : m_pk M t key s = j := m_ppos_at hs hj hk s 0 (by omega) (by omega)
  unfold m_pn
  rw [e]
  omega
def m_pA (M : wd_I) (what : Int) (map y n : Int32) (s : Nat) : wd_I := if what = 2 then m_puts (m_copyOf M map s) (M 102 8) (ab_ii (n.toInt + 1)) y s else m_adds (m_adds (m_begins M (ab_ii (if what = 0 then 1 else 2)) (ab_ii 0) (ab_ii 0)) (M 102 8) (ab_ii 0) map 0) (M 102 8) (ab_ii 0) y 1
def m_pW (M : wd_I) (what : Int) (map y n : Int32) (s : Nat) : wd_I := m_ends (m_pA M what map y n s) (M 102 8) (m_sz (m_pA M what map y n s) (M 102 8))
def m_pok (s what a b n : Int32) : Prop := m_sh s ∧ (0 ≤ what.toInt ∧ what.toInt ≤ 2) ∧ m_sh a ∧ m_sh b ∧ (what.toInt = 2 → 0 ≤ n.toInt ∧ n.toInt ≤ 25)
set_option maxHeartbeats 4000000 in
set_option maxRecDepth 100000 in
theorem x_put_b {d : Nat} (hd : 3 ≤ d) {I : wd_I} {P : wd_P} {M : wd_I} {g : Nat → ab_C} {k z : Nat} {s what a b n : Int32} {Q : ab_Q} (h : ¬ m_pok s what a b n) (hQ : Q (some (.inl (ab_ii (-2)))) (wd I P M g, k, z)) : ab_CT d 175 [wd_v 102, .inl s, .inl what, .inl a, .inl b, .inl n] (wd I P M g, k, z) Q := by
  unfold m_pok m_sh at h
  refine wd_inC rfl (by omega) rfl ?_
  intro C9 X9 hC9 hX9
  repeat' ((conv => whnf); first
    | (refine hC9 134 _ _ _ (x_isShelf (by omega) (fun hc hc2 => ?_) (fun hc => ?_)))
    | (refine hC9 133 _ _ _ (x_in (by omega) (fun hc hc2 => ?_) (fun hc => ?_)) <;> (try simp (disch := omega) only [ab_tI, ab_c0, wd_ix12, wd_ix8, wd_ix10, wd_up_self, wd_up_eq, wd_up_ne, Int.toNat_natCast, Int.toNat_of_nonneg, not_true_eq_false, not_false_eq_true, Option.some.injEq] at hc) <;> (try simp (disch := omega) only [ab_tI, ab_c0, wd_ix12, wd_ix8, wd_ix10, wd_up_self, wd_up_eq, wd_up_ne, Int.toNat_natCast, Int.toNat_of_nonneg, not_true_eq_false, not_false_eq_true, Option.some.injEq] at hc2))
    | (intro v9 hv9; (try simp (disch := omega) only [ab_tI, ab_c0, wd_ix12, wd_ix8, wd_ix10, wd_up_self, wd_up_eq, wd_up_ne, Int.toNat_natCast, Int.toNat_of_nonneg, not_true_eq_false, not_false_eq_true, Option.some.injEq] at hv9); subst hv9)
    | (apply i_get; (focus (exact rfl)); (focus (exact rfl)))
    | (refine hX9 _ _ _ _ (wd_rnC rfl ?_); clear hC9 hX9 X9 C9; intro C9 X9 hC9 hX9)
    | (apply w_ialM; (focus (exact rfl)); (focus (exact (by first | exact ⟨by decide, by decide⟩ | ((try simp (disch := omega) only [ab_tI, ab_c0, wd_ix12, wd_ix8, wd_ix10, wd_up_self, wd_up_eq, wd_up_ne, Int.toNat_natCast, Int.toNat_of_nonneg, not_true_eq_false, not_false_eq_true, Option.some.injEq, wd_l103, wd_l104, wd_l105, wd_l106, wd_l107, wd_l108, wd_l109, wd_l110, wd_l111, wd_l112, wd_l113, wd_l114, wd_l115, wd_l116, wd_l117, wd_l118, wd_l119, wd_l120, wd_l121, wd_l122, wd_l123, wd_l124]); omega)))); (intro v9 hv9; (try simp (disch := omega) only [ab_tI, ab_c0, wd_ix12, wd_ix8, wd_ix10, wd_up_self, wd_up_eq, wd_up_ne, Int.toNat_natCast, Int.toNat_of_nonneg, not_true_eq_false, not_false_eq_true, Option.some.injEq] at hv9); subst hv9))
    | (apply w_putM; (focus (exact rfl)); (focus (first | exact trivial | exact Or.inl rfl | exact Or.inr rfl)); (focus (exact rfl)))
    | (apply w_iasM; (focus (exact rfl)); (focus (exact (by first | exact ⟨by decide, by decide⟩ | ((try simp (disch := omega) only [ab_tI, ab_c0, wd_ix12, wd_ix8, wd_ix10, wd_up_self, wd_up_eq, wd_up_ne, Int.toNat_natCast, Int.toNat_of_nonneg, not_true_eq_false, not_false_eq_true, Option.some.injEq, wd_l103, wd_l104, wd_l105, wd_l106, wd_l107, wd_l108, wd_l109, wd_l110, wd_l111, wd_l112, wd_l113, wd_l114, wd_l115, wd_l116, wd_l117, wd_l118, wd_l119, wd_l120, wd_l121, wd_l122, wd_l123, wd_l124]); omega)))); (intro v9 hv9; (try simp (disch := omega) only [ab_tI, ab_c0, wd_ix12, wd_ix8, wd_ix10, wd_up_self, wd_up_eq, wd_up_ne, Int.toNat_natCast, Int.toNat_of_nonneg, not_true_eq_false, not_false_eq_true, Option.some.injEq] at hv9); subst hv9))
    | (refine i_brF (by decide) ?_)
    | (refine i_brT (by decide) ?_)
    | (refine ⟨fun hc => ?_, fun hc => ?_⟩ <;> (try simp (disch := omega) only [ab_tI, ab_c0, wd_ix12, wd_ix8, wd_ix10, wd_up_self, wd_up_eq, wd_up_ne, Int.toNat_natCast, Int.toNat_of_nonneg, not_true_eq_false, not_false_eq_true, Option.some.injEq] at hc) <;> first | (exfalso; omega) | skip)
    | (apply i_cv; (focus (exact rfl)))
    | (apply w_balM; (focus (exact (by first | exact ⟨by decide, by decide⟩ | ((try simp (disch := omega) only [ab_tI, ab_c0, wd_ix12, wd_ix8, wd_ix10, wd_up_self, wd_up_eq, wd_up_ne, Int.toNat_natCast, Int.toNat_of_nonneg, not_true_eq_false, not_false_eq_true, Option.some.injEq, wd_l103, wd_l104, wd_l105, wd_l106, wd_l107, wd_l108, wd_l109, wd_l110, wd_l111, wd_l112, wd_l113, wd_l114, wd_l115, wd_l116, wd_l117, wd_l118, wd_l119, wd_l120, wd_l121, wd_l122, wd_l123, wd_l124]); omega)))); (intro v9 hv9; (try simp (disch := omega) only [ab_tI, ab_c0, wd_ix12, wd_ix8, wd_ix10, wd_up_self, wd_up_eq, wd_up_ne, Int.toNat_natCast, Int.toNat_of_nonneg, not_true_eq_false, not_false_eq_true, Option.some.injEq] at hv9); subst hv9))
    | (apply w_basM; (focus (exact (by first | exact ⟨by decide, by decide⟩ | ((try simp (disch := omega) only [ab_tI, ab_c0, wd_ix12, wd_ix8, wd_ix10, wd_up_self, wd_up_eq, wd_up_ne, Int.toNat_natCast, Int.toNat_of_nonneg, not_true_eq_false, not_false_eq_true, Option.some.injEq, wd_l103, wd_l104, wd_l105, wd_l106, wd_l107, wd_l108, wd_l109, wd_l110, wd_l111, wd_l112, wd_l113, wd_l114, wd_l115, wd_l116, wd_l117, wd_l118, wd_l119, wd_l120, wd_l121, wd_l122, wd_l123, wd_l124]); omega)))); (focus (first | exact Or.inl rfl | exact Or.inr rfl)); (intro v9 hv9; (try simp (disch := omega) only [ab_tI, ab_c0, wd_ix12, wd_ix8, wd_ix10, wd_up_self, wd_up_eq, wd_up_ne, Int.toNat_natCast, Int.toNat_of_nonneg, not_true_eq_false, not_false_eq_true, Option.some.injEq] at hv9); subst hv9))
    | (refine And.intro trivial ?_)
    | (refine And.intro (Or.inl rfl) ?_)
    | (refine And.intro (Or.inr rfl) ?_)
    | (refine And.intro (by ((try simp (disch := omega) only [ab_tI, ab_c0, wd_ix12, wd_ix8, wd_ix10, wd_up_self, wd_up_eq, wd_up_ne, Int.toNat_natCast, Int.toNat_of_nonneg, not_true_eq_false, not_false_eq_true, Option.some.injEq]); omega)) ?_)
    | fail)
  all_goals first | exact hQ | (exfalso; omega)
set_option maxHeartbeats 4000000 in
set_option maxRecDepth 100000 in
theorem x_put_S {d : Nat} (hd : 3 ≤ d) {I : wd_I} {P : wd_P} {M : wd_I} {g : Nat → ab_C} {k z : Nat} {s what a b n : Int32} {Q : ab_Q} (h : m_pok s what a b n) (h2 : what.toInt = 2) (hm : 0 ≤ (M 110 a.toInt.toNat).toInt ∧ (M 110 a.toInt.toNat).toInt < 3120) (hk : ¬ (M 103 (M 110 a.toInt.toNat).toInt.toNat).toInt = 3) (hQ : Q (some (.inl (ab_ii (-3)))) (wd I P M g, k, z)) : ab_CT d 175 [wd_v 102, .inl s, .inl what, .inl a, .inl b, .inl n] (wd I P M g, k, z) Q := by
  unfold m_pok m_sh at h
  refine wd_inC rfl (by omega) rfl ?_
  intro C9 X9 hC9 hX9
  repeat' ((conv => whnf); first
    | (refine hC9 134 _ _ _ (x_isShelf (by omega) (fun hc hc2 => ?_) (fun hc => ?_)) <;> (try (exfalso; omega)))
    | (refine hC9 133 _ _ _ (x_in (by omega) (fun hc hc2 => ?_) (fun hc => ?_)) <;> (try simp (disch := omega) only [ab_tI, ab_c0, wd_ix12, wd_ix8, wd_ix10, wd_up_self, wd_up_eq, wd_up_ne, Int.toNat_natCast, Int.toNat_of_nonneg, not_true_eq_false, not_false_eq_true, Option.some.injEq] at hc) <;> (try simp (disch := omega) only [ab_tI, ab_c0, wd_ix12, wd_ix8, wd_ix10, wd_up_self, wd_up_eq, wd_up_ne, Int.toNat_natCast, Int.toNat_of_nonneg, not_true_eq_false, not_false_eq_true, Option.some.injEq] at hc2))
    | (intro v9 hv9; (try simp (disch := omega) only [ab_tI, ab_c0, wd_ix12, wd_ix8, wd_ix10, wd_up_self, wd_up_eq, wd_up_ne, Int.toNat_natCast, Int.toNat_of_nonneg, not_true_eq_false, not_false_eq_true, Option.some.injEq] at hv9); subst hv9)
    | (apply i_get; (focus (exact rfl)); (focus (exact rfl)))
    | (refine hX9 _ _ _ _ (wd_rnC rfl ?_); clear hC9 hX9 X9 C9; intro C9 X9 hC9 hX9)
    | (apply w_ialM; (focus (exact rfl)); (focus (exact (by first | exact ⟨by decide, by decide⟩ | ((try simp (disch := omega) only [ab_tI, ab_c0, wd_ix12, wd_ix8, wd_ix10, wd_up_self, wd_up_eq, wd_up_ne, Int.toNat_natCast, Int.toNat_of_nonneg, not_true_eq_false, not_false_eq_true, Option.some.injEq, wd_l103, wd_l104, wd_l105, wd_l106, wd_l107, wd_l108, wd_l109, wd_l110, wd_l111, wd_l112, wd_l113, wd_l114, wd_l115, wd_l116, wd_l117, wd_l118, wd_l119, wd_l120, wd_l121, wd_l122, wd_l123, wd_l124]); omega)))); (intro v9 hv9; (try simp (disch := omega) only [ab_tI, ab_c0, wd_ix12, wd_ix8, wd_ix10, wd_up_self, wd_up_eq, wd_up_ne, Int.toNat_natCast, Int.toNat_of_nonneg, not_true_eq_false, not_false_eq_true, Option.some.injEq] at hv9); subst hv9))
    | (apply w_putM; (focus (exact rfl)); (focus (first | exact trivial | exact Or.inl rfl | exact Or.inr rfl)); (focus (exact rfl)))
    | (apply w_iasM; (focus (exact rfl)); (focus (exact (by first | exact ⟨by decide, by decide⟩ | ((try simp (disch := omega) only [ab_tI, ab_c0, wd_ix12, wd_ix8, wd_ix10, wd_up_self, wd_up_eq, wd_up_ne, Int.toNat_natCast, Int.toNat_of_nonneg, not_true_eq_false, not_false_eq_true, Option.some.injEq, wd_l103, wd_l104, wd_l105, wd_l106, wd_l107, wd_l108, wd_l109, wd_l110, wd_l111, wd_l112, wd_l113, wd_l114, wd_l115, wd_l116, wd_l117, wd_l118, wd_l119, wd_l120, wd_l121, wd_l122, wd_l123, wd_l124]); omega)))); (intro v9 hv9; (try simp (disch := omega) only [ab_tI, ab_c0, wd_ix12, wd_ix8, wd_ix10, wd_up_self, wd_up_eq, wd_up_ne, Int.toNat_natCast, Int.toNat_of_nonneg, not_true_eq_false, not_false_eq_true, Option.some.injEq] at hv9); subst hv9))
    | (refine i_brF (by decide) ?_)
    | (refine i_brT (by decide) ?_)
    | (refine ⟨fun hc => ?_, fun hc => ?_⟩ <;> (try simp (disch := omega) only [ab_tI, ab_c0, wd_ix12, wd_ix8, wd_ix10, wd_up_self, wd_up_eq, wd_up_ne, Int.toNat_natCast, Int.toNat_of_nonneg, not_true_eq_false, not_false_eq_true, Option.some.injEq] at hc) <;> first | (exfalso; omega) | skip)
    | (apply i_cv; (focus (exact rfl)))
    | (apply w_balM; (focus (exact (by first | exact ⟨by decide, by decide⟩ | ((try simp (disch := omega) only [ab_tI, ab_c0, wd_ix12, wd_ix8, wd_ix10, wd_up_self, wd_up_eq, wd_up_ne, Int.toNat_natCast, Int.toNat_of_nonneg, not_true_eq_false, not_false_eq_true, Option.some.injEq, wd_l103, wd_l104, wd_l105, wd_l106, wd_l107, wd_l108, wd_l109, wd_l110, wd_l111, wd_l112, wd_l113, wd_l114, wd_l115, wd_l116, wd_l117, wd_l118, wd_l119, wd_l120, wd_l121, wd_l122, wd_l123, wd_l124]); omega)))); (intro v9 hv9; (try simp (disch := omega) only [ab_tI, ab_c0, wd_ix12, wd_ix8, wd_ix10, wd_up_self, wd_up_eq, wd_up_ne, Int.toNat_natCast, Int.toNat_of_nonneg, not_true_eq_false, not_false_eq_true, Option.some.injEq] at hv9); subst hv9))
    | (apply w_basM; (focus (exact (by first | exact ⟨by decide, by decide⟩ | ((try simp (disch := omega) only [ab_tI, ab_c0, wd_ix12, wd_ix8, wd_ix10, wd_up_self, wd_up_eq, wd_up_ne, Int.toNat_natCast, Int.toNat_of_nonneg, not_true_eq_false, not_false_eq_true, Option.some.injEq, wd_l103, wd_l104, wd_l105, wd_l106, wd_l107, wd_l108, wd_l109, wd_l110, wd_l111, wd_l112, wd_l113, wd_l114, wd_l115, wd_l116, wd_l117, wd_l118, wd_l119, wd_l120, wd_l121, wd_l122, wd_l123, wd_l124]); omega)))); (focus (first | exact Or.inl rfl | exact Or.inr rfl)); (intro v9 hv9; (try simp (disch := omega) only [ab_tI, ab_c0, wd_ix12, wd_ix8, wd_ix10, wd_up_self, wd_up_eq, wd_up_ne, Int.toNat_natCast, Int.toNat_of_nonneg, not_true_eq_false, not_false_eq_true, Option.some.injEq] at hv9); subst hv9))
    | (refine And.intro trivial ?_)
    | (refine And.intro (Or.inl rfl) ?_)
    | (refine And.intro (Or.inr rfl) ?_)
    | (refine And.intro (by ((try simp (disch := omega) only [ab_tI, ab_c0, wd_ix12, wd_ix8, wd_ix10, wd_up_self, wd_up_eq, wd_up_ne, Int.toNat_natCast, Int.toNat_of_nonneg, not_true_eq_false, not_false_eq_true, Option.some.injEq]); omega)) ?_)
    | fail)
  all_goals first | exact hQ | (exfalso; omega)
set_option maxHeartbeats 4000000 in
set_option maxRecDepth 100000 in
theorem x_put_F {d : Nat} (hd : 3 ≤ d) {I : wd_I} {P : wd_P} {M : wd_I} {g : Nat → ab_C} {k z : Nat} {s what a b n : Int32} {Q : ab_Q} (h : m_pok s what a b n) (h2 : what.toInt = 2) (hm : 0 ≤ (M 110 a.toInt.toNat).toInt ∧ (M 110 a.toInt.toNat).toInt < 3120) (hk : (M 103 (M 110 a.toInt.toNat).toInt.toNat).toInt = 3) (h12 : (M 105 (M 110 a.toInt.toNat).toInt.toNat).toInt = ((12 : Nat) : Int)) (hh : (m_hk M (M 110 a.toInt.toNat).toInt.toNat (ab_ii (n.toInt + 1)) 12).toInt = 0) (hQ : Q (some (.inl (ab_ii (-4)))) (wd I P M g, k, z)) : ab_CT d 175 [wd_v 102, .inl s, .inl what, .inl a, .inl b, .inl n] (wd I P M g, k, z) Q := by
  unfold m_pok m_sh at h
  refine wd_inC rfl (by omega) rfl ?_
  intro C9 X9 hC9 hX9
  repeat' ((conv => whnf); first
    | (refine hC9 134 _ _ _ (x_isShelf (by omega) (fun hc hc2 => ?_) (fun hc => ?_)) <;> (try (exfalso; omega)))
    | (refine hC9 133 _ _ _ (x_in (by omega) (fun hc hc2 => ?_) (fun hc => ?_)) <;> (try simp (disch := omega) only [ab_tI, ab_c0, wd_ix12, wd_ix8, wd_ix10, wd_up_self, wd_up_eq, wd_up_ne, Int.toNat_natCast, Int.toNat_of_nonneg, not_true_eq_false, not_false_eq_true, Option.some.injEq] at hc) <;> (try simp (disch := omega) only [ab_tI, ab_c0, wd_ix12, wd_ix8, wd_ix10, wd_up_self, wd_up_eq, wd_up_ne, Int.toNat_natCast, Int.toNat_of_nonneg, not_true_eq_false, not_false_eq_true, Option.some.injEq] at hc2))
    | (refine hC9 153 _ _ _ (x_hasKey (by omega) hm.1 hm.2 h12 (by omega) ?_))
    | (intro v9 hv9; (try simp (disch := omega) only [ab_tI, ab_c0, wd_ix12, wd_ix8, wd_ix10, wd_up_self, wd_up_eq, wd_up_ne, Int.toNat_natCast, Int.toNat_of_nonneg, not_true_eq_false, not_false_eq_true, Option.some.injEq] at hv9); subst hv9)
    | (apply i_get; (focus (exact rfl)); (focus (exact rfl)))
    | (refine hX9 _ _ _ _ (wd_rnC rfl ?_); clear hC9 hX9 X9 C9; intro C9 X9 hC9 hX9)
    | (apply w_ialM; (focus (exact rfl)); (focus (exact (by first | exact ⟨by decide, by decide⟩ | ((try simp (disch := omega) only [ab_tI, ab_c0, wd_ix12, wd_ix8, wd_ix10, wd_up_self, wd_up_eq, wd_up_ne, Int.toNat_natCast, Int.toNat_of_nonneg, not_true_eq_false, not_false_eq_true, Option.some.injEq, wd_l103, wd_l104, wd_l105, wd_l106, wd_l107, wd_l108, wd_l109, wd_l110, wd_l111, wd_l112, wd_l113, wd_l114, wd_l115, wd_l116, wd_l117, wd_l118, wd_l119, wd_l120, wd_l121, wd_l122, wd_l123, wd_l124]); omega)))); (intro v9 hv9; (try simp (disch := omega) only [ab_tI, ab_c0, wd_ix12, wd_ix8, wd_ix10, wd_up_self, wd_up_eq, wd_up_ne, Int.toNat_natCast, Int.toNat_of_nonneg, not_true_eq_false, not_false_eq_true, Option.some.injEq] at hv9); subst hv9))
    | (apply w_putM; (focus (exact rfl)); (focus (first | exact trivial | exact Or.inl rfl | exact Or.inr rfl)); (focus (exact rfl)))
    | (apply w_iasM; (focus (exact rfl)); (focus (exact (by first | exact ⟨by decide, by decide⟩ | ((try simp (disch := omega) only [ab_tI, ab_c0, wd_ix12, wd_ix8, wd_ix10, wd_up_self, wd_up_eq, wd_up_ne, Int.toNat_natCast, Int.toNat_of_nonneg, not_true_eq_false, not_false_eq_true, Option.some.injEq, wd_l103, wd_l104, wd_l105, wd_l106, wd_l107, wd_l108, wd_l109, wd_l110, wd_l111, wd_l112, wd_l113, wd_l114, wd_l115, wd_l116, wd_l117, wd_l118, wd_l119, wd_l120, wd_l121, wd_l122, wd_l123, wd_l124]); omega)))); (intro v9 hv9; (try simp (disch := omega) only [ab_tI, ab_c0, wd_ix12, wd_ix8, wd_ix10, wd_up_self, wd_up_eq, wd_up_ne, Int.toNat_natCast, Int.toNat_of_nonneg, not_true_eq_false, not_false_eq_true, Option.some.injEq] at hv9); subst hv9))
    | (refine i_brF (by decide) ?_)
    | (refine i_brT (by decide) ?_)
    | (refine ⟨fun hc => ?_, fun hc => ?_⟩ <;> (try simp (disch := omega) only [ab_tI, ab_c0, wd_ix12, wd_ix8, wd_ix10, wd_up_self, wd_up_eq, wd_up_ne, Int.toNat_natCast, Int.toNat_of_nonneg, not_true_eq_false, not_false_eq_true, Option.some.injEq] at hc) <;> first | (exfalso; omega) | skip)
    | (apply i_cv; (focus (exact rfl)))
    | (apply w_balM; (focus (exact (by first | exact ⟨by decide, by decide⟩ | ((try simp (disch := omega) only [ab_tI, ab_c0, wd_ix12, wd_ix8, wd_ix10, wd_up_self, wd_up_eq, wd_up_ne, Int.toNat_natCast, Int.toNat_of_nonneg, not_true_eq_false, not_false_eq_true, Option.some.injEq, wd_l103, wd_l104, wd_l105, wd_l106, wd_l107, wd_l108, wd_l109, wd_l110, wd_l111, wd_l112, wd_l113, wd_l114, wd_l115, wd_l116, wd_l117, wd_l118, wd_l119, wd_l120, wd_l121, wd_l122, wd_l123, wd_l124]); omega)))); (intro v9 hv9; (try simp (disch := omega) only [ab_tI, ab_c0, wd_ix12, wd_ix8, wd_ix10, wd_up_self, wd_up_eq, wd_up_ne, Int.toNat_natCast, Int.toNat_of_nonneg, not_true_eq_false, not_false_eq_true, Option.some.injEq] at hv9); subst hv9))
    | (apply w_basM; (focus (exact (by first | exact ⟨by decide, by decide⟩ | ((try simp (disch := omega) only [ab_tI, ab_c0, wd_ix12, wd_ix8, wd_ix10, wd_up_self, wd_up_eq, wd_up_ne, Int.toNat_natCast, Int.toNat_of_nonneg, not_true_eq_false, not_false_eq_true, Option.some.injEq, wd_l103, wd_l104, wd_l105, wd_l106, wd_l107, wd_l108, wd_l109, wd_l110, wd_l111, wd_l112, wd_l113, wd_l114, wd_l115, wd_l116, wd_l117, wd_l118, wd_l119, wd_l120, wd_l121, wd_l122, wd_l123, wd_l124]); omega)))); (focus (first | exact Or.inl rfl | exact Or.inr rfl)); (intro v9 hv9; (try simp (disch := omega) only [ab_tI, ab_c0, wd_ix12, wd_ix8, wd_ix10, wd_up_self, wd_up_eq, wd_up_ne, Int.toNat_natCast, Int.toNat_of_nonneg, not_true_eq_false, not_false_eq_true, Option.some.injEq] at hv9); subst hv9))
    | (refine And.intro trivial ?_)
    | (refine And.intro (Or.inl rfl) ?_)
    | (refine And.intro (Or.inr rfl) ?_)
    | (refine And.intro (by ((try simp (disch := omega) only [ab_tI, ab_c0, wd_ix12, wd_ix8, wd_ix10, wd_up_self, wd_up_eq, wd_up_ne, Int.toNat_natCast, Int.toNat_of_nonneg, not_true_eq_false, not_false_eq_true, Option.some.injEq]); omega)) ?_)
    | fail)
  all_goals first | exact hQ | (exfalso; omega)
set_option maxHeartbeats 4000000 in
set_option maxRecDepth 100000 in
theorem x_put_ok {d : Nat} (hd : 4 ≤ d) {I : wd_I} {P : wd_P} {M : wd_I} {g : Nat → ab_C} {k z c sz : Nat} {s what a b n : Int32} {Q : ab_Q} (hT : m_T M (M 102 8).toInt) (h8 : (M 102 8).toInt ≤ 3012) (hpm : M 112 s.toInt.toNat = ab_ii (c : Int)) (hc10 : c ≤ 10) (h : m_pok s what a b n) (hma : 0 ≤ (M 110 a.toInt.toNat).toInt ∧ (M 110 a.toInt.toNat).toInt < (M 102 8).toInt) (hmb : 0 ≤ (M 110 b.toInt.toNat).toInt ∧ (M 110 b.toInt.toNat).toInt < (M 102 8).toInt) (hsz : (M 105 (M 110 a.toInt.toNat).toInt.toNat).toInt = (sz : Int)) (hk : what.toInt = 2 → (M 103 (M 110 a.toInt.toNat).toInt.toNat).toInt = 3) (h12 : what.toInt = 2 → (sz ≤ 11 ∨ ¬ (m_hk M (M 110 a.toInt.toNat).toInt.toNat (ab_ii (n.toInt + 1)) sz).toInt = 0))
    (hF : (200 < (m_pW M what.toInt (M 110 a.toInt.toNat) (M 110 b.toInt.toNat) n sz 106 (M 102 8).toInt.toNat).toInt ∨ 12 < (m_pW M what.toInt (M 110 a.toInt.toNat) (M 110 b.toInt.toNat) n sz 107 (M 102 8).toInt.toNat).toInt) → Q (some (.inl (ab_ii (-4)))) (wd I P (m_rs M (m_pW M what.toInt (M 110 a.toInt.toNat) (M 110 b.toInt.toNat) n sz)) g, k, z))
    (hM : (m_pW M what.toInt (M 110 a.toInt.toNat) (M 110 b.toInt.toNat) n sz 106 (M 102 8).toInt.toNat).toInt ≤ 200 → (m_pW M what.toInt (M 110 a.toInt.toNat) (M 110 b.toInt.toNat) n sz 107 (M 102 8).toInt.toNat).toInt ≤ 12 → (M 102 9).toInt = 3000 → Q (some (.inl (ab_ii (-17)))) (wd I P (m_rs M (m_pW M what.toInt (M 110 a.toInt.toNat) (M 110 b.toInt.toNat) n sz)) g, k, z))
    (hD : (m_pW M what.toInt (M 110 a.toInt.toNat) (M 110 b.toInt.toNat) n sz 106 (M 102 8).toInt.toNat).toInt ≤ 200 → (m_pW M what.toInt (M 110 a.toInt.toNat) (M 110 b.toInt.toNat) n sz 107 (M 102 8).toInt.toNat).toInt ≤ 12 → ¬ (M 102 9).toInt = 3000 → Q (some (.inl (m_pW M what.toInt (M 110 a.toInt.toNat) (M 110 b.toInt.toNat) n sz 106 (M 102 8).toInt.toNat))) (wd I P (m_becomes (m_mk (m_pW M what.toInt (M 110 a.toInt.toNat) (M 110 b.toInt.toNat) n sz)) s.toInt.toNat (M 102 8) c) g, k, z)) : ab_CT d 175 [wd_v 102, .inl s, .inl what, .inl a, .inl b, .inl n] (wd I P M g, k, z) Q := by
  obtain ⟨sz', a1, a2, a3, a4, a5, a6, a7, a8, a9, a10, a11⟩ := m_T_row hT (t := (M 110 a.toInt.toNat).toInt.toNat) (by omega)
  have es : sz' = sz := by omega
  subst es
  have h0 : 0 ≤ (M 102 8).toInt := by omega
  unfold m_pok m_sh at h
  obtain ⟨hs9, hw9, ha9, hb9, hn9⟩ := h
  unfold m_rs at hF hM
  by_cases h2 : what.toInt = 2
  · have eA : m_pA M what.toInt (M 110 a.toInt.toNat) (M 110 b.toInt.toNat) n sz' = m_puts (m_copyOf M (M 110 a.toInt.toNat) sz') (M 102 8) (ab_ii (n.toInt + 1)) (M 110 b.toInt.toNat) sz' := if_pos h2
    unfold m_pW at hF hM hD
    rw [eA] at hF hM hD
    have hCs : (m_copyOf M (M 110 a.toInt.toNat) sz' 105 (M 102 8).toInt.toNat).toInt = (sz' : Int) := by rw [m_copyOf_sz]; exact a1
    have hCk : ∀ j, j < sz' → m_copyOf M (M 110 a.toInt.toNat) sz' 109 (12 * (M 102 8).toInt.toNat + j) = M 109 (12 * (M 110 a.toInt.toNat).toInt.toNat + j) := fun j hj => m_copyOf_ky hma.1 hma.2 a2 hj
    have hCp : ∀ j, j < sz' → m_copyOf M (M 110 a.toInt.toNat) sz' 108 (12 * (M 102 8).toInt.toNat + j) = M 108 (12 * (M 110 a.toInt.toNat).toInt.toNat + j) := fun j hj => m_copyOf_pt hma.1 hma.2 a2 hj
    have hC102 : ∀ j, j ≠ 8 → m_copyOf M (M 110 a.toInt.toNat) sz' 102 j = M 102 j := fun j hj => by unfold m_copyOf; rw [m_cpl_row (by decide) (by decide), m_begins_n hj]
    have hC110 : m_copyOf M (M 110 a.toInt.toNat) sz' 110 = M 110 ∧ m_copyOf M (M 110 a.toInt.toNat) sz' 112 = M 112 := by
      have hf : m_fr (M 102 8).toInt M (m_copyOf M (M 110 a.toInt.toNat) sz') := m_copyOf_fr m_fr.rf (Int.le_refl _)
      exact ⟨hf.2.1 110 (by decide), hf.2.1 112 (by decide)⟩
    have xcp := fun Q hq => x_copyOf (d := d - 1) (by omega) (I := I) (P := P) (g := g) (k := k) (z := z) (Q := Q) hma.1 hma.2 (by omega) a1 a2 hq
    have xhk := fun Q hq => x_hasKey (d := d - 1) (by omega) (I := I) (P := P) (M := M) (g := g) (k := k) (z := z) (Q := Q) (t := M 110 a.toInt.toNat) (key := ab_ii (n.toInt + 1)) hma.1 (by omega) a1 a2 hq
    have hhk := m_hk_b (M := M) (t := (M 110 a.toInt.toNat).toInt.toNat) (key := ab_ii (n.toInt + 1)) sz'
    have hhx := m_hk_ex (M := M) (t := (M 110 a.toInt.toNat).toInt.toNat) (key := ab_ii (n.toInt + 1)) sz'
    have h12' := h12 h2
    have hkk := hk h2
    replace hn9 := hn9 h2
    generalize hCC : m_copyOf M (M 110 a.toInt.toNat) sz' = C at *
    obtain ⟨S, hS, hS12⟩ : ∃ S : Nat, (m_puts C (M 102 8) (ab_ii (n.toInt + 1)) (M 110 b.toInt.toNat) sz' 105 (M 102 8).toInt.toNat).toInt = (S : Int) ∧ (S = sz' ∧ S ≤ 12 ∨ S = sz' + 1 ∧ S ≤ 12 ∧ m_pn C (M 102 8) (ab_ii (n.toInt + 1)) sz') := by
      by_cases hpn : m_pn C (M 102 8) (ab_ii (n.toInt + 1)) sz'
      · refine ⟨sz' + 1, by rw [m_puts_5, if_pos hpn, ab_tI (by omega) (by omega)]; omega, Or.inr ⟨rfl, ?_, hpn⟩⟩
        rcases h12' with q | q
        · omega
        · obtain ⟨j, hj, hjk⟩ := hhx q
          exact absurd hpn (m_pn_has (fun i hi => by rw [hCk i (by omega), hCk (i + 1) hi]; exact a11 hkk i hi) ⟨j, hj, by rw [hCk j hj]; exact hjk⟩)
      · exact ⟨sz', by rw [m_puts_5, if_neg hpn]; exact hCs, Or.inl ⟨rfl, a2⟩⟩
    have hszz : m_sz (m_puts C (M 102 8) (ab_ii (n.toInt + 1)) (M 110 b.toInt.toNat) sz') (M 102 8) = S := by unfold m_sz; rw [hS]; omega
    rw [hszz] at hF hM hD
    have hpr : ∀ j, j < S → 0 ≤ (m_puts C (M 102 8) (ab_ii (n.toInt + 1)) (M 110 b.toInt.toNat) sz' 108 (12 * (M 102 8).toInt.toNat + j)).toInt ∧ (m_puts C (M 102 8) (ab_ii (n.toInt + 1)) (M 110 b.toInt.toNat) sz' 108 (12 * (M 102 8).toInt.toNat + j)).toInt < 3120 := fun j hj => by
      have hold : ∀ i, i < sz' → 0 ≤ (C 108 (12 * (M 102 8).toInt.toNat + i)).toInt ∧ (C 108 (12 * (M 102 8).toInt.toNat + i)).toInt < 3120 := fun i hi => by rw [hCp i hi]; have := a6 i hi; omega
      have hle := m_pk_le (M := C) (t := M 102 8) (key := ab_ii (n.toInt + 1)) (s := sz')
      rw [m_puts_8]
      split
      · omega
      · split
        · exact hold _ (by omega)
        · rename_i q1 q2
          rcases hS12 with ⟨e, -⟩ | ⟨e, -, hpn⟩
          · exact hold _ (by omega)
          · by_cases ej : j = sz'
            · exact absurd ⟨hpn, by omega, by omega⟩ q2
            · exact hold _ (by omega)
    have hP102 : ∀ j, j ≠ 8 → m_puts C (M 102 8) (ab_ii (n.toInt + 1)) (M 110 b.toInt.toNat) sz' 102 j = M 102 j := fun j hj => by rw [m_puts_102]; exact hC102 j hj
    have hP112 : m_puts C (M 102 8) (ab_ii (n.toInt + 1)) (M 110 b.toInt.toNat) sz' 112 = M 112 := by
      have hrw : m_rw (M 102 8).toInt C (m_puts C (M 102 8) (ab_ii (n.toInt + 1)) (M 110 b.toInt.toNat) sz') := m_puts_rw h0 (Int.le_refl _)
      rw [hrw.2.1 112 (by decide)]
      exact hC110.2
    have xpu := fun Q hq => x_puts (d := d - 1) (by omega) (I := I) (P := P) (M := C) (g := g) (k := k) (z := z) (Q := Q) (t := M 102 8) (key := ab_ii (n.toInt + 1)) (p := M 110 b.toInt.toNat) h0 (by omega) hCs a2 hq
    have xen := fun Q hq => x_ends (d := d - 1) (by omega) (I := I) (P := P) (g := g) (k := k) (z := z) (Q := Q) (t := M 102 8) h0 (by omega) hS (by omega) hpr hq
    generalize m_puts C (M 102 8) (ab_ii (n.toInt + 1)) (M 110 b.toInt.toNat) sz' = A at *
    have hW102 : ∀ j, j ≠ 8 → m_ends A (M 102 8) S 102 j = M 102 j := fun j hj => by rw [m_ends_row (by decide) (by decide)]; exact hP102 j hj
    have hW9 := hW102 9 (by decide)
    have hW112 : m_mk (m_ends A (M 102 8) S) 112 s.toInt.toNat = ab_ii (c : Int) := by rw [m_mk_row (by decide), m_ends_row (by decide) (by decide), hP112]; exact hpm
    have eMK : wd_up (m_ends A (M 102 8) S) 102 9 (ab_ii ((M 102 9).toInt + 1)) = m_mk (m_ends A (M 102 8) S) := by unfold m_mk; rw [hW9]
    have e106 : m_becomes (m_mk (m_ends A (M 102 8) S)) s.toInt.toNat (M 102 8) c 106 = m_ends A (M 102 8) S 106 := by
      unfold m_becomes
      split
      · unfold m_bec1
        rw [wd_up_row _ _ _ (by decide), wd_up_row _ _ _ (by decide), wd_up_row _ _ _ (by decide), wd_up_row _ _ _ (by decide), m_shift_row (by decide), m_mk_row (by decide)]
      · unfold m_bec1
        rw [wd_up_row _ _ _ (by decide), wd_up_row _ _ _ (by decide), wd_up_row _ _ _ (by decide), m_mk_row (by decide)]
    have e110 := hC110.1
    clear hS12 hpr hhx hCk hCp hC102 hP102 hW102 hT a6 a9 a10 a11 hk h12
    generalize m_ends A (M 102 8) S = W at *
    have eW6 : wd_up W 102 8 (M 102 8) 106 = W 106 := wd_up_row _ _ _ (by decide)
    have eW7 : wd_up W 102 8 (M 102 8) 107 = W 107 := wd_up_row _ _ _ (by decide)
    have hF1 := fun (_ : Unit) => hF
    have hM1 := fun (_ : Unit) => hM
    have hD1 := fun (_ : Unit) => hD
    clear hF hM hD
    refine wd_inC rfl (by omega) rfl ?_
    intro C9 X9 hC9 hX9
    (have chk9 := @hW9; clear chk9); repeat' ((conv => whnf); first
    | (refine hC9 134 _ _ _ (x_isShelf (by omega) (fun hc hc2 => ?_) (fun hc => ?_)) <;> (try (exfalso; omega)))
    | (refine hC9 133 _ _ _ (x_in (by omega) (fun hc hc2 => ?_) (fun hc => ?_)) <;> (try simp (disch := omega) only [ab_tI, ab_c0, wd_ix12, wd_ix8, wd_ix10, wd_up_self, wd_up_eq, wd_up_ne, Int.toNat_natCast, Int.toNat_of_nonneg, not_true_eq_false, not_false_eq_true, Option.some.injEq] at hc) <;> (try simp (disch := omega) only [ab_tI, ab_c0, wd_ix12, wd_ix8, wd_ix10, wd_up_self, wd_up_eq, wd_up_ne, Int.toNat_natCast, Int.toNat_of_nonneg, not_true_eq_false, not_false_eq_true, Option.some.injEq] at hc2))
    | (refine hC9 153 _ _ _ (xhk _ ?_))
    | (refine hC9 168 _ _ _ (xcp _ ?_))
    | (refine hC9 152 _ _ _ (xpu _ ?_))
    | (refine hC9 137 _ _ _ (xen _ ?_))
    | (refine hC9 139 _ _ _ (x_isFull (by omega) h0 (by omega) (fun hc => ?_) (fun hc hc2 => ?_)) <;> (try simp only [eW6, eW7] at hc) <;> (try simp only [eW6, eW7] at hc2))
    | (refine hC9 139 _ _ _ (x_isFull (M := W) (by omega) h0 (by omega) (fun hc => ?_) (fun hc hc2 => ?_)))
    | (rw [eMK]; refine hC9 141 _ _ _ (x_becomes (M := m_mk W) (by omega) hs9.1 hs9.2 hW112 hc10 ?_))
    | (intro v9 hv9; (try simp (disch := omega) only [ab_tI, ab_c0, wd_ix12, wd_ix8, wd_ix10, wd_up_self, wd_up_eq, wd_up_ne, Int.toNat_natCast, Int.toNat_of_nonneg, not_true_eq_false, not_false_eq_true, Option.some.injEq, e110, hW9, e106] at hv9); subst hv9)
    | (apply i_get; (focus (exact rfl)); (focus (exact rfl)))
    | (refine hX9 _ _ _ _ (wd_rnC rfl ?_); clear hC9 hX9 X9 C9; intro C9 X9 hC9 hX9)
    | (apply w_ialM; (focus (exact rfl)); (focus (exact (by first | exact ⟨by decide, by decide⟩ | ((try simp (disch := omega) only [ab_tI, ab_c0, wd_ix12, wd_ix8, wd_ix10, wd_up_self, wd_up_eq, wd_up_ne, Int.toNat_natCast, Int.toNat_of_nonneg, not_true_eq_false, not_false_eq_true, Option.some.injEq, e110, hW9, e106, wd_l103, wd_l104, wd_l105, wd_l106, wd_l107, wd_l108, wd_l109, wd_l110, wd_l111, wd_l112, wd_l113, wd_l114, wd_l115, wd_l116, wd_l117, wd_l118, wd_l119, wd_l120, wd_l121, wd_l122, wd_l123, wd_l124]); omega)))); (intro v9 hv9; (try simp (disch := omega) only [ab_tI, ab_c0, wd_ix12, wd_ix8, wd_ix10, wd_up_self, wd_up_eq, wd_up_ne, Int.toNat_natCast, Int.toNat_of_nonneg, not_true_eq_false, not_false_eq_true, Option.some.injEq, e110, hW9, e106] at hv9); subst hv9))
    | (apply w_putM; (focus (exact rfl)); (focus (first | exact trivial | exact Or.inl rfl | exact Or.inr rfl)); (focus (exact rfl)))
    | (apply w_iasM; (focus (exact rfl)); (focus (exact (by first | exact ⟨by decide, by decide⟩ | ((try simp (disch := omega) only [ab_tI, ab_c0, wd_ix12, wd_ix8, wd_ix10, wd_up_self, wd_up_eq, wd_up_ne, Int.toNat_natCast, Int.toNat_of_nonneg, not_true_eq_false, not_false_eq_true, Option.some.injEq, e110, hW9, e106, wd_l103, wd_l104, wd_l105, wd_l106, wd_l107, wd_l108, wd_l109, wd_l110, wd_l111, wd_l112, wd_l113, wd_l114, wd_l115, wd_l116, wd_l117, wd_l118, wd_l119, wd_l120, wd_l121, wd_l122, wd_l123, wd_l124]); omega)))); (intro v9 hv9; (try simp (disch := omega) only [ab_tI, ab_c0, wd_ix12, wd_ix8, wd_ix10, wd_up_self, wd_up_eq, wd_up_ne, Int.toNat_natCast, Int.toNat_of_nonneg, not_true_eq_false, not_false_eq_true, Option.some.injEq, e110, hW9, e106] at hv9); subst hv9))
    | (refine i_brF (by decide) ?_)
    | (refine i_brT (by decide) ?_)
    | (refine ⟨fun hc => ?_, fun hc => ?_⟩ <;> (try simp (disch := omega) only [ab_tI, ab_c0, wd_ix12, wd_ix8, wd_ix10, wd_up_self, wd_up_eq, wd_up_ne, Int.toNat_natCast, Int.toNat_of_nonneg, not_true_eq_false, not_false_eq_true, Option.some.injEq, e110, hW9, e106] at hc) <;> first | (exfalso; omega) | skip)
    | (apply i_cv; (focus (exact rfl)))
    | (apply w_balM; (focus (exact (by first | exact ⟨by decide, by decide⟩ | ((try simp (disch := omega) only [ab_tI, ab_c0, wd_ix12, wd_ix8, wd_ix10, wd_up_self, wd_up_eq, wd_up_ne, Int.toNat_natCast, Int.toNat_of_nonneg, not_true_eq_false, not_false_eq_true, Option.some.injEq, e110, hW9, e106, wd_l103, wd_l104, wd_l105, wd_l106, wd_l107, wd_l108, wd_l109, wd_l110, wd_l111, wd_l112, wd_l113, wd_l114, wd_l115, wd_l116, wd_l117, wd_l118, wd_l119, wd_l120, wd_l121, wd_l122, wd_l123, wd_l124]); omega)))); (intro v9 hv9; (try simp (disch := omega) only [ab_tI, ab_c0, wd_ix12, wd_ix8, wd_ix10, wd_up_self, wd_up_eq, wd_up_ne, Int.toNat_natCast, Int.toNat_of_nonneg, not_true_eq_false, not_false_eq_true, Option.some.injEq, e110, hW9, e106] at hv9); subst hv9))
    | (apply w_basM; (focus (exact (by first | exact ⟨by decide, by decide⟩ | ((try simp (disch := omega) only [ab_tI, ab_c0, wd_ix12, wd_ix8, wd_ix10, wd_up_self, wd_up_eq, wd_up_ne, Int.toNat_natCast, Int.toNat_of_nonneg, not_true_eq_false, not_false_eq_true, Option.some.injEq, e110, hW9, e106, wd_l103, wd_l104, wd_l105, wd_l106, wd_l107, wd_l108, wd_l109, wd_l110, wd_l111, wd_l112, wd_l113, wd_l114, wd_l115, wd_l116, wd_l117, wd_l118, wd_l119, wd_l120, wd_l121, wd_l122, wd_l123, wd_l124]); omega)))); (focus (first | exact Or.inl rfl | exact Or.inr rfl)); (intro v9 hv9; (try simp (disch := omega) only [ab_tI, ab_c0, wd_ix12, wd_ix8, wd_ix10, wd_up_self, wd_up_eq, wd_up_ne, Int.toNat_natCast, Int.toNat_of_nonneg, not_true_eq_false, not_false_eq_true, Option.some.injEq, e110, hW9, e106] at hv9); subst hv9))
    | (refine And.intro trivial ?_)
    | (refine And.intro (Or.inl rfl) ?_)
    | (refine And.intro (Or.inr rfl) ?_)
    | (refine And.intro (by ((try simp (disch := omega) only [ab_tI, ab_c0, wd_ix12, wd_ix8, wd_ix10, wd_up_self, wd_up_eq, wd_up_ne, Int.toNat_natCast, Int.toNat_of_nonneg, not_true_eq_false, not_false_eq_true, Option.some.injEq, e110, hW9, e106]); omega)) ?_)
    | fail)
    all_goals first | exact hF1 () (by omega) | exact hM1 () (by omega) (by omega) (by omega) | exact hD1 () (by omega) (by omega) (by omega) | (exfalso; omega)
  · have eA : m_pA M what.toInt (M 110 a.toInt.toNat) (M 110 b.toInt.toNat) n sz' = m_adds (m_adds (m_begins M (ab_ii (if what.toInt = 0 then 1 else 2)) (ab_ii 0) (ab_ii 0)) (M 102 8) (ab_ii 0) (M 110 a.toInt.toNat) 0) (M 102 8) (ab_ii 0) (M 110 b.toInt.toNat) 1 := if_neg h2
    unfold m_pW at hF hM hD
    rw [eA] at hF hM hD
    obtain ⟨sort, hsort⟩ : ∃ sort, sort = ab_ii (if what.toInt = 0 then 1 else 2) := ⟨_, rfl⟩
    clear hn9
    have hs0 : what.toInt = 0 → sort = ab_ii 1 := fun q => by rw [hsort, if_pos q]
    have hs1 : ¬ what.toInt = 0 → sort = ab_ii 2 := fun q => by rw [hsort, if_neg q]
    rw [← hsort] at hF hM hD
    clear hsort
    have xbe := fun Q hq => x_begins (d := d - 1) (by omega) (I := I) (P := P) (M := M) (g := g) (k := k) (z := z) (Q := Q) (s := sort) (v := ab_ii 0) (m := ab_ii 0) h0 (by omega) hq
    have hB0 : (m_begins M sort (ab_ii 0) (ab_ii 0) 105 (M 102 8).toInt.toNat).toInt = ((0 : Nat) : Int) := by rw [m_begins_sz]; rfl
    have hB102 : ∀ j, j ≠ 8 → m_begins M sort (ab_ii 0) (ab_ii 0) 102 j = M 102 j := fun j hj => m_begins_n hj
    have hBf : m_fr (M 102 8).toInt M (m_begins M sort (ab_ii 0) (ab_ii 0)) := m_begins_fr m_fr.rf (Int.le_refl _)
    have hB110 : m_begins M sort (ab_ii 0) (ab_ii 0) 110 = M 110 := hBf.2.1 110 (by decide)
    have hB112 : m_begins M sort (ab_ii 0) (ab_ii 0) 112 = M 112 := hBf.2.1 112 (by decide)
    generalize m_begins M sort (ab_ii 0) (ab_ii 0) = B at *
    have xa0 := fun Q hq => x_adds (d := d - 1) (by omega) (I := I) (P := P) (M := B) (g := g) (k := k) (z := z) (Q := Q) (t := M 102 8) (key := ab_ii 0) (p := M 110 a.toInt.toNat) h0 (by omega) hB0 (by omega) hq
    have hA0 : (m_adds B (M 102 8) (ab_ii 0) (M 110 a.toInt.toNat) 0 105 (M 102 8).toInt.toNat).toInt = ((1 : Nat) : Int) := by rw [m_adds_sz]; decide
    have xa1 := fun Q hq => x_adds (d := d - 1) (by omega) (I := I) (P := P) (M := m_adds B (M 102 8) (ab_ii 0) (M 110 a.toInt.toNat) 0) (g := g) (k := k) (z := z) (Q := Q) (t := M 102 8) (key := ab_ii 0) (p := M 110 b.toInt.toNat) h0 (by omega) hA0 (by omega) hq
    have hA1 : (m_adds (m_adds B (M 102 8) (ab_ii 0) (M 110 a.toInt.toNat) 0) (M 102 8) (ab_ii 0) (M 110 b.toInt.toNat) 1 105 (M 102 8).toInt.toNat).toInt = ((2 : Nat) : Int) := by rw [m_adds_sz]; decide
    have hszz : m_sz (m_adds (m_adds B (M 102 8) (ab_ii 0) (M 110 a.toInt.toNat) 0) (M 102 8) (ab_ii 0) (M 110 b.toInt.toNat) 1) (M 102 8) = 2 := by unfold m_sz; rw [hA1]; decide
    rw [hszz] at hF hM hD
    have hpr : ∀ j, j < 2 → 0 ≤ (m_adds (m_adds B (M 102 8) (ab_ii 0) (M 110 a.toInt.toNat) 0) (M 102 8) (ab_ii 0) (M 110 b.toInt.toNat) 1 108 (12 * (M 102 8).toInt.toNat + j)).toInt ∧ (m_adds (m_adds B (M 102 8) (ab_ii 0) (M 110 a.toInt.toNat) 0) (M 102 8) (ab_ii 0) (M 110 b.toInt.toNat) 1 108 (12 * (M 102 8).toInt.toNat + j)).toInt < 3120 := fun j hj => by
      by_cases e : j = 1
      · subst e; rw [m_adds_pt]; omega
      · have e0 : j = 0 := by omega
        subst e0
        rw [m_adds_pn (by omega), m_adds_pt]; omega
    have hA110 : m_adds B (M 102 8) (ab_ii 0) (M 110 a.toInt.toNat) 0 110 = M 110 := by unfold m_adds; rw [wd_up_row _ _ _ (by decide), wd_up_row _ _ _ (by decide), wd_up_row _ _ _ (by decide)]; exact hB110
    have hP112 : m_adds (m_adds B (M 102 8) (ab_ii 0) (M 110 a.toInt.toNat) 0) (M 102 8) (ab_ii 0) (M 110 b.toInt.toNat) 1 112 = M 112 := by unfold m_adds; rw [wd_up_row _ _ _ (by decide), wd_up_row _ _ _ (by decide), wd_up_row _ _ _ (by decide), wd_up_row _ _ _ (by decide), wd_up_row _ _ _ (by decide), wd_up_row _ _ _ (by decide)]; exact hB112
    have hP102 : ∀ j, j ≠ 8 → m_adds (m_adds B (M 102 8) (ab_ii 0) (M 110 a.toInt.toNat) 0) (M 102 8) (ab_ii 0) (M 110 b.toInt.toNat) 1 102 j = M 102 j := fun j hj => by rw [m_adds_102, m_adds_102]; exact hB102 j hj
    have xen := fun Q hq => x_ends (d := d - 1) (by omega) (I := I) (P := P) (g := g) (k := k) (z := z) (Q := Q) (t := M 102 8) h0 (by omega) hA1 (by omega) hpr hq
    generalize m_adds B (M 102 8) (ab_ii 0) (M 110 a.toInt.toNat) 0 = A0 at *
    generalize m_adds A0 (M 102 8) (ab_ii 0) (M 110 b.toInt.toNat) 1 = A at *
    have hW102 : ∀ j, j ≠ 8 → m_ends A (M 102 8) 2 102 j = M 102 j := fun j hj => by rw [m_ends_row (by decide) (by decide)]; exact hP102 j hj
    have hW9 := hW102 9 (by decide)
    have hW112 : m_mk (m_ends A (M 102 8) 2) 112 s.toInt.toNat = ab_ii (c : Int) := by rw [m_mk_row (by decide), m_ends_row (by decide) (by decide), hP112]; exact hpm
    have eMK : wd_up (m_ends A (M 102 8) 2) 102 9 (ab_ii ((M 102 9).toInt + 1)) = m_mk (m_ends A (M 102 8) 2) := by unfold m_mk; rw [hW9]
    have e106 : m_becomes (m_mk (m_ends A (M 102 8) 2)) s.toInt.toNat (M 102 8) c 106 = m_ends A (M 102 8) 2 106 := by
      unfold m_becomes
      split
      · unfold m_bec1
        rw [wd_up_row _ _ _ (by decide), wd_up_row _ _ _ (by decide), wd_up_row _ _ _ (by decide), wd_up_row _ _ _ (by decide), m_shift_row (by decide), m_mk_row (by decide)]
      · unfold m_bec1
        rw [wd_up_row _ _ _ (by decide), wd_up_row _ _ _ (by decide), wd_up_row _ _ _ (by decide), m_mk_row (by decide)]
    clear hpr hB102 hP102 hW102 hT a6 a9 a10 a11 hk h12
    generalize m_ends A (M 102 8) 2 = W at *
    have eW6 : wd_up W 102 8 (M 102 8) 106 = W 106 := wd_up_row _ _ _ (by decide)
    have eW7 : wd_up W 102 8 (M 102 8) 107 = W 107 := wd_up_row _ _ _ (by decide)
    by_cases hw0 : what.toInt = 0
    · have := hs0 hw0
      clear hs0 hs1
      subst this
      have hF1 := fun (_ : Unit) => hF
      have hM1 := fun (_ : Unit) => hM
      have hD1 := fun (_ : Unit) => hD
      clear hF hM hD
      refine wd_inC rfl (by omega) rfl ?_
      intro C9 X9 hC9 hX9
      (have chk9 := @hA110; clear chk9); (have chk9 := @hW9; clear chk9); repeat' ((conv => whnf); first
    | (refine hC9 134 _ _ _ (x_isShelf (by omega) (fun hc hc2 => ?_) (fun hc => ?_)) <;> (try (exfalso; omega)))
    | (refine hC9 133 _ _ _ (x_in (by omega) (fun hc hc2 => ?_) (fun hc => ?_)) <;> (try simp (disch := omega) only [ab_tI, ab_c0, wd_ix12, wd_ix8, wd_ix10, wd_up_self, wd_up_eq, wd_up_ne, Int.toNat_natCast, Int.toNat_of_nonneg, not_true_eq_false, not_false_eq_true, Option.some.injEq] at hc) <;> (try simp (disch := omega) only [ab_tI, ab_c0, wd_ix12, wd_ix8, wd_ix10, wd_up_self, wd_up_eq, wd_up_ne, Int.toNat_natCast, Int.toNat_of_nonneg, not_true_eq_false, not_false_eq_true, Option.some.injEq] at hc2))
    | (refine hC9 136 _ _ _ (xbe _ ?_))
    | (with_reducible refine hC9 151 _ _ _ (xa0 _ ?_))
    | (with_reducible refine hC9 151 _ _ _ (xa1 _ ?_))
    | (refine hC9 151 _ _ _ (xa0 _ ?_))
    | (refine hC9 151 _ _ _ (xa1 _ ?_))
    | (refine hC9 137 _ _ _ (xen _ ?_))
    | (refine hC9 139 _ _ _ (x_isFull (by omega) h0 (by omega) (fun hc => ?_) (fun hc hc2 => ?_)) <;> (try simp only [eW6, eW7] at hc) <;> (try simp only [eW6, eW7] at hc2))
    | (refine hC9 139 _ _ _ (x_isFull (M := W) (by omega) h0 (by omega) (fun hc => ?_) (fun hc hc2 => ?_)))
    | (rw [eMK]; refine hC9 141 _ _ _ (x_becomes (M := m_mk W) (by omega) hs9.1 hs9.2 hW112 hc10 ?_))
    | (intro v9 hv9; (try simp (disch := omega) only [ab_tI, ab_c0, wd_ix12, wd_ix8, wd_ix10, wd_up_self, wd_up_eq, wd_up_ne, Int.toNat_natCast, Int.toNat_of_nonneg, not_true_eq_false, not_false_eq_true, Option.some.injEq, hA110, hW9, e106] at hv9); subst hv9)
    | (apply i_get; (focus (exact rfl)); (focus (exact rfl)))
    | (refine hX9 _ _ _ _ (wd_rnC rfl ?_); clear hC9 hX9 X9 C9; intro C9 X9 hC9 hX9)
    | (apply w_ialM; (focus (exact rfl)); (focus (exact (by first | exact ⟨by decide, by decide⟩ | ((try simp (disch := omega) only [ab_tI, ab_c0, wd_ix12, wd_ix8, wd_ix10, wd_up_self, wd_up_eq, wd_up_ne, Int.toNat_natCast, Int.toNat_of_nonneg, not_true_eq_false, not_false_eq_true, Option.some.injEq, hA110, hW9, e106, wd_l103, wd_l104, wd_l105, wd_l106, wd_l107, wd_l108, wd_l109, wd_l110, wd_l111, wd_l112, wd_l113, wd_l114, wd_l115, wd_l116, wd_l117, wd_l118, wd_l119, wd_l120, wd_l121, wd_l122, wd_l123, wd_l124]); omega)))); (intro v9 hv9; (try simp (disch := omega) only [ab_tI, ab_c0, wd_ix12, wd_ix8, wd_ix10, wd_up_self, wd_up_eq, wd_up_ne, Int.toNat_natCast, Int.toNat_of_nonneg, not_true_eq_false, not_false_eq_true, Option.some.injEq, hA110, hW9, e106] at hv9); subst hv9))
    | (apply w_putM; (focus (exact rfl)); (focus (first | exact trivial | exact Or.inl rfl | exact Or.inr rfl)); (focus (exact rfl)))
    | (apply w_iasM; (focus (exact rfl)); (focus (exact (by first | exact ⟨by decide, by decide⟩ | ((try simp (disch := omega) only [ab_tI, ab_c0, wd_ix12, wd_ix8, wd_ix10, wd_up_self, wd_up_eq, wd_up_ne, Int.toNat_natCast, Int.toNat_of_nonneg, not_true_eq_false, not_false_eq_true, Option.some.injEq, hA110, hW9, e106, wd_l103, wd_l104, wd_l105, wd_l106, wd_l107, wd_l108, wd_l109, wd_l110, wd_l111, wd_l112, wd_l113, wd_l114, wd_l115, wd_l116, wd_l117, wd_l118, wd_l119, wd_l120, wd_l121, wd_l122, wd_l123, wd_l124]); omega)))); (intro v9 hv9; (try simp (disch := omega) only [ab_tI, ab_c0, wd_ix12, wd_ix8, wd_ix10, wd_up_self, wd_up_eq, wd_up_ne, Int.toNat_natCast, Int.toNat_of_nonneg, not_true_eq_false, not_false_eq_true, Option.some.injEq, hA110, hW9, e106] at hv9); subst hv9))
    | (refine i_brF (by decide) ?_)
    | (refine i_brT (by decide) ?_)
    | (refine ⟨fun hc => ?_, fun hc => ?_⟩ <;> (try simp (disch := omega) only [ab_tI, ab_c0, wd_ix12, wd_ix8, wd_ix10, wd_up_self, wd_up_eq, wd_up_ne, Int.toNat_natCast, Int.toNat_of_nonneg, not_true_eq_false, not_false_eq_true, Option.some.injEq, hA110, hW9, e106] at hc) <;> first | (exfalso; omega) | skip)
    | (apply i_cv; (focus (exact rfl)))
    | (apply w_balM; (focus (exact (by first | exact ⟨by decide, by decide⟩ | ((try simp (disch := omega) only [ab_tI, ab_c0, wd_ix12, wd_ix8, wd_ix10, wd_up_self, wd_up_eq, wd_up_ne, Int.toNat_natCast, Int.toNat_of_nonneg, not_true_eq_false, not_false_eq_true, Option.some.injEq, hA110, hW9, e106, wd_l103, wd_l104, wd_l105, wd_l106, wd_l107, wd_l108, wd_l109, wd_l110, wd_l111, wd_l112, wd_l113, wd_l114, wd_l115, wd_l116, wd_l117, wd_l118, wd_l119, wd_l120, wd_l121, wd_l122, wd_l123, wd_l124]); omega)))); (intro v9 hv9; (try simp (disch := omega) only [ab_tI, ab_c0, wd_ix12, wd_ix8, wd_ix10, wd_up_self, wd_up_eq, wd_up_ne, Int.toNat_natCast, Int.toNat_of_nonneg, not_true_eq_false, not_false_eq_true, Option.some.injEq, hA110, hW9, e106] at hv9); subst hv9))
    | (apply w_basM; (focus (exact (by first | exact ⟨by decide, by decide⟩ | ((try simp (disch := omega) only [ab_tI, ab_c0, wd_ix12, wd_ix8, wd_ix10, wd_up_self, wd_up_eq, wd_up_ne, Int.toNat_natCast, Int.toNat_of_nonneg, not_true_eq_false, not_false_eq_true, Option.some.injEq, hA110, hW9, e106, wd_l103, wd_l104, wd_l105, wd_l106, wd_l107, wd_l108, wd_l109, wd_l110, wd_l111, wd_l112, wd_l113, wd_l114, wd_l115, wd_l116, wd_l117, wd_l118, wd_l119, wd_l120, wd_l121, wd_l122, wd_l123, wd_l124]); omega)))); (focus (first | exact Or.inl rfl | exact Or.inr rfl)); (intro v9 hv9; (try simp (disch := omega) only [ab_tI, ab_c0, wd_ix12, wd_ix8, wd_ix10, wd_up_self, wd_up_eq, wd_up_ne, Int.toNat_natCast, Int.toNat_of_nonneg, not_true_eq_false, not_false_eq_true, Option.some.injEq, hA110, hW9, e106] at hv9); subst hv9))
    | (refine And.intro trivial ?_)
    | (refine And.intro (Or.inl rfl) ?_)
    | (refine And.intro (Or.inr rfl) ?_)
    | (refine And.intro (by ((try simp (disch := omega) only [ab_tI, ab_c0, wd_ix12, wd_ix8, wd_ix10, wd_up_self, wd_up_eq, wd_up_ne, Int.toNat_natCast, Int.toNat_of_nonneg, not_true_eq_false, not_false_eq_true, Option.some.injEq, hA110, hW9, e106]); omega)) ?_)
    | fail)
      all_goals first | exact hF1 () (by omega) | exact hM1 () (by omega) (by omega) (by omega) | exact hD1 () (by omega) (by omega) (by omega) | (exfalso; omega)
    · have := hs1 hw0
      clear hs0 hs1
      subst this
      have hF1 := fun (_ : Unit) => hF
      have hM1 := fun (_ : Unit) => hM
      have hD1 := fun (_ : Unit) => hD
      clear hF hM hD
      refine wd_inC rfl (by omega) rfl ?_
      intro C9 X9 hC9 hX9
      (have chk9 := @hA110; clear chk9); (have chk9 := @hW9; clear chk9); repeat' ((conv => whnf); first
    | (refine hC9 134 _ _ _ (x_isShelf (by omega) (fun hc hc2 => ?_) (fun hc => ?_)) <;> (try (exfalso; omega)))
    | (refine hC9 133 _ _ _ (x_in (by omega) (fun hc hc2 => ?_) (fun hc => ?_)) <;> (try simp (disch := omega) only [ab_tI, ab_c0, wd_ix12, wd_ix8, wd_ix10, wd_up_self, wd_up_eq, wd_up_ne, Int.toNat_natCast, Int.toNat_of_nonneg, not_true_eq_false, not_false_eq_true, Option.some.injEq] at hc) <;> (try simp (disch := omega) only [ab_tI, ab_c0, wd_ix12, wd_ix8, wd_ix10, wd_up_self, wd_up_eq, wd_up_ne, Int.toNat_natCast, Int.toNat_of_nonneg, not_true_eq_false, not_false_eq_true, Option.some.injEq] at hc2))
    | (refine hC9 136 _ _ _ (xbe _ ?_))
    | (with_reducible refine hC9 151 _ _ _ (xa0 _ ?_))
    | (with_reducible refine hC9 151 _ _ _ (xa1 _ ?_))
    | (refine hC9 151 _ _ _ (xa0 _ ?_))
    | (refine hC9 151 _ _ _ (xa1 _ ?_))
    | (refine hC9 137 _ _ _ (xen _ ?_))
    | (refine hC9 139 _ _ _ (x_isFull (by omega) h0 (by omega) (fun hc => ?_) (fun hc hc2 => ?_)) <;> (try simp only [eW6, eW7] at hc) <;> (try simp only [eW6, eW7] at hc2))
    | (refine hC9 139 _ _ _ (x_isFull (M := W) (by omega) h0 (by omega) (fun hc => ?_) (fun hc hc2 => ?_)))
    | (rw [eMK]; refine hC9 141 _ _ _ (x_becomes (M := m_mk W) (by omega) hs9.1 hs9.2 hW112 hc10 ?_))
    | (intro v9 hv9; (try simp (disch := omega) only [ab_tI, ab_c0, wd_ix12, wd_ix8, wd_ix10, wd_up_self, wd_up_eq, wd_up_ne, Int.toNat_natCast, Int.toNat_of_nonneg, not_true_eq_false, not_false_eq_true, Option.some.injEq, hA110, hW9, e106] at hv9); subst hv9)
    | (apply i_get; (focus (exact rfl)); (focus (exact rfl)))
    | (refine hX9 _ _ _ _ (wd_rnC rfl ?_); clear hC9 hX9 X9 C9; intro C9 X9 hC9 hX9)
    | (apply w_ialM; (focus (exact rfl)); (focus (exact (by first | exact ⟨by decide, by decide⟩ | ((try simp (disch := omega) only [ab_tI, ab_c0, wd_ix12, wd_ix8, wd_ix10, wd_up_self, wd_up_eq, wd_up_ne, Int.toNat_natCast, Int.toNat_of_nonneg, not_true_eq_false, not_false_eq_true, Option.some.injEq, hA110, hW9, e106, wd_l103, wd_l104, wd_l105, wd_l106, wd_l107, wd_l108, wd_l109, wd_l110, wd_l111, wd_l112, wd_l113, wd_l114, wd_l115, wd_l116, wd_l117, wd_l118, wd_l119, wd_l120, wd_l121, wd_l122, wd_l123, wd_l124]); omega)))); (intro v9 hv9; (try simp (disch := omega) only [ab_tI, ab_c0, wd_ix12, wd_ix8, wd_ix10, wd_up_self, wd_up_eq, wd_up_ne, Int.toNat_natCast, Int.toNat_of_nonneg, not_true_eq_false, not_false_eq_true, Option.some.injEq, hA110, hW9, e106] at hv9); subst hv9))
    | (apply w_putM; (focus (exact rfl)); (focus (first | exact trivial | exact Or.inl rfl | exact Or.inr rfl)); (focus (exact rfl)))
    | (apply w_iasM; (focus (exact rfl)); (focus (exact (by first | exact ⟨by decide, by decide⟩ | ((try simp (disch := omega) only [ab_tI, ab_c0, wd_ix12, wd_ix8, wd_ix10, wd_up_self, wd_up_eq, wd_up_ne, Int.toNat_natCast, Int.toNat_of_nonneg, not_true_eq_false, not_false_eq_true, Option.some.injEq, hA110, hW9, e106, wd_l103, wd_l104, wd_l105, wd_l106, wd_l107, wd_l108, wd_l109, wd_l110, wd_l111, wd_l112, wd_l113, wd_l114, wd_l115, wd_l116, wd_l117, wd_l118, wd_l119, wd_l120, wd_l121, wd_l122, wd_l123, wd_l124]); omega)))); (intro v9 hv9; (try simp (disch := omega) only [ab_tI, ab_c0, wd_ix12, wd_ix8, wd_ix10, wd_up_self, wd_up_eq, wd_up_ne, Int.toNat_natCast, Int.toNat_of_nonneg, not_true_eq_false, not_false_eq_true, Option.some.injEq, hA110, hW9, e106] at hv9); subst hv9))
    | (refine i_brF (by decide) ?_)
    | (refine i_brT (by decide) ?_)
    | (refine ⟨fun hc => ?_, fun hc => ?_⟩ <;> (try simp (disch := omega) only [ab_tI, ab_c0, wd_ix12, wd_ix8, wd_ix10, wd_up_self, wd_up_eq, wd_up_ne, Int.toNat_natCast, Int.toNat_of_nonneg, not_true_eq_false, not_false_eq_true, Option.some.injEq, hA110, hW9, e106] at hc) <;> first | (exfalso; omega) | skip)
    | (apply i_cv; (focus (exact rfl)))
    | (apply w_balM; (focus (exact (by first | exact ⟨by decide, by decide⟩ | ((try simp (disch := omega) only [ab_tI, ab_c0, wd_ix12, wd_ix8, wd_ix10, wd_up_self, wd_up_eq, wd_up_ne, Int.toNat_natCast, Int.toNat_of_nonneg, not_true_eq_false, not_false_eq_true, Option.some.injEq, hA110, hW9, e106, wd_l103, wd_l104, wd_l105, wd_l106, wd_l107, wd_l108, wd_l109, wd_l110, wd_l111, wd_l112, wd_l113, wd_l114, wd_l115, wd_l116, wd_l117, wd_l118, wd_l119, wd_l120, wd_l121, wd_l122, wd_l123, wd_l124]); omega)))); (intro v9 hv9; (try simp (disch := omega) only [ab_tI, ab_c0, wd_ix12, wd_ix8, wd_ix10, wd_up_self, wd_up_eq, wd_up_ne, Int.toNat_natCast, Int.toNat_of_nonneg, not_true_eq_false, not_false_eq_true, Option.some.injEq, hA110, hW9, e106] at hv9); subst hv9))
    | (apply w_basM; (focus (exact (by first | exact ⟨by decide, by decide⟩ | ((try simp (disch := omega) only [ab_tI, ab_c0, wd_ix12, wd_ix8, wd_ix10, wd_up_self, wd_up_eq, wd_up_ne, Int.toNat_natCast, Int.toNat_of_nonneg, not_true_eq_false, not_false_eq_true, Option.some.injEq, hA110, hW9, e106, wd_l103, wd_l104, wd_l105, wd_l106, wd_l107, wd_l108, wd_l109, wd_l110, wd_l111, wd_l112, wd_l113, wd_l114, wd_l115, wd_l116, wd_l117, wd_l118, wd_l119, wd_l120, wd_l121, wd_l122, wd_l123, wd_l124]); omega)))); (focus (first | exact Or.inl rfl | exact Or.inr rfl)); (intro v9 hv9; (try simp (disch := omega) only [ab_tI, ab_c0, wd_ix12, wd_ix8, wd_ix10, wd_up_self, wd_up_eq, wd_up_ne, Int.toNat_natCast, Int.toNat_of_nonneg, not_true_eq_false, not_false_eq_true, Option.some.injEq, hA110, hW9, e106] at hv9); subst hv9))
    | (refine And.intro trivial ?_)
    | (refine And.intro (Or.inl rfl) ?_)
    | (refine And.intro (Or.inr rfl) ?_)
    | (refine And.intro (by ((try simp (disch := omega) only [ab_tI, ab_c0, wd_ix12, wd_ix8, wd_ix10, wd_up_self, wd_up_eq, wd_up_ne, Int.toNat_natCast, Int.toNat_of_nonneg, not_true_eq_false, not_false_eq_true, Option.some.injEq, hA110, hW9, e106]); omega)) ?_)
    | fail)
      all_goals first | exact hF1 () (by omega) | exact hM1 () (by omega) (by omega) (by omega) | exact hD1 () (by omega) (by omega) (by omega) | (exfalso; omega)
