section
/-! ===== the reference: OVER, what it writes (own text) ===== -/
/-- rows below n are the same -/
def m_sb (n : Int) (M M' : wd_I) : Prop := (∀ t : Nat, (t : Int) < n → M' 103 t = M 103 t ∧ M' 104 t = M 104 t ∧ M' 105 t = M 105 t ∧ M' 106 t = M 106 t ∧ M' 107 t = M 107 t) ∧ (∀ i : Nat, (i : Int) < 12 * n → M' 108 i = M 108 i ∧ M' 109 i = M 109 i)
/-- nothing but rows from n on and four numbers are written -/
def m_fr (n : Int) (M M' : wd_I) : Prop := m_sb n M M' ∧ (∀ a, 110 ≤ a → M' a = M a) ∧ (∀ j, j ≠ 8 → j ≠ 9 → j ≠ 35 → j ≠ 36 → M' 102 j = M 102 j)
theorem m_sb.rf {n : Int} {M : wd_I} : m_sb n M M := ⟨fun _ _ => ⟨rfl, rfl, rfl, rfl, rfl⟩, fun _ _ => ⟨rfl, rfl⟩⟩
theorem m_fr.rf {n : Int} {M : wd_I} : m_fr n M M := ⟨m_sb.rf, fun _ _ => rfl, fun _ _ _ _ _ => rfl⟩
theorem m_sb.tr {n n' : Int} {M M' M'' : wd_I} (h : m_sb n M M') (h' : m_sb n' M' M'') (hn : n ≤ n') : m_sb n M M'' :=
  ⟨fun t ht => by
    obtain ⟨a1, a2, a3, a4, a5⟩ := h.1 t ht
    obtain ⟨b1, b2, b3, b4, b5⟩ := h'.1 t (by omega)
    exact ⟨b1.trans a1, b2.trans a2, b3.trans a3, b4.trans a4, b5.trans a5⟩, fun i hi => by
    obtain ⟨a1, a2⟩ := h.2 i hi
    obtain ⟨b1, b2⟩ := h'.2 i (by omega)
    exact ⟨b1.trans a1, b2.trans a2⟩⟩
theorem m_fr.tr {n n' : Int} {M M' M'' : wd_I} (h : m_fr n M M') (h' : m_fr n' M' M'') (hn : n ≤ n') : m_fr n M M'' :=
  ⟨h.1.tr h'.1 hn, fun a ha => (h'.2.1 a ha).trans (h.2.1 a ha), fun j h1 h2 h3 h4 => (h'.2.2 j h1 h2 h3 h4).trans (h.2.2 j h1 h2 h3 h4)⟩
theorem m_fr.le {n n' : Int} {M M' : wd_I} (h : m_fr n M M') (hn : n' ≤ n) : m_fr n' M M' := ⟨⟨fun t ht => h.1.1 t (by omega), fun i hi => h.1.2 i (by omega)⟩, h.2.1, h.2.2⟩
def m_wr (n : Int) (a j : Nat) : Prop := (103 ≤ a ∧ a ≤ 107 ∧ n ≤ (j : Int)) ∨ ((a = 108 ∨ a = 109) ∧ 12 * n ≤ (j : Int)) ∨ (a = 102 ∧ (j = 8 ∨ j = 9 ∨ j = 35 ∨ j = 36))
theorem m_fr_up {n : Int} {M N : wd_I} {a j : Nat} {x : Int32} (h : m_fr n M N) (hw : m_wr n a j) : m_fr n M (wd_up N a j x) := by
  unfold m_wr at hw
  refine ⟨⟨fun t ht => ?_, fun i hi => ?_⟩, fun b hb => ?_, fun i h1 h2 h3 h4 => ?_⟩
  · rw [wd_up_ne _ _ (by omega), wd_up_ne _ _ (by omega), wd_up_ne _ _ (by omega), wd_up_ne _ _ (by omega), wd_up_ne _ _ (by omega)]
    exact h.1.1 t ht
  · rw [wd_up_ne _ _ (by omega), wd_up_ne _ _ (by omega)]
    exact h.1.2 i hi
  · rw [wd_up_row _ _ _ (by omega)]
    exact h.2.1 b hb
  · rw [wd_up_ne _ _ (by omega)]
    exact h.2.2 i h1 h2 h3 h4
theorem m_row_sb {n : Int} {M M' : wd_I} (h : m_sb n M M') {t : Nat} (ht : (t : Int) < n) (hr : m_row M n t) : m_row M' n t := by
  obtain ⟨s, a1, a2, a3, a4, a5⟩ := hr
  obtain ⟨e3, e4, e5, e6, e7⟩ := h.1 t ht
  refine ⟨s, by rw [e5]; exact a1, a2, by rw [e3]; exact a3, by rw [e7]; exact a4, fun j hj => ?_⟩
  rw [(h.2 (12 * t + j) (by omega)).1, e7]
  obtain ⟨b1, b2, b3⟩ := a5 j hj
  rw [(h.1 (M 108 (12 * t + j)).toInt.toNat (by omega)).2.2.2.2]
  exact ⟨b1, b2, b3⟩
theorem m_cl_sb {n : Int} {M M' : wd_I} (h : m_sb n M M') (hc : m_cl M n) : m_cl M' n := ⟨hc.1, fun t ht => m_row_sb h ht (hc.2 t ht)⟩
theorem m_lex_sb {n : Int} {M M' : wd_I} (h : m_sb n M M') {F F' : Int32 → Int32 → Int} {a b sa sb : Nat} (ha : (a : Int) < n) (hb : (b : Int) < n) (hsa : sa ≤ 12) (hsb : sb ≤ 12) (hF : ∀ j, j < sa → j < sb → F' (M 108 (12 * a + j)) (M 108 (12 * b + j)) = F (M 108 (12 * a + j)) (M 108 (12 * b + j))) : ∀ r k, k + r = min sa sb → m_lex F' M' a b r k = m_lex F M a b r k
  | 0, k, hk => by
    unfold m_lex
    rw [(h.1 a ha).2.2.1, (h.1 b hb).2.2.1]
  | r + 1, k, hk => by
    unfold m_lex
    rw [m_lex_sb h ha hb hsa hsb hF r (k + 1) (by omega), (h.2 (12 * a + k) (by omega)).1, (h.2 (12 * a + k) (by omega)).2, (h.2 (12 * b + k) (by omega)).1, (h.2 (12 * b + k) (by omega)).2, hF k (by omega) (by omega)]
theorem m_cmp_sb {n : Int} {M M' : wd_I} (h : m_sb n M M') (hc : m_cl M n) : ∀ (f : Nat) (a b : Int32), 0 ≤ a.toInt → a.toInt < n → 0 ≤ b.toInt → b.toInt < n → m_cmp M' f a b = m_cmp M f a b
  | 0, a, b, _, _, _, _ => rfl
  | f + 1, a, b, ha, ha', hb, hb' => by
    obtain ⟨sa, hsa, a2, a3, a4, a5⟩ := hc.2 a.toInt.toNat (by omega)
    obtain ⟨sb, hsb, b2, b3, b4, b5⟩ := hc.2 b.toInt.toNat (by omega)
    obtain ⟨e3, e4, e5, e6, e7⟩ := h.1 a.toInt.toNat (by omega)
    obtain ⟨f3, f4, f5, f6, f7⟩ := h.1 b.toInt.toNat (by omega)
    unfold m_cmp
    rw [e3, e4, e5, f3, f4, f5, hsa, hsb, Int.toNat_natCast, Int.toNat_natCast, m_lex_sb h (by omega) (by omega) a2 b2 (fun j hj hj' => m_cmp_sb h hc f _ _ (a5 j hj).1 (a5 j hj).2.1 (b5 j hj').1 (b5 j hj').2.1) (min sa sb) 0 (by omega)]
/-- room in the table: things are no more than twelve and those made -/
def m_rm (M : wd_I) : Prop := 0 ≤ (M 102 8).toInt ∧ (M 102 8).toInt ≤ (M 102 9).toInt + 12 ∧ (M 102 9).toInt ≤ 3000
def m_can (M : wd_I) : Prop := (M 102 36).toInt = 0 ∧ ¬ (M 102 9).toInt = 3000
def m_mk (M : wd_I) : wd_I := wd_up M 102 9 (ab_ii ((M 102 9).toInt + 1))
def m_nomk (M : wd_I) : wd_I := wd_up M 102 36 (ab_ii 1)
set_option maxHeartbeats 4000000 in
set_option maxRecDepth 100000 in
theorem x_makes {d : Nat} (hd : 1 ≤ d) {I : wd_I} {P : wd_P} {M : wd_I} {g : Nat → ab_C} {k z : Nat} {Q : ab_Q} (h1 : m_can M → Q (some (.inl (ab_ii 1))) (wd I P (m_mk M) g, k, z)) (h0 : ¬ m_can M → Q (some (.inl (ab_ii 0))) (wd I P (m_nomk M) g, k, z)) : ab_CT d 166 [wd_v 102] (wd I P M g, k, z) Q := by
  unfold m_can at h1 h0
  refine wd_inC rfl hd rfl ?_
  intro C9 X9 hC9 hX9
  repeat' ((conv => whnf); first
    | (intro v9 hv9; (try simp (disch := omega) only [ab_tI, ab_c0, wd_ix12, wd_ix8, wd_ix10, wd_up_self, wd_up_eq, wd_up_ne, Int.toNat_natCast, Int.toNat_of_nonneg, not_true_eq_false, not_false_eq_true, Option.some.injEq] at hv9); subst hv9)
    | (apply i_get; (focus (exact rfl)); (focus (exact rfl)))
    | (refine hX9 _ _ _ _ (wd_rnC rfl ?_); clear hC9 hX9 X9 C9; intro C9 X9 hC9 hX9)
    | (apply w_ialM; (focus (exact rfl)); (focus (exact (by first | exact ⟨by decide, by decide⟩ | ((try simp (disch := omega) only [ab_tI, ab_c0, wd_ix12, wd_ix8, wd_ix10, wd_up_self, wd_up_eq, wd_up_ne, Int.toNat_natCast, Int.toNat_of_nonneg, not_true_eq_false, not_false_eq_true, Option.some.injEq, wd_l103, wd_l104, wd_l105, wd_l106, wd_l107, wd_l108, wd_l109, wd_l110, wd_l111, wd_l112, wd_l113, wd_l114, wd_l115, wd_l116, wd_l117, wd_l118, wd_l119, wd_l120, wd_l121, wd_l122, wd_l123, wd_l124]); omega)))); (intro v9 hv9; (try simp (disch := omega) only [ab_tI, ab_c0, wd_ix12, wd_ix8, wd_ix10, wd_up_self, wd_up_eq, wd_up_ne, Int.toNat_natCast, Int.toNat_of_nonneg, not_true_eq_false, not_false_eq_true, Option.some.injEq] at hv9); subst hv9))
    | (apply w_putM; (focus (exact rfl)); (focus (first | exact trivial | exact Or.inl rfl | exact Or.inr rfl)); (focus (exact rfl)))
    | (apply w_iasM; (focus (exact rfl)); (focus (exact (by first | exact ⟨by decide, by decide⟩ | ((try simp (disch := omega) only [ab_tI, ab_c0, wd_ix12, wd_ix8, wd_ix10, wd_up_self, wd_up_eq, wd_up_ne, Int.toNat_natCast, Int.toNat_of_nonneg, not_true_eq_false, not_false_eq_true, Option.some.injEq, wd_l103, wd_l104, wd_l105, wd_l106, wd_l107, wd_l108, wd_l109, wd_l110, wd_l111, wd_l112, wd_l113, wd_l114, wd_l115, wd_l116, wd_l117, wd_l118, wd_l119, wd_l120, wd_l121, wd_l122, wd_l123, wd_l124]); omega)))); (intro v9 hv9; (try simp (disch := omega) only [ab_tI, ab_c0, wd_ix12, wd_ix8, wd_ix10, wd_up_self, wd_up_eq, wd_up_ne, Int.toNat_natCast, Int.toNat_of_nonneg, not_true_eq_false, not_false_eq_true, Option.some.injEq] at hv9); subst hv9))
    | (refine i_brF (by decide) ?_)
    | (refine i_brT (by decide) ?_)
    | (refine ⟨fun hc => ?_, fun hc => ?_⟩ <;> (try simp (disch := omega) only [ab_tI, ab_c0, wd_ix12, wd_ix8, wd_ix10, wd_up_self, wd_up_eq, wd_up_ne, Int.toNat_natCast, Int.toNat_of_nonneg, not_true_eq_false, not_false_eq_true, Option.some.injEq] at hc) <;> first | (exfalso; omega) | skip)
    | (apply i_cv; (focus (exact rfl)))
    | (apply w_balM; (focus (exact (by first | exact ⟨by decide, by decide⟩ | ((try simp (disch := omega) only [ab_tI, ab_c0, wd_ix12, wd_ix8, wd_ix10, wd_up_self, wd_up_eq, wd_up_ne, Int.toNat_natCast, Int.toNat_of_nonneg, not_true_eq_false, not_false_eq_true, Option.some.injEq, wd_l103, wd_l104, wd_l105, wd_l106, wd_l107, wd_l108, wd_l109, wd_l110, wd_l111, wd_l112, wd_l113, wd_l114, wd_l115, wd_l116, wd_l117, wd_l118, wd_l119, wd_l120, wd_l121, wd_l122, wd_l123, wd_l124]); omega)))); (intro v9 hv9; (try simp (disch := omega) only [ab_tI, ab_c0, wd_ix12, wd_ix8, wd_ix10, wd_up_self, wd_up_eq, wd_up_ne, Int.toNat_natCast, Int.toNat_of_nonneg, not_true_eq_false, not_false_eq_true, Option.some.injEq] at hv9); subst hv9))
    | (apply w_basM; (focus (exact (by first | exact ⟨by decide, by decide⟩ | ((try simp (disch := omega) only [ab_tI, ab_c0, wd_ix12, wd_ix8, wd_ix10, wd_up_self, wd_up_eq, wd_up_ne, Int.toNat_natCast, Int.toNat_of_nonneg, not_true_eq_false, not_false_eq_true, Option.some.injEq, wd_l103, wd_l104, wd_l105, wd_l106, wd_l107, wd_l108, wd_l109, wd_l110, wd_l111, wd_l112, wd_l113, wd_l114, wd_l115, wd_l116, wd_l117, wd_l118, wd_l119, wd_l120, wd_l121, wd_l122, wd_l123, wd_l124]); omega)))); (focus (first | exact Or.inl rfl | exact Or.inr rfl)); (intro v9 hv9; (try simp (disch := omega) only [ab_tI, ab_c0, wd_ix12, wd_ix8, wd_ix10, wd_up_self, wd_up_eq, wd_up_ne, Int.toNat_natCast, Int.toNat_of_nonneg, not_true_eq_false, not_false_eq_true, Option.some.injEq] at hv9); subst hv9))
    | (refine And.intro trivial ?_)
    | (refine And.intro (Or.inl rfl) ?_)
    | (refine And.intro (Or.inr rfl) ?_)
    | (refine And.intro (by ((try simp (disch := omega) only [ab_tI, ab_c0, wd_ix12, wd_ix8, wd_ix10, wd_up_self, wd_up_eq, wd_up_ne, Int.toNat_natCast, Int.toNat_of_nonneg, not_true_eq_false, not_false_eq_true, Option.some.injEq]); omega)) ?_)
    | fail)
  all_goals first | exact h1 (by omega) | exact h0 (by omega)
set_option maxHeartbeats 4000000 in
set_option maxRecDepth 100000 in
theorem x_numbered {d : Nat} (hd : 3 ≤ d) {I : wd_I} {P : wd_P} {M : wd_I} {g : Nat → ab_C} {k z : Nat} {v : Int32} {Q : ab_Q} (hrm : m_rm M) (h1 : m_can M → Q (some (.inl (M 102 8))) (wd I P (m_number (m_mk M) v) g, k, z)) (h0 : ¬ m_can M → Q (some (.inl (ab_ii 0))) (wd I P (m_nomk M) g, k, z)) : ab_CT d 167 [wd_v 102, .inl v] (wd I P M g, k, z) Q := by
  obtain ⟨r1, r2, r3⟩ := hrm
  have e8 : m_mk M 102 8 = M 102 8 := wd_up_ne _ _ (Or.inr (by decide))
  refine wd_inC rfl (by omega) rfl ?_
  intro C9 X9 hC9 hX9
  repeat' ((conv => whnf); first
    | (refine hC9 166 _ _ _ (x_makes (by omega) (fun hm => ?_) (fun hm => ?_)))
    | (refine hC9 138 _ _ _ (x_number (by omega) (by rw [e8]; exact r1) (by rw [e8]; unfold m_can at hm; omega) ?_))
    | (intro v9 hv9; (try simp (disch := omega) only [ab_tI, ab_c0, wd_ix12, wd_ix8, wd_ix10, wd_up_self, wd_up_eq, wd_up_ne, Int.toNat_natCast, Int.toNat_of_nonneg, not_true_eq_false, not_false_eq_true, Option.some.injEq] at hv9); subst hv9)
    | (apply i_get; (focus (exact rfl)); (focus (exact rfl)))
    | (refine hX9 _ _ _ _ (wd_rnC rfl ?_); clear hC9 hX9 X9 C9; intro C9 X9 hC9 hX9)
    | (apply w_ialM; (focus (exact rfl)); (focus (exact (by first | exact ⟨by decide, by decide⟩ | ((try simp (disch := omega) only [ab_tI, ab_c0, wd_ix12, wd_ix8, wd_ix10, wd_up_self, wd_up_eq, wd_up_ne, Int.toNat_natCast, Int.toNat_of_nonneg, not_true_eq_false, not_false_eq_true, Option.some.injEq, wd_l103, wd_l104, wd_l105, wd_l106, wd_l107, wd_l108, wd_l109, wd_l110, wd_l111, wd_l112, wd_l113, wd_l114, wd_l115, wd_l116, wd_l117, wd_l118, wd_l119, wd_l120, wd_l121, wd_l122, wd_l123, wd_l124]); omega)))); (intro v9 hv9; (try simp (disch := omega) only [ab_tI, ab_c0, wd_ix12, wd_ix8, wd_ix10, wd_up_self, wd_up_eq, wd_up_ne, Int.toNat_natCast, Int.toNat_of_nonneg, not_true_eq_false, not_false_eq_true, Option.some.injEq] at hv9); subst hv9))
    | (apply w_putM; (focus (exact rfl)); (focus (first | exact trivial | exact Or.inl rfl | exact Or.inr rfl)); (focus (exact rfl)))
    | (apply w_iasM; (focus (exact rfl)); (focus (exact (by first | exact ⟨by decide, by decide⟩ | ((try simp (disch := omega) only [ab_tI, ab_c0, wd_ix12, wd_ix8, wd_ix10, wd_up_self, wd_up_eq, wd_up_ne, Int.toNat_natCast, Int.toNat_of_nonneg, not_true_eq_false, not_false_eq_true, Option.some.injEq, wd_l103, wd_l104, wd_l105, wd_l106, wd_l107, wd_l108, wd_l109, wd_l110, wd_l111, wd_l112, wd_l113, wd_l114, wd_l115, wd_l116, wd_l117, wd_l118, wd_l119, wd_l120, wd_l121, wd_l122, wd_l123, wd_l124]); omega)))); (intro v9 hv9; (try simp (disch := omega) only [ab_tI, ab_c0, wd_ix12, wd_ix8, wd_ix10, wd_up_self, wd_up_eq, wd_up_ne, Int.toNat_natCast, Int.toNat_of_nonneg, not_true_eq_false, not_false_eq_true, Option.some.injEq] at hv9); subst hv9))
    | (refine i_brF (by decide) ?_)
    | (refine i_brT (by decide) ?_)
    | (refine ⟨fun hc => ?_, fun hc => ?_⟩ <;> (try simp (disch := omega) only [ab_tI, ab_c0, wd_ix12, wd_ix8, wd_ix10, wd_up_self, wd_up_eq, wd_up_ne, Int.toNat_natCast, Int.toNat_of_nonneg, not_true_eq_false, not_false_eq_true, Option.some.injEq] at hc) <;> first | (exfalso; omega) | skip)
    | (apply i_cv; (focus (exact rfl)))
    | (apply w_balM; (focus (exact (by first | exact ⟨by decide, by decide⟩ | ((try simp (disch := omega) only [ab_tI, ab_c0, wd_ix12, wd_ix8, wd_ix10, wd_up_self, wd_up_eq, wd_up_ne, Int.toNat_natCast, Int.toNat_of_nonneg, not_true_eq_false, not_false_eq_true, Option.some.injEq, wd_l103, wd_l104, wd_l105, wd_l106, wd_l107, wd_l108, wd_l109, wd_l110, wd_l111, wd_l112, wd_l113, wd_l114, wd_l115, wd_l116, wd_l117, wd_l118, wd_l119, wd_l120, wd_l121, wd_l122, wd_l123, wd_l124]); omega)))); (intro v9 hv9; (try simp (disch := omega) only [ab_tI, ab_c0, wd_ix12, wd_ix8, wd_ix10, wd_up_self, wd_up_eq, wd_up_ne, Int.toNat_natCast, Int.toNat_of_nonneg, not_true_eq_false, not_false_eq_true, Option.some.injEq] at hv9); subst hv9))
    | (apply w_basM; (focus (exact (by first | exact ⟨by decide, by decide⟩ | ((try simp (disch := omega) only [ab_tI, ab_c0, wd_ix12, wd_ix8, wd_ix10, wd_up_self, wd_up_eq, wd_up_ne, Int.toNat_natCast, Int.toNat_of_nonneg, not_true_eq_false, not_false_eq_true, Option.some.injEq, wd_l103, wd_l104, wd_l105, wd_l106, wd_l107, wd_l108, wd_l109, wd_l110, wd_l111, wd_l112, wd_l113, wd_l114, wd_l115, wd_l116, wd_l117, wd_l118, wd_l119, wd_l120, wd_l121, wd_l122, wd_l123, wd_l124]); omega)))); (focus (first | exact Or.inl rfl | exact Or.inr rfl)); (intro v9 hv9; (try simp (disch := omega) only [ab_tI, ab_c0, wd_ix12, wd_ix8, wd_ix10, wd_up_self, wd_up_eq, wd_up_ne, Int.toNat_natCast, Int.toNat_of_nonneg, not_true_eq_false, not_false_eq_true, Option.some.injEq] at hv9); subst hv9))
    | (refine And.intro trivial ?_)
    | (refine And.intro (Or.inl rfl) ?_)
    | (refine And.intro (Or.inr rfl) ?_)
    | (refine And.intro (by ((try simp (disch := omega) only [ab_tI, ab_c0, wd_ix12, wd_ix8, wd_ix10, wd_up_self, wd_up_eq, wd_up_ne, Int.toNat_natCast, Int.toNat_of_nonneg, not_true_eq_false, not_false_eq_true, Option.some.injEq]); omega)) ?_)
    | fail)
  all_goals first | (rw [e8]; exact h1 hm) | exact h0 hm
def m_cpl (c t : Nat) (M : wd_I) : Nat → wd_I
  | 0 => M
  | j + 1 => wd_up (wd_up (m_cpl c t M j) 108 (12 * c + j) (m_cpl c t M j 108 (12 * t + j))) 109 (12 * c + j) (m_cpl c t M j 109 (12 * t + j))
theorem m_cpl_row {c t a : Nat} {M : wd_I} (h1 : a ≠ 108) (h2 : a ≠ 109) : ∀ j, m_cpl c t M j a = M a
  | 0 => rfl
  | j + 1 => by unfold m_cpl; rw [wd_up_row _ _ _ h2, wd_up_row _ _ _ h1, m_cpl_row h1 h2 j]
theorem m_cpl_ne {c t a n i : Nat} {M : wd_I} (h : a ≠ 108 ∧ a ≠ 109) : m_cpl c t M n a i = M a i := by rw [m_cpl_row h.1 h.2]
def m_copyOf (M : wd_I) (t : Int32) (s : Nat) : wd_I := m_cpl (M 102 8).toInt.toNat t.toInt.toNat (m_begins M (M 103 t.toInt.toNat) (M 104 t.toInt.toNat) (M 105 t.toInt.toNat)) s

set_option maxHeartbeats 4000000 in
set_option maxRecDepth 100000 in
theorem x_copyOf_l {d : Nat} (hd : 1 ≤ d) {I : wd_I} {P : wd_P} {M : wd_I} {g : Nat → ab_C} {k z s : Nat} {t c : Int32} {Q : ab_Q} (h0 : 0 ≤ t.toInt) (h1 : t.toInt < 3120) (hc0 : 0 ≤ c.toInt) (hc1 : c.toInt < 3120) (hs : (M 105 t.toInt.toNat).toInt = (s : Int)) (h12 : s ≤ 12) (hQ : Q (some (.inl c)) (wd I P (m_cpl c.toInt.toNat t.toInt.toNat M s) g, k, z)) : ∀ n j : Nat, j + n = s → ab_WB d 168 Q 25 [(0, wd_v 102), (1, .inl t), (2, .inl c), (3, .inl (ab_ii (j : Int)))] [] (wd I P (m_cpl c.toInt.toNat t.toInt.toNat M j) g, k, z)
  | 0, j, hj => by
    have e : j = s := by omega
    subst e
    refine wd_rnC rfl ?_
    intro C9 X9 hC9 hX9
    (have chk9 := @hs; clear chk9); repeat' ((conv => whnf); first
    | (intro v9 hv9; (try simp (disch := omega) only [ab_tI, ab_c0, wd_ix12, wd_ix8, wd_ix10, wd_up_self, wd_up_eq, wd_up_ne, Int.toNat_natCast, Int.toNat_of_nonneg, not_true_eq_false, not_false_eq_true, Option.some.injEq, m_cpl_ne, hs] at hv9); subst hv9)
    | (apply i_get; (focus (exact rfl)); (focus (exact rfl)))
    | (refine hX9 _ _ _ _ (wd_rnC rfl ?_); clear hC9 hX9 X9 C9; intro C9 X9 hC9 hX9)
    | (apply w_ialM; (focus (exact rfl)); (focus (exact (by first | exact ⟨by decide, by decide⟩ | ((try simp (disch := omega) only [ab_tI, ab_c0, wd_ix12, wd_ix8, wd_ix10, wd_up_self, wd_up_eq, wd_up_ne, Int.toNat_natCast, Int.toNat_of_nonneg, not_true_eq_false, not_false_eq_true, Option.some.injEq, m_cpl_ne, hs, wd_l103, wd_l104, wd_l105, wd_l106, wd_l107, wd_l108, wd_l109, wd_l110, wd_l111, wd_l112, wd_l113, wd_l114, wd_l115, wd_l116, wd_l117, wd_l118, wd_l119, wd_l120, wd_l121, wd_l122, wd_l123, wd_l124]); omega)))); (intro v9 hv9; (try simp (disch := omega) only [ab_tI, ab_c0, wd_ix12, wd_ix8, wd_ix10, wd_up_self, wd_up_eq, wd_up_ne, Int.toNat_natCast, Int.toNat_of_nonneg, not_true_eq_false, not_false_eq_true, Option.some.injEq, m_cpl_ne, hs] at hv9); subst hv9))
    | (apply w_putM; (focus (exact rfl)); (focus (first | exact trivial | exact Or.inl rfl | exact Or.inr rfl)); (focus (exact rfl)))
    | (apply w_iasM; (focus (exact rfl)); (focus (exact (by first | exact ⟨by decide, by decide⟩ | ((try simp (disch := omega) only [ab_tI, ab_c0, wd_ix12, wd_ix8, wd_ix10, wd_up_self, wd_up_eq, wd_up_ne, Int.toNat_natCast, Int.toNat_of_nonneg, not_true_eq_false, not_false_eq_true, Option.some.injEq, m_cpl_ne, hs, wd_l103, wd_l104, wd_l105, wd_l106, wd_l107, wd_l108, wd_l109, wd_l110, wd_l111, wd_l112, wd_l113, wd_l114, wd_l115, wd_l116, wd_l117, wd_l118, wd_l119, wd_l120, wd_l121, wd_l122, wd_l123, wd_l124]); omega)))); (intro v9 hv9; (try simp (disch := omega) only [ab_tI, ab_c0, wd_ix12, wd_ix8, wd_ix10, wd_up_self, wd_up_eq, wd_up_ne, Int.toNat_natCast, Int.toNat_of_nonneg, not_true_eq_false, not_false_eq_true, Option.some.injEq, m_cpl_ne, hs] at hv9); subst hv9))
    | (refine i_brF (by decide) ?_)
    | (refine i_brT (by decide) ?_)
    | (refine ⟨fun hc => ?_, fun hc => ?_⟩ <;> (try simp (disch := omega) only [ab_tI, ab_c0, wd_ix12, wd_ix8, wd_ix10, wd_up_self, wd_up_eq, wd_up_ne, Int.toNat_natCast, Int.toNat_of_nonneg, not_true_eq_false, not_false_eq_true, Option.some.injEq, m_cpl_ne, hs] at hc) <;> first | (exfalso; omega) | skip)
    | (apply i_cv; (focus (exact rfl)))
    | (apply w_balM; (focus (exact (by first | exact ⟨by decide, by decide⟩ | ((try simp (disch := omega) only [ab_tI, ab_c0, wd_ix12, wd_ix8, wd_ix10, wd_up_self, wd_up_eq, wd_up_ne, Int.toNat_natCast, Int.toNat_of_nonneg, not_true_eq_false, not_false_eq_true, Option.some.injEq, m_cpl_ne, hs, wd_l103, wd_l104, wd_l105, wd_l106, wd_l107, wd_l108, wd_l109, wd_l110, wd_l111, wd_l112, wd_l113, wd_l114, wd_l115, wd_l116, wd_l117, wd_l118, wd_l119, wd_l120, wd_l121, wd_l122, wd_l123, wd_l124]); omega)))); (intro v9 hv9; (try simp (disch := omega) only [ab_tI, ab_c0, wd_ix12, wd_ix8, wd_ix10, wd_up_self, wd_up_eq, wd_up_ne, Int.toNat_natCast, Int.toNat_of_nonneg, not_true_eq_false, not_false_eq_true, Option.some.injEq, m_cpl_ne, hs] at hv9); subst hv9))
    | (apply w_basM; (focus (exact (by first | exact ⟨by decide, by decide⟩ | ((try simp (disch := omega) only [ab_tI, ab_c0, wd_ix12, wd_ix8, wd_ix10, wd_up_self, wd_up_eq, wd_up_ne, Int.toNat_natCast, Int.toNat_of_nonneg, not_true_eq_false, not_false_eq_true, Option.some.injEq, m_cpl_ne, hs, wd_l103, wd_l104, wd_l105, wd_l106, wd_l107, wd_l108, wd_l109, wd_l110, wd_l111, wd_l112, wd_l113, wd_l114, wd_l115, wd_l116, wd_l117, wd_l118, wd_l119, wd_l120, wd_l121, wd_l122, wd_l123, wd_l124]); omega)))); (focus (first | exact Or.inl rfl | exact Or.inr rfl)); (intro v9 hv9; (try simp (disch := omega) only [ab_tI, ab_c0, wd_ix12, wd_ix8, wd_ix10, wd_up_self, wd_up_eq, wd_up_ne, Int.toNat_natCast, Int.toNat_of_nonneg, not_true_eq_false, not_false_eq_true, Option.some.injEq, m_cpl_ne, hs] at hv9); subst hv9))
    | (refine And.intro trivial ?_)
    | (refine And.intro (Or.inl rfl) ?_)
    | (refine And.intro (Or.inr rfl) ?_)
    | (refine And.intro (by ((try simp (disch := omega) only [ab_tI, ab_c0, wd_ix12, wd_ix8, wd_ix10, wd_up_self, wd_up_eq, wd_up_ne, Int.toNat_natCast, Int.toNat_of_nonneg, not_true_eq_false, not_false_eq_true, Option.some.injEq, m_cpl_ne, hs]); omega)) ?_)
    | fail)
    exact hQ
  | n + 1, j, hj => by
    have ih := x_copyOf_l hd h0 h1 hc0 hc1 hs h12 hQ n (j + 1) (by omega)
    refine wd_rnC rfl ?_
    intro C9 X9 hC9 hX9
    (have chk9 := @hs; clear chk9); repeat' ((conv => whnf); first
    | (refine hX9 25 _ _ _ (ab_WB_sub ?_ ih); (repeat (first | exact ab_sub0 | (refine ab_sub1 ?_ ?_; (focus ((repeat (refine ab_skip rfl ?_)); first | exact List.mem_cons_self))))))
    | (intro v9 hv9; (try simp (disch := omega) only [ab_tI, ab_c0, wd_ix12, wd_ix8, wd_ix10, wd_up_self, wd_up_eq, wd_up_ne, Int.toNat_natCast, Int.toNat_of_nonneg, not_true_eq_false, not_false_eq_true, Option.some.injEq, m_cpl_ne, hs] at hv9); subst hv9)
    | (apply i_get; (focus (exact rfl)); (focus (exact rfl)))
    | (refine hX9 _ _ _ _ (wd_rnC rfl ?_); clear hC9 hX9 X9 C9; intro C9 X9 hC9 hX9)
    | (apply w_ialM; (focus (exact rfl)); (focus (exact (by first | exact ⟨by decide, by decide⟩ | ((try simp (disch := omega) only [ab_tI, ab_c0, wd_ix12, wd_ix8, wd_ix10, wd_up_self, wd_up_eq, wd_up_ne, Int.toNat_natCast, Int.toNat_of_nonneg, not_true_eq_false, not_false_eq_true, Option.some.injEq, m_cpl_ne, hs, wd_l103, wd_l104, wd_l105, wd_l106, wd_l107, wd_l108, wd_l109, wd_l110, wd_l111, wd_l112, wd_l113, wd_l114, wd_l115, wd_l116, wd_l117, wd_l118, wd_l119, wd_l120, wd_l121, wd_l122, wd_l123, wd_l124]); omega)))); (intro v9 hv9; (try simp (disch := omega) only [ab_tI, ab_c0, wd_ix12, wd_ix8, wd_ix10, wd_up_self, wd_up_eq, wd_up_ne, Int.toNat_natCast, Int.toNat_of_nonneg, not_true_eq_false, not_false_eq_true, Option.some.injEq, m_cpl_ne, hs] at hv9); subst hv9))
    | (apply w_putM; (focus (exact rfl)); (focus (first | exact trivial | exact Or.inl rfl | exact Or.inr rfl)); (focus (exact rfl)))
    | (apply w_iasM; (focus (exact rfl)); (focus (exact (by first | exact ⟨by decide, by decide⟩ | ((try simp (disch := omega) only [ab_tI, ab_c0, wd_ix12, wd_ix8, wd_ix10, wd_up_self, wd_up_eq, wd_up_ne, Int.toNat_natCast, Int.toNat_of_nonneg, not_true_eq_false, not_false_eq_true, Option.some.injEq, m_cpl_ne, hs, wd_l103, wd_l104, wd_l105, wd_l106, wd_l107, wd_l108, wd_l109, wd_l110, wd_l111, wd_l112, wd_l113, wd_l114, wd_l115, wd_l116, wd_l117, wd_l118, wd_l119, wd_l120, wd_l121, wd_l122, wd_l123, wd_l124]); omega)))); (intro v9 hv9; (try simp (disch := omega) only [ab_tI, ab_c0, wd_ix12, wd_ix8, wd_ix10, wd_up_self, wd_up_eq, wd_up_ne, Int.toNat_natCast, Int.toNat_of_nonneg, not_true_eq_false, not_false_eq_true, Option.some.injEq, m_cpl_ne, hs] at hv9); subst hv9))
    | (refine i_brF (by decide) ?_)
    | (refine i_brT (by decide) ?_)
    | (refine ⟨fun hc => ?_, fun hc => ?_⟩ <;> (try simp (disch := omega) only [ab_tI, ab_c0, wd_ix12, wd_ix8, wd_ix10, wd_up_self, wd_up_eq, wd_up_ne, Int.toNat_natCast, Int.toNat_of_nonneg, not_true_eq_false, not_false_eq_true, Option.some.injEq, m_cpl_ne, hs] at hc) <;> first | (exfalso; omega) | skip)
    | (apply i_cv; (focus (exact rfl)))
    | (apply w_balM; (focus (exact (by first | exact ⟨by decide, by decide⟩ | ((try simp (disch := omega) only [ab_tI, ab_c0, wd_ix12, wd_ix8, wd_ix10, wd_up_self, wd_up_eq, wd_up_ne, Int.toNat_natCast, Int.toNat_of_nonneg, not_true_eq_false, not_false_eq_true, Option.some.injEq, m_cpl_ne, hs, wd_l103, wd_l104, wd_l105, wd_l106, wd_l107, wd_l108, wd_l109, wd_l110, wd_l111, wd_l112, wd_l113, wd_l114, wd_l115, wd_l116, wd_l117, wd_l118, wd_l119, wd_l120, wd_l121, wd_l122, wd_l123, wd_l124]); omega)))); (intro v9 hv9; (try simp (disch := omega) only [ab_tI, ab_c0, wd_ix12, wd_ix8, wd_ix10, wd_up_self, wd_up_eq, wd_up_ne, Int.toNat_natCast, Int.toNat_of_nonneg, not_true_eq_false, not_false_eq_true, Option.some.injEq, m_cpl_ne, hs] at hv9); subst hv9))
    | (apply w_basM; (focus (exact (by first | exact ⟨by decide, by decide⟩ | ((try simp (disch := omega) only [ab_tI, ab_c0, wd_ix12, wd_ix8, wd_ix10, wd_up_self, wd_up_eq, wd_up_ne, Int.toNat_natCast, Int.toNat_of_nonneg, not_true_eq_false, not_false_eq_true, Option.some.injEq, m_cpl_ne, hs, wd_l103, wd_l104, wd_l105, wd_l106, wd_l107, wd_l108, wd_l109, wd_l110, wd_l111, wd_l112, wd_l113, wd_l114, wd_l115, wd_l116, wd_l117, wd_l118, wd_l119, wd_l120, wd_l121, wd_l122, wd_l123, wd_l124]); omega)))); (focus (first | exact Or.inl rfl | exact Or.inr rfl)); (intro v9 hv9; (try simp (disch := omega) only [ab_tI, ab_c0, wd_ix12, wd_ix8, wd_ix10, wd_up_self, wd_up_eq, wd_up_ne, Int.toNat_natCast, Int.toNat_of_nonneg, not_true_eq_false, not_false_eq_true, Option.some.injEq, m_cpl_ne, hs] at hv9); subst hv9))
    | (refine And.intro trivial ?_)
    | (refine And.intro (Or.inl rfl) ?_)
    | (refine And.intro (Or.inr rfl) ?_)
    | (refine And.intro (by ((try simp (disch := omega) only [ab_tI, ab_c0, wd_ix12, wd_ix8, wd_ix10, wd_up_self, wd_up_eq, wd_up_ne, Int.toNat_natCast, Int.toNat_of_nonneg, not_true_eq_false, not_false_eq_true, Option.some.injEq, m_cpl_ne, hs]); omega)) ?_)
    | fail)

set_option maxHeartbeats 4000000 in
set_option maxRecDepth 100000 in
theorem x_copyOf {d : Nat} (hd : 2 ≤ d) {I : wd_I} {P : wd_P} {M : wd_I} {g : Nat → ab_C} {k z s : Nat} {t : Int32} {Q : ab_Q} (h0 : 0 ≤ t.toInt) (h1 : t.toInt < (M 102 8).toInt) (h2 : (M 102 8).toInt < 3120) (hs : (M 105 t.toInt.toNat).toInt = (s : Int)) (h12 : s ≤ 12) (hQ : Q (some (.inl (M 102 8))) (wd I P (m_copyOf M t s) g, k, z)) : ab_CT d 168 [wd_v 102, .inl t] (wd I P M g, k, z) Q := by
  have hs2 : ((m_begins M (M 103 t.toInt.toNat) (M 104 t.toInt.toNat) (M 105 t.toInt.toNat)) 105 t.toInt.toNat).toInt = (s : Int) := by
    unfold m_begins
    rw [wd_up_ne _ _ (Or.inl (by decide)), wd_up_ne _ _ (Or.inr (by omega)), wd_up_row _ _ _ (by decide), wd_up_row _ _ _ (by decide)]
    exact hs
  have hl := x_copyOf_l (d := d) (by omega) (I := I) (P := P) (g := g) (k := k) (z := z) (Q := Q) h0 (by omega) (c := M 102 8) (by omega) h2 hs2 h12 hQ s 0 (by omega)
  refine wd_inC rfl (by omega) rfl ?_
  intro C9 X9 hC9 hX9
  repeat' ((conv => whnf); first
    | (refine hC9 136 _ _ _ (x_begins (by omega) (by omega) h2 ?_))
    | (refine hX9 25 _ _ _ (ab_WB_sub ?_ hl); (repeat (first | exact ab_sub0 | (refine ab_sub1 ?_ ?_; (focus ((repeat (refine ab_skip rfl ?_)); first | exact List.mem_cons_self))))))
    | (intro v9 hv9; (try simp (disch := omega) only [ab_tI, ab_c0, wd_ix12, wd_ix8, wd_ix10, wd_up_self, wd_up_eq, wd_up_ne, Int.toNat_natCast, Int.toNat_of_nonneg, not_true_eq_false, not_false_eq_true, Option.some.injEq] at hv9); subst hv9)
    | (apply i_get; (focus (exact rfl)); (focus (exact rfl)))
    | (refine hX9 _ _ _ _ (wd_rnC rfl ?_); clear hC9 hX9 X9 C9; intro C9 X9 hC9 hX9)
    | (apply w_ialM; (focus (exact rfl)); (focus (exact (by first | exact ⟨by decide, by decide⟩ | ((try simp (disch := omega) only [ab_tI, ab_c0, wd_ix12, wd_ix8, wd_ix10, wd_up_self, wd_up_eq, wd_up_ne, Int.toNat_natCast, Int.toNat_of_nonneg, not_true_eq_false, not_false_eq_true, Option.some.injEq, wd_l103, wd_l104, wd_l105, wd_l106, wd_l107, wd_l108, wd_l109, wd_l110, wd_l111, wd_l112, wd_l113, wd_l114, wd_l115, wd_l116, wd_l117, wd_l118, wd_l119, wd_l120, wd_l121, wd_l122, wd_l123, wd_l124]); omega)))); (intro v9 hv9; (try simp (disch := omega) only [ab_tI, ab_c0, wd_ix12, wd_ix8, wd_ix10, wd_up_self, wd_up_eq, wd_up_ne, Int.toNat_natCast, Int.toNat_of_nonneg, not_true_eq_false, not_false_eq_true, Option.some.injEq] at hv9); subst hv9))
    | (apply w_putM; (focus (exact rfl)); (focus (first | exact trivial | exact Or.inl rfl | exact Or.inr rfl)); (focus (exact rfl)))
    | (apply w_iasM; (focus (exact rfl)); (focus (exact (by first | exact ⟨by decide, by decide⟩ | ((try simp (disch := omega) only [ab_tI, ab_c0, wd_ix12, wd_ix8, wd_ix10, wd_up_self, wd_up_eq, wd_up_ne, Int.toNat_natCast, Int.toNat_of_nonneg, not_true_eq_false, not_false_eq_true, Option.some.injEq, wd_l103, wd_l104, wd_l105, wd_l106, wd_l107, wd_l108, wd_l109, wd_l110, wd_l111, wd_l112, wd_l113, wd_l114, wd_l115, wd_l116, wd_l117, wd_l118, wd_l119, wd_l120, wd_l121, wd_l122, wd_l123, wd_l124]); omega)))); (intro v9 hv9; (try simp (disch := omega) only [ab_tI, ab_c0, wd_ix12, wd_ix8, wd_ix10, wd_up_self, wd_up_eq, wd_up_ne, Int.toNat_natCast, Int.toNat_of_nonneg, not_true_eq_false, not_false_eq_true, Option.some.injEq] at hv9); subst hv9))
    | (refine i_brF (by decide) ?_)
    | (refine i_brT (by decide) ?_)
    | (refine ⟨fun hc => ?_, fun hc => ?_⟩ <;> (try simp (disch := omega) only [ab_tI, ab_c0, wd_ix12, wd_ix8, wd_ix10, wd_up_self, wd_up_eq, wd_up_ne, Int.toNat_natCast, Int.toNat_of_nonneg, not_true_eq_false, not_false_eq_true, Option.some.injEq] at hc) <;> first | (exfalso; omega) | skip)
    | (apply i_cv; (focus (exact rfl)))
    | (apply w_balM; (focus (exact (by first | exact ⟨by decide, by decide⟩ | ((try simp (disch := omega) only [ab_tI, ab_c0, wd_ix12, wd_ix8, wd_ix10, wd_up_self, wd_up_eq, wd_up_ne, Int.toNat_natCast, Int.toNat_of_nonneg, not_true_eq_false, not_false_eq_true, Option.some.injEq, wd_l103, wd_l104, wd_l105, wd_l106, wd_l107, wd_l108, wd_l109, wd_l110, wd_l111, wd_l112, wd_l113, wd_l114, wd_l115, wd_l116, wd_l117, wd_l118, wd_l119, wd_l120, wd_l121, wd_l122, wd_l123, wd_l124]); omega)))); (intro v9 hv9; (try simp (disch := omega) only [ab_tI, ab_c0, wd_ix12, wd_ix8, wd_ix10, wd_up_self, wd_up_eq, wd_up_ne, Int.toNat_natCast, Int.toNat_of_nonneg, not_true_eq_false, not_false_eq_true, Option.some.injEq] at hv9); subst hv9))
    | (apply w_basM; (focus (exact (by first | exact ⟨by decide, by decide⟩ | ((try simp (disch := omega) only [ab_tI, ab_c0, wd_ix12, wd_ix8, wd_ix10, wd_up_self, wd_up_eq, wd_up_ne, Int.toNat_natCast, Int.toNat_of_nonneg, not_true_eq_false, not_false_eq_true, Option.some.injEq, wd_l103, wd_l104, wd_l105, wd_l106, wd_l107, wd_l108, wd_l109, wd_l110, wd_l111, wd_l112, wd_l113, wd_l114, wd_l115, wd_l116, wd_l117, wd_l118, wd_l119, wd_l120, wd_l121, wd_l122, wd_l123, wd_l124]); omega)))); (focus (first | exact Or.inl rfl | exact Or.inr rfl)); (intro v9 hv9; (try simp (disch := omega) only [ab_tI, ab_c0, wd_ix12, wd_ix8, wd_ix10, wd_up_self, wd_up_eq, wd_up_ne, Int.toNat_natCast, Int.toNat_of_nonneg, not_true_eq_false, not_false_eq_true, Option.some.injEq] at hv9); subst hv9))
    | (refine And.intro trivial ?_)
    | (refine And.intro (Or.inl rfl) ?_)
    | (refine And.intro (Or.inr rfl) ?_)
    | (refine And.intro (by ((try simp (disch := omega) only [ab_tI, ab_c0, wd_ix12, wd_ix8, wd_ix10, wd_up_self, wd_up_eq, wd_up_ne, Int.toNat_natCast, Int.toNat_of_nonneg, not_true_eq_false, not_false_eq_true, Option.some.injEq]); omega)) ?_)
    | fail)
end
section
/-! ===== the reference: what a focus becomes (own text) ===== -/
theorem m_adds_sz {M : wd_I} {t key p : Int32} {s : Nat} : m_adds M t key p s 105 t.toInt.toNat = ab_ii ((s : Int) + 1) := by unfold m_adds; rw [wd_up_self]
theorem m_adds_pt {M : wd_I} {t key p : Int32} {s : Nat} : m_adds M t key p s 108 (12 * t.toInt.toNat + s) = p := by
  unfold m_adds
  rw [wd_up_row _ _ _ (by decide), wd_up_row _ _ _ (by decide), wd_up_self]
theorem m_adds_pn {M : wd_I} {t key p : Int32} {s i : Nat} (h : i ≠ 12 * t.toInt.toNat + s) : m_adds M t key p s 108 i = M 108 i := by
  unfold m_adds
  rw [wd_up_row _ _ _ (by decide), wd_up_row _ _ _ (by decide), wd_up_ne _ _ (Or.inr h)]
theorem m_begins_sz {M : wd_I} {s v m : Int32} : m_begins M s v m 105 (M 102 8).toInt.toNat = m := by
  unfold m_begins
  rw [wd_up_ne _ _ (Or.inl (by decide)), wd_up_self]
theorem m_begins_8 {M : wd_I} {s v m : Int32} : m_begins M s v m 102 8 = ab_ii ((M 102 8).toInt + 1) := by unfold m_begins; rw [wd_up_self]
theorem m_begins_pt {M : wd_I} {s v m : Int32} {i : Nat} : m_begins M s v m 108 i = M 108 i := by
  unfold m_begins
  rw [wd_up_row _ _ _ (by decide), wd_up_row _ _ _ (by decide), wd_up_row _ _ _ (by decide), wd_up_row _ _ _ (by decide)]
def m_around (M : wd_I) (sort v t : Int32) : wd_I := m_ends (m_adds (m_begins M sort v (ab_ii 0)) (M 102 8) (ab_ii 0) t 0) (M 102 8) 1
set_option maxHeartbeats 4000000 in
set_option maxRecDepth 100000 in
theorem x_around {d : Nat} (hd : 2 ≤ d) {I : wd_I} {P : wd_P} {M : wd_I} {g : Nat → ab_C} {k z : Nat} {sort v t : Int32} {Q : ab_Q} (h0 : 0 ≤ (M 102 8).toInt) (h1 : (M 102 8).toInt < 3120) (ht : 0 ≤ t.toInt ∧ t.toInt < 3120) (hQ : Q (some (.inl (M 102 8))) (wd I P (m_around M sort v t) g, k, z)) : ab_CT d 170 [wd_v 102, .inl sort, .inl v, .inl t] (wd I P M g, k, z) Q := by
  have hs0 : (m_begins M sort v (ab_ii 0) 105 (M 102 8).toInt.toNat).toInt = ((0 : Nat) : Int) := by rw [m_begins_sz]; rfl
  have hs1 : (m_adds (m_begins M sort v (ab_ii 0)) (M 102 8) (ab_ii 0) t 0 105 (M 102 8).toInt.toNat).toInt = ((1 : Nat) : Int) := by rw [m_adds_sz]; rfl
  refine wd_inC rfl (by omega) rfl ?_
  intro C9 X9 hC9 hX9
  repeat' ((conv => whnf); first
    | (refine hC9 136 _ _ _ (x_begins (by omega) h0 h1 ?_))
    | (refine hC9 151 _ _ _ (x_adds (by omega) h0 h1 hs0 (by decide) ?_))
    | (refine hC9 137 _ _ _ (x_ends (by omega) h0 h1 hs1 (by decide) (fun j hj => by rw [show j = 0 by omega, m_adds_pt]; exact ht) ?_))
    | (intro v9 hv9; (try simp (disch := omega) only [ab_tI, ab_c0, wd_ix12, wd_ix8, wd_ix10, wd_up_self, wd_up_eq, wd_up_ne, Int.toNat_natCast, Int.toNat_of_nonneg, not_true_eq_false, not_false_eq_true, Option.some.injEq] at hv9); subst hv9)
    | (apply i_get; (focus (exact rfl)); (focus (exact rfl)))
    | (refine hX9 _ _ _ _ (wd_rnC rfl ?_); clear hC9 hX9 X9 C9; intro C9 X9 hC9 hX9)
    | (apply w_ialM; (focus (exact rfl)); (focus (exact (by first | exact ⟨by decide, by decide⟩ | ((try simp (disch := omega) only [ab_tI, ab_c0, wd_ix12, wd_ix8, wd_ix10, wd_up_self, wd_up_eq, wd_up_ne, Int.toNat_natCast, Int.toNat_of_nonneg, not_true_eq_false, not_false_eq_true, Option.some.injEq, wd_l103, wd_l104, wd_l105, wd_l106, wd_l107, wd_l108, wd_l109, wd_l110, wd_l111, wd_l112, wd_l113, wd_l114, wd_l115, wd_l116, wd_l117, wd_l118, wd_l119, wd_l120, wd_l121, wd_l122, wd_l123, wd_l124]); omega)))); (intro v9 hv9; (try simp (disch := omega) only [ab_tI, ab_c0, wd_ix12, wd_ix8, wd_ix10, wd_up_self, wd_up_eq, wd_up_ne, Int.toNat_natCast, Int.toNat_of_nonneg, not_true_eq_false, not_false_eq_true, Option.some.injEq] at hv9); subst hv9))
    | (apply w_putM; (focus (exact rfl)); (focus (first | exact trivial | exact Or.inl rfl | exact Or.inr rfl)); (focus (exact rfl)))
    | (apply w_iasM; (focus (exact rfl)); (focus (exact (by first | exact ⟨by decide, by decide⟩ | ((try simp (disch := omega) only [ab_tI, ab_c0, wd_ix12, wd_ix8, wd_ix10, wd_up_self, wd_up_eq, wd_up_ne, Int.toNat_natCast, Int.toNat_of_nonneg, not_true_eq_false, not_false_eq_true, Option.some.injEq, wd_l103, wd_l104, wd_l105, wd_l106, wd_l107, wd_l108, wd_l109, wd_l110, wd_l111, wd_l112, wd_l113, wd_l114, wd_l115, wd_l116, wd_l117, wd_l118, wd_l119, wd_l120, wd_l121, wd_l122, wd_l123, wd_l124]); omega)))); (intro v9 hv9; (try simp (disch := omega) only [ab_tI, ab_c0, wd_ix12, wd_ix8, wd_ix10, wd_up_self, wd_up_eq, wd_up_ne, Int.toNat_natCast, Int.toNat_of_nonneg, not_true_eq_false, not_false_eq_true, Option.some.injEq] at hv9); subst hv9))
    | (refine i_brF (by decide) ?_)
    | (refine i_brT (by decide) ?_)
    | (refine ⟨fun hc => ?_, fun hc => ?_⟩ <;> (try simp (disch := omega) only [ab_tI, ab_c0, wd_ix12, wd_ix8, wd_ix10, wd_up_self, wd_up_eq, wd_up_ne, Int.toNat_natCast, Int.toNat_of_nonneg, not_true_eq_false, not_false_eq_true, Option.some.injEq] at hc) <;> first | (exfalso; omega) | skip)
    | (apply i_cv; (focus (exact rfl)))
    | (apply w_balM; (focus (exact (by first | exact ⟨by decide, by decide⟩ | ((try simp (disch := omega) only [ab_tI, ab_c0, wd_ix12, wd_ix8, wd_ix10, wd_up_self, wd_up_eq, wd_up_ne, Int.toNat_natCast, Int.toNat_of_nonneg, not_true_eq_false, not_false_eq_true, Option.some.injEq, wd_l103, wd_l104, wd_l105, wd_l106, wd_l107, wd_l108, wd_l109, wd_l110, wd_l111, wd_l112, wd_l113, wd_l114, wd_l115, wd_l116, wd_l117, wd_l118, wd_l119, wd_l120, wd_l121, wd_l122, wd_l123, wd_l124]); omega)))); (intro v9 hv9; (try simp (disch := omega) only [ab_tI, ab_c0, wd_ix12, wd_ix8, wd_ix10, wd_up_self, wd_up_eq, wd_up_ne, Int.toNat_natCast, Int.toNat_of_nonneg, not_true_eq_false, not_false_eq_true, Option.some.injEq] at hv9); subst hv9))
    | (apply w_basM; (focus (exact (by first | exact ⟨by decide, by decide⟩ | ((try simp (disch := omega) only [ab_tI, ab_c0, wd_ix12, wd_ix8, wd_ix10, wd_up_self, wd_up_eq, wd_up_ne, Int.toNat_natCast, Int.toNat_of_nonneg, not_true_eq_false, not_false_eq_true, Option.some.injEq, wd_l103, wd_l104, wd_l105, wd_l106, wd_l107, wd_l108, wd_l109, wd_l110, wd_l111, wd_l112, wd_l113, wd_l114, wd_l115, wd_l116, wd_l117, wd_l118, wd_l119, wd_l120, wd_l121, wd_l122, wd_l123, wd_l124]); omega)))); (focus (first | exact Or.inl rfl | exact Or.inr rfl)); (intro v9 hv9; (try simp (disch := omega) only [ab_tI, ab_c0, wd_ix12, wd_ix8, wd_ix10, wd_up_self, wd_up_eq, wd_up_ne, Int.toNat_natCast, Int.toNat_of_nonneg, not_true_eq_false, not_false_eq_true, Option.some.injEq] at hv9); subst hv9))
    | (refine And.intro trivial ?_)
    | (refine And.intro (Or.inl rfl) ?_)
    | (refine And.intro (Or.inr rfl) ?_)
    | (refine And.intro (by ((try simp (disch := omega) only [ab_tI, ab_c0, wd_ix12, wd_ix8, wd_ix10, wd_up_self, wd_up_eq, wd_up_ne, Int.toNat_natCast, Int.toNat_of_nonneg, not_true_eq_false, not_false_eq_true, Option.some.injEq]); omega)) ?_)
    | fail)
  exact hQ
theorem wd_ix12r {x : Int} {s j : Nat} (h : 0 ≤ x) (hj : j < s) : (12 * x + (s : Int) - 1 - (j : Int)).toNat = 12 * x.toNat + (s - 1 - j) := by omega
theorem wd_ix12m {x : Int} {j : Nat} (h : 0 ≤ x) : (12 * x + ((j + 1 : Nat) : Int) - 1).toNat = 12 * x.toNat + j := by omega
theorem wd_m1 {j : Nat} : ((j + 1 : Nat) : Int) + -1 = (j : Int) := by omega
def m_pr (n : Int) (c s : Nat) (N : wd_I) : Prop := ∀ j, j < s → 0 ≤ (N 108 (12 * c + j)).toInt ∧ (N 108 (12 * c + j)).toInt < n
theorem m_pr_up {n : Int} {c s i : Nat} {N : wd_I} {x : Int32} (h : m_pr n c s N) (hx : 0 ≤ x.toInt ∧ x.toInt < n) : m_pr n c s (wd_up N 108 i x) := fun j hj => by
  by_cases e : 12 * c + j = i
  · rw [← e, wd_up_self]; exact hx
  · rw [wd_up_ne _ _ (Or.inr e)]; exact h j hj
def m_ins (c : Nat) (p : Int32) : Nat → wd_I → wd_I
  | 0, N => wd_up N 108 (12 * c + 0) p
  | q + 1, N => if 0 < m_cmp N 13 (N 108 (12 * c + q)) p then m_ins c p q (wd_up N 108 (12 * c + (q + 1)) (N 108 (12 * c + q))) else wd_up N 108 (12 * c + (q + 1)) p
theorem m_ins_pr {n : Int} {c s : Nat} {p : Int32} (hp : 0 ≤ p.toInt ∧ p.toInt < n) : ∀ (q : Nat) (N : wd_I), q < s → m_pr n c s N → m_pr n c s (m_ins c p q N)
  | 0, N, hq, h => m_pr_up h hp
  | q + 1, N, hq, h => by
    unfold m_ins
    split
    · exact m_ins_pr hp q _ (by omega) (m_pr_up h (h q (by omega)))
    · exact m_pr_up h hp
theorem m_ins_fr {n : Int} {c : Nat} {p : Int32} {M : wd_I} (hc : n ≤ (c : Int)) : ∀ (q : Nat) (N : wd_I), m_fr n M N → m_fr n M (m_ins c p q N)
  | 0, N, h => m_fr_up h (by unfold m_wr; omega)
  | q + 1, N, h => by
    unfold m_ins
    split
    · exact m_ins_fr hc q _ (m_fr_up h (by unfold m_wr; omega))
    · exact m_fr_up h (by unfold m_wr; omega)
def m_ch1 (how : Int) (s c t : Nat) (N : wd_I) (j : Nat) : wd_I := if how = 8 ∨ how = 9 then wd_up N 108 (12 * c + (s - 1 - j)) (N 108 (12 * t + j)) else if how = 11 then wd_up N 108 (12 * c + (j + 1) % s) (N 108 (12 * t + j)) else m_ins c (N 108 (12 * t + j)) j N
def m_chl (how : Int) (s c t : Nat) (M : wd_I) : Nat → wd_I
  | 0 => M
  | j + 1 => m_ch1 how s c t (m_chl how s c t M j) j
theorem m_ch1_fr {n how : Int} {s c t j : Nat} {M N : wd_I} (hc : n ≤ (c : Int)) (h : m_fr n M N) : m_fr n M (m_ch1 how s c t N j) := by
  unfold m_ch1
  split
  · exact m_fr_up h (by unfold m_wr; omega)
  · split
    · exact m_fr_up h (by unfold m_wr; omega)
    · exact m_ins_fr hc _ _ h
theorem m_chl_fr {n how : Int} {s c t : Nat} {M N : wd_I} (hc : n ≤ (c : Int)) (h : m_fr n M N) : ∀ j, m_fr n M (m_chl how s c t N j)
  | 0 => h
  | j + 1 => m_ch1_fr hc (m_chl_fr hc h j)
theorem m_ch1_pr {n how : Int} {s c t j : Nat} {N : wd_I} (hj : j < s) (h : m_pr n c s N) (ht : 0 ≤ (N 108 (12 * t + j)).toInt ∧ (N 108 (12 * t + j)).toInt < n) : m_pr n c s (m_ch1 how s c t N j) := by
  unfold m_ch1
  split
  · exact m_pr_up h ht
  · split
    · exact m_pr_up h ht
    · exact m_ins_pr ht _ _ hj h
theorem m_chl_pr {n how : Int} {s c t : Nat} {M : wd_I} (hc : n ≤ (c : Int)) (htn : (t : Int) < n) (hs : s ≤ 12) (h : m_pr n c s M) (ht : ∀ j, j < s → 0 ≤ (M 108 (12 * t + j)).toInt ∧ (M 108 (12 * t + j)).toInt < n) : ∀ j, j ≤ s → m_pr n c s (m_chl how s c t M j)
  | 0, _ => h
  | j + 1, hj => m_ch1_pr (by omega) (m_chl_pr hc htn hs h ht j (by omega)) (by
    rw [((m_chl_fr hc m_fr.rf j).1.2 (12 * t + j) (by omega)).1]
    exact ht j (by omega))
set_option maxHeartbeats 4000000 in
set_option maxRecDepth 100000 in
theorem x_changed_i {d : Nat} (hd : 14 ≤ d) {I : wd_I} {P : wd_P} {M : wd_I} {g : Nat → ab_C} {k z s j : Nat} {n : Int} {t c p : Int32} {Q : ab_Q} (hcl : m_cl M n) (hc0 : n ≤ c.toInt) (hc1 : c.toInt < 3120) (hn0 : 0 ≤ n) (h12 : s ≤ 12) (hp : 0 ≤ p.toInt ∧ p.toInt < n) (hj : j < s) {N0 : wd_I} (hK : ab_WB d 169 Q 16 [(0, wd_v 102), (1, .inl t), (2, .inl c), (3, .inl (ab_ii (s : Int))), (4, .inl (ab_ii (((j + 1 : Nat)) : Int)))] [] (wd I P N0 g, k, z)) : ∀ (q : Nat) (N : wd_I), q ≤ j → m_fr n M N → m_pr n c.toInt.toNat s N → N0 = m_ins c.toInt.toNat p q N → ab_WB d 169 Q 109 [(0, wd_v 102), (1, .inl t), (2, .inl c), (3, .inl (ab_ii (s : Int))), (4, .inl (ab_ii (j : Int))), (5, .inl p), (6, .inl (ab_ii (q : Int)))] [] (wd I P N g, k, z)
  | 0, N, hq, hf, hpr, hN => by
    unfold m_ins at hN
    rw [hN] at hK
    refine wd_rnC rfl ?_
    intro C9 X9 hC9 hX9
    repeat' ((conv => whnf); first
    | (refine hX9 16 _ _ _ (ab_WB_sub ?_ hK); (repeat (first | exact ab_sub0 | (refine ab_sub1 ?_ ?_; (focus ((repeat (refine ab_skip rfl ?_)); first | exact List.mem_cons_self))))))
    | (intro v9 hv9; (try simp (disch := omega) only [ab_tI, ab_c0, wd_ix12, wd_ix8, wd_ix10, wd_up_self, wd_up_eq, wd_up_ne, Int.toNat_natCast, Int.toNat_of_nonneg, not_true_eq_false, not_false_eq_true, Option.some.injEq] at hv9); subst hv9)
    | (apply i_get; (focus (exact rfl)); (focus (exact rfl)))
    | (refine hX9 _ _ _ _ (wd_rnC rfl ?_); clear hC9 hX9 X9 C9; intro C9 X9 hC9 hX9)
    | (apply w_ialM; (focus (exact rfl)); (focus (exact (by first | exact ⟨by decide, by decide⟩ | ((try simp (disch := omega) only [ab_tI, ab_c0, wd_ix12, wd_ix8, wd_ix10, wd_up_self, wd_up_eq, wd_up_ne, Int.toNat_natCast, Int.toNat_of_nonneg, not_true_eq_false, not_false_eq_true, Option.some.injEq, wd_l103, wd_l104, wd_l105, wd_l106, wd_l107, wd_l108, wd_l109, wd_l110, wd_l111, wd_l112, wd_l113, wd_l114, wd_l115, wd_l116, wd_l117, wd_l118, wd_l119, wd_l120, wd_l121, wd_l122, wd_l123, wd_l124]); omega)))); (intro v9 hv9; (try simp (disch := omega) only [ab_tI, ab_c0, wd_ix12, wd_ix8, wd_ix10, wd_up_self, wd_up_eq, wd_up_ne, Int.toNat_natCast, Int.toNat_of_nonneg, not_true_eq_false, not_false_eq_true, Option.some.injEq] at hv9); subst hv9))
    | (apply w_putM; (focus (exact rfl)); (focus (first | exact trivial | exact Or.inl rfl | exact Or.inr rfl)); (focus (exact rfl)))
    | (apply w_iasM; (focus (exact rfl)); (focus (exact (by first | exact ⟨by decide, by decide⟩ | ((try simp (disch := omega) only [ab_tI, ab_c0, wd_ix12, wd_ix8, wd_ix10, wd_up_self, wd_up_eq, wd_up_ne, Int.toNat_natCast, Int.toNat_of_nonneg, not_true_eq_false, not_false_eq_true, Option.some.injEq, wd_l103, wd_l104, wd_l105, wd_l106, wd_l107, wd_l108, wd_l109, wd_l110, wd_l111, wd_l112, wd_l113, wd_l114, wd_l115, wd_l116, wd_l117, wd_l118, wd_l119, wd_l120, wd_l121, wd_l122, wd_l123, wd_l124]); omega)))); (intro v9 hv9; (try simp (disch := omega) only [ab_tI, ab_c0, wd_ix12, wd_ix8, wd_ix10, wd_up_self, wd_up_eq, wd_up_ne, Int.toNat_natCast, Int.toNat_of_nonneg, not_true_eq_false, not_false_eq_true, Option.some.injEq] at hv9); subst hv9))
    | (refine i_brF (by decide) ?_)
    | (refine i_brT (by decide) ?_)
    | (refine ⟨fun hc => ?_, fun hc => ?_⟩ <;> (try simp (disch := omega) only [ab_tI, ab_c0, wd_ix12, wd_ix8, wd_ix10, wd_up_self, wd_up_eq, wd_up_ne, Int.toNat_natCast, Int.toNat_of_nonneg, not_true_eq_false, not_false_eq_true, Option.some.injEq] at hc) <;> first | (exfalso; omega) | skip)
    | (apply i_cv; (focus (exact rfl)))
    | (apply w_balM; (focus (exact (by first | exact ⟨by decide, by decide⟩ | ((try simp (disch := omega) only [ab_tI, ab_c0, wd_ix12, wd_ix8, wd_ix10, wd_up_self, wd_up_eq, wd_up_ne, Int.toNat_natCast, Int.toNat_of_nonneg, not_true_eq_false, not_false_eq_true, Option.some.injEq, wd_l103, wd_l104, wd_l105, wd_l106, wd_l107, wd_l108, wd_l109, wd_l110, wd_l111, wd_l112, wd_l113, wd_l114, wd_l115, wd_l116, wd_l117, wd_l118, wd_l119, wd_l120, wd_l121, wd_l122, wd_l123, wd_l124]); omega)))); (intro v9 hv9; (try simp (disch := omega) only [ab_tI, ab_c0, wd_ix12, wd_ix8, wd_ix10, wd_up_self, wd_up_eq, wd_up_ne, Int.toNat_natCast, Int.toNat_of_nonneg, not_true_eq_false, not_false_eq_true, Option.some.injEq] at hv9); subst hv9))
    | (apply w_basM; (focus (exact (by first | exact ⟨by decide, by decide⟩ | ((try simp (disch := omega) only [ab_tI, ab_c0, wd_ix12, wd_ix8, wd_ix10, wd_up_self, wd_up_eq, wd_up_ne, Int.toNat_natCast, Int.toNat_of_nonneg, not_true_eq_false, not_false_eq_true, Option.some.injEq, wd_l103, wd_l104, wd_l105, wd_l106, wd_l107, wd_l108, wd_l109, wd_l110, wd_l111, wd_l112, wd_l113, wd_l114, wd_l115, wd_l116, wd_l117, wd_l118, wd_l119, wd_l120, wd_l121, wd_l122, wd_l123, wd_l124]); omega)))); (focus (first | exact Or.inl rfl | exact Or.inr rfl)); (intro v9 hv9; (try simp (disch := omega) only [ab_tI, ab_c0, wd_ix12, wd_ix8, wd_ix10, wd_up_self, wd_up_eq, wd_up_ne, Int.toNat_natCast, Int.toNat_of_nonneg, not_true_eq_false, not_false_eq_true, Option.some.injEq] at hv9); subst hv9))
    | (refine And.intro trivial ?_)
    | (refine And.intro (Or.inl rfl) ?_)
    | (refine And.intro (Or.inr rfl) ?_)
    | (refine And.intro (by ((try simp (disch := omega) only [ab_tI, ab_c0, wd_ix12, wd_ix8, wd_ix10, wd_up_self, wd_up_eq, wd_up_ne, Int.toNat_natCast, Int.toNat_of_nonneg, not_true_eq_false, not_false_eq_true, Option.some.injEq]); omega)) ?_)
    | fail)
    all_goals (exfalso; omega)
  | q + 1, N, hq, hf, hpr, hN => by
    have hclN := m_cl_sb hf.1 hcl
    have hpq := hpr q (by omega)
    have hb := m_cmp_b (M := N) 13 (N 108 (12 * c.toInt.toNat + q)) p
    have hcmp := fun Q hQ => x_compared hclN (I := I) (P := P) (g := g) (k := k) (z := z) 13 (d - 1) (by omega) (N 108 (12 * c.toInt.toNat + q)) p Q hpq.1 hpq.2 hp.1 hp.2 (m_ht13 hclN hpq.1 hpq.2) hQ
    unfold m_ins at hN
    by_cases hc : 0 < m_cmp N 13 (N 108 (12 * c.toInt.toNat + q)) p
    · rw [if_pos hc] at hN
      have ih := x_changed_i hd hcl hc0 hc1 hn0 h12 hp hj hK q (wd_up N 108 (12 * c.toInt.toNat + (q + 1)) (N 108 (12 * c.toInt.toNat + q))) (by omega) (m_fr_up hf (by unfold m_wr; omega)) (m_pr_up hpr hpq) hN
      refine wd_rnC rfl ?_
      intro C9 X9 hC9 hX9
      repeat' ((conv => whnf); first
    | (refine hX9 109 _ _ _ (ab_WB_sub ?_ ih); (repeat (first | exact ab_sub0 | (refine ab_sub1 ?_ ?_; (focus ((repeat (refine ab_skip rfl ?_)); first | exact List.mem_cons_self))))))
    | (refine hC9 140 _ _ _ (hcmp _ ?_))
    | (intro v9 hv9; (try simp (disch := omega) only [ab_tI, ab_c0, wd_ix12, wd_ix8, wd_ix10, wd_up_self, wd_up_eq, wd_up_ne, Int.toNat_natCast, Int.toNat_of_nonneg, not_true_eq_false, not_false_eq_true, Option.some.injEq, wd_ix12m, wd_m1] at hv9); subst hv9)
    | (apply i_get; (focus (exact rfl)); (focus (exact rfl)))
    | (refine hX9 _ _ _ _ (wd_rnC rfl ?_); clear hC9 hX9 X9 C9; intro C9 X9 hC9 hX9)
    | (apply w_ialM; (focus (exact rfl)); (focus (exact (by first | exact ⟨by decide, by decide⟩ | ((try simp (disch := omega) only [ab_tI, ab_c0, wd_ix12, wd_ix8, wd_ix10, wd_up_self, wd_up_eq, wd_up_ne, Int.toNat_natCast, Int.toNat_of_nonneg, not_true_eq_false, not_false_eq_true, Option.some.injEq, wd_ix12m, wd_m1, wd_l103, wd_l104, wd_l105, wd_l106, wd_l107, wd_l108, wd_l109, wd_l110, wd_l111, wd_l112, wd_l113, wd_l114, wd_l115, wd_l116, wd_l117, wd_l118, wd_l119, wd_l120, wd_l121, wd_l122, wd_l123, wd_l124]); omega)))); (intro v9 hv9; (try simp (disch := omega) only [ab_tI, ab_c0, wd_ix12, wd_ix8, wd_ix10, wd_up_self, wd_up_eq, wd_up_ne, Int.toNat_natCast, Int.toNat_of_nonneg, not_true_eq_false, not_false_eq_true, Option.some.injEq, wd_ix12m, wd_m1] at hv9); subst hv9))
    | (apply w_putM; (focus (exact rfl)); (focus (first | exact trivial | exact Or.inl rfl | exact Or.inr rfl)); (focus (exact rfl)))
    | (apply w_iasM; (focus (exact rfl)); (focus (exact (by first | exact ⟨by decide, by decide⟩ | ((try simp (disch := omega) only [ab_tI, ab_c0, wd_ix12, wd_ix8, wd_ix10, wd_up_self, wd_up_eq, wd_up_ne, Int.toNat_natCast, Int.toNat_of_nonneg, not_true_eq_false, not_false_eq_true, Option.some.injEq, wd_ix12m, wd_m1, wd_l103, wd_l104, wd_l105, wd_l106, wd_l107, wd_l108, wd_l109, wd_l110, wd_l111, wd_l112, wd_l113, wd_l114, wd_l115, wd_l116, wd_l117, wd_l118, wd_l119, wd_l120, wd_l121, wd_l122, wd_l123, wd_l124]); omega)))); (intro v9 hv9; (try simp (disch := omega) only [ab_tI, ab_c0, wd_ix12, wd_ix8, wd_ix10, wd_up_self, wd_up_eq, wd_up_ne, Int.toNat_natCast, Int.toNat_of_nonneg, not_true_eq_false, not_false_eq_true, Option.some.injEq, wd_ix12m, wd_m1] at hv9); subst hv9))
    | (refine i_brF (by decide) ?_)
    | (refine i_brT (by decide) ?_)
    | (refine ⟨fun hc => ?_, fun hc => ?_⟩ <;> (try simp (disch := omega) only [ab_tI, ab_c0, wd_ix12, wd_ix8, wd_ix10, wd_up_self, wd_up_eq, wd_up_ne, Int.toNat_natCast, Int.toNat_of_nonneg, not_true_eq_false, not_false_eq_true, Option.some.injEq, wd_ix12m, wd_m1] at hc) <;> first | (exfalso; omega) | skip)
    | (apply i_cv; (focus (exact rfl)))
    | (apply w_balM; (focus (exact (by first | exact ⟨by decide, by decide⟩ | ((try simp (disch := omega) only [ab_tI, ab_c0, wd_ix12, wd_ix8, wd_ix10, wd_up_self, wd_up_eq, wd_up_ne, Int.toNat_natCast, Int.toNat_of_nonneg, not_true_eq_false, not_false_eq_true, Option.some.injEq, wd_ix12m, wd_m1, wd_l103, wd_l104, wd_l105, wd_l106, wd_l107, wd_l108, wd_l109, wd_l110, wd_l111, wd_l112, wd_l113, wd_l114, wd_l115, wd_l116, wd_l117, wd_l118, wd_l119, wd_l120, wd_l121, wd_l122, wd_l123, wd_l124]); omega)))); (intro v9 hv9; (try simp (disch := omega) only [ab_tI, ab_c0, wd_ix12, wd_ix8, wd_ix10, wd_up_self, wd_up_eq, wd_up_ne, Int.toNat_natCast, Int.toNat_of_nonneg, not_true_eq_false, not_false_eq_true, Option.some.injEq, wd_ix12m, wd_m1] at hv9); subst hv9))
    | (apply w_basM; (focus (exact (by first | exact ⟨by decide, by decide⟩ | ((try simp (disch := omega) only [ab_tI, ab_c0, wd_ix12, wd_ix8, wd_ix10, wd_up_self, wd_up_eq, wd_up_ne, Int.toNat_natCast, Int.toNat_of_nonneg, not_true_eq_false, not_false_eq_true, Option.some.injEq, wd_ix12m, wd_m1, wd_l103, wd_l104, wd_l105, wd_l106, wd_l107, wd_l108, wd_l109, wd_l110, wd_l111, wd_l112, wd_l113, wd_l114, wd_l115, wd_l116, wd_l117, wd_l118, wd_l119, wd_l120, wd_l121, wd_l122, wd_l123, wd_l124]); omega)))); (focus (first | exact Or.inl rfl | exact Or.inr rfl)); (intro v9 hv9; (try simp (disch := omega) only [ab_tI, ab_c0, wd_ix12, wd_ix8, wd_ix10, wd_up_self, wd_up_eq, wd_up_ne, Int.toNat_natCast, Int.toNat_of_nonneg, not_true_eq_false, not_false_eq_true, Option.some.injEq, wd_ix12m, wd_m1] at hv9); subst hv9))
    | (refine And.intro trivial ?_)
    | (refine And.intro (Or.inl rfl) ?_)
    | (refine And.intro (Or.inr rfl) ?_)
    | (refine And.intro (by ((try simp (disch := omega) only [ab_tI, ab_c0, wd_ix12, wd_ix8, wd_ix10, wd_up_self, wd_up_eq, wd_up_ne, Int.toNat_natCast, Int.toNat_of_nonneg, not_true_eq_false, not_false_eq_true, Option.some.injEq, wd_ix12m, wd_m1]); omega)) ?_)
    | fail)
      all_goals (exfalso; omega)
    · rw [if_neg hc] at hN
      rw [hN] at hK
      refine wd_rnC rfl ?_
      intro C9 X9 hC9 hX9
      repeat' ((conv => whnf); first
    | (refine hX9 16 _ _ _ (ab_WB_sub ?_ hK); (repeat (first | exact ab_sub0 | (refine ab_sub1 ?_ ?_; (focus ((repeat (refine ab_skip rfl ?_)); first | exact List.mem_cons_self))))))
    | (refine hC9 140 _ _ _ (hcmp _ ?_))
    | (intro v9 hv9; (try simp (disch := omega) only [ab_tI, ab_c0, wd_ix12, wd_ix8, wd_ix10, wd_up_self, wd_up_eq, wd_up_ne, Int.toNat_natCast, Int.toNat_of_nonneg, not_true_eq_false, not_false_eq_true, Option.some.injEq, wd_ix12m, wd_m1] at hv9); subst hv9)
    | (apply i_get; (focus (exact rfl)); (focus (exact rfl)))
    | (refine hX9 _ _ _ _ (wd_rnC rfl ?_); clear hC9 hX9 X9 C9; intro C9 X9 hC9 hX9)
    | (apply w_ialM; (focus (exact rfl)); (focus (exact (by first | exact ⟨by decide, by decide⟩ | ((try simp (disch := omega) only [ab_tI, ab_c0, wd_ix12, wd_ix8, wd_ix10, wd_up_self, wd_up_eq, wd_up_ne, Int.toNat_natCast, Int.toNat_of_nonneg, not_true_eq_false, not_false_eq_true, Option.some.injEq, wd_ix12m, wd_m1, wd_l103, wd_l104, wd_l105, wd_l106, wd_l107, wd_l108, wd_l109, wd_l110, wd_l111, wd_l112, wd_l113, wd_l114, wd_l115, wd_l116, wd_l117, wd_l118, wd_l119, wd_l120, wd_l121, wd_l122, wd_l123, wd_l124]); omega)))); (intro v9 hv9; (try simp (disch := omega) only [ab_tI, ab_c0, wd_ix12, wd_ix8, wd_ix10, wd_up_self, wd_up_eq, wd_up_ne, Int.toNat_natCast, Int.toNat_of_nonneg, not_true_eq_false, not_false_eq_true, Option.some.injEq, wd_ix12m, wd_m1] at hv9); subst hv9))
    | (apply w_putM; (focus (exact rfl)); (focus (first | exact trivial | exact Or.inl rfl | exact Or.inr rfl)); (focus (exact rfl)))
    | (apply w_iasM; (focus (exact rfl)); (focus (exact (by first | exact ⟨by decide, by decide⟩ | ((try simp (disch := omega) only [ab_tI, ab_c0, wd_ix12, wd_ix8, wd_ix10, wd_up_self, wd_up_eq, wd_up_ne, Int.toNat_natCast, Int.toNat_of_nonneg, not_true_eq_false, not_false_eq_true, Option.some.injEq, wd_ix12m, wd_m1, wd_l103, wd_l104, wd_l105, wd_l106, wd_l107, wd_l108, wd_l109, wd_l110, wd_l111, wd_l112, wd_l113, wd_l114, wd_l115, wd_l116, wd_l117, wd_l118, wd_l119, wd_l120, wd_l121, wd_l122, wd_l123, wd_l124]); omega)))); (intro v9 hv9; (try simp (disch := omega) only [ab_tI, ab_c0, wd_ix12, wd_ix8, wd_ix10, wd_up_self, wd_up_eq, wd_up_ne, Int.toNat_natCast, Int.toNat_of_nonneg, not_true_eq_false, not_false_eq_true, Option.some.injEq, wd_ix12m, wd_m1] at hv9); subst hv9))
    | (refine i_brF (by decide) ?_)
    | (refine i_brT (by decide) ?_)
    | (refine ⟨fun hc => ?_, fun hc => ?_⟩ <;> (try simp (disch := omega) only [ab_tI, ab_c0, wd_ix12, wd_ix8, wd_ix10, wd_up_self, wd_up_eq, wd_up_ne, Int.toNat_natCast, Int.toNat_of_nonneg, not_true_eq_false, not_false_eq_true, Option.some.injEq, wd_ix12m, wd_m1] at hc) <;> first | (exfalso; omega) | skip)
    | (apply i_cv; (focus (exact rfl)))
    | (apply w_balM; (focus (exact (by first | exact ⟨by decide, by decide⟩ | ((try simp (disch := omega) only [ab_tI, ab_c0, wd_ix12, wd_ix8, wd_ix10, wd_up_self, wd_up_eq, wd_up_ne, Int.toNat_natCast, Int.toNat_of_nonneg, not_true_eq_false, not_false_eq_true, Option.some.injEq, wd_ix12m, wd_m1, wd_l103, wd_l104, wd_l105, wd_l106, wd_l107, wd_l108, wd_l109, wd_l110, wd_l111, wd_l112, wd_l113, wd_l114, wd_l115, wd_l116, wd_l117, wd_l118, wd_l119, wd_l120, wd_l121, wd_l122, wd_l123, wd_l124]); omega)))); (intro v9 hv9; (try simp (disch := omega) only [ab_tI, ab_c0, wd_ix12, wd_ix8, wd_ix10, wd_up_self, wd_up_eq, wd_up_ne, Int.toNat_natCast, Int.toNat_of_nonneg, not_true_eq_false, not_false_eq_true, Option.some.injEq, wd_ix12m, wd_m1] at hv9); subst hv9))
    | (apply w_basM; (focus (exact (by first | exact ⟨by decide, by decide⟩ | ((try simp (disch := omega) only [ab_tI, ab_c0, wd_ix12, wd_ix8, wd_ix10, wd_up_self, wd_up_eq, wd_up_ne, Int.toNat_natCast, Int.toNat_of_nonneg, not_true_eq_false, not_false_eq_true, Option.some.injEq, wd_ix12m, wd_m1, wd_l103, wd_l104, wd_l105, wd_l106, wd_l107, wd_l108, wd_l109, wd_l110, wd_l111, wd_l112, wd_l113, wd_l114, wd_l115, wd_l116, wd_l117, wd_l118, wd_l119, wd_l120, wd_l121, wd_l122, wd_l123, wd_l124]); omega)))); (focus (first | exact Or.inl rfl | exact Or.inr rfl)); (intro v9 hv9; (try simp (disch := omega) only [ab_tI, ab_c0, wd_ix12, wd_ix8, wd_ix10, wd_up_self, wd_up_eq, wd_up_ne, Int.toNat_natCast, Int.toNat_of_nonneg, not_true_eq_false, not_false_eq_true, Option.some.injEq, wd_ix12m, wd_m1] at hv9); subst hv9))
    | (refine And.intro trivial ?_)
    | (refine And.intro (Or.inl rfl) ?_)
    | (refine And.intro (Or.inr rfl) ?_)
    | (refine And.intro (by ((try simp (disch := omega) only [ab_tI, ab_c0, wd_ix12, wd_ix8, wd_ix10, wd_up_self, wd_up_eq, wd_up_ne, Int.toNat_natCast, Int.toNat_of_nonneg, not_true_eq_false, not_false_eq_true, Option.some.injEq, wd_ix12m, wd_m1]); omega)) ?_)
    | fail)
      all_goals (exfalso; omega)
end
section
/-! ===== the reference: copies, what a focus becomes (own text) ===== -/
theorem m_cpl_108 {c t : Nat} {M : wd_I} (htc : t < c) : ∀ (n : Nat), n ≤ 12 → ∀ i, m_cpl c t M n 108 i = if 12 * c ≤ i ∧ i < 12 * c + n then M 108 (12 * t + (i - 12 * c)) else M 108 i
  | 0, _, i => by rw [if_neg (by omega)]; rfl
  | n + 1, hn, i => by
    unfold m_cpl
    rw [wd_up_row _ _ _ (by decide)]
    by_cases e : i = 12 * c + n
    · subst e
      rw [wd_up_self, if_pos (by omega), m_cpl_108 htc n (by omega), if_neg (by omega), show 12 * c + n - 12 * c = n by omega]
    · rw [wd_up_ne _ _ (Or.inr e), m_cpl_108 htc n (by omega)]
      by_cases h : 12 * c ≤ i ∧ i < 12 * c + n
      · rw [if_pos h, if_pos (by omega)]
      · rw [if_neg h, if_neg (by omega)]
theorem m_cpl_109 {c t : Nat} {M : wd_I} (htc : t < c) : ∀ (n : Nat), n ≤ 12 → ∀ i, m_cpl c t M n 109 i = if 12 * c ≤ i ∧ i < 12 * c + n then M 109 (12 * t + (i - 12 * c)) else M 109 i
  | 0, _, i => by rw [if_neg (by omega)]; rfl
  | n + 1, hn, i => by
    unfold m_cpl
    by_cases e : i = 12 * c + n
    · subst e
      rw [wd_up_self, if_pos (by omega), m_cpl_109 htc n (by omega), if_neg (by omega), show 12 * c + n - 12 * c = n by omega]
    · rw [wd_up_ne _ _ (Or.inr e), wd_up_row _ _ _ (by decide), m_cpl_109 htc n (by omega)]
      by_cases h : 12 * c ≤ i ∧ i < 12 * c + n
      · rw [if_pos h, if_pos (by omega)]
      · rw [if_neg h, if_neg (by omega)]
theorem m_begins_fr {n : Int} {M N : wd_I} {s v m : Int32} (h : m_fr n M N) (hn : n ≤ (N 102 8).toInt) : m_fr n M (m_begins N s v m) := by
  unfold m_begins
  exact m_fr_up (m_fr_up (m_fr_up (m_fr_up h (by unfold m_wr; omega)) (by unfold m_wr; omega)) (by unfold m_wr; omega)) (by unfold m_wr; omega)
theorem m_adds_fr {n : Int} {M N : wd_I} {t key p : Int32} {s : Nat} (h : m_fr n M N) (h0 : 0 ≤ n) (hn : n ≤ t.toInt) : m_fr n M (m_adds N t key p s) := by
  unfold m_adds
  exact m_fr_up (m_fr_up (m_fr_up h (by unfold m_wr; omega)) (by unfold m_wr; omega)) (by unfold m_wr; omega)
theorem m_ends_fr {n : Int} {M N : wd_I} {t : Int32} {s : Nat} (h : m_fr n M N) (hn : n ≤ t.toInt) : m_fr n M (m_ends N t s) := by
  unfold m_ends
  exact m_fr_up (m_fr_up h (by unfold m_wr; omega)) (by unfold m_wr; omega)
theorem m_cpl_fr {n : Int} {c t : Nat} {M N : wd_I} (h : m_fr n M N) (hc : n ≤ (c : Int)) : ∀ j, m_fr n M (m_cpl c t N j)
  | 0 => h
  | j + 1 => by
    unfold m_cpl
    exact m_fr_up (m_fr_up (m_cpl_fr h hc j) (by unfold m_wr; omega)) (by unfold m_wr; omega)
theorem m_copyOf_fr {n : Int} {M N : wd_I} {t : Int32} {s : Nat} (h : m_fr n M N) (hn : n ≤ (N 102 8).toInt) : m_fr n M (m_copyOf N t s) := by
  unfold m_copyOf
  exact m_cpl_fr (m_begins_fr h hn) (by omega) _
theorem m_copyOf_pt {M : wd_I} {t : Int32} {s : Nat} (h0 : 0 ≤ t.toInt) (h1 : t.toInt < (M 102 8).toInt) (h12 : s ≤ 12) {j : Nat} (hj : j < s) : m_copyOf M t s 108 (12 * (M 102 8).toInt.toNat + j) = M 108 (12 * t.toInt.toNat + j) := by
  unfold m_copyOf
  rw [m_cpl_108 (by omega) s h12, if_pos (by omega), m_begins_pt, show 12 * (M 102 8).toInt.toNat + j - 12 * (M 102 8).toInt.toNat = j by omega]
theorem m_copyOf_8 {M : wd_I} {t : Int32} {s : Nat} : m_copyOf M t s 102 8 = ab_ii ((M 102 8).toInt + 1) := by
  unfold m_copyOf
  rw [m_cpl_row (by decide) (by decide), m_begins_8]
theorem m_copyOf_sz {M : wd_I} {t : Int32} {s : Nat} : m_copyOf M t s 105 (M 102 8).toInt.toNat = M 105 t.toInt.toNat := by
  unfold m_copyOf
  rw [m_cpl_row (by decide) (by decide), m_begins_sz]
set_option maxHeartbeats 4000000 in
set_option maxRecDepth 100000 in
theorem x_changed_l {d : Nat} (hd : 14 ≤ d) {I : wd_I} {P : wd_P} {M : wd_I} {g : Nat → ab_C} {k z s : Nat} {n : Int} {t c hv : Int32} {Q : ab_Q} (hcl : m_cl M n) (hh : M 102 33 = hv) (ht0 : 0 ≤ t.toInt) (ht1 : t.toInt < n) (hc0 : n ≤ c.toInt) (hc1 : c.toInt < 3120) (hn0 : 0 ≤ n) (h12 : s ≤ 12) (hpr : m_pr n c.toInt.toNat s M) (hpt : ∀ j, j < s → 0 ≤ (M 108 (12 * t.toInt.toNat + j)).toInt ∧ (M 108 (12 * t.toInt.toNat + j)).toInt < n) {N0 : wd_I} (hN0 : N0 = m_chl hv.toInt s c.toInt.toNat t.toInt.toNat M s) (hK : ab_WB d 169 Q 16 [(0, wd_v 102), (1, .inl t), (2, .inl c), (3, .inl (ab_ii (s : Int))), (4, .inl (ab_ii (s : Int)))] [] (wd I P N0 g, k, z)) : ∀ r j, j + r = s → ab_WB d 169 Q 16 [(0, wd_v 102), (1, .inl t), (2, .inl c), (3, .inl (ab_ii (s : Int))), (4, .inl (ab_ii (j : Int)))] [] (wd I P (m_chl hv.toInt s c.toInt.toNat t.toInt.toNat M j) g, k, z)
  | 0, j, hj => by
    have e : j = s := by omega
    subst e
    rw [← hN0]
    exact hK
  | r + 1, j, hj => by
    have ih := x_changed_l hd hcl hh ht0 ht1 hc0 hc1 hn0 h12 hpr hpt hN0 hK r (j + 1) (by omega)
    have hf : m_fr n M (m_chl hv.toInt s c.toInt.toNat t.toInt.toNat M j) := m_chl_fr (by omega) m_fr.rf j
    have hprj := m_chl_pr (how := hv.toInt) (c := c.toInt.toNat) (t := t.toInt.toNat) (by omega) (by omega) h12 hpr hpt j (by omega)
    have e33 : m_chl hv.toInt s c.toInt.toNat t.toInt.toNat M j 102 33 = hv := by rw [hf.2.2 33 (by decide) (by decide) (by decide) (by decide)]; exact hh
    have hptj : 0 ≤ (m_chl hv.toInt s c.toInt.toNat t.toInt.toNat M j 108 (12 * t.toInt.toNat + j)).toInt ∧ (m_chl hv.toInt s c.toInt.toNat t.toInt.toNat M j 108 (12 * t.toInt.toNat + j)).toInt < n := by
      rw [(hf.1.2 (12 * t.toInt.toNat + j) (by omega)).1]
      exact hpt j (by omega)
    have hn3 := hcl.1
    have eN : m_chl hv.toInt s c.toInt.toNat t.toInt.toNat M (j + 1) = m_ch1 hv.toInt s c.toInt.toNat t.toInt.toNat (m_chl hv.toInt s c.toInt.toNat t.toInt.toNat M j) j := rfl
    rw [eN] at ih
    generalize m_chl hv.toInt s c.toInt.toNat t.toInt.toNat M j = N at *
    unfold m_ch1 at ih
    have hjs : j < s := by omega
    by_cases h8 : hv.toInt = 8 ∨ hv.toInt = 9
    · rw [if_pos h8] at ih
      refine wd_rnC rfl ?_
      intro C9 X9 hC9 hX9
      repeat' ((conv => whnf); first
    | (refine hX9 16 _ _ _ (ab_WB_sub ?_ ih); (repeat (first | exact ab_sub0 | (refine ab_sub1 ?_ ?_; (focus ((repeat (refine ab_skip rfl ?_)); first | exact List.mem_cons_self))))))
    | (intro v9 hv9; (try simp (disch := omega) only [ab_tI, ab_c0, wd_ix12, wd_ix8, wd_ix10, wd_up_self, wd_up_eq, wd_up_ne, Int.toNat_natCast, Int.toNat_of_nonneg, not_true_eq_false, not_false_eq_true, Option.some.injEq, e33, wd_ix12r] at hv9); subst hv9)
    | (apply i_get; (focus (exact rfl)); (focus (exact rfl)))
    | (refine hX9 _ _ _ _ (wd_rnC rfl ?_); clear hC9 hX9 X9 C9; intro C9 X9 hC9 hX9)
    | (apply w_ialM; (focus (exact rfl)); (focus (exact (by first | exact ⟨by decide, by decide⟩ | ((try simp (disch := omega) only [ab_tI, ab_c0, wd_ix12, wd_ix8, wd_ix10, wd_up_self, wd_up_eq, wd_up_ne, Int.toNat_natCast, Int.toNat_of_nonneg, not_true_eq_false, not_false_eq_true, Option.some.injEq, e33, wd_ix12r, wd_l103, wd_l104, wd_l105, wd_l106, wd_l107, wd_l108, wd_l109, wd_l110, wd_l111, wd_l112, wd_l113, wd_l114, wd_l115, wd_l116, wd_l117, wd_l118, wd_l119, wd_l120, wd_l121, wd_l122, wd_l123, wd_l124]); omega)))); (intro v9 hv9; (try simp (disch := omega) only [ab_tI, ab_c0, wd_ix12, wd_ix8, wd_ix10, wd_up_self, wd_up_eq, wd_up_ne, Int.toNat_natCast, Int.toNat_of_nonneg, not_true_eq_false, not_false_eq_true, Option.some.injEq, e33, wd_ix12r] at hv9); subst hv9))
    | (apply w_putM; (focus (exact rfl)); (focus (first | exact trivial | exact Or.inl rfl | exact Or.inr rfl)); (focus (exact rfl)))
    | (apply w_iasM; (focus (exact rfl)); (focus (exact (by first | exact ⟨by decide, by decide⟩ | ((try simp (disch := omega) only [ab_tI, ab_c0, wd_ix12, wd_ix8, wd_ix10, wd_up_self, wd_up_eq, wd_up_ne, Int.toNat_natCast, Int.toNat_of_nonneg, not_true_eq_false, not_false_eq_true, Option.some.injEq, e33, wd_ix12r, wd_l103, wd_l104, wd_l105, wd_l106, wd_l107, wd_l108, wd_l109, wd_l110, wd_l111, wd_l112, wd_l113, wd_l114, wd_l115, wd_l116, wd_l117, wd_l118, wd_l119, wd_l120, wd_l121, wd_l122, wd_l123, wd_l124]); omega)))); (intro v9 hv9; (try simp (disch := omega) only [ab_tI, ab_c0, wd_ix12, wd_ix8, wd_ix10, wd_up_self, wd_up_eq, wd_up_ne, Int.toNat_natCast, Int.toNat_of_nonneg, not_true_eq_false, not_false_eq_true, Option.some.injEq, e33, wd_ix12r] at hv9); subst hv9))
    | (refine i_brF (by decide) ?_)
    | (refine i_brT (by decide) ?_)
    | (refine ⟨fun hc => ?_, fun hc => ?_⟩ <;> (try simp (disch := omega) only [ab_tI, ab_c0, wd_ix12, wd_ix8, wd_ix10, wd_up_self, wd_up_eq, wd_up_ne, Int.toNat_natCast, Int.toNat_of_nonneg, not_true_eq_false, not_false_eq_true, Option.some.injEq, e33, wd_ix12r] at hc) <;> first | (exfalso; omega) | skip)
    | (apply i_cv; (focus (exact rfl)))
    | (apply w_balM; (focus (exact (by first | exact ⟨by decide, by decide⟩ | ((try simp (disch := omega) only [ab_tI, ab_c0, wd_ix12, wd_ix8, wd_ix10, wd_up_self, wd_up_eq, wd_up_ne, Int.toNat_natCast, Int.toNat_of_nonneg, not_true_eq_false, not_false_eq_true, Option.some.injEq, e33, wd_ix12r, wd_l103, wd_l104, wd_l105, wd_l106, wd_l107, wd_l108, wd_l109, wd_l110, wd_l111, wd_l112, wd_l113, wd_l114, wd_l115, wd_l116, wd_l117, wd_l118, wd_l119, wd_l120, wd_l121, wd_l122, wd_l123, wd_l124]); omega)))); (intro v9 hv9; (try simp (disch := omega) only [ab_tI, ab_c0, wd_ix12, wd_ix8, wd_ix10, wd_up_self, wd_up_eq, wd_up_ne, Int.toNat_natCast, Int.toNat_of_nonneg, not_true_eq_false, not_false_eq_true, Option.some.injEq, e33, wd_ix12r] at hv9); subst hv9))
    | (apply w_basM; (focus (exact (by first | exact ⟨by decide, by decide⟩ | ((try simp (disch := omega) only [ab_tI, ab_c0, wd_ix12, wd_ix8, wd_ix10, wd_up_self, wd_up_eq, wd_up_ne, Int.toNat_natCast, Int.toNat_of_nonneg, not_true_eq_false, not_false_eq_true, Option.some.injEq, e33, wd_ix12r, wd_l103, wd_l104, wd_l105, wd_l106, wd_l107, wd_l108, wd_l109, wd_l110, wd_l111, wd_l112, wd_l113, wd_l114, wd_l115, wd_l116, wd_l117, wd_l118, wd_l119, wd_l120, wd_l121, wd_l122, wd_l123, wd_l124]); omega)))); (focus (first | exact Or.inl rfl | exact Or.inr rfl)); (intro v9 hv9; (try simp (disch := omega) only [ab_tI, ab_c0, wd_ix12, wd_ix8, wd_ix10, wd_up_self, wd_up_eq, wd_up_ne, Int.toNat_natCast, Int.toNat_of_nonneg, not_true_eq_false, not_false_eq_true, Option.some.injEq, e33, wd_ix12r] at hv9); subst hv9))
    | (refine And.intro trivial ?_)
    | (refine And.intro (Or.inl rfl) ?_)
    | (refine And.intro (Or.inr rfl) ?_)
    | (refine And.intro (by ((try simp (disch := omega) only [ab_tI, ab_c0, wd_ix12, wd_ix8, wd_ix10, wd_up_self, wd_up_eq, wd_up_ne, Int.toNat_natCast, Int.toNat_of_nonneg, not_true_eq_false, not_false_eq_true, Option.some.injEq, e33, wd_ix12r]); omega)) ?_)
    | fail)
      all_goals (exfalso; omega)
    · rw [if_neg h8] at ih
      by_cases h11 : hv.toInt = 11
      · rw [if_pos h11] at ih
        obtain ⟨q, hq⟩ : ∃ q, q = (j + 1) % s := ⟨_, rfl⟩
        have hqs : q < s := by rw [hq]; exact Nat.mod_lt _ (by omega)
        have hmod : ((j : Int) + 1) % (s : Int) = (q : Int) := by subst hq; simp
        rw [← hq] at ih
        clear hq
        refine wd_rnC rfl ?_
        intro C9 X9 hC9 hX9
        (have chk9 := @hmod; clear chk9); repeat' ((conv => whnf); first
    | (refine hX9 16 _ _ _ (ab_WB_sub ?_ ih); (repeat (first | exact ab_sub0 | (refine ab_sub1 ?_ ?_; (focus ((repeat (refine ab_skip rfl ?_)); first | exact List.mem_cons_self))))))
    | (intro v9 hv9; (try simp (disch := omega) only [ab_tI, ab_c0, wd_ix12, wd_ix8, wd_ix10, wd_up_self, wd_up_eq, wd_up_ne, Int.toNat_natCast, Int.toNat_of_nonneg, not_true_eq_false, not_false_eq_true, Option.some.injEq, e33, hmod] at hv9); subst hv9)
    | (apply i_get; (focus (exact rfl)); (focus (exact rfl)))
    | (refine hX9 _ _ _ _ (wd_rnC rfl ?_); clear hC9 hX9 X9 C9; intro C9 X9 hC9 hX9)
    | (apply w_ialM; (focus (exact rfl)); (focus (exact (by first | exact ⟨by decide, by decide⟩ | ((try simp (disch := omega) only [ab_tI, ab_c0, wd_ix12, wd_ix8, wd_ix10, wd_up_self, wd_up_eq, wd_up_ne, Int.toNat_natCast, Int.toNat_of_nonneg, not_true_eq_false, not_false_eq_true, Option.some.injEq, e33, hmod, wd_l103, wd_l104, wd_l105, wd_l106, wd_l107, wd_l108, wd_l109, wd_l110, wd_l111, wd_l112, wd_l113, wd_l114, wd_l115, wd_l116, wd_l117, wd_l118, wd_l119, wd_l120, wd_l121, wd_l122, wd_l123, wd_l124]); omega)))); (intro v9 hv9; (try simp (disch := omega) only [ab_tI, ab_c0, wd_ix12, wd_ix8, wd_ix10, wd_up_self, wd_up_eq, wd_up_ne, Int.toNat_natCast, Int.toNat_of_nonneg, not_true_eq_false, not_false_eq_true, Option.some.injEq, e33, hmod] at hv9); subst hv9))
    | (apply w_putM; (focus (exact rfl)); (focus (first | exact trivial | exact Or.inl rfl | exact Or.inr rfl)); (focus (exact rfl)))
    | (apply w_iasM; (focus (exact rfl)); (focus (exact (by first | exact ⟨by decide, by decide⟩ | ((try simp (disch := omega) only [ab_tI, ab_c0, wd_ix12, wd_ix8, wd_ix10, wd_up_self, wd_up_eq, wd_up_ne, Int.toNat_natCast, Int.toNat_of_nonneg, not_true_eq_false, not_false_eq_true, Option.some.injEq, e33, hmod, wd_l103, wd_l104, wd_l105, wd_l106, wd_l107, wd_l108, wd_l109, wd_l110, wd_l111, wd_l112, wd_l113, wd_l114, wd_l115, wd_l116, wd_l117, wd_l118, wd_l119, wd_l120, wd_l121, wd_l122, wd_l123, wd_l124]); omega)))); (intro v9 hv9; (try simp (disch := omega) only [ab_tI, ab_c0, wd_ix12, wd_ix8, wd_ix10, wd_up_self, wd_up_eq, wd_up_ne, Int.toNat_natCast, Int.toNat_of_nonneg, not_true_eq_false, not_false_eq_true, Option.some.injEq, e33, hmod] at hv9); subst hv9))
    | (refine i_brF (by decide) ?_)
    | (refine i_brT (by decide) ?_)
    | (refine ⟨fun hc => ?_, fun hc => ?_⟩ <;> (try simp (disch := omega) only [ab_tI, ab_c0, wd_ix12, wd_ix8, wd_ix10, wd_up_self, wd_up_eq, wd_up_ne, Int.toNat_natCast, Int.toNat_of_nonneg, not_true_eq_false, not_false_eq_true, Option.some.injEq, e33, hmod] at hc) <;> first | (exfalso; omega) | skip)
    | (apply i_cv; (focus (exact rfl)))
    | (apply w_balM; (focus (exact (by first | exact ⟨by decide, by decide⟩ | ((try simp (disch := omega) only [ab_tI, ab_c0, wd_ix12, wd_ix8, wd_ix10, wd_up_self, wd_up_eq, wd_up_ne, Int.toNat_natCast, Int.toNat_of_nonneg, not_true_eq_false, not_false_eq_true, Option.some.injEq, e33, hmod, wd_l103, wd_l104, wd_l105, wd_l106, wd_l107, wd_l108, wd_l109, wd_l110, wd_l111, wd_l112, wd_l113, wd_l114, wd_l115, wd_l116, wd_l117, wd_l118, wd_l119, wd_l120, wd_l121, wd_l122, wd_l123, wd_l124]); omega)))); (intro v9 hv9; (try simp (disch := omega) only [ab_tI, ab_c0, wd_ix12, wd_ix8, wd_ix10, wd_up_self, wd_up_eq, wd_up_ne, Int.toNat_natCast, Int.toNat_of_nonneg, not_true_eq_false, not_false_eq_true, Option.some.injEq, e33, hmod] at hv9); subst hv9))
    | (apply w_basM; (focus (exact (by first | exact ⟨by decide, by decide⟩ | ((try simp (disch := omega) only [ab_tI, ab_c0, wd_ix12, wd_ix8, wd_ix10, wd_up_self, wd_up_eq, wd_up_ne, Int.toNat_natCast, Int.toNat_of_nonneg, not_true_eq_false, not_false_eq_true, Option.some.injEq, e33, hmod, wd_l103, wd_l104, wd_l105, wd_l106, wd_l107, wd_l108, wd_l109, wd_l110, wd_l111, wd_l112, wd_l113, wd_l114, wd_l115, wd_l116, wd_l117, wd_l118, wd_l119, wd_l120, wd_l121, wd_l122, wd_l123, wd_l124]); omega)))); (focus (first | exact Or.inl rfl | exact Or.inr rfl)); (intro v9 hv9; (try simp (disch := omega) only [ab_tI, ab_c0, wd_ix12, wd_ix8, wd_ix10, wd_up_self, wd_up_eq, wd_up_ne, Int.toNat_natCast, Int.toNat_of_nonneg, not_true_eq_false, not_false_eq_true, Option.some.injEq, e33, hmod] at hv9); subst hv9))
    | (refine And.intro trivial ?_)
    | (refine And.intro (Or.inl rfl) ?_)
    | (refine And.intro (Or.inr rfl) ?_)
    | (refine And.intro (by ((try simp (disch := omega) only [ab_tI, ab_c0, wd_ix12, wd_ix8, wd_ix10, wd_up_self, wd_up_eq, wd_up_ne, Int.toNat_natCast, Int.toNat_of_nonneg, not_true_eq_false, not_false_eq_true, Option.some.injEq, e33, hmod]); omega)) ?_)
    | fail)
        all_goals (exfalso; omega)
      · rw [if_neg h11] at ih
        have hi := x_changed_i hd hcl hc0 hc1 hn0 h12 hptj hjs ih j N (Nat.le_refl _) hf hprj rfl
        refine wd_rnC rfl ?_
        intro C9 X9 hC9 hX9
        repeat' ((conv => whnf); first
    | (refine hX9 109 _ _ _ (ab_WB_sub ?_ hi); (repeat (first | exact ab_sub0 | (refine ab_sub1 ?_ ?_; (focus ((repeat (refine ab_skip rfl ?_)); first | exact List.mem_cons_self))))))
    | (intro v9 hv9; (try simp (disch := omega) only [ab_tI, ab_c0, wd_ix12, wd_ix8, wd_ix10, wd_up_self, wd_up_eq, wd_up_ne, Int.toNat_natCast, Int.toNat_of_nonneg, not_true_eq_false, not_false_eq_true, Option.some.injEq, e33] at hv9); subst hv9)
    | (apply i_get; (focus (exact rfl)); (focus (exact rfl)))
    | (refine hX9 _ _ _ _ (wd_rnC rfl ?_); clear hC9 hX9 X9 C9; intro C9 X9 hC9 hX9)
    | (apply w_ialM; (focus (exact rfl)); (focus (exact (by first | exact ⟨by decide, by decide⟩ | ((try simp (disch := omega) only [ab_tI, ab_c0, wd_ix12, wd_ix8, wd_ix10, wd_up_self, wd_up_eq, wd_up_ne, Int.toNat_natCast, Int.toNat_of_nonneg, not_true_eq_false, not_false_eq_true, Option.some.injEq, e33, wd_l103, wd_l104, wd_l105, wd_l106, wd_l107, wd_l108, wd_l109, wd_l110, wd_l111, wd_l112, wd_l113, wd_l114, wd_l115, wd_l116, wd_l117, wd_l118, wd_l119, wd_l120, wd_l121, wd_l122, wd_l123, wd_l124]); omega)))); (intro v9 hv9; (try simp (disch := omega) only [ab_tI, ab_c0, wd_ix12, wd_ix8, wd_ix10, wd_up_self, wd_up_eq, wd_up_ne, Int.toNat_natCast, Int.toNat_of_nonneg, not_true_eq_false, not_false_eq_true, Option.some.injEq, e33] at hv9); subst hv9))
    | (apply w_putM; (focus (exact rfl)); (focus (first | exact trivial | exact Or.inl rfl | exact Or.inr rfl)); (focus (exact rfl)))
    | (apply w_iasM; (focus (exact rfl)); (focus (exact (by first | exact ⟨by decide, by decide⟩ | ((try simp (disch := omega) only [ab_tI, ab_c0, wd_ix12, wd_ix8, wd_ix10, wd_up_self, wd_up_eq, wd_up_ne, Int.toNat_natCast, Int.toNat_of_nonneg, not_true_eq_false, not_false_eq_true, Option.some.injEq, e33, wd_l103, wd_l104, wd_l105, wd_l106, wd_l107, wd_l108, wd_l109, wd_l110, wd_l111, wd_l112, wd_l113, wd_l114, wd_l115, wd_l116, wd_l117, wd_l118, wd_l119, wd_l120, wd_l121, wd_l122, wd_l123, wd_l124]); omega)))); (intro v9 hv9; (try simp (disch := omega) only [ab_tI, ab_c0, wd_ix12, wd_ix8, wd_ix10, wd_up_self, wd_up_eq, wd_up_ne, Int.toNat_natCast, Int.toNat_of_nonneg, not_true_eq_false, not_false_eq_true, Option.some.injEq, e33] at hv9); subst hv9))
    | (refine i_brF (by decide) ?_)
    | (refine i_brT (by decide) ?_)
    | (refine ⟨fun hc => ?_, fun hc => ?_⟩ <;> (try simp (disch := omega) only [ab_tI, ab_c0, wd_ix12, wd_ix8, wd_ix10, wd_up_self, wd_up_eq, wd_up_ne, Int.toNat_natCast, Int.toNat_of_nonneg, not_true_eq_false, not_false_eq_true, Option.some.injEq, e33] at hc) <;> first | (exfalso; omega) | skip)
    | (apply i_cv; (focus (exact rfl)))
    | (apply w_balM; (focus (exact (by first | exact ⟨by decide, by decide⟩ | ((try simp (disch := omega) only [ab_tI, ab_c0, wd_ix12, wd_ix8, wd_ix10, wd_up_self, wd_up_eq, wd_up_ne, Int.toNat_natCast, Int.toNat_of_nonneg, not_true_eq_false, not_false_eq_true, Option.some.injEq, e33, wd_l103, wd_l104, wd_l105, wd_l106, wd_l107, wd_l108, wd_l109, wd_l110, wd_l111, wd_l112, wd_l113, wd_l114, wd_l115, wd_l116, wd_l117, wd_l118, wd_l119, wd_l120, wd_l121, wd_l122, wd_l123, wd_l124]); omega)))); (intro v9 hv9; (try simp (disch := omega) only [ab_tI, ab_c0, wd_ix12, wd_ix8, wd_ix10, wd_up_self, wd_up_eq, wd_up_ne, Int.toNat_natCast, Int.toNat_of_nonneg, not_true_eq_false, not_false_eq_true, Option.some.injEq, e33] at hv9); subst hv9))
    | (apply w_basM; (focus (exact (by first | exact ⟨by decide, by decide⟩ | ((try simp (disch := omega) only [ab_tI, ab_c0, wd_ix12, wd_ix8, wd_ix10, wd_up_self, wd_up_eq, wd_up_ne, Int.toNat_natCast, Int.toNat_of_nonneg, not_true_eq_false, not_false_eq_true, Option.some.injEq, e33, wd_l103, wd_l104, wd_l105, wd_l106, wd_l107, wd_l108, wd_l109, wd_l110, wd_l111, wd_l112, wd_l113, wd_l114, wd_l115, wd_l116, wd_l117, wd_l118, wd_l119, wd_l120, wd_l121, wd_l122, wd_l123, wd_l124]); omega)))); (focus (first | exact Or.inl rfl | exact Or.inr rfl)); (intro v9 hv9; (try simp (disch := omega) only [ab_tI, ab_c0, wd_ix12, wd_ix8, wd_ix10, wd_up_self, wd_up_eq, wd_up_ne, Int.toNat_natCast, Int.toNat_of_nonneg, not_true_eq_false, not_false_eq_true, Option.some.injEq, e33] at hv9); subst hv9))
    | (refine And.intro trivial ?_)
    | (refine And.intro (Or.inl rfl) ?_)
    | (refine And.intro (Or.inr rfl) ?_)
    | (refine And.intro (by ((try simp (disch := omega) only [ab_tI, ab_c0, wd_ix12, wd_ix8, wd_ix10, wd_up_self, wd_up_eq, wd_up_ne, Int.toNat_natCast, Int.toNat_of_nonneg, not_true_eq_false, not_false_eq_true, Option.some.injEq, e33]); omega)) ?_)
    | fail)
        all_goals (exfalso; omega)
def m_changed (M : wd_I) (t : Int32) (s : Nat) : wd_I := m_ends (m_chl (M 102 33).toInt s (M 102 8).toInt.toNat t.toInt.toNat (m_copyOf M t s) s) (M 102 8) s
set_option maxHeartbeats 4000000 in
set_option maxRecDepth 100000 in
theorem x_changed {d : Nat} (hd : 14 ≤ d) {I : wd_I} {P : wd_P} {M : wd_I} {g : Nat → ab_C} {k z s : Nat} {n : Int} {t : Int32} {Q : ab_Q} (hcl : m_cl M n) (ht0 : 0 ≤ t.toInt) (ht1 : t.toInt < n) (hn1 : n ≤ (M 102 8).toInt) (h3 : (M 102 8).toInt < 3120) (hs : (M 105 t.toInt.toNat).toInt = (s : Int)) (hQ : Q (some (.inl (M 102 8))) (wd I P (m_changed M t s) g, k, z)) : ab_CT d 169 [wd_v 102, .inl t] (wd I P M g, k, z) Q := by
  obtain ⟨s', hs', h12, a3, a4, a5⟩ := hcl.2 t.toInt.toNat (by omega)
  have ess : s' = s := by omega
  subst ess
  have hfc : m_fr n M (m_copyOf M t s') := m_copyOf_fr m_fr.rf hn1
  have hszt : (m_copyOf M t s' 105 t.toInt.toNat).toInt = (s' : Int) := by rw [(hfc.1.1 t.toInt.toNat (by omega)).2.2.1]; exact hs
  have e33 : m_copyOf M t s' 102 33 = M 102 33 := hfc.2.2 33 (by decide) (by decide) (by decide) (by decide)
  have hpr : m_pr n (M 102 8).toInt.toNat s' (m_copyOf M t s') := fun j hj => by
    rw [m_copyOf_pt ht0 (by omega) h12 hj]
    exact ⟨(a5 j hj).1, (a5 j hj).2.1⟩
  have hptc : ∀ j, j < s' → 0 ≤ (m_copyOf M t s' 108 (12 * t.toInt.toNat + j)).toInt ∧ (m_copyOf M t s' 108 (12 * t.toInt.toNat + j)).toInt < n := fun j hj => by
    rw [(hfc.1.2 (12 * t.toInt.toNat + j) (by omega)).1]
    exact ⟨(a5 j hj).1, (a5 j hj).2.1⟩
  have hn3 := hcl.1
  obtain ⟨N0, hN0⟩ : ∃ N0, N0 = m_chl (M 102 33).toInt s' (M 102 8).toInt.toNat t.toInt.toNat (m_copyOf M t s') s' := ⟨_, rfl⟩
  have hprN : m_pr n (M 102 8).toInt.toNat s' N0 := by rw [hN0]; exact m_chl_pr (by omega) (by omega) h12 hpr hptc s' (Nat.le_refl _)
  have hszc : (N0 105 (M 102 8).toInt.toNat).toInt = (s' : Int) := by
    have hrow : ∀ (how : Int) (s c t : Nat) (M : wd_I) (j a : Nat), a ≠ 108 → m_chl how s c t M j a = M a := by
      intro how s c t M j a ha
      have hins : ∀ (q : Nat) (p : Int32) (N : wd_I), m_ins c p q N a = N a := by
        intro q p
        induction q with
        | zero => intro N; exact wd_up_row _ _ _ ha
        | succ q ih =>
          intro N
          unfold m_ins
          split
          · rw [ih, wd_up_row _ _ _ ha]
          · exact wd_up_row _ _ _ ha
      induction j with
      | zero => rfl
      | succ j ih =>
        show m_ch1 how s c t (m_chl how s c t M j) j a = M a
        unfold m_ch1
        split
        · rw [wd_up_row _ _ _ ha, ih]
        · split
          · rw [wd_up_row _ _ _ ha, ih]
          · rw [hins, ih]
    rw [hN0, hrow _ _ _ _ _ _ _ (by decide), m_copyOf_sz]
    exact hs
  have hQ1 : Q (some (.inl (M 102 8))) (wd I P (m_ends N0 (M 102 8) s') g, k, z) := by rw [hN0]; exact hQ
  have hK : ab_WB d 169 Q 16 [(0, wd_v 102), (1, .inl t), (2, .inl (M 102 8)), (3, .inl (ab_ii (s' : Int))), (4, .inl (ab_ii (s' : Int)))] [] (wd I P N0 g, k, z) := by
    refine wd_rnC rfl ?_
    intro C9 X9 hC9 hX9
    repeat' ((conv => whnf); first
    | (refine hC9 137 _ _ _ (x_ends (by omega) (by omega) h3 hszc h12 (fun j hj => ⟨(hprN j hj).1, by have := (hprN j hj).2; omega⟩) ?_))
    | (intro v9 hv9; (try simp (disch := omega) only [ab_tI, ab_c0, wd_ix12, wd_ix8, wd_ix10, wd_up_self, wd_up_eq, wd_up_ne, Int.toNat_natCast, Int.toNat_of_nonneg, not_true_eq_false, not_false_eq_true, Option.some.injEq] at hv9); subst hv9)
    | (apply i_get; (focus (exact rfl)); (focus (exact rfl)))
    | (refine hX9 _ _ _ _ (wd_rnC rfl ?_); clear hC9 hX9 X9 C9; intro C9 X9 hC9 hX9)
    | (apply w_ialM; (focus (exact rfl)); (focus (exact (by first | exact ⟨by decide, by decide⟩ | ((try simp (disch := omega) only [ab_tI, ab_c0, wd_ix12, wd_ix8, wd_ix10, wd_up_self, wd_up_eq, wd_up_ne, Int.toNat_natCast, Int.toNat_of_nonneg, not_true_eq_false, not_false_eq_true, Option.some.injEq, wd_l103, wd_l104, wd_l105, wd_l106, wd_l107, wd_l108, wd_l109, wd_l110, wd_l111, wd_l112, wd_l113, wd_l114, wd_l115, wd_l116, wd_l117, wd_l118, wd_l119, wd_l120, wd_l121, wd_l122, wd_l123, wd_l124]); omega)))); (intro v9 hv9; (try simp (disch := omega) only [ab_tI, ab_c0, wd_ix12, wd_ix8, wd_ix10, wd_up_self, wd_up_eq, wd_up_ne, Int.toNat_natCast, Int.toNat_of_nonneg, not_true_eq_false, not_false_eq_true, Option.some.injEq] at hv9); subst hv9))
    | (apply w_putM; (focus (exact rfl)); (focus (first | exact trivial | exact Or.inl rfl | exact Or.inr rfl)); (focus (exact rfl)))
    | (apply w_iasM; (focus (exact rfl)); (focus (exact (by first | exact ⟨by decide, by decide⟩ | ((try simp (disch := omega) only [ab_tI, ab_c0, wd_ix12, wd_ix8, wd_ix10, wd_up_self, wd_up_eq, wd_up_ne, Int.toNat_natCast, Int.toNat_of_nonneg, not_true_eq_false, not_false_eq_true, Option.some.injEq, wd_l103, wd_l104, wd_l105, wd_l106, wd_l107, wd_l108, wd_l109, wd_l110, wd_l111, wd_l112, wd_l113, wd_l114, wd_l115, wd_l116, wd_l117, wd_l118, wd_l119, wd_l120, wd_l121, wd_l122, wd_l123, wd_l124]); omega)))); (intro v9 hv9; (try simp (disch := omega) only [ab_tI, ab_c0, wd_ix12, wd_ix8, wd_ix10, wd_up_self, wd_up_eq, wd_up_ne, Int.toNat_natCast, Int.toNat_of_nonneg, not_true_eq_false, not_false_eq_true, Option.some.injEq] at hv9); subst hv9))
    | (refine i_brF (by decide) ?_)
    | (refine i_brT (by decide) ?_)
    | (refine ⟨fun hc => ?_, fun hc => ?_⟩ <;> (try simp (disch := omega) only [ab_tI, ab_c0, wd_ix12, wd_ix8, wd_ix10, wd_up_self, wd_up_eq, wd_up_ne, Int.toNat_natCast, Int.toNat_of_nonneg, not_true_eq_false, not_false_eq_true, Option.some.injEq] at hc) <;> first | (exfalso; omega) | skip)
    | (apply i_cv; (focus (exact rfl)))
    | (apply w_balM; (focus (exact (by first | exact ⟨by decide, by decide⟩ | ((try simp (disch := omega) only [ab_tI, ab_c0, wd_ix12, wd_ix8, wd_ix10, wd_up_self, wd_up_eq, wd_up_ne, Int.toNat_natCast, Int.toNat_of_nonneg, not_true_eq_false, not_false_eq_true, Option.some.injEq, wd_l103, wd_l104, wd_l105, wd_l106, wd_l107, wd_l108, wd_l109, wd_l110, wd_l111, wd_l112, wd_l113, wd_l114, wd_l115, wd_l116, wd_l117, wd_l118, wd_l119, wd_l120, wd_l121, wd_l122, wd_l123, wd_l124]); omega)))); (intro v9 hv9; (try simp (disch := omega) only [ab_tI, ab_c0, wd_ix12, wd_ix8, wd_ix10, wd_up_self, wd_up_eq, wd_up_ne, Int.toNat_natCast, Int.toNat_of_nonneg, not_true_eq_false, not_false_eq_true, Option.some.injEq] at hv9); subst hv9))
    | (apply w_basM; (focus (exact (by first | exact ⟨by decide, by decide⟩ | ((try simp (disch := omega) only [ab_tI, ab_c0, wd_ix12, wd_ix8, wd_ix10, wd_up_self, wd_up_eq, wd_up_ne, Int.toNat_natCast, Int.toNat_of_nonneg, not_true_eq_false, not_false_eq_true, Option.some.injEq, wd_l103, wd_l104, wd_l105, wd_l106, wd_l107, wd_l108, wd_l109, wd_l110, wd_l111, wd_l112, wd_l113, wd_l114, wd_l115, wd_l116, wd_l117, wd_l118, wd_l119, wd_l120, wd_l121, wd_l122, wd_l123, wd_l124]); omega)))); (focus (first | exact Or.inl rfl | exact Or.inr rfl)); (intro v9 hv9; (try simp (disch := omega) only [ab_tI, ab_c0, wd_ix12, wd_ix8, wd_ix10, wd_up_self, wd_up_eq, wd_up_ne, Int.toNat_natCast, Int.toNat_of_nonneg, not_true_eq_false, not_false_eq_true, Option.some.injEq] at hv9); subst hv9))
    | (refine And.intro trivial ?_)
    | (refine And.intro (Or.inl rfl) ?_)
    | (refine And.intro (Or.inr rfl) ?_)
    | (refine And.intro (by ((try simp (disch := omega) only [ab_tI, ab_c0, wd_ix12, wd_ix8, wd_ix10, wd_up_self, wd_up_eq, wd_up_ne, Int.toNat_natCast, Int.toNat_of_nonneg, not_true_eq_false, not_false_eq_true, Option.some.injEq]); omega)) ?_)
    | fail)
    all_goals first | exact hQ1 | (exfalso; omega)
  have hl := x_changed_l hd (m_cl_sb hfc.1 hcl) e33 ht0 ht1 (c := M 102 8) hn1 h3 (by omega) h12 hpr hptc hN0 hK s' 0 (by omega)
  have hsz2 : m_copyOf M t s' 105 t.toInt.toNat = ab_ii (s' : Int) := by rw [← hszt]; exact (ab_ii_toInt _).symm
  refine wd_inC rfl (by omega) rfl ?_
  intro C9 X9 hC9 hX9
  (have chk9 := @hsz2; clear chk9); repeat' ((conv => whnf); first
    | (refine hC9 168 _ _ _ (x_copyOf (by omega) ht0 (by omega) h3 hs h12 ?_))
    | (refine hX9 16 _ _ _ (ab_WB_sub ?_ hl); (repeat (first | exact ab_sub0 | (refine ab_sub1 ?_ ?_; (focus ((repeat (refine ab_skip rfl ?_)); first | exact List.mem_cons_self))))))
    | (intro v9 hv9; (try simp (disch := omega) only [ab_tI, ab_c0, wd_ix12, wd_ix8, wd_ix10, wd_up_self, wd_up_eq, wd_up_ne, Int.toNat_natCast, Int.toNat_of_nonneg, not_true_eq_false, not_false_eq_true, Option.some.injEq, hsz2] at hv9); subst hv9)
    | (apply i_get; (focus (exact rfl)); (focus (exact rfl)))
    | (refine hX9 _ _ _ _ (wd_rnC rfl ?_); clear hC9 hX9 X9 C9; intro C9 X9 hC9 hX9)
    | (apply w_ialM; (focus (exact rfl)); (focus (exact (by first | exact ⟨by decide, by decide⟩ | ((try simp (disch := omega) only [ab_tI, ab_c0, wd_ix12, wd_ix8, wd_ix10, wd_up_self, wd_up_eq, wd_up_ne, Int.toNat_natCast, Int.toNat_of_nonneg, not_true_eq_false, not_false_eq_true, Option.some.injEq, hsz2, wd_l103, wd_l104, wd_l105, wd_l106, wd_l107, wd_l108, wd_l109, wd_l110, wd_l111, wd_l112, wd_l113, wd_l114, wd_l115, wd_l116, wd_l117, wd_l118, wd_l119, wd_l120, wd_l121, wd_l122, wd_l123, wd_l124]); omega)))); (intro v9 hv9; (try simp (disch := omega) only [ab_tI, ab_c0, wd_ix12, wd_ix8, wd_ix10, wd_up_self, wd_up_eq, wd_up_ne, Int.toNat_natCast, Int.toNat_of_nonneg, not_true_eq_false, not_false_eq_true, Option.some.injEq, hsz2] at hv9); subst hv9))
    | (apply w_putM; (focus (exact rfl)); (focus (first | exact trivial | exact Or.inl rfl | exact Or.inr rfl)); (focus (exact rfl)))
    | (apply w_iasM; (focus (exact rfl)); (focus (exact (by first | exact ⟨by decide, by decide⟩ | ((try simp (disch := omega) only [ab_tI, ab_c0, wd_ix12, wd_ix8, wd_ix10, wd_up_self, wd_up_eq, wd_up_ne, Int.toNat_natCast, Int.toNat_of_nonneg, not_true_eq_false, not_false_eq_true, Option.some.injEq, hsz2, wd_l103, wd_l104, wd_l105, wd_l106, wd_l107, wd_l108, wd_l109, wd_l110, wd_l111, wd_l112, wd_l113, wd_l114, wd_l115, wd_l116, wd_l117, wd_l118, wd_l119, wd_l120, wd_l121, wd_l122, wd_l123, wd_l124]); omega)))); (intro v9 hv9; (try simp (disch := omega) only [ab_tI, ab_c0, wd_ix12, wd_ix8, wd_ix10, wd_up_self, wd_up_eq, wd_up_ne, Int.toNat_natCast, Int.toNat_of_nonneg, not_true_eq_false, not_false_eq_true, Option.some.injEq, hsz2] at hv9); subst hv9))
    | (refine i_brF (by decide) ?_)
    | (refine i_brT (by decide) ?_)
    | (refine ⟨fun hc => ?_, fun hc => ?_⟩ <;> (try simp (disch := omega) only [ab_tI, ab_c0, wd_ix12, wd_ix8, wd_ix10, wd_up_self, wd_up_eq, wd_up_ne, Int.toNat_natCast, Int.toNat_of_nonneg, not_true_eq_false, not_false_eq_true, Option.some.injEq, hsz2] at hc) <;> first | (exfalso; omega) | skip)
    | (apply i_cv; (focus (exact rfl)))
    | (apply w_balM; (focus (exact (by first | exact ⟨by decide, by decide⟩ | ((try simp (disch := omega) only [ab_tI, ab_c0, wd_ix12, wd_ix8, wd_ix10, wd_up_self, wd_up_eq, wd_up_ne, Int.toNat_natCast, Int.toNat_of_nonneg, not_true_eq_false, not_false_eq_true, Option.some.injEq, hsz2, wd_l103, wd_l104, wd_l105, wd_l106, wd_l107, wd_l108, wd_l109, wd_l110, wd_l111, wd_l112, wd_l113, wd_l114, wd_l115, wd_l116, wd_l117, wd_l118, wd_l119, wd_l120, wd_l121, wd_l122, wd_l123, wd_l124]); omega)))); (intro v9 hv9; (try simp (disch := omega) only [ab_tI, ab_c0, wd_ix12, wd_ix8, wd_ix10, wd_up_self, wd_up_eq, wd_up_ne, Int.toNat_natCast, Int.toNat_of_nonneg, not_true_eq_false, not_false_eq_true, Option.some.injEq, hsz2] at hv9); subst hv9))
    | (apply w_basM; (focus (exact (by first | exact ⟨by decide, by decide⟩ | ((try simp (disch := omega) only [ab_tI, ab_c0, wd_ix12, wd_ix8, wd_ix10, wd_up_self, wd_up_eq, wd_up_ne, Int.toNat_natCast, Int.toNat_of_nonneg, not_true_eq_false, not_false_eq_true, Option.some.injEq, hsz2, wd_l103, wd_l104, wd_l105, wd_l106, wd_l107, wd_l108, wd_l109, wd_l110, wd_l111, wd_l112, wd_l113, wd_l114, wd_l115, wd_l116, wd_l117, wd_l118, wd_l119, wd_l120, wd_l121, wd_l122, wd_l123, wd_l124]); omega)))); (focus (first | exact Or.inl rfl | exact Or.inr rfl)); (intro v9 hv9; (try simp (disch := omega) only [ab_tI, ab_c0, wd_ix12, wd_ix8, wd_ix10, wd_up_self, wd_up_eq, wd_up_ne, Int.toNat_natCast, Int.toNat_of_nonneg, not_true_eq_false, not_false_eq_true, Option.some.injEq, hsz2] at hv9); subst hv9))
    | (refine And.intro trivial ?_)
    | (refine And.intro (Or.inl rfl) ?_)
    | (refine And.intro (Or.inr rfl) ?_)
    | (refine And.intro (by ((try simp (disch := omega) only [ab_tI, ab_c0, wd_ix12, wd_ix8, wd_ix10, wd_up_self, wd_up_eq, wd_up_ne, Int.toNat_natCast, Int.toNat_of_nonneg, not_true_eq_false, not_false_eq_true, Option.some.injEq, hsz2]); omega)) ?_)
    | fail)
end
section
/-! ===== the reference: became (own text) ===== -/
theorem m_ends_row {M : wd_I} {t : Int32} {s a : Nat} (h1 : a ≠ 106) (h2 : a ≠ 107) : m_ends M t s a = M a := by unfold m_ends; rw [wd_up_row _ _ _ h2, wd_up_row _ _ _ h1]
theorem m_adds_102 {M : wd_I} {t key p : Int32} {s : Nat} : m_adds M t key p s 102 = M 102 := by unfold m_adds; rw [wd_up_row _ _ _ (by decide), wd_up_row _ _ _ (by decide), wd_up_row _ _ _ (by decide)]
theorem m_begins_n {M : wd_I} {s v m : Int32} {j : Nat} (h : j ≠ 8) : m_begins M s v m 102 j = M 102 j := by unfold m_begins; rw [wd_up_ne _ _ (Or.inr h), wd_up_row _ _ _ (by decide), wd_up_row _ _ _ (by decide), wd_up_row _ _ _ (by decide)]
theorem m_chl_row {how : Int} {s c t a : Nat} {M : wd_I} (ha : a ≠ 108) : ∀ j, m_chl how s c t M j a = M a := by
  have hins : ∀ (q : Nat) (p : Int32) (N : wd_I), m_ins c p q N a = N a := by
    intro q p
    induction q with
    | zero => intro N; exact wd_up_row _ _ _ ha
    | succ q ih =>
      intro N
      unfold m_ins
      split
      · rw [ih, wd_up_row _ _ _ ha]
      · exact wd_up_row _ _ _ ha
  intro j
  induction j with
  | zero => rfl
  | succ j ih =>
    show m_ch1 how s c t (m_chl how s c t M j) j a = M a
    unfold m_ch1
    split
    · rw [wd_up_row _ _ _ ha, ih]
    · split
      · rw [wd_up_row _ _ _ ha, ih]
      · rw [hins, ih]
/-- one thing more, all other numbers the same -/
def m_s1 (M N : wd_I) : Prop := N 102 8 = ab_ii ((M 102 8).toInt + 1) ∧ ∀ j, j ≠ 8 → N 102 j = M 102 j
theorem m_number_s1 {M : wd_I} {v : Int32} : m_s1 M (m_number M v) := by
  unfold m_number
  refine ⟨?_, fun j hj => ?_⟩
  · rw [m_ends_row (by decide) (by decide), m_begins_8]
  · rw [m_ends_row (by decide) (by decide), m_begins_n hj]
theorem m_around_s1 {M : wd_I} {sort v t : Int32} : m_s1 M (m_around M sort v t) := by
  unfold m_around
  refine ⟨?_, fun j hj => ?_⟩
  · rw [m_ends_row (by decide) (by decide), m_adds_102, m_begins_8]
  · rw [m_ends_row (by decide) (by decide), m_adds_102, m_begins_n hj]
theorem m_changed_s1 {M : wd_I} {t : Int32} {s : Nat} : m_s1 M (m_changed M t s) := by
  unfold m_changed
  refine ⟨?_, fun j hj => ?_⟩
  · rw [m_ends_row (by decide) (by decide), m_chl_row (by decide), m_copyOf_8]
  · rw [m_ends_row (by decide) (by decide), m_chl_row (by decide)]
    unfold m_copyOf
    rw [m_cpl_row (by decide) (by decide), m_begins_n hj]
def m_pair (M : wd_I) (t n : Int32) : wd_I := m_ends (m_adds (m_adds (m_begins M (ab_ii 1) (ab_ii 0) (ab_ii 0)) (M 102 8) (ab_ii 0) t 0) (M 102 8) (ab_ii 0) n 1) (M 102 8) 2
theorem m_pair_s1 {M : wd_I} {t n : Int32} : m_s1 M (m_pair M t n) := by
  unfold m_pair
  refine ⟨?_, fun j hj => ?_⟩
  · rw [m_ends_row (by decide) (by decide), m_adds_102, m_adds_102, m_begins_8]
  · rw [m_ends_row (by decide) (by decide), m_adds_102, m_adds_102, m_begins_n hj]
theorem m_number_fr {n : Int} {M N : wd_I} {v : Int32} (h : m_fr n M N) (hn : n ≤ (N 102 8).toInt) : m_fr n M (m_number N v) := by
  unfold m_number
  exact m_ends_fr (m_begins_fr h hn) hn
theorem m_around_fr {n : Int} {M N : wd_I} {sort v t : Int32} (h : m_fr n M N) (h0 : 0 ≤ n) (hn : n ≤ (N 102 8).toInt) : m_fr n M (m_around N sort v t) := by
  unfold m_around
  exact m_ends_fr (m_adds_fr (m_begins_fr h hn) h0 hn) hn
theorem m_changed_fr {n : Int} {M N : wd_I} {t : Int32} {s : Nat} (h : m_fr n M N) (hn : n ≤ (N 102 8).toInt) : m_fr n M (m_changed N t s) := by
  unfold m_changed
  exact m_ends_fr (m_chl_fr (by omega) (m_copyOf_fr h hn) s) hn
theorem m_pair_fr {n : Int} {M N : wd_I} {t u : Int32} (h : m_fr n M N) (h0 : 0 ≤ n) (hn : n ≤ (N 102 8).toInt) : m_fr n M (m_pair N t u) := by
  unfold m_pair
  exact m_ends_fr (m_adds_fr (m_adds_fr (m_begins_fr h hn) h0 hn) h0 hn) hn
theorem m_mk_fr {n : Int} {M N : wd_I} (h : m_fr n M N) : m_fr n M (m_mk N) := m_fr_up h (by unfold m_wr; omega)
theorem m_nomk_fr {n : Int} {M N : wd_I} (h : m_fr n M N) : m_fr n M (m_nomk N) := m_fr_up h (by unfold m_wr; omega)
theorem m_nomk_can {M : wd_I} : ¬ m_can (m_nomk M) := by
  unfold m_can m_nomk
  rw [wd_up_self]
  intro h
  exact absurd h.1 (by decide)
theorem m_mk_8 {M : wd_I} : m_mk M 102 8 = M 102 8 := wd_up_ne _ _ (Or.inr (by decide))
theorem m_nomk_8 {M : wd_I} : m_nomk M 102 8 = M 102 8 := wd_up_ne _ _ (Or.inr (by decide))
theorem m_nomk_9 {M : wd_I} : m_nomk M 102 9 = M 102 9 := wd_up_ne _ _ (Or.inr (by decide))
theorem m_rm_nomk {M : wd_I} (h : m_rm M) : m_rm (m_nomk M) := by
  unfold m_rm at h ⊢
  rw [m_nomk_8, m_nomk_9]
  exact h
theorem m_can_lt {M : wd_I} (h : m_rm M) (hc : m_can M) : (M 102 8).toInt < 3012 ∧ (M 102 9).toInt < 3000 := by
  unfold m_rm at h
  unfold m_can at hc
  omega
theorem m_rm_s1 {M N : wd_I} (h : m_rm M) (hc : m_can M) (h1 : m_s1 (m_mk M) N) : m_rm N ∧ (N 102 8).toInt = (M 102 8).toInt + 1 := by
  obtain ⟨a1, a2⟩ := m_can_lt h hc
  obtain ⟨b1, b2⟩ := h1
  have e9 : N 102 9 = ab_ii ((M 102 9).toInt + 1) := by
    rw [b2 9 (by decide)]
    exact wd_up_self _ _ _ _
  have e8 : (N 102 8).toInt = (M 102 8).toInt + 1 := by
    rw [b1, m_mk_8, ab_tI (by have := h.1; omega) (by omega)]
  obtain ⟨c1, c2, c3⟩ := id h
  refine ⟨⟨by omega, ?_, ?_⟩, e8⟩
  · rw [e8, e9, ab_tI (by omega) (by omega)]; omega
  · rw [e9, ab_tI (by omega) (by omega)]; omega
noncomputable def m_cani {α : Type} (M : wd_I) (a b : α) : α := @ite α (m_can M) (Classical.propDecidable _) a b
theorem m_cani_t {α : Type} {M : wd_I} {a b : α} (h : m_can M) : m_cani M a b = a := if_pos h
theorem m_cani_f {α : Type} {M : wd_I} {a b : α} (h : ¬ m_can M) : m_cani M a b = b := if_neg h
noncomputable def m_numb (M : wd_I) (v : Int32) : wd_I × Int32 := m_cani M (m_number (m_mk M) v, M 102 8) (m_nomk M, ab_ii 0)
def m_val (how : Int) (w hw f : Int32) : Int32 := if how = 0 then ab_ii (w.toInt + hw.toInt) else if how = 1 then ab_ii (w.toInt * hw.toInt) else if how = 2 then ab_ii (hw.toInt - w.toInt) else ab_ii (w.toInt + f.toInt)
def m_isch (how kd : Int) : Prop := how < 7 ∨ (how = 8 ∧ kd = 1) ∨ ((how = 9 ∨ how = 10) ∧ kd = 2) ∨ (how = 11 ∧ kd = 3)
def m_ov1 (M : wd_I) : wd_I := wd_up M 102 35 (ab_ii ((M 102 35).toInt + 1))
noncomputable def m_bec (M : wd_I) (how : Int) (hw f t : Int32) (s : Nat) : wd_I × Int32 :=
  if how < 4 then (if (M 103 t.toInt.toNat).toInt = 0 then m_numb M (m_val how (M 104 t.toInt.toNat) hw f) else (M, t))
  else if how = 7 then (M, M 110 hw.toInt.toNat)
  else if how = 4 then m_cani (m_numb M hw).1 (m_pair (m_mk (m_numb M hw).1) t (m_numb M hw).2, (m_numb M hw).1 102 8) (m_nomk (m_numb M hw).1, t)
  else @ite (wd_I × Int32) (m_isch how (M 103 t.toInt.toNat).toInt) (Classical.propDecidable _) (m_cani M ((if how = 5 then m_around (m_mk M) (ab_ii 4) hw t else if how = 6 then m_around (m_mk M) (ab_ii 2) (ab_ii 0) t else m_changed (m_mk M) t s), M 102 8) (m_nomk M, t)) (M, t)
noncomputable def m_became (M : wd_I) (t : Int32) (s : Nat) : wd_I × Int32 := m_bec (m_ov1 M) (M 102 33).toInt (M 102 34) (M 102 35) t s
/-- what a step of OVER leaves: rows below n the same, room, its answer a thing -/
def m_good (n : Int) (M : wd_I) (r : wd_I × Int32) : Prop := m_fr n M r.1 ∧ m_rm r.1 ∧ (M 102 8).toInt ≤ (r.1 102 8).toInt ∧ 0 ≤ r.2.toInt ∧ (r.2.toInt < (r.1 102 8).toInt)
theorem m_good_s1 {n : Int} {M N : wd_I} (h0 : 0 ≤ n) (h : m_rm M) (hc : m_can M) (h1 : m_s1 (m_mk M) N) (hf : m_fr n M N) : m_good n M (N, M 102 8) := by
  obtain ⟨a1, a2⟩ := m_rm_s1 h hc h1
  have := h.1
  refine ⟨hf, a1, ?_, this, ?_⟩
  · show _ ≤ (N 102 8).toInt; omega
  · show (M 102 8).toInt < (N 102 8).toInt; omega
theorem m_good_no {n : Int} {M : wd_I} {t : Int32} (h : m_rm M) (ht : 0 ≤ t.toInt ∧ t.toInt < (M 102 8).toInt) : m_good n M (m_nomk M, t) :=
  ⟨m_nomk_fr m_fr.rf, m_rm_nomk h, by show _ ≤ (m_nomk M 102 8).toInt; rw [m_nomk_8]; exact Int.le_refl _, ht.1, by show _ < (m_nomk M 102 8).toInt; rw [m_nomk_8]; exact ht.2⟩
theorem m_numb_good {n : Int} {M : wd_I} {v : Int32} (h0 : 0 ≤ n) (hn : n ≤ (M 102 8).toInt) (hp : 0 < (M 102 8).toInt) (h : m_rm M) : m_good n M (m_numb M v) := by
  unfold m_numb
  by_cases hc : m_can M
  · rw [m_cani_t hc]
    exact m_good_s1 h0 h hc m_number_s1 (m_number_fr (m_mk_fr m_fr.rf) (by rw [m_mk_8]; exact hn))
  · rw [m_cani_f hc]
    exact m_good_no h ⟨by decide, by show (0 : Int) < _; exact hp⟩
theorem m_good.tr {n n' : Int} {M M' : wd_I} {x : Int32} {r : wd_I × Int32} (h : m_good n M (M', x)) (h' : m_good n' M' r) (hn : n ≤ n') : m_good n M r :=
  ⟨h.1.tr h'.1 hn, h'.2.1, Int.le_trans h.2.2.1 h'.2.2.1, h'.2.2.2⟩
theorem m_bec_good {n : Int} {M : wd_I} {how : Int} {hw f t : Int32} {s : Nat} (h0 : 0 ≤ n) (hn : n ≤ (M 102 8).toInt) (h : m_rm M) (ht0 : 0 ≤ t.toInt) (ht1 : t.toInt < n) (h7 : how = 7 → 0 ≤ (M 110 hw.toInt.toNat).toInt ∧ (M 110 hw.toInt.toNat).toInt < n) : m_good n M (m_bec M how hw f t s) := by
  have hsame : m_good n M (M, t) := ⟨m_fr.rf, h, Int.le_refl _, ht0, by show t.toInt < (M 102 8).toInt; omega⟩
  unfold m_bec
  split
  · split
    · exact m_numb_good h0 hn (by omega) h
    · exact hsame
  · split
    · rename_i _ e7
      obtain ⟨a1, a2⟩ := h7 e7
      exact ⟨m_fr.rf, h, Int.le_refl _, a1, by show (M 110 hw.toInt.toNat).toInt < (M 102 8).toInt; omega⟩
    · split
      · have hg := m_numb_good (v := hw) h0 hn (by omega) h
        have hle : (M 102 8).toInt ≤ ((m_numb M hw).1 102 8).toInt := hg.2.2.1
        by_cases hc : m_can (m_numb M hw).1
        · rw [m_cani_t hc]
          have := m_good_s1 (n := n) (N := m_pair (m_mk (m_numb M hw).1) t (m_numb M hw).2) h0 hg.2.1 hc m_pair_s1 (m_pair_fr (m_mk_fr m_fr.rf) h0 (by rw [m_mk_8]; omega))
          exact m_good.tr (x := (m_numb M hw).2) hg this (Int.le_refl _)
        · rw [m_cani_f hc]
          exact m_good.tr (x := (m_numb M hw).2) hg (m_good_no hg.2.1 ⟨ht0, show t.toInt < ((m_numb M hw).1 102 8).toInt by omega⟩) (Int.le_refl _)
      · split
        · by_cases hc : m_can M
          · rw [m_cani_t hc]
            split
            · exact m_good_s1 h0 h hc m_around_s1 (m_around_fr (m_mk_fr m_fr.rf) h0 (by rw [m_mk_8]; exact hn))
            · split
              · exact m_good_s1 h0 h hc m_around_s1 (m_around_fr (m_mk_fr m_fr.rf) h0 (by rw [m_mk_8]; exact hn))
              · exact m_good_s1 h0 h hc m_changed_s1 (m_changed_fr (m_mk_fr m_fr.rf) (by rw [m_mk_8]; exact hn))
          · rw [m_cani_f hc]
            exact m_good_no h ⟨ht0, by omega⟩
        · exact hsame
end
