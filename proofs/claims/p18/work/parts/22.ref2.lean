/-! ===== the reference: how things are ordered (own text) ===== -/
def m_lex (F : Int32 → Int32 → Int) (M : wd_I) (a b : Nat) : Nat → Nat → Int
  | 0, _ => if (M 105 a).toInt < (M 105 b).toInt then -1 else if (M 105 b).toInt < (M 105 a).toInt then 1 else 0
  | n + 1, k => if (M 109 (12 * a + k)).toInt = (M 109 (12 * b + k)).toInt then (if F (M 108 (12 * a + k)) (M 108 (12 * b + k)) = 0 then m_lex F M a b n (k + 1) else F (M 108 (12 * a + k)) (M 108 (12 * b + k))) else if (M 109 (12 * a + k)).toInt < (M 109 (12 * b + k)).toInt then -1 else 1
def m_cmp (M : wd_I) : Nat → Int32 → Int32 → Int
  | 0, _, _ => 0
  | f + 1, a, b => if a.toInt = b.toInt then 0 else if (M 103 a.toInt.toNat).toInt = (M 103 b.toInt.toNat).toInt then (if (M 104 a.toInt.toNat).toInt = (M 104 b.toInt.toNat).toInt then m_lex (m_cmp M f) M a.toInt.toNat b.toInt.toNat (min (M 105 a.toInt.toNat).toInt.toNat (M 105 b.toInt.toNat).toInt.toNat) 0 else if (M 104 a.toInt.toNat).toInt < (M 104 b.toInt.toNat).toInt then -1 else 1) else if (M 103 a.toInt.toNat).toInt < (M 103 b.toInt.toNat).toInt then -1 else 1
theorem m_lex_b {F : Int32 → Int32 → Int} {M : wd_I} {a b : Nat} (hF : ∀ x y, -1 ≤ F x y ∧ F x y ≤ 1) : ∀ n k, -1 ≤ m_lex F M a b n k ∧ m_lex F M a b n k ≤ 1
  | 0, k => by unfold m_lex; split <;> (try split) <;> omega
  | n + 1, k => by
    have ih := m_lex_b hF n (k + 1) (M := M) (a := a) (b := b)
    have h2 := hF (M 108 (12 * a + k)) (M 108 (12 * b + k))
    unfold m_lex
    split
    · split <;> omega
    · split <;> omega
theorem m_cmp_b {M : wd_I} : ∀ f x y, -1 ≤ m_cmp M f x y ∧ m_cmp M f x y ≤ 1
  | 0, _, _ => by unfold m_cmp; omega
  | f + 1, x, y => by
    have h2 := m_lex_b (F := m_cmp M f) (M := M) (a := x.toInt.toNat) (b := y.toInt.toNat) (fun x y => m_cmp_b f x y) (min (M 105 x.toInt.toNat).toInt.toNat (M 105 y.toInt.toNat).toInt.toNat) 0
    unfold m_cmp
    repeat' split
    all_goals omega
/-- a row of the table that may be walked: how many parts, where they lie, how high they are -/
def m_row (M : wd_I) (n : Int) (t : Nat) : Prop := ∃ s : Nat, (M 105 t).toInt = (s : Int) ∧ s ≤ 12 ∧ (0 ≤ (M 103 t).toInt ∧ (M 103 t).toInt ≤ 4) ∧ (0 ≤ (M 107 t).toInt ∧ (M 107 t).toInt ≤ 12) ∧ (∀ j, j < s → 0 ≤ (M 108 (12 * t + j)).toInt ∧ (M 108 (12 * t + j)).toInt < n ∧ (M 107 (M 108 (12 * t + j)).toInt.toNat).toInt < (M 107 t).toInt)
def m_cl (M : wd_I) (n : Int) : Prop := n ≤ 3120 ∧ ∀ t : Nat, (t : Int) < n → m_row M n t

set_option maxHeartbeats 4000000 in
set_option maxRecDepth 100000 in
theorem x_compared_l {d : Nat} (hd : 1 ≤ d) {I : wd_I} {P : wd_P} {M : wd_I} {g : Nat → ab_C} {k z : Nat} {a b : Int32} {sa sb : Nat} {F : Int32 → Int32 → Int} {Q : ab_Q} (ha : 0 ≤ a.toInt ∧ a.toInt < 3120) (hb : 0 ≤ b.toInt ∧ b.toInt < 3120) (hsa : (M 105 a.toInt.toNat).toInt = (sa : Int)) (hsb : (M 105 b.toInt.toNat).toInt = (sb : Int)) (h12 : sa ≤ 12 ∧ sb ≤ 12)
    (hF : ∀ j, j < sa → j < sb → ∀ Q : ab_Q, Q (some (.inl (ab_ii (F (M 108 (12 * a.toInt.toNat + j)) (M 108 (12 * b.toInt.toNat + j)))))) (wd I P M g, k, z) → ab_CT (d - 1) 140 [wd_v 102, .inl (M 108 (12 * a.toInt.toNat + j)), .inl (M 108 (12 * b.toInt.toNat + j))] (wd I P M g, k, z) Q) (hFb : ∀ x y, -1 ≤ F x y ∧ F x y ≤ 1) : ∀ n j, j + n = min sa sb → Q (some (.inl (ab_ii (m_lex F M a.toInt.toNat b.toInt.toNat n j)))) (wd I P M g, k, z) → ab_WB d 140 Q 81 [(0, wd_v 102), (1, .inl a), (2, .inl b), (3, .inl (ab_ii (j : Int)))] [] (wd I P M g, k, z)
  | 0, j, hj, hQ => by
    unfold m_lex at hQ
    refine wd_rnC rfl ?_
    intro C9 X9 hC9 hX9
    (have chk9 := @hsa; clear chk9); (have chk9 := @hsb; clear chk9); repeat' ((conv => whnf); first
    | (intro v9 hv9; (try simp (disch := omega) only [ab_tI, ab_c0, wd_ix12, wd_ix8, wd_ix10, wd_up_self, wd_up_eq, wd_up_ne, Int.toNat_natCast, Int.toNat_of_nonneg, not_true_eq_false, not_false_eq_true, Option.some.injEq, hsa, hsb] at hv9); subst hv9)
    | (apply i_get; (focus (exact rfl)); (focus (exact rfl)))
    | (refine hX9 _ _ _ _ (wd_rnC rfl ?_); clear hC9 hX9 X9 C9; intro C9 X9 hC9 hX9)
    | (apply w_ialM; (focus (exact rfl)); (focus (exact (by first | exact ⟨by decide, by decide⟩ | ((try simp (disch := omega) only [ab_tI, ab_c0, wd_ix12, wd_ix8, wd_ix10, wd_up_self, wd_up_eq, wd_up_ne, Int.toNat_natCast, Int.toNat_of_nonneg, not_true_eq_false, not_false_eq_true, Option.some.injEq, hsa, hsb, wd_l103, wd_l104, wd_l105, wd_l106, wd_l107, wd_l108, wd_l109, wd_l110, wd_l111, wd_l112, wd_l113, wd_l114, wd_l115, wd_l116, wd_l117, wd_l118, wd_l119, wd_l120, wd_l121, wd_l122, wd_l123, wd_l124]); omega)))); (intro v9 hv9; (try simp (disch := omega) only [ab_tI, ab_c0, wd_ix12, wd_ix8, wd_ix10, wd_up_self, wd_up_eq, wd_up_ne, Int.toNat_natCast, Int.toNat_of_nonneg, not_true_eq_false, not_false_eq_true, Option.some.injEq, hsa, hsb] at hv9); subst hv9))
    | (apply w_putM; (focus (exact rfl)); (focus (first | exact trivial | exact Or.inl rfl | exact Or.inr rfl)); (focus (exact rfl)))
    | (apply w_iasM; (focus (exact rfl)); (focus (exact (by first | exact ⟨by decide, by decide⟩ | ((try simp (disch := omega) only [ab_tI, ab_c0, wd_ix12, wd_ix8, wd_ix10, wd_up_self, wd_up_eq, wd_up_ne, Int.toNat_natCast, Int.toNat_of_nonneg, not_true_eq_false, not_false_eq_true, Option.some.injEq, hsa, hsb, wd_l103, wd_l104, wd_l105, wd_l106, wd_l107, wd_l108, wd_l109, wd_l110, wd_l111, wd_l112, wd_l113, wd_l114, wd_l115, wd_l116, wd_l117, wd_l118, wd_l119, wd_l120, wd_l121, wd_l122, wd_l123, wd_l124]); omega)))); (intro v9 hv9; (try simp (disch := omega) only [ab_tI, ab_c0, wd_ix12, wd_ix8, wd_ix10, wd_up_self, wd_up_eq, wd_up_ne, Int.toNat_natCast, Int.toNat_of_nonneg, not_true_eq_false, not_false_eq_true, Option.some.injEq, hsa, hsb] at hv9); subst hv9))
    | (refine i_brF (by decide) ?_)
    | (refine i_brT (by decide) ?_)
    | (refine ⟨fun hc => ?_, fun hc => ?_⟩ <;> (try simp (disch := omega) only [ab_tI, ab_c0, wd_ix12, wd_ix8, wd_ix10, wd_up_self, wd_up_eq, wd_up_ne, Int.toNat_natCast, Int.toNat_of_nonneg, not_true_eq_false, not_false_eq_true, Option.some.injEq, hsa, hsb] at hc) <;> first | (exfalso; omega) | skip)
    | (apply i_cv; (focus (exact rfl)))
    | (apply w_balM; (focus (exact (by first | exact ⟨by decide, by decide⟩ | ((try simp (disch := omega) only [ab_tI, ab_c0, wd_ix12, wd_ix8, wd_ix10, wd_up_self, wd_up_eq, wd_up_ne, Int.toNat_natCast, Int.toNat_of_nonneg, not_true_eq_false, not_false_eq_true, Option.some.injEq, hsa, hsb, wd_l103, wd_l104, wd_l105, wd_l106, wd_l107, wd_l108, wd_l109, wd_l110, wd_l111, wd_l112, wd_l113, wd_l114, wd_l115, wd_l116, wd_l117, wd_l118, wd_l119, wd_l120, wd_l121, wd_l122, wd_l123, wd_l124]); omega)))); (intro v9 hv9; (try simp (disch := omega) only [ab_tI, ab_c0, wd_ix12, wd_ix8, wd_ix10, wd_up_self, wd_up_eq, wd_up_ne, Int.toNat_natCast, Int.toNat_of_nonneg, not_true_eq_false, not_false_eq_true, Option.some.injEq, hsa, hsb] at hv9); subst hv9))
    | (apply w_basM; (focus (exact (by first | exact ⟨by decide, by decide⟩ | ((try simp (disch := omega) only [ab_tI, ab_c0, wd_ix12, wd_ix8, wd_ix10, wd_up_self, wd_up_eq, wd_up_ne, Int.toNat_natCast, Int.toNat_of_nonneg, not_true_eq_false, not_false_eq_true, Option.some.injEq, hsa, hsb, wd_l103, wd_l104, wd_l105, wd_l106, wd_l107, wd_l108, wd_l109, wd_l110, wd_l111, wd_l112, wd_l113, wd_l114, wd_l115, wd_l116, wd_l117, wd_l118, wd_l119, wd_l120, wd_l121, wd_l122, wd_l123, wd_l124]); omega)))); (focus (first | exact Or.inl rfl | exact Or.inr rfl)); (intro v9 hv9; (try simp (disch := omega) only [ab_tI, ab_c0, wd_ix12, wd_ix8, wd_ix10, wd_up_self, wd_up_eq, wd_up_ne, Int.toNat_natCast, Int.toNat_of_nonneg, not_true_eq_false, not_false_eq_true, Option.some.injEq, hsa, hsb] at hv9); subst hv9))
    | (refine And.intro trivial ?_)
    | (refine And.intro (Or.inl rfl) ?_)
    | (refine And.intro (Or.inr rfl) ?_)
    | (refine And.intro (by ((try simp (disch := omega) only [ab_tI, ab_c0, wd_ix12, wd_ix8, wd_ix10, wd_up_self, wd_up_eq, wd_up_ne, Int.toNat_natCast, Int.toNat_of_nonneg, not_true_eq_false, not_false_eq_true, Option.some.injEq, hsa, hsb]); omega)) ?_)
    | fail)
    all_goals (repeat' (split at hQ)) <;> first | exact hQ | (exfalso; omega)
  | n + 1, j, hj, hQ => by
    have ih := x_compared_l hd ha hb hsa hsb h12 hF hFb n (j + 1) (by omega) (Q := Q)
    have hFj := hF j (by omega) (by omega)
    have hFk := hFb (M 108 (12 * a.toInt.toNat + j)) (M 108 (12 * b.toInt.toNat + j))
    unfold m_lex at hQ
    refine wd_rnC rfl ?_
    intro C9 X9 hC9 hX9
    (have chk9 := @hsa; clear chk9); (have chk9 := @hsb; clear chk9); repeat' ((conv => whnf); first
    | (refine hX9 81 _ _ _ (ab_WB_sub ?_ (ih ?_)); (focus ((repeat (first | exact ab_sub0 | (refine ab_sub1 ?_ ?_; (focus ((repeat (refine ab_skip rfl ?_)); first | exact List.mem_cons_self))))))))
    | (refine hC9 140 _ _ _ (hFj _ ?_))
    | (intro v9 hv9; (try simp (disch := omega) only [ab_tI, ab_c0, wd_ix12, wd_ix8, wd_ix10, wd_up_self, wd_up_eq, wd_up_ne, Int.toNat_natCast, Int.toNat_of_nonneg, not_true_eq_false, not_false_eq_true, Option.some.injEq, hsa, hsb] at hv9); subst hv9)
    | (apply i_get; (focus (exact rfl)); (focus (exact rfl)))
    | (refine hX9 _ _ _ _ (wd_rnC rfl ?_); clear hC9 hX9 X9 C9; intro C9 X9 hC9 hX9)
    | (apply w_ialM; (focus (exact rfl)); (focus (exact (by first | exact ⟨by decide, by decide⟩ | ((try simp (disch := omega) only [ab_tI, ab_c0, wd_ix12, wd_ix8, wd_ix10, wd_up_self, wd_up_eq, wd_up_ne, Int.toNat_natCast, Int.toNat_of_nonneg, not_true_eq_false, not_false_eq_true, Option.some.injEq, hsa, hsb, wd_l103, wd_l104, wd_l105, wd_l106, wd_l107, wd_l108, wd_l109, wd_l110, wd_l111, wd_l112, wd_l113, wd_l114, wd_l115, wd_l116, wd_l117, wd_l118, wd_l119, wd_l120, wd_l121, wd_l122, wd_l123, wd_l124]); omega)))); (intro v9 hv9; (try simp (disch := omega) only [ab_tI, ab_c0, wd_ix12, wd_ix8, wd_ix10, wd_up_self, wd_up_eq, wd_up_ne, Int.toNat_natCast, Int.toNat_of_nonneg, not_true_eq_false, not_false_eq_true, Option.some.injEq, hsa, hsb] at hv9); subst hv9))
    | (apply w_putM; (focus (exact rfl)); (focus (first | exact trivial | exact Or.inl rfl | exact Or.inr rfl)); (focus (exact rfl)))
    | (apply w_iasM; (focus (exact rfl)); (focus (exact (by first | exact ⟨by decide, by decide⟩ | ((try simp (disch := omega) only [ab_tI, ab_c0, wd_ix12, wd_ix8, wd_ix10, wd_up_self, wd_up_eq, wd_up_ne, Int.toNat_natCast, Int.toNat_of_nonneg, not_true_eq_false, not_false_eq_true, Option.some.injEq, hsa, hsb, wd_l103, wd_l104, wd_l105, wd_l106, wd_l107, wd_l108, wd_l109, wd_l110, wd_l111, wd_l112, wd_l113, wd_l114, wd_l115, wd_l116, wd_l117, wd_l118, wd_l119, wd_l120, wd_l121, wd_l122, wd_l123, wd_l124]); omega)))); (intro v9 hv9; (try simp (disch := omega) only [ab_tI, ab_c0, wd_ix12, wd_ix8, wd_ix10, wd_up_self, wd_up_eq, wd_up_ne, Int.toNat_natCast, Int.toNat_of_nonneg, not_true_eq_false, not_false_eq_true, Option.some.injEq, hsa, hsb] at hv9); subst hv9))
    | (refine i_brF (by decide) ?_)
    | (refine i_brT (by decide) ?_)
    | (refine ⟨fun hc => ?_, fun hc => ?_⟩ <;> (try simp (disch := omega) only [ab_tI, ab_c0, wd_ix12, wd_ix8, wd_ix10, wd_up_self, wd_up_eq, wd_up_ne, Int.toNat_natCast, Int.toNat_of_nonneg, not_true_eq_false, not_false_eq_true, Option.some.injEq, hsa, hsb] at hc) <;> first | (exfalso; omega) | skip)
    | (apply i_cv; (focus (exact rfl)))
    | (apply w_balM; (focus (exact (by first | exact ⟨by decide, by decide⟩ | ((try simp (disch := omega) only [ab_tI, ab_c0, wd_ix12, wd_ix8, wd_ix10, wd_up_self, wd_up_eq, wd_up_ne, Int.toNat_natCast, Int.toNat_of_nonneg, not_true_eq_false, not_false_eq_true, Option.some.injEq, hsa, hsb, wd_l103, wd_l104, wd_l105, wd_l106, wd_l107, wd_l108, wd_l109, wd_l110, wd_l111, wd_l112, wd_l113, wd_l114, wd_l115, wd_l116, wd_l117, wd_l118, wd_l119, wd_l120, wd_l121, wd_l122, wd_l123, wd_l124]); omega)))); (intro v9 hv9; (try simp (disch := omega) only [ab_tI, ab_c0, wd_ix12, wd_ix8, wd_ix10, wd_up_self, wd_up_eq, wd_up_ne, Int.toNat_natCast, Int.toNat_of_nonneg, not_true_eq_false, not_false_eq_true, Option.some.injEq, hsa, hsb] at hv9); subst hv9))
    | (apply w_basM; (focus (exact (by first | exact ⟨by decide, by decide⟩ | ((try simp (disch := omega) only [ab_tI, ab_c0, wd_ix12, wd_ix8, wd_ix10, wd_up_self, wd_up_eq, wd_up_ne, Int.toNat_natCast, Int.toNat_of_nonneg, not_true_eq_false, not_false_eq_true, Option.some.injEq, hsa, hsb, wd_l103, wd_l104, wd_l105, wd_l106, wd_l107, wd_l108, wd_l109, wd_l110, wd_l111, wd_l112, wd_l113, wd_l114, wd_l115, wd_l116, wd_l117, wd_l118, wd_l119, wd_l120, wd_l121, wd_l122, wd_l123, wd_l124]); omega)))); (focus (first | exact Or.inl rfl | exact Or.inr rfl)); (intro v9 hv9; (try simp (disch := omega) only [ab_tI, ab_c0, wd_ix12, wd_ix8, wd_ix10, wd_up_self, wd_up_eq, wd_up_ne, Int.toNat_natCast, Int.toNat_of_nonneg, not_true_eq_false, not_false_eq_true, Option.some.injEq, hsa, hsb] at hv9); subst hv9))
    | (refine And.intro trivial ?_)
    | (refine And.intro (Or.inl rfl) ?_)
    | (refine And.intro (Or.inr rfl) ?_)
    | (refine And.intro (by ((try simp (disch := omega) only [ab_tI, ab_c0, wd_ix12, wd_ix8, wd_ix10, wd_up_self, wd_up_eq, wd_up_ne, Int.toNat_natCast, Int.toNat_of_nonneg, not_true_eq_false, not_false_eq_true, Option.some.injEq, hsa, hsb]); omega)) ?_)
    | fail)
    all_goals (repeat' (split at hQ)) <;> first | exact hQ | (exfalso; omega)

set_option maxHeartbeats 4000000 in
set_option maxRecDepth 100000 in
theorem x_compared {M : wd_I} {n : Int} (hcl : m_cl M n) {I : wd_I} {P : wd_P} {g : Nat → ab_C} {k z : Nat} : ∀ (f d : Nat), f ≤ d → ∀ (a b : Int32) (Q : ab_Q), 0 ≤ a.toInt → a.toInt < n → 0 ≤ b.toInt → b.toInt < n → (M 107 a.toInt.toNat).toInt < (f : Int) → Q (some (.inl (ab_ii (m_cmp M f a b)))) (wd I P M g, k, z) → ab_CT d 140 [wd_v 102, .inl a, .inl b] (wd I P M g, k, z) Q
  | 0, d, hd, a, b, Q, ha, ha', hb, hb', hh, hQ => by
    obtain ⟨s, h1, h2, h3, h4, h5⟩ := hcl.2 a.toInt.toNat (by omega)
    omega
  | f + 1, d, hd, a, b, Q, ha, ha', hb, hb', hh, hQ => by
    obtain ⟨sa, hsa, a2, a3, a4, a5⟩ := hcl.2 a.toInt.toNat (by omega)
    obtain ⟨sb, hsb, b2, b3, b4, b5⟩ := hcl.2 b.toInt.toNat (by omega)
    have hn := hcl.1
    have hl := x_compared_l (d := d) (by omega) (I := I) (P := P) (M := M) (g := g) (k := k) (z := z) (Q := Q) (F := m_cmp M f) ⟨ha, by omega⟩ ⟨hb, by omega⟩ hsa hsb ⟨a2, b2⟩ (fun j hj hj' Q hQ => x_compared hcl f (d - 1) (by omega) _ _ Q (a5 j hj).1 (a5 j hj).2.1 (b5 j hj').1 (b5 j hj').2.1 (by have := (a5 j hj).2.2; omega) hQ) (m_cmp_b f) (min sa sb) 0 (by omega)
    unfold m_cmp at hQ
    rw [hsa, hsb, Int.toNat_natCast, Int.toNat_natCast] at hQ
    refine wd_inC rfl (by omega) rfl ?_
    intro C9 X9 hC9 hX9
    repeat' ((conv => whnf); first
    | (refine hX9 81 _ _ _ (ab_WB_sub ?_ (hl ?_)); (focus ((repeat (first | exact ab_sub0 | (refine ab_sub1 ?_ ?_; (focus ((repeat (refine ab_skip rfl ?_)); first | exact List.mem_cons_self))))))))
    | (intro v9 hv9; (try simp (disch := omega) only [ab_tI, ab_c0, wd_ix12, wd_ix8, wd_ix10, wd_up_self, wd_up_eq, wd_up_ne, Int.toNat_natCast, Int.toNat_of_nonneg, not_true_eq_false, not_false_eq_true, Option.some.injEq] at hv9); subst hv9)
    | (apply i_get; (focus (exact rfl)); (focus (exact rfl)))
    | (refine hX9 _ _ _ _ (wd_rnC rfl ?_); clear hC9 hX9 X9 C9; intro C9 X9 hC9 hX9)
    | (apply w_ialM; (focus (exact rfl)); (focus (exact (by first | exact ⟨by decide, by decide⟩ | ((try simp (disch := omega) only [ab_tI, ab_c0, wd_ix12, wd_ix8, wd_ix10, wd_up_self, wd_up_eq, wd_up_ne, Int.toNat_natCast, Int.toNat_of_nonneg, not_true_eq_false, not_false_eq_true, Option.some.injEq, wd_l103, wd_l104, wd_l105, wd_l106, wd_l107, wd_l108, wd_l109, wd_l110, wd_l111, wd_l112, wd_l113, wd_l114, wd_l115, wd_l116, wd_l117, wd_l118, wd_l119, wd_l120, wd_l121, wd_l122, wd_l123, wd_l124]); omega)))); (intro v9 hv9; (try simp (disch := omega) only [ab_tI, ab_c0, wd_ix12, wd_ix8, wd_ix10, wd_up_self, wd_up_eq, wd_up_ne, Int.toNat_natCast, Int.toNat_of_nonneg, not_true_eq_false, not_false_eq_true, Option.some.injEq] at hv9); subst hv9))
    | (apply w_putM; (focus (exact rfl)); (focus (first | exact trivial | exact Or.inl rfl | exact Or.inr rfl)); (focus (exact rfl)))
    | (apply w_iasM; (focus (exact rfl)); (focus (exact (by first | exact ⟨by decide, by decide⟩ | ((try simp (disch := omega) only [ab_tI, ab_c0, wd_ix12, wd_ix8, wd_ix10, wd_up_self, wd_up_eq, wd_up_ne, Int.toNat_natCast, Int.toNat_of_nonneg, not_true_eq_false, not_false_eq_true, Option.some.injEq, wd_l103, wd_l104, wd_l105, wd_l106, wd_l107, wd_l108, wd_l109, wd_l110, wd_l111, wd_l112, wd_l113, wd_l114, wd_l115, wd_l116, wd_l117, wd_l118, wd_l119, wd_l120, wd_l121, wd_l122, wd_l123, wd_l124]); omega)))); (intro v9 hv9; (try simp (disch := omega) only [ab_tI, ab_c0, wd_ix12, wd_ix8, wd_ix10, wd_up_self, wd_up_eq, wd_up_ne, Int.toNat_natCast, Int.toNat_of_nonneg, not_true_eq_false, not_false_eq_true, Option.some.injEq] at hv9); subst hv9))
    | (refine i_brF (by decide) ?_)
    | (refine i_brT (by decide) ?_)
    | (refine ⟨fun hc => ?_, fun hc => ?_⟩ <;> (try simp (disch := omega) only [ab_tI, ab_c0, wd_ix12, wd_ix8, wd_ix10, wd_up_self, wd_up_eq, wd_up_ne, Int.toNat_natCast, Int.toNat_of_nonneg, not_true_eq_false, not_false_eq_true, Option.some.injEq] at hc) <;> first | (exfalso; omega) | skip)
    | (apply i_cv; (focus (exact rfl)))
    | (apply w_balM; (focus (exact (by first | exact ⟨by decide, by decide⟩ | ((try simp (disch := omega) only [ab_tI, ab_c0, wd_ix12, wd_ix8, wd_ix10, wd_up_self, wd_up_eq, wd_up_ne, Int.toNat_natCast, Int.toNat_of_nonneg, not_true_eq_false, not_false_eq_true, Option.some.injEq, wd_l103, wd_l104, wd_l105, wd_l106, wd_l107, wd_l108, wd_l109, wd_l110, wd_l111, wd_l112, wd_l113, wd_l114, wd_l115, wd_l116, wd_l117, wd_l118, wd_l119, wd_l120, wd_l121, wd_l122, wd_l123, wd_l124]); omega)))); (intro v9 hv9; (try simp (disch := omega) only [ab_tI, ab_c0, wd_ix12, wd_ix8, wd_ix10, wd_up_self, wd_up_eq, wd_up_ne, Int.toNat_natCast, Int.toNat_of_nonneg, not_true_eq_false, not_false_eq_true, Option.some.injEq] at hv9); subst hv9))
    | (apply w_basM; (focus (exact (by first | exact ⟨by decide, by decide⟩ | ((try simp (disch := omega) only [ab_tI, ab_c0, wd_ix12, wd_ix8, wd_ix10, wd_up_self, wd_up_eq, wd_up_ne, Int.toNat_natCast, Int.toNat_of_nonneg, not_true_eq_false, not_false_eq_true, Option.some.injEq, wd_l103, wd_l104, wd_l105, wd_l106, wd_l107, wd_l108, wd_l109, wd_l110, wd_l111, wd_l112, wd_l113, wd_l114, wd_l115, wd_l116, wd_l117, wd_l118, wd_l119, wd_l120, wd_l121, wd_l122, wd_l123, wd_l124]); omega)))); (focus (first | exact Or.inl rfl | exact Or.inr rfl)); (intro v9 hv9; (try simp (disch := omega) only [ab_tI, ab_c0, wd_ix12, wd_ix8, wd_ix10, wd_up_self, wd_up_eq, wd_up_ne, Int.toNat_natCast, Int.toNat_of_nonneg, not_true_eq_false, not_false_eq_true, Option.some.injEq] at hv9); subst hv9))
    | (refine And.intro trivial ?_)
    | (refine And.intro (Or.inl rfl) ?_)
    | (refine And.intro (Or.inr rfl) ?_)
    | (refine And.intro (by ((try simp (disch := omega) only [ab_tI, ab_c0, wd_ix12, wd_ix8, wd_ix10, wd_up_self, wd_up_eq, wd_up_ne, Int.toNat_natCast, Int.toNat_of_nonneg, not_true_eq_false, not_false_eq_true, Option.some.injEq]); omega)) ?_)
    | fail)
    all_goals (repeat' (split at hQ)) <;> first | exact hQ | (exfalso; omega)
