/-! ===== the reference: best, fold, take (own text) ===== -/
def m_ahead (M : wd_I) (l : List Int32) (o : Int) (i : Nat) : Nat → Nat
  | 0 => 0
  | q + 1 => if m_ob M o (l.getD q 0) (l.getD i 0) < 0 ∨ (m_ob M o (l.getD q 0) (l.getD i 0) = 0 ∧ q < i) then m_ahead M l o i q + 1 else m_ahead M l o i q
theorem m_ahead_le {M : wd_I} {l : List Int32} {o : Int} {i : Nat} : ∀ q, m_ahead M l o i q ≤ q
  | 0 => Nat.le_refl _
  | q + 1 => by
    have := m_ahead_le (M := M) (l := l) (o := o) (i := i) q
    unfold m_ahead
    split <;> omega
def m_bst (M : wd_I) (l : List Int32) (o n : Int) : Nat → Nat → Int32
  | 0, _ => ab_ii (-1)
  | r + 1, i => if (m_ahead M l o i l.length : Int) = n then ab_ii (i : Int) else m_bst M l o n r (i + 1)

set_option maxHeartbeats 4000000 in
set_option maxRecDepth 100000 in
theorem x_best_i {d : Nat} (hd : 15 ≤ d) {I : wd_I} {P : wd_P} {M : wd_I} {g : Nat → ab_C} {k z : Nat} {n : Int} {l : List Int32} (hl : m_lst M l n) (hn31 : M 102 31 = ab_ii (l.length : Int)) {s p o w : Int32} {i : Nat} (hi : i < l.length) {Q : ab_Q} (hK : ab_WB d 185 Q 55 [(0, wd_v 102), (1, .inl s), (2, .inl p), (3, .inl o), (4, .inl w), (5, .inl (ab_ii (i : Int))), (6, .inl (ab_ii (m_ahead M l o.toInt i l.length : Int))), (7, .inl (ab_ii (l.length : Int)))] [] (wd I P M g, k, z)) : ∀ r q, q + r = l.length → ab_WB d 185 Q 55 [(0, wd_v 102), (1, .inl s), (2, .inl p), (3, .inl o), (4, .inl w), (5, .inl (ab_ii (i : Int))), (6, .inl (ab_ii (m_ahead M l o.toInt i q : Int))), (7, .inl (ab_ii (q : Int)))] [] (wd I P M g, k, z)
  | 0, q, hq => by
    have e : q = l.length := by omega
    subst e
    exact hK
  | r + 1, q, hq => by
    have ih := x_best_i hd hl hn31 hi hK r (q + 1) (by omega)
    have hl2 := hl.2.1
    have hat := hl.2.2.1
    have hql : q < l.length := by omega
    have hb := m_ob_b (M := M) (o := o.toInt) (a := l.getD q 0) (b := l.getD i 0)
    have hal := m_ahead_le (M := M) (l := l) (o := o.toInt) (i := i) q
    refine wd_rnC rfl ?_
    intro C9 X9 hC9 hX9
    (have chk9 := @hat; clear chk9); (have chk9 := @hn31; clear chk9); repeat' ((conv => whnf); first
    | (refine hX9 55 _ _ _ (ab_WB_sub ?_ ih); (repeat (first | exact ab_sub0 | (refine ab_sub1 ?_ ?_; (focus ((repeat (refine ab_skip rfl ?_)); first | (rw [m_ahead, if_pos (by omega)]; exact List.mem_cons_self) | (rw [m_ahead, if_neg (by omega)]; exact List.mem_cons_self) | exact List.mem_cons_self))))))
    | (refine hC9 184 _ _ _ (x_orderedBy (by omega) hl hql hi ?_))
    | (intro v9 hv9; (try simp (disch := omega) only [ab_tI, ab_c0, wd_ix12, wd_ix8, wd_ix10, wd_up_self, wd_up_eq, wd_up_ne, Int.toNat_natCast, Int.toNat_of_nonneg, not_true_eq_false, not_false_eq_true, Option.some.injEq, hat, hn31] at hv9); subst hv9)
    | (apply i_get; (focus (exact rfl)); (focus (exact rfl)))
    | (refine hX9 _ _ _ _ (wd_rnC rfl ?_); clear hC9 hX9 X9 C9; intro C9 X9 hC9 hX9)
    | (apply w_ialM; (focus (exact rfl)); (focus (exact (by first | exact ⟨by decide, by decide⟩ | ((try simp (disch := omega) only [ab_tI, ab_c0, wd_ix12, wd_ix8, wd_ix10, wd_up_self, wd_up_eq, wd_up_ne, Int.toNat_natCast, Int.toNat_of_nonneg, not_true_eq_false, not_false_eq_true, Option.some.injEq, hat, hn31, wd_l103, wd_l104, wd_l105, wd_l106, wd_l107, wd_l108, wd_l109, wd_l110, wd_l111, wd_l112, wd_l113, wd_l114, wd_l115, wd_l116, wd_l117, wd_l118, wd_l119, wd_l120, wd_l121, wd_l122, wd_l123, wd_l124]); omega)))); (intro v9 hv9; (try simp (disch := omega) only [ab_tI, ab_c0, wd_ix12, wd_ix8, wd_ix10, wd_up_self, wd_up_eq, wd_up_ne, Int.toNat_natCast, Int.toNat_of_nonneg, not_true_eq_false, not_false_eq_true, Option.some.injEq, hat, hn31] at hv9); subst hv9))
    | (apply w_putM; (focus (exact rfl)); (focus (first | exact trivial | exact Or.inl rfl | exact Or.inr rfl)); (focus (exact rfl)))
    | (apply w_iasM; (focus (exact rfl)); (focus (exact (by first | exact ⟨by decide, by decide⟩ | ((try simp (disch := omega) only [ab_tI, ab_c0, wd_ix12, wd_ix8, wd_ix10, wd_up_self, wd_up_eq, wd_up_ne, Int.toNat_natCast, Int.toNat_of_nonneg, not_true_eq_false, not_false_eq_true, Option.some.injEq, hat, hn31, wd_l103, wd_l104, wd_l105, wd_l106, wd_l107, wd_l108, wd_l109, wd_l110, wd_l111, wd_l112, wd_l113, wd_l114, wd_l115, wd_l116, wd_l117, wd_l118, wd_l119, wd_l120, wd_l121, wd_l122, wd_l123, wd_l124]); omega)))); (intro v9 hv9; (try simp (disch := omega) only [ab_tI, ab_c0, wd_ix12, wd_ix8, wd_ix10, wd_up_self, wd_up_eq, wd_up_ne, Int.toNat_natCast, Int.toNat_of_nonneg, not_true_eq_false, not_false_eq_true, Option.some.injEq, hat, hn31] at hv9); subst hv9))
    | (refine i_brF (by decide) ?_)
    | (refine i_brT (by decide) ?_)
    | (refine ⟨fun hc => ?_, fun hc => ?_⟩ <;> (try simp (disch := omega) only [ab_tI, ab_c0, wd_ix12, wd_ix8, wd_ix10, wd_up_self, wd_up_eq, wd_up_ne, Int.toNat_natCast, Int.toNat_of_nonneg, not_true_eq_false, not_false_eq_true, Option.some.injEq, hat, hn31] at hc) <;> first | (exfalso; omega) | skip)
    | (apply i_cv; (focus (exact rfl)))
    | (apply w_balM; (focus (exact (by first | exact ⟨by decide, by decide⟩ | ((try simp (disch := omega) only [ab_tI, ab_c0, wd_ix12, wd_ix8, wd_ix10, wd_up_self, wd_up_eq, wd_up_ne, Int.toNat_natCast, Int.toNat_of_nonneg, not_true_eq_false, not_false_eq_true, Option.some.injEq, hat, hn31, wd_l103, wd_l104, wd_l105, wd_l106, wd_l107, wd_l108, wd_l109, wd_l110, wd_l111, wd_l112, wd_l113, wd_l114, wd_l115, wd_l116, wd_l117, wd_l118, wd_l119, wd_l120, wd_l121, wd_l122, wd_l123, wd_l124]); omega)))); (intro v9 hv9; (try simp (disch := omega) only [ab_tI, ab_c0, wd_ix12, wd_ix8, wd_ix10, wd_up_self, wd_up_eq, wd_up_ne, Int.toNat_natCast, Int.toNat_of_nonneg, not_true_eq_false, not_false_eq_true, Option.some.injEq, hat, hn31] at hv9); subst hv9))
    | (apply w_basM; (focus (exact (by first | exact ⟨by decide, by decide⟩ | ((try simp (disch := omega) only [ab_tI, ab_c0, wd_ix12, wd_ix8, wd_ix10, wd_up_self, wd_up_eq, wd_up_ne, Int.toNat_natCast, Int.toNat_of_nonneg, not_true_eq_false, not_false_eq_true, Option.some.injEq, hat, hn31, wd_l103, wd_l104, wd_l105, wd_l106, wd_l107, wd_l108, wd_l109, wd_l110, wd_l111, wd_l112, wd_l113, wd_l114, wd_l115, wd_l116, wd_l117, wd_l118, wd_l119, wd_l120, wd_l121, wd_l122, wd_l123, wd_l124]); omega)))); (focus (first | exact Or.inl rfl | exact Or.inr rfl)); (intro v9 hv9; (try simp (disch := omega) only [ab_tI, ab_c0, wd_ix12, wd_ix8, wd_ix10, wd_up_self, wd_up_eq, wd_up_ne, Int.toNat_natCast, Int.toNat_of_nonneg, not_true_eq_false, not_false_eq_true, Option.some.injEq, hat, hn31] at hv9); subst hv9))
    | (refine And.intro trivial ?_)
    | (refine And.intro (Or.inl rfl) ?_)
    | (refine And.intro (Or.inr rfl) ?_)
    | (refine And.intro (by ((try simp (disch := omega) only [ab_tI, ab_c0, wd_ix12, wd_ix8, wd_ix10, wd_up_self, wd_up_eq, wd_up_ne, Int.toNat_natCast, Int.toNat_of_nonneg, not_true_eq_false, not_false_eq_true, Option.some.injEq, hat, hn31]); omega)) ?_)
    | fail)
set_option maxHeartbeats 4000000 in
set_option maxRecDepth 100000 in
theorem x_best_o {d : Nat} (hd : 15 ≤ d) {I : wd_I} {P : wd_P} {M : wd_I} {g : Nat → ab_C} {k z : Nat} {n : Int} {l : List Int32} (hl : m_lst M l n) (hn31 : M 102 31 = ab_ii (l.length : Int)) {s p o w : Int32} {Q : ab_Q} : ∀ r i, i + r = l.length → Q (some (.inl (m_bst M l o.toInt w.toInt r i))) (wd I P M g, k, z) → ab_WB d 185 Q 40 [(0, wd_v 102), (1, .inl s), (2, .inl p), (3, .inl o), (4, .inl w), (5, .inl (ab_ii (i : Int)))] [] (wd I P M g, k, z)
  | 0, i, hi, hQ => by
    have e : i = l.length := by omega
    subst e
    have hl2 := hl.2.1
    have hat := hl.2.2.1
    refine wd_rnC rfl ?_
    intro C9 X9 hC9 hX9
    (have chk9 := @hat; clear chk9); (have chk9 := @hn31; clear chk9); repeat' ((conv => whnf); first
    | (intro v9 hv9; (try simp (disch := omega) only [ab_tI, ab_c0, wd_ix12, wd_ix8, wd_ix10, wd_up_self, wd_up_eq, wd_up_ne, Int.toNat_natCast, Int.toNat_of_nonneg, not_true_eq_false, not_false_eq_true, Option.some.injEq, hat, hn31] at hv9); subst hv9)
    | (apply i_get; (focus (exact rfl)); (focus (exact rfl)))
    | (refine hX9 _ _ _ _ (wd_rnC rfl ?_); clear hC9 hX9 X9 C9; intro C9 X9 hC9 hX9)
    | (apply w_ialM; (focus (exact rfl)); (focus (exact (by first | exact ⟨by decide, by decide⟩ | ((try simp (disch := omega) only [ab_tI, ab_c0, wd_ix12, wd_ix8, wd_ix10, wd_up_self, wd_up_eq, wd_up_ne, Int.toNat_natCast, Int.toNat_of_nonneg, not_true_eq_false, not_false_eq_true, Option.some.injEq, hat, hn31, wd_l103, wd_l104, wd_l105, wd_l106, wd_l107, wd_l108, wd_l109, wd_l110, wd_l111, wd_l112, wd_l113, wd_l114, wd_l115, wd_l116, wd_l117, wd_l118, wd_l119, wd_l120, wd_l121, wd_l122, wd_l123, wd_l124]); omega)))); (intro v9 hv9; (try simp (disch := omega) only [ab_tI, ab_c0, wd_ix12, wd_ix8, wd_ix10, wd_up_self, wd_up_eq, wd_up_ne, Int.toNat_natCast, Int.toNat_of_nonneg, not_true_eq_false, not_false_eq_true, Option.some.injEq, hat, hn31] at hv9); subst hv9))
    | (apply w_putM; (focus (exact rfl)); (focus (first | exact trivial | exact Or.inl rfl | exact Or.inr rfl)); (focus (exact rfl)))
    | (apply w_iasM; (focus (exact rfl)); (focus (exact (by first | exact ⟨by decide, by decide⟩ | ((try simp (disch := omega) only [ab_tI, ab_c0, wd_ix12, wd_ix8, wd_ix10, wd_up_self, wd_up_eq, wd_up_ne, Int.toNat_natCast, Int.toNat_of_nonneg, not_true_eq_false, not_false_eq_true, Option.some.injEq, hat, hn31, wd_l103, wd_l104, wd_l105, wd_l106, wd_l107, wd_l108, wd_l109, wd_l110, wd_l111, wd_l112, wd_l113, wd_l114, wd_l115, wd_l116, wd_l117, wd_l118, wd_l119, wd_l120, wd_l121, wd_l122, wd_l123, wd_l124]); omega)))); (intro v9 hv9; (try simp (disch := omega) only [ab_tI, ab_c0, wd_ix12, wd_ix8, wd_ix10, wd_up_self, wd_up_eq, wd_up_ne, Int.toNat_natCast, Int.toNat_of_nonneg, not_true_eq_false, not_false_eq_true, Option.some.injEq, hat, hn31] at hv9); subst hv9))
    | (refine i_brF (by decide) ?_)
    | (refine i_brT (by decide) ?_)
    | (refine ⟨fun hc => ?_, fun hc => ?_⟩ <;> (try simp (disch := omega) only [ab_tI, ab_c0, wd_ix12, wd_ix8, wd_ix10, wd_up_self, wd_up_eq, wd_up_ne, Int.toNat_natCast, Int.toNat_of_nonneg, not_true_eq_false, not_false_eq_true, Option.some.injEq, hat, hn31] at hc) <;> first | (exfalso; omega) | skip)
    | (apply i_cv; (focus (exact rfl)))
    | (apply w_balM; (focus (exact (by first | exact ⟨by decide, by decide⟩ | ((try simp (disch := omega) only [ab_tI, ab_c0, wd_ix12, wd_ix8, wd_ix10, wd_up_self, wd_up_eq, wd_up_ne, Int.toNat_natCast, Int.toNat_of_nonneg, not_true_eq_false, not_false_eq_true, Option.some.injEq, hat, hn31, wd_l103, wd_l104, wd_l105, wd_l106, wd_l107, wd_l108, wd_l109, wd_l110, wd_l111, wd_l112, wd_l113, wd_l114, wd_l115, wd_l116, wd_l117, wd_l118, wd_l119, wd_l120, wd_l121, wd_l122, wd_l123, wd_l124]); omega)))); (intro v9 hv9; (try simp (disch := omega) only [ab_tI, ab_c0, wd_ix12, wd_ix8, wd_ix10, wd_up_self, wd_up_eq, wd_up_ne, Int.toNat_natCast, Int.toNat_of_nonneg, not_true_eq_false, not_false_eq_true, Option.some.injEq, hat, hn31] at hv9); subst hv9))
    | (apply w_basM; (focus (exact (by first | exact ⟨by decide, by decide⟩ | ((try simp (disch := omega) only [ab_tI, ab_c0, wd_ix12, wd_ix8, wd_ix10, wd_up_self, wd_up_eq, wd_up_ne, Int.toNat_natCast, Int.toNat_of_nonneg, not_true_eq_false, not_false_eq_true, Option.some.injEq, hat, hn31, wd_l103, wd_l104, wd_l105, wd_l106, wd_l107, wd_l108, wd_l109, wd_l110, wd_l111, wd_l112, wd_l113, wd_l114, wd_l115, wd_l116, wd_l117, wd_l118, wd_l119, wd_l120, wd_l121, wd_l122, wd_l123, wd_l124]); omega)))); (focus (first | exact Or.inl rfl | exact Or.inr rfl)); (intro v9 hv9; (try simp (disch := omega) only [ab_tI, ab_c0, wd_ix12, wd_ix8, wd_ix10, wd_up_self, wd_up_eq, wd_up_ne, Int.toNat_natCast, Int.toNat_of_nonneg, not_true_eq_false, not_false_eq_true, Option.some.injEq, hat, hn31] at hv9); subst hv9))
    | (refine And.intro trivial ?_)
    | (refine And.intro (Or.inl rfl) ?_)
    | (refine And.intro (Or.inr rfl) ?_)
    | (refine And.intro (by ((try simp (disch := omega) only [ab_tI, ab_c0, wd_ix12, wd_ix8, wd_ix10, wd_up_self, wd_up_eq, wd_up_ne, Int.toNat_natCast, Int.toNat_of_nonneg, not_true_eq_false, not_false_eq_true, Option.some.injEq, hat, hn31]); omega)) ?_)
    | fail)
    exact hQ
  | r + 1, i, hi, hQ => by
    have ih := x_best_o hd hl hn31 r (i + 1) (by omega) (s := s) (p := p) (o := o) (w := w) (Q := Q) (I := I) (P := P) (g := g) (k := k) (z := z)
    have hl2 := hl.2.1
    have hat := hl.2.2.1
    have hal := m_ahead_le (M := M) (l := l) (o := o.toInt) (i := i) l.length
    unfold m_bst at hQ
    have hK : ab_WB d 185 Q 55 [(0, wd_v 102), (1, .inl s), (2, .inl p), (3, .inl o), (4, .inl w), (5, .inl (ab_ii (i : Int))), (6, .inl (ab_ii (m_ahead M l o.toInt i l.length : Int))), (7, .inl (ab_ii (l.length : Int)))] [] (wd I P M g, k, z) := by
      refine wd_rnC rfl ?_
      intro C9 X9 hC9 hX9
      (have chk9 := @hat; clear chk9); (have chk9 := @hn31; clear chk9); repeat' ((conv => whnf); first
    | (refine hX9 40 _ _ _ (ab_WB_sub ?_ (ih ?_)); (focus ((repeat (first | exact ab_sub0 | (refine ab_sub1 ?_ ?_; (focus ((repeat (refine ab_skip rfl ?_)); first | exact List.mem_cons_self))))))))
    | (intro v9 hv9; (try simp (disch := omega) only [ab_tI, ab_c0, wd_ix12, wd_ix8, wd_ix10, wd_up_self, wd_up_eq, wd_up_ne, Int.toNat_natCast, Int.toNat_of_nonneg, not_true_eq_false, not_false_eq_true, Option.some.injEq, hat, hn31] at hv9); subst hv9)
    | (apply i_get; (focus (exact rfl)); (focus (exact rfl)))
    | (refine hX9 _ _ _ _ (wd_rnC rfl ?_); clear hC9 hX9 X9 C9; intro C9 X9 hC9 hX9)
    | (apply w_ialM; (focus (exact rfl)); (focus (exact (by first | exact ⟨by decide, by decide⟩ | ((try simp (disch := omega) only [ab_tI, ab_c0, wd_ix12, wd_ix8, wd_ix10, wd_up_self, wd_up_eq, wd_up_ne, Int.toNat_natCast, Int.toNat_of_nonneg, not_true_eq_false, not_false_eq_true, Option.some.injEq, hat, hn31, wd_l103, wd_l104, wd_l105, wd_l106, wd_l107, wd_l108, wd_l109, wd_l110, wd_l111, wd_l112, wd_l113, wd_l114, wd_l115, wd_l116, wd_l117, wd_l118, wd_l119, wd_l120, wd_l121, wd_l122, wd_l123, wd_l124]); omega)))); (intro v9 hv9; (try simp (disch := omega) only [ab_tI, ab_c0, wd_ix12, wd_ix8, wd_ix10, wd_up_self, wd_up_eq, wd_up_ne, Int.toNat_natCast, Int.toNat_of_nonneg, not_true_eq_false, not_false_eq_true, Option.some.injEq, hat, hn31] at hv9); subst hv9))
    | (apply w_putM; (focus (exact rfl)); (focus (first | exact trivial | exact Or.inl rfl | exact Or.inr rfl)); (focus (exact rfl)))
    | (apply w_iasM; (focus (exact rfl)); (focus (exact (by first | exact ⟨by decide, by decide⟩ | ((try simp (disch := omega) only [ab_tI, ab_c0, wd_ix12, wd_ix8, wd_ix10, wd_up_self, wd_up_eq, wd_up_ne, Int.toNat_natCast, Int.toNat_of_nonneg, not_true_eq_false, not_false_eq_true, Option.some.injEq, hat, hn31, wd_l103, wd_l104, wd_l105, wd_l106, wd_l107, wd_l108, wd_l109, wd_l110, wd_l111, wd_l112, wd_l113, wd_l114, wd_l115, wd_l116, wd_l117, wd_l118, wd_l119, wd_l120, wd_l121, wd_l122, wd_l123, wd_l124]); omega)))); (intro v9 hv9; (try simp (disch := omega) only [ab_tI, ab_c0, wd_ix12, wd_ix8, wd_ix10, wd_up_self, wd_up_eq, wd_up_ne, Int.toNat_natCast, Int.toNat_of_nonneg, not_true_eq_false, not_false_eq_true, Option.some.injEq, hat, hn31] at hv9); subst hv9))
    | (refine i_brF (by decide) ?_)
    | (refine i_brT (by decide) ?_)
    | (refine ⟨fun hc => ?_, fun hc => ?_⟩ <;> (try simp (disch := omega) only [ab_tI, ab_c0, wd_ix12, wd_ix8, wd_ix10, wd_up_self, wd_up_eq, wd_up_ne, Int.toNat_natCast, Int.toNat_of_nonneg, not_true_eq_false, not_false_eq_true, Option.some.injEq, hat, hn31] at hc) <;> first | (exfalso; omega) | skip)
    | (apply i_cv; (focus (exact rfl)))
    | (apply w_balM; (focus (exact (by first | exact ⟨by decide, by decide⟩ | ((try simp (disch := omega) only [ab_tI, ab_c0, wd_ix12, wd_ix8, wd_ix10, wd_up_self, wd_up_eq, wd_up_ne, Int.toNat_natCast, Int.toNat_of_nonneg, not_true_eq_false, not_false_eq_true, Option.some.injEq, hat, hn31, wd_l103, wd_l104, wd_l105, wd_l106, wd_l107, wd_l108, wd_l109, wd_l110, wd_l111, wd_l112, wd_l113, wd_l114, wd_l115, wd_l116, wd_l117, wd_l118, wd_l119, wd_l120, wd_l121, wd_l122, wd_l123, wd_l124]); omega)))); (intro v9 hv9; (try simp (disch := omega) only [ab_tI, ab_c0, wd_ix12, wd_ix8, wd_ix10, wd_up_self, wd_up_eq, wd_up_ne, Int.toNat_natCast, Int.toNat_of_nonneg, not_true_eq_false, not_false_eq_true, Option.some.injEq, hat, hn31] at hv9); subst hv9))
    | (apply w_basM; (focus (exact (by first | exact ⟨by decide, by decide⟩ | ((try simp (disch := omega) only [ab_tI, ab_c0, wd_ix12, wd_ix8, wd_ix10, wd_up_self, wd_up_eq, wd_up_ne, Int.toNat_natCast, Int.toNat_of_nonneg, not_true_eq_false, not_false_eq_true, Option.some.injEq, hat, hn31, wd_l103, wd_l104, wd_l105, wd_l106, wd_l107, wd_l108, wd_l109, wd_l110, wd_l111, wd_l112, wd_l113, wd_l114, wd_l115, wd_l116, wd_l117, wd_l118, wd_l119, wd_l120, wd_l121, wd_l122, wd_l123, wd_l124]); omega)))); (focus (first | exact Or.inl rfl | exact Or.inr rfl)); (intro v9 hv9; (try simp (disch := omega) only [ab_tI, ab_c0, wd_ix12, wd_ix8, wd_ix10, wd_up_self, wd_up_eq, wd_up_ne, Int.toNat_natCast, Int.toNat_of_nonneg, not_true_eq_false, not_false_eq_true, Option.some.injEq, hat, hn31] at hv9); subst hv9))
    | (refine And.intro trivial ?_)
    | (refine And.intro (Or.inl rfl) ?_)
    | (refine And.intro (Or.inr rfl) ?_)
    | (refine And.intro (by ((try simp (disch := omega) only [ab_tI, ab_c0, wd_ix12, wd_ix8, wd_ix10, wd_up_self, wd_up_eq, wd_up_ne, Int.toNat_natCast, Int.toNat_of_nonneg, not_true_eq_false, not_false_eq_true, Option.some.injEq, hat, hn31]); omega)) ?_)
    | fail)
      all_goals (split at hQ) <;> first | exact hQ | (exfalso; omega)
    have hin := x_best_i hd hl hn31 (i := i) (by omega) hK l.length 0 (by omega)
    refine wd_rnC rfl ?_
    intro C9 X9 hC9 hX9
    (have chk9 := @hat; clear chk9); (have chk9 := @hn31; clear chk9); repeat' ((conv => whnf); first
    | (refine hX9 55 _ _ _ (ab_WB_sub ?_ hin); (repeat (first | exact ab_sub0 | (refine ab_sub1 ?_ ?_; (focus ((repeat (refine ab_skip rfl ?_)); first | exact List.mem_cons_self))))))
    | (intro v9 hv9; (try simp (disch := omega) only [ab_tI, ab_c0, wd_ix12, wd_ix8, wd_ix10, wd_up_self, wd_up_eq, wd_up_ne, Int.toNat_natCast, Int.toNat_of_nonneg, not_true_eq_false, not_false_eq_true, Option.some.injEq, hat, hn31] at hv9); subst hv9)
    | (apply i_get; (focus (exact rfl)); (focus (exact rfl)))
    | (refine hX9 _ _ _ _ (wd_rnC rfl ?_); clear hC9 hX9 X9 C9; intro C9 X9 hC9 hX9)
    | (apply w_ialM; (focus (exact rfl)); (focus (exact (by first | exact ⟨by decide, by decide⟩ | ((try simp (disch := omega) only [ab_tI, ab_c0, wd_ix12, wd_ix8, wd_ix10, wd_up_self, wd_up_eq, wd_up_ne, Int.toNat_natCast, Int.toNat_of_nonneg, not_true_eq_false, not_false_eq_true, Option.some.injEq, hat, hn31, wd_l103, wd_l104, wd_l105, wd_l106, wd_l107, wd_l108, wd_l109, wd_l110, wd_l111, wd_l112, wd_l113, wd_l114, wd_l115, wd_l116, wd_l117, wd_l118, wd_l119, wd_l120, wd_l121, wd_l122, wd_l123, wd_l124]); omega)))); (intro v9 hv9; (try simp (disch := omega) only [ab_tI, ab_c0, wd_ix12, wd_ix8, wd_ix10, wd_up_self, wd_up_eq, wd_up_ne, Int.toNat_natCast, Int.toNat_of_nonneg, not_true_eq_false, not_false_eq_true, Option.some.injEq, hat, hn31] at hv9); subst hv9))
    | (apply w_putM; (focus (exact rfl)); (focus (first | exact trivial | exact Or.inl rfl | exact Or.inr rfl)); (focus (exact rfl)))
    | (apply w_iasM; (focus (exact rfl)); (focus (exact (by first | exact ⟨by decide, by decide⟩ | ((try simp (disch := omega) only [ab_tI, ab_c0, wd_ix12, wd_ix8, wd_ix10, wd_up_self, wd_up_eq, wd_up_ne, Int.toNat_natCast, Int.toNat_of_nonneg, not_true_eq_false, not_false_eq_true, Option.some.injEq, hat, hn31, wd_l103, wd_l104, wd_l105, wd_l106, wd_l107, wd_l108, wd_l109, wd_l110, wd_l111, wd_l112, wd_l113, wd_l114, wd_l115, wd_l116, wd_l117, wd_l118, wd_l119, wd_l120, wd_l121, wd_l122, wd_l123, wd_l124]); omega)))); (intro v9 hv9; (try simp (disch := omega) only [ab_tI, ab_c0, wd_ix12, wd_ix8, wd_ix10, wd_up_self, wd_up_eq, wd_up_ne, Int.toNat_natCast, Int.toNat_of_nonneg, not_true_eq_false, not_false_eq_true, Option.some.injEq, hat, hn31] at hv9); subst hv9))
    | (refine i_brF (by decide) ?_)
    | (refine i_brT (by decide) ?_)
    | (refine ⟨fun hc => ?_, fun hc => ?_⟩ <;> (try simp (disch := omega) only [ab_tI, ab_c0, wd_ix12, wd_ix8, wd_ix10, wd_up_self, wd_up_eq, wd_up_ne, Int.toNat_natCast, Int.toNat_of_nonneg, not_true_eq_false, not_false_eq_true, Option.some.injEq, hat, hn31] at hc) <;> first | (exfalso; omega) | skip)
    | (apply i_cv; (focus (exact rfl)))
    | (apply w_balM; (focus (exact (by first | exact ⟨by decide, by decide⟩ | ((try simp (disch := omega) only [ab_tI, ab_c0, wd_ix12, wd_ix8, wd_ix10, wd_up_self, wd_up_eq, wd_up_ne, Int.toNat_natCast, Int.toNat_of_nonneg, not_true_eq_false, not_false_eq_true, Option.some.injEq, hat, hn31, wd_l103, wd_l104, wd_l105, wd_l106, wd_l107, wd_l108, wd_l109, wd_l110, wd_l111, wd_l112, wd_l113, wd_l114, wd_l115, wd_l116, wd_l117, wd_l118, wd_l119, wd_l120, wd_l121, wd_l122, wd_l123, wd_l124]); omega)))); (intro v9 hv9; (try simp (disch := omega) only [ab_tI, ab_c0, wd_ix12, wd_ix8, wd_ix10, wd_up_self, wd_up_eq, wd_up_ne, Int.toNat_natCast, Int.toNat_of_nonneg, not_true_eq_false, not_false_eq_true, Option.some.injEq, hat, hn31] at hv9); subst hv9))
    | (apply w_basM; (focus (exact (by first | exact ⟨by decide, by decide⟩ | ((try simp (disch := omega) only [ab_tI, ab_c0, wd_ix12, wd_ix8, wd_ix10, wd_up_self, wd_up_eq, wd_up_ne, Int.toNat_natCast, Int.toNat_of_nonneg, not_true_eq_false, not_false_eq_true, Option.some.injEq, hat, hn31, wd_l103, wd_l104, wd_l105, wd_l106, wd_l107, wd_l108, wd_l109, wd_l110, wd_l111, wd_l112, wd_l113, wd_l114, wd_l115, wd_l116, wd_l117, wd_l118, wd_l119, wd_l120, wd_l121, wd_l122, wd_l123, wd_l124]); omega)))); (focus (first | exact Or.inl rfl | exact Or.inr rfl)); (intro v9 hv9; (try simp (disch := omega) only [ab_tI, ab_c0, wd_ix12, wd_ix8, wd_ix10, wd_up_self, wd_up_eq, wd_up_ne, Int.toNat_natCast, Int.toNat_of_nonneg, not_true_eq_false, not_false_eq_true, Option.some.injEq, hat, hn31] at hv9); subst hv9))
    | (refine And.intro trivial ?_)
    | (refine And.intro (Or.inl rfl) ?_)
    | (refine And.intro (Or.inr rfl) ?_)
    | (refine And.intro (by ((try simp (disch := omega) only [ab_tI, ab_c0, wd_ix12, wd_ix8, wd_ix10, wd_up_self, wd_up_eq, wd_up_ne, Int.toNat_natCast, Int.toNat_of_nonneg, not_true_eq_false, not_false_eq_true, Option.some.injEq, hat, hn31]); omega)) ?_)
    | fail)

theorem m_ob_c {M M' : wd_I} (h : m_same M M') {o : Int} {a b : Int32} : m_ob M' o a b = m_ob M o a b := by
  unfold m_ob
  rw [h 106 (by decide) (by decide), h 107 (by decide) (by decide), m_cmp_c h]
theorem m_ahead_c {M M' : wd_I} (h : m_same M M') {l : List Int32} {o : Int} {i : Nat} : ∀ q, m_ahead M' l o i q = m_ahead M l o i q
  | 0 => rfl
  | q + 1 => by
    unfold m_ahead
    rw [m_ahead_c h q, m_ob_c h]
theorem m_bst_c {M M' : wd_I} (h : m_same M M') {l : List Int32} {o n : Int} : ∀ r i, m_bst M' l o n r i = m_bst M l o n r i
  | 0, _ => rfl
  | r + 1, i => by
    unfold m_bst
    rw [m_bst_c h r, m_ahead_c h]
theorem m_lst_of {M M' : wd_I} (hok : m_lok M) (h : m_eqv M M') {p t : Int32} (h0 : 0 ≤ t.toInt) (h1 : t.toInt < (M 102 8).toInt) (hat : ∀ j, j < (m_fs M p t).length → M' 123 j = (m_fs M p t).getD j 0) : m_lst M' (m_fs M p t) (M 102 8).toInt :=
  ⟨m_cl_c h.sa hok.1.1, m_fs_len hok.1 h0 h1, hat, fun j hj => m_getD_in (m_fo_in hok.1.1 21 _ 0 h0 h1) hj⟩
noncomputable def m_best (M : wd_I) (s p o n : Int32) : Int32 := @ite Int32 (0 ≤ s.toInt ∧ s.toInt ≤ 11 ∧ 0 ≤ p.toInt ∧ p.toInt ≤ 7 ∧ 0 ≤ o.toInt ∧ o.toInt ≤ 2) (Classical.propDecidable _) (m_bst M (m_fs M p (M 110 s.toInt.toNat)) o.toInt n.toInt (m_fs M p (M 110 s.toInt.toNat)).length 0) (ab_ii (-2))
set_option maxHeartbeats 4000000 in
set_option maxRecDepth 100000 in
theorem x_best {d : Nat} (hd : 25 ≤ d) {I : wd_I} {P : wd_P} {M : wd_I} {g : Nat → ab_C} {k z : Nat} {s p o n : Int32} {Q : ab_Q} (hok : m_lok M) (hQ : ∀ M', m_eqv M M' → Q (some (.inl (m_best M s p o n))) (wd I P M' g, k, z)) : ab_CT d 185 [wd_v 102, .inl s, .inl p, .inl o, .inl n] (wd I P M g, k, z) Q := by
  obtain ⟨o1, o2, o3⟩ := id hok
  unfold m_best at hQ
  refine wd_inC rfl (by omega) rfl ?_
  intro C9 X9 hC9 hX9
  repeat' ((conv => whnf); first
    | (refine hC9 134 _ _ _ (x_isShelf (by omega) (fun hc hc2 => ?_) (fun hc => ?_)))
    | (refine hC9 135 _ _ _ (x_isPath (by omega) (fun hc hc2 => ?_) (fun hc => ?_)))
    | (refine hC9 133 _ _ _ (x_in (by omega) (fun hc hc2 => ?_) (fun hc => ?_)) <;> (try simp (disch := omega) only [ab_tI, ab_c0, wd_ix12, wd_ix8, wd_ix10, wd_up_self, wd_up_eq, wd_up_ne, Int.toNat_natCast, Int.toNat_of_nonneg, not_true_eq_false, not_false_eq_true, Option.some.injEq] at hc) <;> (try simp (disch := omega) only [ab_tI, ab_c0, wd_ix12, wd_ix8, wd_ix10, wd_up_self, wd_up_eq, wd_up_ne, Int.toNat_natCast, Int.toNat_of_nonneg, not_true_eq_false, not_false_eq_true, Option.some.injEq] at hc2))
    | (refine hC9 165 _ _ _ (x_looks o1 (o3 _ (by omega) (by omega)) (by omega) (o2 _ (by omega)).1 (o2 _ (by omega)).2 ?_))
    | (intro v9 hv9; (try simp (disch := omega) only [ab_tI, ab_c0, wd_ix12, wd_ix8, wd_ix10, wd_up_self, wd_up_eq, wd_up_ne, Int.toNat_natCast, Int.toNat_of_nonneg, not_true_eq_false, not_false_eq_true, Option.some.injEq] at hv9); subst hv9)
    | (apply i_get; (focus (exact rfl)); (focus (exact rfl)))
    | (refine hX9 _ _ _ _ (wd_rnC rfl ?_); clear hC9 hX9 X9 C9; intro C9 X9 hC9 hX9)
    | (apply w_ialM; (focus (exact rfl)); (focus (exact (by first | exact ⟨by decide, by decide⟩ | ((try simp (disch := omega) only [ab_tI, ab_c0, wd_ix12, wd_ix8, wd_ix10, wd_up_self, wd_up_eq, wd_up_ne, Int.toNat_natCast, Int.toNat_of_nonneg, not_true_eq_false, not_false_eq_true, Option.some.injEq, wd_l103, wd_l104, wd_l105, wd_l106, wd_l107, wd_l108, wd_l109, wd_l110, wd_l111, wd_l112, wd_l113, wd_l114, wd_l115, wd_l116, wd_l117, wd_l118, wd_l119, wd_l120, wd_l121, wd_l122, wd_l123, wd_l124]); omega)))); (intro v9 hv9; (try simp (disch := omega) only [ab_tI, ab_c0, wd_ix12, wd_ix8, wd_ix10, wd_up_self, wd_up_eq, wd_up_ne, Int.toNat_natCast, Int.toNat_of_nonneg, not_true_eq_false, not_false_eq_true, Option.some.injEq] at hv9); subst hv9))
    | (apply w_putM; (focus (exact rfl)); (focus (first | exact trivial | exact Or.inl rfl | exact Or.inr rfl)); (focus (exact rfl)))
    | (apply w_iasM; (focus (exact rfl)); (focus (exact (by first | exact ⟨by decide, by decide⟩ | ((try simp (disch := omega) only [ab_tI, ab_c0, wd_ix12, wd_ix8, wd_ix10, wd_up_self, wd_up_eq, wd_up_ne, Int.toNat_natCast, Int.toNat_of_nonneg, not_true_eq_false, not_false_eq_true, Option.some.injEq, wd_l103, wd_l104, wd_l105, wd_l106, wd_l107, wd_l108, wd_l109, wd_l110, wd_l111, wd_l112, wd_l113, wd_l114, wd_l115, wd_l116, wd_l117, wd_l118, wd_l119, wd_l120, wd_l121, wd_l122, wd_l123, wd_l124]); omega)))); (intro v9 hv9; (try simp (disch := omega) only [ab_tI, ab_c0, wd_ix12, wd_ix8, wd_ix10, wd_up_self, wd_up_eq, wd_up_ne, Int.toNat_natCast, Int.toNat_of_nonneg, not_true_eq_false, not_false_eq_true, Option.some.injEq] at hv9); subst hv9))
    | (refine i_brF (by decide) ?_)
    | (refine i_brT (by decide) ?_)
    | (refine ⟨fun hc => ?_, fun hc => ?_⟩ <;> (try simp (disch := omega) only [ab_tI, ab_c0, wd_ix12, wd_ix8, wd_ix10, wd_up_self, wd_up_eq, wd_up_ne, Int.toNat_natCast, Int.toNat_of_nonneg, not_true_eq_false, not_false_eq_true, Option.some.injEq] at hc) <;> first | (exfalso; omega) | skip)
    | (apply i_cv; (focus (exact rfl)))
    | (apply w_balM; (focus (exact (by first | exact ⟨by decide, by decide⟩ | ((try simp (disch := omega) only [ab_tI, ab_c0, wd_ix12, wd_ix8, wd_ix10, wd_up_self, wd_up_eq, wd_up_ne, Int.toNat_natCast, Int.toNat_of_nonneg, not_true_eq_false, not_false_eq_true, Option.some.injEq, wd_l103, wd_l104, wd_l105, wd_l106, wd_l107, wd_l108, wd_l109, wd_l110, wd_l111, wd_l112, wd_l113, wd_l114, wd_l115, wd_l116, wd_l117, wd_l118, wd_l119, wd_l120, wd_l121, wd_l122, wd_l123, wd_l124]); omega)))); (intro v9 hv9; (try simp (disch := omega) only [ab_tI, ab_c0, wd_ix12, wd_ix8, wd_ix10, wd_up_self, wd_up_eq, wd_up_ne, Int.toNat_natCast, Int.toNat_of_nonneg, not_true_eq_false, not_false_eq_true, Option.some.injEq] at hv9); subst hv9))
    | (apply w_basM; (focus (exact (by first | exact ⟨by decide, by decide⟩ | ((try simp (disch := omega) only [ab_tI, ab_c0, wd_ix12, wd_ix8, wd_ix10, wd_up_self, wd_up_eq, wd_up_ne, Int.toNat_natCast, Int.toNat_of_nonneg, not_true_eq_false, not_false_eq_true, Option.some.injEq, wd_l103, wd_l104, wd_l105, wd_l106, wd_l107, wd_l108, wd_l109, wd_l110, wd_l111, wd_l112, wd_l113, wd_l114, wd_l115, wd_l116, wd_l117, wd_l118, wd_l119, wd_l120, wd_l121, wd_l122, wd_l123, wd_l124]); omega)))); (focus (first | exact Or.inl rfl | exact Or.inr rfl)); (intro v9 hv9; (try simp (disch := omega) only [ab_tI, ab_c0, wd_ix12, wd_ix8, wd_ix10, wd_up_self, wd_up_eq, wd_up_ne, Int.toNat_natCast, Int.toNat_of_nonneg, not_true_eq_false, not_false_eq_true, Option.some.injEq] at hv9); subst hv9))
    | (refine And.intro trivial ?_)
    | (refine And.intro (Or.inl rfl) ?_)
    | (refine And.intro (Or.inr rfl) ?_)
    | (refine And.intro (by ((try simp (disch := omega) only [ab_tI, ab_c0, wd_ix12, wd_ix8, wd_ix10, wd_up_self, wd_up_eq, wd_up_ne, Int.toNat_natCast, Int.toNat_of_nonneg, not_true_eq_false, not_false_eq_true, Option.some.injEq]); omega)) ?_)
    | fail)
  all_goals try (rw [if_neg (by omega)] at hQ; exact hQ M m_eqv.rf)
  intro M1 hE1 hn1 hat1
  rw [if_pos (by omega)] at hQ
  have hQ1 := hQ _ hE1
  rw [← m_bst_c hE1.sa] at hQ1
  have hb := x_best_o (d := d) (by omega) (m_lst_of hok hE1 (o2 s.toInt.toNat (by omega)).1 (o2 s.toInt.toNat (by omega)).2 hat1) hn1 (s := s) (p := p) (m_fs M p (M 110 s.toInt.toNat)).length 0 (by omega) hQ1
  repeat' ((conv => whnf); first
    | (refine hX9 40 _ _ _ (ab_WB_sub ?_ hb); (repeat (first | exact ab_sub0 | (refine ab_sub1 ?_ ?_; (focus ((repeat (refine ab_skip rfl ?_)); first | exact List.mem_cons_self))))))
    | (intro v9 hv9; (try simp (disch := omega) only [ab_tI, ab_c0, wd_ix12, wd_ix8, wd_ix10, wd_up_self, wd_up_eq, wd_up_ne, Int.toNat_natCast, Int.toNat_of_nonneg, not_true_eq_false, not_false_eq_true, Option.some.injEq] at hv9); subst hv9)
    | (apply i_get; (focus (exact rfl)); (focus (exact rfl)))
    | (refine hX9 _ _ _ _ (wd_rnC rfl ?_); clear hC9 hX9 X9 C9; intro C9 X9 hC9 hX9)
    | (apply w_ialM; (focus (exact rfl)); (focus (exact (by first | exact ⟨by decide, by decide⟩ | ((try simp (disch := omega) only [ab_tI, ab_c0, wd_ix12, wd_ix8, wd_ix10, wd_up_self, wd_up_eq, wd_up_ne, Int.toNat_natCast, Int.toNat_of_nonneg, not_true_eq_false, not_false_eq_true, Option.some.injEq, wd_l103, wd_l104, wd_l105, wd_l106, wd_l107, wd_l108, wd_l109, wd_l110, wd_l111, wd_l112, wd_l113, wd_l114, wd_l115, wd_l116, wd_l117, wd_l118, wd_l119, wd_l120, wd_l121, wd_l122, wd_l123, wd_l124]); omega)))); (intro v9 hv9; (try simp (disch := omega) only [ab_tI, ab_c0, wd_ix12, wd_ix8, wd_ix10, wd_up_self, wd_up_eq, wd_up_ne, Int.toNat_natCast, Int.toNat_of_nonneg, not_true_eq_false, not_false_eq_true, Option.some.injEq] at hv9); subst hv9))
    | (apply w_putM; (focus (exact rfl)); (focus (first | exact trivial | exact Or.inl rfl | exact Or.inr rfl)); (focus (exact rfl)))
    | (apply w_iasM; (focus (exact rfl)); (focus (exact (by first | exact ⟨by decide, by decide⟩ | ((try simp (disch := omega) only [ab_tI, ab_c0, wd_ix12, wd_ix8, wd_ix10, wd_up_self, wd_up_eq, wd_up_ne, Int.toNat_natCast, Int.toNat_of_nonneg, not_true_eq_false, not_false_eq_true, Option.some.injEq, wd_l103, wd_l104, wd_l105, wd_l106, wd_l107, wd_l108, wd_l109, wd_l110, wd_l111, wd_l112, wd_l113, wd_l114, wd_l115, wd_l116, wd_l117, wd_l118, wd_l119, wd_l120, wd_l121, wd_l122, wd_l123, wd_l124]); omega)))); (intro v9 hv9; (try simp (disch := omega) only [ab_tI, ab_c0, wd_ix12, wd_ix8, wd_ix10, wd_up_self, wd_up_eq, wd_up_ne, Int.toNat_natCast, Int.toNat_of_nonneg, not_true_eq_false, not_false_eq_true, Option.some.injEq] at hv9); subst hv9))
    | (refine i_brF (by decide) ?_)
    | (refine i_brT (by decide) ?_)
    | (refine ⟨fun hc => ?_, fun hc => ?_⟩ <;> (try simp (disch := omega) only [ab_tI, ab_c0, wd_ix12, wd_ix8, wd_ix10, wd_up_self, wd_up_eq, wd_up_ne, Int.toNat_natCast, Int.toNat_of_nonneg, not_true_eq_false, not_false_eq_true, Option.some.injEq] at hc) <;> first | (exfalso; omega) | skip)
    | (apply i_cv; (focus (exact rfl)))
    | (apply w_balM; (focus (exact (by first | exact ⟨by decide, by decide⟩ | ((try simp (disch := omega) only [ab_tI, ab_c0, wd_ix12, wd_ix8, wd_ix10, wd_up_self, wd_up_eq, wd_up_ne, Int.toNat_natCast, Int.toNat_of_nonneg, not_true_eq_false, not_false_eq_true, Option.some.injEq, wd_l103, wd_l104, wd_l105, wd_l106, wd_l107, wd_l108, wd_l109, wd_l110, wd_l111, wd_l112, wd_l113, wd_l114, wd_l115, wd_l116, wd_l117, wd_l118, wd_l119, wd_l120, wd_l121, wd_l122, wd_l123, wd_l124]); omega)))); (intro v9 hv9; (try simp (disch := omega) only [ab_tI, ab_c0, wd_ix12, wd_ix8, wd_ix10, wd_up_self, wd_up_eq, wd_up_ne, Int.toNat_natCast, Int.toNat_of_nonneg, not_true_eq_false, not_false_eq_true, Option.some.injEq] at hv9); subst hv9))
    | (apply w_basM; (focus (exact (by first | exact ⟨by decide, by decide⟩ | ((try simp (disch := omega) only [ab_tI, ab_c0, wd_ix12, wd_ix8, wd_ix10, wd_up_self, wd_up_eq, wd_up_ne, Int.toNat_natCast, Int.toNat_of_nonneg, not_true_eq_false, not_false_eq_true, Option.some.injEq, wd_l103, wd_l104, wd_l105, wd_l106, wd_l107, wd_l108, wd_l109, wd_l110, wd_l111, wd_l112, wd_l113, wd_l114, wd_l115, wd_l116, wd_l117, wd_l118, wd_l119, wd_l120, wd_l121, wd_l122, wd_l123, wd_l124]); omega)))); (focus (first | exact Or.inl rfl | exact Or.inr rfl)); (intro v9 hv9; (try simp (disch := omega) only [ab_tI, ab_c0, wd_ix12, wd_ix8, wd_ix10, wd_up_self, wd_up_eq, wd_up_ne, Int.toNat_natCast, Int.toNat_of_nonneg, not_true_eq_false, not_false_eq_true, Option.some.injEq] at hv9); subst hv9))
    | (refine And.intro trivial ?_)
    | (refine And.intro (Or.inl rfl) ?_)
    | (refine And.intro (Or.inr rfl) ?_)
    | (refine And.intro (by ((try simp (disch := omega) only [ab_tI, ab_c0, wd_ix12, wd_ix8, wd_ix10, wd_up_self, wd_up_eq, wd_up_ne, Int.toNat_natCast, Int.toNat_of_nonneg, not_true_eq_false, not_false_eq_true, Option.some.injEq]); omega)) ?_)
    | fail)
