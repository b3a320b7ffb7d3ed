/-! ===== the reference: shelves, paths, the image (own text) ===== -/
theorem wd_p1 {a b : Nat} : a + (b + 1) - 1 = a + b := rfl
theorem wd_ix10p {x : Int} {j : Nat} (h : 0 ≤ x) : (10 * x + (j : Int) + 1).toNat = 10 * x.toNat + (j + 1) := by omega
theorem wd_ix10n {x : Int} (h : 0 ≤ x) : (10 * x + 9).toNat = 10 * x.toNat + 9 := by omega
def m_shift (M : wd_I) (s : Nat) : Nat → wd_I
  | 0 => M
  | q + 1 => wd_up (m_shift M s q) 111 (10 * s + q) (m_shift M s q 111 (10 * s + (q + 1)))
theorem m_shift_row {M : wd_I} {s a : Nat} (h : a ≠ 111) : ∀ q, m_shift M s q a = M a
  | 0 => rfl
  | q + 1 => by
    show wd_up (m_shift M s q) 111 _ _ a = M a
    rw [wd_up_row _ _ _ h, m_shift_row h q]
theorem m_shift_ne {M : wd_I} {s a q j : Nat} (h : a ≠ 111) : m_shift M s q a j = M a j := by rw [m_shift_row h]
def m_bec1 (M : wd_I) (s : Nat) (t : Int32) (c : Nat) : wd_I := wd_up (wd_up (wd_up M 111 (10 * s + c) (M 110 s)) 112 s (ab_ii ((c : Int) + 1))) 110 s t
def m_becomes (M : wd_I) (s : Nat) (t : Int32) (c : Nat) : wd_I := if c = 10 then m_bec1 (wd_up (m_shift M s 9) 112 s (ab_ii 9)) s t 9 else m_bec1 M s t c

set_option maxHeartbeats 4000000 in
set_option maxRecDepth 100000 in
theorem x_becomes_l {d : Nat} (hd : 1 ≤ d) {I : wd_I} {P : wd_P} {M : wd_I} {g : Nat → ab_C} {k z : Nat} {s t : Int32} {Q : ab_Q} (h0 : 0 ≤ s.toInt) (h1 : s.toInt ≤ 11) (hQ : Q none (wd I P (m_bec1 (wd_up (m_shift M s.toInt.toNat 9) 112 s.toInt.toNat (ab_ii 9)) s.toInt.toNat t 9) g, k, z)) : ∀ n q : Nat, q + n = 9 → ab_WB d 141 Q 13 [(0, wd_v 102), (1, .inl s), (2, .inl t), (3, .inl (ab_ii (q : Int)))] [] (wd I P (m_shift M s.toInt.toNat q) g, k, z)
  | 0, q, hq => by
    have e : q = 9 := by omega
    subst e
    refine wd_rnC rfl ?_
    intro C9 X9 hC9 hX9
    repeat' ((conv => whnf); first
    | (intro v9 hv9; (try simp (disch := omega) only [ab_tI, ab_c0, wd_ix12, wd_ix8, wd_ix10, wd_up_self, wd_up_eq, wd_up_ne, Int.toNat_natCast, Int.toNat_of_nonneg, not_true_eq_false, not_false_eq_true, Option.some.injEq, wd_ix10p, wd_ix10n, m_shift_ne] at hv9); subst hv9)
    | (apply i_get; (focus (exact rfl)); (focus (exact rfl)))
    | (refine hX9 _ _ _ _ (wd_rnC rfl ?_); clear hC9 hX9 X9 C9; intro C9 X9 hC9 hX9)
    | (apply w_ialM; (focus (exact rfl)); (focus (exact (by first | exact ⟨by decide, by decide⟩ | ((try simp (disch := omega) only [ab_tI, ab_c0, wd_ix12, wd_ix8, wd_ix10, wd_up_self, wd_up_eq, wd_up_ne, Int.toNat_natCast, Int.toNat_of_nonneg, not_true_eq_false, not_false_eq_true, Option.some.injEq, wd_ix10p, wd_ix10n, m_shift_ne, wd_l103, wd_l104, wd_l105, wd_l106, wd_l107, wd_l108, wd_l109, wd_l110, wd_l111, wd_l112, wd_l113, wd_l114, wd_l115, wd_l116, wd_l117, wd_l118, wd_l119, wd_l120, wd_l121, wd_l122, wd_l123, wd_l124]); omega)))); (intro v9 hv9; (try simp (disch := omega) only [ab_tI, ab_c0, wd_ix12, wd_ix8, wd_ix10, wd_up_self, wd_up_eq, wd_up_ne, Int.toNat_natCast, Int.toNat_of_nonneg, not_true_eq_false, not_false_eq_true, Option.some.injEq, wd_ix10p, wd_ix10n, m_shift_ne] at hv9); subst hv9))
    | (apply w_putM; (focus (exact rfl)); (focus (first | exact trivial | exact Or.inl rfl | exact Or.inr rfl)); (focus (exact rfl)))
    | (apply w_iasM; (focus (exact rfl)); (focus (exact (by first | exact ⟨by decide, by decide⟩ | ((try simp (disch := omega) only [ab_tI, ab_c0, wd_ix12, wd_ix8, wd_ix10, wd_up_self, wd_up_eq, wd_up_ne, Int.toNat_natCast, Int.toNat_of_nonneg, not_true_eq_false, not_false_eq_true, Option.some.injEq, wd_ix10p, wd_ix10n, m_shift_ne, wd_l103, wd_l104, wd_l105, wd_l106, wd_l107, wd_l108, wd_l109, wd_l110, wd_l111, wd_l112, wd_l113, wd_l114, wd_l115, wd_l116, wd_l117, wd_l118, wd_l119, wd_l120, wd_l121, wd_l122, wd_l123, wd_l124]); omega)))); (intro v9 hv9; (try simp (disch := omega) only [ab_tI, ab_c0, wd_ix12, wd_ix8, wd_ix10, wd_up_self, wd_up_eq, wd_up_ne, Int.toNat_natCast, Int.toNat_of_nonneg, not_true_eq_false, not_false_eq_true, Option.some.injEq, wd_ix10p, wd_ix10n, m_shift_ne] at hv9); subst hv9))
    | (refine i_brF (by decide) ?_)
    | (refine i_brT (by decide) ?_)
    | (refine ⟨fun hc => ?_, fun hc => ?_⟩ <;> (try simp (disch := omega) only [ab_tI, ab_c0, wd_ix12, wd_ix8, wd_ix10, wd_up_self, wd_up_eq, wd_up_ne, Int.toNat_natCast, Int.toNat_of_nonneg, not_true_eq_false, not_false_eq_true, Option.some.injEq, wd_ix10p, wd_ix10n, m_shift_ne] at hc) <;> first | (exfalso; omega) | skip)
    | (apply i_cv; (focus (exact rfl)))
    | (apply w_balM; (focus (exact (by first | exact ⟨by decide, by decide⟩ | ((try simp (disch := omega) only [ab_tI, ab_c0, wd_ix12, wd_ix8, wd_ix10, wd_up_self, wd_up_eq, wd_up_ne, Int.toNat_natCast, Int.toNat_of_nonneg, not_true_eq_false, not_false_eq_true, Option.some.injEq, wd_ix10p, wd_ix10n, m_shift_ne, wd_l103, wd_l104, wd_l105, wd_l106, wd_l107, wd_l108, wd_l109, wd_l110, wd_l111, wd_l112, wd_l113, wd_l114, wd_l115, wd_l116, wd_l117, wd_l118, wd_l119, wd_l120, wd_l121, wd_l122, wd_l123, wd_l124]); omega)))); (intro v9 hv9; (try simp (disch := omega) only [ab_tI, ab_c0, wd_ix12, wd_ix8, wd_ix10, wd_up_self, wd_up_eq, wd_up_ne, Int.toNat_natCast, Int.toNat_of_nonneg, not_true_eq_false, not_false_eq_true, Option.some.injEq, wd_ix10p, wd_ix10n, m_shift_ne] at hv9); subst hv9))
    | (apply w_basM; (focus (exact (by first | exact ⟨by decide, by decide⟩ | ((try simp (disch := omega) only [ab_tI, ab_c0, wd_ix12, wd_ix8, wd_ix10, wd_up_self, wd_up_eq, wd_up_ne, Int.toNat_natCast, Int.toNat_of_nonneg, not_true_eq_false, not_false_eq_true, Option.some.injEq, wd_ix10p, wd_ix10n, m_shift_ne, wd_l103, wd_l104, wd_l105, wd_l106, wd_l107, wd_l108, wd_l109, wd_l110, wd_l111, wd_l112, wd_l113, wd_l114, wd_l115, wd_l116, wd_l117, wd_l118, wd_l119, wd_l120, wd_l121, wd_l122, wd_l123, wd_l124]); omega)))); (focus (first | exact Or.inl rfl | exact Or.inr rfl)); (intro v9 hv9; (try simp (disch := omega) only [ab_tI, ab_c0, wd_ix12, wd_ix8, wd_ix10, wd_up_self, wd_up_eq, wd_up_ne, Int.toNat_natCast, Int.toNat_of_nonneg, not_true_eq_false, not_false_eq_true, Option.some.injEq, wd_ix10p, wd_ix10n, m_shift_ne] at hv9); subst hv9))
    | (refine And.intro trivial ?_)
    | (refine And.intro (Or.inl rfl) ?_)
    | (refine And.intro (Or.inr rfl) ?_)
    | (refine And.intro (by ((try simp (disch := omega) only [ab_tI, ab_c0, wd_ix12, wd_ix8, wd_ix10, wd_up_self, wd_up_eq, wd_up_ne, Int.toNat_natCast, Int.toNat_of_nonneg, not_true_eq_false, not_false_eq_true, Option.some.injEq, wd_ix10p, wd_ix10n, m_shift_ne]); omega)) ?_)
    | fail)
    exact hQ
  | n + 1, q, hq => by
    have ih := x_becomes_l hd h0 h1 hQ n (q + 1) (by omega)
    refine wd_rnC rfl ?_
    intro C9 X9 hC9 hX9
    repeat' ((conv => whnf); first
    | (refine hX9 13 _ _ _ (ab_WB_sub ?_ ih); (repeat (first | exact ab_sub0 | (refine ab_sub1 ?_ ?_; (focus ((repeat (refine ab_skip rfl ?_)); first | exact List.mem_cons_self))))))
    | (intro v9 hv9; (try simp (disch := omega) only [ab_tI, ab_c0, wd_ix12, wd_ix8, wd_ix10, wd_up_self, wd_up_eq, wd_up_ne, Int.toNat_natCast, Int.toNat_of_nonneg, not_true_eq_false, not_false_eq_true, Option.some.injEq, wd_ix10p, wd_ix10n, m_shift_ne] at hv9); subst hv9)
    | (apply i_get; (focus (exact rfl)); (focus (exact rfl)))
    | (refine hX9 _ _ _ _ (wd_rnC rfl ?_); clear hC9 hX9 X9 C9; intro C9 X9 hC9 hX9)
    | (apply w_ialM; (focus (exact rfl)); (focus (exact (by first | exact ⟨by decide, by decide⟩ | ((try simp (disch := omega) only [ab_tI, ab_c0, wd_ix12, wd_ix8, wd_ix10, wd_up_self, wd_up_eq, wd_up_ne, Int.toNat_natCast, Int.toNat_of_nonneg, not_true_eq_false, not_false_eq_true, Option.some.injEq, wd_ix10p, wd_ix10n, m_shift_ne, wd_l103, wd_l104, wd_l105, wd_l106, wd_l107, wd_l108, wd_l109, wd_l110, wd_l111, wd_l112, wd_l113, wd_l114, wd_l115, wd_l116, wd_l117, wd_l118, wd_l119, wd_l120, wd_l121, wd_l122, wd_l123, wd_l124]); omega)))); (intro v9 hv9; (try simp (disch := omega) only [ab_tI, ab_c0, wd_ix12, wd_ix8, wd_ix10, wd_up_self, wd_up_eq, wd_up_ne, Int.toNat_natCast, Int.toNat_of_nonneg, not_true_eq_false, not_false_eq_true, Option.some.injEq, wd_ix10p, wd_ix10n, m_shift_ne] at hv9); subst hv9))
    | (apply w_putM; (focus (exact rfl)); (focus (first | exact trivial | exact Or.inl rfl | exact Or.inr rfl)); (focus (exact rfl)))
    | (apply w_iasM; (focus (exact rfl)); (focus (exact (by first | exact ⟨by decide, by decide⟩ | ((try simp (disch := omega) only [ab_tI, ab_c0, wd_ix12, wd_ix8, wd_ix10, wd_up_self, wd_up_eq, wd_up_ne, Int.toNat_natCast, Int.toNat_of_nonneg, not_true_eq_false, not_false_eq_true, Option.some.injEq, wd_ix10p, wd_ix10n, m_shift_ne, wd_l103, wd_l104, wd_l105, wd_l106, wd_l107, wd_l108, wd_l109, wd_l110, wd_l111, wd_l112, wd_l113, wd_l114, wd_l115, wd_l116, wd_l117, wd_l118, wd_l119, wd_l120, wd_l121, wd_l122, wd_l123, wd_l124]); omega)))); (intro v9 hv9; (try simp (disch := omega) only [ab_tI, ab_c0, wd_ix12, wd_ix8, wd_ix10, wd_up_self, wd_up_eq, wd_up_ne, Int.toNat_natCast, Int.toNat_of_nonneg, not_true_eq_false, not_false_eq_true, Option.some.injEq, wd_ix10p, wd_ix10n, m_shift_ne] at hv9); subst hv9))
    | (refine i_brF (by decide) ?_)
    | (refine i_brT (by decide) ?_)
    | (refine ⟨fun hc => ?_, fun hc => ?_⟩ <;> (try simp (disch := omega) only [ab_tI, ab_c0, wd_ix12, wd_ix8, wd_ix10, wd_up_self, wd_up_eq, wd_up_ne, Int.toNat_natCast, Int.toNat_of_nonneg, not_true_eq_false, not_false_eq_true, Option.some.injEq, wd_ix10p, wd_ix10n, m_shift_ne] at hc) <;> first | (exfalso; omega) | skip)
    | (apply i_cv; (focus (exact rfl)))
    | (apply w_balM; (focus (exact (by first | exact ⟨by decide, by decide⟩ | ((try simp (disch := omega) only [ab_tI, ab_c0, wd_ix12, wd_ix8, wd_ix10, wd_up_self, wd_up_eq, wd_up_ne, Int.toNat_natCast, Int.toNat_of_nonneg, not_true_eq_false, not_false_eq_true, Option.some.injEq, wd_ix10p, wd_ix10n, m_shift_ne, wd_l103, wd_l104, wd_l105, wd_l106, wd_l107, wd_l108, wd_l109, wd_l110, wd_l111, wd_l112, wd_l113, wd_l114, wd_l115, wd_l116, wd_l117, wd_l118, wd_l119, wd_l120, wd_l121, wd_l122, wd_l123, wd_l124]); omega)))); (intro v9 hv9; (try simp (disch := omega) only [ab_tI, ab_c0, wd_ix12, wd_ix8, wd_ix10, wd_up_self, wd_up_eq, wd_up_ne, Int.toNat_natCast, Int.toNat_of_nonneg, not_true_eq_false, not_false_eq_true, Option.some.injEq, wd_ix10p, wd_ix10n, m_shift_ne] at hv9); subst hv9))
    | (apply w_basM; (focus (exact (by first | exact ⟨by decide, by decide⟩ | ((try simp (disch := omega) only [ab_tI, ab_c0, wd_ix12, wd_ix8, wd_ix10, wd_up_self, wd_up_eq, wd_up_ne, Int.toNat_natCast, Int.toNat_of_nonneg, not_true_eq_false, not_false_eq_true, Option.some.injEq, wd_ix10p, wd_ix10n, m_shift_ne, wd_l103, wd_l104, wd_l105, wd_l106, wd_l107, wd_l108, wd_l109, wd_l110, wd_l111, wd_l112, wd_l113, wd_l114, wd_l115, wd_l116, wd_l117, wd_l118, wd_l119, wd_l120, wd_l121, wd_l122, wd_l123, wd_l124]); omega)))); (focus (first | exact Or.inl rfl | exact Or.inr rfl)); (intro v9 hv9; (try simp (disch := omega) only [ab_tI, ab_c0, wd_ix12, wd_ix8, wd_ix10, wd_up_self, wd_up_eq, wd_up_ne, Int.toNat_natCast, Int.toNat_of_nonneg, not_true_eq_false, not_false_eq_true, Option.some.injEq, wd_ix10p, wd_ix10n, m_shift_ne] at hv9); subst hv9))
    | (refine And.intro trivial ?_)
    | (refine And.intro (Or.inl rfl) ?_)
    | (refine And.intro (Or.inr rfl) ?_)
    | (refine And.intro (by ((try simp (disch := omega) only [ab_tI, ab_c0, wd_ix12, wd_ix8, wd_ix10, wd_up_self, wd_up_eq, wd_up_ne, Int.toNat_natCast, Int.toNat_of_nonneg, not_true_eq_false, not_false_eq_true, Option.some.injEq, wd_ix10p, wd_ix10n, m_shift_ne]); omega)) ?_)
    | fail)

set_option maxHeartbeats 4000000 in
set_option maxRecDepth 100000 in
theorem x_becomes {d : Nat} (hd : 1 ≤ d) {I : wd_I} {P : wd_P} {M : wd_I} {g : Nat → ab_C} {k z c : Nat} {s t : Int32} {Q : ab_Q} (h0 : 0 ≤ s.toInt) (h1 : s.toInt ≤ 11) (hpm : M 112 s.toInt.toNat = ab_ii (c : Int)) (hc10 : c ≤ 10) (hQ : Q none (wd I P (m_becomes M s.toInt.toNat t c) g, k, z)) : ab_CT d 141 [wd_v 102, .inl s, .inl t] (wd I P M g, k, z) Q := by
  unfold m_becomes at hQ
  by_cases e : c = 10
  · rw [if_pos e] at hQ
    subst e
    have hl := x_becomes_l (d := d) hd h0 h1 hQ 9 0 (by omega)
    refine wd_inC rfl (by omega) rfl ?_
    intro C9 X9 hC9 hX9
    (have chk9 := @hpm; clear chk9); repeat' ((conv => whnf); first
    | (refine hX9 13 _ _ _ (ab_WB_sub ?_ hl); (repeat (first | exact ab_sub0 | (refine ab_sub1 ?_ ?_; (focus ((repeat (refine ab_skip rfl ?_)); first | exact List.mem_cons_self))))))
    | (intro v9 hv9; (try simp (disch := omega) only [ab_tI, ab_c0, wd_ix12, wd_ix8, wd_ix10, wd_up_self, wd_up_eq, wd_up_ne, Int.toNat_natCast, Int.toNat_of_nonneg, not_true_eq_false, not_false_eq_true, Option.some.injEq, hpm, wd_ix10p, m_shift_ne] at hv9); subst hv9)
    | (apply i_get; (focus (exact rfl)); (focus (exact rfl)))
    | (refine hX9 _ _ _ _ (wd_rnC rfl ?_); clear hC9 hX9 X9 C9; intro C9 X9 hC9 hX9)
    | (apply w_ialM; (focus (exact rfl)); (focus (exact (by first | exact ⟨by decide, by decide⟩ | ((try simp (disch := omega) only [ab_tI, ab_c0, wd_ix12, wd_ix8, wd_ix10, wd_up_self, wd_up_eq, wd_up_ne, Int.toNat_natCast, Int.toNat_of_nonneg, not_true_eq_false, not_false_eq_true, Option.some.injEq, hpm, wd_ix10p, m_shift_ne, wd_l103, wd_l104, wd_l105, wd_l106, wd_l107, wd_l108, wd_l109, wd_l110, wd_l111, wd_l112, wd_l113, wd_l114, wd_l115, wd_l116, wd_l117, wd_l118, wd_l119, wd_l120, wd_l121, wd_l122, wd_l123, wd_l124]); omega)))); (intro v9 hv9; (try simp (disch := omega) only [ab_tI, ab_c0, wd_ix12, wd_ix8, wd_ix10, wd_up_self, wd_up_eq, wd_up_ne, Int.toNat_natCast, Int.toNat_of_nonneg, not_true_eq_false, not_false_eq_true, Option.some.injEq, hpm, wd_ix10p, m_shift_ne] at hv9); subst hv9))
    | (apply w_putM; (focus (exact rfl)); (focus (first | exact trivial | exact Or.inl rfl | exact Or.inr rfl)); (focus (exact rfl)))
    | (apply w_iasM; (focus (exact rfl)); (focus (exact (by first | exact ⟨by decide, by decide⟩ | ((try simp (disch := omega) only [ab_tI, ab_c0, wd_ix12, wd_ix8, wd_ix10, wd_up_self, wd_up_eq, wd_up_ne, Int.toNat_natCast, Int.toNat_of_nonneg, not_true_eq_false, not_false_eq_true, Option.some.injEq, hpm, wd_ix10p, m_shift_ne, wd_l103, wd_l104, wd_l105, wd_l106, wd_l107, wd_l108, wd_l109, wd_l110, wd_l111, wd_l112, wd_l113, wd_l114, wd_l115, wd_l116, wd_l117, wd_l118, wd_l119, wd_l120, wd_l121, wd_l122, wd_l123, wd_l124]); omega)))); (intro v9 hv9; (try simp (disch := omega) only [ab_tI, ab_c0, wd_ix12, wd_ix8, wd_ix10, wd_up_self, wd_up_eq, wd_up_ne, Int.toNat_natCast, Int.toNat_of_nonneg, not_true_eq_false, not_false_eq_true, Option.some.injEq, hpm, wd_ix10p, m_shift_ne] at hv9); subst hv9))
    | (refine i_brF (by decide) ?_)
    | (refine i_brT (by decide) ?_)
    | (refine ⟨fun hc => ?_, fun hc => ?_⟩ <;> (try simp (disch := omega) only [ab_tI, ab_c0, wd_ix12, wd_ix8, wd_ix10, wd_up_self, wd_up_eq, wd_up_ne, Int.toNat_natCast, Int.toNat_of_nonneg, not_true_eq_false, not_false_eq_true, Option.some.injEq, hpm, wd_ix10p, m_shift_ne] at hc) <;> first | (exfalso; omega) | skip)
    | (apply i_cv; (focus (exact rfl)))
    | (apply w_balM; (focus (exact (by first | exact ⟨by decide, by decide⟩ | ((try simp (disch := omega) only [ab_tI, ab_c0, wd_ix12, wd_ix8, wd_ix10, wd_up_self, wd_up_eq, wd_up_ne, Int.toNat_natCast, Int.toNat_of_nonneg, not_true_eq_false, not_false_eq_true, Option.some.injEq, hpm, wd_ix10p, m_shift_ne, wd_l103, wd_l104, wd_l105, wd_l106, wd_l107, wd_l108, wd_l109, wd_l110, wd_l111, wd_l112, wd_l113, wd_l114, wd_l115, wd_l116, wd_l117, wd_l118, wd_l119, wd_l120, wd_l121, wd_l122, wd_l123, wd_l124]); omega)))); (intro v9 hv9; (try simp (disch := omega) only [ab_tI, ab_c0, wd_ix12, wd_ix8, wd_ix10, wd_up_self, wd_up_eq, wd_up_ne, Int.toNat_natCast, Int.toNat_of_nonneg, not_true_eq_false, not_false_eq_true, Option.some.injEq, hpm, wd_ix10p, m_shift_ne] at hv9); subst hv9))
    | (apply w_basM; (focus (exact (by first | exact ⟨by decide, by decide⟩ | ((try simp (disch := omega) only [ab_tI, ab_c0, wd_ix12, wd_ix8, wd_ix10, wd_up_self, wd_up_eq, wd_up_ne, Int.toNat_natCast, Int.toNat_of_nonneg, not_true_eq_false, not_false_eq_true, Option.some.injEq, hpm, wd_ix10p, m_shift_ne, wd_l103, wd_l104, wd_l105, wd_l106, wd_l107, wd_l108, wd_l109, wd_l110, wd_l111, wd_l112, wd_l113, wd_l114, wd_l115, wd_l116, wd_l117, wd_l118, wd_l119, wd_l120, wd_l121, wd_l122, wd_l123, wd_l124]); omega)))); (focus (first | exact Or.inl rfl | exact Or.inr rfl)); (intro v9 hv9; (try simp (disch := omega) only [ab_tI, ab_c0, wd_ix12, wd_ix8, wd_ix10, wd_up_self, wd_up_eq, wd_up_ne, Int.toNat_natCast, Int.toNat_of_nonneg, not_true_eq_false, not_false_eq_true, Option.some.injEq, hpm, wd_ix10p, m_shift_ne] at hv9); subst hv9))
    | (refine And.intro trivial ?_)
    | (refine And.intro (Or.inl rfl) ?_)
    | (refine And.intro (Or.inr rfl) ?_)
    | (refine And.intro (by ((try simp (disch := omega) only [ab_tI, ab_c0, wd_ix12, wd_ix8, wd_ix10, wd_up_self, wd_up_eq, wd_up_ne, Int.toNat_natCast, Int.toNat_of_nonneg, not_true_eq_false, not_false_eq_true, Option.some.injEq, hpm, wd_ix10p, m_shift_ne]); omega)) ?_)
    | fail)
  · rw [if_neg e] at hQ
    refine wd_inC rfl (by omega) rfl ?_
    intro C9 X9 hC9 hX9
    (have chk9 := @hpm; clear chk9); repeat' ((conv => whnf); first
    | (intro v9 hv9; (try simp (disch := omega) only [ab_tI, ab_c0, wd_ix12, wd_ix8, wd_ix10, wd_up_self, wd_up_eq, wd_up_ne, Int.toNat_natCast, Int.toNat_of_nonneg, not_true_eq_false, not_false_eq_true, Option.some.injEq, hpm, wd_ix10p, m_shift_ne] at hv9); subst hv9)
    | (apply i_get; (focus (exact rfl)); (focus (exact rfl)))
    | (refine hX9 _ _ _ _ (wd_rnC rfl ?_); clear hC9 hX9 X9 C9; intro C9 X9 hC9 hX9)
    | (apply w_ialM; (focus (exact rfl)); (focus (exact (by first | exact ⟨by decide, by decide⟩ | ((try simp (disch := omega) only [ab_tI, ab_c0, wd_ix12, wd_ix8, wd_ix10, wd_up_self, wd_up_eq, wd_up_ne, Int.toNat_natCast, Int.toNat_of_nonneg, not_true_eq_false, not_false_eq_true, Option.some.injEq, hpm, wd_ix10p, m_shift_ne, wd_l103, wd_l104, wd_l105, wd_l106, wd_l107, wd_l108, wd_l109, wd_l110, wd_l111, wd_l112, wd_l113, wd_l114, wd_l115, wd_l116, wd_l117, wd_l118, wd_l119, wd_l120, wd_l121, wd_l122, wd_l123, wd_l124]); omega)))); (intro v9 hv9; (try simp (disch := omega) only [ab_tI, ab_c0, wd_ix12, wd_ix8, wd_ix10, wd_up_self, wd_up_eq, wd_up_ne, Int.toNat_natCast, Int.toNat_of_nonneg, not_true_eq_false, not_false_eq_true, Option.some.injEq, hpm, wd_ix10p, m_shift_ne] at hv9); subst hv9))
    | (apply w_putM; (focus (exact rfl)); (focus (first | exact trivial | exact Or.inl rfl | exact Or.inr rfl)); (focus (exact rfl)))
    | (apply w_iasM; (focus (exact rfl)); (focus (exact (by first | exact ⟨by decide, by decide⟩ | ((try simp (disch := omega) only [ab_tI, ab_c0, wd_ix12, wd_ix8, wd_ix10, wd_up_self, wd_up_eq, wd_up_ne, Int.toNat_natCast, Int.toNat_of_nonneg, not_true_eq_false, not_false_eq_true, Option.some.injEq, hpm, wd_ix10p, m_shift_ne, wd_l103, wd_l104, wd_l105, wd_l106, wd_l107, wd_l108, wd_l109, wd_l110, wd_l111, wd_l112, wd_l113, wd_l114, wd_l115, wd_l116, wd_l117, wd_l118, wd_l119, wd_l120, wd_l121, wd_l122, wd_l123, wd_l124]); omega)))); (intro v9 hv9; (try simp (disch := omega) only [ab_tI, ab_c0, wd_ix12, wd_ix8, wd_ix10, wd_up_self, wd_up_eq, wd_up_ne, Int.toNat_natCast, Int.toNat_of_nonneg, not_true_eq_false, not_false_eq_true, Option.some.injEq, hpm, wd_ix10p, m_shift_ne] at hv9); subst hv9))
    | (refine i_brF (by decide) ?_)
    | (refine i_brT (by decide) ?_)
    | (refine ⟨fun hc => ?_, fun hc => ?_⟩ <;> (try simp (disch := omega) only [ab_tI, ab_c0, wd_ix12, wd_ix8, wd_ix10, wd_up_self, wd_up_eq, wd_up_ne, Int.toNat_natCast, Int.toNat_of_nonneg, not_true_eq_false, not_false_eq_true, Option.some.injEq, hpm, wd_ix10p, m_shift_ne] at hc) <;> first | (exfalso; omega) | skip)
    | (apply i_cv; (focus (exact rfl)))
    | (apply w_balM; (focus (exact (by first | exact ⟨by decide, by decide⟩ | ((try simp (disch := omega) only [ab_tI, ab_c0, wd_ix12, wd_ix8, wd_ix10, wd_up_self, wd_up_eq, wd_up_ne, Int.toNat_natCast, Int.toNat_of_nonneg, not_true_eq_false, not_false_eq_true, Option.some.injEq, hpm, wd_ix10p, m_shift_ne, wd_l103, wd_l104, wd_l105, wd_l106, wd_l107, wd_l108, wd_l109, wd_l110, wd_l111, wd_l112, wd_l113, wd_l114, wd_l115, wd_l116, wd_l117, wd_l118, wd_l119, wd_l120, wd_l121, wd_l122, wd_l123, wd_l124]); omega)))); (intro v9 hv9; (try simp (disch := omega) only [ab_tI, ab_c0, wd_ix12, wd_ix8, wd_ix10, wd_up_self, wd_up_eq, wd_up_ne, Int.toNat_natCast, Int.toNat_of_nonneg, not_true_eq_false, not_false_eq_true, Option.some.injEq, hpm, wd_ix10p, m_shift_ne] at hv9); subst hv9))
    | (apply w_basM; (focus (exact (by first | exact ⟨by decide, by decide⟩ | ((try simp (disch := omega) only [ab_tI, ab_c0, wd_ix12, wd_ix8, wd_ix10, wd_up_self, wd_up_eq, wd_up_ne, Int.toNat_natCast, Int.toNat_of_nonneg, not_true_eq_false, not_false_eq_true, Option.some.injEq, hpm, wd_ix10p, m_shift_ne, wd_l103, wd_l104, wd_l105, wd_l106, wd_l107, wd_l108, wd_l109, wd_l110, wd_l111, wd_l112, wd_l113, wd_l114, wd_l115, wd_l116, wd_l117, wd_l118, wd_l119, wd_l120, wd_l121, wd_l122, wd_l123, wd_l124]); omega)))); (focus (first | exact Or.inl rfl | exact Or.inr rfl)); (intro v9 hv9; (try simp (disch := omega) only [ab_tI, ab_c0, wd_ix12, wd_ix8, wd_ix10, wd_up_self, wd_up_eq, wd_up_ne, Int.toNat_natCast, Int.toNat_of_nonneg, not_true_eq_false, not_false_eq_true, Option.some.injEq, hpm, wd_ix10p, m_shift_ne] at hv9); subst hv9))
    | (refine And.intro trivial ?_)
    | (refine And.intro (Or.inl rfl) ?_)
    | (refine And.intro (Or.inr rfl) ?_)
    | (refine And.intro (by ((try simp (disch := omega) only [ab_tI, ab_c0, wd_ix12, wd_ix8, wd_ix10, wd_up_self, wd_up_eq, wd_up_ne, Int.toNat_natCast, Int.toNat_of_nonneg, not_true_eq_false, not_false_eq_true, Option.some.injEq, hpm, wd_ix10p, m_shift_ne]); omega)) ?_)
    | fail)
    exact hQ

def m_byte (w : Int32) (j : Nat) : Int32 := (w >>> (ab_ii (8 * (j : Int)) &&& 31)) &&& ab_ii 255
def m_fed (M : wd_I) (w : Int32) : Nat → Nat → wd_I
  | _, 0 => M
  | n, j + 1 => wd_up (wd_up (m_fed M w n j) 120 (n + j) (m_byte w j)) 102 22 (ab_ii ((n : Int) + (j : Int) + 1))
theorem m_fed_n {M : wd_I} {w : Int32} {n : Nat} (hn : M 102 22 = ab_ii (n : Int)) : ∀ j, m_fed M w n j 102 22 = ab_ii ((n : Int) + (j : Int))
  | 0 => by
    show M 102 22 = _
    rw [hn]
    congr 1
  | j + 1 => by
    show wd_up _ 102 22 _ 102 22 = _
    rw [wd_up_self]
    congr 1
theorem wd_ixn {a b : Nat} : ((a : Int) + (b : Int)).toNat = a + b := by omega

set_option maxHeartbeats 4000000 in
set_option maxRecDepth 100000 in
theorem x_feed_l {d : Nat} (hd : 2 ≤ d) {I : wd_I} {P : wd_P} {M : wd_I} {g : Nat → ab_C} {k z c n : Nat} {w : Int32} {Q : ab_Q} (hn : M 102 22 = ab_ii (n : Int)) (hnc : n + c ≤ 100) (hQ : Q (some (.inl (ab_ii ((n : Int) + (c : Int))))) (wd I P (m_fed M w n c) g, k, z)) : ∀ r j : Nat, j + r = c → ab_WB d 142 Q 28 [(0, wd_v 102), (1, .inl (ab_ii (c : Int))), (2, .inl w), (3, .inl (ab_ii (j : Int)))] [] (wd I P (m_fed M w n j) g, k, z)
  | 0, j, hj => by
    have e : j = c := by omega
    subst e
    refine wd_rnC rfl ?_
    intro C9 X9 hC9 hX9
    repeat' ((conv => whnf); first
    | (intro v9 hv9; (try simp (disch := omega) only [ab_tI, ab_c0, wd_ix12, wd_ix8, wd_ix10, wd_up_self, wd_up_eq, wd_up_ne, Int.toNat_natCast, Int.toNat_of_nonneg, not_true_eq_false, not_false_eq_true, Option.some.injEq, m_fed_n hn, wd_ixn] at hv9); subst hv9)
    | (apply i_get; (focus (exact rfl)); (focus (exact rfl)))
    | (refine hX9 _ _ _ _ (wd_rnC rfl ?_); clear hC9 hX9 X9 C9; intro C9 X9 hC9 hX9)
    | (apply w_ialM; (focus (exact rfl)); (focus (exact (by first | exact ⟨by decide, by decide⟩ | ((try simp (disch := omega) only [ab_tI, ab_c0, wd_ix12, wd_ix8, wd_ix10, wd_up_self, wd_up_eq, wd_up_ne, Int.toNat_natCast, Int.toNat_of_nonneg, not_true_eq_false, not_false_eq_true, Option.some.injEq, m_fed_n hn, wd_ixn, wd_l103, wd_l104, wd_l105, wd_l106, wd_l107, wd_l108, wd_l109, wd_l110, wd_l111, wd_l112, wd_l113, wd_l114, wd_l115, wd_l116, wd_l117, wd_l118, wd_l119, wd_l120, wd_l121, wd_l122, wd_l123, wd_l124]); omega)))); (intro v9 hv9; (try simp (disch := omega) only [ab_tI, ab_c0, wd_ix12, wd_ix8, wd_ix10, wd_up_self, wd_up_eq, wd_up_ne, Int.toNat_natCast, Int.toNat_of_nonneg, not_true_eq_false, not_false_eq_true, Option.some.injEq, m_fed_n hn, wd_ixn] at hv9); subst hv9))
    | (apply w_putM; (focus (exact rfl)); (focus (first | exact trivial | exact Or.inl rfl | exact Or.inr rfl)); (focus (exact rfl)))
    | (apply w_iasM; (focus (exact rfl)); (focus (exact (by first | exact ⟨by decide, by decide⟩ | ((try simp (disch := omega) only [ab_tI, ab_c0, wd_ix12, wd_ix8, wd_ix10, wd_up_self, wd_up_eq, wd_up_ne, Int.toNat_natCast, Int.toNat_of_nonneg, not_true_eq_false, not_false_eq_true, Option.some.injEq, m_fed_n hn, wd_ixn, wd_l103, wd_l104, wd_l105, wd_l106, wd_l107, wd_l108, wd_l109, wd_l110, wd_l111, wd_l112, wd_l113, wd_l114, wd_l115, wd_l116, wd_l117, wd_l118, wd_l119, wd_l120, wd_l121, wd_l122, wd_l123, wd_l124]); omega)))); (intro v9 hv9; (try simp (disch := omega) only [ab_tI, ab_c0, wd_ix12, wd_ix8, wd_ix10, wd_up_self, wd_up_eq, wd_up_ne, Int.toNat_natCast, Int.toNat_of_nonneg, not_true_eq_false, not_false_eq_true, Option.some.injEq, m_fed_n hn, wd_ixn] at hv9); subst hv9))
    | (refine i_brF (by decide) ?_)
    | (refine i_brT (by decide) ?_)
    | (refine ⟨fun hc => ?_, fun hc => ?_⟩ <;> (try simp (disch := omega) only [ab_tI, ab_c0, wd_ix12, wd_ix8, wd_ix10, wd_up_self, wd_up_eq, wd_up_ne, Int.toNat_natCast, Int.toNat_of_nonneg, not_true_eq_false, not_false_eq_true, Option.some.injEq, m_fed_n hn, wd_ixn] at hc) <;> first | (exfalso; omega) | skip)
    | (apply i_cv; (focus (exact rfl)))
    | (apply w_balM; (focus (exact (by first | exact ⟨by decide, by decide⟩ | ((try simp (disch := omega) only [ab_tI, ab_c0, wd_ix12, wd_ix8, wd_ix10, wd_up_self, wd_up_eq, wd_up_ne, Int.toNat_natCast, Int.toNat_of_nonneg, not_true_eq_false, not_false_eq_true, Option.some.injEq, m_fed_n hn, wd_ixn, wd_l103, wd_l104, wd_l105, wd_l106, wd_l107, wd_l108, wd_l109, wd_l110, wd_l111, wd_l112, wd_l113, wd_l114, wd_l115, wd_l116, wd_l117, wd_l118, wd_l119, wd_l120, wd_l121, wd_l122, wd_l123, wd_l124]); omega)))); (intro v9 hv9; (try simp (disch := omega) only [ab_tI, ab_c0, wd_ix12, wd_ix8, wd_ix10, wd_up_self, wd_up_eq, wd_up_ne, Int.toNat_natCast, Int.toNat_of_nonneg, not_true_eq_false, not_false_eq_true, Option.some.injEq, m_fed_n hn, wd_ixn] at hv9); subst hv9))
    | (apply w_basM; (focus (exact (by first | exact ⟨by decide, by decide⟩ | ((try simp (disch := omega) only [ab_tI, ab_c0, wd_ix12, wd_ix8, wd_ix10, wd_up_self, wd_up_eq, wd_up_ne, Int.toNat_natCast, Int.toNat_of_nonneg, not_true_eq_false, not_false_eq_true, Option.some.injEq, m_fed_n hn, wd_ixn, wd_l103, wd_l104, wd_l105, wd_l106, wd_l107, wd_l108, wd_l109, wd_l110, wd_l111, wd_l112, wd_l113, wd_l114, wd_l115, wd_l116, wd_l117, wd_l118, wd_l119, wd_l120, wd_l121, wd_l122, wd_l123, wd_l124]); omega)))); (focus (first | exact Or.inl rfl | exact Or.inr rfl)); (intro v9 hv9; (try simp (disch := omega) only [ab_tI, ab_c0, wd_ix12, wd_ix8, wd_ix10, wd_up_self, wd_up_eq, wd_up_ne, Int.toNat_natCast, Int.toNat_of_nonneg, not_true_eq_false, not_false_eq_true, Option.some.injEq, m_fed_n hn, wd_ixn] at hv9); subst hv9))
    | (refine And.intro trivial ?_)
    | (refine And.intro (Or.inl rfl) ?_)
    | (refine And.intro (Or.inr rfl) ?_)
    | (refine And.intro (by ((try simp (disch := omega) only [ab_tI, ab_c0, wd_ix12, wd_ix8, wd_ix10, wd_up_self, wd_up_eq, wd_up_ne, Int.toNat_natCast, Int.toNat_of_nonneg, not_true_eq_false, not_false_eq_true, Option.some.injEq, m_fed_n hn, wd_ixn]); omega)) ?_)
    | fail)
    rw [m_fed_n hn]
    exact hQ
  | r + 1, j, hj => by
    have ih := x_feed_l hd hn hnc hQ r (j + 1) (by omega)
    refine wd_rnC rfl ?_
    intro C9 X9 hC9 hX9
    repeat' ((conv => whnf); first
    | (refine hX9 28 _ _ _ (ab_WB_sub ?_ ih); (repeat (first | exact ab_sub0 | (refine ab_sub1 ?_ ?_; (focus ((repeat (refine ab_skip rfl ?_)); first | exact List.mem_cons_self))))))
    | (intro v9 hv9; (try simp (disch := omega) only [ab_tI, ab_c0, wd_ix12, wd_ix8, wd_ix10, wd_up_self, wd_up_eq, wd_up_ne, Int.toNat_natCast, Int.toNat_of_nonneg, not_true_eq_false, not_false_eq_true, Option.some.injEq, m_fed_n hn, wd_ixn] at hv9); subst hv9)
    | (apply i_get; (focus (exact rfl)); (focus (exact rfl)))
    | (refine hX9 _ _ _ _ (wd_rnC rfl ?_); clear hC9 hX9 X9 C9; intro C9 X9 hC9 hX9)
    | (apply w_ialM; (focus (exact rfl)); (focus (exact (by first | exact ⟨by decide, by decide⟩ | ((try simp (disch := omega) only [ab_tI, ab_c0, wd_ix12, wd_ix8, wd_ix10, wd_up_self, wd_up_eq, wd_up_ne, Int.toNat_natCast, Int.toNat_of_nonneg, not_true_eq_false, not_false_eq_true, Option.some.injEq, m_fed_n hn, wd_ixn, wd_l103, wd_l104, wd_l105, wd_l106, wd_l107, wd_l108, wd_l109, wd_l110, wd_l111, wd_l112, wd_l113, wd_l114, wd_l115, wd_l116, wd_l117, wd_l118, wd_l119, wd_l120, wd_l121, wd_l122, wd_l123, wd_l124]); omega)))); (intro v9 hv9; (try simp (disch := omega) only [ab_tI, ab_c0, wd_ix12, wd_ix8, wd_ix10, wd_up_self, wd_up_eq, wd_up_ne, Int.toNat_natCast, Int.toNat_of_nonneg, not_true_eq_false, not_false_eq_true, Option.some.injEq, m_fed_n hn, wd_ixn] at hv9); subst hv9))
    | (apply w_putM; (focus (exact rfl)); (focus (first | exact trivial | exact Or.inl rfl | exact Or.inr rfl)); (focus (exact rfl)))
    | (apply w_iasM; (focus (exact rfl)); (focus (exact (by first | exact ⟨by decide, by decide⟩ | ((try simp (disch := omega) only [ab_tI, ab_c0, wd_ix12, wd_ix8, wd_ix10, wd_up_self, wd_up_eq, wd_up_ne, Int.toNat_natCast, Int.toNat_of_nonneg, not_true_eq_false, not_false_eq_true, Option.some.injEq, m_fed_n hn, wd_ixn, wd_l103, wd_l104, wd_l105, wd_l106, wd_l107, wd_l108, wd_l109, wd_l110, wd_l111, wd_l112, wd_l113, wd_l114, wd_l115, wd_l116, wd_l117, wd_l118, wd_l119, wd_l120, wd_l121, wd_l122, wd_l123, wd_l124]); omega)))); (intro v9 hv9; (try simp (disch := omega) only [ab_tI, ab_c0, wd_ix12, wd_ix8, wd_ix10, wd_up_self, wd_up_eq, wd_up_ne, Int.toNat_natCast, Int.toNat_of_nonneg, not_true_eq_false, not_false_eq_true, Option.some.injEq, m_fed_n hn, wd_ixn] at hv9); subst hv9))
    | (refine i_brF (by decide) ?_)
    | (refine i_brT (by decide) ?_)
    | (refine ⟨fun hc => ?_, fun hc => ?_⟩ <;> (try simp (disch := omega) only [ab_tI, ab_c0, wd_ix12, wd_ix8, wd_ix10, wd_up_self, wd_up_eq, wd_up_ne, Int.toNat_natCast, Int.toNat_of_nonneg, not_true_eq_false, not_false_eq_true, Option.some.injEq, m_fed_n hn, wd_ixn] at hc) <;> first | (exfalso; omega) | skip)
    | (apply i_cv; (focus (exact rfl)))
    | (apply w_balM; (focus (exact (by first | exact ⟨by decide, by decide⟩ | ((try simp (disch := omega) only [ab_tI, ab_c0, wd_ix12, wd_ix8, wd_ix10, wd_up_self, wd_up_eq, wd_up_ne, Int.toNat_natCast, Int.toNat_of_nonneg, not_true_eq_false, not_false_eq_true, Option.some.injEq, m_fed_n hn, wd_ixn, wd_l103, wd_l104, wd_l105, wd_l106, wd_l107, wd_l108, wd_l109, wd_l110, wd_l111, wd_l112, wd_l113, wd_l114, wd_l115, wd_l116, wd_l117, wd_l118, wd_l119, wd_l120, wd_l121, wd_l122, wd_l123, wd_l124]); omega)))); (intro v9 hv9; (try simp (disch := omega) only [ab_tI, ab_c0, wd_ix12, wd_ix8, wd_ix10, wd_up_self, wd_up_eq, wd_up_ne, Int.toNat_natCast, Int.toNat_of_nonneg, not_true_eq_false, not_false_eq_true, Option.some.injEq, m_fed_n hn, wd_ixn] at hv9); subst hv9))
    | (apply w_basM; (focus (exact (by first | exact ⟨by decide, by decide⟩ | ((try simp (disch := omega) only [ab_tI, ab_c0, wd_ix12, wd_ix8, wd_ix10, wd_up_self, wd_up_eq, wd_up_ne, Int.toNat_natCast, Int.toNat_of_nonneg, not_true_eq_false, not_false_eq_true, Option.some.injEq, m_fed_n hn, wd_ixn, wd_l103, wd_l104, wd_l105, wd_l106, wd_l107, wd_l108, wd_l109, wd_l110, wd_l111, wd_l112, wd_l113, wd_l114, wd_l115, wd_l116, wd_l117, wd_l118, wd_l119, wd_l120, wd_l121, wd_l122, wd_l123, wd_l124]); omega)))); (focus (first | exact Or.inl rfl | exact Or.inr rfl)); (intro v9 hv9; (try simp (disch := omega) only [ab_tI, ab_c0, wd_ix12, wd_ix8, wd_ix10, wd_up_self, wd_up_eq, wd_up_ne, Int.toNat_natCast, Int.toNat_of_nonneg, not_true_eq_false, not_false_eq_true, Option.some.injEq, m_fed_n hn, wd_ixn] at hv9); subst hv9))
    | (refine And.intro trivial ?_)
    | (refine And.intro (Or.inl rfl) ?_)
    | (refine And.intro (Or.inr rfl) ?_)
    | (refine And.intro (by ((try simp (disch := omega) only [ab_tI, ab_c0, wd_ix12, wd_ix8, wd_ix10, wd_up_self, wd_up_eq, wd_up_ne, Int.toNat_natCast, Int.toNat_of_nonneg, not_true_eq_false, not_false_eq_true, Option.some.injEq, m_fed_n hn, wd_ixn]); omega)) ?_)
    | fail)

set_option maxHeartbeats 4000000 in
set_option maxRecDepth 100000 in
theorem x_feed {d : Nat} (hd : 2 ≤ d) {I : wd_I} {P : wd_P} {M : wd_I} {g : Nat → ab_C} {k z n : Nat} {a w : Int32} {Q : ab_Q} (hn : M 102 22 = ab_ii (n : Int)) (hn1 : n ≤ 100)
    (hb : (a.toInt < 1 ∨ 4 < a.toInt) → Q (some (.inl (ab_ii (-2)))) (wd I P M g, k, z)) (hf : 1 ≤ a.toInt → a.toInt ≤ 4 → 100 < (n : Int) + a.toInt → Q (some (.inl (ab_ii (-4)))) (wd I P M g, k, z)) (hQ : 1 ≤ a.toInt → a.toInt ≤ 4 → (n : Int) + a.toInt ≤ 100 → Q (some (.inl (ab_ii ((n : Int) + a.toInt)))) (wd I P (m_fed M w n a.toInt.toNat) g, k, z)) : ab_CT d 142 [wd_v 102, .inl a, .inl w] (wd I P M g, k, z) Q := by
  by_cases ha : 1 ≤ a.toInt ∧ a.toInt ≤ 4 ∧ (n : Int) + a.toInt ≤ 100
  · have hcv : ((a.toInt.toNat : Nat) : Int) = a.toInt := Int.toNat_of_nonneg (by omega)
    have hav : a = ab_ii ((a.toInt.toNat : Nat) : Int) := by rw [hcv]; exact (ab_ii_toInt a).symm
    have hQ2 := hQ ha.1 ha.2.1 ha.2.2
    rw [← hcv, Int.toNat_natCast] at hQ2
    have hl := x_feed_l (c := a.toInt.toNat) hd hn (by omega) hQ2 a.toInt.toNat 0 (by omega)
    refine wd_inC rfl (by omega) rfl ?_
    intro C9 X9 hC9 hX9
    (have chk9 := @hn; clear chk9); repeat' ((conv => whnf); first
    | (refine hC9 133 _ _ _ (x_in (by omega) (fun hc hc2 => ?_) (fun hc => ?_)) <;> (try simp (disch := omega) only [ab_tI, ab_c0, wd_ix12, wd_ix8, wd_ix10, wd_up_self, wd_up_eq, wd_up_ne, Int.toNat_natCast, Int.toNat_of_nonneg, not_true_eq_false, not_false_eq_true, Option.some.injEq, hn] at hc) <;> (try simp (disch := omega) only [ab_tI, ab_c0, wd_ix12, wd_ix8, wd_ix10, wd_up_self, wd_up_eq, wd_up_ne, Int.toNat_natCast, Int.toNat_of_nonneg, not_true_eq_false, not_false_eq_true, Option.some.injEq, hn] at hc2))
    | (refine hX9 28 _ _ _ (ab_WB_sub ?_ hl); (repeat (first | exact ab_sub0 | (refine ab_sub1 ?_ ?_; (focus ((repeat (refine ab_skip rfl ?_)); first | (rw [← hav]; exact List.mem_cons_self) | exact List.mem_cons_self))))))
    | (intro v9 hv9; (try simp (disch := omega) only [ab_tI, ab_c0, wd_ix12, wd_ix8, wd_ix10, wd_up_self, wd_up_eq, wd_up_ne, Int.toNat_natCast, Int.toNat_of_nonneg, not_true_eq_false, not_false_eq_true, Option.some.injEq, hn] at hv9); subst hv9)
    | (apply i_get; (focus (exact rfl)); (focus (exact rfl)))
    | (refine hX9 _ _ _ _ (wd_rnC rfl ?_); clear hC9 hX9 X9 C9; intro C9 X9 hC9 hX9)
    | (apply w_ialM; (focus (exact rfl)); (focus (exact (by first | exact ⟨by decide, by decide⟩ | ((try simp (disch := omega) only [ab_tI, ab_c0, wd_ix12, wd_ix8, wd_ix10, wd_up_self, wd_up_eq, wd_up_ne, Int.toNat_natCast, Int.toNat_of_nonneg, not_true_eq_false, not_false_eq_true, Option.some.injEq, hn, wd_l103, wd_l104, wd_l105, wd_l106, wd_l107, wd_l108, wd_l109, wd_l110, wd_l111, wd_l112, wd_l113, wd_l114, wd_l115, wd_l116, wd_l117, wd_l118, wd_l119, wd_l120, wd_l121, wd_l122, wd_l123, wd_l124]); omega)))); (intro v9 hv9; (try simp (disch := omega) only [ab_tI, ab_c0, wd_ix12, wd_ix8, wd_ix10, wd_up_self, wd_up_eq, wd_up_ne, Int.toNat_natCast, Int.toNat_of_nonneg, not_true_eq_false, not_false_eq_true, Option.some.injEq, hn] at hv9); subst hv9))
    | (apply w_putM; (focus (exact rfl)); (focus (first | exact trivial | exact Or.inl rfl | exact Or.inr rfl)); (focus (exact rfl)))
    | (apply w_iasM; (focus (exact rfl)); (focus (exact (by first | exact ⟨by decide, by decide⟩ | ((try simp (disch := omega) only [ab_tI, ab_c0, wd_ix12, wd_ix8, wd_ix10, wd_up_self, wd_up_eq, wd_up_ne, Int.toNat_natCast, Int.toNat_of_nonneg, not_true_eq_false, not_false_eq_true, Option.some.injEq, hn, wd_l103, wd_l104, wd_l105, wd_l106, wd_l107, wd_l108, wd_l109, wd_l110, wd_l111, wd_l112, wd_l113, wd_l114, wd_l115, wd_l116, wd_l117, wd_l118, wd_l119, wd_l120, wd_l121, wd_l122, wd_l123, wd_l124]); omega)))); (intro v9 hv9; (try simp (disch := omega) only [ab_tI, ab_c0, wd_ix12, wd_ix8, wd_ix10, wd_up_self, wd_up_eq, wd_up_ne, Int.toNat_natCast, Int.toNat_of_nonneg, not_true_eq_false, not_false_eq_true, Option.some.injEq, hn] at hv9); subst hv9))
    | (refine i_brF (by decide) ?_)
    | (refine i_brT (by decide) ?_)
    | (refine ⟨fun hc => ?_, fun hc => ?_⟩ <;> (try simp (disch := omega) only [ab_tI, ab_c0, wd_ix12, wd_ix8, wd_ix10, wd_up_self, wd_up_eq, wd_up_ne, Int.toNat_natCast, Int.toNat_of_nonneg, not_true_eq_false, not_false_eq_true, Option.some.injEq, hn] at hc) <;> first | (exfalso; omega) | skip)
    | (apply i_cv; (focus (exact rfl)))
    | (apply w_balM; (focus (exact (by first | exact ⟨by decide, by decide⟩ | ((try simp (disch := omega) only [ab_tI, ab_c0, wd_ix12, wd_ix8, wd_ix10, wd_up_self, wd_up_eq, wd_up_ne, Int.toNat_natCast, Int.toNat_of_nonneg, not_true_eq_false, not_false_eq_true, Option.some.injEq, hn, wd_l103, wd_l104, wd_l105, wd_l106, wd_l107, wd_l108, wd_l109, wd_l110, wd_l111, wd_l112, wd_l113, wd_l114, wd_l115, wd_l116, wd_l117, wd_l118, wd_l119, wd_l120, wd_l121, wd_l122, wd_l123, wd_l124]); omega)))); (intro v9 hv9; (try simp (disch := omega) only [ab_tI, ab_c0, wd_ix12, wd_ix8, wd_ix10, wd_up_self, wd_up_eq, wd_up_ne, Int.toNat_natCast, Int.toNat_of_nonneg, not_true_eq_false, not_false_eq_true, Option.some.injEq, hn] at hv9); subst hv9))
    | (apply w_basM; (focus (exact (by first | exact ⟨by decide, by decide⟩ | ((try simp (disch := omega) only [ab_tI, ab_c0, wd_ix12, wd_ix8, wd_ix10, wd_up_self, wd_up_eq, wd_up_ne, Int.toNat_natCast, Int.toNat_of_nonneg, not_true_eq_false, not_false_eq_true, Option.some.injEq, hn, wd_l103, wd_l104, wd_l105, wd_l106, wd_l107, wd_l108, wd_l109, wd_l110, wd_l111, wd_l112, wd_l113, wd_l114, wd_l115, wd_l116, wd_l117, wd_l118, wd_l119, wd_l120, wd_l121, wd_l122, wd_l123, wd_l124]); omega)))); (focus (first | exact Or.inl rfl | exact Or.inr rfl)); (intro v9 hv9; (try simp (disch := omega) only [ab_tI, ab_c0, wd_ix12, wd_ix8, wd_ix10, wd_up_self, wd_up_eq, wd_up_ne, Int.toNat_natCast, Int.toNat_of_nonneg, not_true_eq_false, not_false_eq_true, Option.some.injEq, hn] at hv9); subst hv9))
    | (refine And.intro trivial ?_)
    | (refine And.intro (Or.inl rfl) ?_)
    | (refine And.intro (Or.inr rfl) ?_)
    | (refine And.intro (by ((try simp (disch := omega) only [ab_tI, ab_c0, wd_ix12, wd_ix8, wd_ix10, wd_up_self, wd_up_eq, wd_up_ne, Int.toNat_natCast, Int.toNat_of_nonneg, not_true_eq_false, not_false_eq_true, Option.some.injEq, hn]); omega)) ?_)
    | fail)
    all_goals (exfalso; omega)
  · refine wd_inC rfl (by omega) rfl ?_
    intro C9 X9 hC9 hX9
    (have chk9 := @hn; clear chk9); repeat' ((conv => whnf); first
    | (refine hC9 133 _ _ _ (x_in (by omega) (fun hc hc2 => ?_) (fun hc => ?_)) <;> (try simp (disch := omega) only [ab_tI, ab_c0, wd_ix12, wd_ix8, wd_ix10, wd_up_self, wd_up_eq, wd_up_ne, Int.toNat_natCast, Int.toNat_of_nonneg, not_true_eq_false, not_false_eq_true, Option.some.injEq, hn] at hc) <;> (try simp (disch := omega) only [ab_tI, ab_c0, wd_ix12, wd_ix8, wd_ix10, wd_up_self, wd_up_eq, wd_up_ne, Int.toNat_natCast, Int.toNat_of_nonneg, not_true_eq_false, not_false_eq_true, Option.some.injEq, hn] at hc2))
    | (intro v9 hv9; (try simp (disch := omega) only [ab_tI, ab_c0, wd_ix12, wd_ix8, wd_ix10, wd_up_self, wd_up_eq, wd_up_ne, Int.toNat_natCast, Int.toNat_of_nonneg, not_true_eq_false, not_false_eq_true, Option.some.injEq, hn] at hv9); subst hv9)
    | (apply i_get; (focus (exact rfl)); (focus (exact rfl)))
    | (refine hX9 _ _ _ _ (wd_rnC rfl ?_); clear hC9 hX9 X9 C9; intro C9 X9 hC9 hX9)
    | (apply w_ialM; (focus (exact rfl)); (focus (exact (by first | exact ⟨by decide, by decide⟩ | ((try simp (disch := omega) only [ab_tI, ab_c0, wd_ix12, wd_ix8, wd_ix10, wd_up_self, wd_up_eq, wd_up_ne, Int.toNat_natCast, Int.toNat_of_nonneg, not_true_eq_false, not_false_eq_true, Option.some.injEq, hn, wd_l103, wd_l104, wd_l105, wd_l106, wd_l107, wd_l108, wd_l109, wd_l110, wd_l111, wd_l112, wd_l113, wd_l114, wd_l115, wd_l116, wd_l117, wd_l118, wd_l119, wd_l120, wd_l121, wd_l122, wd_l123, wd_l124]); omega)))); (intro v9 hv9; (try simp (disch := omega) only [ab_tI, ab_c0, wd_ix12, wd_ix8, wd_ix10, wd_up_self, wd_up_eq, wd_up_ne, Int.toNat_natCast, Int.toNat_of_nonneg, not_true_eq_false, not_false_eq_true, Option.some.injEq, hn] at hv9); subst hv9))
    | (apply w_putM; (focus (exact rfl)); (focus (first | exact trivial | exact Or.inl rfl | exact Or.inr rfl)); (focus (exact rfl)))
    | (apply w_iasM; (focus (exact rfl)); (focus (exact (by first | exact ⟨by decide, by decide⟩ | ((try simp (disch := omega) only [ab_tI, ab_c0, wd_ix12, wd_ix8, wd_ix10, wd_up_self, wd_up_eq, wd_up_ne, Int.toNat_natCast, Int.toNat_of_nonneg, not_true_eq_false, not_false_eq_true, Option.some.injEq, hn, wd_l103, wd_l104, wd_l105, wd_l106, wd_l107, wd_l108, wd_l109, wd_l110, wd_l111, wd_l112, wd_l113, wd_l114, wd_l115, wd_l116, wd_l117, wd_l118, wd_l119, wd_l120, wd_l121, wd_l122, wd_l123, wd_l124]); omega)))); (intro v9 hv9; (try simp (disch := omega) only [ab_tI, ab_c0, wd_ix12, wd_ix8, wd_ix10, wd_up_self, wd_up_eq, wd_up_ne, Int.toNat_natCast, Int.toNat_of_nonneg, not_true_eq_false, not_false_eq_true, Option.some.injEq, hn] at hv9); subst hv9))
    | (refine i_brF (by decide) ?_)
    | (refine i_brT (by decide) ?_)
    | (refine ⟨fun hc => ?_, fun hc => ?_⟩ <;> (try simp (disch := omega) only [ab_tI, ab_c0, wd_ix12, wd_ix8, wd_ix10, wd_up_self, wd_up_eq, wd_up_ne, Int.toNat_natCast, Int.toNat_of_nonneg, not_true_eq_false, not_false_eq_true, Option.some.injEq, hn] at hc) <;> first | (exfalso; omega) | skip)
    | (apply i_cv; (focus (exact rfl)))
    | (apply w_balM; (focus (exact (by first | exact ⟨by decide, by decide⟩ | ((try simp (disch := omega) only [ab_tI, ab_c0, wd_ix12, wd_ix8, wd_ix10, wd_up_self, wd_up_eq, wd_up_ne, Int.toNat_natCast, Int.toNat_of_nonneg, not_true_eq_false, not_false_eq_true, Option.some.injEq, hn, wd_l103, wd_l104, wd_l105, wd_l106, wd_l107, wd_l108, wd_l109, wd_l110, wd_l111, wd_l112, wd_l113, wd_l114, wd_l115, wd_l116, wd_l117, wd_l118, wd_l119, wd_l120, wd_l121, wd_l122, wd_l123, wd_l124]); omega)))); (intro v9 hv9; (try simp (disch := omega) only [ab_tI, ab_c0, wd_ix12, wd_ix8, wd_ix10, wd_up_self, wd_up_eq, wd_up_ne, Int.toNat_natCast, Int.toNat_of_nonneg, not_true_eq_false, not_false_eq_true, Option.some.injEq, hn] at hv9); subst hv9))
    | (apply w_basM; (focus (exact (by first | exact ⟨by decide, by decide⟩ | ((try simp (disch := omega) only [ab_tI, ab_c0, wd_ix12, wd_ix8, wd_ix10, wd_up_self, wd_up_eq, wd_up_ne, Int.toNat_natCast, Int.toNat_of_nonneg, not_true_eq_false, not_false_eq_true, Option.some.injEq, hn, wd_l103, wd_l104, wd_l105, wd_l106, wd_l107, wd_l108, wd_l109, wd_l110, wd_l111, wd_l112, wd_l113, wd_l114, wd_l115, wd_l116, wd_l117, wd_l118, wd_l119, wd_l120, wd_l121, wd_l122, wd_l123, wd_l124]); omega)))); (focus (first | exact Or.inl rfl | exact Or.inr rfl)); (intro v9 hv9; (try simp (disch := omega) only [ab_tI, ab_c0, wd_ix12, wd_ix8, wd_ix10, wd_up_self, wd_up_eq, wd_up_ne, Int.toNat_natCast, Int.toNat_of_nonneg, not_true_eq_false, not_false_eq_true, Option.some.injEq, hn] at hv9); subst hv9))
    | (refine And.intro trivial ?_)
    | (refine And.intro (Or.inl rfl) ?_)
    | (refine And.intro (Or.inr rfl) ?_)
    | (refine And.intro (by ((try simp (disch := omega) only [ab_tI, ab_c0, wd_ix12, wd_ix8, wd_ix10, wd_up_self, wd_up_eq, wd_up_ne, Int.toNat_natCast, Int.toNat_of_nonneg, not_true_eq_false, not_false_eq_true, Option.some.injEq, hn]); omega)) ?_)
    | fail)
    all_goals first | exact hb (by omega) | exact hf (by omega) (by omega) (by omega) | (exfalso; omega)
