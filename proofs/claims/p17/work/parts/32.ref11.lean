/-! ===== the reference: fold (own text) ===== -/
def m_fpl (M : wd_I) (l : List Int32) (c : Int) : Nat → Nat
  | 0 => 0
  | n + 1 => if (c = 2 ∧ 0 < m_cmp M 13 (l.getD n 0) (l.getD (m_fpl M l c n) 0)) ∨ (c = 3 ∧ m_cmp M 13 (l.getD n 0) (l.getD (m_fpl M l c n) 0) < 0) then n else m_fpl M l c n
def m_fhi (M : wd_I) (l : List Int32) : Nat → Int32
  | 0 => ab_ii 0
  | n + 1 => m_mx (M 107 (l.getD n 0).toInt.toNat) (m_fhi M l n)
def m_fad (M : wd_I) (l : List Int32) (c : Int) (n : Nat) : Int64 := if c = 0 then Int64.ofNat 1 else if c = 1 then m_sum M 13 (l.getD n 0) else if c = 4 ∧ ¬ (m_newv M l n n).toInt = 0 then Int64.ofNat 1 else if c = 6 then (M 106 (l.getD n 0).toInt.toNat).toInt64 else Int64.ofNat 0
def m_fsu (M : wd_I) (l : List Int32) (c : Int) : Nat → Int64
  | 0 => Int64.ofNat 0
  | n + 1 => m_fsu M l c n + m_fad M l c n
theorem m_fpl_le {M : wd_I} {l : List Int32} {c : Int} : ∀ n, m_fpl M l c n ≤ n - 1
  | 0 => Nat.le_refl _
  | n + 1 => by
    have := m_fpl_le (M := M) (l := l) (c := c) n
    unfold m_fpl
    split <;> omega
def m_fre (M : wd_I) (l : List Int32) (c : Int) : Int64 := if c = 2 ∨ c = 3 then (ab_ii (m_fpl M l c l.length : Int)).toInt64 else if c = 5 then (m_fhi M l l.length).toInt64 else m_fsu M l c l.length

set_option maxHeartbeats 4000000 in
set_option maxRecDepth 100000 in
theorem x_fold_l {d : Nat} (hd : 16 ≤ d) {I : wd_I} {P : wd_P} {M : wd_I} {g : Nat → ab_C} {k z : Nat} {n : Int} {l : List Int32} (hl : m_lst M l n) (hn31 : M 102 31 = ab_ii (l.length : Int)) {s p c : Int32} {Q : ab_Q} (hQ : Q (some (.inr (.inl (m_fre M l c.toInt)))) (wd I P M g, k, z)) : ∀ r i, i + r = l.length → ab_WB d 183 Q 77 [(0, wd_v 102), (1, .inl s), (2, .inl p), (3, .inl c), (4, .inr (.inl (m_fsu M l c.toInt i))), (6, .inl (ab_ii (m_fpl M l c.toInt i : Int))), (7, .inl (m_fhi M l i)), (8, .inl (ab_ii (i : Int)))] [] (wd I P M g, k, z)
  | 0, i, hi => by
    have e : i = l.length := by omega
    subst e
    have hl2 := hl.2.1
    have hat := hl.2.2.1
    unfold m_fre at hQ
    refine wd_rnC rfl ?_
    intro C9 X9 hC9 hX9
    (have chk9 := @hat; clear chk9); (have chk9 := @hn31; clear chk9); repeat' ((conv => whnf); first
    | (intro v9 hv9; (try simp (disch := omega) only [ab_tI, ab_c0, wd_ix12, wd_ix8, wd_ix10, wd_up_self, wd_up_eq, wd_up_ne, Int.toNat_natCast, Int.toNat_of_nonneg, not_true_eq_false, not_false_eq_true, Option.some.injEq, hat, hn31] at hv9); subst hv9)
    | (apply i_get; (focus (exact rfl)); (focus (exact rfl)))
    | (refine hX9 _ _ _ _ (wd_rnC rfl ?_); clear hC9 hX9 X9 C9; intro C9 X9 hC9 hX9)
    | (apply w_ialM; (focus (exact rfl)); (focus (exact (by first | exact ⟨by decide, by decide⟩ | ((try simp (disch := omega) only [ab_tI, ab_c0, wd_ix12, wd_ix8, wd_ix10, wd_up_self, wd_up_eq, wd_up_ne, Int.toNat_natCast, Int.toNat_of_nonneg, not_true_eq_false, not_false_eq_true, Option.some.injEq, hat, hn31, wd_l103, wd_l104, wd_l105, wd_l106, wd_l107, wd_l108, wd_l109, wd_l110, wd_l111, wd_l112, wd_l113, wd_l114, wd_l115, wd_l116, wd_l117, wd_l118, wd_l119, wd_l120, wd_l121, wd_l122, wd_l123, wd_l124]); omega)))); (intro v9 hv9; (try simp (disch := omega) only [ab_tI, ab_c0, wd_ix12, wd_ix8, wd_ix10, wd_up_self, wd_up_eq, wd_up_ne, Int.toNat_natCast, Int.toNat_of_nonneg, not_true_eq_false, not_false_eq_true, Option.some.injEq, hat, hn31] at hv9); subst hv9))
    | (apply w_putM; (focus (exact rfl)); (focus (first | exact trivial | exact Or.inl rfl | exact Or.inr rfl)); (focus (exact rfl)))
    | (apply w_iasM; (focus (exact rfl)); (focus (exact (by first | exact ⟨by decide, by decide⟩ | ((try simp (disch := omega) only [ab_tI, ab_c0, wd_ix12, wd_ix8, wd_ix10, wd_up_self, wd_up_eq, wd_up_ne, Int.toNat_natCast, Int.toNat_of_nonneg, not_true_eq_false, not_false_eq_true, Option.some.injEq, hat, hn31, wd_l103, wd_l104, wd_l105, wd_l106, wd_l107, wd_l108, wd_l109, wd_l110, wd_l111, wd_l112, wd_l113, wd_l114, wd_l115, wd_l116, wd_l117, wd_l118, wd_l119, wd_l120, wd_l121, wd_l122, wd_l123, wd_l124]); omega)))); (intro v9 hv9; (try simp (disch := omega) only [ab_tI, ab_c0, wd_ix12, wd_ix8, wd_ix10, wd_up_self, wd_up_eq, wd_up_ne, Int.toNat_natCast, Int.toNat_of_nonneg, not_true_eq_false, not_false_eq_true, Option.some.injEq, hat, hn31] at hv9); subst hv9))
    | (refine i_brF (by decide) ?_)
    | (refine i_brT (by decide) ?_)
    | (refine ⟨fun hc => ?_, fun hc => ?_⟩ <;> (try simp (disch := omega) only [ab_tI, ab_c0, wd_ix12, wd_ix8, wd_ix10, wd_up_self, wd_up_eq, wd_up_ne, Int.toNat_natCast, Int.toNat_of_nonneg, not_true_eq_false, not_false_eq_true, Option.some.injEq, hat, hn31] at hc) <;> first | (exfalso; omega) | skip)
    | (apply i_cv; (focus (exact rfl)))
    | (apply w_balM; (focus (exact (by first | exact ⟨by decide, by decide⟩ | ((try simp (disch := omega) only [ab_tI, ab_c0, wd_ix12, wd_ix8, wd_ix10, wd_up_self, wd_up_eq, wd_up_ne, Int.toNat_natCast, Int.toNat_of_nonneg, not_true_eq_false, not_false_eq_true, Option.some.injEq, hat, hn31, wd_l103, wd_l104, wd_l105, wd_l106, wd_l107, wd_l108, wd_l109, wd_l110, wd_l111, wd_l112, wd_l113, wd_l114, wd_l115, wd_l116, wd_l117, wd_l118, wd_l119, wd_l120, wd_l121, wd_l122, wd_l123, wd_l124]); omega)))); (intro v9 hv9; (try simp (disch := omega) only [ab_tI, ab_c0, wd_ix12, wd_ix8, wd_ix10, wd_up_self, wd_up_eq, wd_up_ne, Int.toNat_natCast, Int.toNat_of_nonneg, not_true_eq_false, not_false_eq_true, Option.some.injEq, hat, hn31] at hv9); subst hv9))
    | (apply w_basM; (focus (exact (by first | exact ⟨by decide, by decide⟩ | ((try simp (disch := omega) only [ab_tI, ab_c0, wd_ix12, wd_ix8, wd_ix10, wd_up_self, wd_up_eq, wd_up_ne, Int.toNat_natCast, Int.toNat_of_nonneg, not_true_eq_false, not_false_eq_true, Option.some.injEq, hat, hn31, wd_l103, wd_l104, wd_l105, wd_l106, wd_l107, wd_l108, wd_l109, wd_l110, wd_l111, wd_l112, wd_l113, wd_l114, wd_l115, wd_l116, wd_l117, wd_l118, wd_l119, wd_l120, wd_l121, wd_l122, wd_l123, wd_l124]); omega)))); (focus (first | exact Or.inl rfl | exact Or.inr rfl)); (intro v9 hv9; (try simp (disch := omega) only [ab_tI, ab_c0, wd_ix12, wd_ix8, wd_ix10, wd_up_self, wd_up_eq, wd_up_ne, Int.toNat_natCast, Int.toNat_of_nonneg, not_true_eq_false, not_false_eq_true, Option.some.injEq, hat, hn31] at hv9); subst hv9))
    | (refine And.intro trivial ?_)
    | (refine And.intro (Or.inl rfl) ?_)
    | (refine And.intro (Or.inr rfl) ?_)
    | (refine And.intro (by ((try simp (disch := omega) only [ab_tI, ab_c0, wd_ix12, wd_ix8, wd_ix10, wd_up_self, wd_up_eq, wd_up_ne, Int.toNat_natCast, Int.toNat_of_nonneg, not_true_eq_false, not_false_eq_true, Option.some.injEq, hat, hn31]); omega)) ?_)
    | fail)
    all_goals (repeat' (split at hQ)) <;> first | exact hQ | (exfalso; omega)
  | r + 1, i, hi => by
    have ih := x_fold_l hd hl hn31 (s := s) (p := p) hQ r (i + 1) (by omega)
    have hl2 := hl.2.1
    have hat := hl.2.2.1
    have hil : i < l.length := by omega
    have hpl := m_fpl_le (M := M) (l := l) (c := c.toInt) i
    have hpl2 : m_fpl M l c.toInt i < l.length := by omega
    have hb := m_cmp_b (M := M) 13 (l.getD i 0) (l.getD (m_fpl M l c.toInt i) 0)
    have h1 := hl.2.2.2 i hil
    have hn := hl.1.1
    refine wd_rnC rfl ?_
    intro C9 X9 hC9 hX9
    (have chk9 := @hat; clear chk9); (have chk9 := @hn31; clear chk9); repeat' ((conv => whnf); first
    | (refine hX9 77 _ _ _ (ab_WB_sub ?_ ih); (repeat (first | exact ab_sub0 | (refine ab_sub1 ?_ ?_; (focus ((repeat (refine ab_skip rfl ?_)); first | (rw [m_fpl, if_pos (by omega)]; exact List.mem_cons_self) | (rw [m_fpl, if_neg (by omega)]; exact List.mem_cons_self) | (rw [m_fhi, m_mx_t (by omega)]; exact List.mem_cons_self) | (rw [m_fhi, m_mx_f (by omega)]; exact List.mem_cons_self) | (rw [m_fsu, m_fad, if_pos (by omega)]; exact List.mem_cons_self) | (rw [m_fsu, m_fad, if_neg (by omega), if_pos (by omega)]; exact List.mem_cons_self) | (rw [m_fsu, m_fad, if_neg (by omega), if_neg (by omega), if_pos (by omega)]; exact List.mem_cons_self) | (rw [m_fsu, m_fad, if_neg (by omega), if_neg (by omega), if_neg (by omega), if_pos (by omega)]; exact List.mem_cons_self) | (rw [m_fsu, m_fad, if_neg (by omega), if_neg (by omega), if_neg (by omega), if_neg (by omega)]; exact List.mem_cons_self) | exact List.mem_cons_self))))))
    | (refine hC9 140 _ _ _ (x_cmpAt (by omega) hl hil hpl2 ?_))
    | (refine hC9 182 _ _ _ (x_isNew (by omega) hl hil ?_))
    | (refine hC9 181 _ _ _ (x_sumOf hl.1 13 _ (by omega) _ _ h1.1 h1.2 (m_ht13 hl.1 h1.1 h1.2) ?_))
    | (intro v9 hv9; (try simp (disch := omega) only [ab_tI, ab_c0, wd_ix12, wd_ix8, wd_ix10, wd_up_self, wd_up_eq, wd_up_ne, Int.toNat_natCast, Int.toNat_of_nonneg, not_true_eq_false, not_false_eq_true, Option.some.injEq, hat, hn31] at hv9); subst hv9)
    | (apply i_get; (focus (exact rfl)); (focus (exact rfl)))
    | (refine hX9 _ _ _ _ (wd_rnC rfl ?_); clear hC9 hX9 X9 C9; intro C9 X9 hC9 hX9)
    | (apply w_ialM; (focus (exact rfl)); (focus (exact (by first | exact ⟨by decide, by decide⟩ | ((try simp (disch := omega) only [ab_tI, ab_c0, wd_ix12, wd_ix8, wd_ix10, wd_up_self, wd_up_eq, wd_up_ne, Int.toNat_natCast, Int.toNat_of_nonneg, not_true_eq_false, not_false_eq_true, Option.some.injEq, hat, hn31, wd_l103, wd_l104, wd_l105, wd_l106, wd_l107, wd_l108, wd_l109, wd_l110, wd_l111, wd_l112, wd_l113, wd_l114, wd_l115, wd_l116, wd_l117, wd_l118, wd_l119, wd_l120, wd_l121, wd_l122, wd_l123, wd_l124]); omega)))); (intro v9 hv9; (try simp (disch := omega) only [ab_tI, ab_c0, wd_ix12, wd_ix8, wd_ix10, wd_up_self, wd_up_eq, wd_up_ne, Int.toNat_natCast, Int.toNat_of_nonneg, not_true_eq_false, not_false_eq_true, Option.some.injEq, hat, hn31] at hv9); subst hv9))
    | (apply w_putM; (focus (exact rfl)); (focus (first | exact trivial | exact Or.inl rfl | exact Or.inr rfl)); (focus (exact rfl)))
    | (apply w_iasM; (focus (exact rfl)); (focus (exact (by first | exact ⟨by decide, by decide⟩ | ((try simp (disch := omega) only [ab_tI, ab_c0, wd_ix12, wd_ix8, wd_ix10, wd_up_self, wd_up_eq, wd_up_ne, Int.toNat_natCast, Int.toNat_of_nonneg, not_true_eq_false, not_false_eq_true, Option.some.injEq, hat, hn31, wd_l103, wd_l104, wd_l105, wd_l106, wd_l107, wd_l108, wd_l109, wd_l110, wd_l111, wd_l112, wd_l113, wd_l114, wd_l115, wd_l116, wd_l117, wd_l118, wd_l119, wd_l120, wd_l121, wd_l122, wd_l123, wd_l124]); omega)))); (intro v9 hv9; (try simp (disch := omega) only [ab_tI, ab_c0, wd_ix12, wd_ix8, wd_ix10, wd_up_self, wd_up_eq, wd_up_ne, Int.toNat_natCast, Int.toNat_of_nonneg, not_true_eq_false, not_false_eq_true, Option.some.injEq, hat, hn31] at hv9); subst hv9))
    | (refine i_brF (by decide) ?_)
    | (refine i_brT (by decide) ?_)
    | (refine ⟨fun hc => ?_, fun hc => ?_⟩ <;> (try simp (disch := omega) only [ab_tI, ab_c0, wd_ix12, wd_ix8, wd_ix10, wd_up_self, wd_up_eq, wd_up_ne, Int.toNat_natCast, Int.toNat_of_nonneg, not_true_eq_false, not_false_eq_true, Option.some.injEq, hat, hn31] at hc) <;> first | (exfalso; omega) | skip)
    | (apply i_cv; (focus (exact rfl)))
    | (apply w_balM; (focus (exact (by first | exact ⟨by decide, by decide⟩ | ((try simp (disch := omega) only [ab_tI, ab_c0, wd_ix12, wd_ix8, wd_ix10, wd_up_self, wd_up_eq, wd_up_ne, Int.toNat_natCast, Int.toNat_of_nonneg, not_true_eq_false, not_false_eq_true, Option.some.injEq, hat, hn31, wd_l103, wd_l104, wd_l105, wd_l106, wd_l107, wd_l108, wd_l109, wd_l110, wd_l111, wd_l112, wd_l113, wd_l114, wd_l115, wd_l116, wd_l117, wd_l118, wd_l119, wd_l120, wd_l121, wd_l122, wd_l123, wd_l124]); omega)))); (intro v9 hv9; (try simp (disch := omega) only [ab_tI, ab_c0, wd_ix12, wd_ix8, wd_ix10, wd_up_self, wd_up_eq, wd_up_ne, Int.toNat_natCast, Int.toNat_of_nonneg, not_true_eq_false, not_false_eq_true, Option.some.injEq, hat, hn31] at hv9); subst hv9))
    | (apply w_basM; (focus (exact (by first | exact ⟨by decide, by decide⟩ | ((try simp (disch := omega) only [ab_tI, ab_c0, wd_ix12, wd_ix8, wd_ix10, wd_up_self, wd_up_eq, wd_up_ne, Int.toNat_natCast, Int.toNat_of_nonneg, not_true_eq_false, not_false_eq_true, Option.some.injEq, hat, hn31, wd_l103, wd_l104, wd_l105, wd_l106, wd_l107, wd_l108, wd_l109, wd_l110, wd_l111, wd_l112, wd_l113, wd_l114, wd_l115, wd_l116, wd_l117, wd_l118, wd_l119, wd_l120, wd_l121, wd_l122, wd_l123, wd_l124]); omega)))); (focus (first | exact Or.inl rfl | exact Or.inr rfl)); (intro v9 hv9; (try simp (disch := omega) only [ab_tI, ab_c0, wd_ix12, wd_ix8, wd_ix10, wd_up_self, wd_up_eq, wd_up_ne, Int.toNat_natCast, Int.toNat_of_nonneg, not_true_eq_false, not_false_eq_true, Option.some.injEq, hat, hn31] at hv9); subst hv9))
    | (refine And.intro trivial ?_)
    | (refine And.intro (Or.inl rfl) ?_)
    | (refine And.intro (Or.inr rfl) ?_)
    | (refine And.intro (by ((try simp (disch := omega) only [ab_tI, ab_c0, wd_ix12, wd_ix8, wd_ix10, wd_up_self, wd_up_eq, wd_up_ne, Int.toNat_natCast, Int.toNat_of_nonneg, not_true_eq_false, not_false_eq_true, Option.some.injEq, hat, hn31]); omega)) ?_)
    | fail)

