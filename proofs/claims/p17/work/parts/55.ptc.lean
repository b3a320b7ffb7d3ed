section
/-! ===== the reference: path (own text) ===== -/
def m_pw (N : wd_I) (n : Nat) : wd_I := wd_up (wd_up N 121 n (N 102 26)) 122 n (N 102 27)
def m_pl : Nat → Nat → wd_I → wd_I × Nat
  | 0, n, M => (M, n)
  | f + 1, n, M => if (M 102 24).toInt = -1 ∧ (M 102 23).toInt < (M 102 22).toInt then (if n = 8 then m_pl f 8 (m_fails M (M 102 23)) else m_pl f (n + 1) (m_pw (m_rst M) n)) else (M, n)
def m_p0 (M : wd_I) : wd_I := wd_up (wd_up M 102 23 (ab_ii 0)) 102 24 (ab_ii (-1))
def m_p1 (M : wd_I) : wd_I × Nat := m_pl 102 0 (m_p0 M)
def m_p2 (M : wd_I) : wd_I := wd_up (m_p1 M).1 102 22 (ab_ii 0)
def m_pcp (M : wd_I) (p : Nat) : Nat → wd_I
  | 0 => M
  | j + 1 => wd_up (wd_up (m_pcp M p j) 113 (8 * p + j) (M 121 j)) 114 (8 * p + j) (M 122 j)
theorem m_pcp_row {M : wd_I} {p a : Nat} (h1 : a ≠ 113) (h2 : a ≠ 114) : ∀ j, m_pcp M p j a = M a
  | 0 => rfl
  | j + 1 => by unfold m_pcp; rw [wd_up_row _ _ _ h2, wd_up_row _ _ _ h1, m_pcp_row h1 h2 j]
theorem m_pcp_ne {M : wd_I} {p a n j : Nat} (h : a ≠ 113 ∧ a ≠ 114) : m_pcp M p n a j = M a j := by rw [m_pcp_row h.1 h.2]
def m_p3 (M : wd_I) (p : Nat) : wd_I := wd_up (m_pcp (m_p2 M) p (m_p1 M).2) 115 p (ab_ii ((m_p1 M).2 : Int))
/-- what the reading of a path leaves -/
def m_pg (M N : wd_I) : Prop := (∀ a, a ≠ 102 → a ≠ 121 → a ≠ 122 → N a = M a) ∧ (∀ j, j ≠ 23 → j ≠ 24 → j ≠ 26 → j ≠ 27 → N 102 j = M 102 j) ∧ m_tp N
theorem m_pw_pg {M N : wd_I} {n : Nat} (h : m_sd M N) : m_pg M (m_pw N n) := by
  obtain ⟨h1, h2, h3, h4⟩ := h
  refine ⟨fun a a1 a2 a3 => ?_, fun j j1 j2 j3 j4 => ?_, ?_⟩
  · unfold m_pw
    rw [wd_up_row _ _ _ a3, wd_up_row _ _ _ a2]
    exact h1 a a1
  · unfold m_pw
    rw [wd_up_row _ _ _ (by decide), wd_up_row _ _ _ (by decide)]
    exact h2 j j1 j2 j3 j4
  · unfold m_pw m_tp at *
    rw [wd_up_row _ _ _ (by decide), wd_up_row _ _ _ (by decide)]
    exact h3
theorem m_pg.tr {M M' M'' : wd_I} (h : m_pg M M') (h' : m_pg M' M'') : m_pg M M'' := ⟨fun a a1 a2 a3 => (h'.1 a a1 a2 a3).trans (h.1 a a1 a2 a3), fun j h1 h2 h3 h4 => (h'.2.1 j h1 h2 h3 h4).trans (h.2.1 j h1 h2 h3 h4), h'.2.2⟩
theorem m_pw_pt {N : wd_I} {n : Nat} : m_pt (m_pw N n) = m_pt N := by
  unfold m_pt m_pw
  rw [wd_up_row _ _ _ (by decide), wd_up_row _ _ _ (by decide)]
theorem m_pl_pg : ∀ (f n : Nat) (M : wd_I), m_tp M → n ≤ 8 → m_pg M (m_pl f n M).1 ∧ (m_pl f n M).2 ≤ 8
  | 0, n, M, h, h8 => ⟨⟨fun _ _ _ _ => rfl, fun _ _ _ _ _ => rfl, h⟩, h8⟩
  | f + 1, n, M, h, h8 => by
    unfold m_pl
    split
    next hc =>
      split
      next hn =>
        have h1 := (m_fails_sc (p := M 102 23) h h.1).1
        have h2 := m_pl_pg f 8 _ h1.2.2.1 (by omega)
        exact ⟨m_pg.tr (M' := m_fails M (M 102 23)) ⟨fun a a1 _ _ => h1.1 a a1, fun j j1 j2 _ _ => h1.2.1 j j1 j2, h1.2.2.1⟩ h2.1, h2.2⟩
      next hn =>
        have h1 := (m_rst_sd h hc.1 hc.2).1
        have h2 := m_pw_pg (n := n) h1
        have h3 := m_pl_pg f (n + 1) _ h2.2.2 (by omega)
        exact ⟨h2.tr h3.1, h3.2⟩
    next => exact ⟨⟨fun _ _ _ _ => rfl, fun _ _ _ _ _ => rfl, h⟩, h8⟩
set_option maxHeartbeats 4000000 in
set_option maxRecDepth 100000 in
theorem x_path_l {d : Nat} (hd : 6 ≤ d) {I : wd_I} {P : wd_P} {g : Nat → ab_C} {k z : Nat} {p : Int32} {Q : ab_Q} {M0 : wd_I} {n0 : Nat} (hK : ∀ (N : wd_I) (n : Nat), (N, n) = (M0, n0) → m_tp N → n ≤ 8 → ab_WB d 159 Q 87 [(0, wd_v 102), (1, .inl p), (2, .inl (ab_ii (n : Int)))] [] (wd I P N g, k, z)) : ∀ (f n : Nat) (M : wd_I), m_tp M → n ≤ 8 → 101 + m_pt M ≤ (f : Int) → (M0, n0) = m_pl f n M → ab_WB d 159 Q 22 [(0, wd_v 102), (1, .inl p), (2, .inl (ab_ii (n : Int)))] [] (wd I P M g, k, z)
  | 0, n, M, ht, h8, hf, hM => by
    obtain ⟨t1, t2, t3⟩ := ht
    unfold m_pt at hf
    split at hf <;> omega
  | f + 1, n, M, ht, h8, hf, hM => by
    unfold m_pl at hM
    by_cases hc : (M 102 24).toInt = -1 ∧ (M 102 23).toInt < (M 102 22).toInt
    · rw [if_pos hc] at hM
      by_cases hn : n = 8
      · subst hn
        rw [if_pos rfl] at hM
        have h1 := m_fails_sc (p := M 102 23) ht ht.1
        have ih := x_path_l hd hK f 8 _ h1.1.2.2.1 (by omega) (by have := h1.2 hc.1; omega) hM
        refine wd_rnC rfl ?_
        intro C9 X9 hC9 hX9
        repeat' ((conv => whnf); first
    | (refine hC9 145 _ _ _ (x_isFault (M := M) (by omega) (fun hc => ?_) (fun hc => ?_)); (try (exfalso; omega)))
    | (refine hC9 144 _ _ _ (x_fails (M := M) (by omega) ?_))
    | (refine hX9 22 _ _ _ (ab_WB_sub ?_ ih); (repeat (first | exact ab_sub0 | (refine ab_sub1 ?_ ?_; (focus ((repeat (refine ab_skip rfl ?_)); first | exact List.mem_cons_self))))))
    | (intro v9 hv9; (try simp (disch := omega) only [ab_tI, ab_c0, wd_ix12, wd_ix8, wd_ix10, wd_up_self, wd_up_eq, wd_up_ne, Int.toNat_natCast, Int.toNat_of_nonneg, not_true_eq_false, not_false_eq_true, Option.some.injEq] at hv9); subst hv9)
    | (apply i_get; (focus (exact rfl)); (focus (exact rfl)))
    | (refine hX9 _ _ _ _ (wd_rnC rfl ?_); clear hC9 hX9 X9 C9; intro C9 X9 hC9 hX9)
    | (apply w_ialM; (focus (exact rfl)); (focus (exact (by first | exact ⟨by decide, by decide⟩ | ((try simp (disch := omega) only [ab_tI, ab_c0, wd_ix12, wd_ix8, wd_ix10, wd_up_self, wd_up_eq, wd_up_ne, Int.toNat_natCast, Int.toNat_of_nonneg, not_true_eq_false, not_false_eq_true, Option.some.injEq, wd_l103, wd_l104, wd_l105, wd_l106, wd_l107, wd_l108, wd_l109, wd_l110, wd_l111, wd_l112, wd_l113, wd_l114, wd_l115, wd_l116, wd_l117, wd_l118, wd_l119, wd_l120, wd_l121, wd_l122, wd_l123, wd_l124]); omega)))); (intro v9 hv9; (try simp (disch := omega) only [ab_tI, ab_c0, wd_ix12, wd_ix8, wd_ix10, wd_up_self, wd_up_eq, wd_up_ne, Int.toNat_natCast, Int.toNat_of_nonneg, not_true_eq_false, not_false_eq_true, Option.some.injEq] at hv9); subst hv9))
    | (apply w_putM; (focus (exact rfl)); (focus (first | exact trivial | exact Or.inl rfl | exact Or.inr rfl)); (focus (exact rfl)))
    | (apply w_iasM; (focus (exact rfl)); (focus (exact (by first | exact ⟨by decide, by decide⟩ | ((try simp (disch := omega) only [ab_tI, ab_c0, wd_ix12, wd_ix8, wd_ix10, wd_up_self, wd_up_eq, wd_up_ne, Int.toNat_natCast, Int.toNat_of_nonneg, not_true_eq_false, not_false_eq_true, Option.some.injEq, wd_l103, wd_l104, wd_l105, wd_l106, wd_l107, wd_l108, wd_l109, wd_l110, wd_l111, wd_l112, wd_l113, wd_l114, wd_l115, wd_l116, wd_l117, wd_l118, wd_l119, wd_l120, wd_l121, wd_l122, wd_l123, wd_l124]); omega)))); (intro v9 hv9; (try simp (disch := omega) only [ab_tI, ab_c0, wd_ix12, wd_ix8, wd_ix10, wd_up_self, wd_up_eq, wd_up_ne, Int.toNat_natCast, Int.toNat_of_nonneg, not_true_eq_false, not_false_eq_true, Option.some.injEq] at hv9); subst hv9))
    | (refine i_brF (by decide) ?_)
    | (refine i_brT (by decide) ?_)
    | (refine ⟨fun hc => ?_, fun hc => ?_⟩ <;> (try simp (disch := omega) only [ab_tI, ab_c0, wd_ix12, wd_ix8, wd_ix10, wd_up_self, wd_up_eq, wd_up_ne, Int.toNat_natCast, Int.toNat_of_nonneg, not_true_eq_false, not_false_eq_true, Option.some.injEq] at hc) <;> first | (exfalso; omega) | skip)
    | (apply i_cv; (focus (exact rfl)))
    | (apply w_balM; (focus (exact (by first | exact ⟨by decide, by decide⟩ | ((try simp (disch := omega) only [ab_tI, ab_c0, wd_ix12, wd_ix8, wd_ix10, wd_up_self, wd_up_eq, wd_up_ne, Int.toNat_natCast, Int.toNat_of_nonneg, not_true_eq_false, not_false_eq_true, Option.some.injEq, wd_l103, wd_l104, wd_l105, wd_l106, wd_l107, wd_l108, wd_l109, wd_l110, wd_l111, wd_l112, wd_l113, wd_l114, wd_l115, wd_l116, wd_l117, wd_l118, wd_l119, wd_l120, wd_l121, wd_l122, wd_l123, wd_l124]); omega)))); (intro v9 hv9; (try simp (disch := omega) only [ab_tI, ab_c0, wd_ix12, wd_ix8, wd_ix10, wd_up_self, wd_up_eq, wd_up_ne, Int.toNat_natCast, Int.toNat_of_nonneg, not_true_eq_false, not_false_eq_true, Option.some.injEq] at hv9); subst hv9))
    | (apply w_basM; (focus (exact (by first | exact ⟨by decide, by decide⟩ | ((try simp (disch := omega) only [ab_tI, ab_c0, wd_ix12, wd_ix8, wd_ix10, wd_up_self, wd_up_eq, wd_up_ne, Int.toNat_natCast, Int.toNat_of_nonneg, not_true_eq_false, not_false_eq_true, Option.some.injEq, wd_l103, wd_l104, wd_l105, wd_l106, wd_l107, wd_l108, wd_l109, wd_l110, wd_l111, wd_l112, wd_l113, wd_l114, wd_l115, wd_l116, wd_l117, wd_l118, wd_l119, wd_l120, wd_l121, wd_l122, wd_l123, wd_l124]); omega)))); (focus (first | exact Or.inl rfl | exact Or.inr rfl)); (intro v9 hv9; (try simp (disch := omega) only [ab_tI, ab_c0, wd_ix12, wd_ix8, wd_ix10, wd_up_self, wd_up_eq, wd_up_ne, Int.toNat_natCast, Int.toNat_of_nonneg, not_true_eq_false, not_false_eq_true, Option.some.injEq] at hv9); subst hv9))
    | (refine And.intro trivial ?_)
    | (refine And.intro (Or.inl rfl) ?_)
    | (refine And.intro (Or.inr rfl) ?_)
    | (refine And.intro (by ((try simp (disch := omega) only [ab_tI, ab_c0, wd_ix12, wd_ix8, wd_ix10, wd_up_self, wd_up_eq, wd_up_ne, Int.toNat_natCast, Int.toNat_of_nonneg, not_true_eq_false, not_false_eq_true, Option.some.injEq]); omega)) ?_)
    | fail)
        all_goals (exfalso; omega)
      · rw [if_neg hn] at hM
        have h1 := m_rst_sd ht hc.1 hc.2
        have h2 := m_pw_pg (n := n) h1.1
        have ih := x_path_l hd hK f (n + 1) _ h2.2.2 (by omega) (by have := h1.2; rw [m_pw_pt]; omega) hM
        have hx := fun Q hq => x_readsStep (d := d - 1) (by omega) (I := I) (P := P) (g := g) (k := k) (z := z) (Q := Q) ht hc.2 hq
        unfold m_pw at ih
        generalize m_rst M = N at *
        refine wd_rnC rfl ?_
        intro C9 X9 hC9 hX9
        repeat' ((conv => whnf); first
    | (refine hC9 145 _ _ _ (x_isFault (M := M) (by omega) (fun hc => ?_) (fun hc => ?_)); (try (exfalso; omega)))
    | (refine hC9 158 _ _ _ (hx _ ?_))
    | (refine hX9 22 _ _ _ (ab_WB_sub ?_ ih); (repeat (first | exact ab_sub0 | (refine ab_sub1 ?_ ?_; (focus ((repeat (refine ab_skip rfl ?_)); first | exact List.mem_cons_self))))))
    | (intro v9 hv9; (try simp (disch := omega) only [ab_tI, ab_c0, wd_ix12, wd_ix8, wd_ix10, wd_up_self, wd_up_eq, wd_up_ne, Int.toNat_natCast, Int.toNat_of_nonneg, not_true_eq_false, not_false_eq_true, Option.some.injEq] at hv9); subst hv9)
    | (apply i_get; (focus (exact rfl)); (focus (exact rfl)))
    | (refine hX9 _ _ _ _ (wd_rnC rfl ?_); clear hC9 hX9 X9 C9; intro C9 X9 hC9 hX9)
    | (apply w_ialM; (focus (exact rfl)); (focus (exact (by first | exact ⟨by decide, by decide⟩ | ((try simp (disch := omega) only [ab_tI, ab_c0, wd_ix12, wd_ix8, wd_ix10, wd_up_self, wd_up_eq, wd_up_ne, Int.toNat_natCast, Int.toNat_of_nonneg, not_true_eq_false, not_false_eq_true, Option.some.injEq, wd_l103, wd_l104, wd_l105, wd_l106, wd_l107, wd_l108, wd_l109, wd_l110, wd_l111, wd_l112, wd_l113, wd_l114, wd_l115, wd_l116, wd_l117, wd_l118, wd_l119, wd_l120, wd_l121, wd_l122, wd_l123, wd_l124]); omega)))); (intro v9 hv9; (try simp (disch := omega) only [ab_tI, ab_c0, wd_ix12, wd_ix8, wd_ix10, wd_up_self, wd_up_eq, wd_up_ne, Int.toNat_natCast, Int.toNat_of_nonneg, not_true_eq_false, not_false_eq_true, Option.some.injEq] at hv9); subst hv9))
    | (apply w_putM; (focus (exact rfl)); (focus (first | exact trivial | exact Or.inl rfl | exact Or.inr rfl)); (focus (exact rfl)))
    | (apply w_iasM; (focus (exact rfl)); (focus (exact (by first | exact ⟨by decide, by decide⟩ | ((try simp (disch := omega) only [ab_tI, ab_c0, wd_ix12, wd_ix8, wd_ix10, wd_up_self, wd_up_eq, wd_up_ne, Int.toNat_natCast, Int.toNat_of_nonneg, not_true_eq_false, not_false_eq_true, Option.some.injEq, wd_l103, wd_l104, wd_l105, wd_l106, wd_l107, wd_l108, wd_l109, wd_l110, wd_l111, wd_l112, wd_l113, wd_l114, wd_l115, wd_l116, wd_l117, wd_l118, wd_l119, wd_l120, wd_l121, wd_l122, wd_l123, wd_l124]); omega)))); (intro v9 hv9; (try simp (disch := omega) only [ab_tI, ab_c0, wd_ix12, wd_ix8, wd_ix10, wd_up_self, wd_up_eq, wd_up_ne, Int.toNat_natCast, Int.toNat_of_nonneg, not_true_eq_false, not_false_eq_true, Option.some.injEq] at hv9); subst hv9))
    | (refine i_brF (by decide) ?_)
    | (refine i_brT (by decide) ?_)
    | (refine ⟨fun hc => ?_, fun hc => ?_⟩ <;> (try simp (disch := omega) only [ab_tI, ab_c0, wd_ix12, wd_ix8, wd_ix10, wd_up_self, wd_up_eq, wd_up_ne, Int.toNat_natCast, Int.toNat_of_nonneg, not_true_eq_false, not_false_eq_true, Option.some.injEq] at hc) <;> first | (exfalso; omega) | skip)
    | (apply i_cv; (focus (exact rfl)))
    | (apply w_balM; (focus (exact (by first | exact ⟨by decide, by decide⟩ | ((try simp (disch := omega) only [ab_tI, ab_c0, wd_ix12, wd_ix8, wd_ix10, wd_up_self, wd_up_eq, wd_up_ne, Int.toNat_natCast, Int.toNat_of_nonneg, not_true_eq_false, not_false_eq_true, Option.some.injEq, wd_l103, wd_l104, wd_l105, wd_l106, wd_l107, wd_l108, wd_l109, wd_l110, wd_l111, wd_l112, wd_l113, wd_l114, wd_l115, wd_l116, wd_l117, wd_l118, wd_l119, wd_l120, wd_l121, wd_l122, wd_l123, wd_l124]); omega)))); (intro v9 hv9; (try simp (disch := omega) only [ab_tI, ab_c0, wd_ix12, wd_ix8, wd_ix10, wd_up_self, wd_up_eq, wd_up_ne, Int.toNat_natCast, Int.toNat_of_nonneg, not_true_eq_false, not_false_eq_true, Option.some.injEq] at hv9); subst hv9))
    | (apply w_basM; (focus (exact (by first | exact ⟨by decide, by decide⟩ | ((try simp (disch := omega) only [ab_tI, ab_c0, wd_ix12, wd_ix8, wd_ix10, wd_up_self, wd_up_eq, wd_up_ne, Int.toNat_natCast, Int.toNat_of_nonneg, not_true_eq_false, not_false_eq_true, Option.some.injEq, wd_l103, wd_l104, wd_l105, wd_l106, wd_l107, wd_l108, wd_l109, wd_l110, wd_l111, wd_l112, wd_l113, wd_l114, wd_l115, wd_l116, wd_l117, wd_l118, wd_l119, wd_l120, wd_l121, wd_l122, wd_l123, wd_l124]); omega)))); (focus (first | exact Or.inl rfl | exact Or.inr rfl)); (intro v9 hv9; (try simp (disch := omega) only [ab_tI, ab_c0, wd_ix12, wd_ix8, wd_ix10, wd_up_self, wd_up_eq, wd_up_ne, Int.toNat_natCast, Int.toNat_of_nonneg, not_true_eq_false, not_false_eq_true, Option.some.injEq] at hv9); subst hv9))
    | (refine And.intro trivial ?_)
    | (refine And.intro (Or.inl rfl) ?_)
    | (refine And.intro (Or.inr rfl) ?_)
    | (refine And.intro (by ((try simp (disch := omega) only [ab_tI, ab_c0, wd_ix12, wd_ix8, wd_ix10, wd_up_self, wd_up_eq, wd_up_ne, Int.toNat_natCast, Int.toNat_of_nonneg, not_true_eq_false, not_false_eq_true, Option.some.injEq]); omega)) ?_)
    | fail)
        all_goals (exfalso; omega)
    · rw [if_neg hc] at hM
      have hk := hK M n hM.symm ht h8
      refine wd_rnC rfl ?_
      intro C9 X9 hC9 hX9
      repeat' ((conv => whnf); first
    | (refine hC9 145 _ _ _ (x_isFault (M := M) (by omega) (fun hc => ?_) (fun hc => ?_)))
    | (refine hX9 87 _ _ _ (ab_WB_sub ?_ hk); (repeat (first | exact ab_sub0 | (refine ab_sub1 ?_ ?_; (focus ((repeat (refine ab_skip rfl ?_)); first | exact List.mem_cons_self))))))
    | (intro v9 hv9; (try simp (disch := omega) only [ab_tI, ab_c0, wd_ix12, wd_ix8, wd_ix10, wd_up_self, wd_up_eq, wd_up_ne, Int.toNat_natCast, Int.toNat_of_nonneg, not_true_eq_false, not_false_eq_true, Option.some.injEq] at hv9); subst hv9)
    | (apply i_get; (focus (exact rfl)); (focus (exact rfl)))
    | (refine hX9 _ _ _ _ (wd_rnC rfl ?_); clear hC9 hX9 X9 C9; intro C9 X9 hC9 hX9)
    | (apply w_ialM; (focus (exact rfl)); (focus (exact (by first | exact ⟨by decide, by decide⟩ | ((try simp (disch := omega) only [ab_tI, ab_c0, wd_ix12, wd_ix8, wd_ix10, wd_up_self, wd_up_eq, wd_up_ne, Int.toNat_natCast, Int.toNat_of_nonneg, not_true_eq_false, not_false_eq_true, Option.some.injEq, wd_l103, wd_l104, wd_l105, wd_l106, wd_l107, wd_l108, wd_l109, wd_l110, wd_l111, wd_l112, wd_l113, wd_l114, wd_l115, wd_l116, wd_l117, wd_l118, wd_l119, wd_l120, wd_l121, wd_l122, wd_l123, wd_l124]); omega)))); (intro v9 hv9; (try simp (disch := omega) only [ab_tI, ab_c0, wd_ix12, wd_ix8, wd_ix10, wd_up_self, wd_up_eq, wd_up_ne, Int.toNat_natCast, Int.toNat_of_nonneg, not_true_eq_false, not_false_eq_true, Option.some.injEq] at hv9); subst hv9))
    | (apply w_putM; (focus (exact rfl)); (focus (first | exact trivial | exact Or.inl rfl | exact Or.inr rfl)); (focus (exact rfl)))
    | (apply w_iasM; (focus (exact rfl)); (focus (exact (by first | exact ⟨by decide, by decide⟩ | ((try simp (disch := omega) only [ab_tI, ab_c0, wd_ix12, wd_ix8, wd_ix10, wd_up_self, wd_up_eq, wd_up_ne, Int.toNat_natCast, Int.toNat_of_nonneg, not_true_eq_false, not_false_eq_true, Option.some.injEq, wd_l103, wd_l104, wd_l105, wd_l106, wd_l107, wd_l108, wd_l109, wd_l110, wd_l111, wd_l112, wd_l113, wd_l114, wd_l115, wd_l116, wd_l117, wd_l118, wd_l119, wd_l120, wd_l121, wd_l122, wd_l123, wd_l124]); omega)))); (intro v9 hv9; (try simp (disch := omega) only [ab_tI, ab_c0, wd_ix12, wd_ix8, wd_ix10, wd_up_self, wd_up_eq, wd_up_ne, Int.toNat_natCast, Int.toNat_of_nonneg, not_true_eq_false, not_false_eq_true, Option.some.injEq] at hv9); subst hv9))
    | (refine i_brF (by decide) ?_)
    | (refine i_brT (by decide) ?_)
    | (refine ⟨fun hc => ?_, fun hc => ?_⟩ <;> (try simp (disch := omega) only [ab_tI, ab_c0, wd_ix12, wd_ix8, wd_ix10, wd_up_self, wd_up_eq, wd_up_ne, Int.toNat_natCast, Int.toNat_of_nonneg, not_true_eq_false, not_false_eq_true, Option.some.injEq] at hc) <;> first | (exfalso; omega) | skip)
    | (apply i_cv; (focus (exact rfl)))
    | (apply w_balM; (focus (exact (by first | exact ⟨by decide, by decide⟩ | ((try simp (disch := omega) only [ab_tI, ab_c0, wd_ix12, wd_ix8, wd_ix10, wd_up_self, wd_up_eq, wd_up_ne, Int.toNat_natCast, Int.toNat_of_nonneg, not_true_eq_false, not_false_eq_true, Option.some.injEq, wd_l103, wd_l104, wd_l105, wd_l106, wd_l107, wd_l108, wd_l109, wd_l110, wd_l111, wd_l112, wd_l113, wd_l114, wd_l115, wd_l116, wd_l117, wd_l118, wd_l119, wd_l120, wd_l121, wd_l122, wd_l123, wd_l124]); omega)))); (intro v9 hv9; (try simp (disch := omega) only [ab_tI, ab_c0, wd_ix12, wd_ix8, wd_ix10, wd_up_self, wd_up_eq, wd_up_ne, Int.toNat_natCast, Int.toNat_of_nonneg, not_true_eq_false, not_false_eq_true, Option.some.injEq] at hv9); subst hv9))
    | (apply w_basM; (focus (exact (by first | exact ⟨by decide, by decide⟩ | ((try simp (disch := omega) only [ab_tI, ab_c0, wd_ix12, wd_ix8, wd_ix10, wd_up_self, wd_up_eq, wd_up_ne, Int.toNat_natCast, Int.toNat_of_nonneg, not_true_eq_false, not_false_eq_true, Option.some.injEq, wd_l103, wd_l104, wd_l105, wd_l106, wd_l107, wd_l108, wd_l109, wd_l110, wd_l111, wd_l112, wd_l113, wd_l114, wd_l115, wd_l116, wd_l117, wd_l118, wd_l119, wd_l120, wd_l121, wd_l122, wd_l123, wd_l124]); omega)))); (focus (first | exact Or.inl rfl | exact Or.inr rfl)); (intro v9 hv9; (try simp (disch := omega) only [ab_tI, ab_c0, wd_ix12, wd_ix8, wd_ix10, wd_up_self, wd_up_eq, wd_up_ne, Int.toNat_natCast, Int.toNat_of_nonneg, not_true_eq_false, not_false_eq_true, Option.some.injEq] at hv9); subst hv9))
    | (refine And.intro trivial ?_)
    | (refine And.intro (Or.inl rfl) ?_)
    | (refine And.intro (Or.inr rfl) ?_)
    | (refine And.intro (by ((try simp (disch := omega) only [ab_tI, ab_c0, wd_ix12, wd_ix8, wd_ix10, wd_up_self, wd_up_eq, wd_up_ne, Int.toNat_natCast, Int.toNat_of_nonneg, not_true_eq_false, not_false_eq_true, Option.some.injEq]); omega)) ?_)
    | fail)
      all_goals (exfalso; omega)

set_option maxHeartbeats 4000000 in
set_option maxRecDepth 100000 in
theorem x_path_c {d : Nat} (hd : 2 ≤ d) {I : wd_I} {P : wd_P} {M : wd_I} {g : Nat → ab_C} {k z n : Nat} {p : Int32} {Q : ab_Q} (hp : 0 ≤ p.toInt ∧ p.toInt ≤ 7) (hn : n ≤ 8) (hQ : Q (some (.inl (ab_ii (n : Int)))) (wd I P (wd_up (m_pcp M p.toInt.toNat n) 115 p.toInt.toNat (ab_ii (n : Int))) g, k, z)) : ∀ r j : Nat, j + r = n → ab_WB d 159 Q 109 [(0, wd_v 102), (1, .inl p), (2, .inl (ab_ii (n : Int))), (3, .inl (ab_ii (j : Int)))] [] (wd I P (m_pcp M p.toInt.toNat j) g, k, z)
  | 0, j, hj => by
    have e : j = n := by omega
    subst e
    refine wd_rnC rfl ?_
    intro C9 X9 hC9 hX9
    repeat' ((conv => whnf); first
    | (intro v9 hv9; (try simp (disch := omega) only [ab_tI, ab_c0, wd_ix12, wd_ix8, wd_ix10, wd_up_self, wd_up_eq, wd_up_ne, Int.toNat_natCast, Int.toNat_of_nonneg, not_true_eq_false, not_false_eq_true, Option.some.injEq, m_pcp_ne] at hv9); subst hv9)
    | (apply i_get; (focus (exact rfl)); (focus (exact rfl)))
    | (refine hX9 _ _ _ _ (wd_rnC rfl ?_); clear hC9 hX9 X9 C9; intro C9 X9 hC9 hX9)
    | (apply w_ialM; (focus (exact rfl)); (focus (exact (by first | exact ⟨by decide, by decide⟩ | ((try simp (disch := omega) only [ab_tI, ab_c0, wd_ix12, wd_ix8, wd_ix10, wd_up_self, wd_up_eq, wd_up_ne, Int.toNat_natCast, Int.toNat_of_nonneg, not_true_eq_false, not_false_eq_true, Option.some.injEq, m_pcp_ne, wd_l103, wd_l104, wd_l105, wd_l106, wd_l107, wd_l108, wd_l109, wd_l110, wd_l111, wd_l112, wd_l113, wd_l114, wd_l115, wd_l116, wd_l117, wd_l118, wd_l119, wd_l120, wd_l121, wd_l122, wd_l123, wd_l124]); omega)))); (intro v9 hv9; (try simp (disch := omega) only [ab_tI, ab_c0, wd_ix12, wd_ix8, wd_ix10, wd_up_self, wd_up_eq, wd_up_ne, Int.toNat_natCast, Int.toNat_of_nonneg, not_true_eq_false, not_false_eq_true, Option.some.injEq, m_pcp_ne] at hv9); subst hv9))
    | (apply w_putM; (focus (exact rfl)); (focus (first | exact trivial | exact Or.inl rfl | exact Or.inr rfl)); (focus (exact rfl)))
    | (apply w_iasM; (focus (exact rfl)); (focus (exact (by first | exact ⟨by decide, by decide⟩ | ((try simp (disch := omega) only [ab_tI, ab_c0, wd_ix12, wd_ix8, wd_ix10, wd_up_self, wd_up_eq, wd_up_ne, Int.toNat_natCast, Int.toNat_of_nonneg, not_true_eq_false, not_false_eq_true, Option.some.injEq, m_pcp_ne, wd_l103, wd_l104, wd_l105, wd_l106, wd_l107, wd_l108, wd_l109, wd_l110, wd_l111, wd_l112, wd_l113, wd_l114, wd_l115, wd_l116, wd_l117, wd_l118, wd_l119, wd_l120, wd_l121, wd_l122, wd_l123, wd_l124]); omega)))); (intro v9 hv9; (try simp (disch := omega) only [ab_tI, ab_c0, wd_ix12, wd_ix8, wd_ix10, wd_up_self, wd_up_eq, wd_up_ne, Int.toNat_natCast, Int.toNat_of_nonneg, not_true_eq_false, not_false_eq_true, Option.some.injEq, m_pcp_ne] at hv9); subst hv9))
    | (refine i_brF (by decide) ?_)
    | (refine i_brT (by decide) ?_)
    | (refine ⟨fun hc => ?_, fun hc => ?_⟩ <;> (try simp (disch := omega) only [ab_tI, ab_c0, wd_ix12, wd_ix8, wd_ix10, wd_up_self, wd_up_eq, wd_up_ne, Int.toNat_natCast, Int.toNat_of_nonneg, not_true_eq_false, not_false_eq_true, Option.some.injEq, m_pcp_ne] at hc) <;> first | (exfalso; omega) | skip)
    | (apply i_cv; (focus (exact rfl)))
    | (apply w_balM; (focus (exact (by first | exact ⟨by decide, by decide⟩ | ((try simp (disch := omega) only [ab_tI, ab_c0, wd_ix12, wd_ix8, wd_ix10, wd_up_self, wd_up_eq, wd_up_ne, Int.toNat_natCast, Int.toNat_of_nonneg, not_true_eq_false, not_false_eq_true, Option.some.injEq, m_pcp_ne, wd_l103, wd_l104, wd_l105, wd_l106, wd_l107, wd_l108, wd_l109, wd_l110, wd_l111, wd_l112, wd_l113, wd_l114, wd_l115, wd_l116, wd_l117, wd_l118, wd_l119, wd_l120, wd_l121, wd_l122, wd_l123, wd_l124]); omega)))); (intro v9 hv9; (try simp (disch := omega) only [ab_tI, ab_c0, wd_ix12, wd_ix8, wd_ix10, wd_up_self, wd_up_eq, wd_up_ne, Int.toNat_natCast, Int.toNat_of_nonneg, not_true_eq_false, not_false_eq_true, Option.some.injEq, m_pcp_ne] at hv9); subst hv9))
    | (apply w_basM; (focus (exact (by first | exact ⟨by decide, by decide⟩ | ((try simp (disch := omega) only [ab_tI, ab_c0, wd_ix12, wd_ix8, wd_ix10, wd_up_self, wd_up_eq, wd_up_ne, Int.toNat_natCast, Int.toNat_of_nonneg, not_true_eq_false, not_false_eq_true, Option.some.injEq, m_pcp_ne, wd_l103, wd_l104, wd_l105, wd_l106, wd_l107, wd_l108, wd_l109, wd_l110, wd_l111, wd_l112, wd_l113, wd_l114, wd_l115, wd_l116, wd_l117, wd_l118, wd_l119, wd_l120, wd_l121, wd_l122, wd_l123, wd_l124]); omega)))); (focus (first | exact Or.inl rfl | exact Or.inr rfl)); (intro v9 hv9; (try simp (disch := omega) only [ab_tI, ab_c0, wd_ix12, wd_ix8, wd_ix10, wd_up_self, wd_up_eq, wd_up_ne, Int.toNat_natCast, Int.toNat_of_nonneg, not_true_eq_false, not_false_eq_true, Option.some.injEq, m_pcp_ne] at hv9); subst hv9))
    | (refine And.intro trivial ?_)
    | (refine And.intro (Or.inl rfl) ?_)
    | (refine And.intro (Or.inr rfl) ?_)
    | (refine And.intro (by ((try simp (disch := omega) only [ab_tI, ab_c0, wd_ix12, wd_ix8, wd_ix10, wd_up_self, wd_up_eq, wd_up_ne, Int.toNat_natCast, Int.toNat_of_nonneg, not_true_eq_false, not_false_eq_true, Option.some.injEq, m_pcp_ne]); omega)) ?_)
    | fail)
    exact hQ
  | r + 1, j, hj => by
    have ih := x_path_c hd hp hn hQ r (j + 1) (by omega)
    refine wd_rnC rfl ?_
    intro C9 X9 hC9 hX9
    repeat' ((conv => whnf); first
    | (refine hX9 109 _ _ _ (ab_WB_sub ?_ ih); (repeat (first | exact ab_sub0 | (refine ab_sub1 ?_ ?_; (focus ((repeat (refine ab_skip rfl ?_)); first | exact List.mem_cons_self))))))
    | (intro v9 hv9; (try simp (disch := omega) only [ab_tI, ab_c0, wd_ix12, wd_ix8, wd_ix10, wd_up_self, wd_up_eq, wd_up_ne, Int.toNat_natCast, Int.toNat_of_nonneg, not_true_eq_false, not_false_eq_true, Option.some.injEq, m_pcp_ne] at hv9); subst hv9)
    | (apply i_get; (focus (exact rfl)); (focus (exact rfl)))
    | (refine hX9 _ _ _ _ (wd_rnC rfl ?_); clear hC9 hX9 X9 C9; intro C9 X9 hC9 hX9)
    | (apply w_ialM; (focus (exact rfl)); (focus (exact (by first | exact ⟨by decide, by decide⟩ | ((try simp (disch := omega) only [ab_tI, ab_c0, wd_ix12, wd_ix8, wd_ix10, wd_up_self, wd_up_eq, wd_up_ne, Int.toNat_natCast, Int.toNat_of_nonneg, not_true_eq_false, not_false_eq_true, Option.some.injEq, m_pcp_ne, wd_l103, wd_l104, wd_l105, wd_l106, wd_l107, wd_l108, wd_l109, wd_l110, wd_l111, wd_l112, wd_l113, wd_l114, wd_l115, wd_l116, wd_l117, wd_l118, wd_l119, wd_l120, wd_l121, wd_l122, wd_l123, wd_l124]); omega)))); (intro v9 hv9; (try simp (disch := omega) only [ab_tI, ab_c0, wd_ix12, wd_ix8, wd_ix10, wd_up_self, wd_up_eq, wd_up_ne, Int.toNat_natCast, Int.toNat_of_nonneg, not_true_eq_false, not_false_eq_true, Option.some.injEq, m_pcp_ne] at hv9); subst hv9))
    | (apply w_putM; (focus (exact rfl)); (focus (first | exact trivial | exact Or.inl rfl | exact Or.inr rfl)); (focus (exact rfl)))
    | (apply w_iasM; (focus (exact rfl)); (focus (exact (by first | exact ⟨by decide, by decide⟩ | ((try simp (disch := omega) only [ab_tI, ab_c0, wd_ix12, wd_ix8, wd_ix10, wd_up_self, wd_up_eq, wd_up_ne, Int.toNat_natCast, Int.toNat_of_nonneg, not_true_eq_false, not_false_eq_true, Option.some.injEq, m_pcp_ne, wd_l103, wd_l104, wd_l105, wd_l106, wd_l107, wd_l108, wd_l109, wd_l110, wd_l111, wd_l112, wd_l113, wd_l114, wd_l115, wd_l116, wd_l117, wd_l118, wd_l119, wd_l120, wd_l121, wd_l122, wd_l123, wd_l124]); omega)))); (intro v9 hv9; (try simp (disch := omega) only [ab_tI, ab_c0, wd_ix12, wd_ix8, wd_ix10, wd_up_self, wd_up_eq, wd_up_ne, Int.toNat_natCast, Int.toNat_of_nonneg, not_true_eq_false, not_false_eq_true, Option.some.injEq, m_pcp_ne] at hv9); subst hv9))
    | (refine i_brF (by decide) ?_)
    | (refine i_brT (by decide) ?_)
    | (refine ⟨fun hc => ?_, fun hc => ?_⟩ <;> (try simp (disch := omega) only [ab_tI, ab_c0, wd_ix12, wd_ix8, wd_ix10, wd_up_self, wd_up_eq, wd_up_ne, Int.toNat_natCast, Int.toNat_of_nonneg, not_true_eq_false, not_false_eq_true, Option.some.injEq, m_pcp_ne] at hc) <;> first | (exfalso; omega) | skip)
    | (apply i_cv; (focus (exact rfl)))
    | (apply w_balM; (focus (exact (by first | exact ⟨by decide, by decide⟩ | ((try simp (disch := omega) only [ab_tI, ab_c0, wd_ix12, wd_ix8, wd_ix10, wd_up_self, wd_up_eq, wd_up_ne, Int.toNat_natCast, Int.toNat_of_nonneg, not_true_eq_false, not_false_eq_true, Option.some.injEq, m_pcp_ne, wd_l103, wd_l104, wd_l105, wd_l106, wd_l107, wd_l108, wd_l109, wd_l110, wd_l111, wd_l112, wd_l113, wd_l114, wd_l115, wd_l116, wd_l117, wd_l118, wd_l119, wd_l120, wd_l121, wd_l122, wd_l123, wd_l124]); omega)))); (intro v9 hv9; (try simp (disch := omega) only [ab_tI, ab_c0, wd_ix12, wd_ix8, wd_ix10, wd_up_self, wd_up_eq, wd_up_ne, Int.toNat_natCast, Int.toNat_of_nonneg, not_true_eq_false, not_false_eq_true, Option.some.injEq, m_pcp_ne] at hv9); subst hv9))
    | (apply w_basM; (focus (exact (by first | exact ⟨by decide, by decide⟩ | ((try simp (disch := omega) only [ab_tI, ab_c0, wd_ix12, wd_ix8, wd_ix10, wd_up_self, wd_up_eq, wd_up_ne, Int.toNat_natCast, Int.toNat_of_nonneg, not_true_eq_false, not_false_eq_true, Option.some.injEq, m_pcp_ne, wd_l103, wd_l104, wd_l105, wd_l106, wd_l107, wd_l108, wd_l109, wd_l110, wd_l111, wd_l112, wd_l113, wd_l114, wd_l115, wd_l116, wd_l117, wd_l118, wd_l119, wd_l120, wd_l121, wd_l122, wd_l123, wd_l124]); omega)))); (focus (first | exact Or.inl rfl | exact Or.inr rfl)); (intro v9 hv9; (try simp (disch := omega) only [ab_tI, ab_c0, wd_ix12, wd_ix8, wd_ix10, wd_up_self, wd_up_eq, wd_up_ne, Int.toNat_natCast, Int.toNat_of_nonneg, not_true_eq_false, not_false_eq_true, Option.some.injEq, m_pcp_ne] at hv9); subst hv9))
    | (refine And.intro trivial ?_)
    | (refine And.intro (Or.inl rfl) ?_)
    | (refine And.intro (Or.inr rfl) ?_)
    | (refine And.intro (by ((try simp (disch := omega) only [ab_tI, ab_c0, wd_ix12, wd_ix8, wd_ix10, wd_up_self, wd_up_eq, wd_up_ne, Int.toNat_natCast, Int.toNat_of_nonneg, not_true_eq_false, not_false_eq_true, Option.some.injEq, m_pcp_ne]); omega)) ?_)
    | fail)
    all_goals (exfalso; omega)

set_option maxHeartbeats 4000000 in
set_option maxRecDepth 100000 in
theorem x_path {d : Nat} (hd : 6 ≤ d) {I : wd_I} {P : wd_P} {M : wd_I} {g : Nat → ab_C} {k z : Nat} {p : Int32} {Q : ab_Q} (htp : 0 ≤ (M 102 22).toInt ∧ (M 102 22).toInt ≤ 100)
    (hb : ¬ m_pa p → Q (some (.inl (ab_ii (-2)))) (wd I P M g, k, z))
    (hF : m_pa p → ¬ (m_p2 M 102 24).toInt = -1 → Q (some (.inl (ab_ii (-100 - (m_p2 M 102 24).toInt)))) (wd I P (m_p2 M) g, k, z))
    (hD : m_pa p → (m_p2 M 102 24).toInt = -1 → Q (some (.inl (ab_ii ((m_p1 M).2 : Int)))) (wd I P (m_p3 M p.toInt.toNat) g, k, z)) : ab_CT d 159 [wd_v 102, .inl p] (wd I P M g, k, z) Q := by
  by_cases hs : m_pa p
  · have hF1 := hF hs
    have hD1 := hD hs
    clear hb hF hD
    unfold m_pa at hs
    have ht0 : m_tp (m_p0 M) ∧ m_pt (m_p0 M) = 1 := by
      have e1 : m_p0 M 102 23 = ab_ii 0 := by unfold m_p0; rw [wd_up_ne _ _ (by omega), wd_up_self]
      have e2 : m_p0 M 102 24 = ab_ii (-1) := by unfold m_p0; rw [wd_up_self]
      have e3 : m_p0 M 102 22 = M 102 22 := by unfold m_p0; rw [wd_up_ne _ _ (by omega), wd_up_ne _ _ (by omega)]
      unfold m_tp m_pt
      rw [e1, e2, e3]
      exact ⟨⟨by decide, htp.1, htp.2⟩, by decide⟩
    have hK : ∀ (N : wd_I) (n : Nat), (N, n) = ((m_p1 M).1, (m_p1 M).2) → m_tp N → n ≤ 8 → ab_WB d 159 Q 87 [(0, wd_v 102), (1, .inl p), (2, .inl (ab_ii (n : Int)))] [] (wd I P N g, k, z) := fun N n hN htN h8 => by
      have eN : (m_p1 M).1 = N := (Prod.ext_iff.mp hN).1.symm
      have en : (m_p1 M).2 = n := (Prod.ext_iff.mp hN).2.symm
      unfold m_p3 m_p2 at hD1
      unfold m_p2 at hF1
      rw [eN, en] at hD1
      rw [eN] at hF1
      have e24 : wd_up N 102 22 (ab_ii 0) 102 24 = N 102 24 := wd_up_ne _ _ (by omega)
      rw [e24] at hD1 hF1
      obtain ⟨q1, q2, q3⟩ := htN
      have hl := fun h => x_path_c (d := d) (by omega) (I := I) (P := P) (M := wd_up N 102 22 (ab_ii 0)) (g := g) (k := k) (z := z) (Q := Q) hs h8 (hD1 h) n 0 (by omega)
      refine wd_rnC rfl ?_
      intro C9 X9 hC9 hX9
      repeat' ((conv => whnf); first
    | (refine hC9 145 _ _ _ (x_isFault (M := wd_up N 102 22 (ab_ii 0)) (by omega) (fun hc => ?_) (fun hc => ?_)) <;> rw [e24] at hc)
    | (refine hX9 109 _ _ _ (ab_WB_sub ?_ (hl (by omega))); (repeat (first | exact ab_sub0 | (refine ab_sub1 ?_ ?_; (focus ((repeat (refine ab_skip rfl ?_)); first | exact List.mem_cons_self))))))
    | (intro v9 hv9; (try simp (disch := omega) only [ab_tI, ab_c0, wd_ix12, wd_ix8, wd_ix10, wd_up_self, wd_up_eq, wd_up_ne, Int.toNat_natCast, Int.toNat_of_nonneg, not_true_eq_false, not_false_eq_true, Option.some.injEq] at hv9); subst hv9)
    | (apply i_get; (focus (exact rfl)); (focus (exact rfl)))
    | (refine hX9 _ _ _ _ (wd_rnC rfl ?_); clear hC9 hX9 X9 C9; intro C9 X9 hC9 hX9)
    | (apply w_ialM; (focus (exact rfl)); (focus (exact (by first | exact ⟨by decide, by decide⟩ | ((try simp (disch := omega) only [ab_tI, ab_c0, wd_ix12, wd_ix8, wd_ix10, wd_up_self, wd_up_eq, wd_up_ne, Int.toNat_natCast, Int.toNat_of_nonneg, not_true_eq_false, not_false_eq_true, Option.some.injEq, wd_l103, wd_l104, wd_l105, wd_l106, wd_l107, wd_l108, wd_l109, wd_l110, wd_l111, wd_l112, wd_l113, wd_l114, wd_l115, wd_l116, wd_l117, wd_l118, wd_l119, wd_l120, wd_l121, wd_l122, wd_l123, wd_l124]); omega)))); (intro v9 hv9; (try simp (disch := omega) only [ab_tI, ab_c0, wd_ix12, wd_ix8, wd_ix10, wd_up_self, wd_up_eq, wd_up_ne, Int.toNat_natCast, Int.toNat_of_nonneg, not_true_eq_false, not_false_eq_true, Option.some.injEq] at hv9); subst hv9))
    | (apply w_putM; (focus (exact rfl)); (focus (first | exact trivial | exact Or.inl rfl | exact Or.inr rfl)); (focus (exact rfl)))
    | (apply w_iasM; (focus (exact rfl)); (focus (exact (by first | exact ⟨by decide, by decide⟩ | ((try simp (disch := omega) only [ab_tI, ab_c0, wd_ix12, wd_ix8, wd_ix10, wd_up_self, wd_up_eq, wd_up_ne, Int.toNat_natCast, Int.toNat_of_nonneg, not_true_eq_false, not_false_eq_true, Option.some.injEq, wd_l103, wd_l104, wd_l105, wd_l106, wd_l107, wd_l108, wd_l109, wd_l110, wd_l111, wd_l112, wd_l113, wd_l114, wd_l115, wd_l116, wd_l117, wd_l118, wd_l119, wd_l120, wd_l121, wd_l122, wd_l123, wd_l124]); omega)))); (intro v9 hv9; (try simp (disch := omega) only [ab_tI, ab_c0, wd_ix12, wd_ix8, wd_ix10, wd_up_self, wd_up_eq, wd_up_ne, Int.toNat_natCast, Int.toNat_of_nonneg, not_true_eq_false, not_false_eq_true, Option.some.injEq] at hv9); subst hv9))
    | (refine i_brF (by decide) ?_)
    | (refine i_brT (by decide) ?_)
    | (refine ⟨fun hc => ?_, fun hc => ?_⟩ <;> (try simp (disch := omega) only [ab_tI, ab_c0, wd_ix12, wd_ix8, wd_ix10, wd_up_self, wd_up_eq, wd_up_ne, Int.toNat_natCast, Int.toNat_of_nonneg, not_true_eq_false, not_false_eq_true, Option.some.injEq] at hc) <;> first | (exfalso; omega) | skip)
    | (apply i_cv; (focus (exact rfl)))
    | (apply w_balM; (focus (exact (by first | exact ⟨by decide, by decide⟩ | ((try simp (disch := omega) only [ab_tI, ab_c0, wd_ix12, wd_ix8, wd_ix10, wd_up_self, wd_up_eq, wd_up_ne, Int.toNat_natCast, Int.toNat_of_nonneg, not_true_eq_false, not_false_eq_true, Option.some.injEq, wd_l103, wd_l104, wd_l105, wd_l106, wd_l107, wd_l108, wd_l109, wd_l110, wd_l111, wd_l112, wd_l113, wd_l114, wd_l115, wd_l116, wd_l117, wd_l118, wd_l119, wd_l120, wd_l121, wd_l122, wd_l123, wd_l124]); omega)))); (intro v9 hv9; (try simp (disch := omega) only [ab_tI, ab_c0, wd_ix12, wd_ix8, wd_ix10, wd_up_self, wd_up_eq, wd_up_ne, Int.toNat_natCast, Int.toNat_of_nonneg, not_true_eq_false, not_false_eq_true, Option.some.injEq] at hv9); subst hv9))
    | (apply w_basM; (focus (exact (by first | exact ⟨by decide, by decide⟩ | ((try simp (disch := omega) only [ab_tI, ab_c0, wd_ix12, wd_ix8, wd_ix10, wd_up_self, wd_up_eq, wd_up_ne, Int.toNat_natCast, Int.toNat_of_nonneg, not_true_eq_false, not_false_eq_true, Option.some.injEq, wd_l103, wd_l104, wd_l105, wd_l106, wd_l107, wd_l108, wd_l109, wd_l110, wd_l111, wd_l112, wd_l113, wd_l114, wd_l115, wd_l116, wd_l117, wd_l118, wd_l119, wd_l120, wd_l121, wd_l122, wd_l123, wd_l124]); omega)))); (focus (first | exact Or.inl rfl | exact Or.inr rfl)); (intro v9 hv9; (try simp (disch := omega) only [ab_tI, ab_c0, wd_ix12, wd_ix8, wd_ix10, wd_up_self, wd_up_eq, wd_up_ne, Int.toNat_natCast, Int.toNat_of_nonneg, not_true_eq_false, not_false_eq_true, Option.some.injEq] at hv9); subst hv9))
    | (refine And.intro trivial ?_)
    | (refine And.intro (Or.inl rfl) ?_)
    | (refine And.intro (Or.inr rfl) ?_)
    | (refine And.intro (by ((try simp (disch := omega) only [ab_tI, ab_c0, wd_ix12, wd_ix8, wd_ix10, wd_up_self, wd_up_eq, wd_up_ne, Int.toNat_natCast, Int.toNat_of_nonneg, not_true_eq_false, not_false_eq_true, Option.some.injEq]); omega)) ?_)
    | fail)
      all_goals first | exact hF1 (by omega) | (exfalso; omega)
    have hl := x_path_l (p := p) hd hK 102 0 (m_p0 M) ht0.1 (by omega) (by have := ht0.2; omega) rfl
    have e0 : wd_up (wd_up M 102 23 (ab_ii 0)) 102 24 (ab_ii (-1)) = m_p0 M := rfl
    refine wd_inC rfl (by omega) rfl ?_
    intro C9 X9 hC9 hX9
    repeat' ((conv => whnf); first
    | (refine hC9 135 _ _ _ (x_isPath (by omega) (fun hc hc2 => ?_) (fun hc => ?_)); (try (exfalso; omega)))
    | (refine hX9 22 _ _ _ (ab_WB_sub ?_ hl); (repeat (first | exact ab_sub0 | (refine ab_sub1 ?_ ?_; (focus ((repeat (refine ab_skip rfl ?_)); first | exact List.mem_cons_self))))))
    | (intro v9 hv9; (try simp (disch := omega) only [ab_tI, ab_c0, wd_ix12, wd_ix8, wd_ix10, wd_up_self, wd_up_eq, wd_up_ne, Int.toNat_natCast, Int.toNat_of_nonneg, not_true_eq_false, not_false_eq_true, Option.some.injEq] at hv9); subst hv9)
    | (apply i_get; (focus (exact rfl)); (focus (exact rfl)))
    | (refine hX9 _ _ _ _ (wd_rnC rfl ?_); clear hC9 hX9 X9 C9; intro C9 X9 hC9 hX9)
    | (apply w_ialM; (focus (exact rfl)); (focus (exact (by first | exact ⟨by decide, by decide⟩ | ((try simp (disch := omega) only [ab_tI, ab_c0, wd_ix12, wd_ix8, wd_ix10, wd_up_self, wd_up_eq, wd_up_ne, Int.toNat_natCast, Int.toNat_of_nonneg, not_true_eq_false, not_false_eq_true, Option.some.injEq, wd_l103, wd_l104, wd_l105, wd_l106, wd_l107, wd_l108, wd_l109, wd_l110, wd_l111, wd_l112, wd_l113, wd_l114, wd_l115, wd_l116, wd_l117, wd_l118, wd_l119, wd_l120, wd_l121, wd_l122, wd_l123, wd_l124]); omega)))); (intro v9 hv9; (try simp (disch := omega) only [ab_tI, ab_c0, wd_ix12, wd_ix8, wd_ix10, wd_up_self, wd_up_eq, wd_up_ne, Int.toNat_natCast, Int.toNat_of_nonneg, not_true_eq_false, not_false_eq_true, Option.some.injEq] at hv9); subst hv9))
    | (apply w_putM; (focus (exact rfl)); (focus (first | exact trivial | exact Or.inl rfl | exact Or.inr rfl)); (focus (exact rfl)))
    | (apply w_iasM; (focus (exact rfl)); (focus (exact (by first | exact ⟨by decide, by decide⟩ | ((try simp (disch := omega) only [ab_tI, ab_c0, wd_ix12, wd_ix8, wd_ix10, wd_up_self, wd_up_eq, wd_up_ne, Int.toNat_natCast, Int.toNat_of_nonneg, not_true_eq_false, not_false_eq_true, Option.some.injEq, wd_l103, wd_l104, wd_l105, wd_l106, wd_l107, wd_l108, wd_l109, wd_l110, wd_l111, wd_l112, wd_l113, wd_l114, wd_l115, wd_l116, wd_l117, wd_l118, wd_l119, wd_l120, wd_l121, wd_l122, wd_l123, wd_l124]); omega)))); (intro v9 hv9; (try simp (disch := omega) only [ab_tI, ab_c0, wd_ix12, wd_ix8, wd_ix10, wd_up_self, wd_up_eq, wd_up_ne, Int.toNat_natCast, Int.toNat_of_nonneg, not_true_eq_false, not_false_eq_true, Option.some.injEq] at hv9); subst hv9))
    | (refine i_brF (by decide) ?_)
    | (refine i_brT (by decide) ?_)
    | (refine ⟨fun hc => ?_, fun hc => ?_⟩ <;> (try simp (disch := omega) only [ab_tI, ab_c0, wd_ix12, wd_ix8, wd_ix10, wd_up_self, wd_up_eq, wd_up_ne, Int.toNat_natCast, Int.toNat_of_nonneg, not_true_eq_false, not_false_eq_true, Option.some.injEq] at hc) <;> first | (exfalso; omega) | skip)
    | (apply i_cv; (focus (exact rfl)))
    | (apply w_balM; (focus (exact (by first | exact ⟨by decide, by decide⟩ | ((try simp (disch := omega) only [ab_tI, ab_c0, wd_ix12, wd_ix8, wd_ix10, wd_up_self, wd_up_eq, wd_up_ne, Int.toNat_natCast, Int.toNat_of_nonneg, not_true_eq_false, not_false_eq_true, Option.some.injEq, wd_l103, wd_l104, wd_l105, wd_l106, wd_l107, wd_l108, wd_l109, wd_l110, wd_l111, wd_l112, wd_l113, wd_l114, wd_l115, wd_l116, wd_l117, wd_l118, wd_l119, wd_l120, wd_l121, wd_l122, wd_l123, wd_l124]); omega)))); (intro v9 hv9; (try simp (disch := omega) only [ab_tI, ab_c0, wd_ix12, wd_ix8, wd_ix10, wd_up_self, wd_up_eq, wd_up_ne, Int.toNat_natCast, Int.toNat_of_nonneg, not_true_eq_false, not_false_eq_true, Option.some.injEq] at hv9); subst hv9))
    | (apply w_basM; (focus (exact (by first | exact ⟨by decide, by decide⟩ | ((try simp (disch := omega) only [ab_tI, ab_c0, wd_ix12, wd_ix8, wd_ix10, wd_up_self, wd_up_eq, wd_up_ne, Int.toNat_natCast, Int.toNat_of_nonneg, not_true_eq_false, not_false_eq_true, Option.some.injEq, wd_l103, wd_l104, wd_l105, wd_l106, wd_l107, wd_l108, wd_l109, wd_l110, wd_l111, wd_l112, wd_l113, wd_l114, wd_l115, wd_l116, wd_l117, wd_l118, wd_l119, wd_l120, wd_l121, wd_l122, wd_l123, wd_l124]); omega)))); (focus (first | exact Or.inl rfl | exact Or.inr rfl)); (intro v9 hv9; (try simp (disch := omega) only [ab_tI, ab_c0, wd_ix12, wd_ix8, wd_ix10, wd_up_self, wd_up_eq, wd_up_ne, Int.toNat_natCast, Int.toNat_of_nonneg, not_true_eq_false, not_false_eq_true, Option.some.injEq] at hv9); subst hv9))
    | (refine And.intro trivial ?_)
    | (refine And.intro (Or.inl rfl) ?_)
    | (refine And.intro (Or.inr rfl) ?_)
    | (refine And.intro (by ((try simp (disch := omega) only [ab_tI, ab_c0, wd_ix12, wd_ix8, wd_ix10, wd_up_self, wd_up_eq, wd_up_ne, Int.toNat_natCast, Int.toNat_of_nonneg, not_true_eq_false, not_false_eq_true, Option.some.injEq]); omega)) ?_)
    | fail)
    all_goals (exfalso; omega)
  · have hb1 := hb hs
    clear hb hF hD
    unfold m_pa at hs
    refine wd_inC rfl (by omega) rfl ?_
    intro C9 X9 hC9 hX9
    repeat' ((conv => whnf); first
    | (refine hC9 135 _ _ _ (x_isPath (by omega) (fun hc hc2 => ?_) (fun hc => ?_)); (try (exfalso; omega)))
    | (intro v9 hv9; (try simp (disch := omega) only [ab_tI, ab_c0, wd_ix12, wd_ix8, wd_ix10, wd_up_self, wd_up_eq, wd_up_ne, Int.toNat_natCast, Int.toNat_of_nonneg, not_true_eq_false, not_false_eq_true, Option.some.injEq] at hv9); subst hv9)
    | (apply i_get; (focus (exact rfl)); (focus (exact rfl)))
    | (refine hX9 _ _ _ _ (wd_rnC rfl ?_); clear hC9 hX9 X9 C9; intro C9 X9 hC9 hX9)
    | (apply w_ialM; (focus (exact rfl)); (focus (exact (by first | exact ⟨by decide, by decide⟩ | ((try simp (disch := omega) only [ab_tI, ab_c0, wd_ix12, wd_ix8, wd_ix10, wd_up_self, wd_up_eq, wd_up_ne, Int.toNat_natCast, Int.toNat_of_nonneg, not_true_eq_false, not_false_eq_true, Option.some.injEq, wd_l103, wd_l104, wd_l105, wd_l106, wd_l107, wd_l108, wd_l109, wd_l110, wd_l111, wd_l112, wd_l113, wd_l114, wd_l115, wd_l116, wd_l117, wd_l118, wd_l119, wd_l120, wd_l121, wd_l122, wd_l123, wd_l124]); omega)))); (intro v9 hv9; (try simp (disch := omega) only [ab_tI, ab_c0, wd_ix12, wd_ix8, wd_ix10, wd_up_self, wd_up_eq, wd_up_ne, Int.toNat_natCast, Int.toNat_of_nonneg, not_true_eq_false, not_false_eq_true, Option.some.injEq] at hv9); subst hv9))
    | (apply w_putM; (focus (exact rfl)); (focus (first | exact trivial | exact Or.inl rfl | exact Or.inr rfl)); (focus (exact rfl)))
    | (apply w_iasM; (focus (exact rfl)); (focus (exact (by first | exact ⟨by decide, by decide⟩ | ((try simp (disch := omega) only [ab_tI, ab_c0, wd_ix12, wd_ix8, wd_ix10, wd_up_self, wd_up_eq, wd_up_ne, Int.toNat_natCast, Int.toNat_of_nonneg, not_true_eq_false, not_false_eq_true, Option.some.injEq, wd_l103, wd_l104, wd_l105, wd_l106, wd_l107, wd_l108, wd_l109, wd_l110, wd_l111, wd_l112, wd_l113, wd_l114, wd_l115, wd_l116, wd_l117, wd_l118, wd_l119, wd_l120, wd_l121, wd_l122, wd_l123, wd_l124]); omega)))); (intro v9 hv9; (try simp (disch := omega) only [ab_tI, ab_c0, wd_ix12, wd_ix8, wd_ix10, wd_up_self, wd_up_eq, wd_up_ne, Int.toNat_natCast, Int.toNat_of_nonneg, not_true_eq_false, not_false_eq_true, Option.some.injEq] at hv9); subst hv9))
    | (refine i_brF (by decide) ?_)
    | (refine i_brT (by decide) ?_)
    | (refine ⟨fun hc => ?_, fun hc => ?_⟩ <;> (try simp (disch := omega) only [ab_tI, ab_c0, wd_ix12, wd_ix8, wd_ix10, wd_up_self, wd_up_eq, wd_up_ne, Int.toNat_natCast, Int.toNat_of_nonneg, not_true_eq_false, not_false_eq_true, Option.some.injEq] at hc) <;> first | (exfalso; omega) | skip)
    | (apply i_cv; (focus (exact rfl)))
    | (apply w_balM; (focus (exact (by first | exact ⟨by decide, by decide⟩ | ((try simp (disch := omega) only [ab_tI, ab_c0, wd_ix12, wd_ix8, wd_ix10, wd_up_self, wd_up_eq, wd_up_ne, Int.toNat_natCast, Int.toNat_of_nonneg, not_true_eq_false, not_false_eq_true, Option.some.injEq, wd_l103, wd_l104, wd_l105, wd_l106, wd_l107, wd_l108, wd_l109, wd_l110, wd_l111, wd_l112, wd_l113, wd_l114, wd_l115, wd_l116, wd_l117, wd_l118, wd_l119, wd_l120, wd_l121, wd_l122, wd_l123, wd_l124]); omega)))); (intro v9 hv9; (try simp (disch := omega) only [ab_tI, ab_c0, wd_ix12, wd_ix8, wd_ix10, wd_up_self, wd_up_eq, wd_up_ne, Int.toNat_natCast, Int.toNat_of_nonneg, not_true_eq_false, not_false_eq_true, Option.some.injEq] at hv9); subst hv9))
    | (apply w_basM; (focus (exact (by first | exact ⟨by decide, by decide⟩ | ((try simp (disch := omega) only [ab_tI, ab_c0, wd_ix12, wd_ix8, wd_ix10, wd_up_self, wd_up_eq, wd_up_ne, Int.toNat_natCast, Int.toNat_of_nonneg, not_true_eq_false, not_false_eq_true, Option.some.injEq, wd_l103, wd_l104, wd_l105, wd_l106, wd_l107, wd_l108, wd_l109, wd_l110, wd_l111, wd_l112, wd_l113, wd_l114, wd_l115, wd_l116, wd_l117, wd_l118, wd_l119, wd_l120, wd_l121, wd_l122, wd_l123, wd_l124]); omega)))); (focus (first | exact Or.inl rfl | exact Or.inr rfl)); (intro v9 hv9; (try simp (disch := omega) only [ab_tI, ab_c0, wd_ix12, wd_ix8, wd_ix10, wd_up_self, wd_up_eq, wd_up_ne, Int.toNat_natCast, Int.toNat_of_nonneg, not_true_eq_false, not_false_eq_true, Option.some.injEq] at hv9); subst hv9))
    | (refine And.intro trivial ?_)
    | (refine And.intro (Or.inl rfl) ?_)
    | (refine And.intro (Or.inr rfl) ?_)
    | (refine And.intro (by ((try simp (disch := omega) only [ab_tI, ab_c0, wd_ix12, wd_ix8, wd_ix10, wd_up_self, wd_up_eq, wd_up_ne, Int.toNat_natCast, Int.toNat_of_nonneg, not_true_eq_false, not_false_eq_true, Option.some.injEq]); omega)) ?_)
    | fail)
    all_goals first | exact hb1 | (exfalso; omega)
end
section
/-! ===== the table: good rows (own text) ===== -/
/-- a row that is finished: its parts lie in D, nodes and height are those of its parts, keys in order -/
def m_gr (D : Int → Prop) (N : wd_I) (q : Nat) : Prop := ∃ s : Nat, (N 105 q).toInt = (s : Int) ∧ s ≤ 12 ∧ (0 ≤ (N 103 q).toInt ∧ (N 103 q).toInt ≤ 4) ∧ 0 ≤ (N 107 q).toInt ∧ (∀ j, j < s → 0 ≤ (N 108 (12 * q + j)).toInt ∧ D (N 108 (12 * q + j)).toInt ∧ (N 107 (N 108 (12 * q + j)).toInt.toNat).toInt < (N 107 q).toInt) ∧ (1 ≤ (N 106 q).toInt ∧ (N 106 q).toInt = m_nds N q s) ∧ ((N 103 q).toInt = 0 → s = 0) ∧ (¬ (N 103 q).toInt = 3 → ∀ j, j < s → (N 109 (12 * q + j)).toInt = 0) ∧ ((N 103 q).toInt = 3 → ∀ j, j + 1 < s → (N 109 (12 * q + j)).toInt < (N 109 (12 * q + (j + 1))).toInt)
/-- two tables alike at a row -/
def m_ra (N N' : wd_I) (q : Nat) : Prop := N' 103 q = N 103 q ∧ N' 104 q = N 104 q ∧ N' 105 q = N 105 q ∧ N' 106 q = N 106 q ∧ N' 107 q = N 107 q ∧ ∀ j, j < 12 → N' 108 (12 * q + j) = N 108 (12 * q + j) ∧ N' 109 (12 * q + j) = N 109 (12 * q + j)
theorem m_ra.rf {N : wd_I} {q : Nat} : m_ra N N q := ⟨rfl, rfl, rfl, rfl, rfl, fun _ _ => ⟨rfl, rfl⟩⟩
theorem m_ra.tr {N N' N'' : wd_I} {q : Nat} (h : m_ra N N' q) (h' : m_ra N' N'' q) : m_ra N N'' q := ⟨h'.1.trans h.1, h'.2.1.trans h.2.1, h'.2.2.1.trans h.2.2.1, h'.2.2.2.1.trans h.2.2.2.1, h'.2.2.2.2.1.trans h.2.2.2.2.1, fun j hj => ⟨(h'.2.2.2.2.2 j hj).1.trans (h.2.2.2.2.2 j hj).1, (h'.2.2.2.2.2 j hj).2.trans (h.2.2.2.2.2 j hj).2⟩⟩
theorem m_sb.ra {n : Int} {M N : wd_I} (h : m_sb n M N) {q : Nat} (hq : (q : Int) < n) : m_ra M N q := by
  obtain ⟨a1, a2, a3, a4, a5⟩ := h.1 q hq
  exact ⟨a1, a2, a3, a4, a5, fun j hj => h.2 (12 * q + j) (by omega)⟩
theorem m_nds_ra {N N' : wd_I} {q : Nat} : ∀ s, (∀ j, j < s → N' 108 (12 * q + j) = N 108 (12 * q + j) ∧ N' 106 (N 108 (12 * q + j)).toInt.toNat = N 106 (N 108 (12 * q + j)).toInt.toNat) → m_nds N' q s = m_nds N q s
  | 0, _ => rfl
  | s + 1, h => by
    unfold m_nds
    rw [m_nds_ra s (fun j hj => h j (by omega)), (h s (by omega)).1, (h s (by omega)).2]
theorem m_gr_ra {D D' : Int → Prop} {N N' : wd_I} {q : Nat} (h : m_gr D N q) (hq : m_ra N N' q) (hD : ∀ x : Int, 0 ≤ x → D x → m_ra N N' x.toNat) (hDD : ∀ x : Int, 0 ≤ x → D x → D' x) : m_gr D' N' q := by
  obtain ⟨s, a1, a2, a3, a4, a5, a6, a7, a8, a9⟩ := h
  obtain ⟨e3, e4, e5, e6, e7, e8⟩ := hq
  refine ⟨s, by rw [e5]; exact a1, a2, by rw [e3]; exact a3, by rw [e7]; exact a4, fun j hj => ?_, ?_, by rw [e3]; exact a7, fun h3 j hj => ?_, fun h3 j hj => ?_⟩
  · obtain ⟨b1, b2, b3⟩ := a5 j hj
    rw [(e8 j (by omega)).1, (hD _ b1 b2).2.2.2.2.1, e7]
    exact ⟨b1, hDD _ b1 b2, b3⟩
  · rw [e6, m_nds_ra s (fun j hj => ⟨(e8 j (by omega)).1, (hD _ (a5 j hj).1 (a5 j hj).2.1).2.2.2.1⟩)]
    exact a6
  · rw [(e8 j (by omega)).2]
    rw [e3] at h3
    exact a8 h3 j hj
  · rw [(e8 j (by omega)).2, (e8 (j + 1) (by omega)).2]
    rw [e3] at h3
    exact a9 h3 j hj
/-- the table up to n: all rows finished, within the bounds -/
def m_T (M : wd_I) (n : Int) : Prop := n ≤ 3120 ∧ ∀ t : Nat, (t : Int) < n → m_gr (fun x => x < n) M t ∧ (M 106 t).toInt ≤ 200 ∧ (M 107 t).toInt ≤ 12
theorem m_T.tb {M : wd_I} {n : Int} (h : m_T M n) : m_tb M n := by
  refine ⟨⟨h.1, fun t ht => ?_⟩, fun t ht => ?_⟩
  · obtain ⟨⟨s, a1, a2, a3, a4, a5, a6, a7, a8, a9⟩, b1, b2⟩ := h.2 t ht
    exact ⟨s, a1, a2, a3, ⟨a4, b2⟩, a5⟩
  · obtain ⟨⟨s, a1, a2, a3, a4, a5, a6, a7, a8, a9⟩, b1, b2⟩ := h.2 t ht
    refine ⟨a6.1, b1, ?_, fun h0 => by rw [a1]; have := a7 h0; omega⟩
    rw [a1, Int.toNat_natCast]
    exact a6.2
theorem m_T_sb {M N : wd_I} {n : Int} (h : m_T M n) (hs : m_sb n M N) : m_T N n := by
  refine ⟨h.1, fun t ht => ?_⟩
  obtain ⟨a1, a2, a3⟩ := h.2 t ht
  have hr := hs.ra ht
  exact ⟨m_gr_ra a1 hr (fun x hx hxn => hs.ra (by omega)) (fun x _ hx => hx), by rw [hr.2.2.2.1]; exact a2, by rw [hr.2.2.2.2.1]; exact a3⟩
theorem m_T_c {M M' : wd_I} (h : m_same M M') {n : Int} (hr : m_T M n) : m_T M' n := m_T_sb hr ⟨fun t _ => ⟨by rw [h 103 (by decide) (by decide)], by rw [h 104 (by decide) (by decide)], by rw [h 105 (by decide) (by decide)], by rw [h 106 (by decide) (by decide)], by rw [h 107 (by decide) (by decide)]⟩, fun i _ => ⟨by rw [h 108 (by decide) (by decide)], by rw [h 109 (by decide) (by decide)]⟩⟩
theorem m_many_nds {N : wd_I} {t : Int32} {s : Nat} (h : ∀ j, j < s → 0 ≤ (N 106 (N 108 (12 * t.toInt.toNat + j)).toInt.toNat).toInt ∧ (N 106 (N 108 (12 * t.toInt.toNat + j)).toInt.toNat).toInt ≤ 100000) (h12 : s ≤ 12) : ∀ j, j ≤ s → (m_many N t j).toInt = m_nds N t.toInt.toNat j ∧ 1 ≤ m_nds N t.toInt.toNat j ∧ m_nds N t.toInt.toNat j ≤ 1 + 100000 * (j : Int)
  | 0, _ => ⟨by unfold m_many m_nds; decide, by unfold m_nds; omega, by unfold m_nds; omega⟩
  | j + 1, hj => by
    obtain ⟨a1, a2, a3⟩ := m_many_nds h h12 j (by omega)
    have hb := h j (by omega)
    unfold m_many m_nds
    rw [a1, ab_tI (by omega) (by omega)]
    omega
theorem m_nds_mono {N : wd_I} {q : Nat} {s : Nat} (h : ∀ j, j < s → 0 ≤ (N 106 (N 108 (12 * q + j)).toInt.toNat).toInt) : ∀ i j, i ≤ j → j ≤ s → m_nds N q i ≤ m_nds N q j
  | i, 0, hi, _ => by rw [show i = 0 by omega]; exact Int.le_refl _
  | i, j + 1, hi, hj => by
    by_cases e : i = j + 1
    · rw [e]; exact Int.le_refl _
    · have := m_nds_mono h i j (by omega) (by omega)
      have hb := h j (by omega)
      show _ ≤ m_nds N q j + _
      omega
theorem m_nds_one {N : wd_I} {q : Nat} {s : Nat} (h : ∀ j, j < s → 0 ≤ (N 106 (N 108 (12 * q + j)).toInt.toNat).toInt) {j : Nat} (hj : j < s) : (N 106 (N 108 (12 * q + j)).toInt.toNat).toInt + 1 ≤ m_nds N q s := by
  have h1 := m_nds_mono h 0 j (by omega) (by omega)
  have h2 := m_nds_mono h (j + 1) s (by omega) (by omega)
  have e0 : m_nds N q 0 = 1 := rfl
  have e : m_nds N q (j + 1) = m_nds N q j + (N 106 (N 108 (12 * q + j)).toInt.toNat).toInt := rfl
  omega
theorem m_high_b {N : wd_I} {t : Int32} {s : Nat} (h : ∀ j, j < s → 0 ≤ (N 107 (N 108 (12 * t.toInt.toNat + j)).toInt.toNat).toInt ∧ (N 107 (N 108 (12 * t.toInt.toNat + j)).toInt.toNat).toInt ≤ 1000) : ∀ j, j ≤ s → 0 ≤ (m_high N t j).toInt ∧ (∀ i, i < j → (N 107 (N 108 (12 * t.toInt.toNat + i)).toInt.toNat).toInt + 1 ≤ (m_high N t j).toInt) ∧ ((m_high N t j).toInt = 0 ∨ ∃ i, i < j ∧ (m_high N t j).toInt = (N 107 (N 108 (12 * t.toInt.toNat + i)).toInt.toNat).toInt + 1)
  | 0, _ => ⟨by unfold m_high; decide, fun i hi => absurd hi (Nat.not_lt_zero _), Or.inl (by unfold m_high; decide)⟩
  | j + 1, hj => by
    obtain ⟨a1, a2, a3⟩ := m_high_b h j (by omega)
    have hb := h j (by omega)
    have e : (ab_ii ((N 107 (N 108 (12 * t.toInt.toNat + j)).toInt.toNat).toInt + 1)).toInt = (N 107 (N 108 (12 * t.toInt.toNat + j)).toInt.toNat).toInt + 1 := ab_tI (by omega) (by omega)
    unfold m_high
    by_cases hc : (m_high N t j).toInt < (ab_ii ((N 107 (N 108 (12 * t.toInt.toNat + j)).toInt.toNat).toInt + 1)).toInt
    · rw [m_mx_t hc, e]
      rw [e] at hc
      refine ⟨by omega, fun i hi => ?_, Or.inr ⟨j, by omega, rfl⟩⟩
      by_cases ei : i = j
      · subst ei; omega
      · have := a2 i (by omega); omega
    · rw [m_mx_f hc]
      rw [e] at hc
      refine ⟨a1, fun i hi => ?_, ?_⟩
      · by_cases ei : i = j
        · subst ei; omega
        · exact a2 i (by omega)
      · rcases a3 with h0 | ⟨i, hi, hi2⟩
        · exact Or.inl h0
        · exact Or.inr ⟨i, by omega, hi2⟩
/-- a row that has been told whole is finished by ends -/
theorem m_ends_gr {D : Int → Prop} {N : wd_I} {t : Int32} {s : Nat} (hs : (N 105 t.toInt.toNat).toInt = (s : Int)) (h12 : s ≤ 12) (hk : 0 ≤ (N 103 t.toInt.toNat).toInt ∧ (N 103 t.toInt.toNat).toInt ≤ 4)
    (hp : ∀ j, j < s → 0 ≤ (N 108 (12 * t.toInt.toNat + j)).toInt ∧ D (N 108 (12 * t.toInt.toNat + j)).toInt ∧ (N 108 (12 * t.toInt.toNat + j)).toInt.toNat ≠ t.toInt.toNat)
    (hn : ∀ j, j < s → 0 ≤ (N 106 (N 108 (12 * t.toInt.toNat + j)).toInt.toNat).toInt ∧ (N 106 (N 108 (12 * t.toInt.toNat + j)).toInt.toNat).toInt ≤ 100000)
    (hh : ∀ j, j < s → 0 ≤ (N 107 (N 108 (12 * t.toInt.toNat + j)).toInt.toNat).toInt ∧ (N 107 (N 108 (12 * t.toInt.toNat + j)).toInt.toNat).toInt ≤ 1000)
    (h0 : (N 103 t.toInt.toNat).toInt = 0 → s = 0) (hk0 : ¬ (N 103 t.toInt.toNat).toInt = 3 → ∀ j, j < s → (N 109 (12 * t.toInt.toNat + j)).toInt = 0) (hk3 : (N 103 t.toInt.toNat).toInt = 3 → ∀ j, j + 1 < s → (N 109 (12 * t.toInt.toNat + j)).toInt < (N 109 (12 * t.toInt.toNat + (j + 1))).toInt) :
    m_gr D (m_ends N t s) t.toInt.toNat ∧ (m_ends N t s 106 t.toInt.toNat).toInt = m_nds N t.toInt.toNat s ∧ (∀ j, j < s → (N 107 (N 108 (12 * t.toInt.toNat + j)).toInt.toNat).toInt + 1 ≤ (m_ends N t s 107 t.toInt.toNat).toInt) ∧ 0 ≤ (m_ends N t s 107 t.toInt.toNat).toInt ∧ ((m_ends N t s 107 t.toInt.toNat).toInt = 0 ∨ ∃ i, i < s ∧ (m_ends N t s 107 t.toInt.toNat).toInt = (N 107 (N 108 (12 * t.toInt.toNat + i)).toInt.toNat).toInt + 1) := by
  obtain ⟨a1, a2, a3⟩ := m_many_nds hn h12 s (Nat.le_refl _)
  obtain ⟨b1, b2, b3⟩ := m_high_b hh s (Nat.le_refl _)
  have e6 : m_ends N t s 106 t.toInt.toNat = m_many N t s := by unfold m_ends; rw [wd_up_row _ _ _ (by decide), wd_up_self]
  have e7 : m_ends N t s 107 t.toInt.toNat = m_high N t s := by unfold m_ends; rw [wd_up_self]
  have er : ∀ a, a ≠ 106 → a ≠ 107 → m_ends N t s a = N a := fun a h1 h2 => m_ends_row h1 h2
  have e6n : ∀ x, x ≠ t.toInt.toNat → m_ends N t s 106 x = N 106 x := fun x hx => by unfold m_ends; rw [wd_up_row _ _ _ (by decide), wd_up_ne _ _ (Or.inr hx)]
  have e7n : ∀ x, x ≠ t.toInt.toNat → m_ends N t s 107 x = N 107 x := fun x hx => by unfold m_ends; rw [wd_up_ne _ _ (Or.inr hx), wd_up_row _ _ _ (by decide)]
  have enD : m_nds (m_ends N t s) t.toInt.toNat s = m_nds N t.toInt.toNat s := m_nds_ra s (fun j hj => ⟨by rw [er 108 (by decide) (by decide)], e6n _ (hp j hj).2.2⟩)
  refine ⟨⟨s, by rw [er 105 (by decide) (by decide)]; exact hs, h12, by rw [er 103 (by decide) (by decide)]; exact hk, by rw [e7]; exact b1, fun j hj => ?_, ?_, by rw [er 103 (by decide) (by decide)]; exact h0, ?_, ?_⟩, by rw [e6]; exact a1, by rw [e7]; exact b2, by rw [e7]; exact b1, by rw [e7]; exact b3⟩
  · rw [er 108 (by decide) (by decide), e7, e7n _ (hp j hj).2.2]
    exact ⟨(hp j hj).1, (hp j hj).2.1, by have := b2 j hj; omega⟩
  · rw [e6, enD, a1]
    exact ⟨a2, rfl⟩
  · rw [er 103 (by decide) (by decide), er 109 (by decide) (by decide)]
    exact hk0
  · rw [er 103 (by decide) (by decide), er 109 (by decide) (by decide)]
    exact hk3
/-- ends writes nothing of another row -/
theorem m_ends_ra {N : wd_I} {t : Int32} {s q : Nat} (h : q ≠ t.toInt.toNat) : m_ra N (m_ends N t s) q := by
  have er : ∀ a, a ≠ 106 → a ≠ 107 → m_ends N t s a = N a := fun a h1 h2 => m_ends_row h1 h2
  refine ⟨by rw [er 103 (by decide) (by decide)], by rw [er 104 (by decide) (by decide)], by rw [er 105 (by decide) (by decide)], ?_, ?_, fun j _ => ⟨by rw [er 108 (by decide) (by decide)], by rw [er 109 (by decide) (by decide)]⟩⟩
  · unfold m_ends; rw [wd_up_row _ _ _ (by decide), wd_up_ne _ _ (Or.inr h)]
  · unfold m_ends; rw [wd_up_ne _ _ (Or.inr h), wd_up_row _ _ _ (by decide)]
end
section
/-! ===== the reference: what OVER makes are good rows (own text) ===== -/
def m_dm (n a b : Int) (x : Int) : Prop := x < n ∨ (a ≤ x ∧ x < b)
/-- behind a step of OVER that was not cut short -/
def m_oq (n : Int) (M : wd_I) (t : Nat) (R : wd_I × Int32) : Prop := (R.1 102 36).toInt = 0 →
  ((R.1 102 8).toInt = (M 102 8).toInt ∨ (M 102 8).toInt ≤ R.2.toInt) ∧
  (∀ q : Nat, (M 102 8).toInt ≤ (q : Int) → (q : Int) < (R.1 102 8).toInt → m_gr (m_dm n (M 102 8).toInt (R.1 102 8).toInt) R.1 q ∧ (R.1 106 q).toInt ≤ (R.1 106 R.2.toInt.toNat).toInt ∧ (R.1 107 q).toInt ≤ (R.1 107 R.2.toInt.toNat).toInt) ∧
  m_dm n (M 102 8).toInt (R.1 102 8).toInt R.2.toInt ∧
  (1 ≤ (R.1 106 R.2.toInt.toNat).toInt ∧ (R.1 106 R.2.toInt.toNat).toInt ≤ 202 * (M 106 t).toInt) ∧ (0 ≤ (R.1 107 R.2.toInt.toNat).toInt ∧ (R.1 107 R.2.toInt.toNat).toInt ≤ (M 107 t).toInt + 14)
theorem m_T_row {M : wd_I} {n : Int} (h : m_T M n) {t : Nat} (ht : (t : Int) < n) : ∃ s : Nat, (M 105 t).toInt = (s : Int) ∧ s ≤ 12 ∧ (0 ≤ (M 103 t).toInt ∧ (M 103 t).toInt ≤ 4) ∧ (0 ≤ (M 107 t).toInt ∧ (M 107 t).toInt ≤ 12) ∧ (1 ≤ (M 106 t).toInt ∧ (M 106 t).toInt ≤ 200) ∧ (∀ j, j < s → 0 ≤ (M 108 (12 * t + j)).toInt ∧ (M 108 (12 * t + j)).toInt < n ∧ (M 107 (M 108 (12 * t + j)).toInt.toNat).toInt < (M 107 t).toInt ∧ 1 ≤ (M 106 (M 108 (12 * t + j)).toInt.toNat).toInt) ∧ (M 106 t).toInt = m_nds M t s ∧ (s : Int) + 1 ≤ (M 106 t).toInt ∧ ((M 103 t).toInt = 0 → s = 0) ∧ (¬ (M 103 t).toInt = 3 → ∀ j, j < s → (M 109 (12 * t + j)).toInt = 0) ∧ ((M 103 t).toInt = 3 → ∀ j, j + 1 < s → (M 109 (12 * t + j)).toInt < (M 109 (12 * t + (j + 1))).toInt) := by
  obtain ⟨⟨s, a1, a2, a3, a4, a5, a6, a7, a8, a9⟩, b1, b2⟩ := h.2 t ht
  have hp : ∀ j, j < s → 0 ≤ (M 108 (12 * t + j)).toInt ∧ (M 108 (12 * t + j)).toInt < n ∧ (M 107 (M 108 (12 * t + j)).toInt.toNat).toInt < (M 107 t).toInt ∧ 1 ≤ (M 106 (M 108 (12 * t + j)).toInt.toNat).toInt := fun j hj => by
    obtain ⟨c1, c2, c3⟩ := a5 j hj
    exact ⟨c1, c2, c3, by
      obtain ⟨⟨_, _, _, _, _, _, d6, _⟩, _⟩ := h.2 (M 108 (12 * t + j)).toInt.toNat (by omega)
      exact d6.1⟩
  have hs : ∀ j, j ≤ s → (j : Int) + 1 ≤ m_nds M t j := by
    intro j
    induction j with
    | zero => intro _; unfold m_nds; omega
    | succ j ih =>
      intro hj
      have := ih (by omega)
      have := (hp j (by omega)).2.2.2
      unfold m_nds
      omega
  exact ⟨s, a1, a2, a3, ⟨a4, b2⟩, ⟨a6.1, b1⟩, hp, a6.2, by rw [a6.2]; exact hs s (Nat.le_refl _), a7, a8, a9⟩
theorem m_nds_200 {N : wd_I} {q s : Nat} (h : ∀ j, j < s → 0 ≤ (N 106 (N 108 (12 * q + j)).toInt.toNat).toInt ∧ (N 106 (N 108 (12 * q + j)).toInt.toNat).toInt ≤ 200) : ∀ j, j ≤ s → m_nds N q j ≤ 1 + 200 * (j : Int)
  | 0, _ => by unfold m_nds; omega
  | j + 1, hj => by
    have := m_nds_200 h j (by omega)
    have := h j (by omega)
    unfold m_nds
    omega
theorem m_oq_same {n : Int} {M N : wd_I} {t : Int32} {x : Int32} (hT : m_T M n) (h0 : 0 ≤ t.toInt) (h1 : t.toInt < n) (hx0 : 0 ≤ x.toInt) (hx1 : x.toInt < n) (hf : m_sb n M N) (h8 : N 102 8 = M 102 8) : m_oq n M t.toInt.toNat (N, x) := by
  intro _
  obtain ⟨s, a1, a2, a3, a4, a5, -⟩ := m_T_row hT (t := t.toInt.toNat) (by omega)
  obtain ⟨s', b1, b2, b3, b4, b5, -⟩ := m_T_row hT (t := x.toInt.toNat) (by omega)
  obtain ⟨-, -, -, e6, e7⟩ := hf.1 x.toInt.toNat (by omega)
  refine ⟨Or.inl (congrArg Int32.toInt h8), fun q hq1 hq2 => ?_, Or.inl hx1, ?_, ?_⟩
  · have hq3 : (q : Int) < (N 102 8).toInt := hq2
    rw [h8] at hq3
    omega
  · show 1 ≤ (N 106 x.toInt.toNat).toInt ∧ (N 106 x.toInt.toNat).toInt ≤ _
    rw [e6]
    omega
  · show 0 ≤ (N 107 x.toInt.toNat).toInt ∧ (N 107 x.toInt.toNat).toInt ≤ _
    rw [e7]
    omega
theorem m_oq_one {n : Int} {M N : wd_I} {t c : Int32} {s : Nat} (hT : m_T M n) (h0 : 0 ≤ t.toInt) (h1 : t.toInt < n) (hn : n ≤ (M 102 8).toInt) (hc : c = M 102 8) (h8 : (N 102 8).toInt = c.toInt + 1) (hf : m_sb n M N)
    (hs : (N 105 c.toInt.toNat).toInt = (s : Int)) (h12 : s ≤ 12) (hk : 0 ≤ (N 103 c.toInt.toNat).toInt ∧ (N 103 c.toInt.toNat).toInt ≤ 4) (hp : ∀ j, j < s → 0 ≤ (N 108 (12 * c.toInt.toNat + j)).toInt ∧ (N 108 (12 * c.toInt.toNat + j)).toInt < n)
    (hk0 : (N 103 c.toInt.toNat).toInt = 0 → s = 0) (hk1 : ¬ (N 103 c.toInt.toNat).toInt = 3 → ∀ j, j < s → (N 109 (12 * c.toInt.toNat + j)).toInt = 0) (hk3 : (N 103 c.toInt.toNat).toInt = 3 → ∀ j, j + 1 < s → (N 109 (12 * c.toInt.toNat + j)).toInt < (N 109 (12 * c.toInt.toNat + (j + 1))).toInt) (hb : 1 + 200 * (s : Int) ≤ 202 * (M 106 t.toInt.toNat).toInt) : m_oq n M t.toInt.toNat (m_ends N c s, c) := by
  intro _
  have hcn : n ≤ c.toInt := by rw [hc]; exact hn
  have hold : ∀ j, j < s → (1 ≤ (N 106 (N 108 (12 * c.toInt.toNat + j)).toInt.toNat).toInt ∧ (N 106 (N 108 (12 * c.toInt.toNat + j)).toInt.toNat).toInt ≤ 200) ∧ (0 ≤ (N 107 (N 108 (12 * c.toInt.toNat + j)).toInt.toNat).toInt ∧ (N 107 (N 108 (12 * c.toInt.toNat + j)).toInt.toNat).toInt ≤ 12) := fun j hj => by
    obtain ⟨p0, p1⟩ := hp j hj
    obtain ⟨-, -, -, e6, e7⟩ := hf.1 (N 108 (12 * c.toInt.toNat + j)).toInt.toNat (by omega)
    obtain ⟨s', b1, b2, b3, b4, b5, -⟩ := m_T_row hT (t := (N 108 (12 * c.toInt.toNat + j)).toInt.toNat) (by omega)
    rw [e6, e7]
    exact ⟨b5, b4⟩
  obtain ⟨s', b1, b2, b3, b4, b5, -⟩ := m_T_row hT (t := t.toInt.toNat) (by omega)
  obtain ⟨g1, g2, g3, g4, g5⟩ := m_ends_gr (D := fun x => x < n) (N := N) (t := c) hs h12 hk (fun j hj => ⟨(hp j hj).1, (hp j hj).2, by have := hp j hj; omega⟩) (fun j hj => by have := hold j hj; omega) (fun j hj => by have := hold j hj; omega) hk0 hk1 hk3
  have hle := m_nds_200 (N := N) (q := c.toInt.toNat) (s := s) (fun j hj => by have := hold j hj; omega) s (Nat.le_refl _)
  have e8 : (m_ends N c s 102 8).toInt = c.toInt + 1 := by rw [m_ends_row (by decide) (by decide)]; exact h8
  have hge : 1 ≤ m_nds N c.toInt.toNat s := m_nds_mono (N := N) (q := c.toInt.toNat) (s := s) (fun j hj => by have := hold j hj; omega) 0 s (by omega) (Nat.le_refl _)
  refine ⟨Or.inr (by rw [hc]; exact Int.le_refl _), fun q hq1 hq2 => ?_, Or.inr ⟨by rw [hc]; exact Int.le_refl _, by show c.toInt < (m_ends N c s 102 8).toInt; omega⟩, ?_, ?_⟩
  · change (q : Int) < (m_ends N c s 102 8).toInt at hq2
    have eq : q = c.toInt.toNat := by rw [← hc] at hq1; omega
    subst eq
    exact ⟨m_gr_ra g1 m_ra.rf (fun _ _ _ => m_ra.rf) (fun x _ hx => Or.inl hx), Int.le_refl _, Int.le_refl _⟩
  · show 1 ≤ (m_ends N c s 106 c.toInt.toNat).toInt ∧ (m_ends N c s 106 c.toInt.toNat).toInt ≤ _
    rw [g2]
    omega
  · show 0 ≤ (m_ends N c s 107 c.toInt.toNat).toInt ∧ (m_ends N c s 107 c.toInt.toNat).toInt ≤ _
    refine ⟨g4, ?_⟩
    rcases g5 with e | ⟨i, hi, e⟩
    · omega
    · have := hold i hi
      omega
theorem m_begins_kd {M : wd_I} {s v m : Int32} : m_begins M s v m 103 (M 102 8).toInt.toNat = s := by
  unfold m_begins
  rw [wd_up_row _ _ _ (by decide), wd_up_row _ _ _ (by decide), wd_up_row _ _ _ (by decide), wd_up_self]
theorem m_begins_wo {M : wd_I} {s v m : Int32} : m_begins M s v m 104 (M 102 8).toInt.toNat = v := by
  unfold m_begins
  rw [wd_up_row _ _ _ (by decide), wd_up_row _ _ _ (by decide), wd_up_self]
theorem m_begins_ky {M : wd_I} {s v m : Int32} : m_begins M s v m 109 = M 109 := by
  unfold m_begins
  rw [wd_up_row _ _ _ (by decide), wd_up_row _ _ _ (by decide), wd_up_row _ _ _ (by decide), wd_up_row _ _ _ (by decide)]
theorem m_adds_kd {M : wd_I} {t key p : Int32} {s : Nat} : m_adds M t key p s 103 = M 103 := by unfold m_adds; rw [wd_up_row _ _ _ (by decide), wd_up_row _ _ _ (by decide), wd_up_row _ _ _ (by decide)]
theorem m_adds_wo {M : wd_I} {t key p : Int32} {s : Nat} : m_adds M t key p s 104 = M 104 := by unfold m_adds; rw [wd_up_row _ _ _ (by decide), wd_up_row _ _ _ (by decide), wd_up_row _ _ _ (by decide)]
theorem m_adds_ky {M : wd_I} {t key p : Int32} {s j : Nat} : m_adds M t key p s 109 (12 * t.toInt.toNat + j) = if j = s then key else M 109 (12 * t.toInt.toNat + j) := by
  unfold m_adds
  rw [wd_up_row _ _ _ (by decide)]
  split
  next e => rw [e, wd_up_self]
  next e => rw [wd_up_ne _ _ (Or.inr (by omega)), wd_up_row _ _ _ (by decide)]
theorem m_copyOf_kd {M : wd_I} {t : Int32} {s : Nat} : m_copyOf M t s 103 (M 102 8).toInt.toNat = M 103 t.toInt.toNat := by
  unfold m_copyOf
  rw [m_cpl_row (by decide) (by decide), m_begins_kd]
theorem m_copyOf_wo {M : wd_I} {t : Int32} {s : Nat} : m_copyOf M t s 104 (M 102 8).toInt.toNat = M 104 t.toInt.toNat := by
  unfold m_copyOf
  rw [m_cpl_row (by decide) (by decide), m_begins_wo]
theorem m_copyOf_ky {M : wd_I} {t : Int32} {s : Nat} (h0 : 0 ≤ t.toInt) (h1 : t.toInt < (M 102 8).toInt) (h12 : s ≤ 12) {j : Nat} (hj : j < s) : m_copyOf M t s 109 (12 * (M 102 8).toInt.toNat + j) = M 109 (12 * t.toInt.toNat + j) := by
  unfold m_copyOf
  rw [m_cpl_109 (by omega) s h12, if_pos (by omega), m_begins_ky, show 12 * (M 102 8).toInt.toNat + j - 12 * (M 102 8).toInt.toNat = j by omega]
theorem m_mk_row {M : wd_I} {a : Nat} (h : a ≠ 102) : m_mk M a = M a := wd_up_row _ _ _ h
theorem m_fr_sb8 {n : Int} {M N : wd_I} (h : m_fr n M N) : m_sb n M N := h.1
end
section
/-! ===== the reference: became makes good rows (own text) ===== -/
theorem m_s1_8 {M N : wd_I} (h : m_rm M) (hc : m_can M) (h1 : m_s1 (m_mk M) N) : (N 102 8).toInt = (M 102 8).toInt + 1 := (m_rm_s1 h hc h1).2
theorem m_nomk_36 {M : wd_I} : (m_nomk M 102 36).toInt = 1 := by unfold m_nomk; rw [wd_up_self]; decide
theorem m_oq_spent {n : Int} {M N : wd_I} {t : Nat} {x : Int32} (h : (N 102 36).toInt = 1) : m_oq n M t (N, x) := fun h0 => by
  change (N 102 36).toInt = 0 at h0
  omega
theorem m_oq_M {n : Int} {M M' : wd_I} {t : Nat} {R : wd_I × Int32} (h : m_oq n M' t R) (h8 : M' 102 8 = M 102 8) (h6 : M' 106 t = M 106 t) (h7 : M' 107 t = M 107 t) : m_oq n M t R := by
  unfold m_oq at h ⊢
  rw [h8, h6, h7] at h
  exact h
theorem m_mk_sb {n : Int} {M : wd_I} : m_sb n M (m_mk M) := ⟨fun t _ => ⟨by rw [m_mk_row (by decide)], by rw [m_mk_row (by decide)], by rw [m_mk_row (by decide)], by rw [m_mk_row (by decide)], by rw [m_mk_row (by decide)]⟩, fun i _ => ⟨by rw [m_mk_row (by decide)], by rw [m_mk_row (by decide)]⟩⟩
theorem m_bec_oq {n : Int} {M : wd_I} {how : Int} {hw f t : Int32} {s : Nat} (hT : m_T M n) (hn0 : 0 ≤ n) (hn : n ≤ (M 102 8).toInt) (hrm : m_rm M) (h0 : 0 ≤ t.toInt) (h1 : t.toInt < n) (hs : (M 105 t.toInt.toNat).toInt = (s : Int)) (h7 : how = 7 → 0 ≤ (M 110 hw.toInt.toNat).toInt ∧ (M 110 hw.toInt.toNat).toInt < n) : m_oq n M t.toInt.toNat (m_bec M how hw f t s) := by
  obtain ⟨s', a1, a2, a3, a4, a5, a6, a7, a8, a9, a10, a11⟩ := m_T_row hT (t := t.toInt.toNat) (by omega)
  have es : s' = s := by omega
  subst es
  have hsame : m_oq n M t.toInt.toNat (M, t) := m_oq_same hT h0 h1 h0 h1 m_sb.rf rfl
  have e8K := m_mk_8 (M := M)
  -- a number made anew
  have hnum : ∀ v, m_can M → m_oq n M t.toInt.toNat (m_number (m_mk M) v, M 102 8) := fun v hc => by
    have h8 := m_s1_8 hrm hc (m_number_s1 (v := v))
    have hfb : m_fr n M (m_begins (m_mk M) (ab_ii 0) v (ab_ii 0)) := m_begins_fr (m_mk_fr m_fr.rf) (by rw [e8K]; exact hn)
    have hB8 : (m_begins (m_mk M) (ab_ii 0) v (ab_ii 0) 102 8).toInt = (M 102 8).toInt + 1 := by
      have e : m_number (m_mk M) v 102 8 = m_begins (m_mk M) (ab_ii 0) v (ab_ii 0) 102 8 := by unfold m_number; rw [m_ends_row (by decide) (by decide)]
      rw [← e]; exact h8
    unfold m_number
    rw [e8K]
    refine m_oq_one (s := 0) hT h0 h1 hn rfl hB8 hfb.1 ?_ (by omega) ?_ (fun j hj => absurd hj (Nat.not_lt_zero _)) (fun _ => rfl) (fun _ j hj => absurd hj (Nat.not_lt_zero _)) (fun _ j hj => absurd hj (Nat.not_lt_zero _)) (by omega)
    · rw [← e8K, m_begins_sz]; rfl
    · rw [← e8K, m_begins_kd]; decide
  unfold m_bec
  split
  · split
    · unfold m_numb
      by_cases hc : m_can M
      · rw [m_cani_t hc]; exact hnum _ hc
      · rw [m_cani_f hc]; exact m_oq_spent m_nomk_36
    · exact hsame
  split
  next h =>
    obtain ⟨b1, b2⟩ := h7 h
    exact m_oq_same hT h0 h1 b1 b2 m_sb.rf rfl
  split
  · -- a pair of it and a number
    unfold m_numb
    by_cases hc : m_can M
    · rw [m_cani_t hc]
      have hnm := hnum hw hc
      have vnum : (m_number (m_mk M) hw 106 (M 102 8).toInt.toNat).toInt = 1 ∧ (m_number (m_mk M) hw 107 (M 102 8).toInt.toNat).toInt = 0 := by
        unfold m_number m_ends
        rw [e8K]
        refine ⟨?_, ?_⟩
        · rw [wd_up_row _ _ _ (by decide), wd_up_self]; unfold m_many; decide
        · rw [wd_up_self]; unfold m_high; decide
      have hfN : m_fr n M (m_number (m_mk M) hw) := m_number_fr (m_mk_fr m_fr.rf) (by rw [e8K]; exact hn)
      have hfNc : m_fr (M 102 8).toInt M (m_number (m_mk M) hw) := m_number_fr (m_mk_fr m_fr.rf) (by rw [e8K]; exact Int.le_refl _)
      obtain ⟨hrN, h8N⟩ := m_rm_s1 hrm hc (m_number_s1 (v := hw))
      generalize m_number (m_mk M) hw = N at *
      by_cases hc2 : m_can N
      · show m_oq n M t.toInt.toNat (m_cani N _ _)
        rw [m_cani_t hc2]
        have hN0 : (N 102 36).toInt = 0 := hc2.1
        have hlt := m_can_lt hrN hc2
        obtain ⟨-, q2, q3, q4, q5⟩ := hnm hN0
        change 1 ≤ (N 106 (M 102 8).toInt.toNat).toInt ∧ (N 106 (M 102 8).toInt.toNat).toInt ≤ _ at q4
        change 0 ≤ (N 107 (M 102 8).toInt.toNat).toInt ∧ (N 107 (M 102 8).toInt.toNat).toInt ≤ _ at q5
        change ∀ q : Nat, (M 102 8).toInt ≤ (q : Int) → (q : Int) < (N 102 8).toInt → m_gr (m_dm n (M 102 8).toInt (N 102 8).toInt) N q ∧ (N 106 q).toInt ≤ (N 106 (M 102 8).toInt.toNat).toInt ∧ (N 107 q).toInt ≤ (N 107 (M 102 8).toInt.toNat).toInt at q2
        have eK8 := m_mk_8 (M := N)
        have hrK : m_sb (N 102 8).toInt N (m_mk N) := m_mk_sb
        have hfp : m_fr (N 102 8).toInt N (m_pair (m_mk N) t (M 102 8)) := m_pair_fr (m_mk_fr m_fr.rf) (by omega) (by rw [eK8]; exact Int.le_refl _)
        have h8P := m_s1_8 hrN hc2 (m_pair_s1 (t := t) (n := M 102 8))
        have hfa : m_fr (N 102 8).toInt N (m_adds (m_adds (m_begins (m_mk N) (ab_ii 1) (ab_ii 0) (ab_ii 0)) (m_mk N 102 8) (ab_ii 0) t 0) (m_mk N 102 8) (ab_ii 0) (M 102 8) 1) := m_adds_fr (m_adds_fr (m_begins_fr (m_mk_fr m_fr.rf) (by rw [eK8]; exact Int.le_refl _)) (by omega) (by rw [eK8]; exact Int.le_refl _)) (by omega) (by rw [eK8]; exact Int.le_refl _)
        have hA0 : m_adds (m_adds (m_begins (m_mk N) (ab_ii 1) (ab_ii 0) (ab_ii 0)) (m_mk N 102 8) (ab_ii 0) t 0) (m_mk N 102 8) (ab_ii 0) (M 102 8) 1 108 (12 * (m_mk N 102 8).toInt.toNat + 0) = t := by rw [m_adds_pn (by omega), m_adds_pt]
        have hA1 : m_adds (m_adds (m_begins (m_mk N) (ab_ii 1) (ab_ii 0) (ab_ii 0)) (m_mk N 102 8) (ab_ii 0) t 0) (m_mk N 102 8) (ab_ii 0) (M 102 8) 1 108 (12 * (m_mk N 102 8).toInt.toNat + 1) = M 102 8 := m_adds_pt
        have hAk : ∀ j, j < 2 → (m_adds (m_adds (m_begins (m_mk N) (ab_ii 1) (ab_ii 0) (ab_ii 0)) (m_mk N 102 8) (ab_ii 0) t 0) (m_mk N 102 8) (ab_ii 0) (M 102 8) 1 109 (12 * (m_mk N 102 8).toInt.toNat + j)).toInt = 0 := fun j hj => by
          rw [m_adds_ky]
          split
          · decide
          · rw [m_adds_ky, if_pos (by omega)]; decide
        have hAd : m_adds (m_adds (m_begins (m_mk N) (ab_ii 1) (ab_ii 0) (ab_ii 0)) (m_mk N 102 8) (ab_ii 0) t 0) (m_mk N 102 8) (ab_ii 0) (M 102 8) 1 103 (m_mk N 102 8).toInt.toNat = ab_ii 1 := by rw [m_adds_kd, m_adds_kd, m_begins_kd]
        have hAs : (m_adds (m_adds (m_begins (m_mk N) (ab_ii 1) (ab_ii 0) (ab_ii 0)) (m_mk N 102 8) (ab_ii 0) t 0) (m_mk N 102 8) (ab_ii 0) (M 102 8) 1 105 (m_mk N 102 8).toInt.toNat).toInt = ((2 : Nat) : Int) := by rw [m_adds_sz]; decide
        have eP : m_pair (m_mk N) t (M 102 8) = m_ends (m_adds (m_adds (m_begins (m_mk N) (ab_ii 1) (ab_ii 0) (ab_ii 0)) (m_mk N 102 8) (ab_ii 0) t 0) (m_mk N 102 8) (ab_ii 0) (M 102 8) 1) (m_mk N 102 8) 2 := rfl
        rw [eK8] at hA0 hA1 hAk hAd hAs eP hfa
        generalize m_adds (m_adds (m_begins (m_mk N) (ab_ii 1) (ab_ii 0) (ab_ii 0)) (N 102 8) (ab_ii 0) t 0) (N 102 8) (ab_ii 0) (M 102 8) 1 = A at *
        have hpt : ∀ j, j < 2 → (A 108 (12 * (N 102 8).toInt.toNat + j) = t ∨ A 108 (12 * (N 102 8).toInt.toNat + j) = M 102 8) := fun j hj => by
          by_cases e : j = 0
          · subst e; exact Or.inl hA0
          · have e1 : j = 1 := by omega
            subst e1; exact Or.inr hA1
        have eAt : ∀ x : Nat, (x : Int) < (N 102 8).toInt → A 106 x = N 106 x ∧ A 107 x = N 107 x := fun x hx => ⟨(hfa.1.1 x hx).2.2.2.1, (hfa.1.1 x hx).2.2.2.2⟩
        have eNt : N 106 t.toInt.toNat = M 106 t.toInt.toNat ∧ N 107 t.toInt.toNat = M 107 t.toInt.toNat := ⟨(hfN.1.1 t.toInt.toNat (by omega)).2.2.2.1, (hfN.1.1 t.toInt.toNat (by omega)).2.2.2.2⟩
        have hM8 : 0 ≤ (M 102 8).toInt := by omega
        have q41 : (N 106 (M 102 8).toInt.toNat).toInt ≤ 40400 := by omega
        have vt := eAt t.toInt.toNat (by omega)
        have vc := eAt (M 102 8).toInt.toNat (by omega)
        have hnd : ∀ j, j < 2 → (0 ≤ (A 106 (A 108 (12 * (N 102 8).toInt.toNat + j)).toInt.toNat).toInt ∧ (A 106 (A 108 (12 * (N 102 8).toInt.toNat + j)).toInt.toNat).toInt ≤ 100000) ∧ (0 ≤ (A 107 (A 108 (12 * (N 102 8).toInt.toNat + j)).toInt.toNat).toInt ∧ (A 107 (A 108 (12 * (N 102 8).toInt.toNat + j)).toInt.toNat).toInt ≤ 1000) := fun j hj => by
          rcases hpt j hj with e | e
          · rw [e, vt.1, vt.2, eNt.1, eNt.2]; omega
          · rw [e, vc.1, vc.2]; omega
        obtain ⟨g1, g2, g3, g4, g5⟩ := m_ends_gr (D := m_dm n (M 102 8).toInt (N 102 8).toInt) (N := A) (t := N 102 8) hAs (by omega) (by rw [hAd]; decide) (fun j hj => by
          rcases hpt j hj with e | e
          · rw [e]; exact ⟨h0, Or.inl h1, by omega⟩
          · rw [e]; exact ⟨hM8, Or.inr ⟨Int.le_refl _, by omega⟩, by omega⟩) (fun j hj => (hnd j hj).1) (fun j hj => (hnd j hj).2) (fun h => by rw [hAd] at h; exact absurd h (by decide)) (fun _ => hAk) (fun h => by rw [hAd] at h; exact absurd h (by decide))
        rw [← eP] at g1 g2 g3 g4 g5
        have gn : m_nds A (N 102 8).toInt.toNat 2 = 1 + (M 106 t.toInt.toNat).toInt + (N 106 (M 102 8).toInt.toNat).toInt := by
          show 1 + (A 106 (A 108 (12 * (N 102 8).toInt.toNat + 0)).toInt.toNat).toInt + (A 106 (A 108 (12 * (N 102 8).toInt.toNat + 1)).toInt.toNat).toInt = _
          rw [hA0, hA1, vt.1, vc.1, eNt.1]
        have g31 := g3 1 (by omega)
        rw [hA1, vc.2] at g31
        have hcr := q2 (M 102 8).toInt.toNat (by omega) (by omega)
        have hPc := hfp.1.1 (M 102 8).toInt.toNat (by omega)
        intro _
        refine ⟨Or.inr (by show (M 102 8).toInt ≤ (N 102 8).toInt; omega), fun q hq1 hq2 => ?_, Or.inr ⟨by show (M 102 8).toInt ≤ (N 102 8).toInt; omega, by show (N 102 8).toInt < (m_pair (m_mk N) t (M 102 8) 102 8).toInt; omega⟩, ?_, ?_⟩
        · change (q : Int) < (m_pair (m_mk N) t (M 102 8) 102 8).toInt at hq2
          show m_gr (m_dm n (M 102 8).toInt (m_pair (m_mk N) t (M 102 8) 102 8).toInt) (m_pair (m_mk N) t (M 102 8)) q ∧ (m_pair (m_mk N) t (M 102 8) 106 q).toInt ≤ (m_pair (m_mk N) t (M 102 8) 106 (N 102 8).toInt.toNat).toInt ∧ (m_pair (m_mk N) t (M 102 8) 107 q).toInt ≤ (m_pair (m_mk N) t (M 102 8) 107 (N 102 8).toInt.toNat).toInt
          by_cases eq : q = (M 102 8).toInt.toNat
          · subst eq
            rw [hPc.2.2.2.1, hPc.2.2.2.2]
            exact ⟨m_gr_ra hcr.1 (hfp.1.ra (by omega)) (fun x hx hxD => hfp.1.ra (by unfold m_dm at hxD; omega)) (fun x _ hxD => by unfold m_dm at hxD ⊢; omega), by omega, by omega⟩
          · have eq2 : q = (N 102 8).toInt.toNat := by omega
            subst eq2
            exact ⟨m_gr_ra g1 m_ra.rf (fun _ _ _ => m_ra.rf) (fun x _ hxD => by unfold m_dm at hxD ⊢; omega), Int.le_refl _, Int.le_refl _⟩
        · show 1 ≤ (m_pair (m_mk N) t (M 102 8) 106 (N 102 8).toInt.toNat).toInt ∧ (m_pair (m_mk N) t (M 102 8) 106 (N 102 8).toInt.toNat).toInt ≤ _
          omega
        · show 0 ≤ (m_pair (m_mk N) t (M 102 8) 107 (N 102 8).toInt.toNat).toInt ∧ (m_pair (m_mk N) t (M 102 8) 107 (N 102 8).toInt.toNat).toInt ≤ _
          refine ⟨g4, ?_⟩
          rcases g5 with e | ⟨i, hi, e⟩
          · omega
          · rcases hpt i hi with e2 | e2
            · rw [e2, vt.2, eNt.2] at e; omega
            · rw [e2, vc.2] at e; omega
      · show m_oq n M t.toInt.toNat (m_cani N _ _)
        rw [m_cani_f hc2]
        exact m_oq_spent m_nomk_36
    · rw [m_cani_f hc]
      show m_oq n M t.toInt.toNat (m_cani (m_nomk M) _ _)
      rw [m_cani_f m_nomk_can]
      exact m_oq_spent m_nomk_36
  split
  next his =>
    by_cases hc : m_can M
    · rw [m_cani_t hc]
      have hK8 : (m_mk M 102 8).toInt = (M 102 8).toInt := by rw [e8K]
      have hlt := m_can_lt hrm hc
      have har : ∀ sort v : Int32, 1 ≤ sort.toInt → sort.toInt ≤ 4 → ¬ sort.toInt = 3 → m_oq n M t.toInt.toNat (m_around (m_mk M) sort v t, M 102 8) := fun sort v k1 k2 k3 => by
        have h8 := m_s1_8 hrm hc (m_around_s1 (sort := sort) (v := v) (t := t))
        have hfb : m_fr n M (m_begins (m_mk M) sort v (ab_ii 0)) := m_begins_fr (m_mk_fr m_fr.rf) (by rw [e8K]; exact hn)
        have hfa : m_fr n M (m_adds (m_begins (m_mk M) sort v (ab_ii 0)) (m_mk M 102 8) (ab_ii 0) t 0) := m_adds_fr hfb hn0 (by rw [e8K]; exact hn)
        have hB8 : (m_adds (m_begins (m_mk M) sort v (ab_ii 0)) (m_mk M 102 8) (ab_ii 0) t 0 102 8).toInt = (M 102 8).toInt + 1 := by
          have e : m_around (m_mk M) sort v t 102 8 = m_adds (m_begins (m_mk M) sort v (ab_ii 0)) (m_mk M 102 8) (ab_ii 0) t 0 102 8 := by unfold m_around; rw [m_ends_row (by decide) (by decide)]
          rw [← e]; exact h8
        have ekd : m_adds (m_begins (m_mk M) sort v (ab_ii 0)) (m_mk M 102 8) (ab_ii 0) t 0 103 (m_mk M 102 8).toInt.toNat = sort := by rw [m_adds_kd, m_begins_kd]
        unfold m_around
        rw [e8K] at hB8 hfa ekd ⊢
        refine m_oq_one (s := 1) hT h0 h1 hn rfl hB8 hfa.1 ?_ (by omega) (by rw [ekd]; omega) (fun j hj => ?_) (fun h => by rw [ekd] at h; omega) (fun _ j hj => ?_) (fun h => by rw [ekd] at h; omega) (by omega)
        · rw [m_adds_sz]; decide
        · have e : j = 0 := by omega
          subst e
          rw [m_adds_pt]
          exact ⟨h0, h1⟩
        · have e : j = 0 := by omega
          subst e
          rw [m_adds_ky, if_pos rfl]
          decide
      split
      · exact har (ab_ii 4) hw (by decide) (by decide) (by decide)
      split
      · exact har (ab_ii 2) (ab_ii 0) (by decide) (by decide) (by decide)
      · -- changed
        have hTK : m_T (m_mk M) n := m_T_sb hT m_mk_sb
        have h8 := m_s1_8 hrm hc (m_changed_s1 (t := t) (s := s'))
        have hfc : m_fr n M (m_copyOf (m_mk M) t s') := m_copyOf_fr (m_mk_fr m_fr.rf) (by rw [e8K]; exact hn)
        have hfl : m_fr n M (m_chl (m_mk M 102 33).toInt s' (m_mk M 102 8).toInt.toNat t.toInt.toNat (m_copyOf (m_mk M) t s') s') := m_chl_fr (by omega) hfc s'
        have eK : ∀ a, a ≠ 102 → m_mk M a = M a := fun a ha => m_mk_row ha
        have hpr : m_pr n (m_mk M 102 8).toInt.toNat s' (m_copyOf (m_mk M) t s') := fun j hj => by
          rw [m_copyOf_pt h0 (by omega) a2 hj, eK 108 (by decide)]
          exact ⟨(a6 j hj).1, (a6 j hj).2.1⟩
        have hptc : ∀ j, j < s' → 0 ≤ (m_copyOf (m_mk M) t s' 108 (12 * t.toInt.toNat + j)).toInt ∧ (m_copyOf (m_mk M) t s' 108 (12 * t.toInt.toNat + j)).toInt < n := fun j hj => by
          rw [(hfc.1.2 (12 * t.toInt.toNat + j) (by omega)).1]
          exact ⟨(a6 j hj).1, (a6 j hj).2.1⟩
        have hprN := m_chl_pr (how := (m_mk M 102 33).toInt) (c := (m_mk M 102 8).toInt.toNat) (t := t.toInt.toNat) (by omega) (by omega) a2 hpr hptc s' (Nat.le_refl _)
        have hB8 : (m_chl (m_mk M 102 33).toInt s' (m_mk M 102 8).toInt.toNat t.toInt.toNat (m_copyOf (m_mk M) t s') s' 102 8).toInt = (M 102 8).toInt + 1 := by
          have e : m_changed (m_mk M) t s' 102 8 = m_chl (m_mk M 102 33).toInt s' (m_mk M 102 8).toInt.toNat t.toInt.toNat (m_copyOf (m_mk M) t s') s' 102 8 := by unfold m_changed; rw [m_ends_row (by decide) (by decide)]
          rw [← e]; exact h8
        have ekd : m_chl (m_mk M 102 33).toInt s' (m_mk M 102 8).toInt.toNat t.toInt.toNat (m_copyOf (m_mk M) t s') s' 103 (m_mk M 102 8).toInt.toNat = M 103 t.toInt.toNat := by rw [m_chl_row (by decide), m_copyOf_kd, eK 103 (by decide)]
        have eky : ∀ j, j < s' → m_chl (m_mk M 102 33).toInt s' (m_mk M 102 8).toInt.toNat t.toInt.toNat (m_copyOf (m_mk M) t s') s' 109 (12 * (m_mk M 102 8).toInt.toNat + j) = M 109 (12 * t.toInt.toNat + j) := fun j hj => by rw [m_chl_row (by decide), m_copyOf_ky h0 (by omega) a2 hj, eK 109 (by decide)]
        have esz : m_chl (m_mk M 102 33).toInt s' (m_mk M 102 8).toInt.toNat t.toInt.toNat (m_copyOf (m_mk M) t s') s' 105 (m_mk M 102 8).toInt.toNat = M 105 t.toInt.toNat := by rw [m_chl_row (by decide), m_copyOf_sz, eK 105 (by decide)]
        unfold m_changed
        generalize m_chl (m_mk M 102 33).toInt s' (m_mk M 102 8).toInt.toNat t.toInt.toNat (m_copyOf (m_mk M) t s') s' = N at *
        rw [e8K] at hprN ekd eky esz ⊢
        refine m_oq_one (s := s') hT h0 h1 hn rfl hB8 hfl.1 (by rw [esz]; exact a1) a2 (by rw [ekd]; exact a3) hprN (by rw [ekd]; exact a9) (fun h j hj => ?_) (fun h j hj => ?_) (by omega)
        · rw [ekd] at h
          rw [eky j hj]
          exact a10 h j hj
        · rw [ekd] at h
          rw [eky j (by omega), eky (j + 1) hj]
          exact a11 h j hj
    · rw [m_cani_f hc]
      exact m_oq_spent m_nomk_36
  next => exact hsame
end
section
/-! ===== the reference: OVER makes good rows (own text) ===== -/
def m_lq (n : Int) (M : wd_I) (t : Int32) (s j : Nat) (r : wd_I × Int32) : Prop :=
  (r.2.toInt = -1 ∧ (r.1 102 8).toInt = (M 102 8).toInt) ∨
  (¬ r.2.toInt = -1 ∧ r.1 103 r.2.toInt.toNat = M 103 t.toInt.toNat ∧ r.1 104 r.2.toInt.toNat = M 104 t.toInt.toNat ∧ (∀ i, i < s → r.1 109 (12 * r.2.toInt.toNat + i) = M 109 (12 * t.toInt.toNat + i)) ∧
    (∀ i, i < s → j ≤ i → r.1 108 (12 * r.2.toInt.toNat + i) = M 108 (12 * t.toInt.toNat + i)) ∧
    (∀ i, i < j → (m_dm n (M 102 8).toInt (r.1 102 8).toInt (r.1 108 (12 * r.2.toInt.toNat + i)).toInt ∧ 0 ≤ (r.1 108 (12 * r.2.toInt.toNat + i)).toInt ∧ (r.1 108 (12 * r.2.toInt.toNat + i)).toInt ≠ r.2.toInt) ∧
      (1 ≤ (r.1 106 (r.1 108 (12 * r.2.toInt.toNat + i)).toInt.toNat).toInt ∧ (r.1 106 (r.1 108 (12 * r.2.toInt.toNat + i)).toInt.toNat).toInt ≤ 202 * (M 106 (M 108 (12 * t.toInt.toNat + i)).toInt.toNat).toInt) ∧
      (0 ≤ (r.1 107 (r.1 108 (12 * r.2.toInt.toNat + i)).toInt.toNat).toInt ∧ (r.1 107 (r.1 108 (12 * r.2.toInt.toNat + i)).toInt.toNat).toInt ≤ (M 107 (M 108 (12 * t.toInt.toNat + i)).toInt.toNat).toInt + 14)) ∧
    (∀ q : Nat, (M 102 8).toInt ≤ (q : Int) → (q : Int) < (r.1 102 8).toInt → (q : Int) ≠ r.2.toInt → m_gr (fun x => m_dm n (M 102 8).toInt (r.1 102 8).toInt x ∧ x ≠ r.2.toInt) r.1 q ∧ ∃ i, i < j ∧ (r.1 106 q).toInt ≤ (r.1 106 (r.1 108 (12 * r.2.toInt.toNat + i)).toInt.toNat).toInt ∧ (r.1 107 q).toInt ≤ (r.1 107 (r.1 108 (12 * r.2.toInt.toNat + i)).toInt.toNat).toInt))
/-- the facts of a part of t that stays -/
theorem m_lq_old {n : Int} {M : wd_I} {t : Int32} {s j : Nat} (hT : m_T M n) (h0 : 0 ≤ t.toInt) (h1 : t.toInt < n) (hs : (M 105 t.toInt.toNat).toInt = (s : Int)) (hj : j < s) : 0 ≤ (M 108 (12 * t.toInt.toNat + j)).toInt ∧ (M 108 (12 * t.toInt.toNat + j)).toInt < n ∧ 1 ≤ (M 106 (M 108 (12 * t.toInt.toNat + j)).toInt.toNat).toInt ∧ 0 ≤ (M 107 (M 108 (12 * t.toInt.toNat + j)).toInt.toNat).toInt := by
  obtain ⟨s', a1, a2, a3, a4, a5, a6, -⟩ := m_T_row hT (t := t.toInt.toNat) (by omega)
  obtain ⟨b1, b2, b3, b4⟩ := a6 j (by omega)
  obtain ⟨s2, c1, c2, c3, c4, -⟩ := m_T_row hT (t := (M 108 (12 * t.toInt.toNat + j)).toInt.toNat) (by omega)
  exact ⟨b1, b2, b4, c4.1⟩
/-- nothing is written below the things there are -/
theorem m_lq_keep {n : Int} {M : wd_I} {t a : Int32} {s j : Nat} {N N' : wd_I} (hT : m_T M n) (h0 : 0 ≤ t.toInt) (h1 : t.toInt < n) (hn : n ≤ (M 102 8).toInt) (hs : (M 105 t.toInt.toNat).toInt = (s : Int)) (h12 : s ≤ 12) (hj : j < s) (hfr : m_sb n M N) (ha : a.toInt = -1 ∨ ((M 102 8).toInt ≤ a.toInt ∧ a.toInt < (N 102 8).toInt)) (h : m_lq n M t s j (N, a)) (hf : m_sb (N 102 8).toInt N N') (h8 : (N' 102 8).toInt = (N 102 8).toInt) (hmn : (M 102 8).toInt ≤ (N 102 8).toInt) : m_lq n M t s (j + 1) (N', a) := by
  obtain ⟨p0, p1, p2, p3⟩ := m_lq_old hT h0 h1 hs hj
  rcases h with ⟨b1, b2⟩ | ⟨b1, b2, b3, b4, b5, b6, b7⟩
  · exact Or.inl ⟨b1, by show (N' 102 8).toInt = _; rw [h8]; exact b2⟩
  · change ¬ a.toInt = -1 at b1
    change N 103 a.toInt.toNat = _ at b2
    change N 104 a.toInt.toNat = _ at b3
    dsimp only at b4 b5 b6 b7
    have ha2 := ha.resolve_left b1
    have hr := hf.ra (q := a.toInt.toNat) (by omega)
    obtain ⟨e3, e4, e5, e6, e7, e8⟩ := hr
    have hpart : ∀ i, i < s → N' 108 (12 * a.toInt.toNat + i) = N 108 (12 * a.toInt.toNat + i) := fun i hi => (e8 i (by omega)).1
    have hD : ∀ x : Int, 0 ≤ x → m_dm n (M 102 8).toInt (N 102 8).toInt x → m_ra N N' x.toNat := fun x hx hxD => hf.ra (by unfold m_dm at hxD; omega)
    refine Or.inr ⟨b1, by show N' 103 a.toInt.toNat = _; rw [e3]; exact b2, by show N' 104 a.toInt.toNat = _; rw [e4]; exact b3, fun i hi => by show N' 109 (12 * a.toInt.toNat + i) = _; rw [(e8 i (by omega)).2]; exact b4 i hi, fun i hi hji => by show N' 108 (12 * a.toInt.toNat + i) = _; rw [hpart i hi]; exact b5 i hi (by omega), fun i hi => ?_, fun q hq1 hq2 hq3 => ?_⟩
    · dsimp only
      rw [hpart i (by omega), h8]
      by_cases e : i = j
      · subst e
        rw [b5 i hj (Nat.le_refl _)]
        have hrp := hfr.ra (q := (M 108 (12 * t.toInt.toNat + i)).toInt.toNat) (by omega)
        have hrq := hf.ra (q := (M 108 (12 * t.toInt.toNat + i)).toInt.toNat) (by omega)
        rw [hrq.2.2.2.1, hrq.2.2.2.2.1, hrp.2.2.2.1, hrp.2.2.2.2.1]
        exact ⟨⟨Or.inl p1, p0, by omega⟩, ⟨p2, by omega⟩, ⟨p3, by omega⟩⟩
      · obtain ⟨c1, c2, c3⟩ := b6 i (by omega)
        have hrq := hD _ c1.2.1 c1.1
        rw [hrq.2.2.2.1, hrq.2.2.2.2.1]
        exact ⟨c1, c2, c3⟩
    · dsimp only at hq2 hq3 ⊢
      rw [h8] at hq2 ⊢
      obtain ⟨d1, i, hi, d2, d3⟩ := b7 q hq1 hq2 hq3
      have hrq := hf.ra (q := q) hq2
      have hrx := hD _ (b6 i hi).1.2.1 (b6 i hi).1.1
      refine ⟨m_gr_ra d1 hrq (fun x hx hxD => hD x hx hxD.1) (fun x _ hx => hx), i, by omega, ?_, ?_⟩
      · rw [hpart i (by omega), hrq.2.2.2.1, hrx.2.2.2.1]; exact d2
      · rw [hpart i (by omega), hrq.2.2.2.2.1, hrx.2.2.2.2.1]; exact d3
/-- the first part that is another: the thing is copied -/
theorem m_lq_new {n : Int} {M : wd_I} {t x : Int32} {s j : Nat} {N : wd_I} (hT : m_T M n) (h0 : 0 ≤ t.toInt) (h1 : t.toInt < n) (hn : n ≤ (M 102 8).toInt) (hs : (M 105 t.toInt.toNat).toInt = (s : Int)) (h12 : s ≤ 12) (hj : j < s) (hfr : m_sb n M N) (hmn : (M 102 8).toInt ≤ (N 102 8).toInt) (hlt : (N 102 8).toInt < 3012)
    (hx : m_dm n (M 102 8).toInt (N 102 8).toInt x.toInt ∧ 0 ≤ x.toInt) (hxn : 1 ≤ (N 106 x.toInt.toNat).toInt ∧ (N 106 x.toInt.toNat).toInt ≤ 202 * (M 106 (M 108 (12 * t.toInt.toNat + j)).toInt.toNat).toInt) (hxh : 0 ≤ (N 107 x.toInt.toNat).toInt ∧ (N 107 x.toInt.toNat).toInt ≤ (M 107 (M 108 (12 * t.toInt.toNat + j)).toInt.toNat).toInt + 14)
    (hrow : ∀ q : Nat, (M 102 8).toInt ≤ (q : Int) → (q : Int) < (N 102 8).toInt → m_gr (m_dm n (M 102 8).toInt (N 102 8).toInt) N q ∧ (N 106 q).toInt ≤ (N 106 x.toInt.toNat).toInt ∧ (N 107 q).toInt ≤ (N 107 x.toInt.toNat).toInt) : m_lq n M t s (j + 1) (wd_up (m_copyOf (m_mk N) t s) 108 (12 * (N 102 8).toInt.toNat + j) x, N 102 8) := by
  have eK8 := m_mk_8 (M := N)
  have hM0 : 0 ≤ (M 102 8).toInt := by omega
  have hf : m_fr (N 102 8).toInt N (wd_up (m_copyOf (m_mk N) t s) 108 (12 * (N 102 8).toInt.toNat + j) x) := m_fr_up (m_copyOf_fr (m_mk_fr m_fr.rf) (by rw [eK8]; exact Int.le_refl _)) (by unfold m_wr; omega)
  have e8 : (wd_up (m_copyOf (m_mk N) t s) 108 (12 * (N 102 8).toInt.toNat + j) x 102 8).toInt = (N 102 8).toInt + 1 := by
    rw [wd_up_row _ _ _ (by decide), m_copyOf_8, eK8, ab_tI (by omega) (by omega)]
  have eK : ∀ a, a ≠ 102 → m_mk N a = N a := fun a ha => m_mk_row ha
  have hrt := hfr.ra (q := t.toInt.toNat) (by omega)
  have e3 : wd_up (m_copyOf (m_mk N) t s) 108 (12 * (N 102 8).toInt.toNat + j) x 103 (N 102 8).toInt.toNat = M 103 t.toInt.toNat := by rw [wd_up_row _ _ _ (by decide), ← eK8, m_copyOf_kd, eK 103 (by decide)]; exact hrt.1
  have e4 : wd_up (m_copyOf (m_mk N) t s) 108 (12 * (N 102 8).toInt.toNat + j) x 104 (N 102 8).toInt.toNat = M 104 t.toInt.toNat := by rw [wd_up_row _ _ _ (by decide), ← eK8, m_copyOf_wo, eK 104 (by decide)]; exact hrt.2.1
  have e9 : ∀ i, i < s → wd_up (m_copyOf (m_mk N) t s) 108 (12 * (N 102 8).toInt.toNat + j) x 109 (12 * (N 102 8).toInt.toNat + i) = M 109 (12 * t.toInt.toNat + i) := fun i hi => by
    have := m_copyOf_ky (M := m_mk N) (t := t) (s := s) h0 (by rw [eK8]; omega) h12 hi
    rw [eK8, eK 109 (by decide)] at this
    rw [wd_up_row _ _ _ (by decide), this]
    exact (hrt.2.2.2.2.2 i (by omega)).2
  have ep : ∀ i, i < s → wd_up (m_copyOf (m_mk N) t s) 108 (12 * (N 102 8).toInt.toNat + j) x 108 (12 * (N 102 8).toInt.toNat + i) = if i = j then x else M 108 (12 * t.toInt.toNat + i) := fun i hi => by
    by_cases e : i = j
    · subst e; rw [wd_up_self, if_pos rfl]
    · have := m_copyOf_pt (M := m_mk N) (t := t) (s := s) h0 (by rw [eK8]; omega) h12 hi
      rw [eK8, eK 108 (by decide)] at this
      rw [wd_up_ne _ _ (Or.inr (by omega)), this, if_neg e]
      exact (hrt.2.2.2.2.2 i (by omega)).1
  generalize wd_up (m_copyOf (m_mk N) t s) 108 (12 * (N 102 8).toInt.toNat + j) x = A at *
  have hD : ∀ y : Int, 0 ≤ y → m_dm n (M 102 8).toInt (N 102 8).toInt y → m_ra N A y.toNat := fun y hy hyD => hf.1.ra (by unfold m_dm at hyD; omega)
  refine Or.inr ⟨by show ¬ (N 102 8).toInt = -1; omega, e3, e4, e9, fun i hi hji => by show A 108 (12 * (N 102 8).toInt.toNat + i) = _; rw [ep i hi, if_neg (by omega)], fun i hi => ?_, fun q hq1 hq2 hq3 => ?_⟩
  · dsimp only
    rw [ep i (by omega)]
    by_cases e : i = j
    · subst e
      rw [if_pos rfl, (hD _ hx.2 hx.1).2.2.2.1, (hD _ hx.2 hx.1).2.2.2.2.1]
      refine ⟨⟨?_, hx.2, ?_⟩, hxn, hxh⟩
      · have := hx.1; unfold m_dm at this ⊢; omega
      · have := hx.1; unfold m_dm at this; omega
    · obtain ⟨p0, p1, p2, p3⟩ := m_lq_old hT h0 h1 hs (show i < s by omega)
      have hr1 := hfr.ra (q := (M 108 (12 * t.toInt.toNat + i)).toInt.toNat) (by omega)
      have hr2 := hf.1.ra (q := (M 108 (12 * t.toInt.toNat + i)).toInt.toNat) (by omega)
      rw [if_neg e, hr2.2.2.2.1, hr2.2.2.2.2.1, hr1.2.2.2.1, hr1.2.2.2.2.1]
      exact ⟨⟨Or.inl p1, p0, by omega⟩, ⟨p2, by omega⟩, ⟨p3, by omega⟩⟩
  · dsimp only at hq2 hq3 ⊢
    obtain ⟨d1, d2, d3⟩ := hrow q hq1 (by omega)
    have hrq := hf.1.ra (q := q) (by omega)
    have hrx := hD _ hx.2 hx.1
    refine ⟨m_gr_ra d1 hrq hD (fun y _ hy => ⟨by unfold m_dm at hy ⊢; omega, by unfold m_dm at hy; omega⟩), j, by omega, ?_, ?_⟩
    · rw [ep j hj, if_pos rfl, hrq.2.2.2.1, hrx.2.2.2.1]; exact d2
    · rw [ep j hj, if_pos rfl, hrq.2.2.2.2.1, hrx.2.2.2.2.1]; exact d3
end
section
/-! ===== the reference: OVER makes good rows, whole (own text) ===== -/
/-- a further part that is another -/
theorem m_lq_add {n : Int} {M : wd_I} {t a x : Int32} {s j : Nat} {N N1 : wd_I} (hT : m_T M n) (h0 : 0 ≤ t.toInt) (h1 : t.toInt < n) (hn : n ≤ (M 102 8).toInt) (hs : (M 105 t.toInt.toNat).toInt = (s : Int)) (h12 : s ≤ 12) (hj : j < s) (ha1 : ¬ a.toInt = -1) (ha : (M 102 8).toInt ≤ a.toInt ∧ a.toInt < (N 102 8).toInt) (h : m_lq n M t s j (N, a)) (hf1 : m_sb (N 102 8).toInt N N1) (h81 : (N 102 8).toInt ≤ (N1 102 8).toInt)
    (hx : m_dm n (N 102 8).toInt (N1 102 8).toInt x.toInt ∧ 0 ≤ x.toInt) (hxn : 1 ≤ (N1 106 x.toInt.toNat).toInt ∧ (N1 106 x.toInt.toNat).toInt ≤ 202 * (M 106 (M 108 (12 * t.toInt.toNat + j)).toInt.toNat).toInt) (hxh : 0 ≤ (N1 107 x.toInt.toNat).toInt ∧ (N1 107 x.toInt.toNat).toInt ≤ (M 107 (M 108 (12 * t.toInt.toNat + j)).toInt.toNat).toInt + 14)
    (hrow : ∀ q : Nat, (N 102 8).toInt ≤ (q : Int) → (q : Int) < (N1 102 8).toInt → m_gr (m_dm n (N 102 8).toInt (N1 102 8).toInt) N1 q ∧ (N1 106 q).toInt ≤ (N1 106 x.toInt.toNat).toInt ∧ (N1 107 q).toInt ≤ (N1 107 x.toInt.toNat).toInt) : m_lq n M t s (j + 1) (wd_up N1 108 (12 * a.toInt.toNat + j) x, a) := by
  rcases h with ⟨b1, -⟩ | ⟨b1, b2, b3, b4, b5, b6, b7⟩
  · exact absurd b1 ha1
  · change N 103 a.toInt.toNat = _ at b2
    change N 104 a.toInt.toNat = _ at b3
    dsimp only at b4 b5 b6 b7
    have hM0 : 0 ≤ (M 102 8).toInt := by omega
    have hua : ∀ q : Nat, q ≠ a.toInt.toNat → m_ra N1 (wd_up N1 108 (12 * a.toInt.toNat + j) x) q := fun q hq => by
      refine ⟨by rw [wd_up_row _ _ _ (by decide)], by rw [wd_up_row _ _ _ (by decide)], by rw [wd_up_row _ _ _ (by decide)], by rw [wd_up_row _ _ _ (by decide)], by rw [wd_up_row _ _ _ (by decide)], fun i hi => ⟨?_, by rw [wd_up_row _ _ _ (by decide)]⟩⟩
      rw [wd_up_ne _ _ (Or.inr (by omega))]
    have e8 : wd_up N1 108 (12 * a.toInt.toNat + j) x 102 8 = N1 102 8 := by rw [wd_up_row _ _ _ (by decide)]
    have ea := hf1.ra (q := a.toInt.toNat) (by omega)
    have ep : ∀ i, i < s → wd_up N1 108 (12 * a.toInt.toNat + j) x 108 (12 * a.toInt.toNat + i) = if i = j then x else N 108 (12 * a.toInt.toNat + i) := fun i hi => by
      by_cases e : i = j
      · subst e; rw [wd_up_self, if_pos rfl]
      · rw [wd_up_ne _ _ (Or.inr (by omega)), if_neg e]; exact (ea.2.2.2.2.2 i (by omega)).1
    have e3 : wd_up N1 108 (12 * a.toInt.toNat + j) x 103 a.toInt.toNat = N 103 a.toInt.toNat := by rw [wd_up_row _ _ _ (by decide)]; exact ea.1
    have e4 : wd_up N1 108 (12 * a.toInt.toNat + j) x 104 a.toInt.toNat = N 104 a.toInt.toNat := by rw [wd_up_row _ _ _ (by decide)]; exact ea.2.1
    have e9 : ∀ i, i < s → wd_up N1 108 (12 * a.toInt.toNat + j) x 109 (12 * a.toInt.toNat + i) = N 109 (12 * a.toInt.toNat + i) := fun i hi => by rw [wd_up_row _ _ _ (by decide)]; exact (ea.2.2.2.2.2 i (by omega)).2
    generalize wd_up N1 108 (12 * a.toInt.toNat + j) x = A at *
    have hold : ∀ y : Int, 0 ≤ y → y ≠ a.toInt → m_dm n (M 102 8).toInt (N 102 8).toInt y → m_ra N A y.toNat := fun y hy hya hyD => (hf1.ra (by unfold m_dm at hyD; omega)).tr (hua _ (by omega))
    have hnew : ∀ y : Int, 0 ≤ y → m_dm n (N 102 8).toInt (N1 102 8).toInt y → m_ra N1 A y.toNat := fun y hy hyD => hua _ (by unfold m_dm at hyD; omega)
    refine Or.inr ⟨b1, by show A 103 a.toInt.toNat = _; rw [e3]; exact b2, by show A 104 a.toInt.toNat = _; rw [e4]; exact b3, fun i hi => by show A 109 (12 * a.toInt.toNat + i) = _; rw [e9 i hi]; exact b4 i hi, fun i hi hji => by show A 108 (12 * a.toInt.toNat + i) = _; rw [ep i hi, if_neg (by omega)]; exact b5 i hi (by omega), fun i hi => ?_, fun q hq1 hq2 hq3 => ?_⟩
    · dsimp only
      rw [ep i (by omega), e8]
      by_cases e : i = j
      · subst e
        have hr := hnew _ hx.2 hx.1
        rw [if_pos rfl, hr.2.2.2.1, hr.2.2.2.2.1]
        have := hx.1
        unfold m_dm at this ⊢
        exact ⟨⟨by omega, hx.2, by omega⟩, hxn, hxh⟩
      · rw [if_neg e]
        obtain ⟨c1, c2, c3⟩ := b6 i (by omega)
        have hr := hold _ c1.2.1 c1.2.2 c1.1
        rw [hr.2.2.2.1, hr.2.2.2.2.1]
        have := c1.1
        unfold m_dm at this ⊢
        exact ⟨⟨by omega, c1.2.1, c1.2.2⟩, c2, c3⟩
    · dsimp only at hq2 hq3 ⊢
      rw [e8] at hq2 ⊢
      by_cases hqN : (q : Int) < (N 102 8).toInt
      · obtain ⟨d1, i, hi, d2, d3⟩ := b7 q hq1 hqN hq3
        have hrq : m_ra N A q := (hf1.ra hqN).tr (hua _ (by omega))
        have hrx := hold _ (b6 i hi).1.2.1 (b6 i hi).1.2.2 (b6 i hi).1.1
        refine ⟨m_gr_ra d1 hrq (fun y hy hyD => hold y hy hyD.2 hyD.1) (fun y _ hy => ⟨by have := hy.1; unfold m_dm at this ⊢; omega, hy.2⟩), i, by omega, ?_, ?_⟩
        · rw [ep i (by omega), if_neg (by omega), hrq.2.2.2.1, hrx.2.2.2.1]; exact d2
        · rw [ep i (by omega), if_neg (by omega), hrq.2.2.2.2.1, hrx.2.2.2.2.1]; exact d3
      · obtain ⟨d1, d2, d3⟩ := hrow q (by omega) hq2
        have hrq : m_ra N1 A q := hua _ (by omega)
        have hrx := hnew _ hx.2 hx.1
        refine ⟨m_gr_ra d1 hrq hnew (fun y _ hy => ⟨by unfold m_dm at hy ⊢; omega, by unfold m_dm at hy; omega⟩), j, by omega, ?_, ?_⟩
        · rw [ep j hj, if_pos rfl, hrq.2.2.2.1, hrx.2.2.2.1]; exact d2
        · rw [ep j hj, if_pos rfl, hrq.2.2.2.2.1, hrx.2.2.2.2.1]; exact d3
/-- what is asked of the step within -/
def m_Gq (n : Int) (G : wd_I → Int32 → wd_I × Int32) : Prop := (∀ N q, ¬ (N 102 36).toInt = 0 → G N q = (N, q)) ∧ (∀ N q, m_op n N → 0 ≤ q.toInt → q.toInt < n → m_good (N 102 8).toInt N (G N q)) ∧ ∀ N q, m_op n N → m_T N n → 0 ≤ q.toInt → q.toInt < n → m_oq n N q.toInt.toNat (G N q)
theorem m_ovs_fl {n : Int} {G : wd_I → Int32 → wd_I × Int32} (hG : m_Gq n G) {p i s j : Nat} {t : Int32} {r : wd_I × Int32} (h : ¬ (r.1 102 36).toInt = 0) : m_ovs G p i s t j r = r := by
  unfold m_ovs
  split
  · rw [hG.1 _ _ h]
    show (if (r.1 108 (12 * t.toInt.toNat + j)).toInt = (r.1 108 (12 * t.toInt.toNat + j)).toInt then (r.1, r.2) else _) = r
    rw [if_pos rfl]
  · rfl
theorem m_ovl_fl {n : Int} {G : wd_I → Int32 → wd_I × Int32} (hG : m_Gq n G) {p i s : Nat} {t : Int32} : ∀ (m j : Nat) (r : wd_I × Int32), ¬ (r.1 102 36).toInt = 0 → m_ovl G p i s t m j r = r
  | 0, _, _, _ => rfl
  | m + 1, j, r, h => by
    unfold m_ovl
    rw [m_ovs_fl hG h]
    exact m_ovl_fl hG m (j + 1) r h
theorem m_ovs_lq {n : Int} {G : wd_I → Int32 → wd_I × Int32} (hG : m_Gq n G) {p i s j : Nat} {M : wd_I} {t : Int32} (hop : m_op n M) (hT : m_T M n) (h0 : 0 ≤ t.toInt) (h1 : t.toInt < n) (hs : (M 105 t.toInt.toNat).toInt = (s : Int)) (h12 : s ≤ 12) (hj : j < s) {r : wd_I × Int32} (hli : m_li s M r) (h : m_lq n M t s j r) (hu : ((m_ovs G p i s t j r).1 102 36).toInt = 0) : m_lq n M t s (j + 1) (m_ovs G p i s t j r) := by
  obtain ⟨N, a⟩ := r
  obtain ⟨hf, hr, h8, hA⟩ := hli
  change m_fr (M 102 8).toInt M N at hf
  change m_rm N at hr
  change (M 102 8).toInt ≤ (N 102 8).toInt at h8
  obtain ⟨o1, o2, o3, o4, o5, o6⟩ := id hop
  have hsbn : m_sb n M N := (hf.le o3).1
  have hTN : m_T N n := m_T_sb hT hsbn
  have hopN : m_op n N := m_op_fr hop hf o3 hr h8
  obtain ⟨p0, p1, p2, p3⟩ := m_lq_old hT h0 h1 hs hj
  have hq : N 108 (12 * t.toInt.toNat + j) = M 108 (12 * t.toInt.toNat + j) := (hsbn.2 _ (by omega)).1
  have hAN : a.toInt = -1 ∨ ((M 102 8).toInt ≤ a.toInt ∧ a.toInt < (N 102 8).toInt) := by
    rcases hA with hA | ⟨b1, b2, -⟩
    · exact Or.inl hA
    · exact Or.inr ⟨b1, b2⟩
  unfold m_ovs at hu ⊢
  simp only [hq] at hu ⊢
  by_cases hpa : m_part N p t.toInt.toNat i j
  · rw [if_pos hpa] at hu ⊢
    have g1 := hG.2.1 N (M 108 (12 * t.toInt.toNat + j)) hopN p0 p1
    have g2 := hG.2.2 N (M 108 (12 * t.toInt.toNat + j)) hopN hTN p0 p1
    have hqr := hsbn.ra (q := (M 108 (12 * t.toInt.toNat + j)).toInt.toNat) (by omega)
    generalize G N (M 108 (12 * t.toInt.toNat + j)) = R at *
    obtain ⟨N1, x⟩ := R
    obtain ⟨gf, gr, g8, gx0, gx1⟩ := g1
    change m_fr (N 102 8).toInt N N1 at gf
    change m_rm N1 at gr
    change (N 102 8).toInt ≤ (N1 102 8).toInt at g8
    change 0 ≤ x.toInt at gx0
    unfold m_oq at g2
    dsimp only at hu g2 ⊢
    rw [hqr.2.2.2.1, hqr.2.2.2.2.1] at g2
    by_cases hex : x.toInt = (M 108 (12 * t.toInt.toNat + j)).toInt
    · rw [if_pos hex] at hu ⊢
      have hu2 : (N1 102 36).toInt = 0 := hu
      obtain ⟨q1, -⟩ := g2 hu2
      exact m_lq_keep hT h0 h1 o3 hs h12 hj hsbn hAN h gf.1 (by omega) h8
    · rw [if_neg hex] at hu ⊢
      by_cases ha : a.toInt = -1
      · rw [if_pos ha] at hu ⊢
        by_cases hc : m_can N1
        · rw [m_cani_t hc] at hu ⊢
          obtain ⟨q1, q2, q3, q4, q5⟩ := g2 hc.1
          have hlt := m_can_lt gr hc
          have eN : (N 102 8).toInt = (M 102 8).toInt := by
            rcases h with ⟨-, b2⟩ | ⟨b1, -⟩
            · exact b2
            · exact absurd ha b1
          rw [eN] at q2 q3
          exact m_lq_new hT h0 h1 o3 hs h12 hj (hsbn.tr gf.1 (by omega)) (by omega) (by omega) ⟨q3, gx0⟩ q4 q5 q2
        · rw [m_cani_f hc] at hu
          have := m_nomk_36 (M := N1)
          change (m_nomk N1 102 36).toInt = 0 at hu
          omega
      · rw [if_neg ha] at hu ⊢
        have hu2 : (N1 102 36).toInt = 0 := by
          change (wd_up N1 108 (12 * a.toInt.toNat + j) x 102 36).toInt = 0 at hu
          rw [wd_up_row _ _ _ (by decide)] at hu
          exact hu
        obtain ⟨q1, q2, q3, q4, q5⟩ := g2 hu2
        exact m_lq_add hT h0 h1 o3 hs h12 hj ha (hAN.resolve_left ha) h gf.1 g8 ⟨q3, gx0⟩ q4 q5 q2
  · rw [if_neg hpa] at hu ⊢
    exact m_lq_keep hT h0 h1 o3 hs h12 hj hsbn hAN h m_sb.rf rfl h8
theorem m_ovl_lq {n : Int} {G : wd_I → Int32 → wd_I × Int32} (hG : m_Gq n G) {p i s : Nat} {M : wd_I} {t : Int32} (hop : m_op n M) (hT : m_T M n) (h0 : 0 ≤ t.toInt) (h1 : t.toInt < n) (hs : (M 105 t.toInt.toNat).toInt = (s : Int)) (h12 : s ≤ 12) (hpt : ∀ j, j < s → 0 ≤ (M 108 (12 * t.toInt.toNat + j)).toInt ∧ (M 108 (12 * t.toInt.toNat + j)).toInt < n) : ∀ (m j : Nat) (r : wd_I × Int32), j + m = s → m_li s M r → m_lq n M t s j r → ((m_ovl G p i s t m j r).1 102 36).toInt = 0 → m_lq n M t s s (m_ovl G p i s t m j r) ∧ m_li s M (m_ovl G p i s t m j r)
  | 0, j, r, hj, hli, h, _ => by
    have e : j = s := by omega
    subst e
    exact ⟨h, hli⟩
  | m + 1, j, (N, a), hj, hli, h, hu => by
    unfold m_ovl at hu ⊢
    have hu1 : ((m_ovs G p i s t j (N, a)).1 102 36).toInt = 0 := by
      by_cases hc : ((m_ovs G p i s t j (N, a)).1 102 36).toInt = 0
      · exact hc
      · rw [m_ovl_fl hG m (j + 1) _ hc] at hu
        exact absurd hu hc
    have hli2 := m_ovs_li (p := p) (i := i) hop h0 h1 hs h12 hpt (show j < s by omega) hG.2.1 hli
    exact m_ovl_lq hG hop hT h0 h1 hs h12 hpt m (j + 1) _ (by omega) hli2 (m_ovs_lq hG hop hT h0 h1 hs h12 (by omega) hli h hu1) hu
theorem m_fin_oq {n : Int} {M : wd_I} {t : Int32} {s : Nat} {r : wd_I × Int32} (hop : m_op n M) (hT : m_T M n) (h0 : 0 ≤ t.toInt) (h1 : t.toInt < n) (hs : (M 105 t.toInt.toNat).toInt = (s : Int)) (hli : m_li s M r) (h : m_lq n M t s s r) : m_oq n M t.toInt.toNat (m_fin s t r) := by
  obtain ⟨N, a⟩ := r
  obtain ⟨hf, hr, h8, hA⟩ := hli
  change m_fr (M 102 8).toInt M N at hf
  change (M 102 8).toInt ≤ (N 102 8).toInt at h8
  obtain ⟨o1, o2, o3, o4, o5, o6⟩ := id hop
  have hsbn : m_sb n M N := (hf.le o3).1
  unfold m_fin
  dsimp only
  by_cases ha : a.toInt = -1
  · rw [if_pos ha]
    rcases h with ⟨-, b2⟩ | ⟨b1, -⟩
    · exact m_oq_same hT h0 h1 h0 h1 hsbn (Int32.toInt_inj.mp b2)
    · exact absurd ha b1
  · rw [if_neg ha]
    rcases h with ⟨b1, -⟩ | ⟨b1, b2, b3, b4, b5, b6, b7⟩
    · exact absurd b1 ha
    · change N 103 a.toInt.toNat = _ at b2
      dsimp only at b4 b5 b6 b7
      obtain ⟨c1, c2, c3, c4⟩ := hA.resolve_left ha
      change (M 102 8).toInt ≤ a.toInt at c1
      change a.toInt < (N 102 8).toInt at c2
      change (N 105 a.toInt.toNat).toInt = (s : Int) at c3
      obtain ⟨s', a1, a2, a3, a4, a5, a6, a7, a8, a9, a10, a11⟩ := m_T_row hT (t := t.toInt.toNat) (by omega)
      have es : s' = s := by omega
      subst es
      have hht : ∀ i, i < s' → 1 ≤ (M 106 (M 108 (12 * t.toInt.toNat + i)).toInt.toNat).toInt ∧ (M 106 (M 108 (12 * t.toInt.toNat + i)).toInt.toNat).toInt ≤ 200 ∧ 0 ≤ (M 107 (M 108 (12 * t.toInt.toNat + i)).toInt.toNat).toInt ∧ (M 107 (M 108 (12 * t.toInt.toNat + i)).toInt.toNat).toInt < (M 107 t.toInt.toNat).toInt := fun i hi => by
        obtain ⟨d1, d2, d3, d4⟩ := a6 i hi
        obtain ⟨s2, e1, e2, e3, e4, e5, -⟩ := m_T_row hT (t := (M 108 (12 * t.toInt.toNat + i)).toInt.toNat) (by omega)
        exact ⟨d4, e5.2, e4.1, d3⟩
      obtain ⟨g1, g2, g3, g4, g5⟩ := m_ends_gr (D := m_dm n (M 102 8).toInt (N 102 8).toInt) (N := N) (t := a) c3 a2 (by rw [b2]; exact a3) (fun i hi => by
        obtain ⟨d1, d2, d3⟩ := b6 i hi
        exact ⟨d1.2.1, d1.1, by omega⟩) (fun i hi => by have := (b6 i hi).2.1; have := hht i hi; omega) (fun i hi => by have := (b6 i hi).2.2; have := hht i hi; omega) (by rw [b2]; exact a9) (fun h3 i hi => by rw [b2] at h3; rw [b4 i hi]; exact a10 h3 i hi) (fun h3 i hi => by rw [b2] at h3; rw [b4 i (by omega), b4 (i + 1) hi]; exact a11 h3 i hi)
      have hnd : ∀ i, i ≤ s' → m_nds N a.toInt.toNat i ≤ 1 + 202 * (m_nds M t.toInt.toNat i - 1) := by
        intro i
        induction i with
        | zero => intro _; unfold m_nds; omega
        | succ i ih =>
          intro hi
          have := ih (by omega)
          have := (b6 i (by omega)).2.1.2
          unfold m_nds
          omega
      have hnds := hnd s' (Nat.le_refl _)
      have hone : ∀ i, i < s' → (N 106 (N 108 (12 * a.toInt.toNat + i)).toInt.toNat).toInt + 1 ≤ m_nds N a.toInt.toNat s' := fun i hi => m_nds_one (s := s') (fun l hl => by have := (b6 l hl).2.1; omega) hi
      have hge : 1 ≤ m_nds N a.toInt.toNat s' := m_nds_mono (N := N) (q := a.toInt.toNat) (s := s') (fun j hj => by have := (b6 j hj).2.1; omega) 0 s' (by omega) (Nat.le_refl _)
      have e8 : m_ends N a s' 102 8 = N 102 8 := by rw [m_ends_row (by decide) (by decide)]
      intro _
      dsimp only
      rw [e8]
      refine ⟨Or.inr c1, fun q hq1 hq2 => ?_, Or.inr ⟨c1, c2⟩, by omega, g4, ?_⟩
      · by_cases eq : q = a.toInt.toNat
        · subst eq
          exact ⟨g1, Int.le_refl _, Int.le_refl _⟩
        · obtain ⟨d1, i, hi, d2, d3⟩ := b7 q hq1 hq2 (by omega)
          have hra : ∀ y : Nat, y ≠ a.toInt.toNat → m_ra N (m_ends N a s') y := fun y hy => m_ends_ra hy
          have hrq := hra q eq
          refine ⟨m_gr_ra d1 hrq (fun y hy hyD => hra _ (by have := hyD.2; omega)) (fun y _ hy => hy.1), ?_, ?_⟩
          · rw [hrq.2.2.2.1]
            have := hone i hi
            omega
          · rw [hrq.2.2.2.2.1]
            have := g3 i hi
            omega
      · rcases g5 with e | ⟨i, hi, e⟩
        · omega
        · have := (b6 i hi).2.2
          have := hht i hi
          omega
theorem m_ov_oq {n : Int} {p : Nat} : ∀ (f : Nat) (M : wd_I) (t : Int32) (i : Nat), m_op n M → m_T M n → 0 ≤ t.toInt → t.toInt < n → m_oq n M t.toInt.toNat (m_ov p f M t i)
  | 0, M, t, i, hop, hT, h0, h1 => m_oq_same hT h0 h1 h0 h1 m_sb.rf rfl
  | f + 1, M, t, i, hop, hT, h0, h1 => by
    obtain ⟨o1, o2, o3, o4, o5, o6⟩ := id hop
    obtain ⟨s, a1, a2, a3, a4, a5, a6, -⟩ := m_T_row hT (t := t.toInt.toNat) (by omega)
    have hs : (M 105 t.toInt.toNat).toInt.toNat = s := by omega
    unfold m_ov
    rw [hs]
    split
    · split
      · have hb := m_bec_oq (M := m_ov1 M) (how := (M 102 33).toInt) (hw := M 102 34) (f := M 102 35) (t := t) (s := s) (m_T_sb hT (m_ov1_fr (n := n)).1) o2 (by rw [m_ov1_8]; exact o3) (m_ov1_rm o4) h0 h1 (by rw [m_ov1_row (by decide)]; exact a1) (fun h7 => by rw [m_ov1_row (by decide)]; exact (o6 h7).2)
        exact m_oq_M hb m_ov1_8 (by rw [m_ov1_row (by decide)]) (by rw [m_ov1_row (by decide)])
      · split
        · exact m_ov_oq f M t (i + 1) hop hT h0 h1
        · have hG : m_Gq n (fun N q => m_ov p f N q (m_nxt M p i)) := ⟨fun N q hf => by
            show m_ov p f N q (m_nxt M p i) = (N, q)
            cases f with
            | zero => rfl
            | succ f => unfold m_ov; rw [if_neg hf], fun N q hN hq0 hq1 => m_ov_good f N q _ hN hq0 hq1, fun N q hN hTN hq0 hq1 => m_ov_oq f N q _ hN hTN hq0 hq1⟩
          have hpt : ∀ j, j < s → 0 ≤ (M 108 (12 * t.toInt.toNat + j)).toInt ∧ (M 108 (12 * t.toInt.toNat + j)).toInt < n := fun j hj => ⟨(a6 j hj).1, (a6 j hj).2.1⟩
          intro hu
          have hu2 : ((m_ovl (fun N q => m_ov p f N q (m_nxt M p i)) p i s t s 0 (M, ab_ii (-1))).1 102 36).toInt = 0 := by
            unfold m_fin at hu
            split at hu
            · exact hu
            · dsimp only at hu
              rw [m_ends_row (by decide) (by decide)] at hu
              exact hu
          have hl := m_ovl_lq hG (p := p) (i := i) hop hT h0 h1 a1 a2 hpt s 0 (M, ab_ii (-1)) (by omega) ⟨m_fr.rf, o4, Int.le_refl _, Or.inl rfl⟩ (Or.inl ⟨rfl, rfl⟩) hu2
          exact m_fin_oq hop hT h0 h1 a1 hl.2 hl.1 hu
    · exact m_oq_same hT h0 h1 h0 h1 m_sb.rf rfl
/-- behind an OVER that did not fail the table is whole -/
theorem m_co_T {M : wd_I} {t p how v : Int32} (hcop : m_cop (M 102 8).toInt M how v) (hT : m_T M (M 102 8).toInt) (h0 : 0 ≤ t.toInt) (h1 : t.toInt < (M 102 8).toInt) (hu : ((m_co M t p how v).1 102 36).toInt = 0) (hn : ((m_co M t p how v).1 106 (m_co M t p how v).2.toInt.toNat).toInt ≤ 200) (hh : ((m_co M t p how v).1 107 (m_co M t p how v).2.toInt.toNat).toInt ≤ 12) : m_T (m_co M t p how v).1 ((m_co M t p how v).1 102 8).toInt := by
  have hop := m_cop_op (p := p) hcop
  have hs0 : m_sb (M 102 8).toInt M (m_co0 M p how v) := ⟨fun q _ => ⟨by rw [m_co0_row (by decide)], by rw [m_co0_row (by decide)], by rw [m_co0_row (by decide)], by rw [m_co0_row (by decide)], by rw [m_co0_row (by decide)]⟩, fun i _ => ⟨by rw [m_co0_row (by decide)], by rw [m_co0_row (by decide)]⟩⟩
  have hT0 := m_T_sb hT hs0
  have hg := m_co_good (p := p) hcop h0 h1
  have hq := m_ov_oq (p := p.toInt.toNat) 21 (m_co0 M p how v) t 0 hop hT0 h0 h1
  change m_oq (M 102 8).toInt (m_co0 M p how v) t.toInt.toNat (m_co M t p how v) at hq
  unfold m_oq at hq
  rw [m_co0_n (by decide)] at hq
  generalize m_co M t p how v = R at *
  obtain ⟨N, r⟩ := R
  obtain ⟨gf, gr, g8, gx0, gx1⟩ := hg
  obtain ⟨q1, q2, q3, q4, q5⟩ := hq hu
  dsimp only at *
  obtain ⟨m1, m2, m3⟩ := gr
  refine ⟨by omega, fun q hq => ?_⟩
  by_cases hc : (q : Int) < (M 102 8).toInt
  · obtain ⟨b1, b2, b3⟩ := hT0.2 q hc
    have hr := gf.1.ra hc
    refine ⟨m_gr_ra b1 hr (fun x hx hxD => gf.1.ra (by omega)) (fun x _ hx => by rw [m_co0_n (by decide)] at g8; omega), by rw [hr.2.2.2.1]; exact b2, by rw [hr.2.2.2.2.1]; exact b3⟩
  · obtain ⟨b1, b2, b3⟩ := q2 q (by omega) hq
    exact ⟨m_gr_ra b1 m_ra.rf (fun _ _ _ => m_ra.rf) (fun x _ hx => by unfold m_dm at hx; rw [m_co0_n (by decide)] at g8; omega), by omega, by omega⟩
end
