section
/-! ===== the class: a pair read, walked (own text) ===== -/
section
variable {d : Nat} {I : wd_I} {P : wd_P} {M : wd_I} {g : Nat → ab_C} {k z dp : Nat} {Q : ab_Q} {T : Nat → Prop} {G : c_St → r_O}
set_option maxHeartbeats 4000000 in
set_option maxRecDepth 100000 in
theorem y_rdpair (hd : 8 ≤ d) (hdp : dp ≤ 12) (hGg : r_gG G) (hG : ∀ (T : Nat → Prop) (S : c_St) (Q : ab_Q), r_pr T S → r_ro S → Q (some (.inr (.inr (G S).1))) (c_S P M (G S).2) → ab_CT (d - 1) 98 [wd_v 3, .inl (ab_ii ((dp : Int) + 1))] (c_S P M S) Q) (h0 : r_pr T (I, g, k, z)) (hro : r_ro (I, g, k, z)) (hlt : (I 1 2).toInt < (I 1 1).toInt) (hQ : Q (some (.inr (.inr (r_pair1 G (G (t_step I, g, k, z))).1))) (c_S P M (r_pair1 G (G (t_step I, g, k, z))).2)) : ab_CT d 99 [wd_v 3, .inl (ab_ii (dp : Int))] (wd I P M g, k, z) Q := by
  have hS1 := (r_at.rf h0).step hlt
  have hg1 : ∀ (X : ab_H) (Q : ab_Q), X = (wd (t_step I) P M g, k, z) → Q (some (.inr (.inr (G (t_step I, g, k, z)).1))) (c_S P M (G (t_step I, g, k, z)).2) → ab_CT (d - 1) 98 [wd_v 3, .inl (ab_ii ((dp : Int) + 1))] X Q := fun X Q e hq => by rw [e]; exact hG T (t_step I, g, k, z) Q (hS1.pr h0) (hS1.ro hro).1 hq
  obtain ⟨T1, a1, a2, -⟩ := hS1.go h0 hGg
  dsimp only at a1 a2
  generalize G (t_step I, g, k, z) = R1 at *
  obtain ⟨o1, I1, g1, k1, z1⟩ := R1
  dsimp only at a1 a2 hg1 hQ
  cases o1 with
  | none =>
    clear hG
    refine wd_inC rfl (by omega) rfl ?_
    intro C9 X9 hC9 hX9
    repeat' ((conv => whnf); first
    | (refine hC9 80 _ _ _ (y_tstep (by omega) ?_))
    | (refine hC9 98 _ _ _ (hg1 _ _ (by with_reducible rfl) ?_))
    | (refine hC9 98 _ _ _ (hg1 _ _ rfl ?_))
    | (intro v9 hv9; (try simp (disch := omega) only [ab_tI, ab_c0, wd_ix12, wd_ix8, wd_ix10, wd_up_self, wd_up_eq, wd_up_ne, Int.toNat_natCast, Int.toNat_of_nonneg, not_true_eq_false, not_false_eq_true, Option.some.injEq] at hv9); subst hv9)
    | (apply i_get; (focus (exact rfl)); (focus (exact rfl)))
    | (refine hX9 _ _ _ _ (wd_rnC rfl ?_); clear hC9 hX9 X9 C9; intro C9 X9 hC9 hX9)
    | (apply w_ialM; (focus (exact rfl)); (focus (exact (by first | exact ⟨by decide, by decide⟩ | ((try simp (disch := omega) only [ab_tI, ab_c0, wd_ix12, wd_ix8, wd_ix10, wd_up_self, wd_up_eq, wd_up_ne, Int.toNat_natCast, Int.toNat_of_nonneg, not_true_eq_false, not_false_eq_true, Option.some.injEq, wd_l103, wd_l104, wd_l105, wd_l106, wd_l107, wd_l108, wd_l109, wd_l110, wd_l111, wd_l112, wd_l113, wd_l114, wd_l115, wd_l116, wd_l117, wd_l118, wd_l119, wd_l120, wd_l121, wd_l122, wd_l123, wd_l124]); omega)))); (intro v9 hv9; (try simp (disch := omega) only [ab_tI, ab_c0, wd_ix12, wd_ix8, wd_ix10, wd_up_self, wd_up_eq, wd_up_ne, Int.toNat_natCast, Int.toNat_of_nonneg, not_true_eq_false, not_false_eq_true, Option.some.injEq] at hv9); subst hv9))
    | (apply w_putM; (focus (exact rfl)); (focus (first | exact trivial | exact Or.inl rfl | exact Or.inr rfl)); (focus (exact rfl)))
    | (apply w_iasM; (focus (exact rfl)); (focus (exact (by first | exact ⟨by decide, by decide⟩ | ((try simp (disch := omega) only [ab_tI, ab_c0, wd_ix12, wd_ix8, wd_ix10, wd_up_self, wd_up_eq, wd_up_ne, Int.toNat_natCast, Int.toNat_of_nonneg, not_true_eq_false, not_false_eq_true, Option.some.injEq, wd_l103, wd_l104, wd_l105, wd_l106, wd_l107, wd_l108, wd_l109, wd_l110, wd_l111, wd_l112, wd_l113, wd_l114, wd_l115, wd_l116, wd_l117, wd_l118, wd_l119, wd_l120, wd_l121, wd_l122, wd_l123, wd_l124]); omega)))); (intro v9 hv9; (try simp (disch := omega) only [ab_tI, ab_c0, wd_ix12, wd_ix8, wd_ix10, wd_up_self, wd_up_eq, wd_up_ne, Int.toNat_natCast, Int.toNat_of_nonneg, not_true_eq_false, not_false_eq_true, Option.some.injEq] at hv9); subst hv9))
    | (refine i_brF (by decide) ?_)
    | (refine i_brT (by decide) ?_)
    | (refine ⟨fun hc => ?_, fun hc => ?_⟩ <;> (try simp (disch := omega) only [ab_tI, ab_c0, wd_ix12, wd_ix8, wd_ix10, wd_up_self, wd_up_eq, wd_up_ne, Int.toNat_natCast, Int.toNat_of_nonneg, not_true_eq_false, not_false_eq_true, Option.some.injEq] at hc) <;> first | (exfalso; omega) | skip)
    | (apply i_cv; (focus (exact rfl)))
    | (apply i_len; (focus (exact rfl)))
    | (apply w_putI; (focus (exact rfl)); (focus (exact rfl)); (focus (exact rfl)); (focus (first | exact trivial | exact Or.inl rfl | exact Or.inr rfl)); (focus (exact rfl)))
    | (apply w_putP; (focus (exact rfl)); (focus (exact rfl)); (focus (exact rfl)); (focus (exact trivial)); (focus (exact rfl)))
    | (apply i_ialN; (focus (exact rfl)); (focus (first | exact Or.inl rfl | exact Or.inr rfl)); (focus (exact (by first | exact ⟨by decide, by decide⟩ | ((try simp (disch := omega) only [ab_tI, ab_c0, wd_ix12, wd_ix8, wd_ix10, wd_up_self, wd_up_eq, wd_up_ne, Int.toNat_natCast, Int.toNat_of_nonneg, not_true_eq_false, not_false_eq_true, Option.some.injEq, wd_l103, wd_l104, wd_l105, wd_l106, wd_l107, wd_l108, wd_l109, wd_l110, wd_l111, wd_l112, wd_l113, wd_l114, wd_l115, wd_l116, wd_l117, wd_l118, wd_l119, wd_l120, wd_l121, wd_l122, wd_l123, wd_l124]); omega)))); (intro v9 hv9; (try simp (disch := omega) only [ab_tI, ab_c0, wd_ix12, wd_ix8, wd_ix10, wd_up_self, wd_up_eq, wd_up_ne, Int.toNat_natCast, Int.toNat_of_nonneg, not_true_eq_false, not_false_eq_true, Option.some.injEq] at hv9); subst hv9))
    | (apply i_aalN; (focus (exact rfl)); (focus (exact (by first | exact ⟨by decide, by decide⟩ | ((try simp (disch := omega) only [ab_tI, ab_c0, wd_ix12, wd_ix8, wd_ix10, wd_up_self, wd_up_eq, wd_up_ne, Int.toNat_natCast, Int.toNat_of_nonneg, not_true_eq_false, not_false_eq_true, Option.some.injEq, wd_l103, wd_l104, wd_l105, wd_l106, wd_l107, wd_l108, wd_l109, wd_l110, wd_l111, wd_l112, wd_l113, wd_l114, wd_l115, wd_l116, wd_l117, wd_l118, wd_l119, wd_l120, wd_l121, wd_l122, wd_l123, wd_l124]); omega)))); (intro v9 hv9; (try simp (disch := omega) only [ab_tI, ab_c0, wd_ix12, wd_ix8, wd_ix10, wd_up_self, wd_up_eq, wd_up_ne, Int.toNat_natCast, Int.toNat_of_nonneg, not_true_eq_false, not_false_eq_true, Option.some.injEq] at hv9); subst hv9))
    | (apply w_iasI; (focus (exact rfl)); (focus (exact rfl)); (focus (exact (by first | exact ⟨by decide, by decide⟩ | ((try simp (disch := omega) only [ab_tI, ab_c0, wd_ix12, wd_ix8, wd_ix10, wd_up_self, wd_up_eq, wd_up_ne, Int.toNat_natCast, Int.toNat_of_nonneg, not_true_eq_false, not_false_eq_true, Option.some.injEq, wd_l103, wd_l104, wd_l105, wd_l106, wd_l107, wd_l108, wd_l109, wd_l110, wd_l111, wd_l112, wd_l113, wd_l114, wd_l115, wd_l116, wd_l117, wd_l118, wd_l119, wd_l120, wd_l121, wd_l122, wd_l123, wd_l124]); omega)))); (focus (intro _; exact rfl)); (intro v9 hv9; (try simp (disch := omega) only [ab_tI, ab_c0, wd_ix12, wd_ix8, wd_ix10, wd_up_self, wd_up_eq, wd_up_ne, Int.toNat_natCast, Int.toNat_of_nonneg, not_true_eq_false, not_false_eq_true, Option.some.injEq] at hv9); subst hv9))
    | (apply w_balM; (focus (exact (by first | exact ⟨by decide, by decide⟩ | ((try simp (disch := omega) only [ab_tI, ab_c0, wd_ix12, wd_ix8, wd_ix10, wd_up_self, wd_up_eq, wd_up_ne, Int.toNat_natCast, Int.toNat_of_nonneg, not_true_eq_false, not_false_eq_true, Option.some.injEq, wd_l103, wd_l104, wd_l105, wd_l106, wd_l107, wd_l108, wd_l109, wd_l110, wd_l111, wd_l112, wd_l113, wd_l114, wd_l115, wd_l116, wd_l117, wd_l118, wd_l119, wd_l120, wd_l121, wd_l122, wd_l123, wd_l124]); omega)))); (intro v9 hv9; (try simp (disch := omega) only [ab_tI, ab_c0, wd_ix12, wd_ix8, wd_ix10, wd_up_self, wd_up_eq, wd_up_ne, Int.toNat_natCast, Int.toNat_of_nonneg, not_true_eq_false, not_false_eq_true, Option.some.injEq] at hv9); subst hv9))
    | (apply w_basM; (focus (exact (by first | exact ⟨by decide, by decide⟩ | ((try simp (disch := omega) only [ab_tI, ab_c0, wd_ix12, wd_ix8, wd_ix10, wd_up_self, wd_up_eq, wd_up_ne, Int.toNat_natCast, Int.toNat_of_nonneg, not_true_eq_false, not_false_eq_true, Option.some.injEq, wd_l103, wd_l104, wd_l105, wd_l106, wd_l107, wd_l108, wd_l109, wd_l110, wd_l111, wd_l112, wd_l113, wd_l114, wd_l115, wd_l116, wd_l117, wd_l118, wd_l119, wd_l120, wd_l121, wd_l122, wd_l123, wd_l124]); omega)))); (focus (first | exact Or.inl rfl | exact Or.inr rfl)); (intro v9 hv9; (try simp (disch := omega) only [ab_tI, ab_c0, wd_ix12, wd_ix8, wd_ix10, wd_up_self, wd_up_eq, wd_up_ne, Int.toNat_natCast, Int.toNat_of_nonneg, not_true_eq_false, not_false_eq_true, Option.some.injEq] at hv9); subst hv9))
    | (refine And.intro trivial ?_)
    | (refine And.intro (Or.inl rfl) ?_)
    | (refine And.intro (Or.inr rfl) ?_)
    | (refine And.intro (by ((try simp (disch := omega) only [ab_tI, ab_c0, wd_ix12, wd_ix8, wd_ix10, wd_up_self, wd_up_eq, wd_up_ne, Int.toNat_natCast, Int.toNat_of_nonneg, not_true_eq_false, not_false_eq_true, Option.some.injEq]); omega)) ?_)
    | fail)
    all_goals first | exact hQ | (exfalso; omega)
  | some a =>
    have ht1 : t_tp I1 := a1.2.1.2.1
    unfold r_pair1 at hQ
    dsimp only at hQ
    by_cases hf1 : 0 ≤ (t_needs I1 (ab_ii 44) 1 3).toInt
    · rw [if_pos hf1] at hQ
      clear hG
      refine wd_inC rfl (by omega) rfl ?_
      intro C9 X9 hC9 hX9
      repeat' ((conv => whnf); first
    | (refine hC9 80 _ _ _ (y_tstep (by omega) ?_))
    | (refine hC9 98 _ _ _ (hg1 _ _ (by with_reducible rfl) ?_))
    | (refine hC9 82 _ _ _ (y_tneeds (by omega) ht1 ?_))
    | (refine hC9 76 _ _ _ (y_tfaulty (by omega) (fun _ => ?_) (fun q => absurd hf1 (by omega))))
    | (refine hC9 98 _ _ _ (hg1 _ _ rfl ?_))
    | (intro v9 hv9; (try simp (disch := omega) only [ab_tI, ab_c0, wd_ix12, wd_ix8, wd_ix10, wd_up_self, wd_up_eq, wd_up_ne, Int.toNat_natCast, Int.toNat_of_nonneg, not_true_eq_false, not_false_eq_true, Option.some.injEq] at hv9); subst hv9)
    | (apply i_get; (focus (exact rfl)); (focus (exact rfl)))
    | (refine hX9 _ _ _ _ (wd_rnC rfl ?_); clear hC9 hX9 X9 C9; intro C9 X9 hC9 hX9)
    | (apply w_ialM; (focus (exact rfl)); (focus (exact (by first | exact ⟨by decide, by decide⟩ | ((try simp (disch := omega) only [ab_tI, ab_c0, wd_ix12, wd_ix8, wd_ix10, wd_up_self, wd_up_eq, wd_up_ne, Int.toNat_natCast, Int.toNat_of_nonneg, not_true_eq_false, not_false_eq_true, Option.some.injEq, wd_l103, wd_l104, wd_l105, wd_l106, wd_l107, wd_l108, wd_l109, wd_l110, wd_l111, wd_l112, wd_l113, wd_l114, wd_l115, wd_l116, wd_l117, wd_l118, wd_l119, wd_l120, wd_l121, wd_l122, wd_l123, wd_l124]); omega)))); (intro v9 hv9; (try simp (disch := omega) only [ab_tI, ab_c0, wd_ix12, wd_ix8, wd_ix10, wd_up_self, wd_up_eq, wd_up_ne, Int.toNat_natCast, Int.toNat_of_nonneg, not_true_eq_false, not_false_eq_true, Option.some.injEq] at hv9); subst hv9))
    | (apply w_putM; (focus (exact rfl)); (focus (first | exact trivial | exact Or.inl rfl | exact Or.inr rfl)); (focus (exact rfl)))
    | (apply w_iasM; (focus (exact rfl)); (focus (exact (by first | exact ⟨by decide, by decide⟩ | ((try simp (disch := omega) only [ab_tI, ab_c0, wd_ix12, wd_ix8, wd_ix10, wd_up_self, wd_up_eq, wd_up_ne, Int.toNat_natCast, Int.toNat_of_nonneg, not_true_eq_false, not_false_eq_true, Option.some.injEq, wd_l103, wd_l104, wd_l105, wd_l106, wd_l107, wd_l108, wd_l109, wd_l110, wd_l111, wd_l112, wd_l113, wd_l114, wd_l115, wd_l116, wd_l117, wd_l118, wd_l119, wd_l120, wd_l121, wd_l122, wd_l123, wd_l124]); omega)))); (intro v9 hv9; (try simp (disch := omega) only [ab_tI, ab_c0, wd_ix12, wd_ix8, wd_ix10, wd_up_self, wd_up_eq, wd_up_ne, Int.toNat_natCast, Int.toNat_of_nonneg, not_true_eq_false, not_false_eq_true, Option.some.injEq] at hv9); subst hv9))
    | (refine i_brF (by decide) ?_)
    | (refine i_brT (by decide) ?_)
    | (refine ⟨fun hc => ?_, fun hc => ?_⟩ <;> (try simp (disch := omega) only [ab_tI, ab_c0, wd_ix12, wd_ix8, wd_ix10, wd_up_self, wd_up_eq, wd_up_ne, Int.toNat_natCast, Int.toNat_of_nonneg, not_true_eq_false, not_false_eq_true, Option.some.injEq] at hc) <;> first | (exfalso; omega) | skip)
    | (apply i_cv; (focus (exact rfl)))
    | (apply i_len; (focus (exact rfl)))
    | (apply w_putI; (focus (exact rfl)); (focus (exact rfl)); (focus (exact rfl)); (focus (first | exact trivial | exact Or.inl rfl | exact Or.inr rfl)); (focus (exact rfl)))
    | (apply w_putP; (focus (exact rfl)); (focus (exact rfl)); (focus (exact rfl)); (focus (exact trivial)); (focus (exact rfl)))
    | (apply i_ialN; (focus (exact rfl)); (focus (first | exact Or.inl rfl | exact Or.inr rfl)); (focus (exact (by first | exact ⟨by decide, by decide⟩ | ((try simp (disch := omega) only [ab_tI, ab_c0, wd_ix12, wd_ix8, wd_ix10, wd_up_self, wd_up_eq, wd_up_ne, Int.toNat_natCast, Int.toNat_of_nonneg, not_true_eq_false, not_false_eq_true, Option.some.injEq, wd_l103, wd_l104, wd_l105, wd_l106, wd_l107, wd_l108, wd_l109, wd_l110, wd_l111, wd_l112, wd_l113, wd_l114, wd_l115, wd_l116, wd_l117, wd_l118, wd_l119, wd_l120, wd_l121, wd_l122, wd_l123, wd_l124]); omega)))); (intro v9 hv9; (try simp (disch := omega) only [ab_tI, ab_c0, wd_ix12, wd_ix8, wd_ix10, wd_up_self, wd_up_eq, wd_up_ne, Int.toNat_natCast, Int.toNat_of_nonneg, not_true_eq_false, not_false_eq_true, Option.some.injEq] at hv9); subst hv9))
    | (apply i_aalN; (focus (exact rfl)); (focus (exact (by first | exact ⟨by decide, by decide⟩ | ((try simp (disch := omega) only [ab_tI, ab_c0, wd_ix12, wd_ix8, wd_ix10, wd_up_self, wd_up_eq, wd_up_ne, Int.toNat_natCast, Int.toNat_of_nonneg, not_true_eq_false, not_false_eq_true, Option.some.injEq, wd_l103, wd_l104, wd_l105, wd_l106, wd_l107, wd_l108, wd_l109, wd_l110, wd_l111, wd_l112, wd_l113, wd_l114, wd_l115, wd_l116, wd_l117, wd_l118, wd_l119, wd_l120, wd_l121, wd_l122, wd_l123, wd_l124]); omega)))); (intro v9 hv9; (try simp (disch := omega) only [ab_tI, ab_c0, wd_ix12, wd_ix8, wd_ix10, wd_up_self, wd_up_eq, wd_up_ne, Int.toNat_natCast, Int.toNat_of_nonneg, not_true_eq_false, not_false_eq_true, Option.some.injEq] at hv9); subst hv9))
    | (apply w_iasI; (focus (exact rfl)); (focus (exact rfl)); (focus (exact (by first | exact ⟨by decide, by decide⟩ | ((try simp (disch := omega) only [ab_tI, ab_c0, wd_ix12, wd_ix8, wd_ix10, wd_up_self, wd_up_eq, wd_up_ne, Int.toNat_natCast, Int.toNat_of_nonneg, not_true_eq_false, not_false_eq_true, Option.some.injEq, wd_l103, wd_l104, wd_l105, wd_l106, wd_l107, wd_l108, wd_l109, wd_l110, wd_l111, wd_l112, wd_l113, wd_l114, wd_l115, wd_l116, wd_l117, wd_l118, wd_l119, wd_l120, wd_l121, wd_l122, wd_l123, wd_l124]); omega)))); (focus (intro _; exact rfl)); (intro v9 hv9; (try simp (disch := omega) only [ab_tI, ab_c0, wd_ix12, wd_ix8, wd_ix10, wd_up_self, wd_up_eq, wd_up_ne, Int.toNat_natCast, Int.toNat_of_nonneg, not_true_eq_false, not_false_eq_true, Option.some.injEq] at hv9); subst hv9))
    | (apply w_balM; (focus (exact (by first | exact ⟨by decide, by decide⟩ | ((try simp (disch := omega) only [ab_tI, ab_c0, wd_ix12, wd_ix8, wd_ix10, wd_up_self, wd_up_eq, wd_up_ne, Int.toNat_natCast, Int.toNat_of_nonneg, not_true_eq_false, not_false_eq_true, Option.some.injEq, wd_l103, wd_l104, wd_l105, wd_l106, wd_l107, wd_l108, wd_l109, wd_l110, wd_l111, wd_l112, wd_l113, wd_l114, wd_l115, wd_l116, wd_l117, wd_l118, wd_l119, wd_l120, wd_l121, wd_l122, wd_l123, wd_l124]); omega)))); (intro v9 hv9; (try simp (disch := omega) only [ab_tI, ab_c0, wd_ix12, wd_ix8, wd_ix10, wd_up_self, wd_up_eq, wd_up_ne, Int.toNat_natCast, Int.toNat_of_nonneg, not_true_eq_false, not_false_eq_true, Option.some.injEq] at hv9); subst hv9))
    | (apply w_basM; (focus (exact (by first | exact ⟨by decide, by decide⟩ | ((try simp (disch := omega) only [ab_tI, ab_c0, wd_ix12, wd_ix8, wd_ix10, wd_up_self, wd_up_eq, wd_up_ne, Int.toNat_natCast, Int.toNat_of_nonneg, not_true_eq_false, not_false_eq_true, Option.some.injEq, wd_l103, wd_l104, wd_l105, wd_l106, wd_l107, wd_l108, wd_l109, wd_l110, wd_l111, wd_l112, wd_l113, wd_l114, wd_l115, wd_l116, wd_l117, wd_l118, wd_l119, wd_l120, wd_l121, wd_l122, wd_l123, wd_l124]); omega)))); (focus (first | exact Or.inl rfl | exact Or.inr rfl)); (intro v9 hv9; (try simp (disch := omega) only [ab_tI, ab_c0, wd_ix12, wd_ix8, wd_ix10, wd_up_self, wd_up_eq, wd_up_ne, Int.toNat_natCast, Int.toNat_of_nonneg, not_true_eq_false, not_false_eq_true, Option.some.injEq] at hv9); subst hv9))
    | (refine And.intro trivial ?_)
    | (refine And.intro (Or.inl rfl) ?_)
    | (refine And.intro (Or.inr rfl) ?_)
    | (refine And.intro (by ((try simp (disch := omega) only [ab_tI, ab_c0, wd_ix12, wd_ix8, wd_ix10, wd_up_self, wd_up_eq, wd_up_ne, Int.toNat_natCast, Int.toNat_of_nonneg, not_true_eq_false, not_false_eq_true, Option.some.injEq]); omega)) ?_)
    | fail)
      all_goals first | exact hQ | (exfalso; omega)
    · rw [if_neg hf1] at hQ
      have hS2 := a1.I (t_needs_tf (b := ab_ii 44) ht1)
      have hg2 : ∀ (X : ab_H) (Q : ab_Q), X = (wd (t_needs I1 (ab_ii 44)) P M g1, k1, z1) → Q (some (.inr (.inr (G (t_needs I1 (ab_ii 44), g1, k1, z1)).1))) (c_S P M (G (t_needs I1 (ab_ii 44), g1, k1, z1)).2) → ab_CT (d - 1) 98 [wd_v 3, .inl (ab_ii ((dp : Int) + 1))] X Q := fun X Q e hq => by rw [e]; exact hG T1 (t_needs I1 (ab_ii 44), g1, k1, z1) Q (hS2.pr h0) (hS2.ro hro).1 hq
      obtain ⟨T2, b1, b2, b3⟩ := hS2.go h0 hGg
      have hTa := b3.inc a (a2 a rfl)
      dsimp only at b1 b2
      generalize G (t_needs I1 (ab_ii 44), g1, k1, z1) = R2 at *
      obtain ⟨o2, I2, g2, k2, z2⟩ := R2
      dsimp only at b1 b2 hg2 hQ
      clear hG b3
      cases o2 with
      | none =>
        refine wd_inC rfl (by omega) rfl ?_
        intro C9 X9 hC9 hX9
        repeat' ((conv => whnf); first
    | (refine hC9 80 _ _ _ (y_tstep (by omega) ?_))
    | (refine hC9 98 _ _ _ (hg1 _ _ (by with_reducible rfl) ?_))
    | (refine hC9 82 _ _ _ (y_tneeds (by omega) ht1 ?_))
    | (refine hC9 76 _ _ _ (y_tfaulty (by omega) (fun q => absurd q hf1) (fun _ => ?_)))
    | (refine hC9 98 _ _ _ (hg2 _ _ (by with_reducible rfl) ?_))
    | (refine hC9 98 _ _ _ (hg1 _ _ rfl ?_))
    | (refine hC9 98 _ _ _ (hg2 _ _ rfl ?_))
    | (intro v9 hv9; (try simp (disch := omega) only [ab_tI, ab_c0, wd_ix12, wd_ix8, wd_ix10, wd_up_self, wd_up_eq, wd_up_ne, Int.toNat_natCast, Int.toNat_of_nonneg, not_true_eq_false, not_false_eq_true, Option.some.injEq] at hv9); subst hv9)
    | (apply i_get; (focus (exact rfl)); (focus (exact rfl)))
    | (refine hX9 _ _ _ _ (wd_rnC rfl ?_); clear hC9 hX9 X9 C9; intro C9 X9 hC9 hX9)
    | (apply w_ialM; (focus (exact rfl)); (focus (exact (by first | exact ⟨by decide, by decide⟩ | ((try simp (disch := omega) only [ab_tI, ab_c0, wd_ix12, wd_ix8, wd_ix10, wd_up_self, wd_up_eq, wd_up_ne, Int.toNat_natCast, Int.toNat_of_nonneg, not_true_eq_false, not_false_eq_true, Option.some.injEq, wd_l103, wd_l104, wd_l105, wd_l106, wd_l107, wd_l108, wd_l109, wd_l110, wd_l111, wd_l112, wd_l113, wd_l114, wd_l115, wd_l116, wd_l117, wd_l118, wd_l119, wd_l120, wd_l121, wd_l122, wd_l123, wd_l124]); omega)))); (intro v9 hv9; (try simp (disch := omega) only [ab_tI, ab_c0, wd_ix12, wd_ix8, wd_ix10, wd_up_self, wd_up_eq, wd_up_ne, Int.toNat_natCast, Int.toNat_of_nonneg, not_true_eq_false, not_false_eq_true, Option.some.injEq] at hv9); subst hv9))
    | (apply w_putM; (focus (exact rfl)); (focus (first | exact trivial | exact Or.inl rfl | exact Or.inr rfl)); (focus (exact rfl)))
    | (apply w_iasM; (focus (exact rfl)); (focus (exact (by first | exact ⟨by decide, by decide⟩ | ((try simp (disch := omega) only [ab_tI, ab_c0, wd_ix12, wd_ix8, wd_ix10, wd_up_self, wd_up_eq, wd_up_ne, Int.toNat_natCast, Int.toNat_of_nonneg, not_true_eq_false, not_false_eq_true, Option.some.injEq, wd_l103, wd_l104, wd_l105, wd_l106, wd_l107, wd_l108, wd_l109, wd_l110, wd_l111, wd_l112, wd_l113, wd_l114, wd_l115, wd_l116, wd_l117, wd_l118, wd_l119, wd_l120, wd_l121, wd_l122, wd_l123, wd_l124]); omega)))); (intro v9 hv9; (try simp (disch := omega) only [ab_tI, ab_c0, wd_ix12, wd_ix8, wd_ix10, wd_up_self, wd_up_eq, wd_up_ne, Int.toNat_natCast, Int.toNat_of_nonneg, not_true_eq_false, not_false_eq_true, Option.some.injEq] at hv9); subst hv9))
    | (refine i_brF (by decide) ?_)
    | (refine i_brT (by decide) ?_)
    | (refine ⟨fun hc => ?_, fun hc => ?_⟩ <;> (try simp (disch := omega) only [ab_tI, ab_c0, wd_ix12, wd_ix8, wd_ix10, wd_up_self, wd_up_eq, wd_up_ne, Int.toNat_natCast, Int.toNat_of_nonneg, not_true_eq_false, not_false_eq_true, Option.some.injEq] at hc) <;> first | (exfalso; omega) | skip)
    | (apply i_cv; (focus (exact rfl)))
    | (apply i_len; (focus (exact rfl)))
    | (apply w_putI; (focus (exact rfl)); (focus (exact rfl)); (focus (exact rfl)); (focus (first | exact trivial | exact Or.inl rfl | exact Or.inr rfl)); (focus (exact rfl)))
    | (apply w_putP; (focus (exact rfl)); (focus (exact rfl)); (focus (exact rfl)); (focus (exact trivial)); (focus (exact rfl)))
    | (apply i_ialN; (focus (exact rfl)); (focus (first | exact Or.inl rfl | exact Or.inr rfl)); (focus (exact (by first | exact ⟨by decide, by decide⟩ | ((try simp (disch := omega) only [ab_tI, ab_c0, wd_ix12, wd_ix8, wd_ix10, wd_up_self, wd_up_eq, wd_up_ne, Int.toNat_natCast, Int.toNat_of_nonneg, not_true_eq_false, not_false_eq_true, Option.some.injEq, wd_l103, wd_l104, wd_l105, wd_l106, wd_l107, wd_l108, wd_l109, wd_l110, wd_l111, wd_l112, wd_l113, wd_l114, wd_l115, wd_l116, wd_l117, wd_l118, wd_l119, wd_l120, wd_l121, wd_l122, wd_l123, wd_l124]); omega)))); (intro v9 hv9; (try simp (disch := omega) only [ab_tI, ab_c0, wd_ix12, wd_ix8, wd_ix10, wd_up_self, wd_up_eq, wd_up_ne, Int.toNat_natCast, Int.toNat_of_nonneg, not_true_eq_false, not_false_eq_true, Option.some.injEq] at hv9); subst hv9))
    | (apply i_aalN; (focus (exact rfl)); (focus (exact (by first | exact ⟨by decide, by decide⟩ | ((try simp (disch := omega) only [ab_tI, ab_c0, wd_ix12, wd_ix8, wd_ix10, wd_up_self, wd_up_eq, wd_up_ne, Int.toNat_natCast, Int.toNat_of_nonneg, not_true_eq_false, not_false_eq_true, Option.some.injEq, wd_l103, wd_l104, wd_l105, wd_l106, wd_l107, wd_l108, wd_l109, wd_l110, wd_l111, wd_l112, wd_l113, wd_l114, wd_l115, wd_l116, wd_l117, wd_l118, wd_l119, wd_l120, wd_l121, wd_l122, wd_l123, wd_l124]); omega)))); (intro v9 hv9; (try simp (disch := omega) only [ab_tI, ab_c0, wd_ix12, wd_ix8, wd_ix10, wd_up_self, wd_up_eq, wd_up_ne, Int.toNat_natCast, Int.toNat_of_nonneg, not_true_eq_false, not_false_eq_true, Option.some.injEq] at hv9); subst hv9))
    | (apply w_iasI; (focus (exact rfl)); (focus (exact rfl)); (focus (exact (by first | exact ⟨by decide, by decide⟩ | ((try simp (disch := omega) only [ab_tI, ab_c0, wd_ix12, wd_ix8, wd_ix10, wd_up_self, wd_up_eq, wd_up_ne, Int.toNat_natCast, Int.toNat_of_nonneg, not_true_eq_false, not_false_eq_true, Option.some.injEq, wd_l103, wd_l104, wd_l105, wd_l106, wd_l107, wd_l108, wd_l109, wd_l110, wd_l111, wd_l112, wd_l113, wd_l114, wd_l115, wd_l116, wd_l117, wd_l118, wd_l119, wd_l120, wd_l121, wd_l122, wd_l123, wd_l124]); omega)))); (focus (intro _; exact rfl)); (intro v9 hv9; (try simp (disch := omega) only [ab_tI, ab_c0, wd_ix12, wd_ix8, wd_ix10, wd_up_self, wd_up_eq, wd_up_ne, Int.toNat_natCast, Int.toNat_of_nonneg, not_true_eq_false, not_false_eq_true, Option.some.injEq] at hv9); subst hv9))
    | (apply w_balM; (focus (exact (by first | exact ⟨by decide, by decide⟩ | ((try simp (disch := omega) only [ab_tI, ab_c0, wd_ix12, wd_ix8, wd_ix10, wd_up_self, wd_up_eq, wd_up_ne, Int.toNat_natCast, Int.toNat_of_nonneg, not_true_eq_false, not_false_eq_true, Option.some.injEq, wd_l103, wd_l104, wd_l105, wd_l106, wd_l107, wd_l108, wd_l109, wd_l110, wd_l111, wd_l112, wd_l113, wd_l114, wd_l115, wd_l116, wd_l117, wd_l118, wd_l119, wd_l120, wd_l121, wd_l122, wd_l123, wd_l124]); omega)))); (intro v9 hv9; (try simp (disch := omega) only [ab_tI, ab_c0, wd_ix12, wd_ix8, wd_ix10, wd_up_self, wd_up_eq, wd_up_ne, Int.toNat_natCast, Int.toNat_of_nonneg, not_true_eq_false, not_false_eq_true, Option.some.injEq] at hv9); subst hv9))
    | (apply w_basM; (focus (exact (by first | exact ⟨by decide, by decide⟩ | ((try simp (disch := omega) only [ab_tI, ab_c0, wd_ix12, wd_ix8, wd_ix10, wd_up_self, wd_up_eq, wd_up_ne, Int.toNat_natCast, Int.toNat_of_nonneg, not_true_eq_false, not_false_eq_true, Option.some.injEq, wd_l103, wd_l104, wd_l105, wd_l106, wd_l107, wd_l108, wd_l109, wd_l110, wd_l111, wd_l112, wd_l113, wd_l114, wd_l115, wd_l116, wd_l117, wd_l118, wd_l119, wd_l120, wd_l121, wd_l122, wd_l123, wd_l124]); omega)))); (focus (first | exact Or.inl rfl | exact Or.inr rfl)); (intro v9 hv9; (try simp (disch := omega) only [ab_tI, ab_c0, wd_ix12, wd_ix8, wd_ix10, wd_up_self, wd_up_eq, wd_up_ne, Int.toNat_natCast, Int.toNat_of_nonneg, not_true_eq_false, not_false_eq_true, Option.some.injEq] at hv9); subst hv9))
    | (refine And.intro trivial ?_)
    | (refine And.intro (Or.inl rfl) ?_)
    | (refine And.intro (Or.inr rfl) ?_)
    | (refine And.intro (by ((try simp (disch := omega) only [ab_tI, ab_c0, wd_ix12, wd_ix8, wd_ix10, wd_up_self, wd_up_eq, wd_up_ne, Int.toNat_natCast, Int.toNat_of_nonneg, not_true_eq_false, not_false_eq_true, Option.some.injEq]); omega)) ?_)
    | fail)
        all_goals first | exact hQ | (exfalso; omega)
      | some b =>
        have ht2 : t_tp I2 := b1.2.1.2.1
        unfold r_pair2 at hQ
        dsimp only at hQ
        by_cases hf2 : 0 ≤ (t_needs I2 (ab_ii 41) 1 3).toInt
        · rw [if_pos hf2] at hQ
          refine wd_inC rfl (by omega) rfl ?_
          intro C9 X9 hC9 hX9
          repeat' ((conv => whnf); first
    | (refine hC9 80 _ _ _ (y_tstep (by omega) ?_))
    | (refine hC9 98 _ _ _ (hg1 _ _ (by with_reducible rfl) ?_))
    | (refine hC9 82 _ _ _ (y_tneeds (by omega) ht1 ?_))
    | (refine hC9 76 _ _ _ (y_tfaulty (by omega) (fun q => absurd q hf1) (fun _ => ?_)))
    | (refine hC9 98 _ _ _ (hg2 _ _ (by with_reducible rfl) ?_))
    | (refine hC9 82 _ _ _ (y_tneeds (by omega) ht2 ?_))
    | (refine hC9 76 _ _ _ (y_tfaulty (by omega) (fun _ => ?_) (fun q => absurd hf2 (by omega))))
    | (refine hC9 98 _ _ _ (hg1 _ _ rfl ?_))
    | (refine hC9 98 _ _ _ (hg2 _ _ rfl ?_))
    | (intro v9 hv9; (try simp (disch := omega) only [ab_tI, ab_c0, wd_ix12, wd_ix8, wd_ix10, wd_up_self, wd_up_eq, wd_up_ne, Int.toNat_natCast, Int.toNat_of_nonneg, not_true_eq_false, not_false_eq_true, Option.some.injEq] at hv9); subst hv9)
    | (apply i_get; (focus (exact rfl)); (focus (exact rfl)))
    | (refine hX9 _ _ _ _ (wd_rnC rfl ?_); clear hC9 hX9 X9 C9; intro C9 X9 hC9 hX9)
    | (apply w_ialM; (focus (exact rfl)); (focus (exact (by first | exact ⟨by decide, by decide⟩ | ((try simp (disch := omega) only [ab_tI, ab_c0, wd_ix12, wd_ix8, wd_ix10, wd_up_self, wd_up_eq, wd_up_ne, Int.toNat_natCast, Int.toNat_of_nonneg, not_true_eq_false, not_false_eq_true, Option.some.injEq, wd_l103, wd_l104, wd_l105, wd_l106, wd_l107, wd_l108, wd_l109, wd_l110, wd_l111, wd_l112, wd_l113, wd_l114, wd_l115, wd_l116, wd_l117, wd_l118, wd_l119, wd_l120, wd_l121, wd_l122, wd_l123, wd_l124]); omega)))); (intro v9 hv9; (try simp (disch := omega) only [ab_tI, ab_c0, wd_ix12, wd_ix8, wd_ix10, wd_up_self, wd_up_eq, wd_up_ne, Int.toNat_natCast, Int.toNat_of_nonneg, not_true_eq_false, not_false_eq_true, Option.some.injEq] at hv9); subst hv9))
    | (apply w_putM; (focus (exact rfl)); (focus (first | exact trivial | exact Or.inl rfl | exact Or.inr rfl)); (focus (exact rfl)))
    | (apply w_iasM; (focus (exact rfl)); (focus (exact (by first | exact ⟨by decide, by decide⟩ | ((try simp (disch := omega) only [ab_tI, ab_c0, wd_ix12, wd_ix8, wd_ix10, wd_up_self, wd_up_eq, wd_up_ne, Int.toNat_natCast, Int.toNat_of_nonneg, not_true_eq_false, not_false_eq_true, Option.some.injEq, wd_l103, wd_l104, wd_l105, wd_l106, wd_l107, wd_l108, wd_l109, wd_l110, wd_l111, wd_l112, wd_l113, wd_l114, wd_l115, wd_l116, wd_l117, wd_l118, wd_l119, wd_l120, wd_l121, wd_l122, wd_l123, wd_l124]); omega)))); (intro v9 hv9; (try simp (disch := omega) only [ab_tI, ab_c0, wd_ix12, wd_ix8, wd_ix10, wd_up_self, wd_up_eq, wd_up_ne, Int.toNat_natCast, Int.toNat_of_nonneg, not_true_eq_false, not_false_eq_true, Option.some.injEq] at hv9); subst hv9))
    | (refine i_brF (by decide) ?_)
    | (refine i_brT (by decide) ?_)
    | (refine ⟨fun hc => ?_, fun hc => ?_⟩ <;> (try simp (disch := omega) only [ab_tI, ab_c0, wd_ix12, wd_ix8, wd_ix10, wd_up_self, wd_up_eq, wd_up_ne, Int.toNat_natCast, Int.toNat_of_nonneg, not_true_eq_false, not_false_eq_true, Option.some.injEq] at hc) <;> first | (exfalso; omega) | skip)
    | (apply i_cv; (focus (exact rfl)))
    | (apply i_len; (focus (exact rfl)))
    | (apply w_putI; (focus (exact rfl)); (focus (exact rfl)); (focus (exact rfl)); (focus (first | exact trivial | exact Or.inl rfl | exact Or.inr rfl)); (focus (exact rfl)))
    | (apply w_putP; (focus (exact rfl)); (focus (exact rfl)); (focus (exact rfl)); (focus (exact trivial)); (focus (exact rfl)))
    | (apply i_ialN; (focus (exact rfl)); (focus (first | exact Or.inl rfl | exact Or.inr rfl)); (focus (exact (by first | exact ⟨by decide, by decide⟩ | ((try simp (disch := omega) only [ab_tI, ab_c0, wd_ix12, wd_ix8, wd_ix10, wd_up_self, wd_up_eq, wd_up_ne, Int.toNat_natCast, Int.toNat_of_nonneg, not_true_eq_false, not_false_eq_true, Option.some.injEq, wd_l103, wd_l104, wd_l105, wd_l106, wd_l107, wd_l108, wd_l109, wd_l110, wd_l111, wd_l112, wd_l113, wd_l114, wd_l115, wd_l116, wd_l117, wd_l118, wd_l119, wd_l120, wd_l121, wd_l122, wd_l123, wd_l124]); omega)))); (intro v9 hv9; (try simp (disch := omega) only [ab_tI, ab_c0, wd_ix12, wd_ix8, wd_ix10, wd_up_self, wd_up_eq, wd_up_ne, Int.toNat_natCast, Int.toNat_of_nonneg, not_true_eq_false, not_false_eq_true, Option.some.injEq] at hv9); subst hv9))
    | (apply i_aalN; (focus (exact rfl)); (focus (exact (by first | exact ⟨by decide, by decide⟩ | ((try simp (disch := omega) only [ab_tI, ab_c0, wd_ix12, wd_ix8, wd_ix10, wd_up_self, wd_up_eq, wd_up_ne, Int.toNat_natCast, Int.toNat_of_nonneg, not_true_eq_false, not_false_eq_true, Option.some.injEq, wd_l103, wd_l104, wd_l105, wd_l106, wd_l107, wd_l108, wd_l109, wd_l110, wd_l111, wd_l112, wd_l113, wd_l114, wd_l115, wd_l116, wd_l117, wd_l118, wd_l119, wd_l120, wd_l121, wd_l122, wd_l123, wd_l124]); omega)))); (intro v9 hv9; (try simp (disch := omega) only [ab_tI, ab_c0, wd_ix12, wd_ix8, wd_ix10, wd_up_self, wd_up_eq, wd_up_ne, Int.toNat_natCast, Int.toNat_of_nonneg, not_true_eq_false, not_false_eq_true, Option.some.injEq] at hv9); subst hv9))
    | (apply w_iasI; (focus (exact rfl)); (focus (exact rfl)); (focus (exact (by first | exact ⟨by decide, by decide⟩ | ((try simp (disch := omega) only [ab_tI, ab_c0, wd_ix12, wd_ix8, wd_ix10, wd_up_self, wd_up_eq, wd_up_ne, Int.toNat_natCast, Int.toNat_of_nonneg, not_true_eq_false, not_false_eq_true, Option.some.injEq, wd_l103, wd_l104, wd_l105, wd_l106, wd_l107, wd_l108, wd_l109, wd_l110, wd_l111, wd_l112, wd_l113, wd_l114, wd_l115, wd_l116, wd_l117, wd_l118, wd_l119, wd_l120, wd_l121, wd_l122, wd_l123, wd_l124]); omega)))); (focus (intro _; exact rfl)); (intro v9 hv9; (try simp (disch := omega) only [ab_tI, ab_c0, wd_ix12, wd_ix8, wd_ix10, wd_up_self, wd_up_eq, wd_up_ne, Int.toNat_natCast, Int.toNat_of_nonneg, not_true_eq_false, not_false_eq_true, Option.some.injEq] at hv9); subst hv9))
    | (apply w_balM; (focus (exact (by first | exact ⟨by decide, by decide⟩ | ((try simp (disch := omega) only [ab_tI, ab_c0, wd_ix12, wd_ix8, wd_ix10, wd_up_self, wd_up_eq, wd_up_ne, Int.toNat_natCast, Int.toNat_of_nonneg, not_true_eq_false, not_false_eq_true, Option.some.injEq, wd_l103, wd_l104, wd_l105, wd_l106, wd_l107, wd_l108, wd_l109, wd_l110, wd_l111, wd_l112, wd_l113, wd_l114, wd_l115, wd_l116, wd_l117, wd_l118, wd_l119, wd_l120, wd_l121, wd_l122, wd_l123, wd_l124]); omega)))); (intro v9 hv9; (try simp (disch := omega) only [ab_tI, ab_c0, wd_ix12, wd_ix8, wd_ix10, wd_up_self, wd_up_eq, wd_up_ne, Int.toNat_natCast, Int.toNat_of_nonneg, not_true_eq_false, not_false_eq_true, Option.some.injEq] at hv9); subst hv9))
    | (apply w_basM; (focus (exact (by first | exact ⟨by decide, by decide⟩ | ((try simp (disch := omega) only [ab_tI, ab_c0, wd_ix12, wd_ix8, wd_ix10, wd_up_self, wd_up_eq, wd_up_ne, Int.toNat_natCast, Int.toNat_of_nonneg, not_true_eq_false, not_false_eq_true, Option.some.injEq, wd_l103, wd_l104, wd_l105, wd_l106, wd_l107, wd_l108, wd_l109, wd_l110, wd_l111, wd_l112, wd_l113, wd_l114, wd_l115, wd_l116, wd_l117, wd_l118, wd_l119, wd_l120, wd_l121, wd_l122, wd_l123, wd_l124]); omega)))); (focus (first | exact Or.inl rfl | exact Or.inr rfl)); (intro v9 hv9; (try simp (disch := omega) only [ab_tI, ab_c0, wd_ix12, wd_ix8, wd_ix10, wd_up_self, wd_up_eq, wd_up_ne, Int.toNat_natCast, Int.toNat_of_nonneg, not_true_eq_false, not_false_eq_true, Option.some.injEq] at hv9); subst hv9))
    | (refine And.intro trivial ?_)
    | (refine And.intro (Or.inl rfl) ?_)
    | (refine And.intro (Or.inr rfl) ?_)
    | (refine And.intro (by ((try simp (disch := omega) only [ab_tI, ab_c0, wd_ix12, wd_ix8, wd_ix10, wd_up_self, wd_up_eq, wd_up_ne, Int.toNat_natCast, Int.toNat_of_nonneg, not_true_eq_false, not_false_eq_true, Option.some.injEq]); omega)) ?_)
    | fail)
          all_goals first | exact hQ | (exfalso; omega)
        · rw [if_neg hf2] at hQ
          obtain ⟨hW2, hk2, -⟩ := b1.pr h0
          obtain ⟨r1, r2⟩ := (b1.ro hro).2
          dsimp only at hW2 hk2 r1 r2
          refine wd_inC rfl (by omega) rfl ?_
          intro C9 X9 hC9 hX9
          repeat' ((conv => whnf); first
    | (refine hC9 80 _ _ _ (y_tstep (by omega) ?_))
    | (refine hC9 98 _ _ _ (hg1 _ _ (by with_reducible rfl) ?_))
    | (refine hC9 82 _ _ _ (y_tneeds (by omega) ht1 ?_))
    | (refine hC9 76 _ _ _ (y_tfaulty (by omega) (fun q => absurd q hf1) (fun _ => ?_)))
    | (refine hC9 98 _ _ _ (hg2 _ _ (by with_reducible rfl) ?_))
    | (refine hC9 82 _ _ _ (y_tneeds (by omega) ht2 ?_))
    | (refine hC9 76 _ _ _ (y_tfaulty (by omega) (fun q => absurd q hf2) (fun _ => ?_)))
    | (refine hC9 129 _ _ _ (y_ofTwo (by omega) hW2 hk2 hTa (b2 b rfl) ⟨by omega, by omega⟩ ?_))
    | (refine hC9 98 _ _ _ (hg1 _ _ rfl ?_))
    | (refine hC9 98 _ _ _ (hg2 _ _ rfl ?_))
    | (intro v9 hv9; (try simp (disch := omega) only [ab_tI, ab_c0, wd_ix12, wd_ix8, wd_ix10, wd_up_self, wd_up_eq, wd_up_ne, Int.toNat_natCast, Int.toNat_of_nonneg, not_true_eq_false, not_false_eq_true, Option.some.injEq] at hv9); subst hv9)
    | (apply i_get; (focus (exact rfl)); (focus (exact rfl)))
    | (refine hX9 _ _ _ _ (wd_rnC rfl ?_); clear hC9 hX9 X9 C9; intro C9 X9 hC9 hX9)
    | (apply w_ialM; (focus (exact rfl)); (focus (exact (by first | exact ⟨by decide, by decide⟩ | ((try simp (disch := omega) only [ab_tI, ab_c0, wd_ix12, wd_ix8, wd_ix10, wd_up_self, wd_up_eq, wd_up_ne, Int.toNat_natCast, Int.toNat_of_nonneg, not_true_eq_false, not_false_eq_true, Option.some.injEq, wd_l103, wd_l104, wd_l105, wd_l106, wd_l107, wd_l108, wd_l109, wd_l110, wd_l111, wd_l112, wd_l113, wd_l114, wd_l115, wd_l116, wd_l117, wd_l118, wd_l119, wd_l120, wd_l121, wd_l122, wd_l123, wd_l124]); omega)))); (intro v9 hv9; (try simp (disch := omega) only [ab_tI, ab_c0, wd_ix12, wd_ix8, wd_ix10, wd_up_self, wd_up_eq, wd_up_ne, Int.toNat_natCast, Int.toNat_of_nonneg, not_true_eq_false, not_false_eq_true, Option.some.injEq] at hv9); subst hv9))
    | (apply w_putM; (focus (exact rfl)); (focus (first | exact trivial | exact Or.inl rfl | exact Or.inr rfl)); (focus (exact rfl)))
    | (apply w_iasM; (focus (exact rfl)); (focus (exact (by first | exact ⟨by decide, by decide⟩ | ((try simp (disch := omega) only [ab_tI, ab_c0, wd_ix12, wd_ix8, wd_ix10, wd_up_self, wd_up_eq, wd_up_ne, Int.toNat_natCast, Int.toNat_of_nonneg, not_true_eq_false, not_false_eq_true, Option.some.injEq, wd_l103, wd_l104, wd_l105, wd_l106, wd_l107, wd_l108, wd_l109, wd_l110, wd_l111, wd_l112, wd_l113, wd_l114, wd_l115, wd_l116, wd_l117, wd_l118, wd_l119, wd_l120, wd_l121, wd_l122, wd_l123, wd_l124]); omega)))); (intro v9 hv9; (try simp (disch := omega) only [ab_tI, ab_c0, wd_ix12, wd_ix8, wd_ix10, wd_up_self, wd_up_eq, wd_up_ne, Int.toNat_natCast, Int.toNat_of_nonneg, not_true_eq_false, not_false_eq_true, Option.some.injEq] at hv9); subst hv9))
    | (refine i_brF (by decide) ?_)
    | (refine i_brT (by decide) ?_)
    | (refine ⟨fun hc => ?_, fun hc => ?_⟩ <;> (try simp (disch := omega) only [ab_tI, ab_c0, wd_ix12, wd_ix8, wd_ix10, wd_up_self, wd_up_eq, wd_up_ne, Int.toNat_natCast, Int.toNat_of_nonneg, not_true_eq_false, not_false_eq_true, Option.some.injEq] at hc) <;> first | (exfalso; omega) | skip)
    | (apply i_cv; (focus (exact rfl)))
    | (apply i_len; (focus (exact rfl)))
    | (apply w_putI; (focus (exact rfl)); (focus (exact rfl)); (focus (exact rfl)); (focus (first | exact trivial | exact Or.inl rfl | exact Or.inr rfl)); (focus (exact rfl)))
    | (apply w_putP; (focus (exact rfl)); (focus (exact rfl)); (focus (exact rfl)); (focus (exact trivial)); (focus (exact rfl)))
    | (apply i_ialN; (focus (exact rfl)); (focus (first | exact Or.inl rfl | exact Or.inr rfl)); (focus (exact (by first | exact ⟨by decide, by decide⟩ | ((try simp (disch := omega) only [ab_tI, ab_c0, wd_ix12, wd_ix8, wd_ix10, wd_up_self, wd_up_eq, wd_up_ne, Int.toNat_natCast, Int.toNat_of_nonneg, not_true_eq_false, not_false_eq_true, Option.some.injEq, wd_l103, wd_l104, wd_l105, wd_l106, wd_l107, wd_l108, wd_l109, wd_l110, wd_l111, wd_l112, wd_l113, wd_l114, wd_l115, wd_l116, wd_l117, wd_l118, wd_l119, wd_l120, wd_l121, wd_l122, wd_l123, wd_l124]); omega)))); (intro v9 hv9; (try simp (disch := omega) only [ab_tI, ab_c0, wd_ix12, wd_ix8, wd_ix10, wd_up_self, wd_up_eq, wd_up_ne, Int.toNat_natCast, Int.toNat_of_nonneg, not_true_eq_false, not_false_eq_true, Option.some.injEq] at hv9); subst hv9))
    | (apply i_aalN; (focus (exact rfl)); (focus (exact (by first | exact ⟨by decide, by decide⟩ | ((try simp (disch := omega) only [ab_tI, ab_c0, wd_ix12, wd_ix8, wd_ix10, wd_up_self, wd_up_eq, wd_up_ne, Int.toNat_natCast, Int.toNat_of_nonneg, not_true_eq_false, not_false_eq_true, Option.some.injEq, wd_l103, wd_l104, wd_l105, wd_l106, wd_l107, wd_l108, wd_l109, wd_l110, wd_l111, wd_l112, wd_l113, wd_l114, wd_l115, wd_l116, wd_l117, wd_l118, wd_l119, wd_l120, wd_l121, wd_l122, wd_l123, wd_l124]); omega)))); (intro v9 hv9; (try simp (disch := omega) only [ab_tI, ab_c0, wd_ix12, wd_ix8, wd_ix10, wd_up_self, wd_up_eq, wd_up_ne, Int.toNat_natCast, Int.toNat_of_nonneg, not_true_eq_false, not_false_eq_true, Option.some.injEq] at hv9); subst hv9))
    | (apply w_iasI; (focus (exact rfl)); (focus (exact rfl)); (focus (exact (by first | exact ⟨by decide, by decide⟩ | ((try simp (disch := omega) only [ab_tI, ab_c0, wd_ix12, wd_ix8, wd_ix10, wd_up_self, wd_up_eq, wd_up_ne, Int.toNat_natCast, Int.toNat_of_nonneg, not_true_eq_false, not_false_eq_true, Option.some.injEq, wd_l103, wd_l104, wd_l105, wd_l106, wd_l107, wd_l108, wd_l109, wd_l110, wd_l111, wd_l112, wd_l113, wd_l114, wd_l115, wd_l116, wd_l117, wd_l118, wd_l119, wd_l120, wd_l121, wd_l122, wd_l123, wd_l124]); omega)))); (focus (intro _; exact rfl)); (intro v9 hv9; (try simp (disch := omega) only [ab_tI, ab_c0, wd_ix12, wd_ix8, wd_ix10, wd_up_self, wd_up_eq, wd_up_ne, Int.toNat_natCast, Int.toNat_of_nonneg, not_true_eq_false, not_false_eq_true, Option.some.injEq] at hv9); subst hv9))
    | (apply w_balM; (focus (exact (by first | exact ⟨by decide, by decide⟩ | ((try simp (disch := omega) only [ab_tI, ab_c0, wd_ix12, wd_ix8, wd_ix10, wd_up_self, wd_up_eq, wd_up_ne, Int.toNat_natCast, Int.toNat_of_nonneg, not_true_eq_false, not_false_eq_true, Option.some.injEq, wd_l103, wd_l104, wd_l105, wd_l106, wd_l107, wd_l108, wd_l109, wd_l110, wd_l111, wd_l112, wd_l113, wd_l114, wd_l115, wd_l116, wd_l117, wd_l118, wd_l119, wd_l120, wd_l121, wd_l122, wd_l123, wd_l124]); omega)))); (intro v9 hv9; (try simp (disch := omega) only [ab_tI, ab_c0, wd_ix12, wd_ix8, wd_ix10, wd_up_self, wd_up_eq, wd_up_ne, Int.toNat_natCast, Int.toNat_of_nonneg, not_true_eq_false, not_false_eq_true, Option.some.injEq] at hv9); subst hv9))
    | (apply w_basM; (focus (exact (by first | exact ⟨by decide, by decide⟩ | ((try simp (disch := omega) only [ab_tI, ab_c0, wd_ix12, wd_ix8, wd_ix10, wd_up_self, wd_up_eq, wd_up_ne, Int.toNat_natCast, Int.toNat_of_nonneg, not_true_eq_false, not_false_eq_true, Option.some.injEq, wd_l103, wd_l104, wd_l105, wd_l106, wd_l107, wd_l108, wd_l109, wd_l110, wd_l111, wd_l112, wd_l113, wd_l114, wd_l115, wd_l116, wd_l117, wd_l118, wd_l119, wd_l120, wd_l121, wd_l122, wd_l123, wd_l124]); omega)))); (focus (first | exact Or.inl rfl | exact Or.inr rfl)); (intro v9 hv9; (try simp (disch := omega) only [ab_tI, ab_c0, wd_ix12, wd_ix8, wd_ix10, wd_up_self, wd_up_eq, wd_up_ne, Int.toNat_natCast, Int.toNat_of_nonneg, not_true_eq_false, not_false_eq_true, Option.some.injEq] at hv9); subst hv9))
    | (refine And.intro trivial ?_)
    | (refine And.intro (Or.inl rfl) ?_)
    | (refine And.intro (Or.inr rfl) ?_)
    | (refine And.intro (by ((try simp (disch := omega) only [ab_tI, ab_c0, wd_ix12, wd_ix8, wd_ix10, wd_up_self, wd_up_eq, wd_up_ne, Int.toNat_natCast, Int.toNat_of_nonneg, not_true_eq_false, not_false_eq_true, Option.some.injEq]); omega)) ?_)
    | fail)
          all_goals first | exact hQ | (exfalso; omega)
end
end
section
/-! ===== the class: tagged ones read, walked (own text) ===== -/
section
variable {d : Nat} {I : wd_I} {P : wd_P} {M : wd_I} {g : Nat → ab_C} {k z dp : Nat} {Q : ab_Q} {T : Nat → Prop} {G : c_St → r_O}
set_option maxHeartbeats 4000000 in
set_option maxRecDepth 100000 in
theorem y_rdtag (hd : 8 ≤ d) (hdp : dp ≤ 12) (hGg : r_gG G) (hG : ∀ (T : Nat → Prop) (S : c_St) (Q : ab_Q), r_pr T S → r_ro S → Q (some (.inr (.inr (G S).1))) (c_S P M (G S).2) → ab_CT (d - 1) 98 [wd_v 3, .inl (ab_ii ((dp : Int) + 1))] (c_S P M S) Q) (h0 : r_pr T (I, g, k, z)) (hro : r_ro (I, g, k, z)) (hlt : (I 1 2).toInt < (I 1 1).toInt) (hQ : Q (some (.inr (.inr (r_tagg G (t_step I, g, k, z)).1))) (c_S P M (r_tagg G (t_step I, g, k, z)).2)) : ab_CT d 100 [wd_v 3, .inl (ab_ii (dp : Int))] (wd I P M g, k, z) Q := by
  have hS1 := (r_at.rf h0).step hlt
  have hts : t_tp (t_step I) := hS1.2.1.2.1
  have hS2 := hS1.I (t_digits_tf (most := 1) hts (by omega)).1
  have hdg := fun (Q : ab_Q) hq => y_tdigits (d := d - 1) (P := P) (M := M) (g := g) (k := k) (z := z) (Q := Q) (most := 1) (by omega) (by omega) (by omega) hts hq
  unfold r_tagg at hQ
  dsimp only at hQ hS2
  generalize t_digits (t_step I) 1 = L at *
  obtain ⟨I1, v⟩ := L
  dsimp only at *
  by_cases hf : 0 ≤ (I1 1 3).toInt
  · rw [if_pos hf] at hQ
    clear hG
    refine wd_inC rfl (by omega) rfl ?_
    intro C9 X9 hC9 hX9
    repeat' ((conv => whnf); first
    | (refine hC9 80 _ _ _ (y_tstep (by omega) ?_))
    | (refine hC9 83 _ _ _ (hdg _ ?_))
    | (refine hC9 76 _ _ _ (y_tfaulty (by omega) (fun _ => ?_) (fun q => absurd hf (by omega))))
    | (intro v9 hv9; (try simp (disch := omega) only [ab_tI, ab_c0, wd_ix12, wd_ix8, wd_ix10, wd_up_self, wd_up_eq, wd_up_ne, Int.toNat_natCast, Int.toNat_of_nonneg, not_true_eq_false, not_false_eq_true, Option.some.injEq] at hv9); subst hv9)
    | (apply i_get; (focus (exact rfl)); (focus (exact rfl)))
    | (refine hX9 _ _ _ _ (wd_rnC rfl ?_); clear hC9 hX9 X9 C9; intro C9 X9 hC9 hX9)
    | (apply w_ialM; (focus (exact rfl)); (focus (exact (by first | exact ⟨by decide, by decide⟩ | ((try simp (disch := omega) only [ab_tI, ab_c0, wd_ix12, wd_ix8, wd_ix10, wd_up_self, wd_up_eq, wd_up_ne, Int.toNat_natCast, Int.toNat_of_nonneg, not_true_eq_false, not_false_eq_true, Option.some.injEq, wd_l103, wd_l104, wd_l105, wd_l106, wd_l107, wd_l108, wd_l109, wd_l110, wd_l111, wd_l112, wd_l113, wd_l114, wd_l115, wd_l116, wd_l117, wd_l118, wd_l119, wd_l120, wd_l121, wd_l122, wd_l123, wd_l124]); omega)))); (intro v9 hv9; (try simp (disch := omega) only [ab_tI, ab_c0, wd_ix12, wd_ix8, wd_ix10, wd_up_self, wd_up_eq, wd_up_ne, Int.toNat_natCast, Int.toNat_of_nonneg, not_true_eq_false, not_false_eq_true, Option.some.injEq] at hv9); subst hv9))
    | (apply w_putM; (focus (exact rfl)); (focus (first | exact trivial | exact Or.inl rfl | exact Or.inr rfl)); (focus (exact rfl)))
    | (apply w_iasM; (focus (exact rfl)); (focus (exact (by first | exact ⟨by decide, by decide⟩ | ((try simp (disch := omega) only [ab_tI, ab_c0, wd_ix12, wd_ix8, wd_ix10, wd_up_self, wd_up_eq, wd_up_ne, Int.toNat_natCast, Int.toNat_of_nonneg, not_true_eq_false, not_false_eq_true, Option.some.injEq, wd_l103, wd_l104, wd_l105, wd_l106, wd_l107, wd_l108, wd_l109, wd_l110, wd_l111, wd_l112, wd_l113, wd_l114, wd_l115, wd_l116, wd_l117, wd_l118, wd_l119, wd_l120, wd_l121, wd_l122, wd_l123, wd_l124]); omega)))); (intro v9 hv9; (try simp (disch := omega) only [ab_tI, ab_c0, wd_ix12, wd_ix8, wd_ix10, wd_up_self, wd_up_eq, wd_up_ne, Int.toNat_natCast, Int.toNat_of_nonneg, not_true_eq_false, not_false_eq_true, Option.some.injEq] at hv9); subst hv9))
    | (refine i_brF (by decide) ?_)
    | (refine i_brT (by decide) ?_)
    | (refine ⟨fun hc => ?_, fun hc => ?_⟩ <;> (try simp (disch := omega) only [ab_tI, ab_c0, wd_ix12, wd_ix8, wd_ix10, wd_up_self, wd_up_eq, wd_up_ne, Int.toNat_natCast, Int.toNat_of_nonneg, not_true_eq_false, not_false_eq_true, Option.some.injEq] at hc) <;> first | (exfalso; omega) | skip)
    | (apply i_cv; (focus (exact rfl)))
    | (apply i_len; (focus (exact rfl)))
    | (apply w_putI; (focus (exact rfl)); (focus (exact rfl)); (focus (exact rfl)); (focus (first | exact trivial | exact Or.inl rfl | exact Or.inr rfl)); (focus (exact rfl)))
    | (apply w_putP; (focus (exact rfl)); (focus (exact rfl)); (focus (exact rfl)); (focus (exact trivial)); (focus (exact rfl)))
    | (apply i_ialN; (focus (exact rfl)); (focus (first | exact Or.inl rfl | exact Or.inr rfl)); (focus (exact (by first | exact ⟨by decide, by decide⟩ | ((try simp (disch := omega) only [ab_tI, ab_c0, wd_ix12, wd_ix8, wd_ix10, wd_up_self, wd_up_eq, wd_up_ne, Int.toNat_natCast, Int.toNat_of_nonneg, not_true_eq_false, not_false_eq_true, Option.some.injEq, wd_l103, wd_l104, wd_l105, wd_l106, wd_l107, wd_l108, wd_l109, wd_l110, wd_l111, wd_l112, wd_l113, wd_l114, wd_l115, wd_l116, wd_l117, wd_l118, wd_l119, wd_l120, wd_l121, wd_l122, wd_l123, wd_l124]); omega)))); (intro v9 hv9; (try simp (disch := omega) only [ab_tI, ab_c0, wd_ix12, wd_ix8, wd_ix10, wd_up_self, wd_up_eq, wd_up_ne, Int.toNat_natCast, Int.toNat_of_nonneg, not_true_eq_false, not_false_eq_true, Option.some.injEq] at hv9); subst hv9))
    | (apply i_aalN; (focus (exact rfl)); (focus (exact (by first | exact ⟨by decide, by decide⟩ | ((try simp (disch := omega) only [ab_tI, ab_c0, wd_ix12, wd_ix8, wd_ix10, wd_up_self, wd_up_eq, wd_up_ne, Int.toNat_natCast, Int.toNat_of_nonneg, not_true_eq_false, not_false_eq_true, Option.some.injEq, wd_l103, wd_l104, wd_l105, wd_l106, wd_l107, wd_l108, wd_l109, wd_l110, wd_l111, wd_l112, wd_l113, wd_l114, wd_l115, wd_l116, wd_l117, wd_l118, wd_l119, wd_l120, wd_l121, wd_l122, wd_l123, wd_l124]); omega)))); (intro v9 hv9; (try simp (disch := omega) only [ab_tI, ab_c0, wd_ix12, wd_ix8, wd_ix10, wd_up_self, wd_up_eq, wd_up_ne, Int.toNat_natCast, Int.toNat_of_nonneg, not_true_eq_false, not_false_eq_true, Option.some.injEq] at hv9); subst hv9))
    | (apply w_iasI; (focus (exact rfl)); (focus (exact rfl)); (focus (exact (by first | exact ⟨by decide, by decide⟩ | ((try simp (disch := omega) only [ab_tI, ab_c0, wd_ix12, wd_ix8, wd_ix10, wd_up_self, wd_up_eq, wd_up_ne, Int.toNat_natCast, Int.toNat_of_nonneg, not_true_eq_false, not_false_eq_true, Option.some.injEq, wd_l103, wd_l104, wd_l105, wd_l106, wd_l107, wd_l108, wd_l109, wd_l110, wd_l111, wd_l112, wd_l113, wd_l114, wd_l115, wd_l116, wd_l117, wd_l118, wd_l119, wd_l120, wd_l121, wd_l122, wd_l123, wd_l124]); omega)))); (focus (intro _; exact rfl)); (intro v9 hv9; (try simp (disch := omega) only [ab_tI, ab_c0, wd_ix12, wd_ix8, wd_ix10, wd_up_self, wd_up_eq, wd_up_ne, Int.toNat_natCast, Int.toNat_of_nonneg, not_true_eq_false, not_false_eq_true, Option.some.injEq] at hv9); subst hv9))
    | (apply w_balM; (focus (exact (by first | exact ⟨by decide, by decide⟩ | ((try simp (disch := omega) only [ab_tI, ab_c0, wd_ix12, wd_ix8, wd_ix10, wd_up_self, wd_up_eq, wd_up_ne, Int.toNat_natCast, Int.toNat_of_nonneg, not_true_eq_false, not_false_eq_true, Option.some.injEq, wd_l103, wd_l104, wd_l105, wd_l106, wd_l107, wd_l108, wd_l109, wd_l110, wd_l111, wd_l112, wd_l113, wd_l114, wd_l115, wd_l116, wd_l117, wd_l118, wd_l119, wd_l120, wd_l121, wd_l122, wd_l123, wd_l124]); omega)))); (intro v9 hv9; (try simp (disch := omega) only [ab_tI, ab_c0, wd_ix12, wd_ix8, wd_ix10, wd_up_self, wd_up_eq, wd_up_ne, Int.toNat_natCast, Int.toNat_of_nonneg, not_true_eq_false, not_false_eq_true, Option.some.injEq] at hv9); subst hv9))
    | (apply w_basM; (focus (exact (by first | exact ⟨by decide, by decide⟩ | ((try simp (disch := omega) only [ab_tI, ab_c0, wd_ix12, wd_ix8, wd_ix10, wd_up_self, wd_up_eq, wd_up_ne, Int.toNat_natCast, Int.toNat_of_nonneg, not_true_eq_false, not_false_eq_true, Option.some.injEq, wd_l103, wd_l104, wd_l105, wd_l106, wd_l107, wd_l108, wd_l109, wd_l110, wd_l111, wd_l112, wd_l113, wd_l114, wd_l115, wd_l116, wd_l117, wd_l118, wd_l119, wd_l120, wd_l121, wd_l122, wd_l123, wd_l124]); omega)))); (focus (first | exact Or.inl rfl | exact Or.inr rfl)); (intro v9 hv9; (try simp (disch := omega) only [ab_tI, ab_c0, wd_ix12, wd_ix8, wd_ix10, wd_up_self, wd_up_eq, wd_up_ne, Int.toNat_natCast, Int.toNat_of_nonneg, not_true_eq_false, not_false_eq_true, Option.some.injEq] at hv9); subst hv9))
    | (refine And.intro trivial ?_)
    | (refine And.intro (Or.inl rfl) ?_)
    | (refine And.intro (Or.inr rfl) ?_)
    | (refine And.intro (by ((try simp (disch := omega) only [ab_tI, ab_c0, wd_ix12, wd_ix8, wd_ix10, wd_up_self, wd_up_eq, wd_up_ne, Int.toNat_natCast, Int.toNat_of_nonneg, not_true_eq_false, not_false_eq_true, Option.some.injEq]); omega)) ?_)
    | fail)
    all_goals first | exact hQ | (exfalso; omega)
  · rw [if_neg hf] at hQ
    have hg1 := fun Q hq => hG T (I1, g, k, z) Q (hS2.pr h0) (hS2.ro hro).1 hq
    obtain ⟨T1, a1, a2, -⟩ := hS2.go h0 hGg
    generalize G (I1, g, k, z) = R1 at *
    obtain ⟨o1, I2, g1, k1, z1⟩ := R1
    dsimp only at a1 a2 hg1 hQ
    unfold c_S at hg1
    dsimp only at hg1
    clear hG
    cases o1 with
    | none =>
      refine wd_inC rfl (by omega) rfl ?_
      intro C9 X9 hC9 hX9
      repeat' ((conv => whnf); first
    | (refine hC9 80 _ _ _ (y_tstep (by omega) ?_))
    | (refine hC9 83 _ _ _ (hdg _ ?_))
    | (refine hC9 76 _ _ _ (y_tfaulty (by omega) (fun q => absurd q hf) (fun _ => ?_)))
    | (refine hC9 98 _ _ _ (hg1 _ ?_))
    | (intro v9 hv9; (try simp (disch := omega) only [ab_tI, ab_c0, wd_ix12, wd_ix8, wd_ix10, wd_up_self, wd_up_eq, wd_up_ne, Int.toNat_natCast, Int.toNat_of_nonneg, not_true_eq_false, not_false_eq_true, Option.some.injEq] at hv9); subst hv9)
    | (apply i_get; (focus (exact rfl)); (focus (exact rfl)))
    | (refine hX9 _ _ _ _ (wd_rnC rfl ?_); clear hC9 hX9 X9 C9; intro C9 X9 hC9 hX9)
    | (apply w_ialM; (focus (exact rfl)); (focus (exact (by first | exact ⟨by decide, by decide⟩ | ((try simp (disch := omega) only [ab_tI, ab_c0, wd_ix12, wd_ix8, wd_ix10, wd_up_self, wd_up_eq, wd_up_ne, Int.toNat_natCast, Int.toNat_of_nonneg, not_true_eq_false, not_false_eq_true, Option.some.injEq, wd_l103, wd_l104, wd_l105, wd_l106, wd_l107, wd_l108, wd_l109, wd_l110, wd_l111, wd_l112, wd_l113, wd_l114, wd_l115, wd_l116, wd_l117, wd_l118, wd_l119, wd_l120, wd_l121, wd_l122, wd_l123, wd_l124]); omega)))); (intro v9 hv9; (try simp (disch := omega) only [ab_tI, ab_c0, wd_ix12, wd_ix8, wd_ix10, wd_up_self, wd_up_eq, wd_up_ne, Int.toNat_natCast, Int.toNat_of_nonneg, not_true_eq_false, not_false_eq_true, Option.some.injEq] at hv9); subst hv9))
    | (apply w_putM; (focus (exact rfl)); (focus (first | exact trivial | exact Or.inl rfl | exact Or.inr rfl)); (focus (exact rfl)))
    | (apply w_iasM; (focus (exact rfl)); (focus (exact (by first | exact ⟨by decide, by decide⟩ | ((try simp (disch := omega) only [ab_tI, ab_c0, wd_ix12, wd_ix8, wd_ix10, wd_up_self, wd_up_eq, wd_up_ne, Int.toNat_natCast, Int.toNat_of_nonneg, not_true_eq_false, not_false_eq_true, Option.some.injEq, wd_l103, wd_l104, wd_l105, wd_l106, wd_l107, wd_l108, wd_l109, wd_l110, wd_l111, wd_l112, wd_l113, wd_l114, wd_l115, wd_l116, wd_l117, wd_l118, wd_l119, wd_l120, wd_l121, wd_l122, wd_l123, wd_l124]); omega)))); (intro v9 hv9; (try simp (disch := omega) only [ab_tI, ab_c0, wd_ix12, wd_ix8, wd_ix10, wd_up_self, wd_up_eq, wd_up_ne, Int.toNat_natCast, Int.toNat_of_nonneg, not_true_eq_false, not_false_eq_true, Option.some.injEq] at hv9); subst hv9))
    | (refine i_brF (by decide) ?_)
    | (refine i_brT (by decide) ?_)
    | (refine ⟨fun hc => ?_, fun hc => ?_⟩ <;> (try simp (disch := omega) only [ab_tI, ab_c0, wd_ix12, wd_ix8, wd_ix10, wd_up_self, wd_up_eq, wd_up_ne, Int.toNat_natCast, Int.toNat_of_nonneg, not_true_eq_false, not_false_eq_true, Option.some.injEq] at hc) <;> first | (exfalso; omega) | skip)
    | (apply i_cv; (focus (exact rfl)))
    | (apply i_len; (focus (exact rfl)))
    | (apply w_putI; (focus (exact rfl)); (focus (exact rfl)); (focus (exact rfl)); (focus (first | exact trivial | exact Or.inl rfl | exact Or.inr rfl)); (focus (exact rfl)))
    | (apply w_putP; (focus (exact rfl)); (focus (exact rfl)); (focus (exact rfl)); (focus (exact trivial)); (focus (exact rfl)))
    | (apply i_ialN; (focus (exact rfl)); (focus (first | exact Or.inl rfl | exact Or.inr rfl)); (focus (exact (by first | exact ⟨by decide, by decide⟩ | ((try simp (disch := omega) only [ab_tI, ab_c0, wd_ix12, wd_ix8, wd_ix10, wd_up_self, wd_up_eq, wd_up_ne, Int.toNat_natCast, Int.toNat_of_nonneg, not_true_eq_false, not_false_eq_true, Option.some.injEq, wd_l103, wd_l104, wd_l105, wd_l106, wd_l107, wd_l108, wd_l109, wd_l110, wd_l111, wd_l112, wd_l113, wd_l114, wd_l115, wd_l116, wd_l117, wd_l118, wd_l119, wd_l120, wd_l121, wd_l122, wd_l123, wd_l124]); omega)))); (intro v9 hv9; (try simp (disch := omega) only [ab_tI, ab_c0, wd_ix12, wd_ix8, wd_ix10, wd_up_self, wd_up_eq, wd_up_ne, Int.toNat_natCast, Int.toNat_of_nonneg, not_true_eq_false, not_false_eq_true, Option.some.injEq] at hv9); subst hv9))
    | (apply i_aalN; (focus (exact rfl)); (focus (exact (by first | exact ⟨by decide, by decide⟩ | ((try simp (disch := omega) only [ab_tI, ab_c0, wd_ix12, wd_ix8, wd_ix10, wd_up_self, wd_up_eq, wd_up_ne, Int.toNat_natCast, Int.toNat_of_nonneg, not_true_eq_false, not_false_eq_true, Option.some.injEq, wd_l103, wd_l104, wd_l105, wd_l106, wd_l107, wd_l108, wd_l109, wd_l110, wd_l111, wd_l112, wd_l113, wd_l114, wd_l115, wd_l116, wd_l117, wd_l118, wd_l119, wd_l120, wd_l121, wd_l122, wd_l123, wd_l124]); omega)))); (intro v9 hv9; (try simp (disch := omega) only [ab_tI, ab_c0, wd_ix12, wd_ix8, wd_ix10, wd_up_self, wd_up_eq, wd_up_ne, Int.toNat_natCast, Int.toNat_of_nonneg, not_true_eq_false, not_false_eq_true, Option.some.injEq] at hv9); subst hv9))
    | (apply w_iasI; (focus (exact rfl)); (focus (exact rfl)); (focus (exact (by first | exact ⟨by decide, by decide⟩ | ((try simp (disch := omega) only [ab_tI, ab_c0, wd_ix12, wd_ix8, wd_ix10, wd_up_self, wd_up_eq, wd_up_ne, Int.toNat_natCast, Int.toNat_of_nonneg, not_true_eq_false, not_false_eq_true, Option.some.injEq, wd_l103, wd_l104, wd_l105, wd_l106, wd_l107, wd_l108, wd_l109, wd_l110, wd_l111, wd_l112, wd_l113, wd_l114, wd_l115, wd_l116, wd_l117, wd_l118, wd_l119, wd_l120, wd_l121, wd_l122, wd_l123, wd_l124]); omega)))); (focus (intro _; exact rfl)); (intro v9 hv9; (try simp (disch := omega) only [ab_tI, ab_c0, wd_ix12, wd_ix8, wd_ix10, wd_up_self, wd_up_eq, wd_up_ne, Int.toNat_natCast, Int.toNat_of_nonneg, not_true_eq_false, not_false_eq_true, Option.some.injEq] at hv9); subst hv9))
    | (apply w_balM; (focus (exact (by first | exact ⟨by decide, by decide⟩ | ((try simp (disch := omega) only [ab_tI, ab_c0, wd_ix12, wd_ix8, wd_ix10, wd_up_self, wd_up_eq, wd_up_ne, Int.toNat_natCast, Int.toNat_of_nonneg, not_true_eq_false, not_false_eq_true, Option.some.injEq, wd_l103, wd_l104, wd_l105, wd_l106, wd_l107, wd_l108, wd_l109, wd_l110, wd_l111, wd_l112, wd_l113, wd_l114, wd_l115, wd_l116, wd_l117, wd_l118, wd_l119, wd_l120, wd_l121, wd_l122, wd_l123, wd_l124]); omega)))); (intro v9 hv9; (try simp (disch := omega) only [ab_tI, ab_c0, wd_ix12, wd_ix8, wd_ix10, wd_up_self, wd_up_eq, wd_up_ne, Int.toNat_natCast, Int.toNat_of_nonneg, not_true_eq_false, not_false_eq_true, Option.some.injEq] at hv9); subst hv9))
    | (apply w_basM; (focus (exact (by first | exact ⟨by decide, by decide⟩ | ((try simp (disch := omega) only [ab_tI, ab_c0, wd_ix12, wd_ix8, wd_ix10, wd_up_self, wd_up_eq, wd_up_ne, Int.toNat_natCast, Int.toNat_of_nonneg, not_true_eq_false, not_false_eq_true, Option.some.injEq, wd_l103, wd_l104, wd_l105, wd_l106, wd_l107, wd_l108, wd_l109, wd_l110, wd_l111, wd_l112, wd_l113, wd_l114, wd_l115, wd_l116, wd_l117, wd_l118, wd_l119, wd_l120, wd_l121, wd_l122, wd_l123, wd_l124]); omega)))); (focus (first | exact Or.inl rfl | exact Or.inr rfl)); (intro v9 hv9; (try simp (disch := omega) only [ab_tI, ab_c0, wd_ix12, wd_ix8, wd_ix10, wd_up_self, wd_up_eq, wd_up_ne, Int.toNat_natCast, Int.toNat_of_nonneg, not_true_eq_false, not_false_eq_true, Option.some.injEq] at hv9); subst hv9))
    | (refine And.intro trivial ?_)
    | (refine And.intro (Or.inl rfl) ?_)
    | (refine And.intro (Or.inr rfl) ?_)
    | (refine And.intro (by ((try simp (disch := omega) only [ab_tI, ab_c0, wd_ix12, wd_ix8, wd_ix10, wd_up_self, wd_up_eq, wd_up_ne, Int.toNat_natCast, Int.toNat_of_nonneg, not_true_eq_false, not_false_eq_true, Option.some.injEq]); omega)) ?_)
    | fail)
      all_goals first | exact hQ | (exfalso; omega)
    | some b =>
      have hTb := a2 b rfl
      obtain ⟨hW2, hk2, -⟩ := a1.pr h0
      obtain ⟨r1, r2⟩ := (a1.ro hro).2
      dsimp only at hW2 hk2 r1 r2
      have h3 := fun (c : ab_C) => c_W_x (I := I2) (P := P) (M := M) (kk := k1 + 1) (z := z1 + 1) (x := k1) (c := c) hW2 hTb (by have := (hW2 b hTb).1.2; omega)
      have hkT : ¬ T1 (k1 + 1) := fun q => by have := (hW2 _ q).1.2; omega
      have hWa : c_W T1 (ab_up (ab_up g1 k1 (ab_ra 4 1 (ab_up (fun _ => none) 0 (some b)))) (k1 + 1 + 1) (ab_ia 0 0 (fun _ => 0))) k1 := c_W_up (c_W_up hW2 (Nat.le_refl _) (Nat.le_refl _)) (by omega) (Nat.le_refl _)
      have hin := fun (z' : Nat) (Q : ab_Q) hq => y_tinit (d := d - 1) (I := I2) (P := P) (M := M) (kk := k1 + 1 + 1 + 1) (z := z') (Q := Q) (by omega) hWa (x := k1 + 1) (ka := k1 + 1 + 1) (pa := k1) (np := 1) (fp := ab_up (fun _ => none) 0 (some b)) (kd := ab_ii 4) (wo := v) (wd_mut_new (by omega)) hkT (by omega) ⟨wd_mut_new (by omega), (ab_up_ne _ _ (by omega)).trans (ab_up_self _ _ _)⟩ (by omega) (c_one_T hTb) hq
      refine wd_inC rfl (by omega) rfl ?_
      intro C9 X9 hC9 hX9
      repeat' ((conv => whnf); first
    | (refine hC9 80 _ _ _ (y_tstep (by omega) ?_))
    | (refine hC9 83 _ _ _ (hdg _ ?_))
    | (refine hC9 76 _ _ _ (y_tfaulty (by omega) (fun q => absurd q hf) (fun _ => ?_)))
    | (refine hC9 98 _ _ _ (hg1 _ ?_))
    | (apply w_newR (n := 1); (focus (rfl)); (focus (exact ⟨by omega, by omega⟩)); (focus (omega)); (dsimp only))
    | (apply w_aasG (wd_mut_new (by omega)); (focus (first | exact ⟨by decide, by decide⟩ | ((try simp (disch := omega) only [ab_tI, ab_c0, wd_ix12, wd_ix8, wd_ix10, wd_up_self, wd_up_eq, wd_up_ne, Int.toNat_natCast, Int.toNat_of_nonneg, not_true_eq_false, not_false_eq_true, Option.some.injEq]); omega))); (focus (intro v9 hv9; cases hv9; exact i_ex (h3 _))); (intro e9 he9; (try simp (disch := omega) only [ab_tI, ab_c0, wd_ix12, wd_ix8, wd_ix10, wd_up_self, wd_up_eq, wd_up_ne, Int.toNat_natCast, Int.toNat_of_nonneg, not_true_eq_false, not_false_eq_true, Option.some.injEq] at he9); subst he9))
    | (apply w_new (n := 6); (focus (exact ⟨by omega, by omega⟩)); (focus (omega)); (dsimp only))
    | (apply w_newI (n := 0); (focus (rfl)); (focus (exact ⟨by omega, by omega⟩)); (focus (omega)); (dsimp only); (rw [ab_up_cm (x := k1 + 1) (y := k1 + 1 + 1) (by omega)]))
    | (refine hC9 86 _ _ _ (hin _ _ ?_))
    | (intro v9 hv9; (try simp (disch := omega) only [ab_tI, ab_c0, wd_ix12, wd_ix8, wd_ix10, wd_up_self, wd_up_eq, wd_up_ne, Int.toNat_natCast, Int.toNat_of_nonneg, not_true_eq_false, not_false_eq_true, Option.some.injEq] at hv9); subst hv9)
    | (apply i_get; (focus (exact rfl)); (focus (exact rfl)))
    | (refine hX9 _ _ _ _ (wd_rnC rfl ?_); clear hC9 hX9 X9 C9; intro C9 X9 hC9 hX9)
    | (apply w_ialM; (focus (exact rfl)); (focus (exact (by first | exact ⟨by decide, by decide⟩ | ((try simp (disch := omega) only [ab_tI, ab_c0, wd_ix12, wd_ix8, wd_ix10, wd_up_self, wd_up_eq, wd_up_ne, Int.toNat_natCast, Int.toNat_of_nonneg, not_true_eq_false, not_false_eq_true, Option.some.injEq, wd_l103, wd_l104, wd_l105, wd_l106, wd_l107, wd_l108, wd_l109, wd_l110, wd_l111, wd_l112, wd_l113, wd_l114, wd_l115, wd_l116, wd_l117, wd_l118, wd_l119, wd_l120, wd_l121, wd_l122, wd_l123, wd_l124]); omega)))); (intro v9 hv9; (try simp (disch := omega) only [ab_tI, ab_c0, wd_ix12, wd_ix8, wd_ix10, wd_up_self, wd_up_eq, wd_up_ne, Int.toNat_natCast, Int.toNat_of_nonneg, not_true_eq_false, not_false_eq_true, Option.some.injEq] at hv9); subst hv9))
    | (apply w_putM; (focus (exact rfl)); (focus (first | exact trivial | exact Or.inl rfl | exact Or.inr rfl)); (focus (exact rfl)))
    | (apply w_iasM; (focus (exact rfl)); (focus (exact (by first | exact ⟨by decide, by decide⟩ | ((try simp (disch := omega) only [ab_tI, ab_c0, wd_ix12, wd_ix8, wd_ix10, wd_up_self, wd_up_eq, wd_up_ne, Int.toNat_natCast, Int.toNat_of_nonneg, not_true_eq_false, not_false_eq_true, Option.some.injEq, wd_l103, wd_l104, wd_l105, wd_l106, wd_l107, wd_l108, wd_l109, wd_l110, wd_l111, wd_l112, wd_l113, wd_l114, wd_l115, wd_l116, wd_l117, wd_l118, wd_l119, wd_l120, wd_l121, wd_l122, wd_l123, wd_l124]); omega)))); (intro v9 hv9; (try simp (disch := omega) only [ab_tI, ab_c0, wd_ix12, wd_ix8, wd_ix10, wd_up_self, wd_up_eq, wd_up_ne, Int.toNat_natCast, Int.toNat_of_nonneg, not_true_eq_false, not_false_eq_true, Option.some.injEq] at hv9); subst hv9))
    | (refine i_brF (by decide) ?_)
    | (refine i_brT (by decide) ?_)
    | (refine ⟨fun hc => ?_, fun hc => ?_⟩ <;> (try simp (disch := omega) only [ab_tI, ab_c0, wd_ix12, wd_ix8, wd_ix10, wd_up_self, wd_up_eq, wd_up_ne, Int.toNat_natCast, Int.toNat_of_nonneg, not_true_eq_false, not_false_eq_true, Option.some.injEq] at hc) <;> first | (exfalso; omega) | skip)
    | (apply i_cv; (focus (exact rfl)))
    | (apply i_len; (focus (exact rfl)))
    | (apply w_putI; (focus (exact rfl)); (focus (exact rfl)); (focus (exact rfl)); (focus (first | exact trivial | exact Or.inl rfl | exact Or.inr rfl)); (focus (exact rfl)))
    | (apply w_putP; (focus (exact rfl)); (focus (exact rfl)); (focus (exact rfl)); (focus (exact trivial)); (focus (exact rfl)))
    | (apply i_ialN; (focus (exact rfl)); (focus (first | exact Or.inl rfl | exact Or.inr rfl)); (focus (exact (by first | exact ⟨by decide, by decide⟩ | ((try simp (disch := omega) only [ab_tI, ab_c0, wd_ix12, wd_ix8, wd_ix10, wd_up_self, wd_up_eq, wd_up_ne, Int.toNat_natCast, Int.toNat_of_nonneg, not_true_eq_false, not_false_eq_true, Option.some.injEq, wd_l103, wd_l104, wd_l105, wd_l106, wd_l107, wd_l108, wd_l109, wd_l110, wd_l111, wd_l112, wd_l113, wd_l114, wd_l115, wd_l116, wd_l117, wd_l118, wd_l119, wd_l120, wd_l121, wd_l122, wd_l123, wd_l124]); omega)))); (intro v9 hv9; (try simp (disch := omega) only [ab_tI, ab_c0, wd_ix12, wd_ix8, wd_ix10, wd_up_self, wd_up_eq, wd_up_ne, Int.toNat_natCast, Int.toNat_of_nonneg, not_true_eq_false, not_false_eq_true, Option.some.injEq] at hv9); subst hv9))
    | (apply i_aalN; (focus (exact rfl)); (focus (exact (by first | exact ⟨by decide, by decide⟩ | ((try simp (disch := omega) only [ab_tI, ab_c0, wd_ix12, wd_ix8, wd_ix10, wd_up_self, wd_up_eq, wd_up_ne, Int.toNat_natCast, Int.toNat_of_nonneg, not_true_eq_false, not_false_eq_true, Option.some.injEq, wd_l103, wd_l104, wd_l105, wd_l106, wd_l107, wd_l108, wd_l109, wd_l110, wd_l111, wd_l112, wd_l113, wd_l114, wd_l115, wd_l116, wd_l117, wd_l118, wd_l119, wd_l120, wd_l121, wd_l122, wd_l123, wd_l124]); omega)))); (intro v9 hv9; (try simp (disch := omega) only [ab_tI, ab_c0, wd_ix12, wd_ix8, wd_ix10, wd_up_self, wd_up_eq, wd_up_ne, Int.toNat_natCast, Int.toNat_of_nonneg, not_true_eq_false, not_false_eq_true, Option.some.injEq] at hv9); subst hv9))
    | (apply w_iasI; (focus (exact rfl)); (focus (exact rfl)); (focus (exact (by first | exact ⟨by decide, by decide⟩ | ((try simp (disch := omega) only [ab_tI, ab_c0, wd_ix12, wd_ix8, wd_ix10, wd_up_self, wd_up_eq, wd_up_ne, Int.toNat_natCast, Int.toNat_of_nonneg, not_true_eq_false, not_false_eq_true, Option.some.injEq, wd_l103, wd_l104, wd_l105, wd_l106, wd_l107, wd_l108, wd_l109, wd_l110, wd_l111, wd_l112, wd_l113, wd_l114, wd_l115, wd_l116, wd_l117, wd_l118, wd_l119, wd_l120, wd_l121, wd_l122, wd_l123, wd_l124]); omega)))); (focus (intro _; exact rfl)); (intro v9 hv9; (try simp (disch := omega) only [ab_tI, ab_c0, wd_ix12, wd_ix8, wd_ix10, wd_up_self, wd_up_eq, wd_up_ne, Int.toNat_natCast, Int.toNat_of_nonneg, not_true_eq_false, not_false_eq_true, Option.some.injEq] at hv9); subst hv9))
    | (apply w_balM; (focus (exact (by first | exact ⟨by decide, by decide⟩ | ((try simp (disch := omega) only [ab_tI, ab_c0, wd_ix12, wd_ix8, wd_ix10, wd_up_self, wd_up_eq, wd_up_ne, Int.toNat_natCast, Int.toNat_of_nonneg, not_true_eq_false, not_false_eq_true, Option.some.injEq, wd_l103, wd_l104, wd_l105, wd_l106, wd_l107, wd_l108, wd_l109, wd_l110, wd_l111, wd_l112, wd_l113, wd_l114, wd_l115, wd_l116, wd_l117, wd_l118, wd_l119, wd_l120, wd_l121, wd_l122, wd_l123, wd_l124]); omega)))); (intro v9 hv9; (try simp (disch := omega) only [ab_tI, ab_c0, wd_ix12, wd_ix8, wd_ix10, wd_up_self, wd_up_eq, wd_up_ne, Int.toNat_natCast, Int.toNat_of_nonneg, not_true_eq_false, not_false_eq_true, Option.some.injEq] at hv9); subst hv9))
    | (apply w_basM; (focus (exact (by first | exact ⟨by decide, by decide⟩ | ((try simp (disch := omega) only [ab_tI, ab_c0, wd_ix12, wd_ix8, wd_ix10, wd_up_self, wd_up_eq, wd_up_ne, Int.toNat_natCast, Int.toNat_of_nonneg, not_true_eq_false, not_false_eq_true, Option.some.injEq, wd_l103, wd_l104, wd_l105, wd_l106, wd_l107, wd_l108, wd_l109, wd_l110, wd_l111, wd_l112, wd_l113, wd_l114, wd_l115, wd_l116, wd_l117, wd_l118, wd_l119, wd_l120, wd_l121, wd_l122, wd_l123, wd_l124]); omega)))); (focus (first | exact Or.inl rfl | exact Or.inr rfl)); (intro v9 hv9; (try simp (disch := omega) only [ab_tI, ab_c0, wd_ix12, wd_ix8, wd_ix10, wd_up_self, wd_up_eq, wd_up_ne, Int.toNat_natCast, Int.toNat_of_nonneg, not_true_eq_false, not_false_eq_true, Option.some.injEq] at hv9); subst hv9))
    | (refine And.intro trivial ?_)
    | (refine And.intro (Or.inl rfl) ?_)
    | (refine And.intro (Or.inr rfl) ?_)
    | (refine And.intro (by ((try simp (disch := omega) only [ab_tI, ab_c0, wd_ix12, wd_ix8, wd_ix10, wd_up_self, wd_up_eq, wd_up_ne, Int.toNat_natCast, Int.toNat_of_nonneg, not_true_eq_false, not_false_eq_true, Option.some.injEq]); omega)) ?_)
    | fail)
      all_goals first | exact hQ | (exfalso; omega)
end
end
