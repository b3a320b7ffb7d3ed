/-! ===== the class: OVER's change, foci counted (own text) ===== -/
def c_cI (I : wd_I) (how n : Int32) : wd_I := wd_up (wd_up (wd_up (wd_up I 10 2 how) 10 3 n) 10 5 (ab_ii 0)) 10 6 (ab_ii 0)
def c_cP (P : wd_P) (p : Nat) (o : Option Nat) : wd_P := wd_up (wd_up P 10 1 (some p)) 10 4 o
theorem c_cI_e {I : wd_I} {how n : Int32} : c_cI I how n 9 0 = I 9 0 ∧ c_cI I how n 10 2 = how ∧ c_cI I how n 10 6 = ab_ii 0 ∧ ∀ a j, a ≠ 10 → c_cI I how n a j = I a j := by
  unfold c_cI
  refine ⟨?_, ?_, ?_, fun a j h => ?_⟩
  · rw [wd_up_ne _ _ (by omega), wd_up_ne _ _ (by omega), wd_up_ne _ _ (by omega), wd_up_ne _ _ (by omega)]
  · rw [wd_up_ne _ _ (by omega), wd_up_ne _ _ (by omega), wd_up_ne _ _ (by omega), wd_up_self]
  · rw [wd_up_self]
  · rw [wd_up_ne _ _ (Or.inl h), wd_up_ne _ _ (Or.inl h), wd_up_ne _ _ (Or.inl h), wd_up_ne _ _ (Or.inl h)]
section
variable {d : Nat} {I : wd_I} {P : wd_P} {M : wd_I} {g : Nat → ab_C} {k z : Nat} {Q : ab_Q} {T : Nat → Prop}
theorem c_chn_pr {gv p a : Nat} {how n : Int32} {o : Option Nat} (hW : c_W T g k) (h125 : 125 ≤ k) (hp : p_wf g k p) (h0 : 0 ≤ (I 9 0).toInt ∧ (I 9 0).toInt ≤ 3000) (hhow : 0 ≤ how.toInt ∧ how.toInt ≤ 11) (hgv : how.toInt = 7 → T gv ∧ o = some gv) : c_pr T gv (c_cI I how n, g, k, z) ∧ c_qr (c_cP P p o) gv p (c_cI I how n, g, k, z) := by
  obtain ⟨e1, e2, e3, -⟩ := c_cI_e (I := I) (how := how) (n := n)
  refine ⟨⟨hW, h125, ?_, ?_⟩, hp, ?_, ?_, ?_⟩
  · dsimp only; rw [e1]; exact h0
  · dsimp only; rw [e2]; exact fun q => (hgv q).1
  · dsimp only; rw [e2]; exact hhow
  · dsimp only; rw [e2]; intro q; unfold c_cP; rw [wd_up_self]; exact (hgv q).2
  · unfold c_cP; rw [wd_up_ne _ _ (by omega), wd_up_self]
set_option maxHeartbeats 4000000 in
set_option maxRecDepth 100000 in
theorem y_change (hd : 92 ≤ d) (hW : c_W T g k) (h125 : 125 ≤ k) {a gv p : Nat} {how n : Int32} {o : Option Nat} (ha : T a) (hp : p_wf g k p) (h0 : 0 ≤ (I 9 0).toInt ∧ (I 9 0).toInt ≤ 3000) (hhow : 0 ≤ how.toInt ∧ how.toInt ≤ 11) (hgv : how.toInt = 7 → T gv ∧ o = some gv) (hro : c_ro 82 (I, g, k, z)) (hy : ((c_chw gv p 41 a 0 (c_cI I how n, g, k, z)).2.1 10 6).toInt = 0 → Q (some (wd_v (c_chw gv p 41 a 0 (c_cI I how n, g, k, z)).1)) (c_S (c_cP P p o) M (c_chw gv p 41 a 0 (c_cI I how n, g, k, z)).2)) (hn : ¬ ((c_chw gv p 41 a 0 (c_cI I how n, g, k, z)).2.1 10 6).toInt = 0 → Q (some (.inr (.inr none))) (c_S (c_cP P p o) M (c_chw gv p 41 a 0 (c_cI I how n, g, k, z)).2)) : ab_CT d 1 [wd_v 10, wd_v a, wd_v p, .inl how, .inl n, .inr (.inr o)] (wd I P M g, k, z) Q := by
  obtain ⟨h1, h2⟩ := c_chn_pr (I := I) (P := P) (z := z) (n := n) hW h125 hp h0 hhow hgv (a := a)
  obtain ⟨e1, e2, e3, -⟩ := c_cI_e (I := I) (how := how) (n := n)
  have hx := fun (Q : ab_Q) hq => y_chw (P := c_cP P p o) (M := M) (gv := gv) (p := p) 41 (d - 1) 0 (by omega) (by omega) T (c_cI I how n, g, k, z) a 0 Q h1 ha h2 (Nat.zero_le _) (fun _ => by unfold c_ro at *; dsimp only at *; rw [e1]; omega) hq
  generalize c_chw gv p 41 a 0 (c_cI I how n, g, k, z) = R at *
  have hw : ∀ o', o' = o → o = none ∨ ∃ v, o = some v := fun _ _ => by cases o with | none => exact Or.inl rfl | some v => exact Or.inr ⟨v, rfl⟩
  have eI : wd_up (wd_up (wd_up (wd_up I 10 2 how) 10 3 n) 10 5 (ab_ii 0)) 10 6 (ab_ii 0) = c_cI I how n := rfl
  have eP : wd_up (wd_up P 10 1 (some p)) 10 4 o = c_cP P p o := rfl
  refine wd_inC rfl (by omega) rfl ?_
  intro C9 X9 hC9 hX9
  repeat' ((conv => whnf); first
    | (refine hC9 3 _ _ _ (hx _ ?_))
    | (intro v9 hv9; (try simp (disch := omega) only [ab_tI, ab_c0, wd_ix12, wd_ix8, wd_ix10, wd_up_self, wd_up_eq, wd_up_ne, Int.toNat_natCast, Int.toNat_of_nonneg, not_true_eq_false, not_false_eq_true, Option.some.injEq] at hv9); subst hv9)
    | (apply i_get; (focus (exact rfl)); (focus (exact rfl)))
    | (refine hX9 _ _ _ _ (wd_rnC rfl ?_); clear hC9 hX9 X9 C9; intro C9 X9 hC9 hX9)
    | (refine i_brF (by decide) ?_)
    | (refine i_brT (by decide) ?_)
    | (refine ⟨fun hc => ?_, fun hc => ?_⟩ <;> (try simp (disch := omega) only [ab_tI, ab_c0, wd_ix12, wd_ix8, wd_ix10, wd_up_self, wd_up_eq, wd_up_ne, Int.toNat_natCast, Int.toNat_of_nonneg, not_true_eq_false, not_false_eq_true, Option.some.injEq] at hc) <;> first | (exfalso; omega) | skip)
    | (apply i_cv; (focus (exact rfl)))
    | (apply i_len; (focus (exact rfl)))
    | (apply w_putI; (focus (exact rfl)); (focus (exact rfl)); (focus (exact rfl)); (focus (first | exact trivial | exact Or.inl rfl | exact Or.inr rfl)); (focus (exact rfl)))
    | (apply w_putP; (focus (exact rfl)); (focus (exact rfl)); (focus (exact rfl)); (focus (exact trivial)); (focus (exact rfl)))
    | (apply i_ialN; (focus (exact rfl)); (focus (first | exact Or.inl rfl | exact Or.inr rfl)); (focus (exact (by first | exact ⟨by decide, by decide⟩ | ((try simp (disch := omega) only [ab_tI, ab_c0, wd_ix12, wd_ix8, wd_ix10, wd_up_self, wd_up_eq, wd_up_ne, Int.toNat_natCast, Int.toNat_of_nonneg, not_true_eq_false, not_false_eq_true, Option.some.injEq, ab_c0]); omega)))); (intro v9 hv9; (try simp (disch := omega) only [ab_tI, ab_c0, wd_ix12, wd_ix8, wd_ix10, wd_up_self, wd_up_eq, wd_up_ne, Int.toNat_natCast, Int.toNat_of_nonneg, not_true_eq_false, not_false_eq_true, Option.some.injEq] at hv9); subst hv9))
    | (apply i_aalN; (focus (exact rfl)); (focus (exact (by first | exact ⟨by decide, by decide⟩ | ((try simp (disch := omega) only [ab_tI, ab_c0, wd_ix12, wd_ix8, wd_ix10, wd_up_self, wd_up_eq, wd_up_ne, Int.toNat_natCast, Int.toNat_of_nonneg, not_true_eq_false, not_false_eq_true, Option.some.injEq, ab_c0]); omega)))); (intro v9 hv9; (try simp (disch := omega) only [ab_tI, ab_c0, wd_ix12, wd_ix8, wd_ix10, wd_up_self, wd_up_eq, wd_up_ne, Int.toNat_natCast, Int.toNat_of_nonneg, not_true_eq_false, not_false_eq_true, Option.some.injEq] at hv9); subst hv9))
    | (apply w_iasI; (focus (exact rfl)); (focus (exact rfl)); (focus (exact (by first | exact ⟨by decide, by decide⟩ | ((try simp (disch := omega) only [ab_tI, ab_c0, wd_ix12, wd_ix8, wd_ix10, wd_up_self, wd_up_eq, wd_up_ne, Int.toNat_natCast, Int.toNat_of_nonneg, not_true_eq_false, not_false_eq_true, Option.some.injEq, ab_c0]); omega)))); (focus (intro _; exact rfl)); (intro v9 hv9; (try simp (disch := omega) only [ab_tI, ab_c0, wd_ix12, wd_ix8, wd_ix10, wd_up_self, wd_up_eq, wd_up_ne, Int.toNat_natCast, Int.toNat_of_nonneg, not_true_eq_false, not_false_eq_true, Option.some.injEq] at hv9); subst hv9))
    | (refine And.intro trivial ?_)
    | (refine And.intro (Or.inl rfl) ?_)
    | (refine And.intro (Or.inr rfl) ?_)
    | (refine And.intro (by ((try simp (disch := omega) only [ab_tI, ab_c0, wd_ix12, wd_ix8, wd_ix10, wd_up_self, wd_up_eq, wd_up_ne, Int.toNat_natCast, Int.toNat_of_nonneg, not_true_eq_false, not_false_eq_true, Option.some.injEq]); omega)) ?_)
    | fail)
  all_goals first | exact hy (by omega) | exact hn (by omega) | (exfalso; omega)
set_option maxHeartbeats 4000000 in
set_option maxRecDepth 100000 in
theorem y_focusCount (hd : 1 ≤ d) (hQ : Q (some (.inl (I 10 5))) (wd I P M g, k, z)) : ab_CT d 2 [wd_v 10] (wd I P M g, k, z) Q := by
  refine wd_inC rfl (by omega) rfl ?_
  intro C9 X9 hC9 hX9
  repeat' ((conv => whnf); first
    | (intro v9 hv9; (try simp (disch := omega) only [ab_tI, ab_c0, wd_ix12, wd_ix8, wd_ix10, wd_up_self, wd_up_eq, wd_up_ne, Int.toNat_natCast, Int.toNat_of_nonneg, not_true_eq_false, not_false_eq_true, Option.some.injEq] at hv9); subst hv9)
    | (apply i_get; (focus (exact rfl)); (focus (exact rfl)))
    | (refine hX9 _ _ _ _ (wd_rnC rfl ?_); clear hC9 hX9 X9 C9; intro C9 X9 hC9 hX9)
    | (refine i_brF (by decide) ?_)
    | (refine i_brT (by decide) ?_)
    | (refine ⟨fun hc => ?_, fun hc => ?_⟩ <;> (try simp (disch := omega) only [ab_tI, ab_c0, wd_ix12, wd_ix8, wd_ix10, wd_up_self, wd_up_eq, wd_up_ne, Int.toNat_natCast, Int.toNat_of_nonneg, not_true_eq_false, not_false_eq_true, Option.some.injEq] at hc) <;> first | (exfalso; omega) | skip)
    | (apply i_cv; (focus (exact rfl)))
    | (apply i_len; (focus (exact rfl)))
    | (apply w_putI; (focus (exact rfl)); (focus (exact rfl)); (focus (exact rfl)); (focus (first | exact trivial | exact Or.inl rfl | exact Or.inr rfl)); (focus (exact rfl)))
    | (apply w_putP; (focus (exact rfl)); (focus (exact rfl)); (focus (exact rfl)); (focus (exact trivial)); (focus (exact rfl)))
    | (apply i_ialN; (focus (exact rfl)); (focus (first | exact Or.inl rfl | exact Or.inr rfl)); (focus (exact (by first | exact ⟨by decide, by decide⟩ | ((try simp (disch := omega) only [ab_tI, ab_c0, wd_ix12, wd_ix8, wd_ix10, wd_up_self, wd_up_eq, wd_up_ne, Int.toNat_natCast, Int.toNat_of_nonneg, not_true_eq_false, not_false_eq_true, Option.some.injEq, ab_c0]); omega)))); (intro v9 hv9; (try simp (disch := omega) only [ab_tI, ab_c0, wd_ix12, wd_ix8, wd_ix10, wd_up_self, wd_up_eq, wd_up_ne, Int.toNat_natCast, Int.toNat_of_nonneg, not_true_eq_false, not_false_eq_true, Option.some.injEq] at hv9); subst hv9))
    | (apply i_aalN; (focus (exact rfl)); (focus (exact (by first | exact ⟨by decide, by decide⟩ | ((try simp (disch := omega) only [ab_tI, ab_c0, wd_ix12, wd_ix8, wd_ix10, wd_up_self, wd_up_eq, wd_up_ne, Int.toNat_natCast, Int.toNat_of_nonneg, not_true_eq_false, not_false_eq_true, Option.some.injEq, ab_c0]); omega)))); (intro v9 hv9; (try simp (disch := omega) only [ab_tI, ab_c0, wd_ix12, wd_ix8, wd_ix10, wd_up_self, wd_up_eq, wd_up_ne, Int.toNat_natCast, Int.toNat_of_nonneg, not_true_eq_false, not_false_eq_true, Option.some.injEq] at hv9); subst hv9))
    | (apply w_iasI; (focus (exact rfl)); (focus (exact rfl)); (focus (exact (by first | exact ⟨by decide, by decide⟩ | ((try simp (disch := omega) only [ab_tI, ab_c0, wd_ix12, wd_ix8, wd_ix10, wd_up_self, wd_up_eq, wd_up_ne, Int.toNat_natCast, Int.toNat_of_nonneg, not_true_eq_false, not_false_eq_true, Option.some.injEq, ab_c0]); omega)))); (focus (intro _; exact rfl)); (intro v9 hv9; (try simp (disch := omega) only [ab_tI, ab_c0, wd_ix12, wd_ix8, wd_ix10, wd_up_self, wd_up_eq, wd_up_ne, Int.toNat_natCast, Int.toNat_of_nonneg, not_true_eq_false, not_false_eq_true, Option.some.injEq] at hv9); subst hv9))
    | (refine And.intro trivial ?_)
    | (refine And.intro (Or.inl rfl) ?_)
    | (refine And.intro (Or.inr rfl) ?_)
    | (refine And.intro (by ((try simp (disch := omega) only [ab_tI, ab_c0, wd_ix12, wd_ix8, wd_ix10, wd_up_self, wd_up_eq, wd_up_ne, Int.toNat_natCast, Int.toNat_of_nonneg, not_true_eq_false, not_false_eq_true, Option.some.injEq]); omega)) ?_)
    | fail)
  all_goals first | exact hQ | (exfalso; omega)
end
