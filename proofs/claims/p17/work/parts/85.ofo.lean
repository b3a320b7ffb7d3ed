section
/-! ===== the class: what a focus becomes (own text) ===== -/
abbrev c_St : Type := wd_I × (Nat → ab_C) × Nat × Nat
def c_arr (S : c_St) (f : Nat → Option Nat) (n : Nat) : c_St := (S.1, ab_up S.2.1 S.2.2.1 (ab_ra 4 n f), S.2.2.1 + 1, S.2.2.2 + n)
def c_mkA (a q np : Nat) (fq : Nat → Option Nat) (S : c_St) : Nat × c_St := if (S.1 10 6).toInt = 0 then (if (S.1 9 0).toInt < 3000 then (S.2.2.1, (c_I1 S.1, c_mka S.2.1 S.2.2.1 a q np fq, S.2.2.1 + 1, S.2.2.2 + 6)) else (a, (c_I0 S.1, S.2))) else (a, S)
def c_mkN (kd wo : Int32) (q np : Nat) (fq : Nat → Option Nat) (r : Nat) (S : c_St) : Nat × c_St := if (S.1 10 6).toInt = 0 then (if (S.1 9 0).toInt < 3000 then (S.2.2.1, (c_I1 S.1, c_mkg S.2.1 S.2.2.1 kd wo q np fq, S.2.2.1 + 2, S.2.2.2 + 6)) else (r, (c_I0 S.1, S.2))) else (r, S)
def c_ordr (S : c_St) (a : Nat) : Nat × c_St :=
  if ((S.1 10 2).toInt = 8 ∧ (c_i S.2.1 a 0).toInt = 1) ∨ ((S.1 10 2).toInt = 9 ∧ (c_i S.2.1 a 0).toInt = 2) then c_mkA a S.2.2.1 (c_sz S.2.1 a) (c_row (c_rev S.2.1 a (c_sz S.2.1 a)) (c_sz S.2.1 a)) (c_arr S (c_row (c_rev S.2.1 a (c_sz S.2.1 a)) (c_sz S.2.1 a)) (c_sz S.2.1 a))
  else if (S.1 10 2).toInt = 10 ∧ (c_i S.2.1 a 0).toInt = 2 then c_mkA a S.2.2.1 (c_sz S.2.1 a) (c_sor S.2.1 a) (c_arr S (c_sor S.2.1 a) (c_sz S.2.1 a))
  else if (S.1 10 2).toInt = 11 ∧ (c_i S.2.1 a 0).toInt = 3 then c_mkA a S.2.2.1 (c_sz S.2.1 a) (c_row (c_trn S.2.1 a (c_sz S.2.1 a)) (c_sz S.2.1 a)) (c_arr S (c_row (c_trn S.2.1 a (c_sz S.2.1 a)) (c_sz S.2.1 a)) (c_sz S.2.1 a))
  else (a, S)
def c_S (P : wd_P) (M : wd_I) (S : c_St) : ab_H := (wd S.1 P M S.2.1, S.2.2.1, S.2.2.2)
section
variable {d : Nat} {I : wd_I} {P : wd_P} {M : wd_I} {g : Nat → ab_C} {k kw z : Nat} {Q : ab_Q} {T : Nat → Prop}
theorem c_sor_T (hW : c_W T g kw) {a : Nat} (ha : T a) : c_rT T (c_sz g a) (c_sor g a) := by
  unfold c_sor
  by_cases h : c_sz g a = 0
  · intro j hj; omega
  · exact c_ss_T (c_row_T hW ha) _ (by omega)
theorem c_rev_T (hW : c_W T g kw) {a : Nat} (ha : T a) : c_rT T (c_sz g a) (c_row (c_rev g a (c_sz g a)) (c_sz g a)) := fun j hj => ⟨c_pt g a (c_sz g a - 1 - j), if_pos hj, c_W_pt hW ha (by omega)⟩
theorem c_trn_T (hW : c_W T g kw) {a : Nat} (ha : T a) : c_rT T (c_sz g a) (c_row (c_trn g a (c_sz g a)) (c_sz g a)) := fun j hj => ⟨_, if_pos hj, c_W_pt hW ha (by split <;> omega)⟩
theorem y_mkA (hd : 4 ≤ d) (hW : c_W T g kw) (hkw : kw ≤ k) (h125 : 125 ≤ kw) {a np : Nat} {fp : Nat → Option Nat} (ha : T a) (hnp : np ≤ 13) (hf : c_rT T np fp) (h0 : 0 ≤ (I 9 0).toInt ∧ (I 9 0).toInt ≤ 3000) (hr : k + 2 ≤ 600000 ∧ z + np + 6 ≤ 7302250) (hQ : Q (some (wd_v (c_mkA a k np fp (c_arr (I, g, k, z) fp np)).1)) (c_S P M (c_mkA a k np fp (c_arr (I, g, k, z) fp np)).2)) : ab_CT d 8 [wd_v 10, wd_v a, wd_v k] (wd I P M (ab_up g k (ab_ra 4 np fp)), k + 1, z + np) Q := by
  unfold c_mkA c_arr at hQ
  dsimp only at hQ
  refine y_makeA hd (c_W_up (x := k) (c := ab_ra 4 np fp) hW hkw (Nat.le_refl _)) (by omega) h125 ha ⟨wd_mut_new (by omega), ab_up_self _ _ _⟩ (by omega) hnp hf h0 ⟨by omega, by omega⟩ (fun h1 h2 => ?_) (fun h1 h2 => ?_) (fun h1 => ?_)
  · rw [if_pos h1, if_pos h2] at hQ; exact hQ
  · rw [if_pos h1, if_neg (by omega)] at hQ; exact hQ
  · rw [if_neg h1] at hQ; exact hQ
set_option maxHeartbeats 4000000 in
set_option maxRecDepth 100000 in
theorem y_order (hd : 47 ≤ d) (hW : c_W T g kw) (hkw : kw ≤ k) (h125 : 125 ≤ kw) {a : Nat} (ha : T a) (h0 : 0 ≤ (I 9 0).toInt ∧ (I 9 0).toInt ≤ 3000) (hr : k + 2 ≤ 600000 ∧ z + 20 ≤ 7302250) (hQ : Q (some (wd_v (c_ordr (I, g, k, z) a).1)) (c_S P M (c_ordr (I, g, k, z) a).2)) : ab_CT d 5 [wd_v 10, wd_v a] (wd I P M g, k, z) Q := by
  have hs := c_W_sz hW ha
  have hWk := c_W_mono hW hkw
  have h1 := c_W_c (I := I) (P := P) (M := M) (z := z) hWk ha
  unfold c_ordr at hQ
  dsimp only at hQ
  by_cases c1 : ((I 10 2).toInt = 8 ∧ (c_i g a 0).toInt = 1) ∨ ((I 10 2).toInt = 9 ∧ (c_i g a 0).toInt = 2)
  · rw [if_pos c1] at hQ
    have hx := y_mkA (d := d - 1) (by omega) hW hkw h125 ha hs (c_rev_T hW ha) h0 ⟨hr.1, by omega⟩ hQ
    refine wd_inC rfl (by omega) rfl ?_
    intro C9 X9 hC9 hX9
    repeat' ((conv => whnf); first
    | (apply i_getN; (focus (first | exact h1)); (focus (exact rfl)); (intro v9 hv9; (try simp (disch := omega) only [ab_tI, ab_c0, wd_ix12, wd_ix8, wd_ix10, wd_up_self, wd_up_eq, wd_up_ne, Int.toNat_natCast, Int.toNat_of_nonneg, not_true_eq_false, not_false_eq_true, Option.some.injEq] at hv9); subst hv9))
    | (apply i_cv; (focus (first | exact h1)))
    | (apply i_len; (focus (first | exact congrArg ab_len (h1))))
    | (apply i_ialN; (focus (first | exact h1)); (focus (first | exact Or.inl rfl | exact Or.inr rfl)); (focus (exact (by first | exact ⟨by decide, by decide⟩ | ((try simp (disch := omega) only [ab_tI, ab_c0, wd_ix12, wd_ix8, wd_ix10, wd_up_self, wd_up_eq, wd_up_ne, Int.toNat_natCast, Int.toNat_of_nonneg, not_true_eq_false, not_false_eq_true, Option.some.injEq, wd_l103, wd_l104, wd_l105, wd_l106, wd_l107, wd_l108, wd_l109, wd_l110, wd_l111, wd_l112, wd_l113, wd_l114, wd_l115, wd_l116, wd_l117, wd_l118, wd_l119, wd_l120, wd_l121, wd_l122, wd_l123, wd_l124]); omega)))); (intro v9 hv9; (try simp (disch := omega) only [ab_tI, ab_c0, wd_ix12, wd_ix8, wd_ix10, wd_up_self, wd_up_eq, wd_up_ne, Int.toNat_natCast, Int.toNat_of_nonneg, not_true_eq_false, not_false_eq_true, Option.some.injEq] at hv9); subst hv9))
    | (apply i_aalN; (focus (first | exact h1)); (focus (exact (by first | exact ⟨by decide, by decide⟩ | ((try simp (disch := omega) only [ab_tI, ab_c0, wd_ix12, wd_ix8, wd_ix10, wd_up_self, wd_up_eq, wd_up_ne, Int.toNat_natCast, Int.toNat_of_nonneg, not_true_eq_false, not_false_eq_true, Option.some.injEq, wd_l103, wd_l104, wd_l105, wd_l106, wd_l107, wd_l108, wd_l109, wd_l110, wd_l111, wd_l112, wd_l113, wd_l114, wd_l115, wd_l116, wd_l117, wd_l118, wd_l119, wd_l120, wd_l121, wd_l122, wd_l123, wd_l124]); omega)))); (intro v9 hv9; (try simp (disch := omega) only [ab_tI, ab_c0, wd_ix12, wd_ix8, wd_ix10, wd_up_self, wd_up_eq, wd_up_ne, Int.toNat_natCast, Int.toNat_of_nonneg, not_true_eq_false, not_false_eq_true, Option.some.injEq] at hv9); subst hv9))
    | (refine hC9 11 _ _ _ (y_rev (by omega) hW hkw h125 ha ⟨by omega, by omega⟩ ?_))
    | (exact hC9 8 _ _ _ (y_mkA (by omega) hW hkw h125 ha hs (c_rev_T hW ha) h0 ⟨hr.1, by omega⟩ hQ))
    | (intro v9 hv9; (try simp (disch := omega) only [ab_tI, ab_c0, wd_ix12, wd_ix8, wd_ix10, wd_up_self, wd_up_eq, wd_up_ne, Int.toNat_natCast, Int.toNat_of_nonneg, not_true_eq_false, not_false_eq_true, Option.some.injEq] at hv9); subst hv9)
    | (apply i_get; (focus (exact rfl)); (focus (exact rfl)))
    | (refine hX9 _ _ _ _ (wd_rnC rfl ?_); clear hC9 hX9 X9 C9; intro C9 X9 hC9 hX9)
    | (apply w_ialM; (focus (exact rfl)); (focus (exact (by first | exact ⟨by decide, by decide⟩ | ((try simp (disch := omega) only [ab_tI, ab_c0, wd_ix12, wd_ix8, wd_ix10, wd_up_self, wd_up_eq, wd_up_ne, Int.toNat_natCast, Int.toNat_of_nonneg, not_true_eq_false, not_false_eq_true, Option.some.injEq, wd_l103, wd_l104, wd_l105, wd_l106, wd_l107, wd_l108, wd_l109, wd_l110, wd_l111, wd_l112, wd_l113, wd_l114, wd_l115, wd_l116, wd_l117, wd_l118, wd_l119, wd_l120, wd_l121, wd_l122, wd_l123, wd_l124]); omega)))); (intro v9 hv9; (try simp (disch := omega) only [ab_tI, ab_c0, wd_ix12, wd_ix8, wd_ix10, wd_up_self, wd_up_eq, wd_up_ne, Int.toNat_natCast, Int.toNat_of_nonneg, not_true_eq_false, not_false_eq_true, Option.some.injEq] at hv9); subst hv9))
    | (apply w_putM; (focus (exact rfl)); (focus (first | exact trivial | exact Or.inl rfl | exact Or.inr rfl)); (focus (exact rfl)))
    | (apply w_iasM; (focus (exact rfl)); (focus (exact (by first | exact ⟨by decide, by decide⟩ | ((try simp (disch := omega) only [ab_tI, ab_c0, wd_ix12, wd_ix8, wd_ix10, wd_up_self, wd_up_eq, wd_up_ne, Int.toNat_natCast, Int.toNat_of_nonneg, not_true_eq_false, not_false_eq_true, Option.some.injEq, wd_l103, wd_l104, wd_l105, wd_l106, wd_l107, wd_l108, wd_l109, wd_l110, wd_l111, wd_l112, wd_l113, wd_l114, wd_l115, wd_l116, wd_l117, wd_l118, wd_l119, wd_l120, wd_l121, wd_l122, wd_l123, wd_l124]); omega)))); (intro v9 hv9; (try simp (disch := omega) only [ab_tI, ab_c0, wd_ix12, wd_ix8, wd_ix10, wd_up_self, wd_up_eq, wd_up_ne, Int.toNat_natCast, Int.toNat_of_nonneg, not_true_eq_false, not_false_eq_true, Option.some.injEq] at hv9); subst hv9))
    | (refine i_brF (by decide) ?_)
    | (refine i_brT (by decide) ?_)
    | (refine ⟨fun hc => ?_, fun hc => ?_⟩ <;> (try simp (disch := omega) only [ab_tI, ab_c0, wd_ix12, wd_ix8, wd_ix10, wd_up_self, wd_up_eq, wd_up_ne, Int.toNat_natCast, Int.toNat_of_nonneg, not_true_eq_false, not_false_eq_true, Option.some.injEq] at hc) <;> first | (exfalso; omega) | skip)
    | (apply i_cv; (focus (exact rfl)))
    | (apply i_len; (focus (exact rfl)))
    | (apply w_putI; (focus (exact rfl)); (focus (exact rfl)); (focus (exact rfl)); (focus (first | exact trivial | exact Or.inl rfl | exact Or.inr rfl)); (focus (exact rfl)))
    | (apply w_putP; (focus (exact rfl)); (focus (exact rfl)); (focus (exact rfl)); (focus (exact trivial)); (focus (exact rfl)))
    | (apply i_ialN; (focus (exact rfl)); (focus (first | exact Or.inl rfl | exact Or.inr rfl)); (focus (exact (by first | exact ⟨by decide, by decide⟩ | ((try simp (disch := omega) only [ab_tI, ab_c0, wd_ix12, wd_ix8, wd_ix10, wd_up_self, wd_up_eq, wd_up_ne, Int.toNat_natCast, Int.toNat_of_nonneg, not_true_eq_false, not_false_eq_true, Option.some.injEq, wd_l103, wd_l104, wd_l105, wd_l106, wd_l107, wd_l108, wd_l109, wd_l110, wd_l111, wd_l112, wd_l113, wd_l114, wd_l115, wd_l116, wd_l117, wd_l118, wd_l119, wd_l120, wd_l121, wd_l122, wd_l123, wd_l124]); omega)))); (intro v9 hv9; (try simp (disch := omega) only [ab_tI, ab_c0, wd_ix12, wd_ix8, wd_ix10, wd_up_self, wd_up_eq, wd_up_ne, Int.toNat_natCast, Int.toNat_of_nonneg, not_true_eq_false, not_false_eq_true, Option.some.injEq] at hv9); subst hv9))
    | (apply i_aalN; (focus (exact rfl)); (focus (exact (by first | exact ⟨by decide, by decide⟩ | ((try simp (disch := omega) only [ab_tI, ab_c0, wd_ix12, wd_ix8, wd_ix10, wd_up_self, wd_up_eq, wd_up_ne, Int.toNat_natCast, Int.toNat_of_nonneg, not_true_eq_false, not_false_eq_true, Option.some.injEq, wd_l103, wd_l104, wd_l105, wd_l106, wd_l107, wd_l108, wd_l109, wd_l110, wd_l111, wd_l112, wd_l113, wd_l114, wd_l115, wd_l116, wd_l117, wd_l118, wd_l119, wd_l120, wd_l121, wd_l122, wd_l123, wd_l124]); omega)))); (intro v9 hv9; (try simp (disch := omega) only [ab_tI, ab_c0, wd_ix12, wd_ix8, wd_ix10, wd_up_self, wd_up_eq, wd_up_ne, Int.toNat_natCast, Int.toNat_of_nonneg, not_true_eq_false, not_false_eq_true, Option.some.injEq] at hv9); subst hv9))
    | (apply w_iasI; (focus (exact rfl)); (focus (exact rfl)); (focus (exact (by first | exact ⟨by decide, by decide⟩ | ((try simp (disch := omega) only [ab_tI, ab_c0, wd_ix12, wd_ix8, wd_ix10, wd_up_self, wd_up_eq, wd_up_ne, Int.toNat_natCast, Int.toNat_of_nonneg, not_true_eq_false, not_false_eq_true, Option.some.injEq, wd_l103, wd_l104, wd_l105, wd_l106, wd_l107, wd_l108, wd_l109, wd_l110, wd_l111, wd_l112, wd_l113, wd_l114, wd_l115, wd_l116, wd_l117, wd_l118, wd_l119, wd_l120, wd_l121, wd_l122, wd_l123, wd_l124]); omega)))); (focus (intro _; exact rfl)); (intro v9 hv9; (try simp (disch := omega) only [ab_tI, ab_c0, wd_ix12, wd_ix8, wd_ix10, wd_up_self, wd_up_eq, wd_up_ne, Int.toNat_natCast, Int.toNat_of_nonneg, not_true_eq_false, not_false_eq_true, Option.some.injEq] at hv9); subst hv9))
    | (apply w_balM; (focus (exact (by first | exact ⟨by decide, by decide⟩ | ((try simp (disch := omega) only [ab_tI, ab_c0, wd_ix12, wd_ix8, wd_ix10, wd_up_self, wd_up_eq, wd_up_ne, Int.toNat_natCast, Int.toNat_of_nonneg, not_true_eq_false, not_false_eq_true, Option.some.injEq, wd_l103, wd_l104, wd_l105, wd_l106, wd_l107, wd_l108, wd_l109, wd_l110, wd_l111, wd_l112, wd_l113, wd_l114, wd_l115, wd_l116, wd_l117, wd_l118, wd_l119, wd_l120, wd_l121, wd_l122, wd_l123, wd_l124]); omega)))); (intro v9 hv9; (try simp (disch := omega) only [ab_tI, ab_c0, wd_ix12, wd_ix8, wd_ix10, wd_up_self, wd_up_eq, wd_up_ne, Int.toNat_natCast, Int.toNat_of_nonneg, not_true_eq_false, not_false_eq_true, Option.some.injEq] at hv9); subst hv9))
    | (apply w_basM; (focus (exact (by first | exact ⟨by decide, by decide⟩ | ((try simp (disch := omega) only [ab_tI, ab_c0, wd_ix12, wd_ix8, wd_ix10, wd_up_self, wd_up_eq, wd_up_ne, Int.toNat_natCast, Int.toNat_of_nonneg, not_true_eq_false, not_false_eq_true, Option.some.injEq, wd_l103, wd_l104, wd_l105, wd_l106, wd_l107, wd_l108, wd_l109, wd_l110, wd_l111, wd_l112, wd_l113, wd_l114, wd_l115, wd_l116, wd_l117, wd_l118, wd_l119, wd_l120, wd_l121, wd_l122, wd_l123, wd_l124]); omega)))); (focus (first | exact Or.inl rfl | exact Or.inr rfl)); (intro v9 hv9; (try simp (disch := omega) only [ab_tI, ab_c0, wd_ix12, wd_ix8, wd_ix10, wd_up_self, wd_up_eq, wd_up_ne, Int.toNat_natCast, Int.toNat_of_nonneg, not_true_eq_false, not_false_eq_true, Option.some.injEq] at hv9); subst hv9))
    | (refine And.intro trivial ?_)
    | (refine And.intro (Or.inl rfl) ?_)
    | (refine And.intro (Or.inr rfl) ?_)
    | (refine And.intro (by ((try simp (disch := omega) only [ab_tI, ab_c0, wd_ix12, wd_ix8, wd_ix10, wd_up_self, wd_up_eq, wd_up_ne, Int.toNat_natCast, Int.toNat_of_nonneg, not_true_eq_false, not_false_eq_true, Option.some.injEq]); omega)) ?_)
    | fail)
    all_goals first | exact hQ | (exfalso; omega)
  rw [if_neg c1] at hQ
  by_cases c2 : (I 10 2).toInt = 10 ∧ (c_i g a 0).toInt = 2
  · rw [if_pos c2] at hQ
    refine wd_inC rfl (by omega) rfl ?_
    intro C9 X9 hC9 hX9
    repeat' ((conv => whnf); first
    | (apply i_getN; (focus (first | exact h1)); (focus (exact rfl)); (intro v9 hv9; (try simp (disch := omega) only [ab_tI, ab_c0, wd_ix12, wd_ix8, wd_ix10, wd_up_self, wd_up_eq, wd_up_ne, Int.toNat_natCast, Int.toNat_of_nonneg, not_true_eq_false, not_false_eq_true, Option.some.injEq] at hv9); subst hv9))
    | (apply i_cv; (focus (first | exact h1)))
    | (apply i_len; (focus (first | exact congrArg ab_len (h1))))
    | (apply i_ialN; (focus (first | exact h1)); (focus (first | exact Or.inl rfl | exact Or.inr rfl)); (focus (exact (by first | exact ⟨by decide, by decide⟩ | ((try simp (disch := omega) only [ab_tI, ab_c0, wd_ix12, wd_ix8, wd_ix10, wd_up_self, wd_up_eq, wd_up_ne, Int.toNat_natCast, Int.toNat_of_nonneg, not_true_eq_false, not_false_eq_true, Option.some.injEq, wd_l103, wd_l104, wd_l105, wd_l106, wd_l107, wd_l108, wd_l109, wd_l110, wd_l111, wd_l112, wd_l113, wd_l114, wd_l115, wd_l116, wd_l117, wd_l118, wd_l119, wd_l120, wd_l121, wd_l122, wd_l123, wd_l124]); omega)))); (intro v9 hv9; (try simp (disch := omega) only [ab_tI, ab_c0, wd_ix12, wd_ix8, wd_ix10, wd_up_self, wd_up_eq, wd_up_ne, Int.toNat_natCast, Int.toNat_of_nonneg, not_true_eq_false, not_false_eq_true, Option.some.injEq] at hv9); subst hv9))
    | (apply i_aalN; (focus (first | exact h1)); (focus (exact (by first | exact ⟨by decide, by decide⟩ | ((try simp (disch := omega) only [ab_tI, ab_c0, wd_ix12, wd_ix8, wd_ix10, wd_up_self, wd_up_eq, wd_up_ne, Int.toNat_natCast, Int.toNat_of_nonneg, not_true_eq_false, not_false_eq_true, Option.some.injEq, wd_l103, wd_l104, wd_l105, wd_l106, wd_l107, wd_l108, wd_l109, wd_l110, wd_l111, wd_l112, wd_l113, wd_l114, wd_l115, wd_l116, wd_l117, wd_l118, wd_l119, wd_l120, wd_l121, wd_l122, wd_l123, wd_l124]); omega)))); (intro v9 hv9; (try simp (disch := omega) only [ab_tI, ab_c0, wd_ix12, wd_ix8, wd_ix10, wd_up_self, wd_up_eq, wd_up_ne, Int.toNat_natCast, Int.toNat_of_nonneg, not_true_eq_false, not_false_eq_true, Option.some.injEq] at hv9); subst hv9))
    | (refine hC9 13 _ _ _ (y_srt (by omega) hW hkw h125 ha ⟨by omega, by omega⟩ ?_))
    | (exact hC9 8 _ _ _ (y_mkA (by omega) hW hkw h125 ha hs (c_sor_T hW ha) h0 ⟨hr.1, by omega⟩ hQ))
    | (intro v9 hv9; (try simp (disch := omega) only [ab_tI, ab_c0, wd_ix12, wd_ix8, wd_ix10, wd_up_self, wd_up_eq, wd_up_ne, Int.toNat_natCast, Int.toNat_of_nonneg, not_true_eq_false, not_false_eq_true, Option.some.injEq] at hv9); subst hv9)
    | (apply i_get; (focus (exact rfl)); (focus (exact rfl)))
    | (refine hX9 _ _ _ _ (wd_rnC rfl ?_); clear hC9 hX9 X9 C9; intro C9 X9 hC9 hX9)
    | (apply w_ialM; (focus (exact rfl)); (focus (exact (by first | exact ⟨by decide, by decide⟩ | ((try simp (disch := omega) only [ab_tI, ab_c0, wd_ix12, wd_ix8, wd_ix10, wd_up_self, wd_up_eq, wd_up_ne, Int.toNat_natCast, Int.toNat_of_nonneg, not_true_eq_false, not_false_eq_true, Option.some.injEq, wd_l103, wd_l104, wd_l105, wd_l106, wd_l107, wd_l108, wd_l109, wd_l110, wd_l111, wd_l112, wd_l113, wd_l114, wd_l115, wd_l116, wd_l117, wd_l118, wd_l119, wd_l120, wd_l121, wd_l122, wd_l123, wd_l124]); omega)))); (intro v9 hv9; (try simp (disch := omega) only [ab_tI, ab_c0, wd_ix12, wd_ix8, wd_ix10, wd_up_self, wd_up_eq, wd_up_ne, Int.toNat_natCast, Int.toNat_of_nonneg, not_true_eq_false, not_false_eq_true, Option.some.injEq] at hv9); subst hv9))
    | (apply w_putM; (focus (exact rfl)); (focus (first | exact trivial | exact Or.inl rfl | exact Or.inr rfl)); (focus (exact rfl)))
    | (apply w_iasM; (focus (exact rfl)); (focus (exact (by first | exact ⟨by decide, by decide⟩ | ((try simp (disch := omega) only [ab_tI, ab_c0, wd_ix12, wd_ix8, wd_ix10, wd_up_self, wd_up_eq, wd_up_ne, Int.toNat_natCast, Int.toNat_of_nonneg, not_true_eq_false, not_false_eq_true, Option.some.injEq, wd_l103, wd_l104, wd_l105, wd_l106, wd_l107, wd_l108, wd_l109, wd_l110, wd_l111, wd_l112, wd_l113, wd_l114, wd_l115, wd_l116, wd_l117, wd_l118, wd_l119, wd_l120, wd_l121, wd_l122, wd_l123, wd_l124]); omega)))); (intro v9 hv9; (try simp (disch := omega) only [ab_tI, ab_c0, wd_ix12, wd_ix8, wd_ix10, wd_up_self, wd_up_eq, wd_up_ne, Int.toNat_natCast, Int.toNat_of_nonneg, not_true_eq_false, not_false_eq_true, Option.some.injEq] at hv9); subst hv9))
    | (refine i_brF (by decide) ?_)
    | (refine i_brT (by decide) ?_)
    | (refine ⟨fun hc => ?_, fun hc => ?_⟩ <;> (try simp (disch := omega) only [ab_tI, ab_c0, wd_ix12, wd_ix8, wd_ix10, wd_up_self, wd_up_eq, wd_up_ne, Int.toNat_natCast, Int.toNat_of_nonneg, not_true_eq_false, not_false_eq_true, Option.some.injEq] at hc) <;> first | (exfalso; omega) | skip)
    | (apply i_cv; (focus (exact rfl)))
    | (apply i_len; (focus (exact rfl)))
    | (apply w_putI; (focus (exact rfl)); (focus (exact rfl)); (focus (exact rfl)); (focus (first | exact trivial | exact Or.inl rfl | exact Or.inr rfl)); (focus (exact rfl)))
    | (apply w_putP; (focus (exact rfl)); (focus (exact rfl)); (focus (exact rfl)); (focus (exact trivial)); (focus (exact rfl)))
    | (apply i_ialN; (focus (exact rfl)); (focus (first | exact Or.inl rfl | exact Or.inr rfl)); (focus (exact (by first | exact ⟨by decide, by decide⟩ | ((try simp (disch := omega) only [ab_tI, ab_c0, wd_ix12, wd_ix8, wd_ix10, wd_up_self, wd_up_eq, wd_up_ne, Int.toNat_natCast, Int.toNat_of_nonneg, not_true_eq_false, not_false_eq_true, Option.some.injEq, wd_l103, wd_l104, wd_l105, wd_l106, wd_l107, wd_l108, wd_l109, wd_l110, wd_l111, wd_l112, wd_l113, wd_l114, wd_l115, wd_l116, wd_l117, wd_l118, wd_l119, wd_l120, wd_l121, wd_l122, wd_l123, wd_l124]); omega)))); (intro v9 hv9; (try simp (disch := omega) only [ab_tI, ab_c0, wd_ix12, wd_ix8, wd_ix10, wd_up_self, wd_up_eq, wd_up_ne, Int.toNat_natCast, Int.toNat_of_nonneg, not_true_eq_false, not_false_eq_true, Option.some.injEq] at hv9); subst hv9))
    | (apply i_aalN; (focus (exact rfl)); (focus (exact (by first | exact ⟨by decide, by decide⟩ | ((try simp (disch := omega) only [ab_tI, ab_c0, wd_ix12, wd_ix8, wd_ix10, wd_up_self, wd_up_eq, wd_up_ne, Int.toNat_natCast, Int.toNat_of_nonneg, not_true_eq_false, not_false_eq_true, Option.some.injEq, wd_l103, wd_l104, wd_l105, wd_l106, wd_l107, wd_l108, wd_l109, wd_l110, wd_l111, wd_l112, wd_l113, wd_l114, wd_l115, wd_l116, wd_l117, wd_l118, wd_l119, wd_l120, wd_l121, wd_l122, wd_l123, wd_l124]); omega)))); (intro v9 hv9; (try simp (disch := omega) only [ab_tI, ab_c0, wd_ix12, wd_ix8, wd_ix10, wd_up_self, wd_up_eq, wd_up_ne, Int.toNat_natCast, Int.toNat_of_nonneg, not_true_eq_false, not_false_eq_true, Option.some.injEq] at hv9); subst hv9))
    | (apply w_iasI; (focus (exact rfl)); (focus (exact rfl)); (focus (exact (by first | exact ⟨by decide, by decide⟩ | ((try simp (disch := omega) only [ab_tI, ab_c0, wd_ix12, wd_ix8, wd_ix10, wd_up_self, wd_up_eq, wd_up_ne, Int.toNat_natCast, Int.toNat_of_nonneg, not_true_eq_false, not_false_eq_true, Option.some.injEq, wd_l103, wd_l104, wd_l105, wd_l106, wd_l107, wd_l108, wd_l109, wd_l110, wd_l111, wd_l112, wd_l113, wd_l114, wd_l115, wd_l116, wd_l117, wd_l118, wd_l119, wd_l120, wd_l121, wd_l122, wd_l123, wd_l124]); omega)))); (focus (intro _; exact rfl)); (intro v9 hv9; (try simp (disch := omega) only [ab_tI, ab_c0, wd_ix12, wd_ix8, wd_ix10, wd_up_self, wd_up_eq, wd_up_ne, Int.toNat_natCast, Int.toNat_of_nonneg, not_true_eq_false, not_false_eq_true, Option.some.injEq] at hv9); subst hv9))
    | (apply w_balM; (focus (exact (by first | exact ⟨by decide, by decide⟩ | ((try simp (disch := omega) only [ab_tI, ab_c0, wd_ix12, wd_ix8, wd_ix10, wd_up_self, wd_up_eq, wd_up_ne, Int.toNat_natCast, Int.toNat_of_nonneg, not_true_eq_false, not_false_eq_true, Option.some.injEq, wd_l103, wd_l104, wd_l105, wd_l106, wd_l107, wd_l108, wd_l109, wd_l110, wd_l111, wd_l112, wd_l113, wd_l114, wd_l115, wd_l116, wd_l117, wd_l118, wd_l119, wd_l120, wd_l121, wd_l122, wd_l123, wd_l124]); omega)))); (intro v9 hv9; (try simp (disch := omega) only [ab_tI, ab_c0, wd_ix12, wd_ix8, wd_ix10, wd_up_self, wd_up_eq, wd_up_ne, Int.toNat_natCast, Int.toNat_of_nonneg, not_true_eq_false, not_false_eq_true, Option.some.injEq] at hv9); subst hv9))
    | (apply w_basM; (focus (exact (by first | exact ⟨by decide, by decide⟩ | ((try simp (disch := omega) only [ab_tI, ab_c0, wd_ix12, wd_ix8, wd_ix10, wd_up_self, wd_up_eq, wd_up_ne, Int.toNat_natCast, Int.toNat_of_nonneg, not_true_eq_false, not_false_eq_true, Option.some.injEq, wd_l103, wd_l104, wd_l105, wd_l106, wd_l107, wd_l108, wd_l109, wd_l110, wd_l111, wd_l112, wd_l113, wd_l114, wd_l115, wd_l116, wd_l117, wd_l118, wd_l119, wd_l120, wd_l121, wd_l122, wd_l123, wd_l124]); omega)))); (focus (first | exact Or.inl rfl | exact Or.inr rfl)); (intro v9 hv9; (try simp (disch := omega) only [ab_tI, ab_c0, wd_ix12, wd_ix8, wd_ix10, wd_up_self, wd_up_eq, wd_up_ne, Int.toNat_natCast, Int.toNat_of_nonneg, not_true_eq_false, not_false_eq_true, Option.some.injEq] at hv9); subst hv9))
    | (refine And.intro trivial ?_)
    | (refine And.intro (Or.inl rfl) ?_)
    | (refine And.intro (Or.inr rfl) ?_)
    | (refine And.intro (by ((try simp (disch := omega) only [ab_tI, ab_c0, wd_ix12, wd_ix8, wd_ix10, wd_up_self, wd_up_eq, wd_up_ne, Int.toNat_natCast, Int.toNat_of_nonneg, not_true_eq_false, not_false_eq_true, Option.some.injEq]); omega)) ?_)
    | fail)
    all_goals first | exact hQ | (exfalso; omega)
  rw [if_neg c2] at hQ
  by_cases c3 : (I 10 2).toInt = 11 ∧ (c_i g a 0).toInt = 3
  · rw [if_pos c3] at hQ
    refine wd_inC rfl (by omega) rfl ?_
    intro C9 X9 hC9 hX9
    repeat' ((conv => whnf); first
    | (apply i_getN; (focus (first | exact h1)); (focus (exact rfl)); (intro v9 hv9; (try simp (disch := omega) only [ab_tI, ab_c0, wd_ix12, wd_ix8, wd_ix10, wd_up_self, wd_up_eq, wd_up_ne, Int.toNat_natCast, Int.toNat_of_nonneg, not_true_eq_false, not_false_eq_true, Option.some.injEq] at hv9); subst hv9))
    | (apply i_cv; (focus (first | exact h1)))
    | (apply i_len; (focus (first | exact congrArg ab_len (h1))))
    | (apply i_ialN; (focus (first | exact h1)); (focus (first | exact Or.inl rfl | exact Or.inr rfl)); (focus (exact (by first | exact ⟨by decide, by decide⟩ | ((try simp (disch := omega) only [ab_tI, ab_c0, wd_ix12, wd_ix8, wd_ix10, wd_up_self, wd_up_eq, wd_up_ne, Int.toNat_natCast, Int.toNat_of_nonneg, not_true_eq_false, not_false_eq_true, Option.some.injEq, wd_l103, wd_l104, wd_l105, wd_l106, wd_l107, wd_l108, wd_l109, wd_l110, wd_l111, wd_l112, wd_l113, wd_l114, wd_l115, wd_l116, wd_l117, wd_l118, wd_l119, wd_l120, wd_l121, wd_l122, wd_l123, wd_l124]); omega)))); (intro v9 hv9; (try simp (disch := omega) only [ab_tI, ab_c0, wd_ix12, wd_ix8, wd_ix10, wd_up_self, wd_up_eq, wd_up_ne, Int.toNat_natCast, Int.toNat_of_nonneg, not_true_eq_false, not_false_eq_true, Option.some.injEq] at hv9); subst hv9))
    | (apply i_aalN; (focus (first | exact h1)); (focus (exact (by first | exact ⟨by decide, by decide⟩ | ((try simp (disch := omega) only [ab_tI, ab_c0, wd_ix12, wd_ix8, wd_ix10, wd_up_self, wd_up_eq, wd_up_ne, Int.toNat_natCast, Int.toNat_of_nonneg, not_true_eq_false, not_false_eq_true, Option.some.injEq, wd_l103, wd_l104, wd_l105, wd_l106, wd_l107, wd_l108, wd_l109, wd_l110, wd_l111, wd_l112, wd_l113, wd_l114, wd_l115, wd_l116, wd_l117, wd_l118, wd_l119, wd_l120, wd_l121, wd_l122, wd_l123, wd_l124]); omega)))); (intro v9 hv9; (try simp (disch := omega) only [ab_tI, ab_c0, wd_ix12, wd_ix8, wd_ix10, wd_up_self, wd_up_eq, wd_up_ne, Int.toNat_natCast, Int.toNat_of_nonneg, not_true_eq_false, not_false_eq_true, Option.some.injEq] at hv9); subst hv9))
    | (refine hC9 12 _ _ _ (y_trn (by omega) hW hkw h125 ha ⟨by omega, by omega⟩ ?_))
    | (exact hC9 8 _ _ _ (y_mkA (by omega) hW hkw h125 ha hs (c_trn_T hW ha) h0 ⟨hr.1, by omega⟩ hQ))
    | (intro v9 hv9; (try simp (disch := omega) only [ab_tI, ab_c0, wd_ix12, wd_ix8, wd_ix10, wd_up_self, wd_up_eq, wd_up_ne, Int.toNat_natCast, Int.toNat_of_nonneg, not_true_eq_false, not_false_eq_true, Option.some.injEq] at hv9); subst hv9)
    | (apply i_get; (focus (exact rfl)); (focus (exact rfl)))
    | (refine hX9 _ _ _ _ (wd_rnC rfl ?_); clear hC9 hX9 X9 C9; intro C9 X9 hC9 hX9)
    | (apply w_ialM; (focus (exact rfl)); (focus (exact (by first | exact ⟨by decide, by decide⟩ | ((try simp (disch := omega) only [ab_tI, ab_c0, wd_ix12, wd_ix8, wd_ix10, wd_up_self, wd_up_eq, wd_up_ne, Int.toNat_natCast, Int.toNat_of_nonneg, not_true_eq_false, not_false_eq_true, Option.some.injEq, wd_l103, wd_l104, wd_l105, wd_l106, wd_l107, wd_l108, wd_l109, wd_l110, wd_l111, wd_l112, wd_l113, wd_l114, wd_l115, wd_l116, wd_l117, wd_l118, wd_l119, wd_l120, wd_l121, wd_l122, wd_l123, wd_l124]); omega)))); (intro v9 hv9; (try simp (disch := omega) only [ab_tI, ab_c0, wd_ix12, wd_ix8, wd_ix10, wd_up_self, wd_up_eq, wd_up_ne, Int.toNat_natCast, Int.toNat_of_nonneg, not_true_eq_false, not_false_eq_true, Option.some.injEq] at hv9); subst hv9))
    | (apply w_putM; (focus (exact rfl)); (focus (first | exact trivial | exact Or.inl rfl | exact Or.inr rfl)); (focus (exact rfl)))
    | (apply w_iasM; (focus (exact rfl)); (focus (exact (by first | exact ⟨by decide, by decide⟩ | ((try simp (disch := omega) only [ab_tI, ab_c0, wd_ix12, wd_ix8, wd_ix10, wd_up_self, wd_up_eq, wd_up_ne, Int.toNat_natCast, Int.toNat_of_nonneg, not_true_eq_false, not_false_eq_true, Option.some.injEq, wd_l103, wd_l104, wd_l105, wd_l106, wd_l107, wd_l108, wd_l109, wd_l110, wd_l111, wd_l112, wd_l113, wd_l114, wd_l115, wd_l116, wd_l117, wd_l118, wd_l119, wd_l120, wd_l121, wd_l122, wd_l123, wd_l124]); omega)))); (intro v9 hv9; (try simp (disch := omega) only [ab_tI, ab_c0, wd_ix12, wd_ix8, wd_ix10, wd_up_self, wd_up_eq, wd_up_ne, Int.toNat_natCast, Int.toNat_of_nonneg, not_true_eq_false, not_false_eq_true, Option.some.injEq] at hv9); subst hv9))
    | (refine i_brF (by decide) ?_)
    | (refine i_brT (by decide) ?_)
    | (refine ⟨fun hc => ?_, fun hc => ?_⟩ <;> (try simp (disch := omega) only [ab_tI, ab_c0, wd_ix12, wd_ix8, wd_ix10, wd_up_self, wd_up_eq, wd_up_ne, Int.toNat_natCast, Int.toNat_of_nonneg, not_true_eq_false, not_false_eq_true, Option.some.injEq] at hc) <;> first | (exfalso; omega) | skip)
    | (apply i_cv; (focus (exact rfl)))
    | (apply i_len; (focus (exact rfl)))
    | (apply w_putI; (focus (exact rfl)); (focus (exact rfl)); (focus (exact rfl)); (focus (first | exact trivial | exact Or.inl rfl | exact Or.inr rfl)); (focus (exact rfl)))
    | (apply w_putP; (focus (exact rfl)); (focus (exact rfl)); (focus (exact rfl)); (focus (exact trivial)); (focus (exact rfl)))
    | (apply i_ialN; (focus (exact rfl)); (focus (first | exact Or.inl rfl | exact Or.inr rfl)); (focus (exact (by first | exact ⟨by decide, by decide⟩ | ((try simp (disch := omega) only [ab_tI, ab_c0, wd_ix12, wd_ix8, wd_ix10, wd_up_self, wd_up_eq, wd_up_ne, Int.toNat_natCast, Int.toNat_of_nonneg, not_true_eq_false, not_false_eq_true, Option.some.injEq, wd_l103, wd_l104, wd_l105, wd_l106, wd_l107, wd_l108, wd_l109, wd_l110, wd_l111, wd_l112, wd_l113, wd_l114, wd_l115, wd_l116, wd_l117, wd_l118, wd_l119, wd_l120, wd_l121, wd_l122, wd_l123, wd_l124]); omega)))); (intro v9 hv9; (try simp (disch := omega) only [ab_tI, ab_c0, wd_ix12, wd_ix8, wd_ix10, wd_up_self, wd_up_eq, wd_up_ne, Int.toNat_natCast, Int.toNat_of_nonneg, not_true_eq_false, not_false_eq_true, Option.some.injEq] at hv9); subst hv9))
    | (apply i_aalN; (focus (exact rfl)); (focus (exact (by first | exact ⟨by decide, by decide⟩ | ((try simp (disch := omega) only [ab_tI, ab_c0, wd_ix12, wd_ix8, wd_ix10, wd_up_self, wd_up_eq, wd_up_ne, Int.toNat_natCast, Int.toNat_of_nonneg, not_true_eq_false, not_false_eq_true, Option.some.injEq, wd_l103, wd_l104, wd_l105, wd_l106, wd_l107, wd_l108, wd_l109, wd_l110, wd_l111, wd_l112, wd_l113, wd_l114, wd_l115, wd_l116, wd_l117, wd_l118, wd_l119, wd_l120, wd_l121, wd_l122, wd_l123, wd_l124]); omega)))); (intro v9 hv9; (try simp (disch := omega) only [ab_tI, ab_c0, wd_ix12, wd_ix8, wd_ix10, wd_up_self, wd_up_eq, wd_up_ne, Int.toNat_natCast, Int.toNat_of_nonneg, not_true_eq_false, not_false_eq_true, Option.some.injEq] at hv9); subst hv9))
    | (apply w_iasI; (focus (exact rfl)); (focus (exact rfl)); (focus (exact (by first | exact ⟨by decide, by decide⟩ | ((try simp (disch := omega) only [ab_tI, ab_c0, wd_ix12, wd_ix8, wd_ix10, wd_up_self, wd_up_eq, wd_up_ne, Int.toNat_natCast, Int.toNat_of_nonneg, not_true_eq_false, not_false_eq_true, Option.some.injEq, wd_l103, wd_l104, wd_l105, wd_l106, wd_l107, wd_l108, wd_l109, wd_l110, wd_l111, wd_l112, wd_l113, wd_l114, wd_l115, wd_l116, wd_l117, wd_l118, wd_l119, wd_l120, wd_l121, wd_l122, wd_l123, wd_l124]); omega)))); (focus (intro _; exact rfl)); (intro v9 hv9; (try simp (disch := omega) only [ab_tI, ab_c0, wd_ix12, wd_ix8, wd_ix10, wd_up_self, wd_up_eq, wd_up_ne, Int.toNat_natCast, Int.toNat_of_nonneg, not_true_eq_false, not_false_eq_true, Option.some.injEq] at hv9); subst hv9))
    | (apply w_balM; (focus (exact (by first | exact ⟨by decide, by decide⟩ | ((try simp (disch := omega) only [ab_tI, ab_c0, wd_ix12, wd_ix8, wd_ix10, wd_up_self, wd_up_eq, wd_up_ne, Int.toNat_natCast, Int.toNat_of_nonneg, not_true_eq_false, not_false_eq_true, Option.some.injEq, wd_l103, wd_l104, wd_l105, wd_l106, wd_l107, wd_l108, wd_l109, wd_l110, wd_l111, wd_l112, wd_l113, wd_l114, wd_l115, wd_l116, wd_l117, wd_l118, wd_l119, wd_l120, wd_l121, wd_l122, wd_l123, wd_l124]); omega)))); (intro v9 hv9; (try simp (disch := omega) only [ab_tI, ab_c0, wd_ix12, wd_ix8, wd_ix10, wd_up_self, wd_up_eq, wd_up_ne, Int.toNat_natCast, Int.toNat_of_nonneg, not_true_eq_false, not_false_eq_true, Option.some.injEq] at hv9); subst hv9))
    | (apply w_basM; (focus (exact (by first | exact ⟨by decide, by decide⟩ | ((try simp (disch := omega) only [ab_tI, ab_c0, wd_ix12, wd_ix8, wd_ix10, wd_up_self, wd_up_eq, wd_up_ne, Int.toNat_natCast, Int.toNat_of_nonneg, not_true_eq_false, not_false_eq_true, Option.some.injEq, wd_l103, wd_l104, wd_l105, wd_l106, wd_l107, wd_l108, wd_l109, wd_l110, wd_l111, wd_l112, wd_l113, wd_l114, wd_l115, wd_l116, wd_l117, wd_l118, wd_l119, wd_l120, wd_l121, wd_l122, wd_l123, wd_l124]); omega)))); (focus (first | exact Or.inl rfl | exact Or.inr rfl)); (intro v9 hv9; (try simp (disch := omega) only [ab_tI, ab_c0, wd_ix12, wd_ix8, wd_ix10, wd_up_self, wd_up_eq, wd_up_ne, Int.toNat_natCast, Int.toNat_of_nonneg, not_true_eq_false, not_false_eq_true, Option.some.injEq] at hv9); subst hv9))
    | (refine And.intro trivial ?_)
    | (refine And.intro (Or.inl rfl) ?_)
    | (refine And.intro (Or.inr rfl) ?_)
    | (refine And.intro (by ((try simp (disch := omega) only [ab_tI, ab_c0, wd_ix12, wd_ix8, wd_ix10, wd_up_self, wd_up_eq, wd_up_ne, Int.toNat_natCast, Int.toNat_of_nonneg, not_true_eq_false, not_false_eq_true, Option.some.injEq]); omega)) ?_)
    | fail)
    all_goals first | exact hQ | (exfalso; omega)
  · rw [if_neg c3] at hQ
    refine wd_inC rfl (by omega) rfl ?_
    intro C9 X9 hC9 hX9
    repeat' ((conv => whnf); first
    | (apply i_getN; (focus (first | exact h1)); (focus (exact rfl)); (intro v9 hv9; (try simp (disch := omega) only [ab_tI, ab_c0, wd_ix12, wd_ix8, wd_ix10, wd_up_self, wd_up_eq, wd_up_ne, Int.toNat_natCast, Int.toNat_of_nonneg, not_true_eq_false, not_false_eq_true, Option.some.injEq] at hv9); subst hv9))
    | (apply i_cv; (focus (first | exact h1)))
    | (apply i_len; (focus (first | exact congrArg ab_len (h1))))
    | (apply i_ialN; (focus (first | exact h1)); (focus (first | exact Or.inl rfl | exact Or.inr rfl)); (focus (exact (by first | exact ⟨by decide, by decide⟩ | ((try simp (disch := omega) only [ab_tI, ab_c0, wd_ix12, wd_ix8, wd_ix10, wd_up_self, wd_up_eq, wd_up_ne, Int.toNat_natCast, Int.toNat_of_nonneg, not_true_eq_false, not_false_eq_true, Option.some.injEq, wd_l103, wd_l104, wd_l105, wd_l106, wd_l107, wd_l108, wd_l109, wd_l110, wd_l111, wd_l112, wd_l113, wd_l114, wd_l115, wd_l116, wd_l117, wd_l118, wd_l119, wd_l120, wd_l121, wd_l122, wd_l123, wd_l124]); omega)))); (intro v9 hv9; (try simp (disch := omega) only [ab_tI, ab_c0, wd_ix12, wd_ix8, wd_ix10, wd_up_self, wd_up_eq, wd_up_ne, Int.toNat_natCast, Int.toNat_of_nonneg, not_true_eq_false, not_false_eq_true, Option.some.injEq] at hv9); subst hv9))
    | (apply i_aalN; (focus (first | exact h1)); (focus (exact (by first | exact ⟨by decide, by decide⟩ | ((try simp (disch := omega) only [ab_tI, ab_c0, wd_ix12, wd_ix8, wd_ix10, wd_up_self, wd_up_eq, wd_up_ne, Int.toNat_natCast, Int.toNat_of_nonneg, not_true_eq_false, not_false_eq_true, Option.some.injEq, wd_l103, wd_l104, wd_l105, wd_l106, wd_l107, wd_l108, wd_l109, wd_l110, wd_l111, wd_l112, wd_l113, wd_l114, wd_l115, wd_l116, wd_l117, wd_l118, wd_l119, wd_l120, wd_l121, wd_l122, wd_l123, wd_l124]); omega)))); (intro v9 hv9; (try simp (disch := omega) only [ab_tI, ab_c0, wd_ix12, wd_ix8, wd_ix10, wd_up_self, wd_up_eq, wd_up_ne, Int.toNat_natCast, Int.toNat_of_nonneg, not_true_eq_false, not_false_eq_true, Option.some.injEq] at hv9); subst hv9))
    | (refine hC9 11 _ _ _ ?_; exfalso; omega)
    | (refine hC9 12 _ _ _ ?_; exfalso; omega)
    | (refine hC9 13 _ _ _ ?_; exfalso; omega)
    | (intro v9 hv9; (try simp (disch := omega) only [ab_tI, ab_c0, wd_ix12, wd_ix8, wd_ix10, wd_up_self, wd_up_eq, wd_up_ne, Int.toNat_natCast, Int.toNat_of_nonneg, not_true_eq_false, not_false_eq_true, Option.some.injEq] at hv9); subst hv9)
    | (apply i_get; (focus (exact rfl)); (focus (exact rfl)))
    | (refine hX9 _ _ _ _ (wd_rnC rfl ?_); clear hC9 hX9 X9 C9; intro C9 X9 hC9 hX9)
    | (apply w_ialM; (focus (exact rfl)); (focus (exact (by first | exact ⟨by decide, by decide⟩ | ((try simp (disch := omega) only [ab_tI, ab_c0, wd_ix12, wd_ix8, wd_ix10, wd_up_self, wd_up_eq, wd_up_ne, Int.toNat_natCast, Int.toNat_of_nonneg, not_true_eq_false, not_false_eq_true, Option.some.injEq, wd_l103, wd_l104, wd_l105, wd_l106, wd_l107, wd_l108, wd_l109, wd_l110, wd_l111, wd_l112, wd_l113, wd_l114, wd_l115, wd_l116, wd_l117, wd_l118, wd_l119, wd_l120, wd_l121, wd_l122, wd_l123, wd_l124]); omega)))); (intro v9 hv9; (try simp (disch := omega) only [ab_tI, ab_c0, wd_ix12, wd_ix8, wd_ix10, wd_up_self, wd_up_eq, wd_up_ne, Int.toNat_natCast, Int.toNat_of_nonneg, not_true_eq_false, not_false_eq_true, Option.some.injEq] at hv9); subst hv9))
    | (apply w_putM; (focus (exact rfl)); (focus (first | exact trivial | exact Or.inl rfl | exact Or.inr rfl)); (focus (exact rfl)))
    | (apply w_iasM; (focus (exact rfl)); (focus (exact (by first | exact ⟨by decide, by decide⟩ | ((try simp (disch := omega) only [ab_tI, ab_c0, wd_ix12, wd_ix8, wd_ix10, wd_up_self, wd_up_eq, wd_up_ne, Int.toNat_natCast, Int.toNat_of_nonneg, not_true_eq_false, not_false_eq_true, Option.some.injEq, wd_l103, wd_l104, wd_l105, wd_l106, wd_l107, wd_l108, wd_l109, wd_l110, wd_l111, wd_l112, wd_l113, wd_l114, wd_l115, wd_l116, wd_l117, wd_l118, wd_l119, wd_l120, wd_l121, wd_l122, wd_l123, wd_l124]); omega)))); (intro v9 hv9; (try simp (disch := omega) only [ab_tI, ab_c0, wd_ix12, wd_ix8, wd_ix10, wd_up_self, wd_up_eq, wd_up_ne, Int.toNat_natCast, Int.toNat_of_nonneg, not_true_eq_false, not_false_eq_true, Option.some.injEq] at hv9); subst hv9))
    | (refine i_brF (by decide) ?_)
    | (refine i_brT (by decide) ?_)
    | (refine ⟨fun hc => ?_, fun hc => ?_⟩ <;> (try simp (disch := omega) only [ab_tI, ab_c0, wd_ix12, wd_ix8, wd_ix10, wd_up_self, wd_up_eq, wd_up_ne, Int.toNat_natCast, Int.toNat_of_nonneg, not_true_eq_false, not_false_eq_true, Option.some.injEq] at hc) <;> first | (exfalso; omega) | skip)
    | (apply i_cv; (focus (exact rfl)))
    | (apply i_len; (focus (exact rfl)))
    | (apply w_putI; (focus (exact rfl)); (focus (exact rfl)); (focus (exact rfl)); (focus (first | exact trivial | exact Or.inl rfl | exact Or.inr rfl)); (focus (exact rfl)))
    | (apply w_putP; (focus (exact rfl)); (focus (exact rfl)); (focus (exact rfl)); (focus (exact trivial)); (focus (exact rfl)))
    | (apply i_ialN; (focus (exact rfl)); (focus (first | exact Or.inl rfl | exact Or.inr rfl)); (focus (exact (by first | exact ⟨by decide, by decide⟩ | ((try simp (disch := omega) only [ab_tI, ab_c0, wd_ix12, wd_ix8, wd_ix10, wd_up_self, wd_up_eq, wd_up_ne, Int.toNat_natCast, Int.toNat_of_nonneg, not_true_eq_false, not_false_eq_true, Option.some.injEq, wd_l103, wd_l104, wd_l105, wd_l106, wd_l107, wd_l108, wd_l109, wd_l110, wd_l111, wd_l112, wd_l113, wd_l114, wd_l115, wd_l116, wd_l117, wd_l118, wd_l119, wd_l120, wd_l121, wd_l122, wd_l123, wd_l124]); omega)))); (intro v9 hv9; (try simp (disch := omega) only [ab_tI, ab_c0, wd_ix12, wd_ix8, wd_ix10, wd_up_self, wd_up_eq, wd_up_ne, Int.toNat_natCast, Int.toNat_of_nonneg, not_true_eq_false, not_false_eq_true, Option.some.injEq] at hv9); subst hv9))
    | (apply i_aalN; (focus (exact rfl)); (focus (exact (by first | exact ⟨by decide, by decide⟩ | ((try simp (disch := omega) only [ab_tI, ab_c0, wd_ix12, wd_ix8, wd_ix10, wd_up_self, wd_up_eq, wd_up_ne, Int.toNat_natCast, Int.toNat_of_nonneg, not_true_eq_false, not_false_eq_true, Option.some.injEq, wd_l103, wd_l104, wd_l105, wd_l106, wd_l107, wd_l108, wd_l109, wd_l110, wd_l111, wd_l112, wd_l113, wd_l114, wd_l115, wd_l116, wd_l117, wd_l118, wd_l119, wd_l120, wd_l121, wd_l122, wd_l123, wd_l124]); omega)))); (intro v9 hv9; (try simp (disch := omega) only [ab_tI, ab_c0, wd_ix12, wd_ix8, wd_ix10, wd_up_self, wd_up_eq, wd_up_ne, Int.toNat_natCast, Int.toNat_of_nonneg, not_true_eq_false, not_false_eq_true, Option.some.injEq] at hv9); subst hv9))
    | (apply w_iasI; (focus (exact rfl)); (focus (exact rfl)); (focus (exact (by first | exact ⟨by decide, by decide⟩ | ((try simp (disch := omega) only [ab_tI, ab_c0, wd_ix12, wd_ix8, wd_ix10, wd_up_self, wd_up_eq, wd_up_ne, Int.toNat_natCast, Int.toNat_of_nonneg, not_true_eq_false, not_false_eq_true, Option.some.injEq, wd_l103, wd_l104, wd_l105, wd_l106, wd_l107, wd_l108, wd_l109, wd_l110, wd_l111, wd_l112, wd_l113, wd_l114, wd_l115, wd_l116, wd_l117, wd_l118, wd_l119, wd_l120, wd_l121, wd_l122, wd_l123, wd_l124]); omega)))); (focus (intro _; exact rfl)); (intro v9 hv9; (try simp (disch := omega) only [ab_tI, ab_c0, wd_ix12, wd_ix8, wd_ix10, wd_up_self, wd_up_eq, wd_up_ne, Int.toNat_natCast, Int.toNat_of_nonneg, not_true_eq_false, not_false_eq_true, Option.some.injEq] at hv9); subst hv9))
    | (apply w_balM; (focus (exact (by first | exact ⟨by decide, by decide⟩ | ((try simp (disch := omega) only [ab_tI, ab_c0, wd_ix12, wd_ix8, wd_ix10, wd_up_self, wd_up_eq, wd_up_ne, Int.toNat_natCast, Int.toNat_of_nonneg, not_true_eq_false, not_false_eq_true, Option.some.injEq, wd_l103, wd_l104, wd_l105, wd_l106, wd_l107, wd_l108, wd_l109, wd_l110, wd_l111, wd_l112, wd_l113, wd_l114, wd_l115, wd_l116, wd_l117, wd_l118, wd_l119, wd_l120, wd_l121, wd_l122, wd_l123, wd_l124]); omega)))); (intro v9 hv9; (try simp (disch := omega) only [ab_tI, ab_c0, wd_ix12, wd_ix8, wd_ix10, wd_up_self, wd_up_eq, wd_up_ne, Int.toNat_natCast, Int.toNat_of_nonneg, not_true_eq_false, not_false_eq_true, Option.some.injEq] at hv9); subst hv9))
    | (apply w_basM; (focus (exact (by first | exact ⟨by decide, by decide⟩ | ((try simp (disch := omega) only [ab_tI, ab_c0, wd_ix12, wd_ix8, wd_ix10, wd_up_self, wd_up_eq, wd_up_ne, Int.toNat_natCast, Int.toNat_of_nonneg, not_true_eq_false, not_false_eq_true, Option.some.injEq, wd_l103, wd_l104, wd_l105, wd_l106, wd_l107, wd_l108, wd_l109, wd_l110, wd_l111, wd_l112, wd_l113, wd_l114, wd_l115, wd_l116, wd_l117, wd_l118, wd_l119, wd_l120, wd_l121, wd_l122, wd_l123, wd_l124]); omega)))); (focus (first | exact Or.inl rfl | exact Or.inr rfl)); (intro v9 hv9; (try simp (disch := omega) only [ab_tI, ab_c0, wd_ix12, wd_ix8, wd_ix10, wd_up_self, wd_up_eq, wd_up_ne, Int.toNat_natCast, Int.toNat_of_nonneg, not_true_eq_false, not_false_eq_true, Option.some.injEq] at hv9); subst hv9))
    | (refine And.intro trivial ?_)
    | (refine And.intro (Or.inl rfl) ?_)
    | (refine And.intro (Or.inr rfl) ?_)
    | (refine And.intro (by ((try simp (disch := omega) only [ab_tI, ab_c0, wd_ix12, wd_ix8, wd_ix10, wd_up_self, wd_up_eq, wd_up_ne, Int.toNat_natCast, Int.toNat_of_nonneg, not_true_eq_false, not_false_eq_true, Option.some.injEq]); omega)) ?_)
    | fail)
    all_goals first | exact hQ | (exfalso; omega)
end
end
section
/-! ===== the class: what a focus becomes, whole (own text) ===== -/
def c_fI (I : wd_I) : wd_I := wd_up I 10 5 (ab_ii ((I 10 5).toInt + 1))
def c_fv (I : wd_I) (w : Int32) : Int32 := if (I 10 2).toInt = 0 then ab_ii (w.toInt + (I 10 3).toInt) else if (I 10 2).toInt = 1 then ab_ii (w.toInt * (I 10 3).toInt) else if (I 10 2).toInt = 2 then ab_ii ((I 10 3).toInt - w.toInt) else ab_ii (w.toInt + (I 10 5).toInt)
def c_num (v : Int32) (ka pa : Nat) : ab_C := ab_ob 9 [.inl (ab_ii 0), .inl v, .inl (ab_ii 1), .inl (ab_ii ((ab_ii (-1)).toInt + 1)), wd_v ka, wd_v pa]
def c_two (a : Nat) (o : Option Nat) : Nat → Option Nat := ab_up (ab_up (fun _ => none) 0 (some a)) 1 o
/-- behind the row of two and the number (made, or not) -/
def c_g4y (g : Nat → ab_C) (k a : Nat) (v : Int32) : Nat → ab_C := ab_up (ab_up (ab_up (ab_up g (k + 1) (ab_ra 4 0 (fun _ => none))) (k + 1 + 1 + 1) (ab_ia 0 0 (fun _ => 0))) (k + 1 + 1) (c_num v (k + 1 + 1 + 1) (k + 1))) k (ab_ra 4 2 (c_two a (some (k + 1 + 1))))
def c_g4n (g : Nat → ab_C) (k a : Nat) : Nat → ab_C := ab_up (ab_up g (k + 1) (ab_ra 4 0 (fun _ => none))) k (ab_ra 4 2 (c_two a (some a)))
def c_foc (gv : Nat) (S : c_St) (a : Nat) : Nat × c_St :=
  if (S.1 10 2).toInt < 4 then (if (c_i S.2.1 a 0).toInt = 0 then (if (S.1 9 0).toInt < 3000 then (S.2.2.1 + 1, (c_I1 (c_fI S.1), c_nmg S.2.1 S.2.2.1 (c_fv S.1 (c_i S.2.1 a 1)), S.2.2.1 + 3, S.2.2.2 + 6)) else (a, (c_I0 (c_fI S.1), ab_up S.2.1 S.2.2.1 (ab_ra 4 0 (fun _ => none)), S.2.2.1 + 1, S.2.2.2))) else (a, (c_fI S.1, S.2)))
  else if (S.1 10 2).toInt = 4 then (if (S.1 9 0).toInt < 3000 then c_mkN (ab_ii 1) (ab_ii 0) S.2.2.1 2 (c_two a (some (S.2.2.1 + 1 + 1))) a (c_I1 (c_fI S.1), c_g4y S.2.1 S.2.2.1 a (S.1 10 3), S.2.2.1 + 1 + 1 + 2, S.2.2.2 + 2 + 0 + 6) else c_mkN (ab_ii 1) (ab_ii 0) S.2.2.1 2 (c_two a (some a)) a (c_I0 (c_fI S.1), c_g4n S.2.1 S.2.2.1 a, S.2.2.1 + 1 + 1, S.2.2.2 + 2 + 0))
  else if (S.1 10 2).toInt = 5 then c_mkN (ab_ii 4) (S.1 10 3) S.2.2.1 1 (ab_up (fun _ => none) 0 (some a)) a (c_arr (c_fI S.1, S.2) (ab_up (fun _ => none) 0 (some a)) 1)
  else if (S.1 10 2).toInt = 6 then c_mkN (ab_ii 2) (ab_ii 0) S.2.2.1 1 (ab_up (fun _ => none) 0 (some a)) a (c_arr (c_fI S.1, S.2) (ab_up (fun _ => none) 0 (some a)) 1)
  else if (S.1 10 2).toInt = 7 then (gv, (c_fI S.1, S.2))
  else c_ordr (c_fI S.1, S.2) a
theorem c_num_new {g : Nat → ab_C} {v : Int32} {ka pa : Nat} {fp : Nat → Option Nat} : c_new g (ab_ii 0) v ka pa 0 fp = c_num v ka pa := rfl
section
variable {d : Nat} {I : wd_I} {P : wd_P} {M : wd_I} {g : Nat → ab_C} {k kw z : Nat} {Q : ab_Q} {T : Nat → Prop}
theorem y_mkN (hd : 4 ≤ d) (hW : c_W T g kw) (hkw : kw ≤ k) (h125 : 125 ≤ kw) {kd wo : Int32} {pa np r : Nat} {fp : Nat → Option Nat} (hpa : wd_mut pa = false ∧ g pa = ab_ra 4 np fp) (hpk : pa < k) (hnp : np ≤ 13) (hf : c_rT T np fp) (h0 : 0 ≤ (I 9 0).toInt ∧ (I 9 0).toInt ≤ 3000) (hr : k + 2 ≤ 600000 ∧ z + 6 ≤ 7302250) (hQ : Q (some (wd_v (c_mkN kd wo pa np fp r (I, g, k, z)).1)) (c_S P M (c_mkN kd wo pa np fp r (I, g, k, z)).2)) : ab_CT d 7 [wd_v 10, .inl kd, .inl wo, wd_v pa, wd_v r] (wd I P M g, k, z) Q := by
  unfold c_mkN at hQ
  dsimp only at hQ
  refine y_make hd hW hkw h125 hpa hpk hnp hf h0 hr (fun h1 h2 => ?_) (fun h1 h2 => ?_) (fun h1 => ?_)
  · rw [if_pos h1, if_pos h2] at hQ; exact hQ
  · rw [if_pos h1, if_neg (by omega)] at hQ; exact hQ
  · rw [if_neg h1] at hQ; exact hQ
theorem c_one_T {a : Nat} (ha : T a) : c_rT T 1 (ab_up (fun _ => none) 0 (some a)) := fun j hj => ⟨a, by rw [show j = 0 by omega, ab_up_self], ha⟩
set_option maxHeartbeats 4000000 in
set_option maxRecDepth 100000 in
theorem y_focus_n (hd : 48 ≤ d) (hW : c_W T g kw) (hkw : kw ≤ k) (h125 : 125 ≤ kw) {a gv : Nat} (ha : T a) (h0 : 0 ≤ (I 9 0).toInt ∧ (I 9 0).toInt ≤ 3000) (hsp : (I 10 6).toInt = 0) (hhow : 0 ≤ (I 10 2).toInt ∧ (I 10 2).toInt < 4) (hr : k + 6 ≤ 600000 ∧ z + 20 ≤ 7302250) (hQ : Q (some (wd_v (c_foc gv (I, g, k, z) a).1)) (c_S P M (c_foc gv (I, g, k, z) a).2)) : ab_CT d 4 [wd_v 10, wd_v a] (wd I P M g, k, z) Q := by
  have hWk := c_W_mono hW hkw
  have h1 := c_W_c (I := c_fI I) (P := P) (M := M) (z := z) hWk ha
  have e90 : c_fI I 9 0 = I 9 0 := wd_up_ne _ _ (by omega)
  have e102 : c_fI I 10 2 = I 10 2 := wd_up_ne _ _ (by omega)
  have e103 : c_fI I 10 3 = I 10 3 := wd_up_ne _ _ (by omega)
  have e106 : c_fI I 10 6 = I 10 6 := wd_up_ne _ _ (by omega)
  have eF : wd_up I 10 5 (ab_ii ((I 10 5).toInt + 1)) = c_fI I := rfl
  unfold c_foc at hQ
  dsimp only at hQ
  rw [if_pos hhow.2] at hQ
  have hmn := fun (v : Int32) (Q : ab_Q) hnn hy hn => y_makeN (d := d - 1) (I := c_fI I) (P := P) (M := M) (g := g) (k := k) (z := z) (Q := Q) (by omega) hW hkw h125 (v := v) ha (by rw [e90]; exact h0) (by rw [e106]; exact hsp) ⟨by omega, by omega⟩ hnn hy hn
  rw [e90] at hmn
  have hfin : ∀ (v : Int32), v = c_fv I (c_i g a 1) → ∀ Q' : ab_Q, (∀ (x : Nat) (h : ab_H), Q (some (wd_v x)) h → Q' (some (wd_v x)) h) → ab_CT (d - 1) 6 [wd_v 10, wd_v a, .inl v] (wd (c_fI I) P M g, k, z) Q' := fun v hv Q' hQQ => by
    refine hmn v Q' (fun hk => hQQ _ _ ?_) (fun hk hm => hQQ _ _ ?_) (fun hk hm => hQQ _ _ ?_)
    · rw [if_neg hk] at hQ; exact hQ
    · rw [if_pos hk, if_pos hm, ← hv] at hQ; exact hQ
    · rw [if_pos hk, if_neg (by omega)] at hQ; exact hQ
  unfold c_fv at hfin
  clear hQ hmn
  refine wd_inC rfl (by omega) rfl ?_
  intro C9 X9 hC9 hX9
  repeat' ((conv => whnf); first
    | (rw [eF]; exact hC9 6 _ _ _ (hfin _ (by first | rw [if_pos (by omega)] | rw [if_neg (by omega), if_pos (by omega)] | rw [if_neg (by omega), if_neg (by omega), if_pos (by omega)] | rw [if_neg (by omega), if_neg (by omega), if_neg (by omega)]) _ (fun _ _ q => q)))
    | (apply i_getN; (focus (exact c_W_c hWk ha)); (focus (exact rfl)); (intro v9 hv9; subst hv9))
    | (apply i_getN; (focus (exact rfl)); (focus (exact rfl)); (intro v9 hv9; (try simp (disch := omega) only [ab_tI, ab_c0, wd_ix12, wd_ix8, wd_ix10, wd_up_self, wd_up_eq, wd_up_ne, Int.toNat_natCast, Int.toNat_of_nonneg, not_true_eq_false, not_false_eq_true, Option.some.injEq, e102, e103] at hv9); subst hv9))
    | (intro v9 hv9; (try simp (disch := omega) only [ab_tI, ab_c0, wd_ix12, wd_ix8, wd_ix10, wd_up_self, wd_up_eq, wd_up_ne, Int.toNat_natCast, Int.toNat_of_nonneg, not_true_eq_false, not_false_eq_true, Option.some.injEq, e102, e103] at hv9); subst hv9)
    | (apply i_get; (focus (exact rfl)); (focus (exact rfl)))
    | (refine hX9 _ _ _ _ (wd_rnC rfl ?_); clear hC9 hX9 X9 C9; intro C9 X9 hC9 hX9)
    | (apply w_ialM; (focus (exact rfl)); (focus (exact (by first | exact ⟨by decide, by decide⟩ | ((try simp (disch := omega) only [ab_tI, ab_c0, wd_ix12, wd_ix8, wd_ix10, wd_up_self, wd_up_eq, wd_up_ne, Int.toNat_natCast, Int.toNat_of_nonneg, not_true_eq_false, not_false_eq_true, Option.some.injEq, e102, e103, wd_l103, wd_l104, wd_l105, wd_l106, wd_l107, wd_l108, wd_l109, wd_l110, wd_l111, wd_l112, wd_l113, wd_l114, wd_l115, wd_l116, wd_l117, wd_l118, wd_l119, wd_l120, wd_l121, wd_l122, wd_l123, wd_l124]); omega)))); (intro v9 hv9; (try simp (disch := omega) only [ab_tI, ab_c0, wd_ix12, wd_ix8, wd_ix10, wd_up_self, wd_up_eq, wd_up_ne, Int.toNat_natCast, Int.toNat_of_nonneg, not_true_eq_false, not_false_eq_true, Option.some.injEq, e102, e103] at hv9); subst hv9))
    | (apply w_putM; (focus (exact rfl)); (focus (first | exact trivial | exact Or.inl rfl | exact Or.inr rfl)); (focus (exact rfl)))
    | (apply w_iasM; (focus (exact rfl)); (focus (exact (by first | exact ⟨by decide, by decide⟩ | ((try simp (disch := omega) only [ab_tI, ab_c0, wd_ix12, wd_ix8, wd_ix10, wd_up_self, wd_up_eq, wd_up_ne, Int.toNat_natCast, Int.toNat_of_nonneg, not_true_eq_false, not_false_eq_true, Option.some.injEq, e102, e103, wd_l103, wd_l104, wd_l105, wd_l106, wd_l107, wd_l108, wd_l109, wd_l110, wd_l111, wd_l112, wd_l113, wd_l114, wd_l115, wd_l116, wd_l117, wd_l118, wd_l119, wd_l120, wd_l121, wd_l122, wd_l123, wd_l124]); omega)))); (intro v9 hv9; (try simp (disch := omega) only [ab_tI, ab_c0, wd_ix12, wd_ix8, wd_ix10, wd_up_self, wd_up_eq, wd_up_ne, Int.toNat_natCast, Int.toNat_of_nonneg, not_true_eq_false, not_false_eq_true, Option.some.injEq, e102, e103] at hv9); subst hv9))
    | (refine i_brF (by decide) ?_)
    | (refine i_brT (by decide) ?_)
    | (refine ⟨fun hc => ?_, fun hc => ?_⟩ <;> (try simp (disch := omega) only [ab_tI, ab_c0, wd_ix12, wd_ix8, wd_ix10, wd_up_self, wd_up_eq, wd_up_ne, Int.toNat_natCast, Int.toNat_of_nonneg, not_true_eq_false, not_false_eq_true, Option.some.injEq, e102, e103] at hc) <;> first | (exfalso; omega) | skip)
    | (apply i_cv; (focus (exact rfl)))
    | (apply i_len; (focus (exact rfl)))
    | (apply w_putI; (focus (exact rfl)); (focus (exact rfl)); (focus (exact rfl)); (focus (first | exact trivial | exact Or.inl rfl | exact Or.inr rfl)); (focus (exact rfl)))
    | (apply w_putP; (focus (exact rfl)); (focus (exact rfl)); (focus (exact rfl)); (focus (exact trivial)); (focus (exact rfl)))
    | (apply i_ialN; (focus (exact rfl)); (focus (first | exact Or.inl rfl | exact Or.inr rfl)); (focus (exact (by first | exact ⟨by decide, by decide⟩ | ((try simp (disch := omega) only [ab_tI, ab_c0, wd_ix12, wd_ix8, wd_ix10, wd_up_self, wd_up_eq, wd_up_ne, Int.toNat_natCast, Int.toNat_of_nonneg, not_true_eq_false, not_false_eq_true, Option.some.injEq, e102, e103, wd_l103, wd_l104, wd_l105, wd_l106, wd_l107, wd_l108, wd_l109, wd_l110, wd_l111, wd_l112, wd_l113, wd_l114, wd_l115, wd_l116, wd_l117, wd_l118, wd_l119, wd_l120, wd_l121, wd_l122, wd_l123, wd_l124]); omega)))); (intro v9 hv9; (try simp (disch := omega) only [ab_tI, ab_c0, wd_ix12, wd_ix8, wd_ix10, wd_up_self, wd_up_eq, wd_up_ne, Int.toNat_natCast, Int.toNat_of_nonneg, not_true_eq_false, not_false_eq_true, Option.some.injEq, e102, e103] at hv9); subst hv9))
    | (apply i_aalN; (focus (exact rfl)); (focus (exact (by first | exact ⟨by decide, by decide⟩ | ((try simp (disch := omega) only [ab_tI, ab_c0, wd_ix12, wd_ix8, wd_ix10, wd_up_self, wd_up_eq, wd_up_ne, Int.toNat_natCast, Int.toNat_of_nonneg, not_true_eq_false, not_false_eq_true, Option.some.injEq, e102, e103, wd_l103, wd_l104, wd_l105, wd_l106, wd_l107, wd_l108, wd_l109, wd_l110, wd_l111, wd_l112, wd_l113, wd_l114, wd_l115, wd_l116, wd_l117, wd_l118, wd_l119, wd_l120, wd_l121, wd_l122, wd_l123, wd_l124]); omega)))); (intro v9 hv9; (try simp (disch := omega) only [ab_tI, ab_c0, wd_ix12, wd_ix8, wd_ix10, wd_up_self, wd_up_eq, wd_up_ne, Int.toNat_natCast, Int.toNat_of_nonneg, not_true_eq_false, not_false_eq_true, Option.some.injEq, e102, e103] at hv9); subst hv9))
    | (apply w_iasI; (focus (exact rfl)); (focus (exact rfl)); (focus (exact (by first | exact ⟨by decide, by decide⟩ | ((try simp (disch := omega) only [ab_tI, ab_c0, wd_ix12, wd_ix8, wd_ix10, wd_up_self, wd_up_eq, wd_up_ne, Int.toNat_natCast, Int.toNat_of_nonneg, not_true_eq_false, not_false_eq_true, Option.some.injEq, e102, e103, wd_l103, wd_l104, wd_l105, wd_l106, wd_l107, wd_l108, wd_l109, wd_l110, wd_l111, wd_l112, wd_l113, wd_l114, wd_l115, wd_l116, wd_l117, wd_l118, wd_l119, wd_l120, wd_l121, wd_l122, wd_l123, wd_l124]); omega)))); (focus (intro _; exact rfl)); (intro v9 hv9; (try simp (disch := omega) only [ab_tI, ab_c0, wd_ix12, wd_ix8, wd_ix10, wd_up_self, wd_up_eq, wd_up_ne, Int.toNat_natCast, Int.toNat_of_nonneg, not_true_eq_false, not_false_eq_true, Option.some.injEq, e102, e103] at hv9); subst hv9))
    | (apply w_balM; (focus (exact (by first | exact ⟨by decide, by decide⟩ | ((try simp (disch := omega) only [ab_tI, ab_c0, wd_ix12, wd_ix8, wd_ix10, wd_up_self, wd_up_eq, wd_up_ne, Int.toNat_natCast, Int.toNat_of_nonneg, not_true_eq_false, not_false_eq_true, Option.some.injEq, e102, e103, wd_l103, wd_l104, wd_l105, wd_l106, wd_l107, wd_l108, wd_l109, wd_l110, wd_l111, wd_l112, wd_l113, wd_l114, wd_l115, wd_l116, wd_l117, wd_l118, wd_l119, wd_l120, wd_l121, wd_l122, wd_l123, wd_l124]); omega)))); (intro v9 hv9; (try simp (disch := omega) only [ab_tI, ab_c0, wd_ix12, wd_ix8, wd_ix10, wd_up_self, wd_up_eq, wd_up_ne, Int.toNat_natCast, Int.toNat_of_nonneg, not_true_eq_false, not_false_eq_true, Option.some.injEq, e102, e103] at hv9); subst hv9))
    | (apply w_basM; (focus (exact (by first | exact ⟨by decide, by decide⟩ | ((try simp (disch := omega) only [ab_tI, ab_c0, wd_ix12, wd_ix8, wd_ix10, wd_up_self, wd_up_eq, wd_up_ne, Int.toNat_natCast, Int.toNat_of_nonneg, not_true_eq_false, not_false_eq_true, Option.some.injEq, e102, e103, wd_l103, wd_l104, wd_l105, wd_l106, wd_l107, wd_l108, wd_l109, wd_l110, wd_l111, wd_l112, wd_l113, wd_l114, wd_l115, wd_l116, wd_l117, wd_l118, wd_l119, wd_l120, wd_l121, wd_l122, wd_l123, wd_l124]); omega)))); (focus (first | exact Or.inl rfl | exact Or.inr rfl)); (intro v9 hv9; (try simp (disch := omega) only [ab_tI, ab_c0, wd_ix12, wd_ix8, wd_ix10, wd_up_self, wd_up_eq, wd_up_ne, Int.toNat_natCast, Int.toNat_of_nonneg, not_true_eq_false, not_false_eq_true, Option.some.injEq, e102, e103] at hv9); subst hv9))
    | (refine And.intro trivial ?_)
    | (refine And.intro (Or.inl rfl) ?_)
    | (refine And.intro (Or.inr rfl) ?_)
    | (refine And.intro (by ((try simp (disch := omega) only [ab_tI, ab_c0, wd_ix12, wd_ix8, wd_ix10, wd_up_self, wd_up_eq, wd_up_ne, Int.toNat_natCast, Int.toNat_of_nonneg, not_true_eq_false, not_false_eq_true, Option.some.injEq, e102, e103]); omega)) ?_)
    | fail)
  all_goals (exfalso; omega)
end
end
section
/-! ===== the class: a focus paired, tagged, alone, given (own text) ===== -/
section
variable {d : Nat} {I : wd_I} {P : wd_P} {M : wd_I} {g : Nat → ab_C} {k kw z : Nat} {Q : ab_Q} {T : Nat → Prop}
theorem c_mkg4 {A : ab_C} {v : Int32} {fp : Nat → Option Nat} : c_mkg (ab_up (ab_up g k A) (k + 1) (ab_ra 4 0 (fun _ => none))) (k + 1 + 1) (ab_ii 0) v (k + 1) 0 fp = ab_up (ab_up (ab_up (ab_up g (k + 1) (ab_ra 4 0 (fun _ => none))) (k + 1 + 1 + 1) (ab_ia 0 0 (fun _ => 0))) (k + 1 + 1) (c_num v (k + 1 + 1 + 1) (k + 1))) k A := by
  unfold c_mkg
  rw [c_num_new, ab_up_cm (x := k) (y := k + 1) (by omega), ab_up_cm (x := k) (y := k + 1 + 1 + 1) (by omega), ab_up_cm (x := k) (y := k + 1 + 1) (by omega)]
theorem c_g4y_W (hW : c_W T g kw) (hkw : kw ≤ k) (h125 : 125 ≤ kw) {a : Nat} {v : Int32} : c_W (fun b => T b ∨ b = k + 1 + 1) (c_g4y g k a v) (k + 1 + 1 + 2) := by
  have e : c_g4y g k a v = ab_up (ab_up (ab_up (ab_up g k (ab_ra 4 2 (c_two a (some (k + 1 + 1))))) (k + 1) (ab_ra 4 0 (fun _ => none))) (k + 1 + 1 + 1) (ab_ia 0 0 (fun _ => 0))) (k + 1 + 1) (c_num v (k + 1 + 1 + 1) (k + 1)) := by
    unfold c_g4y
    rw [ab_up_cm (x := k) (y := k + 1) (by omega), ab_up_cm (x := k) (y := k + 1 + 1 + 1) (by omega), ab_up_cm (x := k) (y := k + 1 + 1) (by omega)]
  rw [e]
  have hW3 : c_W T (ab_up (ab_up (ab_up g k (ab_ra 4 2 (c_two a (some (k + 1 + 1))))) (k + 1) (ab_ra 4 0 (fun _ => none))) (k + 1 + 1 + 1) (ab_ia 0 0 (fun _ => 0))) kw := c_W_up (c_W_up (c_W_up hW (by omega) (Nat.le_refl _)) (by omega) (Nat.le_refl _)) (by omega) (Nat.le_refl _)
  refine c_W_new (nk := 0) (np := 0) (fk := fun _ => 0) (fp := fun _ => none) hW3 (by omega) (by omega) (wd_mut_new (by omega)) ⟨⟨wd_mut_new (by omega), by omega⟩, ab_up_self _ _ _, by omega⟩ ⟨⟨wd_mut_new (by omega), by omega⟩, ?_, by omega⟩ ⟨by omega, by omega⟩ (fun j hj => absurd hj (Nat.not_lt_zero _))
  rw [ab_up_ne _ _ (by omega), ab_up_self]
theorem c_g4n_W (hW : c_W T g kw) (hkw : kw ≤ k) {a : Nat} : c_W T (c_g4n g k a) kw := by
  unfold c_g4n
  exact c_W_up (c_W_up hW (by omega) (Nat.le_refl _)) (by omega) (Nat.le_refl _)
theorem c_two_T {T : Nat → Prop} {a b : Nat} (ha : T a) (hb : T b) : c_rT T 2 (c_two a (some b)) := fun j hj => by
  unfold c_two
  by_cases e : j = 1
  · subst e; exact ⟨b, ab_up_self _ _ _, hb⟩
  · rw [ab_up_ne _ _ e, show j = 0 by omega, ab_up_self]; exact ⟨a, rfl, ha⟩
set_option maxHeartbeats 4000000 in
set_option maxRecDepth 100000 in
theorem y_focus_4 (hd : 48 ≤ d) (hW : c_W T g kw) (hkw : kw ≤ k) (h125 : 125 ≤ kw) {a gv : Nat} (ha : T a) (h0 : 0 ≤ (I 9 0).toInt ∧ (I 9 0).toInt ≤ 3000) (hsp : (I 10 6).toInt = 0) (hhow : (I 10 2).toInt = 4) (hr : k + 6 ≤ 600000 ∧ z + 20 ≤ 7302250) (hQ : Q (some (wd_v (c_foc gv (I, g, k, z) a).1)) (c_S P M (c_foc gv (I, g, k, z) a).2)) : ab_CT d 4 [wd_v 10, wd_v a] (wd I P M g, k, z) Q := by
  have hak : a < kw := (hW a ha).1.2
  have e90 : c_fI I 9 0 = I 9 0 := wd_up_ne _ _ (by omega)
  have e102 : c_fI I 10 2 = I 10 2 := wd_up_ne _ _ (by omega)
  have e103 : c_fI I 10 3 = I 10 3 := wd_up_ne _ _ (by omega)
  have e106 : c_fI I 10 6 = I 10 6 := wd_up_ne _ _ (by omega)
  have eF : wd_up I 10 5 (ab_ii ((I 10 5).toInt + 1)) = c_fI I := rfl
  unfold c_foc at hQ
  dsimp only at hQ
  rw [if_neg (by omega), if_pos hhow] at hQ
  have h3 := fun (I' : wd_I) (c : ab_C) (kk z' : Nat) => c_W_x (I := I') (P := P) (M := M) (kk := kk) (z := z') (x := k) (c := c) hW ha (by omega)
  have hW2 : c_W T (ab_up (ab_up g k (ab_ra 4 2 (ab_up (fun _ => none) 0 (some a)))) (k + 1) (ab_ra 4 0 (fun _ => none))) kw := c_W_up (c_W_up hW (by omega) (Nat.le_refl _)) (by omega) (Nat.le_refl _)
  have hmk := fun (Q : ab_Q) hy hn => y_make (d := d - 1) (I := c_fI I) (P := P) (M := M) (Q := Q) (k := k + 1 + 1) (z := z + 2 + 0) (by omega) hW2 (by omega) h125 (kd := ab_ii 0) (wo := I 10 3) (pa := k + 1) (np := 0) (r := a) (fp := fun _ => none) ⟨wd_mut_new (by omega), ab_up_self _ _ _⟩ (by omega) (by omega) (fun j hj => absurd hj (Nat.not_lt_zero _)) (by rw [e90]; exact h0) ⟨by omega, by omega⟩ hy hn (fun q => absurd (by rw [e106]; exact hsp) q)
  rw [e90, e106] at hmk
  by_cases hlt : (I 9 0).toInt < 3000
  · rw [if_pos hlt] at hQ
    have hmk2 : ∀ Q' : ab_Q, Q' (some (wd_v (k + 1 + 1))) (wd (c_I1 (c_fI I)) P M (ab_up (ab_up (ab_up (ab_up g (k + 1) (ab_ra 4 0 (fun _ => none))) (k + 1 + 1 + 1) (ab_ia 0 0 (fun _ => 0))) (k + 1 + 1) (c_num (I 10 3) (k + 1 + 1 + 1) (k + 1))) k (ab_ra 4 2 (ab_up (fun _ => none) 0 (some a)))), k + 1 + 1 + 2, z + 2 + 0 + 6) → ab_CT (d - 1) 7 [wd_v 10, .inl (ab_ii 0), .inl (I 10 3), wd_v (k + 1), wd_v a] (wd (c_fI I) P M (ab_up (ab_up g k (ab_ra 4 2 (ab_up (fun _ => none) 0 (some a)))) (k + 1) (ab_ra 4 0 (fun _ => none))), k + 1 + 1, z + 2 + 0) Q' := fun Q' hq => hmk Q' (fun _ _ => by rw [c_mkg4]; exact hq) (fun _ q => by omega)
    have hu9 : (c_I1 (c_fI I) 9 0).toInt = (I 9 0).toInt + 1 := by unfold c_I1; rw [wd_up_self, e90, ab_tI (by omega) (by omega)]
    have hx4 : ∀ (I' : wd_I) (c : ab_C) (kk z' : Nat), (wd I' P M (ab_up (ab_up (ab_up (ab_up g (k + 1) (ab_ra 4 0 (fun _ => none))) (k + 1 + 1 + 1) (ab_ia 0 0 (fun _ => 0))) (k + 1 + 1) (c_num (I 10 3) (k + 1 + 1 + 1) (k + 1))) k c), kk, z').1 (k + 1 + 1) = c_num (I 10 3) (k + 1 + 1 + 1) (k + 1) := fun I' c kk z' => (wd_upN (wd_mut_new (by omega)) (by omega)).trans (ab_up_self _ _ _)
    have hpair := fun (Q : ab_Q) hq => y_mkN (d := d - 1) (I := c_I1 (c_fI I)) (P := P) (M := M) (g := c_g4y g k a (I 10 3)) (k := k + 1 + 1 + 2) (z := z + 2 + 0 + 6) (Q := Q) (by omega) (c_g4y_W (a := a) (v := I 10 3) hW hkw h125) (Nat.le_refl _) (by omega) (kd := ab_ii 1) (wo := ab_ii 0) (pa := k) (np := 2) (r := a) (fp := c_two a (some (k + 1 + 1))) ⟨wd_mut_new (by omega), ab_up_self _ _ _⟩ (by omega) (by omega) (c_two_T (Or.inl ha) (Or.inr rfl)) (by omega) ⟨by omega, by omega⟩ hq
    have eG : ab_up (ab_up (ab_up (ab_up g (k + 1) (ab_ra 4 0 (fun _ => none))) (k + 1 + 1 + 1) (ab_ia 0 0 (fun _ => 0))) (k + 1 + 1) (c_num (I 10 3) (k + 1 + 1 + 1) (k + 1))) k (ab_ra 4 2 (ab_up (ab_up (fun _ => none) 0 (some a)) 1 (some (k + 1 + 1)))) = c_g4y g k a (I 10 3) := rfl
    clear hmk
    refine wd_inC rfl (by omega) rfl ?_
    intro C9 X9 hC9 hX9
    repeat' ((conv => whnf); first
    | (apply w_newR (n := 2); (focus (rfl)); (focus (exact ⟨by omega, by omega⟩)); (focus (omega)); (dsimp only))
    | (apply w_newR (n := 0); (focus (rfl)); (focus (exact ⟨by omega, by omega⟩)); (focus (omega)); (dsimp only))
    | (rw [eF]; refine hC9 7 _ _ _ (hmk2 _ ?_))
    | (exact hC9 7 _ _ _ (hpair _ hQ))
    | (apply w_aasG (wd_mut_new (by omega)); (focus (first | exact ⟨by decide, by decide⟩ | ((try simp (disch := omega) only [ab_tI, ab_c0, wd_ix12, wd_ix8, wd_ix10, wd_up_self, wd_up_eq, wd_up_ne, Int.toNat_natCast, Int.toNat_of_nonneg, not_true_eq_false, not_false_eq_true, Option.some.injEq]); omega))); (focus (intro v9 hv9; cases hv9; first | exact i_ex (h3 _ _ _ _) | exact i_ex (hx4 _ _ _ _))); (intro e9 he9; (try simp (disch := omega) only [ab_tI, ab_c0, wd_ix12, wd_ix8, wd_ix10, wd_up_self, wd_up_eq, wd_up_ne, Int.toNat_natCast, Int.toNat_of_nonneg, not_true_eq_false, not_false_eq_true, Option.some.injEq] at he9); subst he9))
    | (apply i_getN; (focus (exact rfl)); (focus (exact rfl)); (intro v9 hv9; (try simp (disch := omega) only [ab_tI, ab_c0, wd_ix12, wd_ix8, wd_ix10, wd_up_self, wd_up_eq, wd_up_ne, Int.toNat_natCast, Int.toNat_of_nonneg, not_true_eq_false, not_false_eq_true, Option.some.injEq, e102, e103] at hv9); subst hv9))
    | (intro v9 hv9; (try simp (disch := omega) only [ab_tI, ab_c0, wd_ix12, wd_ix8, wd_ix10, wd_up_self, wd_up_eq, wd_up_ne, Int.toNat_natCast, Int.toNat_of_nonneg, not_true_eq_false, not_false_eq_true, Option.some.injEq, e102, e103] at hv9); subst hv9)
    | (apply i_get; (focus (exact rfl)); (focus (exact rfl)))
    | (refine hX9 _ _ _ _ (wd_rnC rfl ?_); clear hC9 hX9 X9 C9; intro C9 X9 hC9 hX9)
    | (apply w_ialM; (focus (exact rfl)); (focus (exact (by first | exact ⟨by decide, by decide⟩ | ((try simp (disch := omega) only [ab_tI, ab_c0, wd_ix12, wd_ix8, wd_ix10, wd_up_self, wd_up_eq, wd_up_ne, Int.toNat_natCast, Int.toNat_of_nonneg, not_true_eq_false, not_false_eq_true, Option.some.injEq, e102, e103, wd_l103, wd_l104, wd_l105, wd_l106, wd_l107, wd_l108, wd_l109, wd_l110, wd_l111, wd_l112, wd_l113, wd_l114, wd_l115, wd_l116, wd_l117, wd_l118, wd_l119, wd_l120, wd_l121, wd_l122, wd_l123, wd_l124]); omega)))); (intro v9 hv9; (try simp (disch := omega) only [ab_tI, ab_c0, wd_ix12, wd_ix8, wd_ix10, wd_up_self, wd_up_eq, wd_up_ne, Int.toNat_natCast, Int.toNat_of_nonneg, not_true_eq_false, not_false_eq_true, Option.some.injEq, e102, e103] at hv9); subst hv9))
    | (apply w_putM; (focus (exact rfl)); (focus (first | exact trivial | exact Or.inl rfl | exact Or.inr rfl)); (focus (exact rfl)))
    | (apply w_iasM; (focus (exact rfl)); (focus (exact (by first | exact ⟨by decide, by decide⟩ | ((try simp (disch := omega) only [ab_tI, ab_c0, wd_ix12, wd_ix8, wd_ix10, wd_up_self, wd_up_eq, wd_up_ne, Int.toNat_natCast, Int.toNat_of_nonneg, not_true_eq_false, not_false_eq_true, Option.some.injEq, e102, e103, wd_l103, wd_l104, wd_l105, wd_l106, wd_l107, wd_l108, wd_l109, wd_l110, wd_l111, wd_l112, wd_l113, wd_l114, wd_l115, wd_l116, wd_l117, wd_l118, wd_l119, wd_l120, wd_l121, wd_l122, wd_l123, wd_l124]); omega)))); (intro v9 hv9; (try simp (disch := omega) only [ab_tI, ab_c0, wd_ix12, wd_ix8, wd_ix10, wd_up_self, wd_up_eq, wd_up_ne, Int.toNat_natCast, Int.toNat_of_nonneg, not_true_eq_false, not_false_eq_true, Option.some.injEq, e102, e103] at hv9); subst hv9))
    | (refine i_brF (by decide) ?_)
    | (refine i_brT (by decide) ?_)
    | (refine ⟨fun hc => ?_, fun hc => ?_⟩ <;> (try simp (disch := omega) only [ab_tI, ab_c0, wd_ix12, wd_ix8, wd_ix10, wd_up_self, wd_up_eq, wd_up_ne, Int.toNat_natCast, Int.toNat_of_nonneg, not_true_eq_false, not_false_eq_true, Option.some.injEq, e102, e103] at hc) <;> first | (exfalso; omega) | skip)
    | (apply i_cv; (focus (exact rfl)))
    | (apply i_len; (focus (exact rfl)))
    | (apply w_putI; (focus (exact rfl)); (focus (exact rfl)); (focus (exact rfl)); (focus (first | exact trivial | exact Or.inl rfl | exact Or.inr rfl)); (focus (exact rfl)))
    | (apply w_putP; (focus (exact rfl)); (focus (exact rfl)); (focus (exact rfl)); (focus (exact trivial)); (focus (exact rfl)))
    | (apply i_ialN; (focus (exact rfl)); (focus (first | exact Or.inl rfl | exact Or.inr rfl)); (focus (exact (by first | exact ⟨by decide, by decide⟩ | ((try simp (disch := omega) only [ab_tI, ab_c0, wd_ix12, wd_ix8, wd_ix10, wd_up_self, wd_up_eq, wd_up_ne, Int.toNat_natCast, Int.toNat_of_nonneg, not_true_eq_false, not_false_eq_true, Option.some.injEq, e102, e103, wd_l103, wd_l104, wd_l105, wd_l106, wd_l107, wd_l108, wd_l109, wd_l110, wd_l111, wd_l112, wd_l113, wd_l114, wd_l115, wd_l116, wd_l117, wd_l118, wd_l119, wd_l120, wd_l121, wd_l122, wd_l123, wd_l124]); omega)))); (intro v9 hv9; (try simp (disch := omega) only [ab_tI, ab_c0, wd_ix12, wd_ix8, wd_ix10, wd_up_self, wd_up_eq, wd_up_ne, Int.toNat_natCast, Int.toNat_of_nonneg, not_true_eq_false, not_false_eq_true, Option.some.injEq, e102, e103] at hv9); subst hv9))
    | (apply i_aalN; (focus (exact rfl)); (focus (exact (by first | exact ⟨by decide, by decide⟩ | ((try simp (disch := omega) only [ab_tI, ab_c0, wd_ix12, wd_ix8, wd_ix10, wd_up_self, wd_up_eq, wd_up_ne, Int.toNat_natCast, Int.toNat_of_nonneg, not_true_eq_false, not_false_eq_true, Option.some.injEq, e102, e103, wd_l103, wd_l104, wd_l105, wd_l106, wd_l107, wd_l108, wd_l109, wd_l110, wd_l111, wd_l112, wd_l113, wd_l114, wd_l115, wd_l116, wd_l117, wd_l118, wd_l119, wd_l120, wd_l121, wd_l122, wd_l123, wd_l124]); omega)))); (intro v9 hv9; (try simp (disch := omega) only [ab_tI, ab_c0, wd_ix12, wd_ix8, wd_ix10, wd_up_self, wd_up_eq, wd_up_ne, Int.toNat_natCast, Int.toNat_of_nonneg, not_true_eq_false, not_false_eq_true, Option.some.injEq, e102, e103] at hv9); subst hv9))
    | (apply w_iasI; (focus (exact rfl)); (focus (exact rfl)); (focus (exact (by first | exact ⟨by decide, by decide⟩ | ((try simp (disch := omega) only [ab_tI, ab_c0, wd_ix12, wd_ix8, wd_ix10, wd_up_self, wd_up_eq, wd_up_ne, Int.toNat_natCast, Int.toNat_of_nonneg, not_true_eq_false, not_false_eq_true, Option.some.injEq, e102, e103, wd_l103, wd_l104, wd_l105, wd_l106, wd_l107, wd_l108, wd_l109, wd_l110, wd_l111, wd_l112, wd_l113, wd_l114, wd_l115, wd_l116, wd_l117, wd_l118, wd_l119, wd_l120, wd_l121, wd_l122, wd_l123, wd_l124]); omega)))); (focus (intro _; exact rfl)); (intro v9 hv9; (try simp (disch := omega) only [ab_tI, ab_c0, wd_ix12, wd_ix8, wd_ix10, wd_up_self, wd_up_eq, wd_up_ne, Int.toNat_natCast, Int.toNat_of_nonneg, not_true_eq_false, not_false_eq_true, Option.some.injEq, e102, e103] at hv9); subst hv9))
    | (apply w_balM; (focus (exact (by first | exact ⟨by decide, by decide⟩ | ((try simp (disch := omega) only [ab_tI, ab_c0, wd_ix12, wd_ix8, wd_ix10, wd_up_self, wd_up_eq, wd_up_ne, Int.toNat_natCast, Int.toNat_of_nonneg, not_true_eq_false, not_false_eq_true, Option.some.injEq, e102, e103, wd_l103, wd_l104, wd_l105, wd_l106, wd_l107, wd_l108, wd_l109, wd_l110, wd_l111, wd_l112, wd_l113, wd_l114, wd_l115, wd_l116, wd_l117, wd_l118, wd_l119, wd_l120, wd_l121, wd_l122, wd_l123, wd_l124]); omega)))); (intro v9 hv9; (try simp (disch := omega) only [ab_tI, ab_c0, wd_ix12, wd_ix8, wd_ix10, wd_up_self, wd_up_eq, wd_up_ne, Int.toNat_natCast, Int.toNat_of_nonneg, not_true_eq_false, not_false_eq_true, Option.some.injEq, e102, e103] at hv9); subst hv9))
    | (apply w_basM; (focus (exact (by first | exact ⟨by decide, by decide⟩ | ((try simp (disch := omega) only [ab_tI, ab_c0, wd_ix12, wd_ix8, wd_ix10, wd_up_self, wd_up_eq, wd_up_ne, Int.toNat_natCast, Int.toNat_of_nonneg, not_true_eq_false, not_false_eq_true, Option.some.injEq, e102, e103, wd_l103, wd_l104, wd_l105, wd_l106, wd_l107, wd_l108, wd_l109, wd_l110, wd_l111, wd_l112, wd_l113, wd_l114, wd_l115, wd_l116, wd_l117, wd_l118, wd_l119, wd_l120, wd_l121, wd_l122, wd_l123, wd_l124]); omega)))); (focus (first | exact Or.inl rfl | exact Or.inr rfl)); (intro v9 hv9; (try simp (disch := omega) only [ab_tI, ab_c0, wd_ix12, wd_ix8, wd_ix10, wd_up_self, wd_up_eq, wd_up_ne, Int.toNat_natCast, Int.toNat_of_nonneg, not_true_eq_false, not_false_eq_true, Option.some.injEq, e102, e103] at hv9); subst hv9))
    | (refine And.intro trivial ?_)
    | (refine And.intro (Or.inl rfl) ?_)
    | (refine And.intro (Or.inr rfl) ?_)
    | (refine And.intro (by ((try simp (disch := omega) only [ab_tI, ab_c0, wd_ix12, wd_ix8, wd_ix10, wd_up_self, wd_up_eq, wd_up_ne, Int.toNat_natCast, Int.toNat_of_nonneg, not_true_eq_false, not_false_eq_true, Option.some.injEq, e102, e103]); omega)) ?_)
    | fail)
    all_goals (exfalso; omega)
  · rw [if_neg hlt] at hQ
    have hmk2 : ∀ Q' : ab_Q, Q' (some (wd_v a)) (wd (c_I0 (c_fI I)) P M (ab_up (ab_up g (k + 1) (ab_ra 4 0 (fun _ => none))) k (ab_ra 4 2 (ab_up (fun _ => none) 0 (some a)))), k + 1 + 1, z + 2 + 0) → ab_CT (d - 1) 7 [wd_v 10, .inl (ab_ii 0), .inl (I 10 3), wd_v (k + 1), wd_v a] (wd (c_fI I) P M (ab_up (ab_up g k (ab_ra 4 2 (ab_up (fun _ => none) 0 (some a)))) (k + 1) (ab_ra 4 0 (fun _ => none))), k + 1 + 1, z + 2 + 0) Q' := fun Q' hq => hmk Q' (fun _ q => by omega) (fun _ _ => by rw [ab_up_cm (x := k) (y := k + 1) (by omega)]; exact hq)
    have hu9 : (c_I0 (c_fI I) 9 0).toInt = (I 9 0).toInt := by unfold c_I0; rw [wd_up_ne _ _ (by omega), e90]
    have hW1 : c_W T (ab_up g (k + 1) (ab_ra 4 0 (fun _ => none))) kw := c_W_up hW (by omega) (Nat.le_refl _)
    have h4 := fun (I' : wd_I) (c : ab_C) (kk z' : Nat) => c_W_x (I := I') (P := P) (M := M) (kk := kk) (z := z') (x := k) (c := c) hW1 ha (by omega)
    have hpair := fun (Q : ab_Q) hq => y_mkN (d := d - 1) (I := c_I0 (c_fI I)) (P := P) (M := M) (g := c_g4n g k a) (k := k + 1 + 1) (z := z + 2 + 0) (Q := Q) (by omega) (c_g4n_W (a := a) hW hkw) (by omega) h125 (kd := ab_ii 1) (wo := ab_ii 0) (pa := k) (np := 2) (r := a) (fp := c_two a (some a)) ⟨wd_mut_new (by omega), ab_up_self _ _ _⟩ (by omega) (by omega) (c_two_T ha ha) (by omega) ⟨by omega, by omega⟩ hq
    have eG : ab_up (ab_up g (k + 1) (ab_ra 4 0 (fun _ => none))) k (ab_ra 4 2 (ab_up (ab_up (fun _ => none) 0 (some a)) 1 (some a))) = c_g4n g k a := rfl
    clear hmk
    refine wd_inC rfl (by omega) rfl ?_
    intro C9 X9 hC9 hX9
    repeat' ((conv => whnf); first
    | (apply w_newR (n := 2); (focus (rfl)); (focus (exact ⟨by omega, by omega⟩)); (focus (omega)); (dsimp only))
    | (apply w_newR (n := 0); (focus (rfl)); (focus (exact ⟨by omega, by omega⟩)); (focus (omega)); (dsimp only))
    | (rw [eF]; refine hC9 7 _ _ _ (hmk2 _ ?_))
    | (exact hC9 7 _ _ _ (hpair _ hQ))
    | (apply w_aasG (wd_mut_new (by omega)); (focus (first | exact ⟨by decide, by decide⟩ | ((try simp (disch := omega) only [ab_tI, ab_c0, wd_ix12, wd_ix8, wd_ix10, wd_up_self, wd_up_eq, wd_up_ne, Int.toNat_natCast, Int.toNat_of_nonneg, not_true_eq_false, not_false_eq_true, Option.some.injEq]); omega))); (focus (intro v9 hv9; cases hv9; first | exact i_ex (h3 _ _ _ _) | exact i_ex (h4 _ _ _ _))); (intro e9 he9; (try simp (disch := omega) only [ab_tI, ab_c0, wd_ix12, wd_ix8, wd_ix10, wd_up_self, wd_up_eq, wd_up_ne, Int.toNat_natCast, Int.toNat_of_nonneg, not_true_eq_false, not_false_eq_true, Option.some.injEq] at he9); subst he9))
    | (apply i_getN; (focus (exact rfl)); (focus (exact rfl)); (intro v9 hv9; (try simp (disch := omega) only [ab_tI, ab_c0, wd_ix12, wd_ix8, wd_ix10, wd_up_self, wd_up_eq, wd_up_ne, Int.toNat_natCast, Int.toNat_of_nonneg, not_true_eq_false, not_false_eq_true, Option.some.injEq, e102, e103] at hv9); subst hv9))
    | (intro v9 hv9; (try simp (disch := omega) only [ab_tI, ab_c0, wd_ix12, wd_ix8, wd_ix10, wd_up_self, wd_up_eq, wd_up_ne, Int.toNat_natCast, Int.toNat_of_nonneg, not_true_eq_false, not_false_eq_true, Option.some.injEq, e102, e103] at hv9); subst hv9)
    | (apply i_get; (focus (exact rfl)); (focus (exact rfl)))
    | (refine hX9 _ _ _ _ (wd_rnC rfl ?_); clear hC9 hX9 X9 C9; intro C9 X9 hC9 hX9)
    | (apply w_ialM; (focus (exact rfl)); (focus (exact (by first | exact ⟨by decide, by decide⟩ | ((try simp (disch := omega) only [ab_tI, ab_c0, wd_ix12, wd_ix8, wd_ix10, wd_up_self, wd_up_eq, wd_up_ne, Int.toNat_natCast, Int.toNat_of_nonneg, not_true_eq_false, not_false_eq_true, Option.some.injEq, e102, e103, wd_l103, wd_l104, wd_l105, wd_l106, wd_l107, wd_l108, wd_l109, wd_l110, wd_l111, wd_l112, wd_l113, wd_l114, wd_l115, wd_l116, wd_l117, wd_l118, wd_l119, wd_l120, wd_l121, wd_l122, wd_l123, wd_l124]); omega)))); (intro v9 hv9; (try simp (disch := omega) only [ab_tI, ab_c0, wd_ix12, wd_ix8, wd_ix10, wd_up_self, wd_up_eq, wd_up_ne, Int.toNat_natCast, Int.toNat_of_nonneg, not_true_eq_false, not_false_eq_true, Option.some.injEq, e102, e103] at hv9); subst hv9))
    | (apply w_putM; (focus (exact rfl)); (focus (first | exact trivial | exact Or.inl rfl | exact Or.inr rfl)); (focus (exact rfl)))
    | (apply w_iasM; (focus (exact rfl)); (focus (exact (by first | exact ⟨by decide, by decide⟩ | ((try simp (disch := omega) only [ab_tI, ab_c0, wd_ix12, wd_ix8, wd_ix10, wd_up_self, wd_up_eq, wd_up_ne, Int.toNat_natCast, Int.toNat_of_nonneg, not_true_eq_false, not_false_eq_true, Option.some.injEq, e102, e103, wd_l103, wd_l104, wd_l105, wd_l106, wd_l107, wd_l108, wd_l109, wd_l110, wd_l111, wd_l112, wd_l113, wd_l114, wd_l115, wd_l116, wd_l117, wd_l118, wd_l119, wd_l120, wd_l121, wd_l122, wd_l123, wd_l124]); omega)))); (intro v9 hv9; (try simp (disch := omega) only [ab_tI, ab_c0, wd_ix12, wd_ix8, wd_ix10, wd_up_self, wd_up_eq, wd_up_ne, Int.toNat_natCast, Int.toNat_of_nonneg, not_true_eq_false, not_false_eq_true, Option.some.injEq, e102, e103] at hv9); subst hv9))
    | (refine i_brF (by decide) ?_)
    | (refine i_brT (by decide) ?_)
    | (refine ⟨fun hc => ?_, fun hc => ?_⟩ <;> (try simp (disch := omega) only [ab_tI, ab_c0, wd_ix12, wd_ix8, wd_ix10, wd_up_self, wd_up_eq, wd_up_ne, Int.toNat_natCast, Int.toNat_of_nonneg, not_true_eq_false, not_false_eq_true, Option.some.injEq, e102, e103] at hc) <;> first | (exfalso; omega) | skip)
    | (apply i_cv; (focus (exact rfl)))
    | (apply i_len; (focus (exact rfl)))
    | (apply w_putI; (focus (exact rfl)); (focus (exact rfl)); (focus (exact rfl)); (focus (first | exact trivial | exact Or.inl rfl | exact Or.inr rfl)); (focus (exact rfl)))
    | (apply w_putP; (focus (exact rfl)); (focus (exact rfl)); (focus (exact rfl)); (focus (exact trivial)); (focus (exact rfl)))
    | (apply i_ialN; (focus (exact rfl)); (focus (first | exact Or.inl rfl | exact Or.inr rfl)); (focus (exact (by first | exact ⟨by decide, by decide⟩ | ((try simp (disch := omega) only [ab_tI, ab_c0, wd_ix12, wd_ix8, wd_ix10, wd_up_self, wd_up_eq, wd_up_ne, Int.toNat_natCast, Int.toNat_of_nonneg, not_true_eq_false, not_false_eq_true, Option.some.injEq, e102, e103, wd_l103, wd_l104, wd_l105, wd_l106, wd_l107, wd_l108, wd_l109, wd_l110, wd_l111, wd_l112, wd_l113, wd_l114, wd_l115, wd_l116, wd_l117, wd_l118, wd_l119, wd_l120, wd_l121, wd_l122, wd_l123, wd_l124]); omega)))); (intro v9 hv9; (try simp (disch := omega) only [ab_tI, ab_c0, wd_ix12, wd_ix8, wd_ix10, wd_up_self, wd_up_eq, wd_up_ne, Int.toNat_natCast, Int.toNat_of_nonneg, not_true_eq_false, not_false_eq_true, Option.some.injEq, e102, e103] at hv9); subst hv9))
    | (apply i_aalN; (focus (exact rfl)); (focus (exact (by first | exact ⟨by decide, by decide⟩ | ((try simp (disch := omega) only [ab_tI, ab_c0, wd_ix12, wd_ix8, wd_ix10, wd_up_self, wd_up_eq, wd_up_ne, Int.toNat_natCast, Int.toNat_of_nonneg, not_true_eq_false, not_false_eq_true, Option.some.injEq, e102, e103, wd_l103, wd_l104, wd_l105, wd_l106, wd_l107, wd_l108, wd_l109, wd_l110, wd_l111, wd_l112, wd_l113, wd_l114, wd_l115, wd_l116, wd_l117, wd_l118, wd_l119, wd_l120, wd_l121, wd_l122, wd_l123, wd_l124]); omega)))); (intro v9 hv9; (try simp (disch := omega) only [ab_tI, ab_c0, wd_ix12, wd_ix8, wd_ix10, wd_up_self, wd_up_eq, wd_up_ne, Int.toNat_natCast, Int.toNat_of_nonneg, not_true_eq_false, not_false_eq_true, Option.some.injEq, e102, e103] at hv9); subst hv9))
    | (apply w_iasI; (focus (exact rfl)); (focus (exact rfl)); (focus (exact (by first | exact ⟨by decide, by decide⟩ | ((try simp (disch := omega) only [ab_tI, ab_c0, wd_ix12, wd_ix8, wd_ix10, wd_up_self, wd_up_eq, wd_up_ne, Int.toNat_natCast, Int.toNat_of_nonneg, not_true_eq_false, not_false_eq_true, Option.some.injEq, e102, e103, wd_l103, wd_l104, wd_l105, wd_l106, wd_l107, wd_l108, wd_l109, wd_l110, wd_l111, wd_l112, wd_l113, wd_l114, wd_l115, wd_l116, wd_l117, wd_l118, wd_l119, wd_l120, wd_l121, wd_l122, wd_l123, wd_l124]); omega)))); (focus (intro _; exact rfl)); (intro v9 hv9; (try simp (disch := omega) only [ab_tI, ab_c0, wd_ix12, wd_ix8, wd_ix10, wd_up_self, wd_up_eq, wd_up_ne, Int.toNat_natCast, Int.toNat_of_nonneg, not_true_eq_false, not_false_eq_true, Option.some.injEq, e102, e103] at hv9); subst hv9))
    | (apply w_balM; (focus (exact (by first | exact ⟨by decide, by decide⟩ | ((try simp (disch := omega) only [ab_tI, ab_c0, wd_ix12, wd_ix8, wd_ix10, wd_up_self, wd_up_eq, wd_up_ne, Int.toNat_natCast, Int.toNat_of_nonneg, not_true_eq_false, not_false_eq_true, Option.some.injEq, e102, e103, wd_l103, wd_l104, wd_l105, wd_l106, wd_l107, wd_l108, wd_l109, wd_l110, wd_l111, wd_l112, wd_l113, wd_l114, wd_l115, wd_l116, wd_l117, wd_l118, wd_l119, wd_l120, wd_l121, wd_l122, wd_l123, wd_l124]); omega)))); (intro v9 hv9; (try simp (disch := omega) only [ab_tI, ab_c0, wd_ix12, wd_ix8, wd_ix10, wd_up_self, wd_up_eq, wd_up_ne, Int.toNat_natCast, Int.toNat_of_nonneg, not_true_eq_false, not_false_eq_true, Option.some.injEq, e102, e103] at hv9); subst hv9))
    | (apply w_basM; (focus (exact (by first | exact ⟨by decide, by decide⟩ | ((try simp (disch := omega) only [ab_tI, ab_c0, wd_ix12, wd_ix8, wd_ix10, wd_up_self, wd_up_eq, wd_up_ne, Int.toNat_natCast, Int.toNat_of_nonneg, not_true_eq_false, not_false_eq_true, Option.some.injEq, e102, e103, wd_l103, wd_l104, wd_l105, wd_l106, wd_l107, wd_l108, wd_l109, wd_l110, wd_l111, wd_l112, wd_l113, wd_l114, wd_l115, wd_l116, wd_l117, wd_l118, wd_l119, wd_l120, wd_l121, wd_l122, wd_l123, wd_l124]); omega)))); (focus (first | exact Or.inl rfl | exact Or.inr rfl)); (intro v9 hv9; (try simp (disch := omega) only [ab_tI, ab_c0, wd_ix12, wd_ix8, wd_ix10, wd_up_self, wd_up_eq, wd_up_ne, Int.toNat_natCast, Int.toNat_of_nonneg, not_true_eq_false, not_false_eq_true, Option.some.injEq, e102, e103] at hv9); subst hv9))
    | (refine And.intro trivial ?_)
    | (refine And.intro (Or.inl rfl) ?_)
    | (refine And.intro (Or.inr rfl) ?_)
    | (refine And.intro (by ((try simp (disch := omega) only [ab_tI, ab_c0, wd_ix12, wd_ix8, wd_ix10, wd_up_self, wd_up_eq, wd_up_ne, Int.toNat_natCast, Int.toNat_of_nonneg, not_true_eq_false, not_false_eq_true, Option.some.injEq, e102, e103]); omega)) ?_)
    | fail)
    all_goals (exfalso; omega)
set_option maxHeartbeats 4000000 in
set_option maxRecDepth 100000 in
theorem y_focus_5 (hd : 48 ≤ d) (hW : c_W T g kw) (hkw : kw ≤ k) (h125 : 125 ≤ kw) {a gv : Nat} (ha : T a) (h0 : 0 ≤ (I 9 0).toInt ∧ (I 9 0).toInt ≤ 3000) (hhow : (I 10 2).toInt = 5 ∨ (I 10 2).toInt = 6 ∨ (I 10 2).toInt = 7 ∨ (8 ≤ (I 10 2).toInt ∧ (I 10 2).toInt ≤ 11)) (hgv : P 10 4 = some gv ∨ 8 ≤ (I 10 2).toInt ∨ (I 10 2).toInt ≤ 6) (hr : k + 6 ≤ 600000 ∧ z + 21 ≤ 7302250) (hQ : Q (some (wd_v (c_foc gv (I, g, k, z) a).1)) (c_S P M (c_foc gv (I, g, k, z) a).2)) : ab_CT d 4 [wd_v 10, wd_v a] (wd I P M g, k, z) Q := by
  have hak : a < kw := (hW a ha).1.2
  have e90 : c_fI I 9 0 = I 9 0 := wd_up_ne _ _ (by omega)
  have e102 : c_fI I 10 2 = I 10 2 := wd_up_ne _ _ (by omega)
  have e103 : c_fI I 10 3 = I 10 3 := wd_up_ne _ _ (by omega)
  have eF : wd_up I 10 5 (ab_ii ((I 10 5).toInt + 1)) = c_fI I := rfl
  have hWk := c_W_mono hW hkw
  have h1 := c_W_c (I := c_fI I) (P := P) (M := M) (z := z) hWk ha
  unfold c_foc at hQ
  dsimp only at hQ
  rw [if_neg (by omega), if_neg (by omega)] at hQ
  have hmk := fun (kd wo : Int32) (Q : ab_Q) hq => y_mkN (d := d - 1) (I := c_fI I) (P := P) (M := M) (g := ab_up g k (ab_ra 4 1 (ab_up (fun _ => none) 0 (some a)))) (k := k + 1) (z := z + 1) (Q := Q) (by omega) (c_W_up hW hkw (Nat.le_refl _)) (by omega) h125 (kd := kd) (wo := wo) (pa := k) (np := 1) (r := a) (fp := ab_up (fun _ => none) 0 (some a)) ⟨wd_mut_new (by omega), ab_up_self _ _ _⟩ (by omega) (by omega) (c_one_T ha) (by rw [e90]; exact h0) ⟨by omega, by omega⟩ hq
  have hjo := fun (Q : ab_Q) hq => y_justOne (d := d - 1) (I := c_fI I) (P := P) (M := M) (k := k) (z := z) (Q := Q) (by omega) hW hkw h125 ha ⟨by omega, by omega⟩ hq
  have hor := fun (Q : ab_Q) hq => y_order (d := d - 1) (I := c_fI I) (P := P) (M := M) (k := k) (z := z) (Q := Q) (by omega) hW hkw h125 ha (by rw [e90]; exact h0) ⟨by omega, by omega⟩ hq
  by_cases c5 : (I 10 2).toInt = 5
  · rw [if_pos c5] at hQ
    refine wd_inC rfl (by omega) rfl ?_
    intro C9 X9 hC9 hX9
    repeat' ((conv => whnf); first
    | (rw [eF]; refine hC9 10 _ _ _ (hjo _ ?_))
    | (exact hC9 7 _ _ _ (hmk _ _ _ hQ))
    | (apply i_getN; (focus (exact rfl)); (focus (exact rfl)); (intro v9 hv9; (try simp (disch := omega) only [ab_tI, ab_c0, wd_ix12, wd_ix8, wd_ix10, wd_up_self, wd_up_eq, wd_up_ne, Int.toNat_natCast, Int.toNat_of_nonneg, not_true_eq_false, not_false_eq_true, Option.some.injEq, e102, e103] at hv9); subst hv9))
    | (intro v9 hv9; (try simp (disch := omega) only [ab_tI, ab_c0, wd_ix12, wd_ix8, wd_ix10, wd_up_self, wd_up_eq, wd_up_ne, Int.toNat_natCast, Int.toNat_of_nonneg, not_true_eq_false, not_false_eq_true, Option.some.injEq, e102, e103] at hv9); subst hv9)
    | (apply i_get; (focus (exact rfl)); (focus (exact rfl)))
    | (refine hX9 _ _ _ _ (wd_rnC rfl ?_); clear hC9 hX9 X9 C9; intro C9 X9 hC9 hX9)
    | (apply w_ialM; (focus (exact rfl)); (focus (exact (by first | exact ⟨by decide, by decide⟩ | ((try simp (disch := omega) only [ab_tI, ab_c0, wd_ix12, wd_ix8, wd_ix10, wd_up_self, wd_up_eq, wd_up_ne, Int.toNat_natCast, Int.toNat_of_nonneg, not_true_eq_false, not_false_eq_true, Option.some.injEq, e102, e103, wd_l103, wd_l104, wd_l105, wd_l106, wd_l107, wd_l108, wd_l109, wd_l110, wd_l111, wd_l112, wd_l113, wd_l114, wd_l115, wd_l116, wd_l117, wd_l118, wd_l119, wd_l120, wd_l121, wd_l122, wd_l123, wd_l124]); omega)))); (intro v9 hv9; (try simp (disch := omega) only [ab_tI, ab_c0, wd_ix12, wd_ix8, wd_ix10, wd_up_self, wd_up_eq, wd_up_ne, Int.toNat_natCast, Int.toNat_of_nonneg, not_true_eq_false, not_false_eq_true, Option.some.injEq, e102, e103] at hv9); subst hv9))
    | (apply w_putM; (focus (exact rfl)); (focus (first | exact trivial | exact Or.inl rfl | exact Or.inr rfl)); (focus (exact rfl)))
    | (apply w_iasM; (focus (exact rfl)); (focus (exact (by first | exact ⟨by decide, by decide⟩ | ((try simp (disch := omega) only [ab_tI, ab_c0, wd_ix12, wd_ix8, wd_ix10, wd_up_self, wd_up_eq, wd_up_ne, Int.toNat_natCast, Int.toNat_of_nonneg, not_true_eq_false, not_false_eq_true, Option.some.injEq, e102, e103, wd_l103, wd_l104, wd_l105, wd_l106, wd_l107, wd_l108, wd_l109, wd_l110, wd_l111, wd_l112, wd_l113, wd_l114, wd_l115, wd_l116, wd_l117, wd_l118, wd_l119, wd_l120, wd_l121, wd_l122, wd_l123, wd_l124]); omega)))); (intro v9 hv9; (try simp (disch := omega) only [ab_tI, ab_c0, wd_ix12, wd_ix8, wd_ix10, wd_up_self, wd_up_eq, wd_up_ne, Int.toNat_natCast, Int.toNat_of_nonneg, not_true_eq_false, not_false_eq_true, Option.some.injEq, e102, e103] at hv9); subst hv9))
    | (refine i_brF (by decide) ?_)
    | (refine i_brT (by decide) ?_)
    | (refine ⟨fun hc => ?_, fun hc => ?_⟩ <;> (try simp (disch := omega) only [ab_tI, ab_c0, wd_ix12, wd_ix8, wd_ix10, wd_up_self, wd_up_eq, wd_up_ne, Int.toNat_natCast, Int.toNat_of_nonneg, not_true_eq_false, not_false_eq_true, Option.some.injEq, e102, e103] at hc) <;> first | (exfalso; omega) | skip)
    | (apply i_cv; (focus (exact rfl)))
    | (apply i_len; (focus (exact rfl)))
    | (apply w_putI; (focus (exact rfl)); (focus (exact rfl)); (focus (exact rfl)); (focus (first | exact trivial | exact Or.inl rfl | exact Or.inr rfl)); (focus (exact rfl)))
    | (apply w_putP; (focus (exact rfl)); (focus (exact rfl)); (focus (exact rfl)); (focus (exact trivial)); (focus (exact rfl)))
    | (apply i_ialN; (focus (exact rfl)); (focus (first | exact Or.inl rfl | exact Or.inr rfl)); (focus (exact (by first | exact ⟨by decide, by decide⟩ | ((try simp (disch := omega) only [ab_tI, ab_c0, wd_ix12, wd_ix8, wd_ix10, wd_up_self, wd_up_eq, wd_up_ne, Int.toNat_natCast, Int.toNat_of_nonneg, not_true_eq_false, not_false_eq_true, Option.some.injEq, e102, e103, wd_l103, wd_l104, wd_l105, wd_l106, wd_l107, wd_l108, wd_l109, wd_l110, wd_l111, wd_l112, wd_l113, wd_l114, wd_l115, wd_l116, wd_l117, wd_l118, wd_l119, wd_l120, wd_l121, wd_l122, wd_l123, wd_l124]); omega)))); (intro v9 hv9; (try simp (disch := omega) only [ab_tI, ab_c0, wd_ix12, wd_ix8, wd_ix10, wd_up_self, wd_up_eq, wd_up_ne, Int.toNat_natCast, Int.toNat_of_nonneg, not_true_eq_false, not_false_eq_true, Option.some.injEq, e102, e103] at hv9); subst hv9))
    | (apply i_aalN; (focus (exact rfl)); (focus (exact (by first | exact ⟨by decide, by decide⟩ | ((try simp (disch := omega) only [ab_tI, ab_c0, wd_ix12, wd_ix8, wd_ix10, wd_up_self, wd_up_eq, wd_up_ne, Int.toNat_natCast, Int.toNat_of_nonneg, not_true_eq_false, not_false_eq_true, Option.some.injEq, e102, e103, wd_l103, wd_l104, wd_l105, wd_l106, wd_l107, wd_l108, wd_l109, wd_l110, wd_l111, wd_l112, wd_l113, wd_l114, wd_l115, wd_l116, wd_l117, wd_l118, wd_l119, wd_l120, wd_l121, wd_l122, wd_l123, wd_l124]); omega)))); (intro v9 hv9; (try simp (disch := omega) only [ab_tI, ab_c0, wd_ix12, wd_ix8, wd_ix10, wd_up_self, wd_up_eq, wd_up_ne, Int.toNat_natCast, Int.toNat_of_nonneg, not_true_eq_false, not_false_eq_true, Option.some.injEq, e102, e103] at hv9); subst hv9))
    | (apply w_iasI; (focus (exact rfl)); (focus (exact rfl)); (focus (exact (by first | exact ⟨by decide, by decide⟩ | ((try simp (disch := omega) only [ab_tI, ab_c0, wd_ix12, wd_ix8, wd_ix10, wd_up_self, wd_up_eq, wd_up_ne, Int.toNat_natCast, Int.toNat_of_nonneg, not_true_eq_false, not_false_eq_true, Option.some.injEq, e102, e103, wd_l103, wd_l104, wd_l105, wd_l106, wd_l107, wd_l108, wd_l109, wd_l110, wd_l111, wd_l112, wd_l113, wd_l114, wd_l115, wd_l116, wd_l117, wd_l118, wd_l119, wd_l120, wd_l121, wd_l122, wd_l123, wd_l124]); omega)))); (focus (intro _; exact rfl)); (intro v9 hv9; (try simp (disch := omega) only [ab_tI, ab_c0, wd_ix12, wd_ix8, wd_ix10, wd_up_self, wd_up_eq, wd_up_ne, Int.toNat_natCast, Int.toNat_of_nonneg, not_true_eq_false, not_false_eq_true, Option.some.injEq, e102, e103] at hv9); subst hv9))
    | (apply w_balM; (focus (exact (by first | exact ⟨by decide, by decide⟩ | ((try simp (disch := omega) only [ab_tI, ab_c0, wd_ix12, wd_ix8, wd_ix10, wd_up_self, wd_up_eq, wd_up_ne, Int.toNat_natCast, Int.toNat_of_nonneg, not_true_eq_false, not_false_eq_true, Option.some.injEq, e102, e103, wd_l103, wd_l104, wd_l105, wd_l106, wd_l107, wd_l108, wd_l109, wd_l110, wd_l111, wd_l112, wd_l113, wd_l114, wd_l115, wd_l116, wd_l117, wd_l118, wd_l119, wd_l120, wd_l121, wd_l122, wd_l123, wd_l124]); omega)))); (intro v9 hv9; (try simp (disch := omega) only [ab_tI, ab_c0, wd_ix12, wd_ix8, wd_ix10, wd_up_self, wd_up_eq, wd_up_ne, Int.toNat_natCast, Int.toNat_of_nonneg, not_true_eq_false, not_false_eq_true, Option.some.injEq, e102, e103] at hv9); subst hv9))
    | (apply w_basM; (focus (exact (by first | exact ⟨by decide, by decide⟩ | ((try simp (disch := omega) only [ab_tI, ab_c0, wd_ix12, wd_ix8, wd_ix10, wd_up_self, wd_up_eq, wd_up_ne, Int.toNat_natCast, Int.toNat_of_nonneg, not_true_eq_false, not_false_eq_true, Option.some.injEq, e102, e103, wd_l103, wd_l104, wd_l105, wd_l106, wd_l107, wd_l108, wd_l109, wd_l110, wd_l111, wd_l112, wd_l113, wd_l114, wd_l115, wd_l116, wd_l117, wd_l118, wd_l119, wd_l120, wd_l121, wd_l122, wd_l123, wd_l124]); omega)))); (focus (first | exact Or.inl rfl | exact Or.inr rfl)); (intro v9 hv9; (try simp (disch := omega) only [ab_tI, ab_c0, wd_ix12, wd_ix8, wd_ix10, wd_up_self, wd_up_eq, wd_up_ne, Int.toNat_natCast, Int.toNat_of_nonneg, not_true_eq_false, not_false_eq_true, Option.some.injEq, e102, e103] at hv9); subst hv9))
    | (refine And.intro trivial ?_)
    | (refine And.intro (Or.inl rfl) ?_)
    | (refine And.intro (Or.inr rfl) ?_)
    | (refine And.intro (by ((try simp (disch := omega) only [ab_tI, ab_c0, wd_ix12, wd_ix8, wd_ix10, wd_up_self, wd_up_eq, wd_up_ne, Int.toNat_natCast, Int.toNat_of_nonneg, not_true_eq_false, not_false_eq_true, Option.some.injEq, e102, e103]); omega)) ?_)
    | fail)
    all_goals (exfalso; omega)
  rw [if_neg c5] at hQ
  by_cases c6 : (I 10 2).toInt = 6
  · rw [if_pos c6] at hQ
    refine wd_inC rfl (by omega) rfl ?_
    intro C9 X9 hC9 hX9
    repeat' ((conv => whnf); first
    | (rw [eF]; refine hC9 10 _ _ _ (hjo _ ?_))
    | (exact hC9 7 _ _ _ (hmk _ _ _ hQ))
    | (apply i_getN; (focus (exact rfl)); (focus (exact rfl)); (intro v9 hv9; (try simp (disch := omega) only [ab_tI, ab_c0, wd_ix12, wd_ix8, wd_ix10, wd_up_self, wd_up_eq, wd_up_ne, Int.toNat_natCast, Int.toNat_of_nonneg, not_true_eq_false, not_false_eq_true, Option.some.injEq, e102, e103] at hv9); subst hv9))
    | (intro v9 hv9; (try simp (disch := omega) only [ab_tI, ab_c0, wd_ix12, wd_ix8, wd_ix10, wd_up_self, wd_up_eq, wd_up_ne, Int.toNat_natCast, Int.toNat_of_nonneg, not_true_eq_false, not_false_eq_true, Option.some.injEq, e102, e103] at hv9); subst hv9)
    | (apply i_get; (focus (exact rfl)); (focus (exact rfl)))
    | (refine hX9 _ _ _ _ (wd_rnC rfl ?_); clear hC9 hX9 X9 C9; intro C9 X9 hC9 hX9)
    | (apply w_ialM; (focus (exact rfl)); (focus (exact (by first | exact ⟨by decide, by decide⟩ | ((try simp (disch := omega) only [ab_tI, ab_c0, wd_ix12, wd_ix8, wd_ix10, wd_up_self, wd_up_eq, wd_up_ne, Int.toNat_natCast, Int.toNat_of_nonneg, not_true_eq_false, not_false_eq_true, Option.some.injEq, e102, e103, wd_l103, wd_l104, wd_l105, wd_l106, wd_l107, wd_l108, wd_l109, wd_l110, wd_l111, wd_l112, wd_l113, wd_l114, wd_l115, wd_l116, wd_l117, wd_l118, wd_l119, wd_l120, wd_l121, wd_l122, wd_l123, wd_l124]); omega)))); (intro v9 hv9; (try simp (disch := omega) only [ab_tI, ab_c0, wd_ix12, wd_ix8, wd_ix10, wd_up_self, wd_up_eq, wd_up_ne, Int.toNat_natCast, Int.toNat_of_nonneg, not_true_eq_false, not_false_eq_true, Option.some.injEq, e102, e103] at hv9); subst hv9))
    | (apply w_putM; (focus (exact rfl)); (focus (first | exact trivial | exact Or.inl rfl | exact Or.inr rfl)); (focus (exact rfl)))
    | (apply w_iasM; (focus (exact rfl)); (focus (exact (by first | exact ⟨by decide, by decide⟩ | ((try simp (disch := omega) only [ab_tI, ab_c0, wd_ix12, wd_ix8, wd_ix10, wd_up_self, wd_up_eq, wd_up_ne, Int.toNat_natCast, Int.toNat_of_nonneg, not_true_eq_false, not_false_eq_true, Option.some.injEq, e102, e103, wd_l103, wd_l104, wd_l105, wd_l106, wd_l107, wd_l108, wd_l109, wd_l110, wd_l111, wd_l112, wd_l113, wd_l114, wd_l115, wd_l116, wd_l117, wd_l118, wd_l119, wd_l120, wd_l121, wd_l122, wd_l123, wd_l124]); omega)))); (intro v9 hv9; (try simp (disch := omega) only [ab_tI, ab_c0, wd_ix12, wd_ix8, wd_ix10, wd_up_self, wd_up_eq, wd_up_ne, Int.toNat_natCast, Int.toNat_of_nonneg, not_true_eq_false, not_false_eq_true, Option.some.injEq, e102, e103] at hv9); subst hv9))
    | (refine i_brF (by decide) ?_)
    | (refine i_brT (by decide) ?_)
    | (refine ⟨fun hc => ?_, fun hc => ?_⟩ <;> (try simp (disch := omega) only [ab_tI, ab_c0, wd_ix12, wd_ix8, wd_ix10, wd_up_self, wd_up_eq, wd_up_ne, Int.toNat_natCast, Int.toNat_of_nonneg, not_true_eq_false, not_false_eq_true, Option.some.injEq, e102, e103] at hc) <;> first | (exfalso; omega) | skip)
    | (apply i_cv; (focus (exact rfl)))
    | (apply i_len; (focus (exact rfl)))
    | (apply w_putI; (focus (exact rfl)); (focus (exact rfl)); (focus (exact rfl)); (focus (first | exact trivial | exact Or.inl rfl | exact Or.inr rfl)); (focus (exact rfl)))
    | (apply w_putP; (focus (exact rfl)); (focus (exact rfl)); (focus (exact rfl)); (focus (exact trivial)); (focus (exact rfl)))
    | (apply i_ialN; (focus (exact rfl)); (focus (first | exact Or.inl rfl | exact Or.inr rfl)); (focus (exact (by first | exact ⟨by decide, by decide⟩ | ((try simp (disch := omega) only [ab_tI, ab_c0, wd_ix12, wd_ix8, wd_ix10, wd_up_self, wd_up_eq, wd_up_ne, Int.toNat_natCast, Int.toNat_of_nonneg, not_true_eq_false, not_false_eq_true, Option.some.injEq, e102, e103, wd_l103, wd_l104, wd_l105, wd_l106, wd_l107, wd_l108, wd_l109, wd_l110, wd_l111, wd_l112, wd_l113, wd_l114, wd_l115, wd_l116, wd_l117, wd_l118, wd_l119, wd_l120, wd_l121, wd_l122, wd_l123, wd_l124]); omega)))); (intro v9 hv9; (try simp (disch := omega) only [ab_tI, ab_c0, wd_ix12, wd_ix8, wd_ix10, wd_up_self, wd_up_eq, wd_up_ne, Int.toNat_natCast, Int.toNat_of_nonneg, not_true_eq_false, not_false_eq_true, Option.some.injEq, e102, e103] at hv9); subst hv9))
    | (apply i_aalN; (focus (exact rfl)); (focus (exact (by first | exact ⟨by decide, by decide⟩ | ((try simp (disch := omega) only [ab_tI, ab_c0, wd_ix12, wd_ix8, wd_ix10, wd_up_self, wd_up_eq, wd_up_ne, Int.toNat_natCast, Int.toNat_of_nonneg, not_true_eq_false, not_false_eq_true, Option.some.injEq, e102, e103, wd_l103, wd_l104, wd_l105, wd_l106, wd_l107, wd_l108, wd_l109, wd_l110, wd_l111, wd_l112, wd_l113, wd_l114, wd_l115, wd_l116, wd_l117, wd_l118, wd_l119, wd_l120, wd_l121, wd_l122, wd_l123, wd_l124]); omega)))); (intro v9 hv9; (try simp (disch := omega) only [ab_tI, ab_c0, wd_ix12, wd_ix8, wd_ix10, wd_up_self, wd_up_eq, wd_up_ne, Int.toNat_natCast, Int.toNat_of_nonneg, not_true_eq_false, not_false_eq_true, Option.some.injEq, e102, e103] at hv9); subst hv9))
    | (apply w_iasI; (focus (exact rfl)); (focus (exact rfl)); (focus (exact (by first | exact ⟨by decide, by decide⟩ | ((try simp (disch := omega) only [ab_tI, ab_c0, wd_ix12, wd_ix8, wd_ix10, wd_up_self, wd_up_eq, wd_up_ne, Int.toNat_natCast, Int.toNat_of_nonneg, not_true_eq_false, not_false_eq_true, Option.some.injEq, e102, e103, wd_l103, wd_l104, wd_l105, wd_l106, wd_l107, wd_l108, wd_l109, wd_l110, wd_l111, wd_l112, wd_l113, wd_l114, wd_l115, wd_l116, wd_l117, wd_l118, wd_l119, wd_l120, wd_l121, wd_l122, wd_l123, wd_l124]); omega)))); (focus (intro _; exact rfl)); (intro v9 hv9; (try simp (disch := omega) only [ab_tI, ab_c0, wd_ix12, wd_ix8, wd_ix10, wd_up_self, wd_up_eq, wd_up_ne, Int.toNat_natCast, Int.toNat_of_nonneg, not_true_eq_false, not_false_eq_true, Option.some.injEq, e102, e103] at hv9); subst hv9))
    | (apply w_balM; (focus (exact (by first | exact ⟨by decide, by decide⟩ | ((try simp (disch := omega) only [ab_tI, ab_c0, wd_ix12, wd_ix8, wd_ix10, wd_up_self, wd_up_eq, wd_up_ne, Int.toNat_natCast, Int.toNat_of_nonneg, not_true_eq_false, not_false_eq_true, Option.some.injEq, e102, e103, wd_l103, wd_l104, wd_l105, wd_l106, wd_l107, wd_l108, wd_l109, wd_l110, wd_l111, wd_l112, wd_l113, wd_l114, wd_l115, wd_l116, wd_l117, wd_l118, wd_l119, wd_l120, wd_l121, wd_l122, wd_l123, wd_l124]); omega)))); (intro v9 hv9; (try simp (disch := omega) only [ab_tI, ab_c0, wd_ix12, wd_ix8, wd_ix10, wd_up_self, wd_up_eq, wd_up_ne, Int.toNat_natCast, Int.toNat_of_nonneg, not_true_eq_false, not_false_eq_true, Option.some.injEq, e102, e103] at hv9); subst hv9))
    | (apply w_basM; (focus (exact (by first | exact ⟨by decide, by decide⟩ | ((try simp (disch := omega) only [ab_tI, ab_c0, wd_ix12, wd_ix8, wd_ix10, wd_up_self, wd_up_eq, wd_up_ne, Int.toNat_natCast, Int.toNat_of_nonneg, not_true_eq_false, not_false_eq_true, Option.some.injEq, e102, e103, wd_l103, wd_l104, wd_l105, wd_l106, wd_l107, wd_l108, wd_l109, wd_l110, wd_l111, wd_l112, wd_l113, wd_l114, wd_l115, wd_l116, wd_l117, wd_l118, wd_l119, wd_l120, wd_l121, wd_l122, wd_l123, wd_l124]); omega)))); (focus (first | exact Or.inl rfl | exact Or.inr rfl)); (intro v9 hv9; (try simp (disch := omega) only [ab_tI, ab_c0, wd_ix12, wd_ix8, wd_ix10, wd_up_self, wd_up_eq, wd_up_ne, Int.toNat_natCast, Int.toNat_of_nonneg, not_true_eq_false, not_false_eq_true, Option.some.injEq, e102, e103] at hv9); subst hv9))
    | (refine And.intro trivial ?_)
    | (refine And.intro (Or.inl rfl) ?_)
    | (refine And.intro (Or.inr rfl) ?_)
    | (refine And.intro (by ((try simp (disch := omega) only [ab_tI, ab_c0, wd_ix12, wd_ix8, wd_ix10, wd_up_self, wd_up_eq, wd_up_ne, Int.toNat_natCast, Int.toNat_of_nonneg, not_true_eq_false, not_false_eq_true, Option.some.injEq, e102, e103]); omega)) ?_)
    | fail)
    all_goals (exfalso; omega)
  rw [if_neg c6] at hQ
  by_cases c7 : (I 10 2).toInt = 7
  · rw [if_pos c7] at hQ
    have hg4 : P 10 4 = some gv := by
      rcases hgv with h | h | h
      · exact h
      · omega
      · omega
    refine wd_inC rfl (by omega) rfl ?_
    intro C9 X9 hC9 hX9
    (have chk9 := @hg4; clear chk9); repeat' ((conv => whnf); first
    | (apply i_getN; (focus (exact rfl)); (focus (exact rfl)); (intro v9 hv9; (try simp (disch := omega) only [ab_tI, ab_c0, wd_ix12, wd_ix8, wd_ix10, wd_up_self, wd_up_eq, wd_up_ne, Int.toNat_natCast, Int.toNat_of_nonneg, not_true_eq_false, not_false_eq_true, Option.some.injEq, e102, e103, hg4] at hv9); subst hv9))
    | (intro v9 hv9; (try simp (disch := omega) only [ab_tI, ab_c0, wd_ix12, wd_ix8, wd_ix10, wd_up_self, wd_up_eq, wd_up_ne, Int.toNat_natCast, Int.toNat_of_nonneg, not_true_eq_false, not_false_eq_true, Option.some.injEq, e102, e103, hg4] at hv9); subst hv9)
    | (apply i_get; (focus (exact rfl)); (focus (exact rfl)))
    | (refine hX9 _ _ _ _ (wd_rnC rfl ?_); clear hC9 hX9 X9 C9; intro C9 X9 hC9 hX9)
    | (apply w_ialM; (focus (exact rfl)); (focus (exact (by first | exact ⟨by decide, by decide⟩ | ((try simp (disch := omega) only [ab_tI, ab_c0, wd_ix12, wd_ix8, wd_ix10, wd_up_self, wd_up_eq, wd_up_ne, Int.toNat_natCast, Int.toNat_of_nonneg, not_true_eq_false, not_false_eq_true, Option.some.injEq, e102, e103, hg4, wd_l103, wd_l104, wd_l105, wd_l106, wd_l107, wd_l108, wd_l109, wd_l110, wd_l111, wd_l112, wd_l113, wd_l114, wd_l115, wd_l116, wd_l117, wd_l118, wd_l119, wd_l120, wd_l121, wd_l122, wd_l123, wd_l124]); omega)))); (intro v9 hv9; (try simp (disch := omega) only [ab_tI, ab_c0, wd_ix12, wd_ix8, wd_ix10, wd_up_self, wd_up_eq, wd_up_ne, Int.toNat_natCast, Int.toNat_of_nonneg, not_true_eq_false, not_false_eq_true, Option.some.injEq, e102, e103, hg4] at hv9); subst hv9))
    | (apply w_putM; (focus (exact rfl)); (focus (first | exact trivial | exact Or.inl rfl | exact Or.inr rfl)); (focus (exact rfl)))
    | (apply w_iasM; (focus (exact rfl)); (focus (exact (by first | exact ⟨by decide, by decide⟩ | ((try simp (disch := omega) only [ab_tI, ab_c0, wd_ix12, wd_ix8, wd_ix10, wd_up_self, wd_up_eq, wd_up_ne, Int.toNat_natCast, Int.toNat_of_nonneg, not_true_eq_false, not_false_eq_true, Option.some.injEq, e102, e103, hg4, wd_l103, wd_l104, wd_l105, wd_l106, wd_l107, wd_l108, wd_l109, wd_l110, wd_l111, wd_l112, wd_l113, wd_l114, wd_l115, wd_l116, wd_l117, wd_l118, wd_l119, wd_l120, wd_l121, wd_l122, wd_l123, wd_l124]); omega)))); (intro v9 hv9; (try simp (disch := omega) only [ab_tI, ab_c0, wd_ix12, wd_ix8, wd_ix10, wd_up_self, wd_up_eq, wd_up_ne, Int.toNat_natCast, Int.toNat_of_nonneg, not_true_eq_false, not_false_eq_true, Option.some.injEq, e102, e103, hg4] at hv9); subst hv9))
    | (refine i_brF (by decide) ?_)
    | (refine i_brT (by decide) ?_)
    | (refine ⟨fun hc => ?_, fun hc => ?_⟩ <;> (try simp (disch := omega) only [ab_tI, ab_c0, wd_ix12, wd_ix8, wd_ix10, wd_up_self, wd_up_eq, wd_up_ne, Int.toNat_natCast, Int.toNat_of_nonneg, not_true_eq_false, not_false_eq_true, Option.some.injEq, e102, e103, hg4] at hc) <;> first | (exfalso; omega) | skip)
    | (apply i_cv; (focus (exact rfl)))
    | (apply i_len; (focus (exact rfl)))
    | (apply w_putI; (focus (exact rfl)); (focus (exact rfl)); (focus (exact rfl)); (focus (first | exact trivial | exact Or.inl rfl | exact Or.inr rfl)); (focus (exact rfl)))
    | (apply w_putP; (focus (exact rfl)); (focus (exact rfl)); (focus (exact rfl)); (focus (exact trivial)); (focus (exact rfl)))
    | (apply i_ialN; (focus (exact rfl)); (focus (first | exact Or.inl rfl | exact Or.inr rfl)); (focus (exact (by first | exact ⟨by decide, by decide⟩ | ((try simp (disch := omega) only [ab_tI, ab_c0, wd_ix12, wd_ix8, wd_ix10, wd_up_self, wd_up_eq, wd_up_ne, Int.toNat_natCast, Int.toNat_of_nonneg, not_true_eq_false, not_false_eq_true, Option.some.injEq, e102, e103, hg4, wd_l103, wd_l104, wd_l105, wd_l106, wd_l107, wd_l108, wd_l109, wd_l110, wd_l111, wd_l112, wd_l113, wd_l114, wd_l115, wd_l116, wd_l117, wd_l118, wd_l119, wd_l120, wd_l121, wd_l122, wd_l123, wd_l124]); omega)))); (intro v9 hv9; (try simp (disch := omega) only [ab_tI, ab_c0, wd_ix12, wd_ix8, wd_ix10, wd_up_self, wd_up_eq, wd_up_ne, Int.toNat_natCast, Int.toNat_of_nonneg, not_true_eq_false, not_false_eq_true, Option.some.injEq, e102, e103, hg4] at hv9); subst hv9))
    | (apply i_aalN; (focus (exact rfl)); (focus (exact (by first | exact ⟨by decide, by decide⟩ | ((try simp (disch := omega) only [ab_tI, ab_c0, wd_ix12, wd_ix8, wd_ix10, wd_up_self, wd_up_eq, wd_up_ne, Int.toNat_natCast, Int.toNat_of_nonneg, not_true_eq_false, not_false_eq_true, Option.some.injEq, e102, e103, hg4, wd_l103, wd_l104, wd_l105, wd_l106, wd_l107, wd_l108, wd_l109, wd_l110, wd_l111, wd_l112, wd_l113, wd_l114, wd_l115, wd_l116, wd_l117, wd_l118, wd_l119, wd_l120, wd_l121, wd_l122, wd_l123, wd_l124]); omega)))); (intro v9 hv9; (try simp (disch := omega) only [ab_tI, ab_c0, wd_ix12, wd_ix8, wd_ix10, wd_up_self, wd_up_eq, wd_up_ne, Int.toNat_natCast, Int.toNat_of_nonneg, not_true_eq_false, not_false_eq_true, Option.some.injEq, e102, e103, hg4] at hv9); subst hv9))
    | (apply w_iasI; (focus (exact rfl)); (focus (exact rfl)); (focus (exact (by first | exact ⟨by decide, by decide⟩ | ((try simp (disch := omega) only [ab_tI, ab_c0, wd_ix12, wd_ix8, wd_ix10, wd_up_self, wd_up_eq, wd_up_ne, Int.toNat_natCast, Int.toNat_of_nonneg, not_true_eq_false, not_false_eq_true, Option.some.injEq, e102, e103, hg4, wd_l103, wd_l104, wd_l105, wd_l106, wd_l107, wd_l108, wd_l109, wd_l110, wd_l111, wd_l112, wd_l113, wd_l114, wd_l115, wd_l116, wd_l117, wd_l118, wd_l119, wd_l120, wd_l121, wd_l122, wd_l123, wd_l124]); omega)))); (focus (intro _; exact rfl)); (intro v9 hv9; (try simp (disch := omega) only [ab_tI, ab_c0, wd_ix12, wd_ix8, wd_ix10, wd_up_self, wd_up_eq, wd_up_ne, Int.toNat_natCast, Int.toNat_of_nonneg, not_true_eq_false, not_false_eq_true, Option.some.injEq, e102, e103, hg4] at hv9); subst hv9))
    | (apply w_balM; (focus (exact (by first | exact ⟨by decide, by decide⟩ | ((try simp (disch := omega) only [ab_tI, ab_c0, wd_ix12, wd_ix8, wd_ix10, wd_up_self, wd_up_eq, wd_up_ne, Int.toNat_natCast, Int.toNat_of_nonneg, not_true_eq_false, not_false_eq_true, Option.some.injEq, e102, e103, hg4, wd_l103, wd_l104, wd_l105, wd_l106, wd_l107, wd_l108, wd_l109, wd_l110, wd_l111, wd_l112, wd_l113, wd_l114, wd_l115, wd_l116, wd_l117, wd_l118, wd_l119, wd_l120, wd_l121, wd_l122, wd_l123, wd_l124]); omega)))); (intro v9 hv9; (try simp (disch := omega) only [ab_tI, ab_c0, wd_ix12, wd_ix8, wd_ix10, wd_up_self, wd_up_eq, wd_up_ne, Int.toNat_natCast, Int.toNat_of_nonneg, not_true_eq_false, not_false_eq_true, Option.some.injEq, e102, e103, hg4] at hv9); subst hv9))
    | (apply w_basM; (focus (exact (by first | exact ⟨by decide, by decide⟩ | ((try simp (disch := omega) only [ab_tI, ab_c0, wd_ix12, wd_ix8, wd_ix10, wd_up_self, wd_up_eq, wd_up_ne, Int.toNat_natCast, Int.toNat_of_nonneg, not_true_eq_false, not_false_eq_true, Option.some.injEq, e102, e103, hg4, wd_l103, wd_l104, wd_l105, wd_l106, wd_l107, wd_l108, wd_l109, wd_l110, wd_l111, wd_l112, wd_l113, wd_l114, wd_l115, wd_l116, wd_l117, wd_l118, wd_l119, wd_l120, wd_l121, wd_l122, wd_l123, wd_l124]); omega)))); (focus (first | exact Or.inl rfl | exact Or.inr rfl)); (intro v9 hv9; (try simp (disch := omega) only [ab_tI, ab_c0, wd_ix12, wd_ix8, wd_ix10, wd_up_self, wd_up_eq, wd_up_ne, Int.toNat_natCast, Int.toNat_of_nonneg, not_true_eq_false, not_false_eq_true, Option.some.injEq, e102, e103, hg4] at hv9); subst hv9))
    | (refine And.intro trivial ?_)
    | (refine And.intro (Or.inl rfl) ?_)
    | (refine And.intro (Or.inr rfl) ?_)
    | (refine And.intro (by ((try simp (disch := omega) only [ab_tI, ab_c0, wd_ix12, wd_ix8, wd_ix10, wd_up_self, wd_up_eq, wd_up_ne, Int.toNat_natCast, Int.toNat_of_nonneg, not_true_eq_false, not_false_eq_true, Option.some.injEq, e102, e103, hg4]); omega)) ?_)
    | fail)
    all_goals first | exact hQ | (rw [hg4]; exact hQ) | (exfalso; omega)
  · rw [if_neg c7] at hQ
    refine wd_inC rfl (by omega) rfl ?_
    intro C9 X9 hC9 hX9
    repeat' ((conv => whnf); first
    | (rw [eF]; exact hC9 5 _ _ _ (hor _ hQ))
    | (apply i_getN; (focus (exact rfl)); (focus (exact rfl)); (intro v9 hv9; (try simp (disch := omega) only [ab_tI, ab_c0, wd_ix12, wd_ix8, wd_ix10, wd_up_self, wd_up_eq, wd_up_ne, Int.toNat_natCast, Int.toNat_of_nonneg, not_true_eq_false, not_false_eq_true, Option.some.injEq, e102, e103] at hv9); subst hv9))
    | (intro v9 hv9; (try simp (disch := omega) only [ab_tI, ab_c0, wd_ix12, wd_ix8, wd_ix10, wd_up_self, wd_up_eq, wd_up_ne, Int.toNat_natCast, Int.toNat_of_nonneg, not_true_eq_false, not_false_eq_true, Option.some.injEq, e102, e103] at hv9); subst hv9)
    | (apply i_get; (focus (exact rfl)); (focus (exact rfl)))
    | (refine hX9 _ _ _ _ (wd_rnC rfl ?_); clear hC9 hX9 X9 C9; intro C9 X9 hC9 hX9)
    | (apply w_ialM; (focus (exact rfl)); (focus (exact (by first | exact ⟨by decide, by decide⟩ | ((try simp (disch := omega) only [ab_tI, ab_c0, wd_ix12, wd_ix8, wd_ix10, wd_up_self, wd_up_eq, wd_up_ne, Int.toNat_natCast, Int.toNat_of_nonneg, not_true_eq_false, not_false_eq_true, Option.some.injEq, e102, e103, wd_l103, wd_l104, wd_l105, wd_l106, wd_l107, wd_l108, wd_l109, wd_l110, wd_l111, wd_l112, wd_l113, wd_l114, wd_l115, wd_l116, wd_l117, wd_l118, wd_l119, wd_l120, wd_l121, wd_l122, wd_l123, wd_l124]); omega)))); (intro v9 hv9; (try simp (disch := omega) only [ab_tI, ab_c0, wd_ix12, wd_ix8, wd_ix10, wd_up_self, wd_up_eq, wd_up_ne, Int.toNat_natCast, Int.toNat_of_nonneg, not_true_eq_false, not_false_eq_true, Option.some.injEq, e102, e103] at hv9); subst hv9))
    | (apply w_putM; (focus (exact rfl)); (focus (first | exact trivial | exact Or.inl rfl | exact Or.inr rfl)); (focus (exact rfl)))
    | (apply w_iasM; (focus (exact rfl)); (focus (exact (by first | exact ⟨by decide, by decide⟩ | ((try simp (disch := omega) only [ab_tI, ab_c0, wd_ix12, wd_ix8, wd_ix10, wd_up_self, wd_up_eq, wd_up_ne, Int.toNat_natCast, Int.toNat_of_nonneg, not_true_eq_false, not_false_eq_true, Option.some.injEq, e102, e103, wd_l103, wd_l104, wd_l105, wd_l106, wd_l107, wd_l108, wd_l109, wd_l110, wd_l111, wd_l112, wd_l113, wd_l114, wd_l115, wd_l116, wd_l117, wd_l118, wd_l119, wd_l120, wd_l121, wd_l122, wd_l123, wd_l124]); omega)))); (intro v9 hv9; (try simp (disch := omega) only [ab_tI, ab_c0, wd_ix12, wd_ix8, wd_ix10, wd_up_self, wd_up_eq, wd_up_ne, Int.toNat_natCast, Int.toNat_of_nonneg, not_true_eq_false, not_false_eq_true, Option.some.injEq, e102, e103] at hv9); subst hv9))
    | (refine i_brF (by decide) ?_)
    | (refine i_brT (by decide) ?_)
    | (refine ⟨fun hc => ?_, fun hc => ?_⟩ <;> (try simp (disch := omega) only [ab_tI, ab_c0, wd_ix12, wd_ix8, wd_ix10, wd_up_self, wd_up_eq, wd_up_ne, Int.toNat_natCast, Int.toNat_of_nonneg, not_true_eq_false, not_false_eq_true, Option.some.injEq, e102, e103] at hc) <;> first | (exfalso; omega) | skip)
    | (apply i_cv; (focus (exact rfl)))
    | (apply i_len; (focus (exact rfl)))
    | (apply w_putI; (focus (exact rfl)); (focus (exact rfl)); (focus (exact rfl)); (focus (first | exact trivial | exact Or.inl rfl | exact Or.inr rfl)); (focus (exact rfl)))
    | (apply w_putP; (focus (exact rfl)); (focus (exact rfl)); (focus (exact rfl)); (focus (exact trivial)); (focus (exact rfl)))
    | (apply i_ialN; (focus (exact rfl)); (focus (first | exact Or.inl rfl | exact Or.inr rfl)); (focus (exact (by first | exact ⟨by decide, by decide⟩ | ((try simp (disch := omega) only [ab_tI, ab_c0, wd_ix12, wd_ix8, wd_ix10, wd_up_self, wd_up_eq, wd_up_ne, Int.toNat_natCast, Int.toNat_of_nonneg, not_true_eq_false, not_false_eq_true, Option.some.injEq, e102, e103, wd_l103, wd_l104, wd_l105, wd_l106, wd_l107, wd_l108, wd_l109, wd_l110, wd_l111, wd_l112, wd_l113, wd_l114, wd_l115, wd_l116, wd_l117, wd_l118, wd_l119, wd_l120, wd_l121, wd_l122, wd_l123, wd_l124]); omega)))); (intro v9 hv9; (try simp (disch := omega) only [ab_tI, ab_c0, wd_ix12, wd_ix8, wd_ix10, wd_up_self, wd_up_eq, wd_up_ne, Int.toNat_natCast, Int.toNat_of_nonneg, not_true_eq_false, not_false_eq_true, Option.some.injEq, e102, e103] at hv9); subst hv9))
    | (apply i_aalN; (focus (exact rfl)); (focus (exact (by first | exact ⟨by decide, by decide⟩ | ((try simp (disch := omega) only [ab_tI, ab_c0, wd_ix12, wd_ix8, wd_ix10, wd_up_self, wd_up_eq, wd_up_ne, Int.toNat_natCast, Int.toNat_of_nonneg, not_true_eq_false, not_false_eq_true, Option.some.injEq, e102, e103, wd_l103, wd_l104, wd_l105, wd_l106, wd_l107, wd_l108, wd_l109, wd_l110, wd_l111, wd_l112, wd_l113, wd_l114, wd_l115, wd_l116, wd_l117, wd_l118, wd_l119, wd_l120, wd_l121, wd_l122, wd_l123, wd_l124]); omega)))); (intro v9 hv9; (try simp (disch := omega) only [ab_tI, ab_c0, wd_ix12, wd_ix8, wd_ix10, wd_up_self, wd_up_eq, wd_up_ne, Int.toNat_natCast, Int.toNat_of_nonneg, not_true_eq_false, not_false_eq_true, Option.some.injEq, e102, e103] at hv9); subst hv9))
    | (apply w_iasI; (focus (exact rfl)); (focus (exact rfl)); (focus (exact (by first | exact ⟨by decide, by decide⟩ | ((try simp (disch := omega) only [ab_tI, ab_c0, wd_ix12, wd_ix8, wd_ix10, wd_up_self, wd_up_eq, wd_up_ne, Int.toNat_natCast, Int.toNat_of_nonneg, not_true_eq_false, not_false_eq_true, Option.some.injEq, e102, e103, wd_l103, wd_l104, wd_l105, wd_l106, wd_l107, wd_l108, wd_l109, wd_l110, wd_l111, wd_l112, wd_l113, wd_l114, wd_l115, wd_l116, wd_l117, wd_l118, wd_l119, wd_l120, wd_l121, wd_l122, wd_l123, wd_l124]); omega)))); (focus (intro _; exact rfl)); (intro v9 hv9; (try simp (disch := omega) only [ab_tI, ab_c0, wd_ix12, wd_ix8, wd_ix10, wd_up_self, wd_up_eq, wd_up_ne, Int.toNat_natCast, Int.toNat_of_nonneg, not_true_eq_false, not_false_eq_true, Option.some.injEq, e102, e103] at hv9); subst hv9))
    | (apply w_balM; (focus (exact (by first | exact ⟨by decide, by decide⟩ | ((try simp (disch := omega) only [ab_tI, ab_c0, wd_ix12, wd_ix8, wd_ix10, wd_up_self, wd_up_eq, wd_up_ne, Int.toNat_natCast, Int.toNat_of_nonneg, not_true_eq_false, not_false_eq_true, Option.some.injEq, e102, e103, wd_l103, wd_l104, wd_l105, wd_l106, wd_l107, wd_l108, wd_l109, wd_l110, wd_l111, wd_l112, wd_l113, wd_l114, wd_l115, wd_l116, wd_l117, wd_l118, wd_l119, wd_l120, wd_l121, wd_l122, wd_l123, wd_l124]); omega)))); (intro v9 hv9; (try simp (disch := omega) only [ab_tI, ab_c0, wd_ix12, wd_ix8, wd_ix10, wd_up_self, wd_up_eq, wd_up_ne, Int.toNat_natCast, Int.toNat_of_nonneg, not_true_eq_false, not_false_eq_true, Option.some.injEq, e102, e103] at hv9); subst hv9))
    | (apply w_basM; (focus (exact (by first | exact ⟨by decide, by decide⟩ | ((try simp (disch := omega) only [ab_tI, ab_c0, wd_ix12, wd_ix8, wd_ix10, wd_up_self, wd_up_eq, wd_up_ne, Int.toNat_natCast, Int.toNat_of_nonneg, not_true_eq_false, not_false_eq_true, Option.some.injEq, e102, e103, wd_l103, wd_l104, wd_l105, wd_l106, wd_l107, wd_l108, wd_l109, wd_l110, wd_l111, wd_l112, wd_l113, wd_l114, wd_l115, wd_l116, wd_l117, wd_l118, wd_l119, wd_l120, wd_l121, wd_l122, wd_l123, wd_l124]); omega)))); (focus (first | exact Or.inl rfl | exact Or.inr rfl)); (intro v9 hv9; (try simp (disch := omega) only [ab_tI, ab_c0, wd_ix12, wd_ix8, wd_ix10, wd_up_self, wd_up_eq, wd_up_ne, Int.toNat_natCast, Int.toNat_of_nonneg, not_true_eq_false, not_false_eq_true, Option.some.injEq, e102, e103] at hv9); subst hv9))
    | (refine And.intro trivial ?_)
    | (refine And.intro (Or.inl rfl) ?_)
    | (refine And.intro (Or.inr rfl) ?_)
    | (refine And.intro (by ((try simp (disch := omega) only [ab_tI, ab_c0, wd_ix12, wd_ix8, wd_ix10, wd_up_self, wd_up_eq, wd_up_ne, Int.toNat_natCast, Int.toNat_of_nonneg, not_true_eq_false, not_false_eq_true, Option.some.injEq, e102, e103]); omega)) ?_)
    | fail)
    all_goals (exfalso; omega)
theorem y_focus (hd : 48 ≤ d) (hW : c_W T g kw) (hkw : kw ≤ k) (h125 : 125 ≤ kw) {a gv : Nat} (ha : T a) (h0 : 0 ≤ (I 9 0).toInt ∧ (I 9 0).toInt ≤ 3000) (hsp : (I 10 6).toInt = 0) (hhow : 0 ≤ (I 10 2).toInt ∧ (I 10 2).toInt ≤ 11) (hgv : (I 10 2).toInt = 7 → P 10 4 = some gv) (hr : k + 6 ≤ 600000 ∧ z + 21 ≤ 7302250) (hQ : Q (some (wd_v (c_foc gv (I, g, k, z) a).1)) (c_S P M (c_foc gv (I, g, k, z) a).2)) : ab_CT d 4 [wd_v 10, wd_v a] (wd I P M g, k, z) Q := by
  by_cases c3 : (I 10 2).toInt < 4
  · exact y_focus_n hd hW hkw h125 ha h0 hsp ⟨hhow.1, c3⟩ ⟨hr.1, by omega⟩ hQ
  by_cases c4 : (I 10 2).toInt = 4
  · exact y_focus_4 hd hW hkw h125 ha h0 hsp c4 ⟨hr.1, by omega⟩ hQ
  · refine y_focus_5 hd hW hkw h125 ha h0 (by omega) ?_ hr hQ
    by_cases c7 : (I 10 2).toInt = 7
    · exact Or.inl (hgv c7)
    · omega
end
end
section
/-! ===== the class: what OVER makes are things (own text) ===== -/
/-- nothing but what is made, the foci counted, and spent -/
def c_Ifr (I I' : wd_I) : Prop := ∀ a j, ¬ (a = 9 ∧ j = 0) → ¬ (a = 10 ∧ (j = 5 ∨ j = 6)) → I' a j = I a j
theorem c_Ifr.rf {I : wd_I} : c_Ifr I I := fun _ _ _ _ => rfl
theorem c_Ifr.tr {I I' I'' : wd_I} (h : c_Ifr I I') (h' : c_Ifr I' I'') : c_Ifr I I'' := fun a j h1 h2 => (h' a j h1 h2).trans (h a j h1 h2)
theorem c_Ifr_f {I : wd_I} : c_Ifr I (c_fI I) := fun a j h1 h2 => wd_up_ne _ _ (by omega)
theorem c_Ifr_1 {I : wd_I} : c_Ifr I (c_I1 I) := fun a j h1 h2 => wd_up_ne _ _ (by omega)
theorem c_Ifr_0 {I : wd_I} : c_Ifr I (c_I0 I) := fun a j h1 h2 => wd_up_ne _ _ (by omega)
/-- old cells as they were -/
def c_ofr (k : Nat) (g g' : Nat → ab_C) : Prop := ∀ b, b < k → wd_mut b = false → g' b = g b
theorem c_ofr.rf {k : Nat} {g : Nat → ab_C} : c_ofr k g g := fun _ _ _ => rfl
theorem c_ofr.tr {k k' : Nat} {g g' g'' : Nat → ab_C} (h : c_ofr k g g') (h' : c_ofr k' g' g'') (hk : k ≤ k') : c_ofr k g g'' := fun b hb hm => (h' b (by omega) hm).trans (h b hb hm)
theorem c_ofr_up {k x : Nat} {g g' : Nat → ab_C} {c : ab_C} (h : c_ofr k g g') (hx : k ≤ x) : c_ofr k g (ab_up g' x c) := fun b hb hm => (ab_up_ne _ _ (by omega)).trans (h b hb hm)
theorem c_wf_eq {T : Nat → Prop} {g g' : Nat → ab_C} {k k' a : Nat} (h : c_wf T g k a) (ea : g' a = g a) (eka : g' (c_ka g a) = g (c_ka g a)) (epa : g' (c_pa g a) = g (c_pa g a)) (hk : k ≤ k') : c_wf T g' k' a ∧ c_sz g' a = c_sz g a ∧ (∀ j, c_pt g' a j = c_pt g a j) ∧ (∀ j, c_ky g' a j = c_ky g a j) ∧ (∀ j, c_i g' a j = c_i g a j) ∧ c_ka g' a = c_ka g a ∧ c_pa g' a = c_pa g a := by
  obtain ⟨⟨m1, m2⟩, kd, wo, nd, ht, ka, pa, nk, np, fk, fp, h1, ⟨⟨k1, k2⟩, k3, k4⟩, ⟨⟨p1, p2⟩, p3, p4⟩, h4⟩ := h
  have e4 : c_ka g a = ka := by unfold c_ka; rw [h1]; rfl
  have e5 : c_pa g a = pa := by unfold c_pa; rw [h1]; rfl
  have u4 : c_ka g' a = ka := by unfold c_ka; rw [ea, h1]; rfl
  have u5 : c_pa g' a = pa := by unfold c_pa; rw [ea, h1]; rfl
  rw [e4] at eka
  rw [e5] at epa
  have ept : ∀ j, c_pt g' a j = c_pt g a j := fun j => by unfold c_pt; rw [u5, e5, epa]
  refine ⟨⟨⟨m1, by omega⟩, kd, wo, nd, ht, ka, pa, nk, np, fk, fp, by rw [ea]; exact h1, ⟨⟨k1, by omega⟩, by rw [eka]; exact k3, k4⟩, ⟨⟨p1, by omega⟩, by rw [epa]; exact p3, p4⟩, fun j hj => ?_⟩, by unfold c_sz; rw [u5, e5, epa], ept, fun j => by unfold c_ky; rw [u4, e4, eka], fun j => by unfold c_i; rw [ea], u4.trans e4.symm, u5.trans e5.symm⟩
  rw [ept]
  exact h4 j hj
theorem c_wf_cells {T : Nat → Prop} {g : Nat → ab_C} {k a : Nat} (h : c_wf T g k a) : (wd_mut a = false ∧ a < k) ∧ (wd_mut (c_ka g a) = false ∧ c_ka g a < k) ∧ (wd_mut (c_pa g a) = false ∧ c_pa g a < k) := by
  obtain ⟨⟨m1, m2⟩, kd, wo, nd, ht, ka, pa, nk, np, fk, fp, h1, ⟨⟨k1, k2⟩, k3, k4⟩, ⟨⟨p1, p2⟩, p3, p4⟩, h4⟩ := h
  have e4 : c_ka g a = ka := by unfold c_ka; rw [h1]; rfl
  have e5 : c_pa g a = pa := by unfold c_pa; rw [h1]; rfl
  rw [e4, e5]
  exact ⟨⟨m1, m2⟩, ⟨k1, k2⟩, ⟨p1, p2⟩⟩
theorem c_wf_xt {T : Nat → Prop} {g g' : Nat → ab_C} {k k' a : Nat} (h : c_wf T g k a) (hx : c_ofr k g g') (hk : k ≤ k') : c_wf T g' k' a ∧ c_sz g' a = c_sz g a ∧ (∀ j, c_pt g' a j = c_pt g a j) ∧ (∀ j, c_ky g' a j = c_ky g a j) ∧ (∀ j, c_i g' a j = c_i g a j) ∧ c_ka g' a = c_ka g a ∧ c_pa g' a = c_pa g a := by
  obtain ⟨m, m', m''⟩ := c_wf_cells h
  exact c_wf_eq h (hx _ m.2 m.1) (hx _ m'.2 m'.1) (hx _ m''.2 m''.1) hk
theorem c_W_xt {T : Nat → Prop} {g g' : Nat → ab_C} {k k' : Nat} (h : c_W T g k) (hx : c_ofr k g g') (hk : k ≤ k') : c_W T g' k' := fun a ha => (c_wf_xt (h a ha) hx hk).1
theorem p_wf_xt {g g' : Nat → ab_C} {k k' p : Nat} (h : p_wf g k p) (hx : c_ofr k g g') (hk : k ≤ k') : p_wf g' k' p ∧ p_n g' p = p_n g p ∧ (∀ i, p_sg g' p i = p_sg g p i) ∧ (∀ i, p_wd g' p i = p_wd g p i) := by
  obtain ⟨⟨m1, m2⟩, sa, wa, n, fs, fw, h1, ⟨⟨s1, s2⟩, s3⟩, ⟨⟨w1, w2⟩, w3⟩, h8⟩ := h
  have ep : g' p = g p := hx p m2 m1
  have es : g' sa = g sa := hx sa s2 s1
  have ew : g' wa = g wa := hx wa w2 w1
  have e1 : p_sa g p = sa := by unfold p_sa; rw [h1]; rfl
  have e2 : p_wa g p = wa := by unfold p_wa; rw [h1]; rfl
  have u1 : p_sa g' p = sa := by unfold p_sa; rw [ep, h1]; rfl
  have u2 : p_wa g' p = wa := by unfold p_wa; rw [ep, h1]; rfl
  exact ⟨⟨⟨m1, by omega⟩, sa, wa, n, fs, fw, by rw [ep]; exact h1, ⟨⟨s1, by omega⟩, by rw [es]; exact s3⟩, ⟨⟨w1, by omega⟩, by rw [ew]; exact w3⟩, h8⟩, by unfold p_n; rw [u1, e1, es], fun i => by unfold p_sg; rw [u1, e1, es], fun i => by unfold p_wd; rw [u2, e2, ew]⟩
/-- the things lie clear of the cell q -/
def c_nq (T : Nat → Prop) (g : Nat → ab_C) (q : Nat) : Prop := ∀ a, T a → a ≠ q ∧ c_ka g a ≠ q ∧ c_pa g a ≠ q
theorem c_nq_fr {T : Nat → Prop} {g : Nat → ab_C} {k q : Nat} (h : c_W T g k) (hq : k ≤ q) : c_nq T g q := fun a ha => by
  obtain ⟨m, m', m''⟩ := c_wf_cells (h a ha)
  exact ⟨by omega, by omega, by omega⟩
theorem c_wf_nq {T : Nat → Prop} {g : Nat → ab_C} {k a q : Nat} {c : ab_C} (h : c_W T g k) (ha : T a) (hn : c_nq T g q) : c_wf T (ab_up g q c) k a ∧ c_sz (ab_up g q c) a = c_sz g a ∧ (∀ j, c_pt (ab_up g q c) a j = c_pt g a j) ∧ (∀ j, c_ky (ab_up g q c) a j = c_ky g a j) ∧ (∀ j, c_i (ab_up g q c) a j = c_i g a j) ∧ c_ka (ab_up g q c) a = c_ka g a ∧ c_pa (ab_up g q c) a = c_pa g a := by
  obtain ⟨n1, n2, n3⟩ := hn a ha
  exact c_wf_eq (h a ha) (ab_up_ne _ _ n1) (ab_up_ne _ _ n2) (ab_up_ne _ _ n3) (Nat.le_refl _)
/-- from T0, S0 on: more things, all well made; old cells as they were -/
def c_st (T0 : Nat → Prop) (S0 : c_St) (T : Nat → Prop) (S : c_St) : Prop := (∀ b, T0 b → T b) ∧ (c_W T S.2.1 S.2.2.1) ∧ (c_ofr S0.2.2.1 S0.2.1 S.2.1) ∧ (S0.2.2.1 ≤ S.2.2.1) ∧ (c_Ifr S0.1 S.1) ∧ (∀ q, q < S0.2.2.1 → c_nq T0 S0.2.1 q → c_nq T S.2.1 q)
theorem c_st.inc {T0 T : Nat → Prop} {S0 S : c_St} (h : c_st T0 S0 T S) : ∀ b, T0 b → T b := h.1
theorem c_st.wf {T0 T : Nat → Prop} {S0 S : c_St} (h : c_st T0 S0 T S) : c_W T S.2.1 S.2.2.1 := h.2.1
theorem c_st.ofr {T0 T : Nat → Prop} {S0 S : c_St} (h : c_st T0 S0 T S) : c_ofr S0.2.2.1 S0.2.1 S.2.1 := h.2.2.1
theorem c_st.kk {T0 T : Nat → Prop} {S0 S : c_St} (h : c_st T0 S0 T S) : S0.2.2.1 ≤ S.2.2.1 := h.2.2.2.1
theorem c_st.ifr {T0 T : Nat → Prop} {S0 S : c_St} (h : c_st T0 S0 T S) : c_Ifr S0.1 S.1 := h.2.2.2.2.1
theorem c_st.nq {T0 T : Nat → Prop} {S0 S : c_St} (h : c_st T0 S0 T S) : ∀ q, q < S0.2.2.1 → c_nq T0 S0.2.1 q → c_nq T S.2.1 q := h.2.2.2.2.2
theorem c_st.rf {T : Nat → Prop} {S : c_St} (hW : c_W T S.2.1 S.2.2.1) : c_st T S T S := ⟨fun _ h => h, hW, c_ofr.rf, Nat.le_refl _, c_Ifr.rf, fun _ _ h => h⟩
theorem c_st.tr {T0 T1 T2 : Nat → Prop} {S0 S1 S2 : c_St} (h : c_st T0 S0 T1 S1) (h' : c_st T1 S1 T2 S2) : c_st T0 S0 T2 S2 := ⟨fun b hb => h'.inc b (h.inc b hb), h'.wf, h.ofr.tr h'.ofr h.kk, Nat.le_trans h.kk h'.kk, h.ifr.tr h'.ifr, fun q hq hn => h'.nq q (Nat.lt_of_lt_of_le hq h.kk) (h.nq q hq hn)⟩
section
variable {T0 T : Nat → Prop} {S0 S : c_St}
theorem c_st.I (h : c_st T0 S0 T S) {I' : wd_I} (hI : c_Ifr S.1 I') {z' : Nat} : c_st T0 S0 T (I', S.2.1, S.2.2.1, z') := ⟨h.inc, h.wf, h.ofr, h.kk, h.ifr.tr hI, h.nq⟩
theorem c_st.cell (h : c_st T0 S0 T S) {x k' z' : Nat} {c : ab_C} {I' : wd_I} (hx : S.2.2.1 ≤ x) (hk : S.2.2.1 ≤ k') (hI : c_Ifr S.1 I') : c_st T0 S0 T (I', ab_up S.2.1 x c, k', z') := by
  refine ⟨h.inc, c_W_up h.wf hx hk, c_ofr_up h.ofr (Nat.le_trans h.kk hx), Nat.le_trans h.kk hk, h.ifr.tr hI, fun q hq hn a ha => ?_⟩
  obtain ⟨-, -, -, -, -, e4, e5⟩ := c_wf_nq (c := c) h.wf ha (c_nq_fr h.wf hx)
  show a ≠ q ∧ c_ka (ab_up S.2.1 x c) a ≠ q ∧ c_pa (ab_up S.2.1 x c) a ≠ q
  rw [e4, e5]
  exact h.nq q hq hn a ha
theorem c_st.row (h : c_st T0 S0 T S) {q : Nat} {c : ab_C} (hq0 : S0.2.2.1 ≤ q) (hqn : c_nq T S.2.1 q) : c_st T0 S0 T (S.1, ab_up S.2.1 q c, S.2.2.1, S.2.2.2) := by
  refine ⟨h.inc, fun a ha => (c_wf_nq h.wf ha hqn).1, c_ofr_up h.ofr hq0, h.kk, h.ifr, fun q' hq hn a ha => ?_⟩
  obtain ⟨-, -, -, -, -, e4, e5⟩ := c_wf_nq (c := c) h.wf ha hqn
  show a ≠ q' ∧ c_ka (ab_up S.2.1 q c) a ≠ q' ∧ c_pa (ab_up S.2.1 q c) a ≠ q'
  rw [e4, e5]
  exact h.nq q' hq hn a ha
theorem c_st.thg (h : c_st T0 S0 T S) {x k' z' ka pa nk np : Nat} {kd wo : Int32} {fk : Nat → Int32} {fp : Nat → Option Nat} {I' : wd_I} (hx : S.2.2.1 ≤ x) (hxk : x < k') (hm : wd_mut x = false) (hka : (wd_mut ka = false ∧ ka < k') ∧ S.2.1 ka = ab_ia 0 nk fk ∧ nk ≤ 13) (hpa : (wd_mut pa = false ∧ pa < k') ∧ S.2.1 pa = ab_ra 4 np fp ∧ np ≤ 13) (hne : ka ≠ x ∧ pa ≠ x) (hf : c_rT T np fp) (hka0 : S0.2.2.1 ≤ ka ∨ ∃ a, T a ∧ c_ka S.2.1 a = ka) (hpa0 : S0.2.2.1 ≤ pa) (hI : c_Ifr S.1 I') : c_st T0 S0 (fun b => T b ∨ b = x) (I', ab_up S.2.1 x (c_new S.2.1 kd wo ka pa np fp), k', z') := by
  have hk := h.kk
  refine ⟨fun b hb => Or.inl (h.inc b hb), c_W_new h.wf hx hxk hm hka hpa hne hf, c_ofr_up h.ofr (by omega), by show S0.2.2.1 ≤ k'; omega, h.ifr.tr hI, fun q hq hn a ha => ?_⟩
  show a ≠ q ∧ c_ka (ab_up S.2.1 x _) a ≠ q ∧ c_pa (ab_up S.2.1 x _) a ≠ q
  have hnq := h.nq q hq hn
  rcases ha with ha | ha
  · obtain ⟨-, -, -, -, -, e4, e5⟩ := c_wf_nq (c := c_new S.2.1 kd wo ka pa np fp) h.wf ha (c_nq_fr h.wf hx)
    rw [e4, e5]
    exact hnq a ha
  · subst ha
    have e4 : c_ka (ab_up S.2.1 a (c_new S.2.1 kd wo ka pa np fp)) a = ka := by unfold c_ka; rw [ab_up_self]; rfl
    have e5 : c_pa (ab_up S.2.1 a (c_new S.2.1 kd wo ka pa np fp)) a = pa := by unfold c_pa; rw [ab_up_self]; rfl
    rw [e4, e5]
    refine ⟨by omega, ?_, by omega⟩
    rcases hka0 with h1 | ⟨b, hb, h1⟩
    · omega
    · rw [← h1]; exact (hnq b hb).2.1
end
/-- room is used as things are made; u cells of it not yet paid -/
def c_us (u v : Nat) (S S' : c_St) : Prop := ((S.1 9 0).toInt ≤ (S'.1 9 0).toInt ∧ (S'.1 9 0).toInt ≤ 3000) ∧
  ((S'.1 10 6).toInt = 0 → (S'.2.2.1 : Int) + 8 * (3001 - (S'.1 9 0).toInt) ≤ S.2.2.1 + 8 * (3001 - (S.1 9 0).toInt) + u ∧ (S'.2.2.2 : Int) + 170 * (3001 - (S'.1 9 0).toInt) ≤ S.2.2.2 + 170 * (3001 - (S.1 9 0).toInt) + 13 * u) ∧
  ((S'.2.2.1 : Int) ≤ S.2.2.1 + 8 * (3001 - (S.1 9 0).toInt) + v ∧ (S'.2.2.2 : Int) ≤ S.2.2.2 + 170 * (3001 - (S.1 9 0).toInt) + 40 * v)
theorem c_us.rf {S : c_St} (h0 : 0 ≤ (S.1 9 0).toInt ∧ (S.1 9 0).toInt ≤ 3000) : c_us 0 0 S S := by
  unfold c_us
  omega
theorem c_us.tr {u v v' : Nat} {S S' S'' : c_St} (h : c_us u v S S') (h' : c_us 0 v' S' S'') (hs : (S'.1 10 6).toInt = 0) : c_us u (v' + u) S S'' := by
  unfold c_us at *
  omega
theorem c_us.mo {u v u' v' : Nat} {S S' : c_St} (h : c_us u v S S') (hu : u ≤ u') (hv : v ≤ v') : c_us u' v' S S' := by
  unfold c_us at *
  omega
/-- what comes of a step: a thing, all things well made, old cells as they were -/
def c_gd (T : Nat → Prop) (v : Nat) (S : c_St) (R : Nat × c_St) : Prop := ∃ T' : Nat → Prop, c_st T S T' R.2 ∧ T' R.1 ∧ c_us 0 v S R.2
theorem c_I1_9 {I : wd_I} (h : 0 ≤ (I 9 0).toInt ∧ (I 9 0).toInt < 3000) : (c_I1 I 9 0).toInt = (I 9 0).toInt + 1 ∧ c_I1 I 10 6 = I 10 6 := by
  unfold c_I1
  rw [wd_up_self, wd_up_ne _ _ (by omega), ab_tI (by omega) (by omega)]
  exact ⟨rfl, rfl⟩
theorem c_I0_9 {I : wd_I} : c_I0 I 9 0 = I 9 0 ∧ (c_I0 I 10 6).toInt = 1 := by
  unfold c_I0
  rw [wd_up_self, wd_up_ne _ _ (by omega)]
  exact ⟨rfl, by decide⟩
section
variable {T0 T : Nat → Prop} {S0 : c_St} {I : wd_I} {g : Nat → ab_C} {k z : Nat}
theorem c_mkA_gd {u v : Nat} {a q np : Nat} {fq : Nat → Option Nat} (h : c_st T0 S0 T (I, g, k, z)) (hu : c_us u v S0 (I, g, k, z)) (hu7 : u ≤ 6) (h125 : 125 ≤ k) (ha : T a) (hq0 : S0.2.2.1 ≤ q) (hq : (wd_mut q = false ∧ q < k) ∧ g q = ab_ra 4 np fq ∧ np ≤ 13) (hf : c_rT T np fq) (h0 : 0 ≤ (I 9 0).toInt ∧ (I 9 0).toInt ≤ 3000) : c_gd T0 v S0 (c_mkA a q np fq (I, g, k, z)) := by
  have hW : c_W T g k := h.wf
  obtain ⟨ka, pa, nk, np', fk, fp, hcc, ⟨hnk, -⟩, -, -, -, -, ⟨e4, -⟩, ⟨-, m2, -⟩, ⟨l1, l2, -⟩⟩ := c_W_get hW ha
  have hka : g ka = ab_ia 0 nk fk := (wd_g (I := I) (P := fun _ _ => none) (M := I) m2).symm.trans (hcc I (fun _ _ => none) I 0).2.1
  unfold c_mkA
  dsimp only
  split
  next hs =>
    split
    next hm =>
      obtain ⟨u1, u2⟩ := c_I1_9 (I := I) ⟨h0.1, hm⟩
      refine ⟨fun b => T b ∨ b = k, ?_, Or.inr rfl, ?_⟩
      · refine c_st.thg (fk := fk) (nk := nk) h (Nat.le_refl _) (Nat.lt_succ_self _) (wd_mut_new h125) ?_ ⟨⟨hq.1.1, by omega⟩, hq.2⟩ ⟨?_, by omega⟩ hf (Or.inr ⟨a, ha, rfl⟩) hq0 c_Ifr_1
        · rw [e4]; exact ⟨⟨m2, by show ka < k + 1; omega⟩, hka, hnk⟩
        · rw [e4]; omega
      · unfold c_us at *
        dsimp only at *
        rw [u1, u2]
        omega
    next hm =>
      obtain ⟨u1, u2⟩ := c_I0_9 (I := I)
      refine ⟨T, h.I c_Ifr_0, ha, ?_⟩
      unfold c_us at *
      dsimp only at *
      rw [u1, u2]
      omega
  next hs =>
    refine ⟨T, h, ha, ?_⟩
    unfold c_us at *
    dsimp only at *
    omega
/-- a new thing with no keys -/
theorem c_mkg_st (h : c_st T0 S0 T (I, g, k, z)) (h125 : 125 ≤ k) {kd wo : Int32} {q np z' : Nat} {fq : Nat → Option Nat} {I' : wd_I} (hq0 : S0.2.2.1 ≤ q) (hq : (wd_mut q = false ∧ q < k) ∧ g q = ab_ra 4 np fq ∧ np ≤ 13) (hf : c_rT T np fq) (hI : c_Ifr I I') : c_st T0 S0 (fun b => T b ∨ b = k) (I', c_mkg g k kd wo q np fq, k + 2, z') := by
  have hk : S0.2.2.1 ≤ k := h.kk
  have h1 := c_st.cell h (x := k + 1) (k' := k) (z' := z) (c := ab_ia 0 0 (fun _ => 0)) (I' := I) (by show k ≤ k + 1; omega) (Nat.le_refl _) c_Ifr.rf
  refine c_st.thg (S := (I, ab_up g (k + 1) (ab_ia 0 0 (fun _ => 0)), k, z)) (fk := fun _ => 0) (nk := 0) h1 (Nat.le_refl _) (by omega) (wd_mut_new h125) ⟨⟨wd_mut_new (by omega), by omega⟩, ab_up_self _ _ _, by omega⟩ ⟨⟨hq.1.1, by omega⟩, ?_, hq.2.2⟩ ⟨by omega, by omega⟩ hf (Or.inl (by omega)) hq0 hI
  exact (ab_up_ne _ _ (by omega)).trans hq.2.1
theorem c_mkN_gd {u v : Nat} {kd wo : Int32} {r q np : Nat} {fq : Nat → Option Nat} (h : c_st T0 S0 T (I, g, k, z)) (hu : c_us u v S0 (I, g, k, z)) (hu6 : u ≤ 6) (h125 : 125 ≤ k) (hr : T r) (hq0 : S0.2.2.1 ≤ q) (hq : (wd_mut q = false ∧ q < k) ∧ g q = ab_ra 4 np fq ∧ np ≤ 13) (hf : c_rT T np fq) (h0 : 0 ≤ (I 9 0).toInt ∧ (I 9 0).toInt ≤ 3000) : c_gd T0 v S0 (c_mkN kd wo q np fq r (I, g, k, z)) := by
  unfold c_mkN
  dsimp only
  split
  next hs =>
    split
    next hm =>
      obtain ⟨u1, u2⟩ := c_I1_9 (I := I) ⟨h0.1, hm⟩
      refine ⟨fun b => T b ∨ b = k, c_mkg_st h h125 hq0 hq hf c_Ifr_1, Or.inr rfl, ?_⟩
      unfold c_us at *
      dsimp only at *
      rw [u1, u2]
      omega
    next hm =>
      obtain ⟨u1, u2⟩ := c_I0_9 (I := I)
      refine ⟨T, h.I c_Ifr_0, hr, ?_⟩
      unfold c_us at *
      dsimp only at *
      rw [u1, u2]
      omega
  next hs =>
    refine ⟨T, h, hr, ?_⟩
    unfold c_us at *
    dsimp only at *
    omega
end
end
section
/-! ===== the class: what comes of a focus is well made; what OVER answers within (own text) ===== -/
section
variable {T : Nat → Prop} {I : wd_I} {g : Nat → ab_C} {k z : Nat}
theorem c_arr_st {T0 : Nat → Prop} {S0 : c_St} {n : Nat} {f : Nat → Option Nat} (h : c_st T0 S0 T (I, g, k, z)) : c_st T0 S0 T (c_arr (I, g, k, z) f n) := c_st.cell h (Nat.le_refl _) (Nat.le_succ _) c_Ifr.rf
theorem c_fI_9 : c_fI I 9 0 = I 9 0 ∧ c_fI I 10 6 = I 10 6 ∧ c_fI I 10 2 = I 10 2 := ⟨wd_up_ne _ _ (by omega), wd_up_ne _ _ (by omega), wd_up_ne _ _ (by omega)⟩
theorem c_ordr_gd {S0 : c_St} (h : c_st T S0 T (I, g, k, z)) (hu : c_us 0 0 S0 (I, g, k, z)) (h125 : 125 ≤ k) {a : Nat} (ha : T a) (hsp : (I 10 6).toInt = 0) (h0 : 0 ≤ (I 9 0).toInt ∧ (I 9 0).toInt ≤ 3000) : c_gd T 0 S0 (c_ordr (I, g, k, z) a) := by
  have hW : c_W T g k := h.wf
  have hk : S0.2.2.1 ≤ k := h.kk
  have hs := c_W_sz hW ha
  have hmk : ∀ f, c_rT T (c_sz g a) f → c_gd T 0 S0 (c_mkA a k (c_sz g a) f (c_arr (I, g, k, z) f (c_sz g a))) := fun f hf => by
    show c_gd T 0 S0 (c_mkA a k (c_sz g a) f (I, ab_up g k (ab_ra 4 (c_sz g a) f), k + 1, z + c_sz g a))
    refine c_mkA_gd (u := 1) (c_arr_st h) ?_ (by omega) (by omega) ha hk ⟨⟨wd_mut_new h125, by omega⟩, ab_up_self _ _ _, hs⟩ hf h0
    unfold c_us at *
    dsimp only at *
    omega
  unfold c_ordr
  dsimp only
  split
  · exact hmk _ (c_rev_T hW ha)
  · split
    · exact hmk _ (c_sor_T hW ha)
    · split
      · exact hmk _ (c_trn_T hW ha)
      · exact ⟨T, h, ha, hu⟩
theorem c_foc_gd (hW : c_W T g k) (h125 : 125 ≤ k) {a gv : Nat} (ha : T a) (h0 : 0 ≤ (I 9 0).toInt ∧ (I 9 0).toInt ≤ 3000) (hsp : (I 10 6).toInt = 0) (hgv : (I 10 2).toInt = 7 → T gv) : c_gd T 0 (I, g, k, z) (c_foc gv (I, g, k, z) a) := by
  obtain ⟨e9, e6, e2⟩ := c_fI_9 (I := I)
  have hst : c_st T (I, g, k, z) T (c_fI I, g, k, z) := (c_st.rf (S := (I, g, k, z)) hW).I c_Ifr_f
  have hus : c_us 0 0 (I, g, k, z) (c_fI I, g, k, z) := by
    unfold c_us
    dsimp only
    rw [e9, e6]
    omega
  have hone : ∀ kd wo, c_gd T 0 (I, g, k, z) (c_mkN kd wo k 1 (ab_up (fun _ => none) 0 (some a)) a (c_arr (c_fI I, g, k, z) (ab_up (fun _ => none) 0 (some a)) 1)) := fun kd wo => by
    show c_gd T 0 (I, g, k, z) (c_mkN kd wo k 1 (ab_up (fun _ => none) 0 (some a)) a (c_fI I, ab_up g k (ab_ra 4 1 (ab_up (fun _ => none) 0 (some a))), k + 1, z + 1))
    refine c_mkN_gd (u := 1) (c_arr_st hst) ?_ (by omega) (by omega) ha (Nat.le_refl _) ⟨⟨wd_mut_new h125, by omega⟩, ab_up_self _ _ _, by omega⟩ (c_one_T ha) (by rw [e9]; exact h0)
    unfold c_us at *
    dsimp only at *
    rw [e9, e6] at *
    omega
  unfold c_foc
  dsimp only
  split
  next h4 =>
    split
    next hn =>
      have hrow : c_st T (I, g, k, z) T (c_fI I, ab_up g k (ab_ra 4 0 (fun _ => none)), k + 1, z + 0) := c_arr_st (f := fun _ => none) (n := 0) hst
      split
      next hm =>
        obtain ⟨u1, u2⟩ := c_I1_9 (I := c_fI I) ⟨by rw [e9]; exact h0.1, by rw [e9]; exact hm⟩
        refine ⟨fun b => T b ∨ b = k + 1, ?_, Or.inr rfl, ?_⟩
        · exact c_mkg_st (q := k) (np := 0) (fq := fun _ => none) hrow (by omega) (Nat.le_refl _) ⟨⟨wd_mut_new h125, by omega⟩, ab_up_self _ _ _, by omega⟩ (fun j hj => absurd hj (Nat.not_lt_zero _)) c_Ifr_1
        · unfold c_us
          dsimp only
          rw [u1, u2, e9]
          omega
      next hm =>
        obtain ⟨u1, u2⟩ := c_I0_9 (I := c_fI I)
        refine ⟨T, c_st.cell hst (Nat.le_refl _) (Nat.le_succ _) c_Ifr_0, ha, ?_⟩
        unfold c_us
        dsimp only
        rw [u1, u2, e9]
        omega
    next hn => exact ⟨T, hst, ha, hus⟩
  next h4 =>
    split
    next c4 =>
      split
      next hm =>
        obtain ⟨u1, u2⟩ := c_I1_9 (I := c_fI I) ⟨by rw [e9]; exact h0.1, by rw [e9]; exact hm⟩
        have hg : c_st T (I, g, k, z) (fun b => T b ∨ b = k + 1 + 1) (c_I1 (c_fI I), c_g4y g k a (I 10 3), k + 1 + 1 + 2, z + 2 + 0 + 6) := by
          have e : c_g4y g k a (I 10 3) = c_mkg (ab_up (ab_up g k (ab_ra 4 2 (c_two a (some (k + 1 + 1))))) (k + 1) (ab_ra 4 0 (fun _ => none))) (k + 1 + 1) (ab_ii 0) (I 10 3) (k + 1) 0 (fun _ => none) := by rw [c_mkg4]; rfl
          rw [e]
          have h1 : c_st T (I, g, k, z) T (c_fI I, ab_up g k (ab_ra 4 2 (c_two a (some (k + 1 + 1)))), k + 1, z + 2) := c_arr_st (f := c_two a (some (k + 1 + 1))) (n := 2) hst
          have h2 : c_st T (I, g, k, z) T (c_fI I, ab_up (ab_up g k (ab_ra 4 2 (c_two a (some (k + 1 + 1))))) (k + 1) (ab_ra 4 0 (fun _ => none)), k + 1 + 1, z + 2 + 0) := c_arr_st (f := fun _ => none) (n := 0) h1
          exact c_mkg_st h2 (by omega) (Nat.le_succ _) ⟨⟨wd_mut_new (by omega), by omega⟩, ab_up_self _ _ _, by omega⟩ (fun j hj => absurd hj (Nat.not_lt_zero _)) c_Ifr_1
        refine c_mkN_gd (u := 0) hg ?_ (by omega) (by omega) (Or.inl ha) (Nat.le_refl _) ⟨⟨wd_mut_new h125, by omega⟩, ab_up_self _ _ _, by omega⟩ (c_two_T (Or.inl ha) (Or.inr rfl)) (by rw [u1, e9]; omega)
        unfold c_us
        dsimp only
        rw [u1, u2, e9]
        omega
      next hm =>
        obtain ⟨u1, u2⟩ := c_I0_9 (I := c_fI I)
        have hg : c_st T (I, g, k, z) T (c_I0 (c_fI I), c_g4n g k a, k + 1 + 1, z + 2 + 0) := by
          unfold c_g4n
          have h1 := c_st.cell hst (x := k + 1) (k' := k) (z' := z) (c := ab_ra 4 0 (fun _ => none)) (I' := c_fI I) (by show k ≤ k + 1; omega) (Nat.le_refl _) c_Ifr.rf
          exact c_st.cell h1 (Nat.le_refl _) (by show k ≤ k + 1 + 1; omega) c_Ifr_0
        refine c_mkN_gd (u := 0) hg ?_ (by omega) (by omega) ha (Nat.le_refl _) ⟨⟨wd_mut_new h125, by omega⟩, ab_up_self _ _ _, by omega⟩ (c_two_T ha ha) (by rw [u1, e9]; exact h0)
        unfold c_us
        dsimp only
        rw [u1, u2, e9]
        omega
    next c4 =>
      split
      · exact hone _ _
      split
      · exact hone _ _
      split
      next c7 => exact ⟨T, hst, hgv c7, hus⟩
      · exact c_ordr_gd hst hus h125 ha (by rw [e6]; exact hsp) (by rw [e9]; exact h0)
end
end
section
/-! ===== the class: what comes of a thing within, well made (own text) ===== -/
noncomputable def c_chl (F : Nat → c_St → Nat × c_St) (p i a : Nat) : Nat → Nat → Option (Nat × (Nat → Option Nat)) → c_St → Nat × c_St
  | 0, _, none, S => (a, S)
  | 0, _, some (q, fq), S => c_mkA a q (c_sz S.2.1 a) fq S
  | n + 1, j, none, S => @ite (Nat × c_St) (p_ent S.2.1 p i a j) (Classical.propDecidable _) (if (F (c_pt S.2.1 a j) S).1 = c_pt S.2.1 a j then c_chl F p i a n (j + 1) none (F (c_pt S.2.1 a j) S).2 else c_chl F p i a n (j + 1) (some ((F (c_pt S.2.1 a j) S).2.2.2.1, ab_up (c_row (c_ptr (F (c_pt S.2.1 a j) S).2.2.1 a) (c_sz (F (c_pt S.2.1 a j) S).2.2.1 a)) j (some (F (c_pt S.2.1 a j) S).1))) (c_arr (F (c_pt S.2.1 a j) S).2 (ab_up (c_row (c_ptr (F (c_pt S.2.1 a j) S).2.2.1 a) (c_sz (F (c_pt S.2.1 a j) S).2.2.1 a)) j (some (F (c_pt S.2.1 a j) S).1)) (c_sz (F (c_pt S.2.1 a j) S).2.2.1 a))) (c_chl F p i a n (j + 1) none S)
  | n + 1, j, some (q, fq), S => @ite (Nat × c_St) (p_ent S.2.1 p i a j) (Classical.propDecidable _) (if (F (c_pt S.2.1 a j) S).1 = c_pt S.2.1 a j then c_chl F p i a n (j + 1) (some (q, fq)) (F (c_pt S.2.1 a j) S).2 else c_chl F p i a n (j + 1) (some (q, ab_up fq j (some (F (c_pt S.2.1 a j) S).1))) ((F (c_pt S.2.1 a j) S).2.1, ab_up (F (c_pt S.2.1 a j) S).2.2.1 q (ab_ra 4 (c_sz (F (c_pt S.2.1 a j) S).2.2.1 a) (ab_up fq j (some (F (c_pt S.2.1 a j) S).1))), (F (c_pt S.2.1 a j) S).2.2.2)) (c_chl F p i a n (j + 1) (some (q, fq)) S)
noncomputable def c_chw (gv p : Nat) : Nat → Nat → Nat → c_St → Nat × c_St
  | 0, a, _, S => (a, S)
  | f + 1, a, i, S => if (S.1 10 6).toInt = 0 then (if p_n S.2.1 p ≤ i then c_foc gv S a else @ite (Nat × c_St) (p_keep S.2.1 p i a) (Classical.propDecidable _) (c_chw gv p f a (i + 1) S) (c_chl (fun b S' => c_chw gv p f b (p_nx S'.2.1 p i) S') p i a (c_sz S.2.1 a) 0 none S)) else (a, S)
theorem c_gd.mo {T : Nat → Prop} {v v' : Nat} {S : c_St} {R : Nat × c_St} (h : c_gd T v S R) (hv : v ≤ v') : c_gd T v' S R := by
  obtain ⟨T', h1, h2, h3⟩ := h
  exact ⟨T', h1, h2, h3.mo (Nat.le_refl _) hv⟩
theorem c_nq_up {T : Nat → Prop} {g : Nat → ab_C} {k q q' : Nat} {c : ab_C} (hW : c_W T g k) (hn : c_nq T g q) (hn' : c_nq T g q') : c_nq T (ab_up g q c) q' := fun a ha => by
  obtain ⟨-, -, -, -, -, e4, e5⟩ := c_wf_nq (c := c) hW ha hn
  rw [e4, e5]
  exact hn' a ha
theorem c_rT_mo {T T' : Nat → Prop} {n : Nat} {f : Nat → Option Nat} (h : c_rT T n f) (hT : ∀ b, T b → T' b) : c_rT T' n f := fun j hj => by
  obtain ⟨b, hb, hb'⟩ := h j hj
  exact ⟨b, hb, hT b hb'⟩
/-- what a step asks of a state -/
def c_pr (T : Nat → Prop) (gv : Nat) (S : c_St) : Prop := c_W T S.2.1 S.2.2.1 ∧ 125 ≤ S.2.2.1 ∧ (0 ≤ (S.1 9 0).toInt ∧ (S.1 9 0).toInt ≤ 3000) ∧ ((S.1 10 2).toInt = 7 → T gv)
theorem c_pr_st {T0 T : Nat → Prop} {gv : Nat} {u v : Nat} {S0 S : c_St} (h0 : c_pr T0 gv S0) (h : c_st T0 S0 T S) (hu : c_us u v S0 S) : c_pr T gv S := by
  obtain ⟨p1, p2, p3, p4⟩ := h0
  refine ⟨h.wf, Nat.le_trans p2 h.kk, ?_, fun q => h.inc _ (p4 ?_)⟩
  · unfold c_us at hu
    omega
  · rw [← h.ifr 10 2 (by omega) (by omega)]; exact q
theorem c_us_arr {v n : Nat} {S0 S : c_St} {f : Nat → Option Nat} (h : c_us 0 v S0 S) (hn : n ≤ 13) : c_us 1 (v + 1) S0 (c_arr S f n) := by
  obtain ⟨I, g, k, z⟩ := S
  unfold c_us c_arr at *
  dsimp only at *
  omega
section
variable {gv : Nat} {F : Nat → c_St → Nat × c_St} {p i a v : Nat} {T0 : Nat → Prop} {S0 : c_St}
theorem c_chl_gd_s (hF : ∀ (T : Nat → Prop) (S : c_St) (b : Nat), c_pr T gv S → T b → c_gd T v S (F b S)) (hFs : ∀ (b : Nat) (S : c_St), ¬ (S.1 10 6).toInt = 0 → F b S = (b, S)) (h0 : c_pr T0 gv S0) : ∀ (n j : Nat) (T : Nat → Prop) (S : c_St) (q : Nat) (fq : Nat → Option Nat), j + n = c_sz S.2.1 a → T a → c_st T0 S0 T S → c_us 1 (v + 1) S0 S → S0.2.2.1 ≤ q → (wd_mut q = false ∧ q < S.2.2.1) → S.2.1 q = ab_ra 4 (c_sz S.2.1 a) fq → c_rT T (c_sz S.2.1 a) fq → c_nq T S.2.1 q → c_gd T0 (v + 1) S0 (c_chl F p i a n j (some (q, fq)) S)
  | 0, j, T, S, q, fq, hj, ha, hst, hus, hq0, hq, hqc, hf, hnq => by
    obtain ⟨I, g, k, z⟩ := S
    have hp := c_pr_st h0 hst hus
    exact c_mkA_gd hst hus (by omega) hp.2.1 ha hq0 ⟨hq, hqc, c_W_sz hst.wf ha⟩ hf hp.2.2.1
  | n + 1, j, T, S, q, fq, hj, ha, hst, hus, hq0, hq, hqc, hf, hnq => by
    have hp := c_pr_st h0 hst hus
    unfold c_chl
    split
    next he =>
      by_cases hs : (S.1 10 6).toInt = 0
      · obtain ⟨T', hst', hR, hus'⟩ := hF T S (c_pt S.2.1 a j) hp (c_W_pt hst.wf ha (by omega))
        generalize F (c_pt S.2.1 a j) S = R at *
        obtain ⟨ca, I, g, k, z⟩ := R
        dsimp only at *
        obtain ⟨-, esz, -⟩ := c_wf_xt (hst.wf a ha) hst'.ofr hst'.kk
        have hst2 := hst.tr hst'
        have hus2 := (hus.tr hus' hs).mo (Nat.le_refl _) (show v + 1 ≤ v + 1 by omega)
        have hqc' : g q = ab_ra 4 (c_sz S.2.1 a) fq := (hst'.ofr q hq.2 hq.1).trans hqc
        have hnq' := hst'.nq q hq.2 hnq
        have hkk : S.2.2.1 ≤ k := hst'.kk
        have ha' := hst'.inc a ha
        change c_sz g a = c_sz S.2.1 a at esz
        split
        next hsame => exact c_chl_gd_s hF hFs h0 n (j + 1) T' (I, g, k, z) q fq (by rw [esz]; omega) ha' hst2 hus2 hq0 ⟨hq.1, by show q < k; omega⟩ (by rw [esz]; exact hqc') (by rw [esz]; exact c_rT_mo hf hst'.inc) hnq'
        next hdiff =>
          obtain ⟨-, esz2, -⟩ := c_wf_nq (c := ab_ra 4 (c_sz g a) (ab_up fq j (some ca))) hst'.wf ha' hnq'
          change c_sz (ab_up g q (ab_ra 4 (c_sz g a) (ab_up fq j (some ca)))) a = c_sz g a at esz2
          refine c_chl_gd_s hF hFs h0 n (j + 1) T' (I, ab_up g q (ab_ra 4 (c_sz g a) (ab_up fq j (some ca))), k, z) q (ab_up fq j (some ca)) ?_ ha' (hst2.row hq0 hnq') hus2 hq0 ⟨hq.1, by show q < k; omega⟩ ?_ ?_ (c_nq_up hst'.wf hnq' hnq')
          · rw [esz2, esz]; omega
          · rw [esz2]; exact ab_up_self _ _ _
          · rw [esz2, esz]; exact c_rT_up (c_rT_mo hf hst'.inc) hR
      · rw [hFs _ S hs, if_pos rfl]
        exact c_chl_gd_s hF hFs h0 n (j + 1) T S q fq (by omega) ha hst hus hq0 hq hqc hf hnq
    next he => exact c_chl_gd_s hF hFs h0 n (j + 1) T S q fq (by omega) ha hst hus hq0 hq hqc hf hnq
theorem c_chl_gd_n (hF : ∀ (T : Nat → Prop) (S : c_St) (b : Nat), c_pr T gv S → T b → c_gd T v S (F b S)) (hFs : ∀ (b : Nat) (S : c_St), ¬ (S.1 10 6).toInt = 0 → F b S = (b, S)) (h0 : c_pr T0 gv S0) : ∀ (n j : Nat) (T : Nat → Prop) (S : c_St), j + n = c_sz S.2.1 a → T a → c_st T0 S0 T S → c_us 0 v S0 S → c_gd T0 (v + 1) S0 (c_chl F p i a n j none S)
  | 0, j, T, S, hj, ha, hst, hus => ⟨T, hst, ha, hus.mo (Nat.le_refl _) (Nat.le_succ _)⟩
  | n + 1, j, T, S, hj, ha, hst, hus => by
    have hp := c_pr_st h0 hst hus
    unfold c_chl
    split
    next he =>
      by_cases hs : (S.1 10 6).toInt = 0
      · obtain ⟨T', hst', hR, hus'⟩ := hF T S (c_pt S.2.1 a j) hp (c_W_pt hst.wf ha (by omega))
        generalize F (c_pt S.2.1 a j) S = R at *
        obtain ⟨ca, I, g, k, z⟩ := R
        dsimp only at *
        obtain ⟨-, esz, -⟩ := c_wf_xt (hst.wf a ha) hst'.ofr hst'.kk
        have hst2 := hst.tr hst'
        have hus2 := (hus.tr hus' hs).mo (Nat.le_refl _) (show v + 0 ≤ v by omega)
        have hp2 := c_pr_st h0 hst2 hus2
        have ha' := hst'.inc a ha
        have h13 := c_W_sz hst'.wf ha'
        change c_sz g a ≤ 13 at h13
        change c_sz g a = c_sz S.2.1 a at esz
        split
        next hsame => exact c_chl_gd_n hF hFs h0 n (j + 1) T' (I, g, k, z) (by rw [esz]; omega) ha' hst2 hus2
        next hdiff =>
          have hfr := c_nq_fr (q := k) hst'.wf (Nat.le_refl _)
          obtain ⟨-, esz2, -⟩ := c_wf_nq (c := ab_ra 4 (c_sz g a) (ab_up (c_row (c_ptr g a) (c_sz g a)) j (some ca))) hst'.wf ha' hfr
          change c_sz (ab_up g k (ab_ra 4 (c_sz g a) (ab_up (c_row (c_ptr g a) (c_sz g a)) j (some ca)))) a = c_sz g a at esz2
          refine c_chl_gd_s hF hFs h0 n (j + 1) T' (c_arr (I, g, k, z) (ab_up (c_row (c_ptr g a) (c_sz g a)) j (some ca)) (c_sz g a)) k (ab_up (c_row (c_ptr g a) (c_sz g a)) j (some ca)) ?_ ha' (c_arr_st hst2) (c_us_arr hus2 h13) hst2.kk ⟨wd_mut_new hp2.2.1, Nat.lt_succ_self _⟩ ?_ ?_ (c_nq_up hst'.wf hfr hfr)
          · show j + 1 + n = c_sz (ab_up g k _) a
            rw [esz2, esz]; omega
          · show ab_up g k _ k = _
            rw [ab_up_self]
            exact congrArg (fun n => ab_ra 4 n _) esz2.symm
          · show c_rT T' (c_sz (ab_up g k _) a) _
            rw [esz2]
            exact c_rT_up (c_row_T hst'.wf ha') hR
      · rw [hFs _ S hs, if_pos rfl]
        exact c_chl_gd_n hF hFs h0 n (j + 1) T S (by omega) ha hst hus
    next he => exact c_chl_gd_n hF hFs h0 n (j + 1) T S (by omega) ha hst hus
end
theorem c_chw_sp {gv p : Nat} : ∀ (f a i : Nat) (S : c_St), ¬ (S.1 10 6).toInt = 0 → c_chw gv p f a i S = (a, S)
  | 0, a, i, S, hs => rfl
  | f + 1, a, i, S, hs => by
    unfold c_chw
    rw [if_neg hs]
theorem c_chw_gd {gv p : Nat} : ∀ (f a i : Nat) (T : Nat → Prop) (S : c_St), c_pr T gv S → T a → c_gd T (2 * f) S (c_chw gv p f a i S)
  | 0, a, i, T, S, h0, ha => ⟨T, c_st.rf h0.1, ha, c_us.rf h0.2.2.1⟩
  | f + 1, a, i, T, S, h0, ha => by
    obtain ⟨hW, h125, hm, hgv⟩ := id h0
    unfold c_chw
    split
    next hs =>
      split
      · obtain ⟨I, g, k, z⟩ := S
        exact (c_foc_gd hW h125 ha hm hs hgv).mo (Nat.zero_le _)
      · split
        · exact (c_chw_gd f a (i + 1) T S h0 ha).mo (by omega)
        · exact (c_chl_gd_n (v := 2 * f) (fun T S b h1 h2 => c_chw_gd f b _ T S h1 h2) (fun b S hs => c_chw_sp f b _ S hs) h0 (c_sz S.2.1 a) 0 T S (by omega) ha (c_st.rf hW) ((c_us.rf hm).mo (Nat.le_refl _) (Nat.zero_le _))).mo (by omega)
    next hs => exact ⟨T, c_st.rf hW, ha, (c_us.rf hm).mo (Nat.le_refl _) (Nat.zero_le _)⟩
end
section
/-! ===== the class: OVER within, walked (own text) ===== -/
theorem w_aasH {I : wd_I} {P : wd_P} {M : wd_I} {g : Nat → ab_C} {k z x n t : Nat} {i : Int32} {o : Option Nat} {f : Nat → Option Nat} {K : ab_H → Prop} (hm : wd_mut x = false) (hx : g x = ab_ra t n f) (hi : 0 ≤ i.toInt ∧ i.toInt < n) (ho : ∀ v, o = some v → ∃ fs, (wd I P M g, k, z).1 v = ab_ob (ab_ec t) fs) (hK : ∀ e, e = i.toInt.toNat → K (wd I P M (ab_up g x (ab_ra t n (ab_up f e o))), k, z)) : ∃ t0 n0 f0, (wd I P M g, k, z).1 x = ab_ra t0 n0 f0 ∧ (0 ≤ i.toInt ∧ i.toInt < n0) ∧ (∀ v, o = some v → ∃ fs, (wd I P M g, k, z).1 v = ab_ob (ab_ec t0) fs) ∧ ∀ h', h' = ab_set (wd I P M g, k, z) x (ab_ra t0 n0 (ab_up f0 i.toInt.toNat o)) → K h' := by
  refine ⟨t, n, f, (wd_g hm).trans hx, hi, ho, fun h' hh => ?_⟩
  have e : h' = (wd I P M (ab_up g x (ab_ra t n (ab_up f i.toInt.toNat o))), k, z) := by
    rw [hh]
    show (ab_up (wd I P M g) x _, k, z) = _
    rw [wd_foldg hm]
  rw [e]
  exact hK _ rfl
def c_ro (v : Nat) (S : c_St) : Prop := (S.2.2.1 : Int) + 8 * (3001 - (S.1 9 0).toInt) + v ≤ 600000 ∧ (S.2.2.2 : Int) + 170 * (3001 - (S.1 9 0).toInt) + 40 * v ≤ 7302250
/-- how OVER is asked: it stays so -/
def c_qr (P : wd_P) (gv p : Nat) (S : c_St) : Prop := p_wf S.2.1 S.2.2.1 p ∧ (0 ≤ (S.1 10 2).toInt ∧ (S.1 10 2).toInt ≤ 11) ∧ ((S.1 10 2).toInt = 7 → P 10 4 = some gv) ∧ P 10 1 = some p
theorem c_qr_st {P : wd_P} {gv p : Nat} {T0 T : Nat → Prop} {S0 S : c_St} (h : c_qr P gv p S0) (hst : c_st T0 S0 T S) : c_qr P gv p S ∧ p_n S.2.1 p = p_n S0.2.1 p := by
  obtain ⟨h1, h2, h3, h4⟩ := h
  have e := hst.ifr 10 2 (by omega) (by omega)
  obtain ⟨w, wn, -⟩ := p_wf_xt h1 hst.ofr hst.kk
  refine ⟨⟨w, ?_, ?_, h4⟩, wn⟩
  · rw [e]; exact h2
  · rw [e]; exact h3
section
variable {d : Nat} {P : wd_P} {M : wd_I} {Q : ab_Q} {gv : Nat} {F : Nat → c_St → Nat × c_St} {p i a v dp : Nat} {T0 : Nat → Prop} {S0 : c_St}
set_option maxHeartbeats 4000000 in
set_option maxRecDepth 100000 in
theorem y_chl_s (hd : 6 ≤ d) (hFg : ∀ (T : Nat → Prop) (S : c_St) (b : Nat), c_pr T gv S → T b → c_gd T v S (F b S)) (hFs : ∀ (b : Nat) (S : c_St), ¬ (S.1 10 6).toInt = 0 → F b S = (b, S)) (hF : ∀ (T : Nat → Prop) (S : c_St) (b : Nat) (Q : ab_Q), c_pr T gv S → c_qr P gv p S → i < p_n S.2.1 p → ((S.1 10 6).toInt = 0 → c_ro v S) → T b → Q (some (wd_v (F b S).1)) (c_S P M (F b S).2) → ab_CT (d - 1) 3 [wd_v 10, wd_v b, .inl (ab_ii (p_nx S.2.1 p i : Int)), .inl (ab_ii ((dp : Int) + 1))] (c_S P M S) Q) (h0 : c_pr T0 gv S0) (hq0 : c_qr P gv p S0) (hi : i < p_n S0.2.1 p) (hro : c_ro (v + 2) S0) (hdp : dp ≤ 40) : ∀ (n j : Nat) (T : Nat → Prop) (S : c_St) (q : Nat) (fq : Nat → Option Nat), j + n = c_sz S.2.1 a → T a → c_st T0 S0 T S → c_us 1 (v + 1) S0 S → S0.2.2.1 ≤ q → (wd_mut q = false ∧ q < S.2.2.1) → S.2.1 q = ab_ra 4 (c_sz S.2.1 a) fq → c_rT T (c_sz S.2.1 a) fq → c_nq T S.2.1 q → Q (some (wd_v (c_chl F p i a n j (some (q, fq)) S).1)) (c_S P M (c_chl F p i a n j (some (q, fq)) S).2) → ab_WB d 3 Q 66 [(0, wd_v 10), (1, wd_v a), (2, .inl (ab_ii (i : Int))), (3, .inl (ab_ii (dp : Int))), (4, wd_v q), (5, .inl (ab_ii (j : Int)))] [] (c_S P M S)
  | 0, j, T, S, q, fq, hj, ha, hst, hus, hqq, hq, hqc, hf, hnq, hQ => by
    have hp := c_pr_st h0 hst hus
    obtain ⟨I, g, k, z⟩ := S
    obtain ⟨hW, h125, hm, -⟩ := id hp
    change c_W T g k at hW
    dsimp only at *
    have s1 := c_W_sz hW ha
    have h1 := c_W_c (I := I) (P := P) (M := M) (z := z) hW ha
    have hmk := fun (Q : ab_Q) hy hn hs => y_makeA (d := d - 1) (I := I) (P := P) (M := M) (g := g) (k := k) (z := z) (Q := Q) (by omega) hW (Nat.le_refl _) h125 ha ⟨hq.1, hqc⟩ hq.2 s1 hf hm (by unfold c_us c_ro at *; dsimp only at *; omega) hy hn hs
    have hfin : ∀ Q' : ab_Q, (∀ x h, Q (some (wd_v x)) h → Q' (some (wd_v x)) h) → ab_CT (d - 1) 8 [wd_v 10, wd_v a, wd_v q] (wd I P M g, k, z) Q' := fun Q' hQQ => by
      unfold c_chl c_mkA at hQ
      dsimp only at hQ
      refine hmk Q' (fun h1 h2 => hQQ _ _ ?_) (fun h1 h2 => hQQ _ _ ?_) (fun h1 => hQQ _ _ ?_)
      · rw [if_pos h1, if_pos h2] at hQ; exact hQ
      · rw [if_pos h1, if_neg (by omega)] at hQ; exact hQ
      · rw [if_neg h1] at hQ; exact hQ
    clear hQ hmk
    refine wd_rnC rfl ?_
    intro C9 X9 hC9 hX9
    repeat' ((conv => whnf); first
    | (apply i_getN; (focus (first | exact h1)); (focus (exact rfl)); (intro v9 hv9; (try simp (disch := omega) only [ab_tI, ab_c0, wd_ix12, wd_ix8, wd_ix10, wd_up_self, wd_up_eq, wd_up_ne, Int.toNat_natCast, Int.toNat_of_nonneg, not_true_eq_false, not_false_eq_true, Option.some.injEq] at hv9); subst hv9))
    | (apply i_cv; (focus (first | exact h1)))
    | (apply i_len; (focus (first | exact congrArg ab_len (h1))))
    | (apply i_ialN; (focus (first | exact h1)); (focus (first | exact Or.inl rfl | exact Or.inr rfl)); (focus (exact (by first | exact ⟨by decide, by decide⟩ | ((try simp (disch := omega) only [ab_tI, ab_c0, wd_ix12, wd_ix8, wd_ix10, wd_up_self, wd_up_eq, wd_up_ne, Int.toNat_natCast, Int.toNat_of_nonneg, not_true_eq_false, not_false_eq_true, Option.some.injEq, wd_l103, wd_l104, wd_l105, wd_l106, wd_l107, wd_l108, wd_l109, wd_l110, wd_l111, wd_l112, wd_l113, wd_l114, wd_l115, wd_l116, wd_l117, wd_l118, wd_l119, wd_l120, wd_l121, wd_l122, wd_l123, wd_l124]); omega)))); (intro v9 hv9; (try simp (disch := omega) only [ab_tI, ab_c0, wd_ix12, wd_ix8, wd_ix10, wd_up_self, wd_up_eq, wd_up_ne, Int.toNat_natCast, Int.toNat_of_nonneg, not_true_eq_false, not_false_eq_true, Option.some.injEq] at hv9); subst hv9))
    | (apply i_aalN; (focus (first | exact h1)); (focus (exact (by first | exact ⟨by decide, by decide⟩ | ((try simp (disch := omega) only [ab_tI, ab_c0, wd_ix12, wd_ix8, wd_ix10, wd_up_self, wd_up_eq, wd_up_ne, Int.toNat_natCast, Int.toNat_of_nonneg, not_true_eq_false, not_false_eq_true, Option.some.injEq, wd_l103, wd_l104, wd_l105, wd_l106, wd_l107, wd_l108, wd_l109, wd_l110, wd_l111, wd_l112, wd_l113, wd_l114, wd_l115, wd_l116, wd_l117, wd_l118, wd_l119, wd_l120, wd_l121, wd_l122, wd_l123, wd_l124]); omega)))); (intro v9 hv9; (try simp (disch := omega) only [ab_tI, ab_c0, wd_ix12, wd_ix8, wd_ix10, wd_up_self, wd_up_eq, wd_up_ne, Int.toNat_natCast, Int.toNat_of_nonneg, not_true_eq_false, not_false_eq_true, Option.some.injEq] at hv9); subst hv9))
    | (refine hC9 87 _ _ _ (y_size (by omega) hW ha ?_))
    | (exact hC9 8 _ _ _ (hfin _ (fun _ _ q => q)))
    | (intro v9 hv9; (try simp (disch := omega) only [ab_tI, ab_c0, wd_ix12, wd_ix8, wd_ix10, wd_up_self, wd_up_eq, wd_up_ne, Int.toNat_natCast, Int.toNat_of_nonneg, not_true_eq_false, not_false_eq_true, Option.some.injEq] at hv9); subst hv9)
    | (apply i_get; (focus (exact rfl)); (focus (exact rfl)))
    | (refine hX9 _ _ _ _ (wd_rnC rfl ?_); clear hC9 hX9 X9 C9; intro C9 X9 hC9 hX9)
    | (apply w_ialM; (focus (exact rfl)); (focus (exact (by first | exact ⟨by decide, by decide⟩ | ((try simp (disch := omega) only [ab_tI, ab_c0, wd_ix12, wd_ix8, wd_ix10, wd_up_self, wd_up_eq, wd_up_ne, Int.toNat_natCast, Int.toNat_of_nonneg, not_true_eq_false, not_false_eq_true, Option.some.injEq, wd_l103, wd_l104, wd_l105, wd_l106, wd_l107, wd_l108, wd_l109, wd_l110, wd_l111, wd_l112, wd_l113, wd_l114, wd_l115, wd_l116, wd_l117, wd_l118, wd_l119, wd_l120, wd_l121, wd_l122, wd_l123, wd_l124]); omega)))); (intro v9 hv9; (try simp (disch := omega) only [ab_tI, ab_c0, wd_ix12, wd_ix8, wd_ix10, wd_up_self, wd_up_eq, wd_up_ne, Int.toNat_natCast, Int.toNat_of_nonneg, not_true_eq_false, not_false_eq_true, Option.some.injEq] at hv9); subst hv9))
    | (apply w_putM; (focus (exact rfl)); (focus (first | exact trivial | exact Or.inl rfl | exact Or.inr rfl)); (focus (exact rfl)))
    | (apply w_iasM; (focus (exact rfl)); (focus (exact (by first | exact ⟨by decide, by decide⟩ | ((try simp (disch := omega) only [ab_tI, ab_c0, wd_ix12, wd_ix8, wd_ix10, wd_up_self, wd_up_eq, wd_up_ne, Int.toNat_natCast, Int.toNat_of_nonneg, not_true_eq_false, not_false_eq_true, Option.some.injEq, wd_l103, wd_l104, wd_l105, wd_l106, wd_l107, wd_l108, wd_l109, wd_l110, wd_l111, wd_l112, wd_l113, wd_l114, wd_l115, wd_l116, wd_l117, wd_l118, wd_l119, wd_l120, wd_l121, wd_l122, wd_l123, wd_l124]); omega)))); (intro v9 hv9; (try simp (disch := omega) only [ab_tI, ab_c0, wd_ix12, wd_ix8, wd_ix10, wd_up_self, wd_up_eq, wd_up_ne, Int.toNat_natCast, Int.toNat_of_nonneg, not_true_eq_false, not_false_eq_true, Option.some.injEq] at hv9); subst hv9))
    | (refine i_brF (by decide) ?_)
    | (refine i_brT (by decide) ?_)
    | (refine ⟨fun hc => ?_, fun hc => ?_⟩ <;> (try simp (disch := omega) only [ab_tI, ab_c0, wd_ix12, wd_ix8, wd_ix10, wd_up_self, wd_up_eq, wd_up_ne, Int.toNat_natCast, Int.toNat_of_nonneg, not_true_eq_false, not_false_eq_true, Option.some.injEq] at hc) <;> first | (exfalso; omega) | skip)
    | (apply i_cv; (focus (exact rfl)))
    | (apply i_len; (focus (exact rfl)))
    | (apply w_putI; (focus (exact rfl)); (focus (exact rfl)); (focus (exact rfl)); (focus (first | exact trivial | exact Or.inl rfl | exact Or.inr rfl)); (focus (exact rfl)))
    | (apply w_putP; (focus (exact rfl)); (focus (exact rfl)); (focus (exact rfl)); (focus (exact trivial)); (focus (exact rfl)))
    | (apply i_ialN; (focus (exact rfl)); (focus (first | exact Or.inl rfl | exact Or.inr rfl)); (focus (exact (by first | exact ⟨by decide, by decide⟩ | ((try simp (disch := omega) only [ab_tI, ab_c0, wd_ix12, wd_ix8, wd_ix10, wd_up_self, wd_up_eq, wd_up_ne, Int.toNat_natCast, Int.toNat_of_nonneg, not_true_eq_false, not_false_eq_true, Option.some.injEq, wd_l103, wd_l104, wd_l105, wd_l106, wd_l107, wd_l108, wd_l109, wd_l110, wd_l111, wd_l112, wd_l113, wd_l114, wd_l115, wd_l116, wd_l117, wd_l118, wd_l119, wd_l120, wd_l121, wd_l122, wd_l123, wd_l124]); omega)))); (intro v9 hv9; (try simp (disch := omega) only [ab_tI, ab_c0, wd_ix12, wd_ix8, wd_ix10, wd_up_self, wd_up_eq, wd_up_ne, Int.toNat_natCast, Int.toNat_of_nonneg, not_true_eq_false, not_false_eq_true, Option.some.injEq] at hv9); subst hv9))
    | (apply i_aalN; (focus (exact rfl)); (focus (exact (by first | exact ⟨by decide, by decide⟩ | ((try simp (disch := omega) only [ab_tI, ab_c0, wd_ix12, wd_ix8, wd_ix10, wd_up_self, wd_up_eq, wd_up_ne, Int.toNat_natCast, Int.toNat_of_nonneg, not_true_eq_false, not_false_eq_true, Option.some.injEq, wd_l103, wd_l104, wd_l105, wd_l106, wd_l107, wd_l108, wd_l109, wd_l110, wd_l111, wd_l112, wd_l113, wd_l114, wd_l115, wd_l116, wd_l117, wd_l118, wd_l119, wd_l120, wd_l121, wd_l122, wd_l123, wd_l124]); omega)))); (intro v9 hv9; (try simp (disch := omega) only [ab_tI, ab_c0, wd_ix12, wd_ix8, wd_ix10, wd_up_self, wd_up_eq, wd_up_ne, Int.toNat_natCast, Int.toNat_of_nonneg, not_true_eq_false, not_false_eq_true, Option.some.injEq] at hv9); subst hv9))
    | (apply w_iasI; (focus (exact rfl)); (focus (exact rfl)); (focus (exact (by first | exact ⟨by decide, by decide⟩ | ((try simp (disch := omega) only [ab_tI, ab_c0, wd_ix12, wd_ix8, wd_ix10, wd_up_self, wd_up_eq, wd_up_ne, Int.toNat_natCast, Int.toNat_of_nonneg, not_true_eq_false, not_false_eq_true, Option.some.injEq, wd_l103, wd_l104, wd_l105, wd_l106, wd_l107, wd_l108, wd_l109, wd_l110, wd_l111, wd_l112, wd_l113, wd_l114, wd_l115, wd_l116, wd_l117, wd_l118, wd_l119, wd_l120, wd_l121, wd_l122, wd_l123, wd_l124]); omega)))); (focus (intro _; exact rfl)); (intro v9 hv9; (try simp (disch := omega) only [ab_tI, ab_c0, wd_ix12, wd_ix8, wd_ix10, wd_up_self, wd_up_eq, wd_up_ne, Int.toNat_natCast, Int.toNat_of_nonneg, not_true_eq_false, not_false_eq_true, Option.some.injEq] at hv9); subst hv9))
    | (apply w_balM; (focus (exact (by first | exact ⟨by decide, by decide⟩ | ((try simp (disch := omega) only [ab_tI, ab_c0, wd_ix12, wd_ix8, wd_ix10, wd_up_self, wd_up_eq, wd_up_ne, Int.toNat_natCast, Int.toNat_of_nonneg, not_true_eq_false, not_false_eq_true, Option.some.injEq, wd_l103, wd_l104, wd_l105, wd_l106, wd_l107, wd_l108, wd_l109, wd_l110, wd_l111, wd_l112, wd_l113, wd_l114, wd_l115, wd_l116, wd_l117, wd_l118, wd_l119, wd_l120, wd_l121, wd_l122, wd_l123, wd_l124]); omega)))); (intro v9 hv9; (try simp (disch := omega) only [ab_tI, ab_c0, wd_ix12, wd_ix8, wd_ix10, wd_up_self, wd_up_eq, wd_up_ne, Int.toNat_natCast, Int.toNat_of_nonneg, not_true_eq_false, not_false_eq_true, Option.some.injEq] at hv9); subst hv9))
    | (apply w_basM; (focus (exact (by first | exact ⟨by decide, by decide⟩ | ((try simp (disch := omega) only [ab_tI, ab_c0, wd_ix12, wd_ix8, wd_ix10, wd_up_self, wd_up_eq, wd_up_ne, Int.toNat_natCast, Int.toNat_of_nonneg, not_true_eq_false, not_false_eq_true, Option.some.injEq, wd_l103, wd_l104, wd_l105, wd_l106, wd_l107, wd_l108, wd_l109, wd_l110, wd_l111, wd_l112, wd_l113, wd_l114, wd_l115, wd_l116, wd_l117, wd_l118, wd_l119, wd_l120, wd_l121, wd_l122, wd_l123, wd_l124]); omega)))); (focus (first | exact Or.inl rfl | exact Or.inr rfl)); (intro v9 hv9; (try simp (disch := omega) only [ab_tI, ab_c0, wd_ix12, wd_ix8, wd_ix10, wd_up_self, wd_up_eq, wd_up_ne, Int.toNat_natCast, Int.toNat_of_nonneg, not_true_eq_false, not_false_eq_true, Option.some.injEq] at hv9); subst hv9))
    | (refine And.intro trivial ?_)
    | (refine And.intro (Or.inl rfl) ?_)
    | (refine And.intro (Or.inr rfl) ?_)
    | (refine And.intro (by ((try simp (disch := omega) only [ab_tI, ab_c0, wd_ix12, wd_ix8, wd_ix10, wd_up_self, wd_up_eq, wd_up_ne, Int.toNat_natCast, Int.toNat_of_nonneg, not_true_eq_false, not_false_eq_true, Option.some.injEq]); omega)) ?_)
    | fail)
    all_goals (exfalso; omega)
  | n + 1, j, T, S, q, fq, hj, ha, hst, hus, hqq, hq, hqc, hf, hnq, hQ => by
    have hp := c_pr_st h0 hst hus
    obtain ⟨hqr, hpn⟩ := c_qr_st hq0 hst
    have hpnx : i < p_n S.2.1 p := by rw [hpn]; exact hi
    have hro1 : (S.1 10 6).toInt = 0 → c_ro v S := fun hs => by
      unfold c_us c_ro at *
      omega
    have hFj := fun (b : Nat) (hb : T b) (Q : ab_Q) hq => hF T S b Q hp hqr hpnx hro1 hb hq
    have hP1 : P 10 1 = some p := hqr.2.2.2
    have hj1 : j < c_sz S.2.1 a := by omega
    have hTb := c_W_pt hst.wf ha hj1
    have hFj := hFj _ hTb
    have hW : c_W T S.2.1 S.2.2.1 := hst.wf
    have s1 := c_W_sz hW ha
    have h1 := c_W_c (I := S.1) (P := P) (M := M) (z := S.2.2.2) hW ha
    obtain ⟨sa, wa, pn, fs, fw, hcp, p8, -⟩ := p_get hqr.1
    have p1 := (hcp S.1 P M S.2.2.2).1
    by_cases he : p_ent S.2.1 p i a j
    · have hgd := hFg T S (c_pt S.2.1 a j) hp hTb
      unfold c_chl at hQ
      rw [if_pos he] at hQ
      by_cases hs : (S.1 10 6).toInt = 0
      · obtain ⟨T', hst', hR, hus'⟩ := hgd
        generalize hRR : F (c_pt S.2.1 a j) S = R at *
        clear hRR
        obtain ⟨ca, I', g', k', z'⟩ := R
        dsimp only at hQ hFj hst' hR hus'
        obtain ⟨-, esz, -⟩ := c_wf_xt (hst.wf a ha) hst'.ofr hst'.kk
        have hst2 := hst.tr hst'
        have hus2 := (hus.tr hus' hs).mo (Nat.le_refl _) (show v + 1 ≤ v + 1 by omega)
        have hqc' : g' q = ab_ra 4 (c_sz S.2.1 a) fq := (hst'.ofr q hq.2 hq.1).trans hqc
        have hnq' := hst'.nq q hq.2 hnq
        have hkk : S.2.2.1 ≤ k' := hst'.kk
        have ha' := hst'.inc a ha
        have hW' : c_W T' g' k' := hst'.wf
        change c_sz g' a = c_sz S.2.1 a at esz
        by_cases hsame : ca = c_pt S.2.1 a j
        · rw [if_pos hsame] at hQ
          have ih := y_chl_s hd hFg hFs hF h0 hq0 hi hro hdp n (j + 1) T' (I', g', k', z') q fq (by rw [esz]; omega) ha' hst2 hus2 hqq ⟨hq.1, by show q < k'; omega⟩ (by rw [esz]; exact hqc') (by rw [esz]; exact c_rT_mo hf hst'.inc) hnq' hQ
          clear hF hQ
          refine wd_rnC rfl ?_
          intro C9 X9 hC9 hX9
          (have chk9 := @hP1; clear chk9); repeat' ((conv => whnf); first
    | (apply i_getN; (focus (first | exact h1 | exact p1)); (focus (exact rfl)); (intro v9 hv9; (try simp (disch := omega) only [ab_tI, ab_c0, wd_ix12, wd_ix8, wd_ix10, wd_up_self, wd_up_eq, wd_up_ne, Int.toNat_natCast, Int.toNat_of_nonneg, not_true_eq_false, not_false_eq_true, Option.some.injEq, hP1] at hv9); subst hv9))
    | (apply i_cv; (focus (first | exact h1 | exact p1)))
    | (apply i_len; (focus (first | exact congrArg ab_len (h1) | exact congrArg ab_len (p1))))
    | (apply i_ialN; (focus (first | exact h1 | exact p1)); (focus (first | exact Or.inl rfl | exact Or.inr rfl)); (focus (exact (by first | exact ⟨by decide, by decide⟩ | ((try simp (disch := omega) only [ab_tI, ab_c0, wd_ix12, wd_ix8, wd_ix10, wd_up_self, wd_up_eq, wd_up_ne, Int.toNat_natCast, Int.toNat_of_nonneg, not_true_eq_false, not_false_eq_true, Option.some.injEq, hP1, wd_l103, wd_l104, wd_l105, wd_l106, wd_l107, wd_l108, wd_l109, wd_l110, wd_l111, wd_l112, wd_l113, wd_l114, wd_l115, wd_l116, wd_l117, wd_l118, wd_l119, wd_l120, wd_l121, wd_l122, wd_l123, wd_l124]); omega)))); (intro v9 hv9; (try simp (disch := omega) only [ab_tI, ab_c0, wd_ix12, wd_ix8, wd_ix10, wd_up_self, wd_up_eq, wd_up_ne, Int.toNat_natCast, Int.toNat_of_nonneg, not_true_eq_false, not_false_eq_true, Option.some.injEq, hP1] at hv9); subst hv9))
    | (apply i_aalN; (focus (first | exact h1 | exact p1)); (focus (exact (by first | exact ⟨by decide, by decide⟩ | ((try simp (disch := omega) only [ab_tI, ab_c0, wd_ix12, wd_ix8, wd_ix10, wd_up_self, wd_up_eq, wd_up_ne, Int.toNat_natCast, Int.toNat_of_nonneg, not_true_eq_false, not_false_eq_true, Option.some.injEq, hP1, wd_l103, wd_l104, wd_l105, wd_l106, wd_l107, wd_l108, wd_l109, wd_l110, wd_l111, wd_l112, wd_l113, wd_l114, wd_l115, wd_l116, wd_l117, wd_l118, wd_l119, wd_l120, wd_l121, wd_l122, wd_l123, wd_l124]); omega)))); (intro v9 hv9; (try simp (disch := omega) only [ab_tI, ab_c0, wd_ix12, wd_ix8, wd_ix10, wd_up_self, wd_up_eq, wd_up_ne, Int.toNat_natCast, Int.toNat_of_nonneg, not_true_eq_false, not_false_eq_true, Option.some.injEq, hP1] at hv9); subst hv9))
    | (refine hC9 87 _ _ _ (y_size (by omega) hW ha ?_))
    | (apply i_getN; (focus (exact rfl)); (focus (exact rfl)); (intro v9 hv9; (try simp (disch := omega) only [ab_tI, ab_c0, wd_ix12, wd_ix8, wd_ix10, wd_up_self, wd_up_eq, wd_up_ne, Int.toNat_natCast, Int.toNat_of_nonneg, not_true_eq_false, not_false_eq_true, Option.some.injEq, hP1] at hv9); subst hv9))
    | (refine hC9 49 _ _ _ (y_enters (by omega) hW hqr.1 hpnx ha (by omega) (fun _ => ?_) (fun q => absurd he q)))
    | (refine hC9 88 _ _ _ (y_part (by omega) hW ha hj1 ?_))
    | (refine hC9 50 _ _ _ (y_stepWithin (by omega) hqr.1 hpnx ?_))
    | (refine hC9 _ _ _ _ (hFj _ ?_))
    | (refine hX9 66 _ _ _ (ab_WB_sub ?_ ih); (repeat (first | exact ab_sub0 | (refine ab_sub1 ?_ ?_; (focus ((repeat (refine ab_skip rfl ?_)); first | exact List.mem_cons_self))))))
    | (intro v9 hv9; (try simp (disch := omega) only [ab_tI, ab_c0, wd_ix12, wd_ix8, wd_ix10, wd_up_self, wd_up_eq, wd_up_ne, Int.toNat_natCast, Int.toNat_of_nonneg, not_true_eq_false, not_false_eq_true, Option.some.injEq, hP1] at hv9); subst hv9)
    | (apply i_get; (focus (exact rfl)); (focus (exact rfl)))
    | (refine hX9 _ _ _ _ (wd_rnC rfl ?_); clear hC9 hX9 X9 C9; intro C9 X9 hC9 hX9)
    | (apply w_ialM; (focus (exact rfl)); (focus (exact (by first | exact ⟨by decide, by decide⟩ | ((try simp (disch := omega) only [ab_tI, ab_c0, wd_ix12, wd_ix8, wd_ix10, wd_up_self, wd_up_eq, wd_up_ne, Int.toNat_natCast, Int.toNat_of_nonneg, not_true_eq_false, not_false_eq_true, Option.some.injEq, hP1, wd_l103, wd_l104, wd_l105, wd_l106, wd_l107, wd_l108, wd_l109, wd_l110, wd_l111, wd_l112, wd_l113, wd_l114, wd_l115, wd_l116, wd_l117, wd_l118, wd_l119, wd_l120, wd_l121, wd_l122, wd_l123, wd_l124]); omega)))); (intro v9 hv9; (try simp (disch := omega) only [ab_tI, ab_c0, wd_ix12, wd_ix8, wd_ix10, wd_up_self, wd_up_eq, wd_up_ne, Int.toNat_natCast, Int.toNat_of_nonneg, not_true_eq_false, not_false_eq_true, Option.some.injEq, hP1] at hv9); subst hv9))
    | (apply w_putM; (focus (exact rfl)); (focus (first | exact trivial | exact Or.inl rfl | exact Or.inr rfl)); (focus (exact rfl)))
    | (apply w_iasM; (focus (exact rfl)); (focus (exact (by first | exact ⟨by decide, by decide⟩ | ((try simp (disch := omega) only [ab_tI, ab_c0, wd_ix12, wd_ix8, wd_ix10, wd_up_self, wd_up_eq, wd_up_ne, Int.toNat_natCast, Int.toNat_of_nonneg, not_true_eq_false, not_false_eq_true, Option.some.injEq, hP1, wd_l103, wd_l104, wd_l105, wd_l106, wd_l107, wd_l108, wd_l109, wd_l110, wd_l111, wd_l112, wd_l113, wd_l114, wd_l115, wd_l116, wd_l117, wd_l118, wd_l119, wd_l120, wd_l121, wd_l122, wd_l123, wd_l124]); omega)))); (intro v9 hv9; (try simp (disch := omega) only [ab_tI, ab_c0, wd_ix12, wd_ix8, wd_ix10, wd_up_self, wd_up_eq, wd_up_ne, Int.toNat_natCast, Int.toNat_of_nonneg, not_true_eq_false, not_false_eq_true, Option.some.injEq, hP1] at hv9); subst hv9))
    | (refine i_brF (by decide) ?_)
    | (refine i_brT (by decide) ?_)
    | (refine ⟨fun hc => ?_, fun hc => ?_⟩ <;> (try simp (disch := omega) only [ab_tI, ab_c0, wd_ix12, wd_ix8, wd_ix10, wd_up_self, wd_up_eq, wd_up_ne, Int.toNat_natCast, Int.toNat_of_nonneg, not_true_eq_false, not_false_eq_true, Option.some.injEq, hP1] at hc) <;> first | (exfalso; omega) | skip)
    | (apply i_cv; (focus (exact rfl)))
    | (apply i_len; (focus (exact rfl)))
    | (apply w_putI; (focus (exact rfl)); (focus (exact rfl)); (focus (exact rfl)); (focus (first | exact trivial | exact Or.inl rfl | exact Or.inr rfl)); (focus (exact rfl)))
    | (apply w_putP; (focus (exact rfl)); (focus (exact rfl)); (focus (exact rfl)); (focus (exact trivial)); (focus (exact rfl)))
    | (apply i_ialN; (focus (exact rfl)); (focus (first | exact Or.inl rfl | exact Or.inr rfl)); (focus (exact (by first | exact ⟨by decide, by decide⟩ | ((try simp (disch := omega) only [ab_tI, ab_c0, wd_ix12, wd_ix8, wd_ix10, wd_up_self, wd_up_eq, wd_up_ne, Int.toNat_natCast, Int.toNat_of_nonneg, not_true_eq_false, not_false_eq_true, Option.some.injEq, hP1, wd_l103, wd_l104, wd_l105, wd_l106, wd_l107, wd_l108, wd_l109, wd_l110, wd_l111, wd_l112, wd_l113, wd_l114, wd_l115, wd_l116, wd_l117, wd_l118, wd_l119, wd_l120, wd_l121, wd_l122, wd_l123, wd_l124]); omega)))); (intro v9 hv9; (try simp (disch := omega) only [ab_tI, ab_c0, wd_ix12, wd_ix8, wd_ix10, wd_up_self, wd_up_eq, wd_up_ne, Int.toNat_natCast, Int.toNat_of_nonneg, not_true_eq_false, not_false_eq_true, Option.some.injEq, hP1] at hv9); subst hv9))
    | (apply i_aalN; (focus (exact rfl)); (focus (exact (by first | exact ⟨by decide, by decide⟩ | ((try simp (disch := omega) only [ab_tI, ab_c0, wd_ix12, wd_ix8, wd_ix10, wd_up_self, wd_up_eq, wd_up_ne, Int.toNat_natCast, Int.toNat_of_nonneg, not_true_eq_false, not_false_eq_true, Option.some.injEq, hP1, wd_l103, wd_l104, wd_l105, wd_l106, wd_l107, wd_l108, wd_l109, wd_l110, wd_l111, wd_l112, wd_l113, wd_l114, wd_l115, wd_l116, wd_l117, wd_l118, wd_l119, wd_l120, wd_l121, wd_l122, wd_l123, wd_l124]); omega)))); (intro v9 hv9; (try simp (disch := omega) only [ab_tI, ab_c0, wd_ix12, wd_ix8, wd_ix10, wd_up_self, wd_up_eq, wd_up_ne, Int.toNat_natCast, Int.toNat_of_nonneg, not_true_eq_false, not_false_eq_true, Option.some.injEq, hP1] at hv9); subst hv9))
    | (apply w_iasI; (focus (exact rfl)); (focus (exact rfl)); (focus (exact (by first | exact ⟨by decide, by decide⟩ | ((try simp (disch := omega) only [ab_tI, ab_c0, wd_ix12, wd_ix8, wd_ix10, wd_up_self, wd_up_eq, wd_up_ne, Int.toNat_natCast, Int.toNat_of_nonneg, not_true_eq_false, not_false_eq_true, Option.some.injEq, hP1, wd_l103, wd_l104, wd_l105, wd_l106, wd_l107, wd_l108, wd_l109, wd_l110, wd_l111, wd_l112, wd_l113, wd_l114, wd_l115, wd_l116, wd_l117, wd_l118, wd_l119, wd_l120, wd_l121, wd_l122, wd_l123, wd_l124]); omega)))); (focus (intro _; exact rfl)); (intro v9 hv9; (try simp (disch := omega) only [ab_tI, ab_c0, wd_ix12, wd_ix8, wd_ix10, wd_up_self, wd_up_eq, wd_up_ne, Int.toNat_natCast, Int.toNat_of_nonneg, not_true_eq_false, not_false_eq_true, Option.some.injEq, hP1] at hv9); subst hv9))
    | (apply w_balM; (focus (exact (by first | exact ⟨by decide, by decide⟩ | ((try simp (disch := omega) only [ab_tI, ab_c0, wd_ix12, wd_ix8, wd_ix10, wd_up_self, wd_up_eq, wd_up_ne, Int.toNat_natCast, Int.toNat_of_nonneg, not_true_eq_false, not_false_eq_true, Option.some.injEq, hP1, wd_l103, wd_l104, wd_l105, wd_l106, wd_l107, wd_l108, wd_l109, wd_l110, wd_l111, wd_l112, wd_l113, wd_l114, wd_l115, wd_l116, wd_l117, wd_l118, wd_l119, wd_l120, wd_l121, wd_l122, wd_l123, wd_l124]); omega)))); (intro v9 hv9; (try simp (disch := omega) only [ab_tI, ab_c0, wd_ix12, wd_ix8, wd_ix10, wd_up_self, wd_up_eq, wd_up_ne, Int.toNat_natCast, Int.toNat_of_nonneg, not_true_eq_false, not_false_eq_true, Option.some.injEq, hP1] at hv9); subst hv9))
    | (apply w_basM; (focus (exact (by first | exact ⟨by decide, by decide⟩ | ((try simp (disch := omega) only [ab_tI, ab_c0, wd_ix12, wd_ix8, wd_ix10, wd_up_self, wd_up_eq, wd_up_ne, Int.toNat_natCast, Int.toNat_of_nonneg, not_true_eq_false, not_false_eq_true, Option.some.injEq, hP1, wd_l103, wd_l104, wd_l105, wd_l106, wd_l107, wd_l108, wd_l109, wd_l110, wd_l111, wd_l112, wd_l113, wd_l114, wd_l115, wd_l116, wd_l117, wd_l118, wd_l119, wd_l120, wd_l121, wd_l122, wd_l123, wd_l124]); omega)))); (focus (first | exact Or.inl rfl | exact Or.inr rfl)); (intro v9 hv9; (try simp (disch := omega) only [ab_tI, ab_c0, wd_ix12, wd_ix8, wd_ix10, wd_up_self, wd_up_eq, wd_up_ne, Int.toNat_natCast, Int.toNat_of_nonneg, not_true_eq_false, not_false_eq_true, Option.some.injEq, hP1] at hv9); subst hv9))
    | (refine And.intro trivial ?_)
    | (refine And.intro (Or.inl rfl) ?_)
    | (refine And.intro (Or.inr rfl) ?_)
    | (refine And.intro (by ((try simp (disch := omega) only [ab_tI, ab_c0, wd_ix12, wd_ix8, wd_ix10, wd_up_self, wd_up_eq, wd_up_ne, Int.toNat_natCast, Int.toNat_of_nonneg, not_true_eq_false, not_false_eq_true, Option.some.injEq, hP1]); omega)) ?_)
    | fail)
          all_goals (exfalso; omega)
        · rw [if_neg hsame] at hQ
          obtain ⟨-, esz2, -⟩ := c_wf_nq (c := ab_ra 4 (c_sz g' a) (ab_up fq j (some ca))) hst'.wf ha' hnq'
          change c_sz (ab_up g' q (ab_ra 4 (c_sz g' a) (ab_up fq j (some ca)))) a = c_sz g' a at esz2
          have ih := y_chl_s hd hFg hFs hF h0 hq0 hi hro hdp n (j + 1) T' (I', ab_up g' q (ab_ra 4 (c_sz g' a) (ab_up fq j (some ca))), k', z') q (ab_up fq j (some ca)) (by rw [esz2, esz]; omega) ha' (hst2.row hqq hnq') hus2 hqq ⟨hq.1, by show q < k'; omega⟩ (by rw [esz2]; exact ab_up_self _ _ _) (by rw [esz2, esz]; exact c_rT_up (c_rT_mo hf hst'.inc) hR) (c_nq_up hst'.wf hnq' hnq') hQ
          have h3 := c_W_c (I := I') (P := P) (M := M) (z := z') hW' hR
          rw [← esz] at hqc'
          clear hF hQ
          refine wd_rnC rfl ?_
          intro C9 X9 hC9 hX9
          (have chk9 := @hP1; clear chk9); repeat' ((conv => whnf); first
    | (apply i_getN; (focus (first | exact h1 | exact p1)); (focus (exact rfl)); (intro v9 hv9; (try simp (disch := omega) only [ab_tI, ab_c0, wd_ix12, wd_ix8, wd_ix10, wd_up_self, wd_up_eq, wd_up_ne, Int.toNat_natCast, Int.toNat_of_nonneg, not_true_eq_false, not_false_eq_true, Option.some.injEq, hP1] at hv9); subst hv9))
    | (apply i_cv; (focus (first | exact h1 | exact p1)))
    | (apply i_len; (focus (first | exact congrArg ab_len (h1) | exact congrArg ab_len (p1))))
    | (apply i_ialN; (focus (first | exact h1 | exact p1)); (focus (first | exact Or.inl rfl | exact Or.inr rfl)); (focus (exact (by first | exact ⟨by decide, by decide⟩ | ((try simp (disch := omega) only [ab_tI, ab_c0, wd_ix12, wd_ix8, wd_ix10, wd_up_self, wd_up_eq, wd_up_ne, Int.toNat_natCast, Int.toNat_of_nonneg, not_true_eq_false, not_false_eq_true, Option.some.injEq, hP1, wd_l103, wd_l104, wd_l105, wd_l106, wd_l107, wd_l108, wd_l109, wd_l110, wd_l111, wd_l112, wd_l113, wd_l114, wd_l115, wd_l116, wd_l117, wd_l118, wd_l119, wd_l120, wd_l121, wd_l122, wd_l123, wd_l124]); omega)))); (intro v9 hv9; (try simp (disch := omega) only [ab_tI, ab_c0, wd_ix12, wd_ix8, wd_ix10, wd_up_self, wd_up_eq, wd_up_ne, Int.toNat_natCast, Int.toNat_of_nonneg, not_true_eq_false, not_false_eq_true, Option.some.injEq, hP1] at hv9); subst hv9))
    | (apply i_aalN; (focus (first | exact h1 | exact p1)); (focus (exact (by first | exact ⟨by decide, by decide⟩ | ((try simp (disch := omega) only [ab_tI, ab_c0, wd_ix12, wd_ix8, wd_ix10, wd_up_self, wd_up_eq, wd_up_ne, Int.toNat_natCast, Int.toNat_of_nonneg, not_true_eq_false, not_false_eq_true, Option.some.injEq, hP1, wd_l103, wd_l104, wd_l105, wd_l106, wd_l107, wd_l108, wd_l109, wd_l110, wd_l111, wd_l112, wd_l113, wd_l114, wd_l115, wd_l116, wd_l117, wd_l118, wd_l119, wd_l120, wd_l121, wd_l122, wd_l123, wd_l124]); omega)))); (intro v9 hv9; (try simp (disch := omega) only [ab_tI, ab_c0, wd_ix12, wd_ix8, wd_ix10, wd_up_self, wd_up_eq, wd_up_ne, Int.toNat_natCast, Int.toNat_of_nonneg, not_true_eq_false, not_false_eq_true, Option.some.injEq, hP1] at hv9); subst hv9))
    | (refine hC9 87 _ _ _ (y_size (by omega) hW ha ?_))
    | (apply i_getN; (focus (exact rfl)); (focus (exact rfl)); (intro v9 hv9; (try simp (disch := omega) only [ab_tI, ab_c0, wd_ix12, wd_ix8, wd_ix10, wd_up_self, wd_up_eq, wd_up_ne, Int.toNat_natCast, Int.toNat_of_nonneg, not_true_eq_false, not_false_eq_true, Option.some.injEq, hP1] at hv9); subst hv9))
    | (refine hC9 49 _ _ _ (y_enters (by omega) hW hqr.1 hpnx ha (by omega) (fun _ => ?_) (fun q => absurd he q)))
    | (refine hC9 88 _ _ _ (y_part (by omega) hW ha hj1 ?_))
    | (refine hC9 50 _ _ _ (y_stepWithin (by omega) hqr.1 hpnx ?_))
    | (refine hC9 _ _ _ _ (hFj _ ?_))
    | (apply w_aasH hq.1 hqc'; (focus (first | exact ⟨by decide, by decide⟩ | ((try simp (disch := omega) only [ab_tI, ab_c0, wd_ix12, wd_ix8, wd_ix10, wd_up_self, wd_up_eq, wd_up_ne, Int.toNat_natCast, Int.toNat_of_nonneg, not_true_eq_false, not_false_eq_true, Option.some.injEq]); omega))); (focus (intro v9 hv9; cases hv9; exact i_ex h3)); (intro e9 he9; (try simp (disch := omega) only [ab_tI, ab_c0, wd_ix12, wd_ix8, wd_ix10, wd_up_self, wd_up_eq, wd_up_ne, Int.toNat_natCast, Int.toNat_of_nonneg, not_true_eq_false, not_false_eq_true, Option.some.injEq] at he9); subst he9))
    | (refine hX9 66 _ _ _ (ab_WB_sub ?_ ih); (repeat (first | exact ab_sub0 | (refine ab_sub1 ?_ ?_; (focus ((repeat (refine ab_skip rfl ?_)); first | exact List.mem_cons_self))))))
    | (intro v9 hv9; (try simp (disch := omega) only [ab_tI, ab_c0, wd_ix12, wd_ix8, wd_ix10, wd_up_self, wd_up_eq, wd_up_ne, Int.toNat_natCast, Int.toNat_of_nonneg, not_true_eq_false, not_false_eq_true, Option.some.injEq, hP1] at hv9); subst hv9)
    | (apply i_get; (focus (exact rfl)); (focus (exact rfl)))
    | (refine hX9 _ _ _ _ (wd_rnC rfl ?_); clear hC9 hX9 X9 C9; intro C9 X9 hC9 hX9)
    | (apply w_ialM; (focus (exact rfl)); (focus (exact (by first | exact ⟨by decide, by decide⟩ | ((try simp (disch := omega) only [ab_tI, ab_c0, wd_ix12, wd_ix8, wd_ix10, wd_up_self, wd_up_eq, wd_up_ne, Int.toNat_natCast, Int.toNat_of_nonneg, not_true_eq_false, not_false_eq_true, Option.some.injEq, hP1, wd_l103, wd_l104, wd_l105, wd_l106, wd_l107, wd_l108, wd_l109, wd_l110, wd_l111, wd_l112, wd_l113, wd_l114, wd_l115, wd_l116, wd_l117, wd_l118, wd_l119, wd_l120, wd_l121, wd_l122, wd_l123, wd_l124]); omega)))); (intro v9 hv9; (try simp (disch := omega) only [ab_tI, ab_c0, wd_ix12, wd_ix8, wd_ix10, wd_up_self, wd_up_eq, wd_up_ne, Int.toNat_natCast, Int.toNat_of_nonneg, not_true_eq_false, not_false_eq_true, Option.some.injEq, hP1] at hv9); subst hv9))
    | (apply w_putM; (focus (exact rfl)); (focus (first | exact trivial | exact Or.inl rfl | exact Or.inr rfl)); (focus (exact rfl)))
    | (apply w_iasM; (focus (exact rfl)); (focus (exact (by first | exact ⟨by decide, by decide⟩ | ((try simp (disch := omega) only [ab_tI, ab_c0, wd_ix12, wd_ix8, wd_ix10, wd_up_self, wd_up_eq, wd_up_ne, Int.toNat_natCast, Int.toNat_of_nonneg, not_true_eq_false, not_false_eq_true, Option.some.injEq, hP1, wd_l103, wd_l104, wd_l105, wd_l106, wd_l107, wd_l108, wd_l109, wd_l110, wd_l111, wd_l112, wd_l113, wd_l114, wd_l115, wd_l116, wd_l117, wd_l118, wd_l119, wd_l120, wd_l121, wd_l122, wd_l123, wd_l124]); omega)))); (intro v9 hv9; (try simp (disch := omega) only [ab_tI, ab_c0, wd_ix12, wd_ix8, wd_ix10, wd_up_self, wd_up_eq, wd_up_ne, Int.toNat_natCast, Int.toNat_of_nonneg, not_true_eq_false, not_false_eq_true, Option.some.injEq, hP1] at hv9); subst hv9))
    | (refine i_brF (by decide) ?_)
    | (refine i_brT (by decide) ?_)
    | (refine ⟨fun hc => ?_, fun hc => ?_⟩ <;> (try simp (disch := omega) only [ab_tI, ab_c0, wd_ix12, wd_ix8, wd_ix10, wd_up_self, wd_up_eq, wd_up_ne, Int.toNat_natCast, Int.toNat_of_nonneg, not_true_eq_false, not_false_eq_true, Option.some.injEq, hP1] at hc) <;> first | (exfalso; omega) | skip)
    | (apply i_cv; (focus (exact rfl)))
    | (apply i_len; (focus (exact rfl)))
    | (apply w_putI; (focus (exact rfl)); (focus (exact rfl)); (focus (exact rfl)); (focus (first | exact trivial | exact Or.inl rfl | exact Or.inr rfl)); (focus (exact rfl)))
    | (apply w_putP; (focus (exact rfl)); (focus (exact rfl)); (focus (exact rfl)); (focus (exact trivial)); (focus (exact rfl)))
    | (apply i_ialN; (focus (exact rfl)); (focus (first | exact Or.inl rfl | exact Or.inr rfl)); (focus (exact (by first | exact ⟨by decide, by decide⟩ | ((try simp (disch := omega) only [ab_tI, ab_c0, wd_ix12, wd_ix8, wd_ix10, wd_up_self, wd_up_eq, wd_up_ne, Int.toNat_natCast, Int.toNat_of_nonneg, not_true_eq_false, not_false_eq_true, Option.some.injEq, hP1, wd_l103, wd_l104, wd_l105, wd_l106, wd_l107, wd_l108, wd_l109, wd_l110, wd_l111, wd_l112, wd_l113, wd_l114, wd_l115, wd_l116, wd_l117, wd_l118, wd_l119, wd_l120, wd_l121, wd_l122, wd_l123, wd_l124]); omega)))); (intro v9 hv9; (try simp (disch := omega) only [ab_tI, ab_c0, wd_ix12, wd_ix8, wd_ix10, wd_up_self, wd_up_eq, wd_up_ne, Int.toNat_natCast, Int.toNat_of_nonneg, not_true_eq_false, not_false_eq_true, Option.some.injEq, hP1] at hv9); subst hv9))
    | (apply i_aalN; (focus (exact rfl)); (focus (exact (by first | exact ⟨by decide, by decide⟩ | ((try simp (disch := omega) only [ab_tI, ab_c0, wd_ix12, wd_ix8, wd_ix10, wd_up_self, wd_up_eq, wd_up_ne, Int.toNat_natCast, Int.toNat_of_nonneg, not_true_eq_false, not_false_eq_true, Option.some.injEq, hP1, wd_l103, wd_l104, wd_l105, wd_l106, wd_l107, wd_l108, wd_l109, wd_l110, wd_l111, wd_l112, wd_l113, wd_l114, wd_l115, wd_l116, wd_l117, wd_l118, wd_l119, wd_l120, wd_l121, wd_l122, wd_l123, wd_l124]); omega)))); (intro v9 hv9; (try simp (disch := omega) only [ab_tI, ab_c0, wd_ix12, wd_ix8, wd_ix10, wd_up_self, wd_up_eq, wd_up_ne, Int.toNat_natCast, Int.toNat_of_nonneg, not_true_eq_false, not_false_eq_true, Option.some.injEq, hP1] at hv9); subst hv9))
    | (apply w_iasI; (focus (exact rfl)); (focus (exact rfl)); (focus (exact (by first | exact ⟨by decide, by decide⟩ | ((try simp (disch := omega) only [ab_tI, ab_c0, wd_ix12, wd_ix8, wd_ix10, wd_up_self, wd_up_eq, wd_up_ne, Int.toNat_natCast, Int.toNat_of_nonneg, not_true_eq_false, not_false_eq_true, Option.some.injEq, hP1, wd_l103, wd_l104, wd_l105, wd_l106, wd_l107, wd_l108, wd_l109, wd_l110, wd_l111, wd_l112, wd_l113, wd_l114, wd_l115, wd_l116, wd_l117, wd_l118, wd_l119, wd_l120, wd_l121, wd_l122, wd_l123, wd_l124]); omega)))); (focus (intro _; exact rfl)); (intro v9 hv9; (try simp (disch := omega) only [ab_tI, ab_c0, wd_ix12, wd_ix8, wd_ix10, wd_up_self, wd_up_eq, wd_up_ne, Int.toNat_natCast, Int.toNat_of_nonneg, not_true_eq_false, not_false_eq_true, Option.some.injEq, hP1] at hv9); subst hv9))
    | (apply w_balM; (focus (exact (by first | exact ⟨by decide, by decide⟩ | ((try simp (disch := omega) only [ab_tI, ab_c0, wd_ix12, wd_ix8, wd_ix10, wd_up_self, wd_up_eq, wd_up_ne, Int.toNat_natCast, Int.toNat_of_nonneg, not_true_eq_false, not_false_eq_true, Option.some.injEq, hP1, wd_l103, wd_l104, wd_l105, wd_l106, wd_l107, wd_l108, wd_l109, wd_l110, wd_l111, wd_l112, wd_l113, wd_l114, wd_l115, wd_l116, wd_l117, wd_l118, wd_l119, wd_l120, wd_l121, wd_l122, wd_l123, wd_l124]); omega)))); (intro v9 hv9; (try simp (disch := omega) only [ab_tI, ab_c0, wd_ix12, wd_ix8, wd_ix10, wd_up_self, wd_up_eq, wd_up_ne, Int.toNat_natCast, Int.toNat_of_nonneg, not_true_eq_false, not_false_eq_true, Option.some.injEq, hP1] at hv9); subst hv9))
    | (apply w_basM; (focus (exact (by first | exact ⟨by decide, by decide⟩ | ((try simp (disch := omega) only [ab_tI, ab_c0, wd_ix12, wd_ix8, wd_ix10, wd_up_self, wd_up_eq, wd_up_ne, Int.toNat_natCast, Int.toNat_of_nonneg, not_true_eq_false, not_false_eq_true, Option.some.injEq, hP1, wd_l103, wd_l104, wd_l105, wd_l106, wd_l107, wd_l108, wd_l109, wd_l110, wd_l111, wd_l112, wd_l113, wd_l114, wd_l115, wd_l116, wd_l117, wd_l118, wd_l119, wd_l120, wd_l121, wd_l122, wd_l123, wd_l124]); omega)))); (focus (first | exact Or.inl rfl | exact Or.inr rfl)); (intro v9 hv9; (try simp (disch := omega) only [ab_tI, ab_c0, wd_ix12, wd_ix8, wd_ix10, wd_up_self, wd_up_eq, wd_up_ne, Int.toNat_natCast, Int.toNat_of_nonneg, not_true_eq_false, not_false_eq_true, Option.some.injEq, hP1] at hv9); subst hv9))
    | (refine And.intro trivial ?_)
    | (refine And.intro (Or.inl rfl) ?_)
    | (refine And.intro (Or.inr rfl) ?_)
    | (refine And.intro (by ((try simp (disch := omega) only [ab_tI, ab_c0, wd_ix12, wd_ix8, wd_ix10, wd_up_self, wd_up_eq, wd_up_ne, Int.toNat_natCast, Int.toNat_of_nonneg, not_true_eq_false, not_false_eq_true, Option.some.injEq, hP1]); omega)) ?_)
    | fail)
          all_goals (exfalso; omega)
      · rw [hFs _ S hs, if_pos rfl] at hQ
        rw [hFs _ S hs] at hFj
        have ih := y_chl_s hd hFg hFs hF h0 hq0 hi hro hdp n (j + 1) T S q fq (by omega) ha hst hus hqq hq hqc hf hnq hQ
        clear hF hQ
        refine wd_rnC rfl ?_
        intro C9 X9 hC9 hX9
        (have chk9 := @hP1; clear chk9); repeat' ((conv => whnf); first
    | (apply i_getN; (focus (first | exact h1 | exact p1)); (focus (exact rfl)); (intro v9 hv9; (try simp (disch := omega) only [ab_tI, ab_c0, wd_ix12, wd_ix8, wd_ix10, wd_up_self, wd_up_eq, wd_up_ne, Int.toNat_natCast, Int.toNat_of_nonneg, not_true_eq_false, not_false_eq_true, Option.some.injEq, hP1] at hv9); subst hv9))
    | (apply i_cv; (focus (first | exact h1 | exact p1)))
    | (apply i_len; (focus (first | exact congrArg ab_len (h1) | exact congrArg ab_len (p1))))
    | (apply i_ialN; (focus (first | exact h1 | exact p1)); (focus (first | exact Or.inl rfl | exact Or.inr rfl)); (focus (exact (by first | exact ⟨by decide, by decide⟩ | ((try simp (disch := omega) only [ab_tI, ab_c0, wd_ix12, wd_ix8, wd_ix10, wd_up_self, wd_up_eq, wd_up_ne, Int.toNat_natCast, Int.toNat_of_nonneg, not_true_eq_false, not_false_eq_true, Option.some.injEq, hP1, wd_l103, wd_l104, wd_l105, wd_l106, wd_l107, wd_l108, wd_l109, wd_l110, wd_l111, wd_l112, wd_l113, wd_l114, wd_l115, wd_l116, wd_l117, wd_l118, wd_l119, wd_l120, wd_l121, wd_l122, wd_l123, wd_l124]); omega)))); (intro v9 hv9; (try simp (disch := omega) only [ab_tI, ab_c0, wd_ix12, wd_ix8, wd_ix10, wd_up_self, wd_up_eq, wd_up_ne, Int.toNat_natCast, Int.toNat_of_nonneg, not_true_eq_false, not_false_eq_true, Option.some.injEq, hP1] at hv9); subst hv9))
    | (apply i_aalN; (focus (first | exact h1 | exact p1)); (focus (exact (by first | exact ⟨by decide, by decide⟩ | ((try simp (disch := omega) only [ab_tI, ab_c0, wd_ix12, wd_ix8, wd_ix10, wd_up_self, wd_up_eq, wd_up_ne, Int.toNat_natCast, Int.toNat_of_nonneg, not_true_eq_false, not_false_eq_true, Option.some.injEq, hP1, wd_l103, wd_l104, wd_l105, wd_l106, wd_l107, wd_l108, wd_l109, wd_l110, wd_l111, wd_l112, wd_l113, wd_l114, wd_l115, wd_l116, wd_l117, wd_l118, wd_l119, wd_l120, wd_l121, wd_l122, wd_l123, wd_l124]); omega)))); (intro v9 hv9; (try simp (disch := omega) only [ab_tI, ab_c0, wd_ix12, wd_ix8, wd_ix10, wd_up_self, wd_up_eq, wd_up_ne, Int.toNat_natCast, Int.toNat_of_nonneg, not_true_eq_false, not_false_eq_true, Option.some.injEq, hP1] at hv9); subst hv9))
    | (refine hC9 87 _ _ _ (y_size (by omega) hW ha ?_))
    | (apply i_getN; (focus (exact rfl)); (focus (exact rfl)); (intro v9 hv9; (try simp (disch := omega) only [ab_tI, ab_c0, wd_ix12, wd_ix8, wd_ix10, wd_up_self, wd_up_eq, wd_up_ne, Int.toNat_natCast, Int.toNat_of_nonneg, not_true_eq_false, not_false_eq_true, Option.some.injEq, hP1] at hv9); subst hv9))
    | (refine hC9 49 _ _ _ (y_enters (by omega) hW hqr.1 hpnx ha (by omega) (fun _ => ?_) (fun q => absurd he q)))
    | (refine hC9 88 _ _ _ (y_part (by omega) hW ha hj1 ?_))
    | (refine hC9 50 _ _ _ (y_stepWithin (by omega) hqr.1 hpnx ?_))
    | (refine hC9 _ _ _ _ (hFj _ ?_))
    | (refine hX9 66 _ _ _ (ab_WB_sub ?_ ih); (repeat (first | exact ab_sub0 | (refine ab_sub1 ?_ ?_; (focus ((repeat (refine ab_skip rfl ?_)); first | exact List.mem_cons_self))))))
    | (intro v9 hv9; (try simp (disch := omega) only [ab_tI, ab_c0, wd_ix12, wd_ix8, wd_ix10, wd_up_self, wd_up_eq, wd_up_ne, Int.toNat_natCast, Int.toNat_of_nonneg, not_true_eq_false, not_false_eq_true, Option.some.injEq, hP1] at hv9); subst hv9)
    | (apply i_get; (focus (exact rfl)); (focus (exact rfl)))
    | (refine hX9 _ _ _ _ (wd_rnC rfl ?_); clear hC9 hX9 X9 C9; intro C9 X9 hC9 hX9)
    | (apply w_ialM; (focus (exact rfl)); (focus (exact (by first | exact ⟨by decide, by decide⟩ | ((try simp (disch := omega) only [ab_tI, ab_c0, wd_ix12, wd_ix8, wd_ix10, wd_up_self, wd_up_eq, wd_up_ne, Int.toNat_natCast, Int.toNat_of_nonneg, not_true_eq_false, not_false_eq_true, Option.some.injEq, hP1, wd_l103, wd_l104, wd_l105, wd_l106, wd_l107, wd_l108, wd_l109, wd_l110, wd_l111, wd_l112, wd_l113, wd_l114, wd_l115, wd_l116, wd_l117, wd_l118, wd_l119, wd_l120, wd_l121, wd_l122, wd_l123, wd_l124]); omega)))); (intro v9 hv9; (try simp (disch := omega) only [ab_tI, ab_c0, wd_ix12, wd_ix8, wd_ix10, wd_up_self, wd_up_eq, wd_up_ne, Int.toNat_natCast, Int.toNat_of_nonneg, not_true_eq_false, not_false_eq_true, Option.some.injEq, hP1] at hv9); subst hv9))
    | (apply w_putM; (focus (exact rfl)); (focus (first | exact trivial | exact Or.inl rfl | exact Or.inr rfl)); (focus (exact rfl)))
    | (apply w_iasM; (focus (exact rfl)); (focus (exact (by first | exact ⟨by decide, by decide⟩ | ((try simp (disch := omega) only [ab_tI, ab_c0, wd_ix12, wd_ix8, wd_ix10, wd_up_self, wd_up_eq, wd_up_ne, Int.toNat_natCast, Int.toNat_of_nonneg, not_true_eq_false, not_false_eq_true, Option.some.injEq, hP1, wd_l103, wd_l104, wd_l105, wd_l106, wd_l107, wd_l108, wd_l109, wd_l110, wd_l111, wd_l112, wd_l113, wd_l114, wd_l115, wd_l116, wd_l117, wd_l118, wd_l119, wd_l120, wd_l121, wd_l122, wd_l123, wd_l124]); omega)))); (intro v9 hv9; (try simp (disch := omega) only [ab_tI, ab_c0, wd_ix12, wd_ix8, wd_ix10, wd_up_self, wd_up_eq, wd_up_ne, Int.toNat_natCast, Int.toNat_of_nonneg, not_true_eq_false, not_false_eq_true, Option.some.injEq, hP1] at hv9); subst hv9))
    | (refine i_brF (by decide) ?_)
    | (refine i_brT (by decide) ?_)
    | (refine ⟨fun hc => ?_, fun hc => ?_⟩ <;> (try simp (disch := omega) only [ab_tI, ab_c0, wd_ix12, wd_ix8, wd_ix10, wd_up_self, wd_up_eq, wd_up_ne, Int.toNat_natCast, Int.toNat_of_nonneg, not_true_eq_false, not_false_eq_true, Option.some.injEq, hP1] at hc) <;> first | (exfalso; omega) | skip)
    | (apply i_cv; (focus (exact rfl)))
    | (apply i_len; (focus (exact rfl)))
    | (apply w_putI; (focus (exact rfl)); (focus (exact rfl)); (focus (exact rfl)); (focus (first | exact trivial | exact Or.inl rfl | exact Or.inr rfl)); (focus (exact rfl)))
    | (apply w_putP; (focus (exact rfl)); (focus (exact rfl)); (focus (exact rfl)); (focus (exact trivial)); (focus (exact rfl)))
    | (apply i_ialN; (focus (exact rfl)); (focus (first | exact Or.inl rfl | exact Or.inr rfl)); (focus (exact (by first | exact ⟨by decide, by decide⟩ | ((try simp (disch := omega) only [ab_tI, ab_c0, wd_ix12, wd_ix8, wd_ix10, wd_up_self, wd_up_eq, wd_up_ne, Int.toNat_natCast, Int.toNat_of_nonneg, not_true_eq_false, not_false_eq_true, Option.some.injEq, hP1, wd_l103, wd_l104, wd_l105, wd_l106, wd_l107, wd_l108, wd_l109, wd_l110, wd_l111, wd_l112, wd_l113, wd_l114, wd_l115, wd_l116, wd_l117, wd_l118, wd_l119, wd_l120, wd_l121, wd_l122, wd_l123, wd_l124]); omega)))); (intro v9 hv9; (try simp (disch := omega) only [ab_tI, ab_c0, wd_ix12, wd_ix8, wd_ix10, wd_up_self, wd_up_eq, wd_up_ne, Int.toNat_natCast, Int.toNat_of_nonneg, not_true_eq_false, not_false_eq_true, Option.some.injEq, hP1] at hv9); subst hv9))
    | (apply i_aalN; (focus (exact rfl)); (focus (exact (by first | exact ⟨by decide, by decide⟩ | ((try simp (disch := omega) only [ab_tI, ab_c0, wd_ix12, wd_ix8, wd_ix10, wd_up_self, wd_up_eq, wd_up_ne, Int.toNat_natCast, Int.toNat_of_nonneg, not_true_eq_false, not_false_eq_true, Option.some.injEq, hP1, wd_l103, wd_l104, wd_l105, wd_l106, wd_l107, wd_l108, wd_l109, wd_l110, wd_l111, wd_l112, wd_l113, wd_l114, wd_l115, wd_l116, wd_l117, wd_l118, wd_l119, wd_l120, wd_l121, wd_l122, wd_l123, wd_l124]); omega)))); (intro v9 hv9; (try simp (disch := omega) only [ab_tI, ab_c0, wd_ix12, wd_ix8, wd_ix10, wd_up_self, wd_up_eq, wd_up_ne, Int.toNat_natCast, Int.toNat_of_nonneg, not_true_eq_false, not_false_eq_true, Option.some.injEq, hP1] at hv9); subst hv9))
    | (apply w_iasI; (focus (exact rfl)); (focus (exact rfl)); (focus (exact (by first | exact ⟨by decide, by decide⟩ | ((try simp (disch := omega) only [ab_tI, ab_c0, wd_ix12, wd_ix8, wd_ix10, wd_up_self, wd_up_eq, wd_up_ne, Int.toNat_natCast, Int.toNat_of_nonneg, not_true_eq_false, not_false_eq_true, Option.some.injEq, hP1, wd_l103, wd_l104, wd_l105, wd_l106, wd_l107, wd_l108, wd_l109, wd_l110, wd_l111, wd_l112, wd_l113, wd_l114, wd_l115, wd_l116, wd_l117, wd_l118, wd_l119, wd_l120, wd_l121, wd_l122, wd_l123, wd_l124]); omega)))); (focus (intro _; exact rfl)); (intro v9 hv9; (try simp (disch := omega) only [ab_tI, ab_c0, wd_ix12, wd_ix8, wd_ix10, wd_up_self, wd_up_eq, wd_up_ne, Int.toNat_natCast, Int.toNat_of_nonneg, not_true_eq_false, not_false_eq_true, Option.some.injEq, hP1] at hv9); subst hv9))
    | (apply w_balM; (focus (exact (by first | exact ⟨by decide, by decide⟩ | ((try simp (disch := omega) only [ab_tI, ab_c0, wd_ix12, wd_ix8, wd_ix10, wd_up_self, wd_up_eq, wd_up_ne, Int.toNat_natCast, Int.toNat_of_nonneg, not_true_eq_false, not_false_eq_true, Option.some.injEq, hP1, wd_l103, wd_l104, wd_l105, wd_l106, wd_l107, wd_l108, wd_l109, wd_l110, wd_l111, wd_l112, wd_l113, wd_l114, wd_l115, wd_l116, wd_l117, wd_l118, wd_l119, wd_l120, wd_l121, wd_l122, wd_l123, wd_l124]); omega)))); (intro v9 hv9; (try simp (disch := omega) only [ab_tI, ab_c0, wd_ix12, wd_ix8, wd_ix10, wd_up_self, wd_up_eq, wd_up_ne, Int.toNat_natCast, Int.toNat_of_nonneg, not_true_eq_false, not_false_eq_true, Option.some.injEq, hP1] at hv9); subst hv9))
    | (apply w_basM; (focus (exact (by first | exact ⟨by decide, by decide⟩ | ((try simp (disch := omega) only [ab_tI, ab_c0, wd_ix12, wd_ix8, wd_ix10, wd_up_self, wd_up_eq, wd_up_ne, Int.toNat_natCast, Int.toNat_of_nonneg, not_true_eq_false, not_false_eq_true, Option.some.injEq, hP1, wd_l103, wd_l104, wd_l105, wd_l106, wd_l107, wd_l108, wd_l109, wd_l110, wd_l111, wd_l112, wd_l113, wd_l114, wd_l115, wd_l116, wd_l117, wd_l118, wd_l119, wd_l120, wd_l121, wd_l122, wd_l123, wd_l124]); omega)))); (focus (first | exact Or.inl rfl | exact Or.inr rfl)); (intro v9 hv9; (try simp (disch := omega) only [ab_tI, ab_c0, wd_ix12, wd_ix8, wd_ix10, wd_up_self, wd_up_eq, wd_up_ne, Int.toNat_natCast, Int.toNat_of_nonneg, not_true_eq_false, not_false_eq_true, Option.some.injEq, hP1] at hv9); subst hv9))
    | (refine And.intro trivial ?_)
    | (refine And.intro (Or.inl rfl) ?_)
    | (refine And.intro (Or.inr rfl) ?_)
    | (refine And.intro (by ((try simp (disch := omega) only [ab_tI, ab_c0, wd_ix12, wd_ix8, wd_ix10, wd_up_self, wd_up_eq, wd_up_ne, Int.toNat_natCast, Int.toNat_of_nonneg, not_true_eq_false, not_false_eq_true, Option.some.injEq, hP1]); omega)) ?_)
    | fail)
        all_goals (exfalso; omega)
    · unfold c_chl at hQ
      rw [if_neg he] at hQ
      have ih := y_chl_s hd hFg hFs hF h0 hq0 hi hro hdp n (j + 1) T S q fq (by omega) ha hst hus hqq hq hqc hf hnq hQ
      clear hF hQ
      refine wd_rnC rfl ?_
      intro C9 X9 hC9 hX9
      (have chk9 := @hP1; clear chk9); repeat' ((conv => whnf); first
    | (apply i_getN; (focus (first | exact h1 | exact p1)); (focus (exact rfl)); (intro v9 hv9; (try simp (disch := omega) only [ab_tI, ab_c0, wd_ix12, wd_ix8, wd_ix10, wd_up_self, wd_up_eq, wd_up_ne, Int.toNat_natCast, Int.toNat_of_nonneg, not_true_eq_false, not_false_eq_true, Option.some.injEq, hP1] at hv9); subst hv9))
    | (apply i_cv; (focus (first | exact h1 | exact p1)))
    | (apply i_len; (focus (first | exact congrArg ab_len (h1) | exact congrArg ab_len (p1))))
    | (apply i_ialN; (focus (first | exact h1 | exact p1)); (focus (first | exact Or.inl rfl | exact Or.inr rfl)); (focus (exact (by first | exact ⟨by decide, by decide⟩ | ((try simp (disch := omega) only [ab_tI, ab_c0, wd_ix12, wd_ix8, wd_ix10, wd_up_self, wd_up_eq, wd_up_ne, Int.toNat_natCast, Int.toNat_of_nonneg, not_true_eq_false, not_false_eq_true, Option.some.injEq, hP1, wd_l103, wd_l104, wd_l105, wd_l106, wd_l107, wd_l108, wd_l109, wd_l110, wd_l111, wd_l112, wd_l113, wd_l114, wd_l115, wd_l116, wd_l117, wd_l118, wd_l119, wd_l120, wd_l121, wd_l122, wd_l123, wd_l124]); omega)))); (intro v9 hv9; (try simp (disch := omega) only [ab_tI, ab_c0, wd_ix12, wd_ix8, wd_ix10, wd_up_self, wd_up_eq, wd_up_ne, Int.toNat_natCast, Int.toNat_of_nonneg, not_true_eq_false, not_false_eq_true, Option.some.injEq, hP1] at hv9); subst hv9))
    | (apply i_aalN; (focus (first | exact h1 | exact p1)); (focus (exact (by first | exact ⟨by decide, by decide⟩ | ((try simp (disch := omega) only [ab_tI, ab_c0, wd_ix12, wd_ix8, wd_ix10, wd_up_self, wd_up_eq, wd_up_ne, Int.toNat_natCast, Int.toNat_of_nonneg, not_true_eq_false, not_false_eq_true, Option.some.injEq, hP1, wd_l103, wd_l104, wd_l105, wd_l106, wd_l107, wd_l108, wd_l109, wd_l110, wd_l111, wd_l112, wd_l113, wd_l114, wd_l115, wd_l116, wd_l117, wd_l118, wd_l119, wd_l120, wd_l121, wd_l122, wd_l123, wd_l124]); omega)))); (intro v9 hv9; (try simp (disch := omega) only [ab_tI, ab_c0, wd_ix12, wd_ix8, wd_ix10, wd_up_self, wd_up_eq, wd_up_ne, Int.toNat_natCast, Int.toNat_of_nonneg, not_true_eq_false, not_false_eq_true, Option.some.injEq, hP1] at hv9); subst hv9))
    | (refine hC9 87 _ _ _ (y_size (by omega) hW ha ?_))
    | (apply i_getN; (focus (exact rfl)); (focus (exact rfl)); (intro v9 hv9; (try simp (disch := omega) only [ab_tI, ab_c0, wd_ix12, wd_ix8, wd_ix10, wd_up_self, wd_up_eq, wd_up_ne, Int.toNat_natCast, Int.toNat_of_nonneg, not_true_eq_false, not_false_eq_true, Option.some.injEq, hP1] at hv9); subst hv9))
    | (refine hC9 49 _ _ _ (y_enters (by omega) hW hqr.1 hpnx ha (by omega) (fun q => absurd q he) (fun _ => ?_)))
    | (refine hX9 66 _ _ _ (ab_WB_sub ?_ ih); (repeat (first | exact ab_sub0 | (refine ab_sub1 ?_ ?_; (focus ((repeat (refine ab_skip rfl ?_)); first | exact List.mem_cons_self))))))
    | (intro v9 hv9; (try simp (disch := omega) only [ab_tI, ab_c0, wd_ix12, wd_ix8, wd_ix10, wd_up_self, wd_up_eq, wd_up_ne, Int.toNat_natCast, Int.toNat_of_nonneg, not_true_eq_false, not_false_eq_true, Option.some.injEq, hP1] at hv9); subst hv9)
    | (apply i_get; (focus (exact rfl)); (focus (exact rfl)))
    | (refine hX9 _ _ _ _ (wd_rnC rfl ?_); clear hC9 hX9 X9 C9; intro C9 X9 hC9 hX9)
    | (apply w_ialM; (focus (exact rfl)); (focus (exact (by first | exact ⟨by decide, by decide⟩ | ((try simp (disch := omega) only [ab_tI, ab_c0, wd_ix12, wd_ix8, wd_ix10, wd_up_self, wd_up_eq, wd_up_ne, Int.toNat_natCast, Int.toNat_of_nonneg, not_true_eq_false, not_false_eq_true, Option.some.injEq, hP1, wd_l103, wd_l104, wd_l105, wd_l106, wd_l107, wd_l108, wd_l109, wd_l110, wd_l111, wd_l112, wd_l113, wd_l114, wd_l115, wd_l116, wd_l117, wd_l118, wd_l119, wd_l120, wd_l121, wd_l122, wd_l123, wd_l124]); omega)))); (intro v9 hv9; (try simp (disch := omega) only [ab_tI, ab_c0, wd_ix12, wd_ix8, wd_ix10, wd_up_self, wd_up_eq, wd_up_ne, Int.toNat_natCast, Int.toNat_of_nonneg, not_true_eq_false, not_false_eq_true, Option.some.injEq, hP1] at hv9); subst hv9))
    | (apply w_putM; (focus (exact rfl)); (focus (first | exact trivial | exact Or.inl rfl | exact Or.inr rfl)); (focus (exact rfl)))
    | (apply w_iasM; (focus (exact rfl)); (focus (exact (by first | exact ⟨by decide, by decide⟩ | ((try simp (disch := omega) only [ab_tI, ab_c0, wd_ix12, wd_ix8, wd_ix10, wd_up_self, wd_up_eq, wd_up_ne, Int.toNat_natCast, Int.toNat_of_nonneg, not_true_eq_false, not_false_eq_true, Option.some.injEq, hP1, wd_l103, wd_l104, wd_l105, wd_l106, wd_l107, wd_l108, wd_l109, wd_l110, wd_l111, wd_l112, wd_l113, wd_l114, wd_l115, wd_l116, wd_l117, wd_l118, wd_l119, wd_l120, wd_l121, wd_l122, wd_l123, wd_l124]); omega)))); (intro v9 hv9; (try simp (disch := omega) only [ab_tI, ab_c0, wd_ix12, wd_ix8, wd_ix10, wd_up_self, wd_up_eq, wd_up_ne, Int.toNat_natCast, Int.toNat_of_nonneg, not_true_eq_false, not_false_eq_true, Option.some.injEq, hP1] at hv9); subst hv9))
    | (refine i_brF (by decide) ?_)
    | (refine i_brT (by decide) ?_)
    | (refine ⟨fun hc => ?_, fun hc => ?_⟩ <;> (try simp (disch := omega) only [ab_tI, ab_c0, wd_ix12, wd_ix8, wd_ix10, wd_up_self, wd_up_eq, wd_up_ne, Int.toNat_natCast, Int.toNat_of_nonneg, not_true_eq_false, not_false_eq_true, Option.some.injEq, hP1] at hc) <;> first | (exfalso; omega) | skip)
    | (apply i_cv; (focus (exact rfl)))
    | (apply i_len; (focus (exact rfl)))
    | (apply w_putI; (focus (exact rfl)); (focus (exact rfl)); (focus (exact rfl)); (focus (first | exact trivial | exact Or.inl rfl | exact Or.inr rfl)); (focus (exact rfl)))
    | (apply w_putP; (focus (exact rfl)); (focus (exact rfl)); (focus (exact rfl)); (focus (exact trivial)); (focus (exact rfl)))
    | (apply i_ialN; (focus (exact rfl)); (focus (first | exact Or.inl rfl | exact Or.inr rfl)); (focus (exact (by first | exact ⟨by decide, by decide⟩ | ((try simp (disch := omega) only [ab_tI, ab_c0, wd_ix12, wd_ix8, wd_ix10, wd_up_self, wd_up_eq, wd_up_ne, Int.toNat_natCast, Int.toNat_of_nonneg, not_true_eq_false, not_false_eq_true, Option.some.injEq, hP1, wd_l103, wd_l104, wd_l105, wd_l106, wd_l107, wd_l108, wd_l109, wd_l110, wd_l111, wd_l112, wd_l113, wd_l114, wd_l115, wd_l116, wd_l117, wd_l118, wd_l119, wd_l120, wd_l121, wd_l122, wd_l123, wd_l124]); omega)))); (intro v9 hv9; (try simp (disch := omega) only [ab_tI, ab_c0, wd_ix12, wd_ix8, wd_ix10, wd_up_self, wd_up_eq, wd_up_ne, Int.toNat_natCast, Int.toNat_of_nonneg, not_true_eq_false, not_false_eq_true, Option.some.injEq, hP1] at hv9); subst hv9))
    | (apply i_aalN; (focus (exact rfl)); (focus (exact (by first | exact ⟨by decide, by decide⟩ | ((try simp (disch := omega) only [ab_tI, ab_c0, wd_ix12, wd_ix8, wd_ix10, wd_up_self, wd_up_eq, wd_up_ne, Int.toNat_natCast, Int.toNat_of_nonneg, not_true_eq_false, not_false_eq_true, Option.some.injEq, hP1, wd_l103, wd_l104, wd_l105, wd_l106, wd_l107, wd_l108, wd_l109, wd_l110, wd_l111, wd_l112, wd_l113, wd_l114, wd_l115, wd_l116, wd_l117, wd_l118, wd_l119, wd_l120, wd_l121, wd_l122, wd_l123, wd_l124]); omega)))); (intro v9 hv9; (try simp (disch := omega) only [ab_tI, ab_c0, wd_ix12, wd_ix8, wd_ix10, wd_up_self, wd_up_eq, wd_up_ne, Int.toNat_natCast, Int.toNat_of_nonneg, not_true_eq_false, not_false_eq_true, Option.some.injEq, hP1] at hv9); subst hv9))
    | (apply w_iasI; (focus (exact rfl)); (focus (exact rfl)); (focus (exact (by first | exact ⟨by decide, by decide⟩ | ((try simp (disch := omega) only [ab_tI, ab_c0, wd_ix12, wd_ix8, wd_ix10, wd_up_self, wd_up_eq, wd_up_ne, Int.toNat_natCast, Int.toNat_of_nonneg, not_true_eq_false, not_false_eq_true, Option.some.injEq, hP1, wd_l103, wd_l104, wd_l105, wd_l106, wd_l107, wd_l108, wd_l109, wd_l110, wd_l111, wd_l112, wd_l113, wd_l114, wd_l115, wd_l116, wd_l117, wd_l118, wd_l119, wd_l120, wd_l121, wd_l122, wd_l123, wd_l124]); omega)))); (focus (intro _; exact rfl)); (intro v9 hv9; (try simp (disch := omega) only [ab_tI, ab_c0, wd_ix12, wd_ix8, wd_ix10, wd_up_self, wd_up_eq, wd_up_ne, Int.toNat_natCast, Int.toNat_of_nonneg, not_true_eq_false, not_false_eq_true, Option.some.injEq, hP1] at hv9); subst hv9))
    | (apply w_balM; (focus (exact (by first | exact ⟨by decide, by decide⟩ | ((try simp (disch := omega) only [ab_tI, ab_c0, wd_ix12, wd_ix8, wd_ix10, wd_up_self, wd_up_eq, wd_up_ne, Int.toNat_natCast, Int.toNat_of_nonneg, not_true_eq_false, not_false_eq_true, Option.some.injEq, hP1, wd_l103, wd_l104, wd_l105, wd_l106, wd_l107, wd_l108, wd_l109, wd_l110, wd_l111, wd_l112, wd_l113, wd_l114, wd_l115, wd_l116, wd_l117, wd_l118, wd_l119, wd_l120, wd_l121, wd_l122, wd_l123, wd_l124]); omega)))); (intro v9 hv9; (try simp (disch := omega) only [ab_tI, ab_c0, wd_ix12, wd_ix8, wd_ix10, wd_up_self, wd_up_eq, wd_up_ne, Int.toNat_natCast, Int.toNat_of_nonneg, not_true_eq_false, not_false_eq_true, Option.some.injEq, hP1] at hv9); subst hv9))
    | (apply w_basM; (focus (exact (by first | exact ⟨by decide, by decide⟩ | ((try simp (disch := omega) only [ab_tI, ab_c0, wd_ix12, wd_ix8, wd_ix10, wd_up_self, wd_up_eq, wd_up_ne, Int.toNat_natCast, Int.toNat_of_nonneg, not_true_eq_false, not_false_eq_true, Option.some.injEq, hP1, wd_l103, wd_l104, wd_l105, wd_l106, wd_l107, wd_l108, wd_l109, wd_l110, wd_l111, wd_l112, wd_l113, wd_l114, wd_l115, wd_l116, wd_l117, wd_l118, wd_l119, wd_l120, wd_l121, wd_l122, wd_l123, wd_l124]); omega)))); (focus (first | exact Or.inl rfl | exact Or.inr rfl)); (intro v9 hv9; (try simp (disch := omega) only [ab_tI, ab_c0, wd_ix12, wd_ix8, wd_ix10, wd_up_self, wd_up_eq, wd_up_ne, Int.toNat_natCast, Int.toNat_of_nonneg, not_true_eq_false, not_false_eq_true, Option.some.injEq, hP1] at hv9); subst hv9))
    | (refine And.intro trivial ?_)
    | (refine And.intro (Or.inl rfl) ?_)
    | (refine And.intro (Or.inr rfl) ?_)
    | (refine And.intro (by ((try simp (disch := omega) only [ab_tI, ab_c0, wd_ix12, wd_ix8, wd_ix10, wd_up_self, wd_up_eq, wd_up_ne, Int.toNat_natCast, Int.toNat_of_nonneg, not_true_eq_false, not_false_eq_true, Option.some.injEq, hP1]); omega)) ?_)
    | fail)
      all_goals (exfalso; omega)
end
end
