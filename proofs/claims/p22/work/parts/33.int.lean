/-! ===== texts: a number, a letter put behind a builder's (own text) ===== -/
section
variable {d : Nat} {F : Nat → ab_C} {k z : Nat} {Q : ab_Q} {x v N n : Nat}

set_option maxHeartbeats 4000000 in
set_option maxRecDepth 100000 in
theorem j_size (hd : 1 ≤ d) {i : Int32} {h : ab_H} (hi : 0 ≤ i.toInt ∧ i.toInt ≤ 99) (h1 : i.toInt ≤ 9 → Q (some (.inl (ab_ii 1))) h) (h2 : 10 ≤ i.toInt → Q (some (.inl (ab_ii 2))) h) : ab_CT d 154 [.inl i] h Q := by
  have e1 : (ab_ii (-i.toInt)).toInt = -i.toInt := ab_tI (by omega) (by omega)
  have e2 : ab_ii (1 + 0) = ab_ii 1 := rfl
  have e3 : ab_ii (1 + 1) = ab_ii 2 := rfl
  have e4 : ab_ii (2 + 0) = ab_ii 2 := rfl
  refine wd_inC rfl (by omega) rfl ?_
  intro C9 X9 hC9 hX9
  repeat' ((conv => whnf); first
    | (intro v9 hv9; (try simp (disch := omega) only [ab_tI, ab_c0, wd_ix12, wd_ix8, wd_ix10, wd_up_self, wd_up_eq, wd_up_ne, Int.toNat_natCast, Int.toNat_of_nonneg, not_true_eq_false, not_false_eq_true, Option.some.injEq, st_shr, st_shl, e1, e2, e3, e4] at hv9); subst hv9)
    | (apply i_get; (focus (exact rfl)); (focus (exact rfl)))
    | (refine hX9 _ _ _ _ (wd_rnC rfl ?_); clear hC9 hX9 X9 C9; intro C9 X9 hC9 hX9)
    | (refine i_brF (by decide) ?_)
    | (refine i_brT (by decide) ?_)
    | (refine ⟨fun hc => ?_, fun hc => ?_⟩ <;> (try simp (disch := omega) only [ab_tI, ab_c0, wd_ix12, wd_ix8, wd_ix10, wd_up_self, wd_up_eq, wd_up_ne, Int.toNat_natCast, Int.toNat_of_nonneg, not_true_eq_false, not_false_eq_true, Option.some.injEq, st_shr, st_shl, e1, e2, e3, e4] at hc) <;> first | (exfalso; omega) | skip)
    | (apply i_cv; (focus (exact rfl)))
    | (refine And.intro trivial ?_)
    | (refine And.intro (Or.inl rfl) ?_)
    | (refine And.intro (Or.inr rfl) ?_)
    | (refine And.intro (by ((try simp (disch := omega) only [ab_tI, ab_c0, wd_ix12, wd_ix8, wd_ix10, wd_up_self, wd_up_eq, wd_up_ne, Int.toNat_natCast, Int.toNat_of_nonneg, not_true_eq_false, not_false_eq_true, Option.some.injEq, st_shr, st_shl, e1, e2, e3, e4]); omega)) ?_)
    | fail)
  all_goals first | exact h1 (by omega) | exact h2 (by omega) | (exfalso; omega)
set_option maxHeartbeats 4000000 in
set_option maxRecDepth 100000 in
theorem j_getChars (hd : 1 ≤ d) {i ix : Int32} {f : Nat → Int32} (hsp : st_sp F) (h2 : F v = ab_ia 1 N f) (hv : v < 600000) (hN : N ≤ 1000) (hi : 0 ≤ i.toInt ∧ i.toInt ≤ 99) (h1 : 1 ≤ ix.toInt) (h10 : 10 ≤ i.toInt → 2 ≤ ix.toInt) (hix : ix.toInt ≤ (N : Int)) (hQ : ∀ (r : Int32) F' g', F' v = ab_ia 1 N g' → (∀ y, y ≠ v → F' y = F y) → Q (some (.inl r)) (F', k, z)) : ab_CT d 153 [.inl i, .inl ix, wd_v v] (F, k, z) Q := by
  have hscr : 700000 ≤ ab_scr := by decide
  obtain ⟨-, -, ⟨a3, f3, s3, s3b, s3c⟩, ⟨a4, f4, s4, s4b, s4c⟩, -⟩ := hsp
  have e1 : (ab_ii (-i.toInt)).toInt = -i.toInt := ab_tI (by omega) (by omega)
  have e4 : (ab_ii (-(ab_ii (-i.toInt)).toInt)).toInt = i.toInt := by rw [e1, Int.neg_neg, ab_ii_toInt]
  have e2 : (ab_ii (ix.toInt + -1)).toInt = ix.toInt - 1 := by rw [ab_tI (by omega) (by omega)]; omega
  have e3 : (ab_ii (ix.toInt - 1 + -1)).toInt = ix.toInt - 2 ∨ ix.toInt < 2 := by
    by_cases q : ix.toInt < 2
    · exact Or.inr q
    · exact Or.inl (by rw [ab_tI (by omega) (by omega)]; omega)
  refine wd_inC rfl (by omega) rfl ?_
  intro C9 X9 hC9 hX9
  repeat' ((conv => whnf); first
    | (refine s_sta s3 ?_)
    | (refine s_sta (F := F) s4 ?_)
    | (refine s_bal s3c ⟨by omega, by omega⟩ (fun v9 => ?_))
    | (refine s_bas h2 (by omega) ⟨by omega, by omega⟩ (fun F1 g1 q1 q2 => ?_))
    | (refine s_sta ((q2 _ (by omega)).trans s4) ?_)
    | (refine s_bal ((q2 _ (by omega)).trans s4c) ⟨by omega, by omega⟩ (fun v9 => ?_))
    | (refine s_bas q1 (by omega) ⟨by omega, by omega⟩ (fun F2 g2 q3 q4 => ?_))
    | (intro v9 hv9; (try simp (disch := omega) only [ab_tI, ab_c0, wd_ix12, wd_ix8, wd_ix10, wd_up_self, wd_up_eq, wd_up_ne, Int.toNat_natCast, Int.toNat_of_nonneg, not_true_eq_false, not_false_eq_true, Option.some.injEq, st_shr, st_shl, e1, e2] at hv9); subst hv9)
    | (apply i_get; (focus (exact rfl)); (focus (exact rfl)))
    | (refine hX9 _ _ _ _ (wd_rnC rfl ?_); clear hC9 hX9 X9 C9; intro C9 X9 hC9 hX9)
    | (refine i_brF (by decide) ?_)
    | (refine i_brT (by decide) ?_)
    | (refine ⟨fun hc => ?_, fun hc => ?_⟩ <;> (try simp (disch := omega) only [ab_tI, ab_c0, wd_ix12, wd_ix8, wd_ix10, wd_up_self, wd_up_eq, wd_up_ne, Int.toNat_natCast, Int.toNat_of_nonneg, not_true_eq_false, not_false_eq_true, Option.some.injEq, st_shr, st_shl, e1, e2] at hc) <;> first | (exfalso; omega) | skip)
    | (apply i_cv; (focus (exact rfl)))
    | (refine And.intro trivial ?_)
    | (refine And.intro (Or.inl rfl) ?_)
    | (refine And.intro (Or.inr rfl) ?_)
    | (refine And.intro (by ((try simp (disch := omega) only [ab_tI, ab_c0, wd_ix12, wd_ix8, wd_ix10, wd_up_self, wd_up_eq, wd_up_ne, Int.toNat_natCast, Int.toNat_of_nonneg, not_true_eq_false, not_false_eq_true, Option.some.injEq, st_shr, st_shl, e1, e2]); omega)) ?_)
    | fail)
  all_goals first | exact hQ _ _ _ q3 (fun y hy => (q4 y hy).trans (q2 y hy)) | exact hQ _ _ _ q1 q2 | (exfalso; omega)
end
