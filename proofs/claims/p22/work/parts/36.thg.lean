/-! ===== the law's texts: a thing's, a step's (own text) ===== -/
section
variable {d : Nat} {F : Nat → ab_C} {k z : Nat} {Q : ab_Q}
set_option maxHeartbeats 4000000 in
set_option maxRecDepth 100000 in
theorem l_thing3 (hd : 8 ≤ d) {c e : Int32} (he : 2 < e.toInt ∧ e.toInt ≤ 10) (hsp : st_sp F) (hroom : k + 100 ≤ 600000 ∧ z + 6000 ≤ 5000000) (hQ : st_R F k z 6 55 3 Q) : ab_CT d 181 [.inl c, .inl e] (F, k, z) Q := by
  have hscr : 700000 ≤ ab_scr := by decide
  refine wd_inC rfl (by omega) rfl ?_
  intro C9 X9 hC9 hX9
  repeat' ((conv => whnf); first
    | (refine hC9 179 _ _ _ (l_next (by omega) (fun r9 => ?_)))
    | (refine hC9 178 _ _ _ (l_some (by omega) (by constructor <;> decide) (fun r9 hr9 => ?_)); (try simp (disch := omega) only [ab_tI, ab_c0, wd_ix12, wd_ix8, wd_ix10, wd_up_self, wd_up_eq, wd_up_ne, Int.toNat_natCast, Int.toNat_of_nonneg, not_true_eq_false, not_false_eq_true, Option.some.injEq] at hr9))
    | (refine s_new (n := 4) ⟨by omega, by omega⟩ (fun F1 g1 g2 => ?_); (dsimp only))
    | (refine hC9 163 _ _ _ ?_; apply tx_ini; (focus omega); (focus exact g1); (focus exact g2); (focus (first | exact hsp | exact st_T.sp ht9)); (focus (constructor <;> omega)); clear g1 g2; intro F9 ht9; have hk9 := ht9.2.2.2.2.1; have hz9 := ht9.2.2.2.2.2.1; have hN9 := ht9.2.2.2.2.2.2)
    | (apply tx_cv; (focus exact ht9))
    | (refine s_ldc (lo := k) ?_ rfl ?_; (focus (first | exact hsp | exact st_T.sp ht9)); intro a9 w9 n9 hs9 hn9; simp only [ab_len1, List.getD_cons_zero, List.getD_cons_succ] at hn9; subst hn9)
    | (refine hC9 164 _ _ _ ?_; apply tx_app; (focus omega); (focus exact ht9); (focus exact hs9); (focus omega); (focus (constructor <;> omega)); clear ht9 hk9 hz9 hN9 hs9; intro F9 k9 z9 N9 ht9; have hk9 := ht9.2.2.2.2.1; have hz9 := ht9.2.2.2.2.2.1; have hN9 := ht9.2.2.2.2.2.2)
    | (refine hC9 166 _ _ _ ?_; apply tx_appI; (focus omega); (focus exact ht9); (focus ((try simp (disch := omega) only [ab_tI, ab_c0, wd_ix12, wd_ix8, wd_ix10, wd_up_self, wd_up_eq, wd_up_ne, Int.toNat_natCast, Int.toNat_of_nonneg, not_true_eq_false, not_false_eq_true, Option.some.injEq]); omega)); (focus omega); (focus (constructor <;> omega)); clear ht9 hk9 hz9 hN9; intro m9 hm9 F9 k9 z9 N9 ht9; have hk9 := ht9.2.2.2.2.1; have hz9 := ht9.2.2.2.2.2.1; have hN9 := ht9.2.2.2.2.2.2)
    | (refine hC9 165 _ _ _ ?_; apply tx_appC; (focus omega); (focus exact ht9); (focus ((try simp (disch := omega) only [ab_tI, ab_c0, wd_ix12, wd_ix8, wd_ix10, wd_up_self, wd_up_eq, wd_up_ne, Int.toNat_natCast, Int.toNat_of_nonneg, not_true_eq_false, not_false_eq_true, Option.some.injEq]); omega)); (focus omega); (focus (constructor <;> omega)); clear ht9 hk9 hz9 hN9; intro F9 k9 z9 N9 ht9; have hk9 := ht9.2.2.2.2.1; have hz9 := ht9.2.2.2.2.2.1; have hN9 := ht9.2.2.2.2.2.2)
    | (refine hC9 167 _ _ _ ?_; apply tx_end; (focus omega); (focus exact ht9); (focus omega); (focus (constructor <;> omega)); clear ht9 hk9 hz9 hN9; intro F9 k9 z9 y9 w9 n9 hs9 hn9 hf8 hk8 hz8 hp8; (first | (have ht9 := tx_fr (by assumption) (by omega) hf8 hk8 hz8; clear hf8 hk8 hz8 hp8; have hk9 := ht9.2.2.2.2.1; have hz9 := ht9.2.2.2.2.2.1; have hN9 := ht9.2.2.2.2.2.2) | skip))
    | (intro v9 hv9; (try simp (disch := omega) only [ab_tI, ab_c0, wd_ix12, wd_ix8, wd_ix10, wd_up_self, wd_up_eq, wd_up_ne, Int.toNat_natCast, Int.toNat_of_nonneg, not_true_eq_false, not_false_eq_true, Option.some.injEq] at hv9); subst hv9)
    | (apply i_get; (focus (exact rfl)); (focus (exact rfl)))
    | (refine hX9 _ _ _ _ (wd_rnC rfl ?_); clear hC9 hX9 X9 C9; intro C9 X9 hC9 hX9)
    | (refine i_brF (by decide) ?_)
    | (refine i_brT (by decide) ?_)
    | (refine ⟨fun hc => ?_, fun hc => ?_⟩ <;> (try simp (disch := omega) only [ab_tI, ab_c0, wd_ix12, wd_ix8, wd_ix10, wd_up_self, wd_up_eq, wd_up_ne, Int.toNat_natCast, Int.toNat_of_nonneg, not_true_eq_false, not_false_eq_true, Option.some.injEq] at hc) <;> first | (exfalso; omega) | skip)
    | (apply i_cv; (focus (exact rfl)))
    | (refine And.intro trivial ?_)
    | (refine And.intro (Or.inl rfl) ?_)
    | (refine And.intro (Or.inr rfl) ?_)
    | (refine And.intro (by ((try simp (disch := omega) only [ab_tI, ab_c0, wd_ix12, wd_ix8, wd_ix10, wd_up_self, wd_up_eq, wd_up_ne, Int.toNat_natCast, Int.toNat_of_nonneg, not_true_eq_false, not_false_eq_true, Option.some.injEq]); omega)) ?_)
    | fail)
  all_goals first | exact hQ _ _ _ _ _ _ hs9 (by omega) hf8 ⟨by omega, by omega⟩ ⟨by omega, by omega⟩ hp8 | exact hQ _ _ _ _ _ _ hs9 (by omega) (fun _ _ => rfl) ⟨by omega, by omega⟩ ⟨by omega, by omega⟩ hsp | (exfalso; omega)
set_option maxHeartbeats 4000000 in
set_option maxRecDepth 100000 in
theorem l_thingS (hd : 8 ≤ d) {K Z L R W : Nat} {c e : Int32} (he : 0 ≤ e.toInt ∧ e.toInt ≤ 2) (hL : 3 ≤ L ∧ 3 * L + 4 ≤ 400) (hrec : ∀ (c e' : Int32) (F : Nat → ab_C) (k z : Nat) (Q : ab_Q), e'.toInt = e.toInt + 1 → st_sp F → (k + R ≤ 600000 ∧ z + W ≤ 5000000) → st_R F k z K Z L Q → ab_CT (d - 1) 181 [.inl c, .inl e'] (F, k, z) Q) (hsp : st_sp F) (hroom : k + R + 3 * K + 20 ≤ 600000 ∧ z + W + 3 * Z + 20 * L + 5000 ≤ 5000000) (hQ : st_R F k z (16 + 3 * K) (3 * Z + 20 * L + 105) (3 * L + 4) Q) : ab_CT d 181 [.inl c, .inl e] (F, k, z) Q := by
  have hscr : 700000 ≤ ab_scr := by decide
  refine wd_inC rfl (by omega) rfl ?_
  intro C9 X9 hC9 hX9
  repeat' ((conv => whnf); first
    | (refine hC9 179 _ _ _ (l_next (by omega) (fun r9 => ?_)))
    | (refine hC9 178 _ _ _ (l_some (by omega) (by constructor <;> decide) (fun r9 hr9 => ?_)); (try simp (disch := omega) only [ab_tI, ab_c0, wd_ix12, wd_ix8, wd_ix10, wd_up_self, wd_up_eq, wd_up_ne, Int.toNat_natCast, Int.toNat_of_nonneg, not_true_eq_false, not_false_eq_true, Option.some.injEq] at hr9))
    | (refine s_new (n := 4) ⟨by omega, by omega⟩ (fun F1 g1 g2 => ?_); (dsimp only))
    | (refine hC9 163 _ _ _ ?_; apply tx_ini; (focus omega); (focus exact g1); (focus exact g2); (focus (first | exact hsp | exact st_T.sp ht9)); (focus (constructor <;> omega)); clear g1 g2; intro F9 ht9; have hk9 := ht9.2.2.2.2.1; have hz9 := ht9.2.2.2.2.2.1; have hN9 := ht9.2.2.2.2.2.2)
    | (apply tx_cv; (focus exact ht9))
    | (refine s_ldc (lo := k) ?_ rfl ?_; (focus (first | exact hsp | exact st_T.sp ht9)); intro a9 w9 n9 hs9 hn9; simp only [ab_len1, List.getD_cons_zero, List.getD_cons_succ] at hn9; subst hn9)
    | (refine hC9 164 _ _ _ ?_; apply tx_app; (focus omega); (focus exact ht9); (focus exact hs9); (focus omega); (focus (constructor <;> omega)); clear ht9 hk9 hz9 hN9 hs9; intro F9 k9 z9 N9 ht9; have hk9 := ht9.2.2.2.2.1; have hz9 := ht9.2.2.2.2.2.1; have hN9 := ht9.2.2.2.2.2.2)
    | (refine hC9 166 _ _ _ ?_; apply tx_appI; (focus omega); (focus exact ht9); (focus ((try simp (disch := omega) only [ab_tI, ab_c0, wd_ix12, wd_ix8, wd_ix10, wd_up_self, wd_up_eq, wd_up_ne, Int.toNat_natCast, Int.toNat_of_nonneg, not_true_eq_false, not_false_eq_true, Option.some.injEq]); omega)); (focus omega); (focus (constructor <;> omega)); clear ht9 hk9 hz9 hN9; intro m9 hm9 F9 k9 z9 N9 ht9; have hk9 := ht9.2.2.2.2.1; have hz9 := ht9.2.2.2.2.2.1; have hN9 := ht9.2.2.2.2.2.2)
    | (refine hC9 165 _ _ _ ?_; apply tx_appC; (focus omega); (focus exact ht9); (focus ((try simp (disch := omega) only [ab_tI, ab_c0, wd_ix12, wd_ix8, wd_ix10, wd_up_self, wd_up_eq, wd_up_ne, Int.toNat_natCast, Int.toNat_of_nonneg, not_true_eq_false, not_false_eq_true, Option.some.injEq]); omega)); (focus omega); (focus (constructor <;> omega)); clear ht9 hk9 hz9 hN9; intro F9 k9 z9 N9 ht9; have hk9 := ht9.2.2.2.2.1; have hz9 := ht9.2.2.2.2.2.1; have hN9 := ht9.2.2.2.2.2.2)
    | (refine hC9 167 _ _ _ ?_; apply tx_end; (focus omega); (focus exact ht9); (focus omega); (focus (constructor <;> omega)); clear ht9 hk9 hz9 hN9; intro F9 k9 z9 y9 w9 n9 hs9 hn9 hf8 hk8 hz8 hp8; (first | (have ht9 := tx_fr (by assumption) (by omega) hf8 hk8 hz8; clear hf8 hk8 hz8 hp8; have hk9 := ht9.2.2.2.2.1; have hz9 := ht9.2.2.2.2.2.1; have hN9 := ht9.2.2.2.2.2.2) | skip))
    | (refine hC9 181 _ _ _ (hrec _ _ _ _ _ _ (by rw [ab_tI (by omega) (by omega)]) (st_T.sp ht9) ⟨by omega, by omega⟩ ?_); intro F9 k9 z9 y9 w9 n9 hs9 hn9 hf8 hk8 hz8 hp8; have ht8 := tx_fr ht9 (by omega) hf8 hk8 hz8; clear ht9 hk9 hz9 hN9 hf8 hk8 hz8 hp8; have ht9 := ht8; clear ht8; have hk9 := ht9.2.2.2.2.1; have hz9 := ht9.2.2.2.2.2.1; have hN9 := ht9.2.2.2.2.2.2)
    | (intro v9 hv9; (try simp (disch := omega) only [ab_tI, ab_c0, wd_ix12, wd_ix8, wd_ix10, wd_up_self, wd_up_eq, wd_up_ne, Int.toNat_natCast, Int.toNat_of_nonneg, not_true_eq_false, not_false_eq_true, Option.some.injEq] at hv9); subst hv9)
    | (apply i_get; (focus (exact rfl)); (focus (exact rfl)))
    | (refine hX9 _ _ _ _ (wd_rnC rfl ?_); clear hC9 hX9 X9 C9; intro C9 X9 hC9 hX9)
    | (refine i_brF (by decide) ?_)
    | (refine i_brT (by decide) ?_)
    | (refine ⟨fun hc => ?_, fun hc => ?_⟩ <;> (try simp (disch := omega) only [ab_tI, ab_c0, wd_ix12, wd_ix8, wd_ix10, wd_up_self, wd_up_eq, wd_up_ne, Int.toNat_natCast, Int.toNat_of_nonneg, not_true_eq_false, not_false_eq_true, Option.some.injEq] at hc) <;> first | (exfalso; omega) | skip)
    | (apply i_cv; (focus (exact rfl)))
    | (refine And.intro trivial ?_)
    | (refine And.intro (Or.inl rfl) ?_)
    | (refine And.intro (Or.inr rfl) ?_)
    | (refine And.intro (by ((try simp (disch := omega) only [ab_tI, ab_c0, wd_ix12, wd_ix8, wd_ix10, wd_up_self, wd_up_eq, wd_up_ne, Int.toNat_natCast, Int.toNat_of_nonneg, not_true_eq_false, not_false_eq_true, Option.some.injEq]); omega)) ?_)
    | fail)
  all_goals first | exact hQ _ _ _ _ _ _ hs9 (by omega) hf8 ⟨by omega, by omega⟩ ⟨by omega, by omega⟩ hp8 | exact hQ _ _ _ _ _ _ hs9 (by omega) (fun _ _ => rfl) ⟨by omega, by omega⟩ ⟨by omega, by omega⟩ hsp | (exfalso; omega)
set_option maxHeartbeats 4000000 in
set_option maxRecDepth 100000 in
theorem l_step (hd : 8 ≤ d) {c : Int32} (hsp : st_sp F) (hroom : k + 100 ≤ 600000 ∧ z + 6000 ≤ 5000000) (hQ : st_R F k z 7 60 4 Q) : ab_CT d 182 [.inl c] (F, k, z) Q := by
  have hscr : 700000 ≤ ab_scr := by decide
  refine wd_inC rfl (by omega) rfl ?_
  intro C9 X9 hC9 hX9
  repeat' ((conv => whnf); first
    | (refine hC9 179 _ _ _ (l_next (by omega) (fun r9 => ?_)))
    | (refine hC9 178 _ _ _ (l_some (by omega) (by constructor <;> decide) (fun r9 hr9 => ?_)); (try simp (disch := omega) only [ab_tI, ab_c0, wd_ix12, wd_ix8, wd_ix10, wd_up_self, wd_up_eq, wd_up_ne, Int.toNat_natCast, Int.toNat_of_nonneg, not_true_eq_false, not_false_eq_true, Option.some.injEq] at hr9))
    | (refine s_new (n := 4) ⟨by omega, by omega⟩ (fun F1 g1 g2 => ?_); (dsimp only))
    | (refine hC9 163 _ _ _ ?_; apply tx_ini; (focus omega); (focus exact g1); (focus exact g2); (focus (first | exact hsp | exact st_T.sp ht9)); (focus (constructor <;> omega)); clear g1 g2; intro F9 ht9; have hk9 := ht9.2.2.2.2.1; have hz9 := ht9.2.2.2.2.2.1; have hN9 := ht9.2.2.2.2.2.2)
    | (apply tx_cv; (focus exact ht9))
    | (refine s_ldc (lo := k) ?_ rfl ?_; (focus (first | exact hsp | exact st_T.sp ht9)); intro a9 w9 n9 hs9 hn9; simp only [ab_len1, List.getD_cons_zero, List.getD_cons_succ] at hn9; subst hn9)
    | (refine hC9 164 _ _ _ ?_; apply tx_app; (focus omega); (focus exact ht9); (focus exact hs9); (focus omega); (focus (constructor <;> omega)); clear ht9 hk9 hz9 hN9 hs9; intro F9 k9 z9 N9 ht9; have hk9 := ht9.2.2.2.2.1; have hz9 := ht9.2.2.2.2.2.1; have hN9 := ht9.2.2.2.2.2.2)
    | (refine hC9 166 _ _ _ ?_; apply tx_appI; (focus omega); (focus exact ht9); (focus ((try simp (disch := omega) only [ab_tI, ab_c0, wd_ix12, wd_ix8, wd_ix10, wd_up_self, wd_up_eq, wd_up_ne, Int.toNat_natCast, Int.toNat_of_nonneg, not_true_eq_false, not_false_eq_true, Option.some.injEq]); omega)); (focus omega); (focus (constructor <;> omega)); clear ht9 hk9 hz9 hN9; intro m9 hm9 F9 k9 z9 N9 ht9; have hk9 := ht9.2.2.2.2.1; have hz9 := ht9.2.2.2.2.2.1; have hN9 := ht9.2.2.2.2.2.2)
    | (refine hC9 165 _ _ _ ?_; apply tx_appC; (focus omega); (focus exact ht9); (focus ((try simp (disch := omega) only [ab_tI, ab_c0, wd_ix12, wd_ix8, wd_ix10, wd_up_self, wd_up_eq, wd_up_ne, Int.toNat_natCast, Int.toNat_of_nonneg, not_true_eq_false, not_false_eq_true, Option.some.injEq]); omega)); (focus omega); (focus (constructor <;> omega)); clear ht9 hk9 hz9 hN9; intro F9 k9 z9 N9 ht9; have hk9 := ht9.2.2.2.2.1; have hz9 := ht9.2.2.2.2.2.1; have hN9 := ht9.2.2.2.2.2.2)
    | (refine hC9 167 _ _ _ ?_; apply tx_end; (focus omega); (focus exact ht9); (focus omega); (focus (constructor <;> omega)); clear ht9 hk9 hz9 hN9; intro F9 k9 z9 y9 w9 n9 hs9 hn9 hf8 hk8 hz8 hp8; (first | (have ht9 := tx_fr (by assumption) (by omega) hf8 hk8 hz8; clear hf8 hk8 hz8 hp8; have hk9 := ht9.2.2.2.2.1; have hz9 := ht9.2.2.2.2.2.1; have hN9 := ht9.2.2.2.2.2.2) | skip))
    | (intro v9 hv9; (obtain ⟨hv8, hv9⟩ := hv9); (try simp (disch := omega) only [ab_tI, ab_c0, wd_ix12, wd_ix8, wd_ix10, wd_up_self, wd_up_eq, wd_up_ne, Int.toNat_natCast, Int.toNat_of_nonneg, not_true_eq_false, not_false_eq_true, Option.some.injEq] at hv9); (have hv7 := hv9 (by omega) (by omega)); subst hv7)
    | (intro v9 hv9; (try simp (disch := omega) only [ab_tI, ab_c0, wd_ix12, wd_ix8, wd_ix10, wd_up_self, wd_up_eq, wd_up_ne, Int.toNat_natCast, Int.toNat_of_nonneg, not_true_eq_false, not_false_eq_true, Option.some.injEq] at hv9); subst hv9)
    | (apply i_get; (focus (exact rfl)); (focus (exact rfl)))
    | (refine hX9 _ _ _ _ (wd_rnC rfl ?_); clear hC9 hX9 X9 C9; intro C9 X9 hC9 hX9)
    | (refine i_brF (by decide) ?_)
    | (refine i_brT (by decide) ?_)
    | (refine ⟨fun hc => ?_, fun hc => ?_⟩ <;> (try simp (disch := omega) only [ab_tI, ab_c0, wd_ix12, wd_ix8, wd_ix10, wd_up_self, wd_up_eq, wd_up_ne, Int.toNat_natCast, Int.toNat_of_nonneg, not_true_eq_false, not_false_eq_true, Option.some.injEq] at hc) <;> first | (exfalso; omega) | skip)
    | (apply i_cv; (focus (exact rfl)))
    | (refine And.intro trivial ?_)
    | (refine And.intro (Or.inl rfl) ?_)
    | (refine And.intro (Or.inr rfl) ?_)
    | (refine And.intro (by ((try simp (disch := omega) only [ab_tI, ab_c0, wd_ix12, wd_ix8, wd_ix10, wd_up_self, wd_up_eq, wd_up_ne, Int.toNat_natCast, Int.toNat_of_nonneg, not_true_eq_false, not_false_eq_true, Option.some.injEq]); omega)) ?_)
    | fail)
  all_goals first | exact hQ _ _ _ _ _ _ hs9 (by omega) hf8 ⟨by omega, by omega⟩ ⟨by omega, by omega⟩ hp8 | exact hQ _ _ _ _ _ _ hs9 (by omega) (fun _ _ => rfl) ⟨by omega, by omega⟩ ⟨by omega, by omega⟩ hsp | (exfalso; omega)
theorem l_thing2 (hd : 9 ≤ d) {c e : Int32} (he : e.toInt = 2) (hsp : st_sp F) (hroom : k + 140 ≤ 600000 ∧ z + 11500 ≤ 5000000) (hQ : st_R F k z 34 330 13 Q) : ab_CT d 181 [.inl c, .inl e] (F, k, z) Q :=
  l_thingS (K := 6) (Z := 55) (L := 3) (R := 100) (W := 6000) (by omega) (by omega) (by omega) (fun c e' F k z Q q1 q2 q3 q4 => l_thing3 (by omega) (by omega) q2 q3 q4) hsp (by omega) (hQ.mo (by omega) (by omega) (by omega))
theorem l_thing1 (hd : 10 ≤ d) {c e : Int32} (he : e.toInt = 1) (hsp : st_sp F) (hroom : k + 270 ≤ 600000 ∧ z + 18000 ≤ 5000000) (hQ : st_R F k z 118 1355 43 Q) : ab_CT d 181 [.inl c, .inl e] (F, k, z) Q :=
  l_thingS (K := 34) (Z := 330) (L := 13) (R := 140) (W := 11500) (by omega) (by omega) (by omega) (fun c e' F k z Q q1 q2 q3 q4 => l_thing2 (by omega) (by omega) q2 q3 q4) hsp (by omega) (hQ.mo (by omega) (by omega) (by omega))
theorem l_thing (hd : 11 ≤ d) {c e : Int32} (he : e.toInt = 0) (hsp : st_sp F) (hroom : k + 650 ≤ 600000 ∧ z + 30000 ≤ 5000000) (hQ : st_R F k z 370 5030 133 Q) : ab_CT d 181 [.inl c, .inl e] (F, k, z) Q :=
  l_thingS (K := 118) (Z := 1355) (L := 43) (R := 270) (W := 18000) (by omega) (by omega) (by omega) (fun c e' F k z Q q1 q2 q3 q4 => l_thing1 (by omega) (by omega) q2 q3 q4) hsp (by omega) (hQ.mo (by omega) (by omega) (by omega))
end
