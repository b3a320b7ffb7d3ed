/-! ===== the law's walks (own text) ===== -/
section
variable {d : Nat} {T : Nat → Prop} {I : wd_I} {P : wd_P} {g : Nat → ab_C} {k z n : Nat} {Q : ab_Q}
set_option maxHeartbeats 4000000 in
set_option maxRecDepth 100000 in
theorem l_walks_l (hd : 79 ≤ d) (h : lw (n + 5) T I P g k z) {p c : Int32} {pn mm : Nat} (hp : c_pp p) (hpn : p.toInt.toNat = pn) (hm : mm ≤ 3) (hQ : ∀ r I' P' g' k' z', lw n T I' P' g' k' z' → lf I P g k I' P' g' k' → (∀ q, q ≠ pn → P' 8 q = P 8 q) → Q (some (.inl r)) (wd I' P' lM g', k', z')) : ∀ (r i : Nat) (v : Int32) (F : Nat → ab_C) (k5 z5 y w nn : Nat), i + r = mm → st_is F 204 k5 y w nn → (∀ a, (a < k ∨ ab_scr ≤ a) → F a = wd I P lM g a) → st_sp F → (k ≤ k5 ∧ k5 ≤ k + 20 * i) → (z ≤ z5 ∧ z5 ≤ z + 400 * i) → nn ≤ 4 * i → ab_WB d 184 Q 10 [(0, wd_v 0), (1, .inl p), (2, .inl c), (3, .inl (ab_ii (mm : Int))), (4, .inl v), (5, wd_v y), (6, .inl (ab_ii (i : Int)))] [] (F, k5, z5)
  | 0, i, v, F, k5, z5, y, w, nn, hi, ht5, hF5, hsp5, hk5, hz5, hn5 => by
    have hroom := h.room
    have h204 := h.2.2.1
    have e : i = mm := by omega
    subst e
    obtain ⟨g9, rfl, hx9⟩ := wd_ex h204 hF5
    have hlw9 := lw.st (k' := k5) (z' := z5) h hx9 ⟨by omega, by omega⟩ (by omega) hsp5
    have hlf9 : lf I P g k I P g9 k5 := ⟨by omega, hx9, fun _ _ _ => rfl, rfl⟩
    obtain ⟨⟨f9, tl9, q1, q2⟩, -⟩ := id ht5
    have e400 := ht5.2.2.2
    refine wd_rnC rfl ?_
    intro C9 X9 hC9 hX9
    repeat' ((conv => whnf); first
    | (apply i_cv; (focus (exact q1)))
    | (refine hC9 156 _ _ _ (j_length0 (by omega) hsp5.2.1 q1 q2 ?_))
    | (refine hC9 180 _ _ _ (l_says (by omega) hlw9.1 hsp5 ht5 (fun I9 hfd9 => ?_)); (have hlw8 := hlw9.fd hfd9); (have hlf8 := lf.tr hlf9 (lf.of_fd (P := P) (g := g9) (k := k5) hfd9)))
    | (refine hC9 106 _ _ _ (lw_path (by omega) hlw8 hp hpn (fun r7 I7 P7 g7 k7 z7 hlw7 hlf7 hp7 => ?_)))
    | (intro v9 hv9; (try simp (disch := omega) only [ab_tI, ab_c0, wd_ix12, wd_ix8, wd_ix10, wd_up_self, wd_up_eq, wd_up_ne, Int.toNat_natCast, Int.toNat_of_nonneg, not_true_eq_false, not_false_eq_true, Option.some.injEq] at hv9); subst hv9)
    | (apply i_get; (focus (exact rfl)); (focus (exact rfl)))
    | (refine hX9 _ _ _ _ (wd_rnC rfl ?_); clear hC9 hX9 X9 C9; intro C9 X9 hC9 hX9)
    | (refine i_brF (by decide) ?_)
    | (refine i_brT (by decide) ?_)
    | (refine ⟨fun hc => ?_, fun hc => ?_⟩ <;> (try simp (disch := omega) only [ab_tI, ab_c0, wd_ix12, wd_ix8, wd_ix10, wd_up_self, wd_up_eq, wd_up_ne, Int.toNat_natCast, Int.toNat_of_nonneg, not_true_eq_false, not_false_eq_true, Option.some.injEq] at hc) <;> first | (exfalso; omega) | skip)
    | (apply i_cv; (focus (exact rfl)))
    | (refine And.intro trivial ?_)
    | (refine And.intro (Or.inl rfl) ?_)
    | (refine And.intro (Or.inr rfl) ?_)
    | (refine And.intro (by ((try simp (disch := omega) only [ab_tI, ab_c0, wd_ix12, wd_ix8, wd_ix10, wd_up_self, wd_up_eq, wd_up_ne, Int.toNat_natCast, Int.toNat_of_nonneg, not_true_eq_false, not_false_eq_true, Option.some.injEq]); omega)) ?_)
    | fail)
    all_goals first | exact hQ _ _ _ _ _ _ (hlw7.le (by omega)) (hlf8.tr hlf7) hp7 | (exfalso; omega)
  | r + 1, i, v, F, k5, z5, y, w, nn, hi, ht5, hF5, hsp5, hk5, hz5, hn5 => by
    have hroom := h.room
    have h204 := h.2.2.1
    have hscr : 700000 ≤ ab_scr := by decide
    have e1 : (ab_ii (i : Int)).toInt = (i : Int) := ab_tI (by omega) (by omega)
    have ih := fun v F k5 z5 y w nn => l_walks_l hd h (c := c) hp hpn hm hQ r (i + 1) v F k5 z5 y w nn (by omega)
    clear hQ
    refine wd_rnC rfl ?_
    intro C9 X9 hC9 hX9
    repeat' ((conv => whnf); first
    | (refine hC9 179 _ _ _ (l_next (by omega) (fun r9 => ?_)))
    | (refine s_new (n := 4) ⟨by omega, by omega⟩ (fun F1 g1 g2 => ?_); (dsimp only))
    | (refine hC9 163 _ _ _ ?_; apply tx_ini; (focus omega); (focus exact g1); (focus exact g2); (focus exact hsp5); (focus (constructor <;> omega)); clear g1 g2; intro F9 ht9; have hk9 := ht9.2.2.2.2.1; have hz9 := ht9.2.2.2.2.2.1; have hN9 := ht9.2.2.2.2.2.2; (have ht4 := st_is.fr1 ht5 ht9))
    | (apply tx_cv; (focus exact ht9))
    | (refine hC9 182 _ _ _ (l_step (by omega) (st_T.sp ht9) ⟨by omega, by omega⟩ ?_); intro F9 k9 z9 y9 w9 n9 hs9 hn9 hf8 hk8 hz8 hp8; have ht8 := tx_fr ht9 (by omega) hf8 hk8 hz8; clear ht9 hk9 hz9 hN9 hf8 hk8 hz8 hp8; have ht9 := ht8; clear ht8; have hk9 := ht9.2.2.2.2.1; have hz9 := ht9.2.2.2.2.2.1; have hN9 := ht9.2.2.2.2.2.2)
    | (refine hC9 164 _ _ _ ?_; apply tx_app; (focus omega); (focus exact ht9); (focus (exact ht4)); (focus omega); (focus (constructor <;> omega)); clear ht9 hk9 hz9 hN9 ht4; intro F9 k9 z9 N9 ht9; have hk9 := ht9.2.2.2.2.1; have hz9 := ht9.2.2.2.2.2.1; have hN9 := ht9.2.2.2.2.2.2)
    | (refine hC9 164 _ _ _ ?_; apply tx_app; (focus omega); (focus exact ht9); (focus (exact hs9)); (focus omega); (focus (constructor <;> omega)); clear ht9 hk9 hz9 hN9 hs9; intro F9 k9 z9 N9 ht9; have hk9 := ht9.2.2.2.2.1; have hz9 := ht9.2.2.2.2.2.1; have hN9 := ht9.2.2.2.2.2.2)
    | (refine hC9 167 _ _ _ ?_; apply tx_end; (focus omega); (focus exact ht9); (focus omega); (focus (constructor <;> omega)); clear ht9 hk9 hz9 hN9; intro F9 k9 z9 y9 w9 n9 hs9 hn9 hf8 hk8 hz8 hp8)
    | (refine hX9 10 _ _ _ (ab_WB_sub ?_ (ih r9 _ _ _ _ _ _ (st_is.lo hs9 (by omega)) (fun a ha => (hf8 a (by omega)).trans (hF5 a ha)) hp8 ⟨by omega, by omega⟩ ⟨by omega, by omega⟩ (by omega))); (repeat (first | exact ab_sub0 | (refine ab_sub1 ?_ ?_; (focus ((repeat (refine ab_skip rfl ?_)); first | exact List.mem_cons_self))))))
    | (intro v9 hv9; (try simp (disch := omega) only [ab_tI, ab_c0, wd_ix12, wd_ix8, wd_ix10, wd_up_self, wd_up_eq, wd_up_ne, Int.toNat_natCast, Int.toNat_of_nonneg, not_true_eq_false, not_false_eq_true, Option.some.injEq] at hv9); subst hv9)
    | (apply i_get; (focus (exact rfl)); (focus (exact rfl)))
    | (refine hX9 _ _ _ _ (wd_rnC rfl ?_); clear hC9 hX9 X9 C9; intro C9 X9 hC9 hX9)
    | (refine i_brF (by decide) ?_)
    | (refine i_brT (by decide) ?_)
    | (refine ⟨fun hc => ?_, fun hc => ?_⟩ <;> (try simp (disch := omega) only [ab_tI, ab_c0, wd_ix12, wd_ix8, wd_ix10, wd_up_self, wd_up_eq, wd_up_ne, Int.toNat_natCast, Int.toNat_of_nonneg, not_true_eq_false, not_false_eq_true, Option.some.injEq] at hc) <;> first | (exfalso; omega) | skip)
    | (apply i_cv; (focus (exact rfl)))
    | (refine And.intro trivial ?_)
    | (refine And.intro (Or.inl rfl) ?_)
    | (refine And.intro (Or.inr rfl) ?_)
    | (refine And.intro (by ((try simp (disch := omega) only [ab_tI, ab_c0, wd_ix12, wd_ix8, wd_ix10, wd_up_self, wd_up_eq, wd_up_ne, Int.toNat_natCast, Int.toNat_of_nonneg, not_true_eq_false, not_false_eq_true, Option.some.injEq]); omega)) ?_)
    | fail)
    all_goals (exfalso; omega)
set_option maxHeartbeats 4000000 in
set_option maxRecDepth 100000 in
theorem l_walks (hd : 80 ≤ d) (h : lw (n + 5) T I P g k z) {p c m : Int32} {pn : Nat} (hp : c_pp p) (hpn : p.toInt.toNat = pn) (hm : 0 ≤ m.toInt ∧ m.toInt ≤ 3) (hQ : ∀ r I' P' g' k' z', lw n T I' P' g' k' z' → lf I P g k I' P' g' k' → (∀ q, q ≠ pn → P' 8 q = P 8 q) → Q (some (.inl r)) (wd I' P' lM g', k', z')) : ab_CT d 184 [wd_v 0, .inl p, .inl c, .inl m] (wd I P lM g, k, z) Q := by
  have hsp := h.2.2.2.1
  obtain ⟨mm, hmm, hm3⟩ : ∃ mm : Nat, m = ab_ii (mm : Int) ∧ mm ≤ 3 := ⟨m.toInt.toNat, by rw [Int.toNat_of_nonneg hm.1, ab_ii_toInt], by omega⟩
  subst hmm
  have hl := fun y w nn hs => l_walks_l (d := d) (by omega) h (c := c) hp hpn hm3 hQ mm 0 c (wd I P lM g) k z y w nn (by omega) hs (fun _ _ => rfl) hsp ⟨by omega, by omega⟩ ⟨by omega, by omega⟩
  clear hm hQ
  refine wd_inC rfl (by omega) rfl ?_
  intro C9 X9 hC9 hX9
  repeat' ((conv => whnf); first
    | (refine s_ldc (lo := 204) hsp rfl ?_; intro a9 w9 n9 hs9 hn9; simp only [ab_len1, List.getD_cons_zero, List.getD_cons_succ] at hn9; subst hn9; dsimp only)
    | (refine hX9 10 _ _ _ (ab_WB_sub ?_ (hl _ _ _ hs9 (by omega))); (repeat (first | exact ab_sub0 | (refine ab_sub1 ?_ ?_; (focus ((repeat (refine ab_skip rfl ?_)); first | exact List.mem_cons_self))))))
    | (intro v9 hv9; (try simp (disch := omega) only [ab_tI, ab_c0, wd_ix12, wd_ix8, wd_ix10, wd_up_self, wd_up_eq, wd_up_ne, Int.toNat_natCast, Int.toNat_of_nonneg, not_true_eq_false, not_false_eq_true, Option.some.injEq] at hv9); subst hv9)
    | (apply i_get; (focus (exact rfl)); (focus (exact rfl)))
    | (refine hX9 _ _ _ _ (wd_rnC rfl ?_); clear hC9 hX9 X9 C9; intro C9 X9 hC9 hX9)
    | (refine i_brF (by decide) ?_)
    | (refine i_brT (by decide) ?_)
    | (refine ⟨fun hc => ?_, fun hc => ?_⟩ <;> (try simp (disch := omega) only [ab_tI, ab_c0, wd_ix12, wd_ix8, wd_ix10, wd_up_self, wd_up_eq, wd_up_ne, Int.toNat_natCast, Int.toNat_of_nonneg, not_true_eq_false, not_false_eq_true, Option.some.injEq] at hc) <;> first | (exfalso; omega) | skip)
    | (apply i_cv; (focus (exact rfl)))
    | (refine And.intro trivial ?_)
    | (refine And.intro (Or.inl rfl) ?_)
    | (refine And.intro (Or.inr rfl) ?_)
    | (refine And.intro (by ((try simp (disch := omega) only [ab_tI, ab_c0, wd_ix12, wd_ix8, wd_ix10, wd_up_self, wd_up_eq, wd_up_ne, Int.toNat_natCast, Int.toNat_of_nonneg, not_true_eq_false, not_false_eq_true, Option.some.injEq]); omega)) ?_)
    | fail)
  all_goals (exfalso; omega)
end
