/-! ===== the law between its loops, its second half (own text) ===== -/
section
variable {T : Nat → Prop} {I : wd_I} {P : wd_P} {g : Nat → ab_C} {k z n : Nat} {Q : ab_Q} {i c : Int32} {L : Nat} {xs : Nat → Int32} {x : Int64}
set_option maxHeartbeats 4000000 in
set_option maxRecDepth 100000 in
theorem l_segB (h : lw (n + 14) T I P g k z) (hsc : g ab_scr = ab_ia 9 L xs) {y : Int64} (him : (c_an g (c_imP P) 12).toInt64 = y) (hbk : ∀ (I4 : wd_I) (P4 : wd_P) (g4 : Nat → ab_C) (k4 : Nat), lf (c_imI I) (c_imP P) g k I4 P4 g4 k4 → ¬ (I4 0 11).toInt = 0 ∧ (∀ j, j < 12 → ∃ a, P4 16 j = some a ∧ c_EE g4 a ∧ (c_i g4 a 2).toInt ≤ 200) ∧ (c_an g4 (c_baP P4) 12).toInt64 = y) (hK : ∀ T' I4 P4 g4 k4 z', lf (c_imI I) (c_imP P) g k I4 P4 g4 k4 → lw n T' (c_bI I4 12) (c_baP P4) g4 k4 z' → g4 ab_scr = ab_ia 9 L xs → ab_WB 2048 201 Q 472 [(0, wd_v ab_scr), (1, wd_v 0), (2, .inl i), (3, .inl c), (4, .inr (.inl x)), (11, .inr (.inl (Int64.ofInt 7))), (13, .inl (ab_ii 0))] [] (wd (c_bI I4 12) (c_baP P4) lM g4, k4, z')) : ab_WB 2048 201 Q 334 [(0, wd_v ab_scr), (1, wd_v 0), (2, .inl i), (3, .inl c), (4, .inr (.inl x)), (6, .inr (.inl y))] [] (wd I P lM g, k, z) := by
  refine wd_rnL ?_
  intro C9 X9 hC9 hX9
  repeat' ((conv => whnf); first
    | (refine hC9 120 _ _ _ (lw_image (by omega) h (fun hc0 => ?_)))
    | (refine i_lcmpE him ?_; clear him)
    | (refine hC9 178 _ _ _ (l_some (by omega) (by constructor <;> decide) (fun r9 hr9 => ?_)); (try simp (disch := omega) only [ab_tI, ab_c0, wd_ix12, wd_ix8, wd_ix10, wd_up_self, wd_up_eq, wd_up_ne, Int.toNat_natCast, Int.toNat_of_nonneg, not_true_eq_false, not_false_eq_true, Option.some.injEq] at hr9))
    | (refine hC9 108 _ _ _ (ab_CT_k (lw_over (by omega) hc0 (fun r7 T1 I1 P1 g1 k1 z1 hc1 hf1 hp1 hv1 => ?_))); (have hsc1 := l_scr hv1 hsc); clear hc0 hp1 hv1)
    | (refine hC9 109 _ _ _ (ab_CT_k (lw_put (by omega) hc1 (fun r7 T2 I2 P2 g2 k2 z2 hc2 hf2 hp2 hv2 => ?_))); (have hsc2 := l_scr hv2 hsc1); (have hf2 := hf1.tr hf2); clear hc1 hp2 hv2 hsc1 hf1)
    | (refine hC9 183 _ _ _ (ab_CT_k (l_puts (by omega) hc2 ⟨by omega, by omega⟩ (fun T3 I3 P3 g3 k3 z3 hc3 hf3 hp3 hv3 => ?_))); (have hsc3 := l_scr hv3 hsc2); (have hf3 := hf2.tr hf3); clear hc2 hp3 hv3 hsc2 hf2)
    | (refine hC9 184 _ _ _ (ab_CT_k (l_walks (by omega) hc3 ⟨by omega, by omega⟩ rfl ⟨by decide, by decide⟩ (fun r7 I4 P4 g4 k4 z4 hc4 hf4 hp4 hv4 => ?_))); (have hsc4 := l_scr hv4 hsc3); (have hf4 := hf3.tr hf4); (have hbk9 := hbk _ _ _ _ hf4); clear hc3 hp4 hv4 hsc3 hf3)
    | (refine hC9 121 _ _ _ (lw_back (by omega) hc4 hbk9.1 hbk9.2.1 (fun hc5 => ?_)))
    | (refine i_lcmpE hbk9.2.2 ?_; clear hbk9)
    | (refine hX9 472 _ _ _ (ab_WB_sub ?_ (hK _ _ _ _ _ _ hf4 hc5 hsc4)); (repeat (first | exact ab_sub0 | (refine ab_sub1 ?_ ?_; (focus ((repeat (refine ab_skip rfl ?_)); first | exact List.mem_cons_self))))))
    | (refine hX9 347 _ _ _ (wd_rnL ?_); clear hC9 hX9 X9 C9; intro C9 X9 hC9 hX9)
    | (refine hX9 380 _ _ _ (wd_rnL ?_); clear hC9 hX9 X9 C9; intro C9 X9 hC9 hX9)
    | (refine hX9 388 _ _ _ (wd_rnL ?_); clear hC9 hX9 X9 C9; intro C9 X9 hC9 hX9)
    | (refine hX9 464 _ _ _ (wd_rnL ?_); clear hC9 hX9 X9 C9; intro C9 X9 hC9 hX9)
    | (intro v9 hv9; (try simp (disch := omega) only [ab_tI, ab_c0, wd_ix12, wd_ix8, wd_ix10, wd_up_self, wd_up_eq, wd_up_ne, Int.toNat_natCast, Int.toNat_of_nonneg, not_true_eq_false, not_false_eq_true, Option.some.injEq] at hv9); subst hv9)
    | (apply i_get; (focus (exact rfl)); (focus (exact rfl)))
    | (refine hX9 _ _ _ _ (wd_rnC rfl ?_); clear hC9 hX9 X9 C9; intro C9 X9 hC9 hX9)
    | (refine i_brF (by decide) ?_)
    | (refine i_brT (by decide) ?_)
    | (refine ⟨fun hc => ?_, fun hc => ?_⟩ <;> (try simp (disch := omega) only [ab_tI, ab_c0, wd_ix12, wd_ix8, wd_ix10, wd_up_self, wd_up_eq, wd_up_ne, Int.toNat_natCast, Int.toNat_of_nonneg, not_true_eq_false, not_false_eq_true, Option.some.injEq] at hc) <;> first | (exfalso; omega) | skip)
    | (apply i_cv; (focus (exact rfl)))
    | (refine And.intro trivial ?_)
    | (refine And.intro (Or.inl rfl) ?_)
    | (refine And.intro (Or.inr rfl) ?_)
    | (refine And.intro (by ((try simp (disch := omega) only [ab_tI, ab_c0, wd_ix12, wd_ix8, wd_ix10, wd_up_self, wd_up_eq, wd_up_ne, Int.toNat_natCast, Int.toNat_of_nonneg, not_true_eq_false, not_false_eq_true, Option.some.injEq]); omega)) ?_)
    | fail)
  all_goals (exfalso; omega)
end
