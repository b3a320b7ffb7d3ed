/-! ===== the law between its loops (own text) ===== -/
section
variable {T : Nat → Prop} {I : wd_I} {P : wd_P} {g : Nat → ab_C} {k z n : Nat} {Q : ab_Q} {i c : Int32} {L : Nat} {xs : Nat → Int32} {x : Int64}
set_option maxHeartbeats 4000000 in
set_option maxRecDepth 100000 in
theorem l_segA (h : lw (n + 14) T I P g k z) {y : Int64} (hK : ∀ I' P', k_qt I P I' P' → ab_WB 2048 201 Q 334 [(0, wd_v ab_scr), (1, wd_v 0), (2, .inl i), (3, .inl c), (4, .inr (.inl x)), (6, .inr (.inl y))] [] (wd I' P' lM g, k, z)) : ab_WB 2048 201 Q 126 [(0, wd_v ab_scr), (1, wd_v 0), (2, .inl i), (3, .inl c), (4, .inr (.inl x)), (6, .inr (.inl y)), (8, .inl (ab_ii ((20 : Nat) : Int)))] [] (wd I P lM g, k, z) := by
  have hs0 : c_sh (ab_ii 0) := ⟨by decide, by decide⟩
  have hs1 : c_sh (ab_ii 1) := ⟨by decide, by decide⟩
  have hp0 : c_pp (ab_ii 0) := ⟨by decide, by decide⟩
  have h0n : (ab_ii 0).toInt.toNat = 0 := by decide
  have h1n : (ab_ii 1).toInt.toNat = 1 := by decide
  have h00 : (ab_ii 0).toInt = ((0 : Nat) : Int) := by decide
  have ha0 := (lq_at h.1 (j := 0) (by omega)).1
  have ha1 := (lq_at h.1 (j := 1) (by omega)).1
  have hb0 := (lp_at h.1 (j := 0) (by omega)).1
  obtain ⟨hE0, hE1⟩ : c_EE g (lq P 0) ∧ (c_i g (lq P 0) 2).toInt ≤ 200 := by
    obtain ⟨a, ha, q1, q2⟩ := h.2.2.2.2 0 (by omega)
    have e : a = lq P 0 := Option.some.inj (ha.symm.trans ha0)
    subst e
    exact ⟨q1, q2⟩
  have hq : k_qt I P I P := .rf
  refine wd_rnL ?_
  intro C9 X9 hC9 hX9
  repeat' ((conv => whnf); first
    | (refine hC9 122 _ _ _ (q_cnt_21 (by omega) (by decide) ?_); (have e9 := congrArg Int32.toInt (hq.1 9 0 (by omega))))
    | (refine hC9 122 _ _ _ (q_cnt_b (by omega) (by first | exact Or.inr (by decide) | exact Or.inl (by decide)) ?_))
    | (refine hC9 114 _ _ _ (q_fold (a := lq P 0) (b := lp P 0) (w' := 1) (by omega) (h.1.qt hq) hs0 h0n ((hq.sh 0).trans ha0) hp0 h0n ((hq.pa 0).trans hb0) (by decide) (fun I9 P9 hq9 => ?_)); (have hq := hq.tr hq9))
    | (refine hC9 115 _ _ _ (q_best (by omega) (h.1.qt hq) (fun r1 I9 P9 hq9 => ?_)); (have hq := hq.tr hq9))
    | (refine hC9 116 _ _ _ (q_order (by omega) (h.1.qt hq) (fun r2 => ?_)))
    | (refine hC9 117 _ _ _ (q_shared (by omega) (h.1.qt hq) (fun r3 => ?_)))
    | (refine hC9 118 _ _ _ (q_differ (by omega) (h.1.qt hq) (fun r4 I9 P9 hq9 => ?_)); (have hq := hq.tr hq9))
    | (refine hC9 112 _ _ _ (q_look (n' := 0) (w' := 0) (a := lq P 0) (b := lp P 0) (by omega) (h.1.qt hq) hs0 h0n ((hq.sh 0).trans ha0) hp0 h0n ((hq.pa 0).trans hb0) h00 (by decide) (fun I9 P9 hq9 => ?_)); (have hq := hq.tr hq9))
    | (refine hC9 113 _ _ _ (q_key (n' := 0) (w' := 0) (a := lq P 1) (b := lp P 0) (by omega) (h.1.qt hq) hs1 h1n ((hq.sh 1).trans ha1) hp0 h0n ((hq.pa 0).trans hb0) h00 (by decide) (fun I9 P9 hq9 => ?_)); (have hq := hq.tr hq9))
    | (refine i_lcmpN (l_ask (a1 := 0) (b1 := 0) hE0 hE1) (fun v9 hv9 => ?_))
    | (refine hC9 108 _ _ _ (q_over_b (by omega) (h.1.qt hq) (h.qt hq).2.1 (by decide) ?_))
    | (refine hC9 109 _ _ _ (q_put_b (by omega) (h.1.qt hq) (h.qt hq).2.1 (by decide) ?_))
    | (refine hC9 110 _ _ _ (q_take_b (by omega) (h.1.qt hq) (by decide) ?_))
    | (refine hC9 111 _ _ _ (q_undo_b (by omega) (by decide) ?_))
    | (refine hC9 104 _ _ _ (q_feed_b (by omega) (h.1.qt hq) (by decide) ?_))
    | (refine hX9 334 _ _ _ (ab_WB_sub ?_ (hK _ _ hq)); (repeat (first | exact ab_sub0 | (refine ab_sub1 ?_ ?_; (focus ((repeat (refine ab_skip rfl ?_)); first | exact List.mem_cons_self))))))
    | (refine hX9 155 _ _ _ (wd_rnL ?_); clear hC9 hX9 X9 C9; intro C9 X9 hC9 hX9)
    | (intro v9 hv9; (try simp (disch := omega) only [ab_tI, ab_c0, wd_ix12, wd_ix8, wd_ix10, wd_up_self, wd_up_eq, wd_up_ne, Int.toNat_natCast, Int.toNat_of_nonneg, not_true_eq_false, not_false_eq_true, Option.some.injEq] at hv9); subst hv9)
    | (apply i_get; (focus (exact rfl)); (focus (exact rfl)))
    | (refine hX9 _ _ _ _ (wd_rnC rfl ?_); clear hC9 hX9 X9 C9; intro C9 X9 hC9 hX9)
    | (refine i_brF (by decide) ?_)
    | (refine i_brT (by decide) ?_)
    | (refine ⟨fun hc => ?_, fun hc => ?_⟩ <;> (try simp (disch := omega) only [ab_tI, ab_c0, wd_ix12, wd_ix8, wd_ix10, wd_up_self, wd_up_eq, wd_up_ne, Int.toNat_natCast, Int.toNat_of_nonneg, not_true_eq_false, not_false_eq_true, Option.some.injEq] at hc) <;> first | (exfalso; omega) | skip)
    | (apply i_cv; (focus (exact rfl)))
    | (refine And.intro trivial ?_)
    | (refine And.intro (Or.inl rfl) ?_)
    | (refine And.intro (Or.inr rfl) ?_)
    | (refine And.intro (by ((try simp (disch := omega) only [ab_tI, ab_c0, wd_ix12, wd_ix8, wd_ix10, wd_up_self, wd_up_eq, wd_up_ne, Int.toNat_natCast, Int.toNat_of_nonneg, not_true_eq_false, not_false_eq_true, Option.some.injEq]); omega)) ?_)
    | fail)
  all_goals (exfalso; omega)
end
