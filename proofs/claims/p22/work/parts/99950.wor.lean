/-! ===== the worth of a shelf, as the law has it (own text) ===== -/
section
variable {d : Nat} {T : Nat → Prop} {I : wd_I} {P : wd_P} {g : Nat → ab_C} {k z n : Nat} {Q : ab_Q}
set_option maxHeartbeats 4000000 in
set_option maxRecDepth 100000 in
theorem l_worth_p (hd : 60 ≤ d) {s : Int32} {sn a b7 b6 : Nat} (hs : c_sh s) (hsn : s.toInt.toNat = sn) (h200 : (c_fs41 g b6 a).length ≤ 200) : ∀ (r j : Nat) (I : wd_I) (P : wd_P) (D : Int64), j + r = (c_fs41 g b6 a).length → k_ok T I P g k → P (18 + 5 * sn) 2 = some a → P 8 7 = some b7 → P 8 6 = some b6 → (∀ I' P', k_qt I P I' P' → Q (some (.inr (.inl (w_M * w_ps g (c_fs41 g b6 a) r j D + c_fold g (c_fs41 g b7 a) 1)))) (wd I' P' lM g, k, z)) → ab_WB d 185 Q 83 [(0, wd_v 0), (1, .inl s), (2, .inr (.inl D)), (4, .inl (ab_ii ((c_fs41 g b6 a).length : Int))), (5, .inl (ab_ii (j : Int)))] [] (wd I P lM g, k, z)
  | 0, j, I, P, D, hj, h, ha, hb7, hb6, hQ => by
    have hp7 : c_pp (ab_ii 7) := ⟨by decide, by decide⟩
    have h77 : (ab_ii 7).toInt.toNat = 7 := by decide
    have hq : k_qt I P I P := .rf
    generalize (c_fs41 g b6 a).length = len at *
    refine wd_rnC rfl ?_
    intro C9 X9 hC9 hX9
    repeat' ((conv => whnf); first
    | (refine hC9 114 _ _ _ (q_fold (a := a) (b := b7) (by omega) h hs hsn ha hp7 h77 hb7 (ab_tI (by decide) (by decide)) (fun I9 P9 hq9 => ?_)))
    | (intro v9 hv9; (try simp (disch := omega) only [ab_tI, ab_c0, wd_ix12, wd_ix8, wd_ix10, wd_up_self, wd_up_eq, wd_up_ne, Int.toNat_natCast, Int.toNat_of_nonneg, not_true_eq_false, not_false_eq_true, Option.some.injEq] at hv9); subst hv9)
    | (apply i_get; (focus (exact rfl)); (focus (exact rfl)))
    | (refine hX9 _ _ _ _ (wd_rnC rfl ?_); clear hC9 hX9 X9 C9; intro C9 X9 hC9 hX9)
    | (refine i_brF (by decide) ?_)
    | (refine i_brT (by decide) ?_)
    | (refine ⟨fun hc => ?_, fun hc => ?_⟩ <;> (try simp (disch := omega) only [ab_tI, ab_c0, wd_ix12, wd_ix8, wd_ix10, wd_up_self, wd_up_eq, wd_up_ne, Int.toNat_natCast, Int.toNat_of_nonneg, not_true_eq_false, not_false_eq_true, Option.some.injEq] at hc) <;> first | (exfalso; omega) | skip)
    | (apply i_cv; (focus (exact rfl)))
    | (refine And.intro trivial ?_)
    | (refine And.intro (Or.inl rfl) ?_)
    | (refine And.intro (Or.inr rfl) ?_)
    | (refine And.intro (by ((try simp (disch := omega) only [ab_tI, ab_c0, wd_ix12, wd_ix8, wd_ix10, wd_up_self, wd_up_eq, wd_up_ne, Int.toNat_natCast, Int.toNat_of_nonneg, not_true_eq_false, not_false_eq_true, Option.some.injEq]); omega)) ?_)
    | fail)
    all_goals first | exact hQ _ _ hq9 | (exfalso; omega)
  | r + 1, j, I, P, D, hj, h, ha, hb7, hb6, hQ => by
    have hp6 : c_pp (ab_ii 6) := ⟨by decide, by decide⟩
    have h66 : (ab_ii 6).toInt.toNat = 6 := by decide
    have hq : k_qt I P I P := .rf
    have ej : (ab_ii (j : Int)).toInt = (j : Int) := ab_tI (by omega) (by omega)
    have ih := fun I' P' (hq' : k_qt I P I' P') => l_worth_p hd hs hsn h200 r (j + 1) I' P' (w_4 g (c_fs41 g b6 a) j D) (by omega) (h.qt hq') ((hq'.sh sn).trans ha) ((hq'.pa 7).trans hb7) ((hq'.pa 6).trans hb6) (fun I'' P'' hq'' => hQ I'' P'' (hq'.tr hq''))
    clear hQ
    generalize hl6 : c_fs41 g b6 a = l6 at *
    refine wd_rnC rfl ?_
    intro C9 X9 hC9 hX9
    repeat' ((conv => whnf); first
    | (refine hC9 112 _ _ _ (q_look (n' := j) (a := a) (b := b6) (by omega) (h.qt hq) hs hsn ((hq.sh sn).trans ha) hp6 h66 ((hq.pa 6).trans hb6) ej (ab_tI (by decide) (by decide)) (fun I9 P9 hq9 => ?_)); (rw [hl6]); (have hq := hq.tr hq9))
    | (refine hX9 83 _ _ _ (ab_WB_sub ?_ (ih _ _ hq)); (repeat (first | exact ab_sub0 | (refine ab_sub1 ?_ ?_; (focus ((repeat (refine ab_skip rfl ?_)); first | exact List.mem_cons_self))))))
    | (intro v9 hv9; (try simp (disch := omega) only [ab_tI, ab_c0, wd_ix12, wd_ix8, wd_ix10, wd_up_self, wd_up_eq, wd_up_ne, Int.toNat_natCast, Int.toNat_of_nonneg, not_true_eq_false, not_false_eq_true, Option.some.injEq] at hv9); subst hv9)
    | (apply i_get; (focus (exact rfl)); (focus (exact rfl)))
    | (refine hX9 _ _ _ _ (wd_rnC rfl ?_); clear hC9 hX9 X9 C9; intro C9 X9 hC9 hX9)
    | (refine i_brF (by decide) ?_)
    | (refine i_brT (by decide) ?_)
    | (refine ⟨fun hc => ?_, fun hc => ?_⟩ <;> (try simp (disch := omega) only [ab_tI, ab_c0, wd_ix12, wd_ix8, wd_ix10, wd_up_self, wd_up_eq, wd_up_ne, Int.toNat_natCast, Int.toNat_of_nonneg, not_true_eq_false, not_false_eq_true, Option.some.injEq] at hc) <;> first | (exfalso; omega) | skip)
    | (apply i_cv; (focus (exact rfl)))
    | (refine And.intro trivial ?_)
    | (refine And.intro (Or.inl rfl) ?_)
    | (refine And.intro (Or.inr rfl) ?_)
    | (refine And.intro (by ((try simp (disch := omega) only [ab_tI, ab_c0, wd_ix12, wd_ix8, wd_ix10, wd_up_self, wd_up_eq, wd_up_ne, Int.toNat_natCast, Int.toNat_of_nonneg, not_true_eq_false, not_false_eq_true, Option.some.injEq]); omega)) ?_)
    | fail)
    all_goals (exfalso; omega)
set_option maxHeartbeats 4000000 in
set_option maxRecDepth 100000 in
theorem l_worth (hd : 61 ≤ d) (h : k_ok T I P g k) {s : Int32} {sn a b7 b6 : Nat} (hs : c_sh s) (hsn : s.toInt.toNat = sn) (ha : P (18 + 5 * sn) 2 = some a) (hb7 : P 8 7 = some b7) (hb6 : P 8 6 = some b6) (hQ : ∀ I' P', k_qt I P I' P' → Q (some (.inr (.inl (c_wor g a b7 b6)))) (wd I' P' lM g, k, z)) : ab_CT d 185 [wd_v 0, .inl s] (wd I P lM g, k, z) Q := by
  have hp6 : c_pp (ab_ii 6) := ⟨by decide, by decide⟩
  have h66 : (ab_ii 6).toInt.toNat = 6 := by decide
  have hp7 : c_pp (ab_ii 7) := ⟨by decide, by decide⟩
  have h77 : (ab_ii 7).toInt.toNat = 7 := by decide
  have h00 : (ab_ii 0).toInt = ((0 : Nat) : Int) := by decide
  have hq : k_qt I P I P := .rf
  have h200 : (c_fs41 g b6 a).length ≤ 200 := by
    unfold c_fs41
    rw [List.length_take]
    exact Nat.min_le_left _ _
  have e4 : (c_fold g (c_fs41 g b6 a) 0).toInt32 = ab_ii ((c_fs41 g b6 a).length : Int) := by
    unfold c_fold
    rw [if_pos rfl]
    exact Int32.toInt32_toInt64 _
  have hl := fun I' P' (hq' : k_qt I P I' P') => l_worth_p (d := d) (z := z) (by omega) hs hsn h200 (c_fs41 g b6 a).length 0 I' P' (w_3 g (c_fs41 g b7 a) (w_4 g (c_fs41 g b7 a) 0 (Int64.ofInt 7))) (by omega) (h.qt hq') ((hq'.sh sn).trans ha) ((hq'.pa 7).trans hb7) ((hq'.pa 6).trans hb6) (fun I'' P'' hq'' => hQ I'' P'' (hq'.tr hq''))
  clear hQ
  refine wd_inC rfl (by omega) rfl ?_
  intro C9 X9 hC9 hX9
  repeat' ((conv => whnf); first
    | (refine hC9 112 _ _ _ (q_look (n' := 0) (a := a) (b := b7) (by omega) (h.qt hq) hs hsn ((hq.sh sn).trans ha) hp7 h77 ((hq.pa 7).trans hb7) h00 (ab_tI (by decide) (by decide)) (fun I9 P9 hq9 => ?_)); (have hq := hq.tr hq9))
    | (refine hC9 113 _ _ _ (q_key (n' := 0) (a := a) (b := b7) (by omega) (h.qt hq) hs hsn ((hq.sh sn).trans ha) hp7 h77 ((hq.pa 7).trans hb7) h00 (ab_tI (by decide) (by decide)) (fun I9 P9 hq9 => ?_)); (have hq := hq.tr hq9))
    | (refine hC9 114 _ _ _ (q_fold (a := a) (b := b6) (by omega) (h.qt hq) hs hsn ((hq.sh sn).trans ha) hp6 h66 ((hq.pa 6).trans hb6) (ab_tI (by decide) (by decide)) (fun I9 P9 hq9 => ?_)); (have hq := hq.tr hq9))
    | (rw [e4]; refine hX9 83 _ _ _ (ab_WB_sub ?_ (hl _ _ hq)); (repeat (first | exact ab_sub0 | (refine ab_sub1 ?_ ?_; (focus ((repeat (refine ab_skip rfl ?_)); first | exact List.mem_cons_self))))))
    | (intro v9 hv9; (try simp (disch := omega) only [ab_tI, ab_c0, wd_ix12, wd_ix8, wd_ix10, wd_up_self, wd_up_eq, wd_up_ne, Int.toNat_natCast, Int.toNat_of_nonneg, not_true_eq_false, not_false_eq_true, Option.some.injEq] at hv9); subst hv9)
    | (apply i_get; (focus (exact rfl)); (focus (exact rfl)))
    | (refine hX9 _ _ _ _ (wd_rnC rfl ?_); clear hC9 hX9 X9 C9; intro C9 X9 hC9 hX9)
    | (refine i_brF (by decide) ?_)
    | (refine i_brT (by decide) ?_)
    | (refine ⟨fun hc => ?_, fun hc => ?_⟩ <;> (try simp (disch := omega) only [ab_tI, ab_c0, wd_ix12, wd_ix8, wd_ix10, wd_up_self, wd_up_eq, wd_up_ne, Int.toNat_natCast, Int.toNat_of_nonneg, not_true_eq_false, not_false_eq_true, Option.some.injEq] at hc) <;> first | (exfalso; omega) | skip)
    | (apply i_cv; (focus (exact rfl)))
    | (refine And.intro trivial ?_)
    | (refine And.intro (Or.inl rfl) ?_)
    | (refine And.intro (Or.inr rfl) ?_)
    | (refine And.intro (by ((try simp (disch := omega) only [ab_tI, ab_c0, wd_ix12, wd_ix8, wd_ix10, wd_up_self, wd_up_eq, wd_up_ne, Int.toNat_natCast, Int.toNat_of_nonneg, not_true_eq_false, not_false_eq_true, Option.some.injEq]); omega)) ?_)
    | fail)
  all_goals (exfalso; omega)
end
