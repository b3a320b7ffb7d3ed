/-! ===== the law's loops (own text) ===== -/
section
variable {T : Nat → Prop} {I0 : wd_I} {P0 : wd_P} {g : Nat → ab_C} {k z n : Nat} {Q : ab_Q} {i c : Int32}
set_option maxHeartbeats 4000000 in
set_option maxRecDepth 100000 in
theorem l_la (h : lw n T I0 P0 g k z) (hK : ∀ I P, k_qt I0 P0 I P → ab_WB 2048 201 Q 126 [(0, wd_v ab_scr), (1, wd_v 0), (2, .inl i), (3, .inl c), (4, .inr (.inl (l_bf g P0 12))), (6, .inr (.inl (l_al g P0 12))), (8, .inl (ab_ii 12))] [] (wd I P lM g, k, z)) : ∀ (r j : Nat) (I : wd_I) (P : wd_P), j + r = 12 → k_qt I0 P0 I P → ab_WB 2048 201 Q 79 [(0, wd_v ab_scr), (1, wd_v 0), (2, .inl i), (3, .inl c), (4, .inr (.inl (l_bf g P0 j))), (6, .inr (.inl (l_al g P0 j))), (8, .inl (ab_ii (j : Int)))] [] (wd I P lM g, k, z)
  | 0, j, I, P, hj, hq => by
    have e : j = 12 := by omega
    subst e
    have hK := hK I P hq
    refine wd_rnL ?_
    intro C9 X9 hC9 hX9
    repeat' ((conv => whnf); first
    | (refine hX9 126 _ _ _ (ab_WB_sub ?_ hK); (repeat (first | exact ab_sub0 | (refine ab_sub1 ?_ ?_; (focus ((repeat (refine ab_skip rfl ?_)); first | exact List.mem_cons_self))))))
    | (refine hX9 122 _ _ _ (wd_rnL ?_); clear hC9 hX9 X9 C9; intro C9 X9 hC9 hX9)
    | (intro v9 hv9; (try simp (disch := omega) only [ab_tI, ab_c0, wd_ix12, wd_ix8, wd_ix10, wd_up_self, wd_up_eq, wd_up_ne, Int.toNat_natCast, Int.toNat_of_nonneg, not_true_eq_false, not_false_eq_true, Option.some.injEq] at hv9); subst hv9)
    | (apply i_get; (focus (exact rfl)); (focus (exact rfl)))
    | (refine hX9 _ _ _ _ (wd_rnC rfl ?_); clear hC9 hX9 X9 C9; intro C9 X9 hC9 hX9)
    | (refine i_brF (by decide) ?_)
    | (refine i_brT (by decide) ?_)
    | (refine ⟨fun hc => ?_, fun hc => ?_⟩ <;> (try simp (disch := omega) only [ab_tI, ab_c0, wd_ix12, wd_ix8, wd_ix10, wd_up_self, wd_up_eq, wd_up_ne, Int.toNat_natCast, Int.toNat_of_nonneg, not_true_eq_false, not_false_eq_true, Option.some.injEq] at hc) <;> first | (exfalso; omega) | skip)
    | (apply i_cv; (focus (exact rfl)))
    | (refine And.intro trivial ?_)
    | (refine And.intro (Or.inl rfl) ?_)
    | (refine And.intro (Or.inr rfl) ?_)
    | (refine And.intro (by ((try simp (disch := omega) only [ab_tI, ab_c0, wd_ix12, wd_ix8, wd_ix10, wd_up_self, wd_up_eq, wd_up_ne, Int.toNat_natCast, Int.toNat_of_nonneg, not_true_eq_false, not_false_eq_true, Option.some.injEq]); omega)) ?_)
    | fail)
    all_goals (exfalso; omega)
  | r + 1, j, I, P, hj, hq => by
    have hp7 : c_pp (ab_ii 7) := ⟨by decide, by decide⟩
    have h77 : (ab_ii 7).toInt.toNat = 7 := by decide
    have h00 : (ab_ii 0).toInt = ((0 : Nat) : Int) := by decide
    have h22 : (ab_ii 2).toInt = 2 := by decide
    have ej : (ab_ii (j : Int)).toInt = (j : Int) := ab_tI (by omega) (by omega)
    have hcs : c_sh (ab_ii (j : Int)) := ⟨by omega, by omega⟩
    have hjn : (ab_ii (j : Int)).toInt.toNat = j := by omega
    have ha := (lq_at h.1 (j := j) (by omega)).1
    have hb7 := (lp_at h.1 (j := 7) (by omega)).1
    have hb6 := (lp_at h.1 (j := 6) (by omega)).1
    have ih := fun I P => l_la h hK r (j + 1) I P (by omega)
    clear hK
    have e1 : l_bf g P0 (j + 1) = w_M * l_bf g P0 j + c_wor g (lq P0 j) (lp P0 7) (lp P0 6) := rfl
    have e2 : l_al g P0 (j + 1) = l_al g P0 j + v_look g (c_fs41 g (lp P0 7) (lq P0 j)) 0 2 := rfl
    rw [e1, e2] at ih
    clear e1 e2
    generalize l_bf g P0 j = x1 at ih ⊢
    generalize l_al g P0 j = x2 at ih ⊢
    refine wd_rnL ?_
    intro C9 X9 hC9 hX9
    repeat' ((conv => whnf); first
    | (refine hC9 185 _ _ _ (l_worth (by omega) (h.1.qt hq) hcs hjn ((hq.sh j).trans ha) ((hq.pa 7).trans hb7) ((hq.pa 6).trans hb6) (fun I9 P9 hq9 => ?_)); (have hq := hq.tr hq9))
    | (refine hC9 112 _ _ _ (q_look (n' := 0) (a := lq P0 j) (b := lp P0 7) (by omega) (h.1.qt hq) hcs hjn ((hq.sh j).trans ha) hp7 h77 ((hq.pa 7).trans hb7) h00 h22 (fun I9 P9 hq9 => ?_)); (have hq := hq.tr hq9))
    | (refine hX9 79 _ _ _ (ab_WB_sub ?_ (ih _ _ hq)); (repeat (first | exact ab_sub0 | (refine ab_sub1 ?_ ?_; (focus ((repeat (refine ab_skip rfl ?_)); first | exact List.mem_cons_self))))))
    | (intro v9 hv9; (try simp (disch := omega) only [ab_tI, ab_c0, wd_ix12, wd_ix8, wd_ix10, wd_up_self, wd_up_eq, wd_up_ne, Int.toNat_natCast, Int.toNat_of_nonneg, not_true_eq_false, not_false_eq_true, Option.some.injEq] at hv9); subst hv9)
    | (apply i_get; (focus (exact rfl)); (focus (exact rfl)))
    | (refine hX9 _ _ _ _ (wd_rnC rfl ?_); clear hC9 hX9 X9 C9; intro C9 X9 hC9 hX9)
    | (refine i_brF (by decide) ?_)
    | (refine i_brT (by decide) ?_)
    | (refine ⟨fun hc => ?_, fun hc => ?_⟩ <;> (try simp (disch := omega) only [ab_tI, ab_c0, wd_ix12, wd_ix8, wd_ix10, wd_up_self, wd_up_eq, wd_up_ne, Int.toNat_natCast, Int.toNat_of_nonneg, not_true_eq_false, not_false_eq_true, Option.some.injEq] at hc) <;> first | (exfalso; omega) | skip)
    | (apply i_cv; (focus (exact rfl)))
    | (refine And.intro trivial ?_)
    | (refine And.intro (Or.inl rfl) ?_)
    | (refine And.intro (Or.inr rfl) ?_)
    | (refine And.intro (by ((try simp (disch := omega) only [ab_tI, ab_c0, wd_ix12, wd_ix8, wd_ix10, wd_up_self, wd_up_eq, wd_up_ne, Int.toNat_natCast, Int.toNat_of_nonneg, not_true_eq_false, not_false_eq_true, Option.some.injEq]); omega)) ?_)
    | fail)
    all_goals (exfalso; omega)
set_option maxHeartbeats 4000000 in
set_option maxRecDepth 100000 in
theorem l_lb (h : lw n T I0 P0 g k z) {d0 y : Int64} (hK : ∀ I P, k_qt I0 P0 I P → ab_WB 2048 201 Q 126 [(0, wd_v ab_scr), (1, wd_v 0), (2, .inl i), (3, .inl c), (6, .inr (.inl y)), (4, .inr (.inl (l_ct g P0 d0 8))), (8, .inl (ab_ii ((20 : Nat) : Int)))] [] (wd I P lM g, k, z)) : ∀ (r j : Nat) (I : wd_I) (P : wd_P), j + r = 20 → 12 ≤ j → k_qt I0 P0 I P → ab_WB 2048 201 Q 126 [(0, wd_v ab_scr), (1, wd_v 0), (2, .inl i), (3, .inl c), (6, .inr (.inl y)), (4, .inr (.inl (l_ct g P0 d0 (j - 12)))), (8, .inl (ab_ii (j : Int)))] [] (wd I P lM g, k, z)
  | 0, j, I, P, hj, hj2, hq => by
    have e : j = 20 := by omega
    subst e
    exact hK I P hq
  | r + 1, j, I, P, hj, hj2, hq => by
    have ej : (ab_ii (j : Int)).toInt = (j : Int) := ab_tI (by omega) (by omega)
    have ej2 : (ab_ii (j : Int)).toInt = ((j - 12 : Nat) : Int) + 12 := by omega
    have hb := (lp_at h.1 (j := j - 12) (by omega)).1
    have ih := fun I P => l_lb h hK r (j + 1) I P (by omega) (by omega)
    clear hK
    have e0 : j + 1 - 12 = (j - 12) + 1 := by omega
    have e1 : l_ct g P0 d0 (j + 1 - 12) = w_M * l_ct g P0 d0 (j - 12) + (ab_ii (p_n g (lp P0 (j - 12)) : Int)).toInt64 := by rw [e0]; rfl
    rw [e1] at ih
    clear e1 e0
    generalize l_ct g P0 d0 (j - 12) = x1 at ih ⊢
    refine wd_rnL ?_
    intro C9 X9 hC9 hX9
    repeat' ((conv => whnf); first
    | (refine hC9 122 _ _ _ (q_cnt_p (by omega) (h.1.qt hq) ej2 (by omega) ((hq.pa _).trans hb) ?_))
    | (refine hX9 126 _ _ _ (ab_WB_sub ?_ (ih _ _ hq)); (repeat (first | exact ab_sub0 | (refine ab_sub1 ?_ ?_; (focus ((repeat (refine ab_skip rfl ?_)); first | exact List.mem_cons_self))))))
    | (intro v9 hv9; (try simp (disch := omega) only [ab_tI, ab_c0, wd_ix12, wd_ix8, wd_ix10, wd_up_self, wd_up_eq, wd_up_ne, Int.toNat_natCast, Int.toNat_of_nonneg, not_true_eq_false, not_false_eq_true, Option.some.injEq] at hv9); subst hv9)
    | (apply i_get; (focus (exact rfl)); (focus (exact rfl)))
    | (refine hX9 _ _ _ _ (wd_rnC rfl ?_); clear hC9 hX9 X9 C9; intro C9 X9 hC9 hX9)
    | (refine i_brF (by decide) ?_)
    | (refine i_brT (by decide) ?_)
    | (refine ⟨fun hc => ?_, fun hc => ?_⟩ <;> (try simp (disch := omega) only [ab_tI, ab_c0, wd_ix12, wd_ix8, wd_ix10, wd_up_self, wd_up_eq, wd_up_ne, Int.toNat_natCast, Int.toNat_of_nonneg, not_true_eq_false, not_false_eq_true, Option.some.injEq] at hc) <;> first | (exfalso; omega) | skip)
    | (apply i_cv; (focus (exact rfl)))
    | (refine And.intro trivial ?_)
    | (refine And.intro (Or.inl rfl) ?_)
    | (refine And.intro (Or.inr rfl) ?_)
    | (refine And.intro (by ((try simp (disch := omega) only [ab_tI, ab_c0, wd_ix12, wd_ix8, wd_ix10, wd_up_self, wd_up_eq, wd_up_ne, Int.toNat_natCast, Int.toNat_of_nonneg, not_true_eq_false, not_false_eq_true, Option.some.injEq]); omega)) ?_)
    | fail)
    all_goals (exfalso; omega)
set_option maxHeartbeats 4000000 in
set_option maxRecDepth 100000 in
theorem l_ld (h : lw n T I0 P0 g k z) {d0 y : Int64} (hK : ∀ I P, k_qt I0 P0 I P → ab_WB 2048 201 Q 526 [(0, wd_v ab_scr), (1, wd_v 0), (2, .inl i), (3, .inl c), (4, .inr (.inl y)), (11, .inr (.inl (l_ct g P0 d0 8))), (13, .inl (ab_ii ((20 : Nat) : Int)))] [] (wd I P lM g, k, z)) : ∀ (r j : Nat) (I : wd_I) (P : wd_P), j + r = 20 → 12 ≤ j → k_qt I0 P0 I P → ab_WB 2048 201 Q 526 [(0, wd_v ab_scr), (1, wd_v 0), (2, .inl i), (3, .inl c), (4, .inr (.inl y)), (11, .inr (.inl (l_ct g P0 d0 (j - 12)))), (13, .inl (ab_ii (j : Int)))] [] (wd I P lM g, k, z)
  | 0, j, I, P, hj, hj2, hq => by
    have e : j = 20 := by omega
    subst e
    exact hK I P hq
  | r + 1, j, I, P, hj, hj2, hq => by
    have ej : (ab_ii (j : Int)).toInt = (j : Int) := ab_tI (by omega) (by omega)
    have ej2 : (ab_ii (j : Int)).toInt = ((j - 12 : Nat) : Int) + 12 := by omega
    have hb := (lp_at h.1 (j := j - 12) (by omega)).1
    have ih := fun I P => l_ld h hK r (j + 1) I P (by omega) (by omega)
    clear hK
    have e0 : j + 1 - 12 = (j - 12) + 1 := by omega
    have e1 : l_ct g P0 d0 (j + 1 - 12) = w_M * l_ct g P0 d0 (j - 12) + (ab_ii (p_n g (lp P0 (j - 12)) : Int)).toInt64 := by rw [e0]; rfl
    rw [e1] at ih
    clear e1 e0
    generalize l_ct g P0 d0 (j - 12) = x1 at ih ⊢
    refine wd_rnL ?_
    intro C9 X9 hC9 hX9
    repeat' ((conv => whnf); first
    | (refine hC9 122 _ _ _ (q_cnt_p (by omega) (h.1.qt hq) ej2 (by omega) ((hq.pa _).trans hb) ?_))
    | (refine hX9 526 _ _ _ (ab_WB_sub ?_ (ih _ _ hq)); (repeat (first | exact ab_sub0 | (refine ab_sub1 ?_ ?_; (focus ((repeat (refine ab_skip rfl ?_)); first | exact List.mem_cons_self))))))
    | (intro v9 hv9; (try simp (disch := omega) only [ab_tI, ab_c0, wd_ix12, wd_ix8, wd_ix10, wd_up_self, wd_up_eq, wd_up_ne, Int.toNat_natCast, Int.toNat_of_nonneg, not_true_eq_false, not_false_eq_true, Option.some.injEq] at hv9); subst hv9)
    | (apply i_get; (focus (exact rfl)); (focus (exact rfl)))
    | (refine hX9 _ _ _ _ (wd_rnC rfl ?_); clear hC9 hX9 X9 C9; intro C9 X9 hC9 hX9)
    | (refine i_brF (by decide) ?_)
    | (refine i_brT (by decide) ?_)
    | (refine ⟨fun hc => ?_, fun hc => ?_⟩ <;> (try simp (disch := omega) only [ab_tI, ab_c0, wd_ix12, wd_ix8, wd_ix10, wd_up_self, wd_up_eq, wd_up_ne, Int.toNat_natCast, Int.toNat_of_nonneg, not_true_eq_false, not_false_eq_true, Option.some.injEq] at hc) <;> first | (exfalso; omega) | skip)
    | (apply i_cv; (focus (exact rfl)))
    | (refine And.intro trivial ?_)
    | (refine And.intro (Or.inl rfl) ?_)
    | (refine And.intro (Or.inr rfl) ?_)
    | (refine And.intro (by ((try simp (disch := omega) only [ab_tI, ab_c0, wd_ix12, wd_ix8, wd_ix10, wd_up_self, wd_up_eq, wd_up_ne, Int.toNat_natCast, Int.toNat_of_nonneg, not_true_eq_false, not_false_eq_true, Option.some.injEq]); omega)) ?_)
    | fail)
    all_goals (exfalso; omega)
set_option maxHeartbeats 4000000 in
set_option maxRecDepth 100000 in
theorem l_lc (h : lw n T I0 P0 g k z) (hz : ∀ j, j < 12 → I0 (18 + 5 * j) 1 = ab_ii 0) {y : Int64} (hK : ∀ I P, k_qt I0 P0 I P → ab_WB 2048 201 Q 526 [(0, wd_v ab_scr), (1, wd_v 0), (2, .inl i), (3, .inl c), (4, .inr (.inl y)), (11, .inr (.inl (l_bf g P0 12))), (13, .inl (ab_ii 12))] [] (wd I P lM g, k, z)) : ∀ (r j : Nat) (I : wd_I) (P : wd_P), j + r = 12 → k_qt I0 P0 I P → ab_WB 2048 201 Q 472 [(0, wd_v ab_scr), (1, wd_v 0), (2, .inl i), (3, .inl c), (4, .inr (.inl y)), (11, .inr (.inl (l_bf g P0 j))), (13, .inl (ab_ii (j : Int)))] [] (wd I P lM g, k, z)
  | 0, j, I, P, hj, hq => by
    have e : j = 12 := by omega
    subst e
    have hK := hK I P hq
    refine wd_rnL ?_
    intro C9 X9 hC9 hX9
    repeat' ((conv => whnf); first
    | (refine hX9 526 _ _ _ (ab_WB_sub ?_ hK); (repeat (first | exact ab_sub0 | (refine ab_sub1 ?_ ?_; (focus ((repeat (refine ab_skip rfl ?_)); first | exact List.mem_cons_self))))))
    | (refine hX9 522 _ _ _ (wd_rnL ?_); clear hC9 hX9 X9 C9; intro C9 X9 hC9 hX9)
    | (intro v9 hv9; (try simp (disch := omega) only [ab_tI, ab_c0, wd_ix12, wd_ix8, wd_ix10, wd_up_self, wd_up_eq, wd_up_ne, Int.toNat_natCast, Int.toNat_of_nonneg, not_true_eq_false, not_false_eq_true, Option.some.injEq] at hv9); subst hv9)
    | (apply i_get; (focus (exact rfl)); (focus (exact rfl)))
    | (refine hX9 _ _ _ _ (wd_rnC rfl ?_); clear hC9 hX9 X9 C9; intro C9 X9 hC9 hX9)
    | (refine i_brF (by decide) ?_)
    | (refine i_brT (by decide) ?_)
    | (refine ⟨fun hc => ?_, fun hc => ?_⟩ <;> (try simp (disch := omega) only [ab_tI, ab_c0, wd_ix12, wd_ix8, wd_ix10, wd_up_self, wd_up_eq, wd_up_ne, Int.toNat_natCast, Int.toNat_of_nonneg, not_true_eq_false, not_false_eq_true, Option.some.injEq] at hc) <;> first | (exfalso; omega) | skip)
    | (apply i_cv; (focus (exact rfl)))
    | (refine And.intro trivial ?_)
    | (refine And.intro (Or.inl rfl) ?_)
    | (refine And.intro (Or.inr rfl) ?_)
    | (refine And.intro (by ((try simp (disch := omega) only [ab_tI, ab_c0, wd_ix12, wd_ix8, wd_ix10, wd_up_self, wd_up_eq, wd_up_ne, Int.toNat_natCast, Int.toNat_of_nonneg, not_true_eq_false, not_false_eq_true, Option.some.injEq]); omega)) ?_)
    | fail)
    all_goals (exfalso; omega)
  | r + 1, j, I, P, hj, hq => by
    have ej : (ab_ii (j : Int)).toInt = (j : Int) := ab_tI (by omega) (by omega)
    have hcs : c_sh (ab_ii (j : Int)) := ⟨by omega, by omega⟩
    have hjn : (ab_ii (j : Int)).toInt.toNat = j := by omega
    have ha := (lq_at h.1 (j := j) (by omega)).1
    have hb7 := (lp_at h.1 (j := 7) (by omega)).1
    have hb6 := (lp_at h.1 (j := 6) (by omega)).1
    have hj12 : j < 12 := by omega
    have hzj := hz j hj12
    have ih := fun I P => l_lc h hz hK r (j + 1) I P (by omega)
    clear hK
    have e1 : l_bf g P0 (j + 1) = w_M * l_bf g P0 j + c_wor g (lq P0 j) (lp P0 7) (lp P0 6) := rfl
    rw [e1] at ih
    clear e1
    generalize l_bf g P0 j = x1 at ih ⊢
    refine wd_rnL ?_
    intro C9 X9 hC9 hX9
    repeat' ((conv => whnf); first
    | (refine hC9 185 _ _ _ (l_worth (by omega) (h.1.qt hq) hcs hjn ((hq.sh j).trans ha) ((hq.pa 7).trans hb7) ((hq.pa 6).trans hb6) (fun I9 P9 hq9 => ?_)); (have hq := hq.tr hq9))
    | (refine hC9 122 _ _ _ (q_cnt_s (j := j) (by omega) ej hj12 ?_); rw [(hq.1 (18 + 5 * j) 1 (by omega)).trans hzj])
    | (refine hC9 111 _ _ _ (q_undo_0 (j := j) (by omega) ej hj12 ((hq.1 (18 + 5 * j) 1 (by omega)).trans hzj) ?_))
    | (refine hX9 472 _ _ _ (ab_WB_sub ?_ (ih _ _ hq)); (repeat (first | exact ab_sub0 | (refine ab_sub1 ?_ ?_; (focus ((repeat (refine ab_skip rfl ?_)); first | exact List.mem_cons_self))))))
    | (refine hX9 516 _ _ _ (wd_rnL ?_); clear hC9 hX9 X9 C9; intro C9 X9 hC9 hX9)
    | (intro v9 hv9; (try simp (disch := omega) only [ab_tI, ab_c0, wd_ix12, wd_ix8, wd_ix10, wd_up_self, wd_up_eq, wd_up_ne, Int.toNat_natCast, Int.toNat_of_nonneg, not_true_eq_false, not_false_eq_true, Option.some.injEq] at hv9); subst hv9)
    | (apply i_get; (focus (exact rfl)); (focus (exact rfl)))
    | (refine hX9 _ _ _ _ (wd_rnC rfl ?_); clear hC9 hX9 X9 C9; intro C9 X9 hC9 hX9)
    | (refine i_brF (by decide) ?_)
    | (refine i_brT (by decide) ?_)
    | (refine ⟨fun hc => ?_, fun hc => ?_⟩ <;> (try simp (disch := omega) only [ab_tI, ab_c0, wd_ix12, wd_ix8, wd_ix10, wd_up_self, wd_up_eq, wd_up_ne, Int.toNat_natCast, Int.toNat_of_nonneg, not_true_eq_false, not_false_eq_true, Option.some.injEq] at hc) <;> first | (exfalso; omega) | skip)
    | (apply i_cv; (focus (exact rfl)))
    | (refine And.intro trivial ?_)
    | (refine And.intro (Or.inl rfl) ?_)
    | (refine And.intro (Or.inr rfl) ?_)
    | (refine And.intro (by ((try simp (disch := omega) only [ab_tI, ab_c0, wd_ix12, wd_ix8, wd_ix10, wd_up_self, wd_up_eq, wd_up_ne, Int.toNat_natCast, Int.toNat_of_nonneg, not_true_eq_false, not_false_eq_true, Option.some.injEq]); omega)) ?_)
    | fail)
    all_goals (exfalso; omega)
end
