/-! ===== the law: an iteration, all (own text) ===== -/
section
variable {T : Nat → Prop} {I : wd_I} {P : wd_P} {g : Nat → ab_C} {k z n : Nat} {Q : ab_Q} {c : Int32} {L : Nat} {xs : Nat → Int32} {x : Int64} {i : Nat}
set_option maxHeartbeats 4000000 in
set_option maxRecDepth 100000 in
theorem l_fin (h : lw (n + 5) T I P g k z) (hsc : g ab_scr = ab_ia 9 L xs) (hnx : l_nx P g) (hi : i < 12) (hK : ∀ T' I' P' g' k' z', lw n T' I' P' g' k' z' → g' ab_scr = ab_ia 9 L xs → l_nx P' g' → ab_WB 2048 201 Q 24 [(0, wd_v ab_scr), (1, wd_v 0), (2, .inl (ab_ii ((i + 1 : Nat) : Int)))] [] (wd I' P' lM g', k', z')) : ab_WB 2048 201 Q 526 [(0, wd_v ab_scr), (1, wd_v 0), (2, .inl (ab_ii (i : Int))), (3, .inl c), (4, .inr (.inl x)), (11, .inr (.inl x)), (13, .inl (ab_ii ((20 : Nat) : Int)))] [] (wd I P lM g, k, z) := by
  refine wd_rnL ?_
  intro C9 X9 hC9 hX9
  repeat' ((conv => whnf); first
    | (refine i_lcmpE (rfl : x = x) ?_)
    | (refine hC9 178 _ _ _ (l_some (by omega) (by constructor <;> decide) (fun r9 hr9 => ?_)); (try simp (disch := omega) only [ab_tI, ab_c0, wd_ix12, wd_ix8, wd_ix10, wd_up_self, wd_up_eq, wd_up_ne, Int.toNat_natCast, Int.toNat_of_nonneg, not_true_eq_false, not_false_eq_true, Option.some.injEq] at hr9))
    | (refine hC9 183 _ _ _ (ab_CT_k (l_puts (by omega) h ⟨by omega, by omega⟩ (fun T3 I3 P3 g3 k3 z3 hc3 hf3 hp3 hv3 => ?_))))
    | (refine hX9 24 _ _ _ (ab_WB_sub ?_ (hK _ _ _ _ _ _ hc3 (l_scr hv3 hsc) (hnx.fr h.1 hf3.2.1 hf3.1 (hp3 7)))); (repeat (first | exact ab_sub0 | (refine ab_sub1 ?_ ?_; (focus ((repeat (refine ab_skip rfl ?_)); first | exact List.mem_cons_self))))))
    | (refine hX9 555 _ _ _ (wd_rnL ?_); clear hC9 hX9 X9 C9; intro C9 X9 hC9 hX9)
    | (refine hX9 565 _ _ _ (wd_rnL ?_); clear hC9 hX9 X9 C9; intro C9 X9 hC9 hX9)
    | (intro v9 hv9; (try simp (disch := omega) only [ab_tI, ab_c0, wd_ix12, wd_ix8, wd_ix10, wd_up_self, wd_up_eq, wd_up_ne, Int.toNat_natCast, Int.toNat_of_nonneg, not_true_eq_false, not_false_eq_true, Option.some.injEq] at hv9); subst hv9)
    | (apply i_get; (focus (exact rfl)); (focus (exact rfl)))
    | (refine hX9 _ _ _ _ (wd_rnC rfl ?_); clear hC9 hX9 X9 C9; intro C9 X9 hC9 hX9)
    | (refine i_brF (by decide) ?_)
    | (refine i_brT (by decide) ?_)
    | (refine ⟨fun hc => ?_, fun hc => ?_⟩ <;> (try simp (disch := omega) only [ab_tI, ab_c0, wd_ix12, wd_ix8, wd_ix10, wd_up_self, wd_up_eq, wd_up_ne, Int.toNat_natCast, Int.toNat_of_nonneg, not_true_eq_false, not_false_eq_true, Option.some.injEq] at hc) <;> first | (exfalso; omega) | skip)
    | (apply i_cv; (focus (exact rfl)))
    | (refine And.intro trivial ?_)
    | (refine And.intro (Or.inl rfl) ?_)
    | (refine And.intro (Or.inr rfl) ?_)
    | (refine And.intro (by ((try simp (disch := omega) only [ab_tI, ab_c0, wd_ix12, wd_ix8, wd_ix10, wd_up_self, wd_up_eq, wd_up_ne, Int.toNat_natCast, Int.toNat_of_nonneg, not_true_eq_false, not_false_eq_true, Option.some.injEq]); omega)) ?_)
    | fail)
  all_goals (exfalso; omega)
theorem l_body (h : lw (n + 19) T I P g k z) (hsc : g ab_scr = ab_ia 9 L xs) (hnx : l_nx P g) (hi : i < 12) (hK : ∀ T' I' P' g' k' z', lw n T' I' P' g' k' z' → g' ab_scr = ab_ia 9 L xs → l_nx P' g' → ab_WB 2048 201 Q 24 [(0, wd_v ab_scr), (1, wd_v 0), (2, .inl (ab_ii ((i + 1 : Nat) : Int)))] [] (wd I' P' lM g', k', z')) : ab_WB 2048 201 Q 79 [(0, wd_v ab_scr), (1, wd_v 0), (2, .inl (ab_ii (i : Int))), (3, .inl c), (4, .inr (.inl (Int64.ofInt 7))), (6, .inr (.inl (Int64.ofNat 0))), (8, .inl (ab_ii 0))] [] (wd I P lM g, k, z) := by
  refine l_la h (fun I1 P1 hq1 => ?_) 12 0 I P rfl .rf
  refine ab_WB_sub ?_ (l_lb (i := ab_ii (i : Int)) (c := c) h (d0 := l_bf g P 12) (y := l_al g P 12) (fun I2 P2 hq2 => ?_) 8 12 I1 P1 rfl (Nat.le_refl _) hq1)
  · (repeat (first | exact ab_sub0 | (refine ab_sub1 ?_ ?_; (focus ((repeat (refine ab_skip rfl ?_)); first | exact List.mem_cons_self)))))
  refine ab_WB_sub ?_ (l_segA (i := ab_ii (i : Int)) (c := c) (x := l_ct g P (l_bf g P 12) 8) (y := l_al g P 12) (n := n + 5) (h.qt hq2) (fun I3 P3 hq3 => ?_))
  · (repeat (first | exact ab_sub0 | (refine ab_sub1 ?_ ?_; (focus ((repeat (refine ab_skip rfl ?_)); first | exact List.mem_cons_self)))))
  have hq := hq2.tr hq3
  refine l_segB (n := n + 5) (h.qt hq) hsc (l_im h hnx hq) (fun I4 P4 g4 k4 hf => ?_) (fun T' I4 P4 g4 k4 z' hf h' hsc4 => ?_)
  · obtain ⟨q1, q2, q3, -, -⟩ := l_bk h hnx hq hf
    exact ⟨q1, q2, q3⟩
  obtain ⟨-, -, -, hsm, hnx4⟩ := l_bk h hnx hq hf
  have e : l_ct g4 (c_baP P4) (l_bf g4 (c_baP P4) 12) 8 = l_ct g P (l_bf g P 12) 8 := by
    rw [l_bf_eq h.1 hf.2.1 hf.1 hsm 12 (Nat.le_refl _)]
    exact l_ct_eq h.1 hf.2.1 hf.1 hsm 8 (Nat.le_refl _)
  refine l_lc h' (fun j hj => c_bI_at 12 hj) (fun I6 P6 hq6 => ?_) 12 0 _ _ rfl .rf
  refine l_ld h' (d0 := l_bf g4 (c_baP P4) 12) (fun I7 P7 hq7 => ?_) 8 12 I6 P6 rfl (Nat.le_refl _) hq6
  rw [e]
  exact l_fin (h'.qt hq7) hsc4 (hnx4.fr h'.1 c_ofr.rf (Nat.le_refl _) (hq7.pa 7)) hi hK
set_option maxHeartbeats 4000000 in
set_option maxRecDepth 100000 in
theorem l_main (hL : L ≤ 260) (hQ : ∀ h' : ab_H, 204 ≤ h'.2.1 → Q (some (.inl (ab_ii 1))) h') : ∀ (r i : Nat) (T : Nat → Prop) (I : wd_I) (P : wd_P) (g : Nat → ab_C) (k z : Nat), i + r = 12 → lw (24 * r + 1) T I P g k z → g ab_scr = ab_ia 9 L xs → l_nx P g → ab_WB 2048 201 Q 24 [(0, wd_v ab_scr), (1, wd_v 0), (2, .inl (ab_ii (i : Int)))] [] (wd I P lM g, k, z)
  | 0, i, T, I, P, g, k, z, hi, h, hsc, hnx => by
    have hcell := l_hi (I := I) (P := P) (k := k) (z := z) hsc
    have e : i = 12 := by omega
    subst e
    have eL : (ab_ii (L : Int)).toInt = (L : Int) := ab_tI (by omega) (by omega)
    refine wd_rnL ?_
    intro C9 X9 hC9 hX9
    repeat' ((conv => whnf); first
    | (apply i_len; (focus (exact congrArg ab_len hcell)))
    | (refine hX9 583 _ _ _ (wd_rnL ?_); clear hC9 hX9 X9 C9; intro C9 X9 hC9 hX9)
    | (refine hX9 54 _ _ _ (wd_rnL ?_); clear hC9 hX9 X9 C9; intro C9 X9 hC9 hX9)
    | (intro v9 hv9; (try simp (disch := omega) only [ab_tI, ab_c0, wd_ix12, wd_ix8, wd_ix10, wd_up_self, wd_up_eq, wd_up_ne, Int.toNat_natCast, Int.toNat_of_nonneg, not_true_eq_false, not_false_eq_true, Option.some.injEq] at hv9); subst hv9)
    | (apply i_get; (focus (exact rfl)); (focus (exact rfl)))
    | (refine hX9 _ _ _ _ (wd_rnC rfl ?_); clear hC9 hX9 X9 C9; intro C9 X9 hC9 hX9)
    | (refine i_brF (by decide) ?_)
    | (refine i_brT (by decide) ?_)
    | (refine ⟨fun hc => ?_, fun hc => ?_⟩ <;> (try simp (disch := omega) only [ab_tI, ab_c0, wd_ix12, wd_ix8, wd_ix10, wd_up_self, wd_up_eq, wd_up_ne, Int.toNat_natCast, Int.toNat_of_nonneg, not_true_eq_false, not_false_eq_true, Option.some.injEq] at hc) <;> first | (exfalso; omega) | skip)
    | (apply i_cv; (focus (exact rfl)))
    | (refine And.intro trivial ?_)
    | (refine And.intro (Or.inl rfl) ?_)
    | (refine And.intro (Or.inr rfl) ?_)
    | (refine And.intro (by ((try simp (disch := omega) only [ab_tI, ab_c0, wd_ix12, wd_ix8, wd_ix10, wd_up_self, wd_up_eq, wd_up_ne, Int.toNat_natCast, Int.toNat_of_nonneg, not_true_eq_false, not_false_eq_true, Option.some.injEq]); omega)) ?_)
    | fail)
    all_goals first | exact hQ _ h.2.2.1 | (exfalso; omega)
  | r + 1, i, T, I, P, g, k, z, hi, h, hsc, hnx => by
    have hcell := l_hi (I := I) (P := P) (k := k) (z := z) hsc
    have eL : (ab_ii (L : Int)).toInt = (L : Int) := ab_tI (by omega) (by omega)
    have ei : (ab_ii (i : Int)).toInt = (i : Int) := ab_tI (by omega) (by omega)
    have h5 : lw (24 * r + 1 + 19 + 5) T I P g k z := by
      have e : 24 * (r + 1) + 1 = 24 * r + 1 + 19 + 5 := by omega
      rw [e] at h
      exact h
    have hp0 : c_pp (ab_ii 0) := ⟨by decide, by decide⟩
    have h0n : (ab_ii 0).toInt.toNat = 0 := by decide
    have h204 := h.2.2.1
    have hb := fun (c : Int32) (T' : Nat → Prop) (I' : wd_I) (P' : wd_P) (g' : Nat → ab_C) (k' z' : Nat) (a1 : lw (24 * r + 1 + 19) T' I' P' g' k' z') a2 a3 => l_body (c := c) (i := i) a1 a2 a3 (by omega) (fun T2 I2 P2 g2 k2 z2 b1 b2 b3 => l_main hL hQ r (i + 1) T2 I2 P2 g2 k2 z2 (by omega) b1 b2 b3)
    refine wd_rnL ?_
    intro C9 X9 hC9 hX9
    repeat' ((conv => whnf); first
    | (apply i_len; (focus (exact congrArg ab_len hcell)))
    | (apply i_ialN; (focus (exact hcell)); (focus (exact Or.inr rfl)); (focus (exact ⟨by omega, by omega⟩)); intro c9 hc9; clear hc9)
    | (refine hC9 122 _ _ _ (q_cnt_21 (by omega) (by decide) ?_))
    | (refine hC9 178 _ _ _ (l_some (by omega) (by constructor <;> decide) (fun r9 hr9 => ?_)); (try simp (disch := omega) only [ab_tI, ab_c0, wd_ix12, wd_ix8, wd_ix10, wd_up_self, wd_up_eq, wd_up_ne, Int.toNat_natCast, Int.toNat_of_nonneg, not_true_eq_false, not_false_eq_true, Option.some.injEq] at hr9))
    | (refine hC9 184 _ _ _ (ab_CT_k (l_walks (by omega) h5 hp0 h0n ⟨by omega, by omega⟩ (fun r7 I7 P7 g7 k7 z7 hlw7 hlf7 hp7 hv7 => ?_))))
    | (refine hX9 79 _ _ _ (ab_WB_sub ?_ (hb c9 _ _ _ _ _ _ hlw7 (l_scr hv7 hsc) (hnx.fr h.1 hlf7.2.1 hlf7.1 (hp7 7 (by decide))))); (repeat (first | exact ab_sub0 | (refine ab_sub1 ?_ ?_; (focus ((repeat (refine ab_skip rfl ?_)); first | exact List.mem_cons_self))))))
    | (refine hX9 583 _ _ _ (wd_rnL ?_); clear hC9 hX9 X9 C9; intro C9 X9 hC9 hX9)
    | (refine hX9 54 _ _ _ (wd_rnL ?_); clear hC9 hX9 X9 C9; intro C9 X9 hC9 hX9)
    | (intro v9 hv9; (try simp (disch := omega) only [ab_tI, ab_c0, wd_ix12, wd_ix8, wd_ix10, wd_up_self, wd_up_eq, wd_up_ne, Int.toNat_natCast, Int.toNat_of_nonneg, not_true_eq_false, not_false_eq_true, Option.some.injEq] at hv9); subst hv9)
    | (apply i_get; (focus (exact rfl)); (focus (exact rfl)))
    | (refine hX9 _ _ _ _ (wd_rnC rfl ?_); clear hC9 hX9 X9 C9; intro C9 X9 hC9 hX9)
    | (refine i_brF (by decide) ?_)
    | (refine i_brT (by decide) ?_)
    | (refine ⟨fun hc => ?_, fun hc => ?_⟩ <;> (try simp (disch := omega) only [ab_tI, ab_c0, wd_ix12, wd_ix8, wd_ix10, wd_up_self, wd_up_eq, wd_up_ne, Int.toNat_natCast, Int.toNat_of_nonneg, not_true_eq_false, not_false_eq_true, Option.some.injEq] at hc) <;> first | (exfalso; omega) | skip)
    | (apply i_cv; (focus (exact rfl)))
    | (refine And.intro trivial ?_)
    | (refine And.intro (Or.inl rfl) ?_)
    | (refine And.intro (Or.inr rfl) ?_)
    | (refine And.intro (by ((try simp (disch := omega) only [ab_tI, ab_c0, wd_ix12, wd_ix8, wd_ix10, wd_up_self, wd_up_eq, wd_up_ne, Int.toNat_natCast, Int.toNat_of_nonneg, not_true_eq_false, not_false_eq_true, Option.some.injEq]); omega)) ?_)
    | fail)
    all_goals first | exact hQ _ h204 | (exfalso; omega)
end
theorem ab_ceq.ob {c : ab_C} {ci : Nat} {fs : List ab_V} (h : ab_ceq c (ab_ob ci fs)) : c = ab_ob ci fs := by
  match c, h with
  | .inl _, ⟨g, hg, _⟩ => cases hg
  | .inr (.inl _), ⟨g, hg, _⟩ => cases hg
  | .inr (.inr _), h => cases h; rfl
set_option maxHeartbeats 4000000 in
set_option maxRecDepth 100000 in
theorem l_law {F : Nat → ab_C} {L : Nat} {xs : Nat → Int32} (hL : L ≤ 260) (hsp : st_sp F) (hsc : F ab_scr = ab_ia 9 L xs) : ab_WB 2048 201 (fun r _ => r = some (.inl (ab_ii 1))) 0 [(0, wd_v ab_scr)] [] (F, 0, 0) := by
  have hscr : 700000 ≤ ab_scr := by decide
  have h11 : (st_I 0 11).toInt = 0 := by decide
  have e9 : sw_v (wd_v ab_scr) = wd_v ab_scr := by
    show wd_v (sw_a ab_scr) = _
    rw [sw_scr (Nat.le_refl _)]
  have hm : ∀ T' I' P' g' k' z', lw 480 T' I' P' g' k' z' → g' ab_scr = ab_ia 9 L xs → l_nx P' g' → ab_WB 2048 201 (fun r _ => r = some (.inl (ab_ii 1))) 24 [(0, wd_v ab_scr), (1, wd_v 102), (2, .inl (ab_ii 4))] [] (sw_h (wd I' P' lM g', k', z')) := by
    intro T' I' P' g' k' z' a1 a2 a3
    refine sw_WB a1.2.2.1 ?_
    rw [sw_hh]
    have hq := l_main (L := L) (xs := xs) (Q := fun r h' => 204 ≤ h'.2.1 ∧ r.map sw_v = some (.inl (ab_ii 1))) hL (fun h' q => ⟨q, rfl⟩) 8 4 T' I' P' g' k' z' rfl (a1.le (by omega)) a2 a3
    show ab_WB 2048 201 _ 24 [(0, sw_v (wd_v ab_scr)), (1, wd_v 0), (2, .inl (ab_ii 4))] [] _
    rw [e9]
    exact hq
  have hbk : ∀ (F2 : Nat → ab_C) (z2 : Nat) (Q : ab_Q), (∀ r, r < 102 → ab_ceq (F2 (0 + r)) (nw_F 0 r)) → Q (some (.inl (ab_ii (-3)))) (st_W0 F2, 102, z2) → ab_CT 2047 121 [wd_v 0] (F2, 102, z2) Q := by
    intro F2 z2 Q e1 hQ
    refine ab_CT_ext (h' := (st_W0 F2, 102, z2)) rfl (fun a ha => st_W0_o ha) (fun a ha => st_W0_c ha (by have := e1 a ha; rw [Nat.zero_add] at this; exact this)) ?_
    exact y_back (T := sv_T) (by omega) (st_W (Nat.le_refl _)) (fun _ => hQ) (fun q => absurd h11 q) (fun q => absurd h11 q)
  refine wd_rnL ?_
  intro C9 X9 hC9 hX9
  repeat' ((conv => whnf); first
    | (refine s_new (n := 12) ⟨by omega, by omega⟩ (fun F1 g1 g2 => ?_); (dsimp only))
    | (refine hC9 103 _ _ _ (n_new0 (d := 2027) g1 (by omega) (fun F2 z2 e1 e2 e3 => ?_)); (have hob := (e1 0 (by omega)).ob (ci := 11)))
    | (apply i_cv; (focus (exact hob)))
    | (refine hC9 121 _ _ _ (hbk _ _ _ e1 ?_); clear hbk hob)
    | (refine hC9 186 _ _ _ (l_stock (by omega) hL (hsp.eq (fun a ha => (st_W0_o (by omega)).trans ((e2 a (by omega)).trans (g2 a (by omega))))) ((st_W0_o (by omega)).trans ((e2 _ (by omega)).trans ((g2 _ (by omega)).trans hsc))) (by omega) (fun T7 I7 P7 g7 k7 z7 a1 a2 a3 => ?_)); (have hm9 := hm _ _ _ _ _ _ a1 a2 a3); clear hm a1 a2 a3)
    | (refine hX9 24 _ _ _ (ab_WB_sub ?_ hm9); (repeat (first | exact ab_sub0 | (refine ab_sub1 ?_ ?_; (focus ((repeat (refine ab_skip rfl ?_)); first | exact List.mem_cons_self))))))
    | (refine hX9 17 _ _ _ (wd_rnL ?_); clear hC9 hX9 X9 C9; intro C9 X9 hC9 hX9)
    | (intro v9 hv9; (try simp (disch := omega) only [ab_tI, ab_c0, wd_ix12, wd_ix8, wd_ix10, wd_up_self, wd_up_eq, wd_up_ne, Int.toNat_natCast, Int.toNat_of_nonneg, not_true_eq_false, not_false_eq_true, Option.some.injEq] at hv9); subst hv9)
    | (apply i_get; (focus (exact rfl)); (focus (exact rfl)))
    | (refine hX9 _ _ _ _ (wd_rnC rfl ?_); clear hC9 hX9 X9 C9; intro C9 X9 hC9 hX9)
    | (refine i_brF (by decide) ?_)
    | (refine i_brT (by decide) ?_)
    | (refine ⟨fun hc => ?_, fun hc => ?_⟩ <;> (try simp (disch := omega) only [ab_tI, ab_c0, wd_ix12, wd_ix8, wd_ix10, wd_up_self, wd_up_eq, wd_up_ne, Int.toNat_natCast, Int.toNat_of_nonneg, not_true_eq_false, not_false_eq_true, Option.some.injEq] at hc) <;> first | (exfalso; omega) | skip)
    | (apply i_cv; (focus (exact rfl)))
    | (refine And.intro trivial ?_)
    | (refine And.intro (Or.inl rfl) ?_)
    | (refine And.intro (Or.inr rfl) ?_)
    | (refine And.intro (by ((try simp (disch := omega) only [ab_tI, ab_c0, wd_ix12, wd_ix8, wd_ix10, wd_up_self, wd_up_eq, wd_up_ne, Int.toNat_natCast, Int.toNat_of_nonneg, not_true_eq_false, not_false_eq_true, Option.some.injEq]); omega)) ?_)
    | fail)
  all_goals (exfalso; omega)
