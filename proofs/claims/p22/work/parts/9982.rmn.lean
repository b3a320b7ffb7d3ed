/-! ===== the class: rows and maps read, walked (own text) ===== -/
theorem c_pu_pu {g : Nat → ab_C} {x n m : Nat} {fk fk' : Nat → Int32} {fp fp' : Nat → Option Nat} : c_pu (c_pu g x fk fp n) x fk' fp' m = c_pu g x fk' fp' m := by
  have e : c_pu (c_pu g x fk fp n) x fk' fp' m = ab_up (ab_up (ab_up (c_pu g x fk fp n) x (c_po x m)) (x + 1) (ab_ia 0 13 fk')) (x + 2) (ab_ra 4 13 fp') := rfl
  rw [e, c_pu_u0, c_pu_u1, c_pu_u2]
theorem c_out_nq {T : Nat → Prop} {g : Nat → ab_C} {k x n : Nat} {fk : Nat → Int32} {fp : Nat → Option Nat} (hW : c_W T (c_pu g x fk fp n) k) (hn : c_nq3 T (c_pu g x fk fp n) x) : c_out T g x := fun b hb => by
  obtain ⟨⟨m1, m2⟩, kd, wo, nd, ht, ka, pa, nk, np, fk, fp, h1, -⟩ := hW b hb
  have n0 := (hn.1 b hb).1
  have n1 := (hn.2.1 b hb).1
  have n2 := (hn.2.2 b hb).1
  exact ⟨⟨m1, n0, n1, n2⟩, _, (c_pu_o ⟨n0, n1, n2⟩).symm.trans h1⟩
section
variable {d : Nat} {P : wd_P} {M : wd_I} {dp : Nat} {Q : ab_Q} {G : c_St → r_O} {T0 : Nat → Prop} {S0 : c_St}
set_option maxHeartbeats 4000000 in
set_option maxRecDepth 100000 in
theorem y_rmnl (hd : 10 ≤ d) (hdp : dp ≤ 12) (hGg : r_gG G) (hG : ∀ (T : Nat → Prop) (S : c_St) (Q : ab_Q), r_pr T S → r_ro S → Q (some (.inr (.inr (G S).1))) (c_S P M (G S).2) → ab_CT (d - 1) 98 [wd_v 3, .inl (ab_ii ((dp : Int) + 1))] (c_S P M S) Q) (h0 : r_pr T0 S0) (hro : r_ro S0) {kd close : Int32} {x : Nat} (h125 : 125 ≤ x) (hx : S0.2.2.1 ≤ x) : ∀ (r n : Nat) (fk : Nat → Int32) (fp : Nat → Option Nat) (T : Nat → Prop) (I : wd_I) (g : Nat → ab_C) (k z : Nat), r + n = 12 → r_at 3 32 T0 S0 T (I, c_pu g x fk fp n, k, z) → c_rT T n fp → c_nq3 T (c_pu g x fk fp n) x → x + 3 ≤ k → Q (some (.inr (.inr (r_mnl G kd close x r n fk fp (I, c_pu g x fk fp n, k, z)).1))) (c_S P M (r_mnl G kd close x r n fk fp (I, c_pu g x fk fp n, k, z)).2) → ab_WB d 101 Q 37 [(0, wd_v 3), (1, .inl kd), (2, .inl close), (3, .inl (ab_ii (dp : Int))), (4, wd_v x), (5, .inl (ab_ii ((n + 1 : Nat) : Int)))] [] (wd I P M (c_pu g x fk fp n), k, z)
  | 0, n, fk, fp, T, I, g, k, z, hr, h, hf, hn, hxk, hQ => by
    have e : n = 12 := by omega
    subst e
    change Q (some (.inr (.inr none))) (wd I P M (c_pu g x fk fp 12), k, z) at hQ
    clear hG
    refine wd_rnC rfl ?_
    intro C9 X9 hC9 hX9
    repeat' ((conv => whnf); first
    | (intro v9 hv9; (try simp (disch := omega) only [ab_tI, ab_c0, wd_ix12, wd_ix8, wd_ix10, wd_up_self, wd_up_eq, wd_up_ne, Int.toNat_natCast, Int.toNat_of_nonneg, not_true_eq_false, not_false_eq_true, Option.some.injEq] at hv9); subst hv9)
    | (apply i_get; (focus (exact rfl)); (focus (exact rfl)))
    | (refine hX9 _ _ _ _ (wd_rnC rfl ?_); clear hC9 hX9 X9 C9; intro C9 X9 hC9 hX9)
    | (refine i_brF (by decide) ?_)
    | (refine i_brT (by decide) ?_)
    | (refine ⟨fun hc => ?_, fun hc => ?_⟩ <;> (try simp (disch := omega) only [ab_tI, ab_c0, wd_ix12, wd_ix8, wd_ix10, wd_up_self, wd_up_eq, wd_up_ne, Int.toNat_natCast, Int.toNat_of_nonneg, not_true_eq_false, not_false_eq_true, Option.some.injEq] at hc) <;> first | (exfalso; omega) | skip)
    | (apply i_cv; (focus (exact rfl)))
    | (apply i_len; (focus (exact rfl)))
    | (apply w_putI; (focus (exact rfl)); (focus (exact rfl)); (focus (exact rfl)); (focus (first | exact trivial | exact Or.inl rfl | exact Or.inr rfl)); (focus (exact rfl)))
    | (apply w_putP; (focus (exact rfl)); (focus (exact rfl)); (focus (exact rfl)); (focus (exact trivial)); (focus (exact rfl)))
    | (apply i_ialN; (focus (exact rfl)); (focus (first | exact Or.inl rfl | exact Or.inr rfl)); (focus (exact (by first | exact ⟨by decide, by decide⟩ | ((try simp (disch := omega) only [ab_tI, ab_c0, wd_ix12, wd_ix8, wd_ix10, wd_up_self, wd_up_eq, wd_up_ne, Int.toNat_natCast, Int.toNat_of_nonneg, not_true_eq_false, not_false_eq_true, Option.some.injEq, ab_c0]); omega)))); (intro v9 hv9; (try simp (disch := omega) only [ab_tI, ab_c0, wd_ix12, wd_ix8, wd_ix10, wd_up_self, wd_up_eq, wd_up_ne, Int.toNat_natCast, Int.toNat_of_nonneg, not_true_eq_false, not_false_eq_true, Option.some.injEq] at hv9); subst hv9))
    | (apply i_aalN; (focus (exact rfl)); (focus (exact (by first | exact ⟨by decide, by decide⟩ | ((try simp (disch := omega) only [ab_tI, ab_c0, wd_ix12, wd_ix8, wd_ix10, wd_up_self, wd_up_eq, wd_up_ne, Int.toNat_natCast, Int.toNat_of_nonneg, not_true_eq_false, not_false_eq_true, Option.some.injEq, ab_c0]); omega)))); (intro v9 hv9; (try simp (disch := omega) only [ab_tI, ab_c0, wd_ix12, wd_ix8, wd_ix10, wd_up_self, wd_up_eq, wd_up_ne, Int.toNat_natCast, Int.toNat_of_nonneg, not_true_eq_false, not_false_eq_true, Option.some.injEq] at hv9); subst hv9))
    | (apply w_iasI; (focus (exact rfl)); (focus (exact rfl)); (focus (exact (by first | exact ⟨by decide, by decide⟩ | ((try simp (disch := omega) only [ab_tI, ab_c0, wd_ix12, wd_ix8, wd_ix10, wd_up_self, wd_up_eq, wd_up_ne, Int.toNat_natCast, Int.toNat_of_nonneg, not_true_eq_false, not_false_eq_true, Option.some.injEq, ab_c0]); omega)))); (focus (intro _; exact rfl)); (intro v9 hv9; (try simp (disch := omega) only [ab_tI, ab_c0, wd_ix12, wd_ix8, wd_ix10, wd_up_self, wd_up_eq, wd_up_ne, Int.toNat_natCast, Int.toNat_of_nonneg, not_true_eq_false, not_false_eq_true, Option.some.injEq] at hv9); subst hv9))
    | (refine And.intro trivial ?_)
    | (refine And.intro (Or.inl rfl) ?_)
    | (refine And.intro (Or.inr rfl) ?_)
    | (refine And.intro (by ((try simp (disch := omega) only [ab_tI, ab_c0, wd_ix12, wd_ix8, wd_ix10, wd_up_self, wd_up_eq, wd_up_ne, Int.toNat_natCast, Int.toNat_of_nonneg, not_true_eq_false, not_false_eq_true, Option.some.injEq]); omega)) ?_)
    | fail)
    all_goals first | exact hQ | (exfalso; omega)
  | r + 1, n, fk, fp, T, I, g, k, z, hr, h, hf, hn, hxk, hQ => by
    have ht : t_tp I := h.2.1.2.1
    have e44 : (ab_ii 44).toInt = 44 := by decide
    have hxc := fun I fk fp n kk z' => c_pu_w (I := I) (P := P) (M := M) (k := kk) (z := z') (wd_mut_new h125) (c_pu_0 (g := g) (x := x) (n := n) (fk := fk) (fp := fp))
    by_cases hk3 : kd.toInt = 3
    · have ek : r_key kd I fk n = r_nk I fk n := by unfold r_key; rw [if_pos hk3]
      have ep : ∀ l, r_pp kd l fk n = c_plc fk l n 0 := fun l => by unfold r_pp; rw [if_pos hk3]
      have hnk := fun (Q : ab_Q) hq => y_newKey (d := d - 1) (I := I) (P := P) (M := M) (g := g) (k := k) (z := z) (x := x) (n := n) (fk := fk) (fp := fp) (Q := Q) (by omega) h125 (by omega) ht hq
      obtain ⟨hL1, hL2, hL3⟩ := r_nk_tf (fk := fk) (n := n) ht
      rw [← hL3] at hL2
      unfold r_mnl at hQ
      simp only [ek, ep] at hQ
      generalize r_nk I fk n = L at *
      obtain ⟨I1, l⟩ := L
      clear hL3
      dsimp only at *
      by_cases hfl : 0 ≤ (I1 1 3).toInt
      · rw [if_pos hfl] at hQ
        clear hG
        refine wd_rnC rfl ?_
        intro C9 X9 hC9 hX9
        repeat' ((conv => whnf); first
    | (apply i_getN; (focus (first | exact hxc _ _ _ _ _ _)); (focus (exact rfl)); (intro v9 hv9; (try simp (disch := omega) only [ab_tI, ab_c0, wd_ix12, wd_ix8, wd_ix10, wd_up_self, wd_up_eq, wd_up_ne, Int.toNat_natCast, Int.toNat_of_nonneg, not_true_eq_false, not_false_eq_true, Option.some.injEq] at hv9); subst hv9))
    | (apply i_cv; (focus (first | exact hxc _ _ _ _ _ _)))
    | (apply i_len; (focus (first | exact congrArg ab_len (hxc _ _ _ _ _ _))))
    | (apply i_ialN; (focus (first | exact hxc _ _ _ _ _ _)); (focus (first | exact Or.inl rfl | exact Or.inr rfl)); (focus (exact (by first | exact ⟨by decide, by decide⟩ | ((try simp (disch := omega) only [ab_tI, ab_c0, wd_ix12, wd_ix8, wd_ix10, wd_up_self, wd_up_eq, wd_up_ne, Int.toNat_natCast, Int.toNat_of_nonneg, not_true_eq_false, not_false_eq_true, Option.some.injEq, ab_c0]); omega)))); (intro v9 hv9; (try simp (disch := omega) only [ab_tI, ab_c0, wd_ix12, wd_ix8, wd_ix10, wd_up_self, wd_up_eq, wd_up_ne, Int.toNat_natCast, Int.toNat_of_nonneg, not_true_eq_false, not_false_eq_true, Option.some.injEq] at hv9); subst hv9))
    | (apply i_aalN; (focus (first | exact hxc _ _ _ _ _ _)); (focus (exact (by first | exact ⟨by decide, by decide⟩ | ((try simp (disch := omega) only [ab_tI, ab_c0, wd_ix12, wd_ix8, wd_ix10, wd_up_self, wd_up_eq, wd_up_ne, Int.toNat_natCast, Int.toNat_of_nonneg, not_true_eq_false, not_false_eq_true, Option.some.injEq, ab_c0]); omega)))); (intro v9 hv9; (try simp (disch := omega) only [ab_tI, ab_c0, wd_ix12, wd_ix8, wd_ix10, wd_up_self, wd_up_eq, wd_up_ne, Int.toNat_natCast, Int.toNat_of_nonneg, not_true_eq_false, not_false_eq_true, Option.some.injEq] at hv9); subst hv9))
    | (refine hC9 102 _ _ _ (hnk _ ?_))
    | (refine hC9 76 _ _ _ (y_tfaulty (by omega) (fun _ => ?_) (fun q => absurd hfl (by omega))))
    | (intro v9 hv9; (try simp (disch := omega) only [ab_tI, ab_c0, wd_ix12, wd_ix8, wd_ix10, wd_up_self, wd_up_eq, wd_up_ne, Int.toNat_natCast, Int.toNat_of_nonneg, not_true_eq_false, not_false_eq_true, Option.some.injEq] at hv9); subst hv9)
    | (apply i_get; (focus (exact rfl)); (focus (exact rfl)))
    | (refine hX9 _ _ _ _ (wd_rnC rfl ?_); clear hC9 hX9 X9 C9; intro C9 X9 hC9 hX9)
    | (refine i_brF (by decide) ?_)
    | (refine i_brT (by decide) ?_)
    | (refine ⟨fun hc => ?_, fun hc => ?_⟩ <;> (try simp (disch := omega) only [ab_tI, ab_c0, wd_ix12, wd_ix8, wd_ix10, wd_up_self, wd_up_eq, wd_up_ne, Int.toNat_natCast, Int.toNat_of_nonneg, not_true_eq_false, not_false_eq_true, Option.some.injEq] at hc) <;> first | (exfalso; omega) | skip)
    | (apply i_cv; (focus (exact rfl)))
    | (apply i_len; (focus (exact rfl)))
    | (apply w_putI; (focus (exact rfl)); (focus (exact rfl)); (focus (exact rfl)); (focus (first | exact trivial | exact Or.inl rfl | exact Or.inr rfl)); (focus (exact rfl)))
    | (apply w_putP; (focus (exact rfl)); (focus (exact rfl)); (focus (exact rfl)); (focus (exact trivial)); (focus (exact rfl)))
    | (apply i_ialN; (focus (exact rfl)); (focus (first | exact Or.inl rfl | exact Or.inr rfl)); (focus (exact (by first | exact ⟨by decide, by decide⟩ | ((try simp (disch := omega) only [ab_tI, ab_c0, wd_ix12, wd_ix8, wd_ix10, wd_up_self, wd_up_eq, wd_up_ne, Int.toNat_natCast, Int.toNat_of_nonneg, not_true_eq_false, not_false_eq_true, Option.some.injEq, ab_c0]); omega)))); (intro v9 hv9; (try simp (disch := omega) only [ab_tI, ab_c0, wd_ix12, wd_ix8, wd_ix10, wd_up_self, wd_up_eq, wd_up_ne, Int.toNat_natCast, Int.toNat_of_nonneg, not_true_eq_false, not_false_eq_true, Option.some.injEq] at hv9); subst hv9))
    | (apply i_aalN; (focus (exact rfl)); (focus (exact (by first | exact ⟨by decide, by decide⟩ | ((try simp (disch := omega) only [ab_tI, ab_c0, wd_ix12, wd_ix8, wd_ix10, wd_up_self, wd_up_eq, wd_up_ne, Int.toNat_natCast, Int.toNat_of_nonneg, not_true_eq_false, not_false_eq_true, Option.some.injEq, ab_c0]); omega)))); (intro v9 hv9; (try simp (disch := omega) only [ab_tI, ab_c0, wd_ix12, wd_ix8, wd_ix10, wd_up_self, wd_up_eq, wd_up_ne, Int.toNat_natCast, Int.toNat_of_nonneg, not_true_eq_false, not_false_eq_true, Option.some.injEq] at hv9); subst hv9))
    | (apply w_iasI; (focus (exact rfl)); (focus (exact rfl)); (focus (exact (by first | exact ⟨by decide, by decide⟩ | ((try simp (disch := omega) only [ab_tI, ab_c0, wd_ix12, wd_ix8, wd_ix10, wd_up_self, wd_up_eq, wd_up_ne, Int.toNat_natCast, Int.toNat_of_nonneg, not_true_eq_false, not_false_eq_true, Option.some.injEq, ab_c0]); omega)))); (focus (intro _; exact rfl)); (intro v9 hv9; (try simp (disch := omega) only [ab_tI, ab_c0, wd_ix12, wd_ix8, wd_ix10, wd_up_self, wd_up_eq, wd_up_ne, Int.toNat_natCast, Int.toNat_of_nonneg, not_true_eq_false, not_false_eq_true, Option.some.injEq] at hv9); subst hv9))
    | (refine And.intro trivial ?_)
    | (refine And.intro (Or.inl rfl) ?_)
    | (refine And.intro (Or.inr rfl) ?_)
    | (refine And.intro (by ((try simp (disch := omega) only [ab_tI, ab_c0, wd_ix12, wd_ix8, wd_ix10, wd_up_self, wd_up_eq, wd_up_ne, Int.toNat_natCast, Int.toNat_of_nonneg, not_true_eq_false, not_false_eq_true, Option.some.injEq]); omega)) ?_)
    | fail)
        all_goals first | exact hQ | (exfalso; omega)
      · rw [if_neg hfl] at hQ
        have hS1 := h.I (I' := I1) hL1
        dsimp only at hS1
        have hg1 := fun Q hq => hG T (I1, c_pu g x fk fp n, k, z) Q (hS1.pr h0) (hS1.ro hro).1 hq
        obtain ⟨T1, a1, a2, a3⟩ := hS1.go h0 hGg
        generalize G (I1, c_pu g x fk fp n, k, z) = R1 at *
        obtain ⟨o1, I2, g2, k2, z2⟩ := R1
        dsimp only at a1 a2 a3 hg1 hQ
        unfold c_S at hg1
        dsimp only at hg1
        have c0 : g2 x = c_po x n := (a3.ofr x (by show x < k; omega) (wd_mut_new h125)).trans c_pu_0
        have c1 : g2 (x + 1) = ab_ia 0 13 fk := (a3.ofr (x + 1) (by show x + 1 < k; omega) (wd_mut_new (by omega))).trans c_pu_1
        have c2 : g2 (x + 2) = ab_ra 4 13 fp := (a3.ofr (x + 2) (by show x + 2 < k; omega) (wd_mut_new (by omega))).trans c_pu_2
        obtain ⟨g3, hg3⟩ : ∃ g3, g2 = c_pu g3 x fk fp n := ⟨g2, c_pu_id c0 c1 c2⟩
        subst hg3
        have hkk : k ≤ k2 := a3.kk
        have hn2 : c_nq3 T1 (c_pu g3 x fk fp n) x := ⟨a3.nq x (by show x < k; omega) hn.1, a3.nq (x + 1) (by show x + 1 < k; omega) hn.2.1, a3.nq (x + 2) (by show x + 2 < k; omega) hn.2.2⟩
        cases o1 with
        | none =>
          clear hG
          refine wd_rnC rfl ?_
          intro C9 X9 hC9 hX9
          repeat' ((conv => whnf); first
    | (apply i_getN; (focus (first | exact hxc _ _ _ _ _ _)); (focus (exact rfl)); (intro v9 hv9; (try simp (disch := omega) only [ab_tI, ab_c0, wd_ix12, wd_ix8, wd_ix10, wd_up_self, wd_up_eq, wd_up_ne, Int.toNat_natCast, Int.toNat_of_nonneg, not_true_eq_false, not_false_eq_true, Option.some.injEq] at hv9); subst hv9))
    | (apply i_cv; (focus (first | exact hxc _ _ _ _ _ _)))
    | (apply i_len; (focus (first | exact congrArg ab_len (hxc _ _ _ _ _ _))))
    | (apply i_ialN; (focus (first | exact hxc _ _ _ _ _ _)); (focus (first | exact Or.inl rfl | exact Or.inr rfl)); (focus (exact (by first | exact ⟨by decide, by decide⟩ | ((try simp (disch := omega) only [ab_tI, ab_c0, wd_ix12, wd_ix8, wd_ix10, wd_up_self, wd_up_eq, wd_up_ne, Int.toNat_natCast, Int.toNat_of_nonneg, not_true_eq_false, not_false_eq_true, Option.some.injEq, ab_c0]); omega)))); (intro v9 hv9; (try simp (disch := omega) only [ab_tI, ab_c0, wd_ix12, wd_ix8, wd_ix10, wd_up_self, wd_up_eq, wd_up_ne, Int.toNat_natCast, Int.toNat_of_nonneg, not_true_eq_false, not_false_eq_true, Option.some.injEq] at hv9); subst hv9))
    | (apply i_aalN; (focus (first | exact hxc _ _ _ _ _ _)); (focus (exact (by first | exact ⟨by decide, by decide⟩ | ((try simp (disch := omega) only [ab_tI, ab_c0, wd_ix12, wd_ix8, wd_ix10, wd_up_self, wd_up_eq, wd_up_ne, Int.toNat_natCast, Int.toNat_of_nonneg, not_true_eq_false, not_false_eq_true, Option.some.injEq, ab_c0]); omega)))); (intro v9 hv9; (try simp (disch := omega) only [ab_tI, ab_c0, wd_ix12, wd_ix8, wd_ix10, wd_up_self, wd_up_eq, wd_up_ne, Int.toNat_natCast, Int.toNat_of_nonneg, not_true_eq_false, not_false_eq_true, Option.some.injEq] at hv9); subst hv9))
    | (refine hC9 102 _ _ _ (hnk _ ?_))
    | (refine hC9 76 _ _ _ (y_tfaulty (by omega) (fun q => absurd q hfl) (fun _ => ?_)))
    | (refine hC9 98 _ _ _ (hg1 _ ?_))
    | (intro v9 hv9; (try simp (disch := omega) only [ab_tI, ab_c0, wd_ix12, wd_ix8, wd_ix10, wd_up_self, wd_up_eq, wd_up_ne, Int.toNat_natCast, Int.toNat_of_nonneg, not_true_eq_false, not_false_eq_true, Option.some.injEq] at hv9); subst hv9)
    | (apply i_get; (focus (exact rfl)); (focus (exact rfl)))
    | (refine hX9 _ _ _ _ (wd_rnC rfl ?_); clear hC9 hX9 X9 C9; intro C9 X9 hC9 hX9)
    | (refine i_brF (by decide) ?_)
    | (refine i_brT (by decide) ?_)
    | (refine ⟨fun hc => ?_, fun hc => ?_⟩ <;> (try simp (disch := omega) only [ab_tI, ab_c0, wd_ix12, wd_ix8, wd_ix10, wd_up_self, wd_up_eq, wd_up_ne, Int.toNat_natCast, Int.toNat_of_nonneg, not_true_eq_false, not_false_eq_true, Option.some.injEq] at hc) <;> first | (exfalso; omega) | skip)
    | (apply i_cv; (focus (exact rfl)))
    | (apply i_len; (focus (exact rfl)))
    | (apply w_putI; (focus (exact rfl)); (focus (exact rfl)); (focus (exact rfl)); (focus (first | exact trivial | exact Or.inl rfl | exact Or.inr rfl)); (focus (exact rfl)))
    | (apply w_putP; (focus (exact rfl)); (focus (exact rfl)); (focus (exact rfl)); (focus (exact trivial)); (focus (exact rfl)))
    | (apply i_ialN; (focus (exact rfl)); (focus (first | exact Or.inl rfl | exact Or.inr rfl)); (focus (exact (by first | exact ⟨by decide, by decide⟩ | ((try simp (disch := omega) only [ab_tI, ab_c0, wd_ix12, wd_ix8, wd_ix10, wd_up_self, wd_up_eq, wd_up_ne, Int.toNat_natCast, Int.toNat_of_nonneg, not_true_eq_false, not_false_eq_true, Option.some.injEq, ab_c0]); omega)))); (intro v9 hv9; (try simp (disch := omega) only [ab_tI, ab_c0, wd_ix12, wd_ix8, wd_ix10, wd_up_self, wd_up_eq, wd_up_ne, Int.toNat_natCast, Int.toNat_of_nonneg, not_true_eq_false, not_false_eq_true, Option.some.injEq] at hv9); subst hv9))
    | (apply i_aalN; (focus (exact rfl)); (focus (exact (by first | exact ⟨by decide, by decide⟩ | ((try simp (disch := omega) only [ab_tI, ab_c0, wd_ix12, wd_ix8, wd_ix10, wd_up_self, wd_up_eq, wd_up_ne, Int.toNat_natCast, Int.toNat_of_nonneg, not_true_eq_false, not_false_eq_true, Option.some.injEq, ab_c0]); omega)))); (intro v9 hv9; (try simp (disch := omega) only [ab_tI, ab_c0, wd_ix12, wd_ix8, wd_ix10, wd_up_self, wd_up_eq, wd_up_ne, Int.toNat_natCast, Int.toNat_of_nonneg, not_true_eq_false, not_false_eq_true, Option.some.injEq] at hv9); subst hv9))
    | (apply w_iasI; (focus (exact rfl)); (focus (exact rfl)); (focus (exact (by first | exact ⟨by decide, by decide⟩ | ((try simp (disch := omega) only [ab_tI, ab_c0, wd_ix12, wd_ix8, wd_ix10, wd_up_self, wd_up_eq, wd_up_ne, Int.toNat_natCast, Int.toNat_of_nonneg, not_true_eq_false, not_false_eq_true, Option.some.injEq, ab_c0]); omega)))); (focus (intro _; exact rfl)); (intro v9 hv9; (try simp (disch := omega) only [ab_tI, ab_c0, wd_ix12, wd_ix8, wd_ix10, wd_up_self, wd_up_eq, wd_up_ne, Int.toNat_natCast, Int.toNat_of_nonneg, not_true_eq_false, not_false_eq_true, Option.some.injEq] at hv9); subst hv9))
    | (refine And.intro trivial ?_)
    | (refine And.intro (Or.inl rfl) ?_)
    | (refine And.intro (Or.inr rfl) ?_)
    | (refine And.intro (by ((try simp (disch := omega) only [ab_tI, ab_c0, wd_ix12, wd_ix8, wd_ix10, wd_up_self, wd_up_eq, wd_up_ne, Int.toNat_natCast, Int.toNat_of_nonneg, not_true_eq_false, not_false_eq_true, Option.some.injEq]); omega)) ?_)
    | fail)
          all_goals first | exact hQ | (exfalso; omega)
        | some b =>
          dsimp only at hQ
          have hTb := a2 b rfl
          have ho := c_out_nq (hW := a1.1.wf) hn2
          have hf2 := c_rT_mo hf a3.inc
          have ht2 : t_tp I2 := a1.2.1.2.1
          have hxd := fun I fk fp n kk z' => c_pu_w (I := I) (P := P) (M := M) (k := kk) (z := z') (wd_mut_new h125) (c_pu_0 (g := g3) (x := x) (n := n) (fk := fk) (fp := fp))
          have hput := fun (Q : ab_Q) hq => y_putKey (d := d - 1) (I := I2) (P := P) (M := M) (g := g3) (k := k2) (z := z2) (x := x) (n := n) (fk := fk) (fp := fp) (Q := Q) (b := b) (l := l) (by omega) h125 (by omega) ho hTb hf2 (fun q => absurd (hL2 q) hfl) (fun _ => hq)
          have hple : c_plc fk l n 0 ≤ n := by have := c_plc_le (fk := fk) (l := l) n 0; omega
          obtain ⟨hS3, hn3⟩ := r_S3_at (pl := c_plc fk l n 0) (n := n) (l := l) (fk := fk) (fp := fp) (b := b) a1 hx hn2
          have e3 : r_S3 x (c_plc fk l n 0) n l fk fp b (I2, c_pu g3 x fk fp n, k2, z2) = (I2, c_pu g3 x (c_ins fk n (c_plc fk l n 0) l) (c_ins fp n (c_plc fk l n 0) (some b)) (n + 1), k2, z2) := by unfold r_S3; dsimp only; rw [c_pu_pu]
          rw [e3] at hS3 hn3 hQ
          have hf3 := c_ins_T hf2 hple hTb
          dsimp only at hn3 hQ
          have hS4 := hS3.I (t_step_tf ht2).1
          dsimp only at hS4
          by_cases hcl : (t_next I2).toInt = close.toInt
          · rw [if_pos hcl] at hQ
            obtain ⟨r1, r2⟩ := (hS3.ro hro).2
            dsimp only at r1 r2
            have htg := fun (Q : ab_Q) hq => y_together (d := d - 1) (I := t_step I2) (P := P) (M := M) (g := g3) (k := k2) (z := z2) (x := x) (n := n + 1) (fk := c_ins fk n (c_plc fk l n 0) l) (fp := c_ins fp n (c_plc fk l n 0) (some b)) (kd := kd) (Q := Q) (T := T1) (by omega) h125 (by omega) (by omega) (hS3.pr h0).1 hf3 ⟨r1, r2⟩ hq
            clear hG
            refine wd_rnC rfl ?_
            intro C9 X9 hC9 hX9
            repeat' ((conv => whnf); first
    | (apply i_getN; (focus (first | exact hxc _ _ _ _ _ _ | exact hxd _ _ _ _ _ _)); (focus (exact rfl)); (intro v9 hv9; (try simp (disch := omega) only [ab_tI, ab_c0, wd_ix12, wd_ix8, wd_ix10, wd_up_self, wd_up_eq, wd_up_ne, Int.toNat_natCast, Int.toNat_of_nonneg, not_true_eq_false, not_false_eq_true, Option.some.injEq] at hv9); subst hv9))
    | (apply i_cv; (focus (first | exact hxc _ _ _ _ _ _ | exact hxd _ _ _ _ _ _)))
    | (apply i_len; (focus (first | exact congrArg ab_len (hxc _ _ _ _ _ _) | exact congrArg ab_len (hxd _ _ _ _ _ _))))
    | (apply i_ialN; (focus (first | exact hxc _ _ _ _ _ _ | exact hxd _ _ _ _ _ _)); (focus (first | exact Or.inl rfl | exact Or.inr rfl)); (focus (exact (by first | exact ⟨by decide, by decide⟩ | ((try simp (disch := omega) only [ab_tI, ab_c0, wd_ix12, wd_ix8, wd_ix10, wd_up_self, wd_up_eq, wd_up_ne, Int.toNat_natCast, Int.toNat_of_nonneg, not_true_eq_false, not_false_eq_true, Option.some.injEq, ab_c0]); omega)))); (intro v9 hv9; (try simp (disch := omega) only [ab_tI, ab_c0, wd_ix12, wd_ix8, wd_ix10, wd_up_self, wd_up_eq, wd_up_ne, Int.toNat_natCast, Int.toNat_of_nonneg, not_true_eq_false, not_false_eq_true, Option.some.injEq] at hv9); subst hv9))
    | (apply i_aalN; (focus (first | exact hxc _ _ _ _ _ _ | exact hxd _ _ _ _ _ _)); (focus (exact (by first | exact ⟨by decide, by decide⟩ | ((try simp (disch := omega) only [ab_tI, ab_c0, wd_ix12, wd_ix8, wd_ix10, wd_up_self, wd_up_eq, wd_up_ne, Int.toNat_natCast, Int.toNat_of_nonneg, not_true_eq_false, not_false_eq_true, Option.some.injEq, ab_c0]); omega)))); (intro v9 hv9; (try simp (disch := omega) only [ab_tI, ab_c0, wd_ix12, wd_ix8, wd_ix10, wd_up_self, wd_up_eq, wd_up_ne, Int.toNat_natCast, Int.toNat_of_nonneg, not_true_eq_false, not_false_eq_true, Option.some.injEq] at hv9); subst hv9))
    | (refine hC9 102 _ _ _ (hnk _ ?_))
    | (refine hC9 76 _ _ _ (y_tfaulty (by omega) (fun q => absurd q hfl) (fun _ => ?_)))
    | (refine hC9 98 _ _ _ (hg1 _ ?_))
    | (refine hC9 _ _ _ _ (hput _ ?_))
    | (refine hC9 81 _ _ _ (y_ttakes (b := close) (by omega) ht2 (fun _ => ?_) (fun q => absurd hcl q)))
    | (refine hC9 42 _ _ _ (htg _ ?_))
    | (intro v9 hv9; (try simp (disch := omega) only [ab_tI, ab_c0, wd_ix12, wd_ix8, wd_ix10, wd_up_self, wd_up_eq, wd_up_ne, Int.toNat_natCast, Int.toNat_of_nonneg, not_true_eq_false, not_false_eq_true, Option.some.injEq] at hv9); subst hv9)
    | (apply i_get; (focus (exact rfl)); (focus (exact rfl)))
    | (refine hX9 _ _ _ _ (wd_rnC rfl ?_); clear hC9 hX9 X9 C9; intro C9 X9 hC9 hX9)
    | (refine i_brF (by decide) ?_)
    | (refine i_brT (by decide) ?_)
    | (refine ⟨fun hc => ?_, fun hc => ?_⟩ <;> (try simp (disch := omega) only [ab_tI, ab_c0, wd_ix12, wd_ix8, wd_ix10, wd_up_self, wd_up_eq, wd_up_ne, Int.toNat_natCast, Int.toNat_of_nonneg, not_true_eq_false, not_false_eq_true, Option.some.injEq] at hc) <;> first | (exfalso; omega) | skip)
    | (apply i_cv; (focus (exact rfl)))
    | (apply i_len; (focus (exact rfl)))
    | (apply w_putI; (focus (exact rfl)); (focus (exact rfl)); (focus (exact rfl)); (focus (first | exact trivial | exact Or.inl rfl | exact Or.inr rfl)); (focus (exact rfl)))
    | (apply w_putP; (focus (exact rfl)); (focus (exact rfl)); (focus (exact rfl)); (focus (exact trivial)); (focus (exact rfl)))
    | (apply i_ialN; (focus (exact rfl)); (focus (first | exact Or.inl rfl | exact Or.inr rfl)); (focus (exact (by first | exact ⟨by decide, by decide⟩ | ((try simp (disch := omega) only [ab_tI, ab_c0, wd_ix12, wd_ix8, wd_ix10, wd_up_self, wd_up_eq, wd_up_ne, Int.toNat_natCast, Int.toNat_of_nonneg, not_true_eq_false, not_false_eq_true, Option.some.injEq, ab_c0]); omega)))); (intro v9 hv9; (try simp (disch := omega) only [ab_tI, ab_c0, wd_ix12, wd_ix8, wd_ix10, wd_up_self, wd_up_eq, wd_up_ne, Int.toNat_natCast, Int.toNat_of_nonneg, not_true_eq_false, not_false_eq_true, Option.some.injEq] at hv9); subst hv9))
    | (apply i_aalN; (focus (exact rfl)); (focus (exact (by first | exact ⟨by decide, by decide⟩ | ((try simp (disch := omega) only [ab_tI, ab_c0, wd_ix12, wd_ix8, wd_ix10, wd_up_self, wd_up_eq, wd_up_ne, Int.toNat_natCast, Int.toNat_of_nonneg, not_true_eq_false, not_false_eq_true, Option.some.injEq, ab_c0]); omega)))); (intro v9 hv9; (try simp (disch := omega) only [ab_tI, ab_c0, wd_ix12, wd_ix8, wd_ix10, wd_up_self, wd_up_eq, wd_up_ne, Int.toNat_natCast, Int.toNat_of_nonneg, not_true_eq_false, not_false_eq_true, Option.some.injEq] at hv9); subst hv9))
    | (apply w_iasI; (focus (exact rfl)); (focus (exact rfl)); (focus (exact (by first | exact ⟨by decide, by decide⟩ | ((try simp (disch := omega) only [ab_tI, ab_c0, wd_ix12, wd_ix8, wd_ix10, wd_up_self, wd_up_eq, wd_up_ne, Int.toNat_natCast, Int.toNat_of_nonneg, not_true_eq_false, not_false_eq_true, Option.some.injEq, ab_c0]); omega)))); (focus (intro _; exact rfl)); (intro v9 hv9; (try simp (disch := omega) only [ab_tI, ab_c0, wd_ix12, wd_ix8, wd_ix10, wd_up_self, wd_up_eq, wd_up_ne, Int.toNat_natCast, Int.toNat_of_nonneg, not_true_eq_false, not_false_eq_true, Option.some.injEq] at hv9); subst hv9))
    | (refine And.intro trivial ?_)
    | (refine And.intro (Or.inl rfl) ?_)
    | (refine And.intro (Or.inr rfl) ?_)
    | (refine And.intro (by ((try simp (disch := omega) only [ab_tI, ab_c0, wd_ix12, wd_ix8, wd_ix10, wd_up_self, wd_up_eq, wd_up_ne, Int.toNat_natCast, Int.toNat_of_nonneg, not_true_eq_false, not_false_eq_true, Option.some.injEq]); omega)) ?_)
    | fail)
            all_goals first | exact hQ | (exfalso; omega)
          · rw [if_neg hcl] at hQ
            by_cases hcm : r = 0 ∨ ¬ (t_next I2).toInt = 44
            · rw [if_pos hcm] at hQ
              clear hG
              refine wd_rnC rfl ?_
              intro C9 X9 hC9 hX9
              repeat' ((conv => whnf); first
    | (apply i_getN; (focus (first | exact hxc _ _ _ _ _ _ | exact hxd _ _ _ _ _ _)); (focus (exact rfl)); (intro v9 hv9; (try simp (disch := omega) only [ab_tI, ab_c0, wd_ix12, wd_ix8, wd_ix10, wd_up_self, wd_up_eq, wd_up_ne, Int.toNat_natCast, Int.toNat_of_nonneg, not_true_eq_false, not_false_eq_true, Option.some.injEq] at hv9); subst hv9))
    | (apply i_cv; (focus (first | exact hxc _ _ _ _ _ _ | exact hxd _ _ _ _ _ _)))
    | (apply i_len; (focus (first | exact congrArg ab_len (hxc _ _ _ _ _ _) | exact congrArg ab_len (hxd _ _ _ _ _ _))))
    | (apply i_ialN; (focus (first | exact hxc _ _ _ _ _ _ | exact hxd _ _ _ _ _ _)); (focus (first | exact Or.inl rfl | exact Or.inr rfl)); (focus (exact (by first | exact ⟨by decide, by decide⟩ | ((try simp (disch := omega) only [ab_tI, ab_c0, wd_ix12, wd_ix8, wd_ix10, wd_up_self, wd_up_eq, wd_up_ne, Int.toNat_natCast, Int.toNat_of_nonneg, not_true_eq_false, not_false_eq_true, Option.some.injEq, ab_c0]); omega)))); (intro v9 hv9; (try simp (disch := omega) only [ab_tI, ab_c0, wd_ix12, wd_ix8, wd_ix10, wd_up_self, wd_up_eq, wd_up_ne, Int.toNat_natCast, Int.toNat_of_nonneg, not_true_eq_false, not_false_eq_true, Option.some.injEq] at hv9); subst hv9))
    | (apply i_aalN; (focus (first | exact hxc _ _ _ _ _ _ | exact hxd _ _ _ _ _ _)); (focus (exact (by first | exact ⟨by decide, by decide⟩ | ((try simp (disch := omega) only [ab_tI, ab_c0, wd_ix12, wd_ix8, wd_ix10, wd_up_self, wd_up_eq, wd_up_ne, Int.toNat_natCast, Int.toNat_of_nonneg, not_true_eq_false, not_false_eq_true, Option.some.injEq, ab_c0]); omega)))); (intro v9 hv9; (try simp (disch := omega) only [ab_tI, ab_c0, wd_ix12, wd_ix8, wd_ix10, wd_up_self, wd_up_eq, wd_up_ne, Int.toNat_natCast, Int.toNat_of_nonneg, not_true_eq_false, not_false_eq_true, Option.some.injEq] at hv9); subst hv9))
    | (refine hC9 102 _ _ _ (hnk _ ?_))
    | (refine hC9 76 _ _ _ (y_tfaulty (by omega) (fun q => absurd q hfl) (fun _ => ?_)))
    | (refine hC9 98 _ _ _ (hg1 _ ?_))
    | (refine hC9 _ _ _ _ (hput _ ?_))
    | (refine hC9 81 _ _ _ (y_ttakes (b := close) (by omega) ht2 (fun q => absurd q hcl) (fun _ => ?_)))
    | (refine hC9 81 _ _ _ (y_ttakes (b := ab_ii 44) (by omega) ht2 (fun q => by exfalso; rw [e44] at q; omega) (fun _ => ?_)))
    | (refine hC9 74 _ _ _ (y_tat (by omega) ?_))
    | (refine hC9 78 _ _ _ (y_tfail (by omega) ?_))
    | (intro v9 hv9; (try simp (disch := omega) only [ab_tI, ab_c0, wd_ix12, wd_ix8, wd_ix10, wd_up_self, wd_up_eq, wd_up_ne, Int.toNat_natCast, Int.toNat_of_nonneg, not_true_eq_false, not_false_eq_true, Option.some.injEq] at hv9); subst hv9)
    | (apply i_get; (focus (exact rfl)); (focus (exact rfl)))
    | (refine hX9 _ _ _ _ (wd_rnC rfl ?_); clear hC9 hX9 X9 C9; intro C9 X9 hC9 hX9)
    | (refine i_brF (by decide) ?_)
    | (refine i_brT (by decide) ?_)
    | (refine ⟨fun hc => ?_, fun hc => ?_⟩ <;> (try simp (disch := omega) only [ab_tI, ab_c0, wd_ix12, wd_ix8, wd_ix10, wd_up_self, wd_up_eq, wd_up_ne, Int.toNat_natCast, Int.toNat_of_nonneg, not_true_eq_false, not_false_eq_true, Option.some.injEq] at hc) <;> first | (exfalso; omega) | skip)
    | (apply i_cv; (focus (exact rfl)))
    | (apply i_len; (focus (exact rfl)))
    | (apply w_putI; (focus (exact rfl)); (focus (exact rfl)); (focus (exact rfl)); (focus (first | exact trivial | exact Or.inl rfl | exact Or.inr rfl)); (focus (exact rfl)))
    | (apply w_putP; (focus (exact rfl)); (focus (exact rfl)); (focus (exact rfl)); (focus (exact trivial)); (focus (exact rfl)))
    | (apply i_ialN; (focus (exact rfl)); (focus (first | exact Or.inl rfl | exact Or.inr rfl)); (focus (exact (by first | exact ⟨by decide, by decide⟩ | ((try simp (disch := omega) only [ab_tI, ab_c0, wd_ix12, wd_ix8, wd_ix10, wd_up_self, wd_up_eq, wd_up_ne, Int.toNat_natCast, Int.toNat_of_nonneg, not_true_eq_false, not_false_eq_true, Option.some.injEq, ab_c0]); omega)))); (intro v9 hv9; (try simp (disch := omega) only [ab_tI, ab_c0, wd_ix12, wd_ix8, wd_ix10, wd_up_self, wd_up_eq, wd_up_ne, Int.toNat_natCast, Int.toNat_of_nonneg, not_true_eq_false, not_false_eq_true, Option.some.injEq] at hv9); subst hv9))
    | (apply i_aalN; (focus (exact rfl)); (focus (exact (by first | exact ⟨by decide, by decide⟩ | ((try simp (disch := omega) only [ab_tI, ab_c0, wd_ix12, wd_ix8, wd_ix10, wd_up_self, wd_up_eq, wd_up_ne, Int.toNat_natCast, Int.toNat_of_nonneg, not_true_eq_false, not_false_eq_true, Option.some.injEq, ab_c0]); omega)))); (intro v9 hv9; (try simp (disch := omega) only [ab_tI, ab_c0, wd_ix12, wd_ix8, wd_ix10, wd_up_self, wd_up_eq, wd_up_ne, Int.toNat_natCast, Int.toNat_of_nonneg, not_true_eq_false, not_false_eq_true, Option.some.injEq] at hv9); subst hv9))
    | (apply w_iasI; (focus (exact rfl)); (focus (exact rfl)); (focus (exact (by first | exact ⟨by decide, by decide⟩ | ((try simp (disch := omega) only [ab_tI, ab_c0, wd_ix12, wd_ix8, wd_ix10, wd_up_self, wd_up_eq, wd_up_ne, Int.toNat_natCast, Int.toNat_of_nonneg, not_true_eq_false, not_false_eq_true, Option.some.injEq, ab_c0]); omega)))); (focus (intro _; exact rfl)); (intro v9 hv9; (try simp (disch := omega) only [ab_tI, ab_c0, wd_ix12, wd_ix8, wd_ix10, wd_up_self, wd_up_eq, wd_up_ne, Int.toNat_natCast, Int.toNat_of_nonneg, not_true_eq_false, not_false_eq_true, Option.some.injEq] at hv9); subst hv9))
    | (refine And.intro trivial ?_)
    | (refine And.intro (Or.inl rfl) ?_)
    | (refine And.intro (Or.inr rfl) ?_)
    | (refine And.intro (by ((try simp (disch := omega) only [ab_tI, ab_c0, wd_ix12, wd_ix8, wd_ix10, wd_up_self, wd_up_eq, wd_up_ne, Int.toNat_natCast, Int.toNat_of_nonneg, not_true_eq_false, not_false_eq_true, Option.some.injEq]); omega)) ?_)
    | fail)
              all_goals first | exact hQ | (exfalso; omega)
            · rw [if_neg hcm] at hQ
              have ih := y_rmnl hd hdp hGg hG h0 hro h125 hx r (n + 1) _ _ T1 (t_step I2) g3 k2 z2 (by omega) hS4 hf3 hn3 (by omega) hQ
              clear hG
              refine wd_rnC rfl ?_
              intro C9 X9 hC9 hX9
              repeat' ((conv => whnf); first
    | (apply i_getN; (focus (first | exact hxc _ _ _ _ _ _ | exact hxd _ _ _ _ _ _)); (focus (exact rfl)); (intro v9 hv9; (try simp (disch := omega) only [ab_tI, ab_c0, wd_ix12, wd_ix8, wd_ix10, wd_up_self, wd_up_eq, wd_up_ne, Int.toNat_natCast, Int.toNat_of_nonneg, not_true_eq_false, not_false_eq_true, Option.some.injEq] at hv9); subst hv9))
    | (apply i_cv; (focus (first | exact hxc _ _ _ _ _ _ | exact hxd _ _ _ _ _ _)))
    | (apply i_len; (focus (first | exact congrArg ab_len (hxc _ _ _ _ _ _) | exact congrArg ab_len (hxd _ _ _ _ _ _))))
    | (apply i_ialN; (focus (first | exact hxc _ _ _ _ _ _ | exact hxd _ _ _ _ _ _)); (focus (first | exact Or.inl rfl | exact Or.inr rfl)); (focus (exact (by first | exact ⟨by decide, by decide⟩ | ((try simp (disch := omega) only [ab_tI, ab_c0, wd_ix12, wd_ix8, wd_ix10, wd_up_self, wd_up_eq, wd_up_ne, Int.toNat_natCast, Int.toNat_of_nonneg, not_true_eq_false, not_false_eq_true, Option.some.injEq, ab_c0]); omega)))); (intro v9 hv9; (try simp (disch := omega) only [ab_tI, ab_c0, wd_ix12, wd_ix8, wd_ix10, wd_up_self, wd_up_eq, wd_up_ne, Int.toNat_natCast, Int.toNat_of_nonneg, not_true_eq_false, not_false_eq_true, Option.some.injEq] at hv9); subst hv9))
    | (apply i_aalN; (focus (first | exact hxc _ _ _ _ _ _ | exact hxd _ _ _ _ _ _)); (focus (exact (by first | exact ⟨by decide, by decide⟩ | ((try simp (disch := omega) only [ab_tI, ab_c0, wd_ix12, wd_ix8, wd_ix10, wd_up_self, wd_up_eq, wd_up_ne, Int.toNat_natCast, Int.toNat_of_nonneg, not_true_eq_false, not_false_eq_true, Option.some.injEq, ab_c0]); omega)))); (intro v9 hv9; (try simp (disch := omega) only [ab_tI, ab_c0, wd_ix12, wd_ix8, wd_ix10, wd_up_self, wd_up_eq, wd_up_ne, Int.toNat_natCast, Int.toNat_of_nonneg, not_true_eq_false, not_false_eq_true, Option.some.injEq] at hv9); subst hv9))
    | (refine hC9 102 _ _ _ (hnk _ ?_))
    | (refine hC9 76 _ _ _ (y_tfaulty (by omega) (fun q => absurd q hfl) (fun _ => ?_)))
    | (refine hC9 98 _ _ _ (hg1 _ ?_))
    | (refine hC9 _ _ _ _ (hput _ ?_))
    | (refine hC9 81 _ _ _ (y_ttakes (b := close) (by omega) ht2 (fun q => absurd q hcl) (fun _ => ?_)))
    | (refine hC9 81 _ _ _ (y_ttakes (b := ab_ii 44) (by omega) ht2 (fun _ => ?_) (fun q => by exfalso; rw [e44] at q; omega)))
    | (refine hX9 37 _ _ _ (ab_WB_sub ?_ ih); (repeat (first | exact ab_sub0 | (refine ab_sub1 ?_ ?_; (focus ((repeat (refine ab_skip rfl ?_)); first | exact List.mem_cons_self))))))
    | (intro v9 hv9; (try simp (disch := omega) only [ab_tI, ab_c0, wd_ix12, wd_ix8, wd_ix10, wd_up_self, wd_up_eq, wd_up_ne, Int.toNat_natCast, Int.toNat_of_nonneg, not_true_eq_false, not_false_eq_true, Option.some.injEq] at hv9); subst hv9)
    | (apply i_get; (focus (exact rfl)); (focus (exact rfl)))
    | (refine hX9 _ _ _ _ (wd_rnC rfl ?_); clear hC9 hX9 X9 C9; intro C9 X9 hC9 hX9)
    | (refine i_brF (by decide) ?_)
    | (refine i_brT (by decide) ?_)
    | (refine ⟨fun hc => ?_, fun hc => ?_⟩ <;> (try simp (disch := omega) only [ab_tI, ab_c0, wd_ix12, wd_ix8, wd_ix10, wd_up_self, wd_up_eq, wd_up_ne, Int.toNat_natCast, Int.toNat_of_nonneg, not_true_eq_false, not_false_eq_true, Option.some.injEq] at hc) <;> first | (exfalso; omega) | skip)
    | (apply i_cv; (focus (exact rfl)))
    | (apply i_len; (focus (exact rfl)))
    | (apply w_putI; (focus (exact rfl)); (focus (exact rfl)); (focus (exact rfl)); (focus (first | exact trivial | exact Or.inl rfl | exact Or.inr rfl)); (focus (exact rfl)))
    | (apply w_putP; (focus (exact rfl)); (focus (exact rfl)); (focus (exact rfl)); (focus (exact trivial)); (focus (exact rfl)))
    | (apply i_ialN; (focus (exact rfl)); (focus (first | exact Or.inl rfl | exact Or.inr rfl)); (focus (exact (by first | exact ⟨by decide, by decide⟩ | ((try simp (disch := omega) only [ab_tI, ab_c0, wd_ix12, wd_ix8, wd_ix10, wd_up_self, wd_up_eq, wd_up_ne, Int.toNat_natCast, Int.toNat_of_nonneg, not_true_eq_false, not_false_eq_true, Option.some.injEq, ab_c0]); omega)))); (intro v9 hv9; (try simp (disch := omega) only [ab_tI, ab_c0, wd_ix12, wd_ix8, wd_ix10, wd_up_self, wd_up_eq, wd_up_ne, Int.toNat_natCast, Int.toNat_of_nonneg, not_true_eq_false, not_false_eq_true, Option.some.injEq] at hv9); subst hv9))
    | (apply i_aalN; (focus (exact rfl)); (focus (exact (by first | exact ⟨by decide, by decide⟩ | ((try simp (disch := omega) only [ab_tI, ab_c0, wd_ix12, wd_ix8, wd_ix10, wd_up_self, wd_up_eq, wd_up_ne, Int.toNat_natCast, Int.toNat_of_nonneg, not_true_eq_false, not_false_eq_true, Option.some.injEq, ab_c0]); omega)))); (intro v9 hv9; (try simp (disch := omega) only [ab_tI, ab_c0, wd_ix12, wd_ix8, wd_ix10, wd_up_self, wd_up_eq, wd_up_ne, Int.toNat_natCast, Int.toNat_of_nonneg, not_true_eq_false, not_false_eq_true, Option.some.injEq] at hv9); subst hv9))
    | (apply w_iasI; (focus (exact rfl)); (focus (exact rfl)); (focus (exact (by first | exact ⟨by decide, by decide⟩ | ((try simp (disch := omega) only [ab_tI, ab_c0, wd_ix12, wd_ix8, wd_ix10, wd_up_self, wd_up_eq, wd_up_ne, Int.toNat_natCast, Int.toNat_of_nonneg, not_true_eq_false, not_false_eq_true, Option.some.injEq, ab_c0]); omega)))); (focus (intro _; exact rfl)); (intro v9 hv9; (try simp (disch := omega) only [ab_tI, ab_c0, wd_ix12, wd_ix8, wd_ix10, wd_up_self, wd_up_eq, wd_up_ne, Int.toNat_natCast, Int.toNat_of_nonneg, not_true_eq_false, not_false_eq_true, Option.some.injEq] at hv9); subst hv9))
    | (refine And.intro trivial ?_)
    | (refine And.intro (Or.inl rfl) ?_)
    | (refine And.intro (Or.inr rfl) ?_)
    | (refine And.intro (by ((try simp (disch := omega) only [ab_tI, ab_c0, wd_ix12, wd_ix8, wd_ix10, wd_up_self, wd_up_eq, wd_up_ne, Int.toNat_natCast, Int.toNat_of_nonneg, not_true_eq_false, not_false_eq_true, Option.some.injEq]); omega)) ?_)
    | fail)
              all_goals (exfalso; omega)
    · have ek : r_key kd I fk n = (I, ab_ii 0) := by unfold r_key; rw [if_neg hk3]
      have ep : ∀ l, r_pp kd l fk n = n := fun l => by unfold r_pp; rw [if_neg hk3]
      have hL1 : r_tf I I := r_tf.rf ht
      unfold r_mnl at hQ
      simp only [ek, ep] at hQ
      by_cases hfl : 0 ≤ (I 1 3).toInt
      · rw [if_pos hfl] at hQ
        clear hG
        refine wd_rnC rfl ?_
        intro C9 X9 hC9 hX9
        repeat' ((conv => whnf); first
    | (apply i_getN; (focus (first | exact hxc _ _ _ _ _ _)); (focus (exact rfl)); (intro v9 hv9; (try simp (disch := omega) only [ab_tI, ab_c0, wd_ix12, wd_ix8, wd_ix10, wd_up_self, wd_up_eq, wd_up_ne, Int.toNat_natCast, Int.toNat_of_nonneg, not_true_eq_false, not_false_eq_true, Option.some.injEq] at hv9); subst hv9))
    | (apply i_cv; (focus (first | exact hxc _ _ _ _ _ _)))
    | (apply i_len; (focus (first | exact congrArg ab_len (hxc _ _ _ _ _ _))))
    | (apply i_ialN; (focus (first | exact hxc _ _ _ _ _ _)); (focus (first | exact Or.inl rfl | exact Or.inr rfl)); (focus (exact (by first | exact ⟨by decide, by decide⟩ | ((try simp (disch := omega) only [ab_tI, ab_c0, wd_ix12, wd_ix8, wd_ix10, wd_up_self, wd_up_eq, wd_up_ne, Int.toNat_natCast, Int.toNat_of_nonneg, not_true_eq_false, not_false_eq_true, Option.some.injEq, ab_c0]); omega)))); (intro v9 hv9; (try simp (disch := omega) only [ab_tI, ab_c0, wd_ix12, wd_ix8, wd_ix10, wd_up_self, wd_up_eq, wd_up_ne, Int.toNat_natCast, Int.toNat_of_nonneg, not_true_eq_false, not_false_eq_true, Option.some.injEq] at hv9); subst hv9))
    | (apply i_aalN; (focus (first | exact hxc _ _ _ _ _ _)); (focus (exact (by first | exact ⟨by decide, by decide⟩ | ((try simp (disch := omega) only [ab_tI, ab_c0, wd_ix12, wd_ix8, wd_ix10, wd_up_self, wd_up_eq, wd_up_ne, Int.toNat_natCast, Int.toNat_of_nonneg, not_true_eq_false, not_false_eq_true, Option.some.injEq, ab_c0]); omega)))); (intro v9 hv9; (try simp (disch := omega) only [ab_tI, ab_c0, wd_ix12, wd_ix8, wd_ix10, wd_up_self, wd_up_eq, wd_up_ne, Int.toNat_natCast, Int.toNat_of_nonneg, not_true_eq_false, not_false_eq_true, Option.some.injEq] at hv9); subst hv9))
    | (refine hC9 76 _ _ _ (y_tfaulty (by omega) (fun _ => ?_) (fun q => absurd hfl (by omega))))
    | (intro v9 hv9; (try simp (disch := omega) only [ab_tI, ab_c0, wd_ix12, wd_ix8, wd_ix10, wd_up_self, wd_up_eq, wd_up_ne, Int.toNat_natCast, Int.toNat_of_nonneg, not_true_eq_false, not_false_eq_true, Option.some.injEq] at hv9); subst hv9)
    | (apply i_get; (focus (exact rfl)); (focus (exact rfl)))
    | (refine hX9 _ _ _ _ (wd_rnC rfl ?_); clear hC9 hX9 X9 C9; intro C9 X9 hC9 hX9)
    | (refine i_brF (by decide) ?_)
    | (refine i_brT (by decide) ?_)
    | (refine ⟨fun hc => ?_, fun hc => ?_⟩ <;> (try simp (disch := omega) only [ab_tI, ab_c0, wd_ix12, wd_ix8, wd_ix10, wd_up_self, wd_up_eq, wd_up_ne, Int.toNat_natCast, Int.toNat_of_nonneg, not_true_eq_false, not_false_eq_true, Option.some.injEq] at hc) <;> first | (exfalso; omega) | skip)
    | (apply i_cv; (focus (exact rfl)))
    | (apply i_len; (focus (exact rfl)))
    | (apply w_putI; (focus (exact rfl)); (focus (exact rfl)); (focus (exact rfl)); (focus (first | exact trivial | exact Or.inl rfl | exact Or.inr rfl)); (focus (exact rfl)))
    | (apply w_putP; (focus (exact rfl)); (focus (exact rfl)); (focus (exact rfl)); (focus (exact trivial)); (focus (exact rfl)))
    | (apply i_ialN; (focus (exact rfl)); (focus (first | exact Or.inl rfl | exact Or.inr rfl)); (focus (exact (by first | exact ⟨by decide, by decide⟩ | ((try simp (disch := omega) only [ab_tI, ab_c0, wd_ix12, wd_ix8, wd_ix10, wd_up_self, wd_up_eq, wd_up_ne, Int.toNat_natCast, Int.toNat_of_nonneg, not_true_eq_false, not_false_eq_true, Option.some.injEq, ab_c0]); omega)))); (intro v9 hv9; (try simp (disch := omega) only [ab_tI, ab_c0, wd_ix12, wd_ix8, wd_ix10, wd_up_self, wd_up_eq, wd_up_ne, Int.toNat_natCast, Int.toNat_of_nonneg, not_true_eq_false, not_false_eq_true, Option.some.injEq] at hv9); subst hv9))
    | (apply i_aalN; (focus (exact rfl)); (focus (exact (by first | exact ⟨by decide, by decide⟩ | ((try simp (disch := omega) only [ab_tI, ab_c0, wd_ix12, wd_ix8, wd_ix10, wd_up_self, wd_up_eq, wd_up_ne, Int.toNat_natCast, Int.toNat_of_nonneg, not_true_eq_false, not_false_eq_true, Option.some.injEq, ab_c0]); omega)))); (intro v9 hv9; (try simp (disch := omega) only [ab_tI, ab_c0, wd_ix12, wd_ix8, wd_ix10, wd_up_self, wd_up_eq, wd_up_ne, Int.toNat_natCast, Int.toNat_of_nonneg, not_true_eq_false, not_false_eq_true, Option.some.injEq] at hv9); subst hv9))
    | (apply w_iasI; (focus (exact rfl)); (focus (exact rfl)); (focus (exact (by first | exact ⟨by decide, by decide⟩ | ((try simp (disch := omega) only [ab_tI, ab_c0, wd_ix12, wd_ix8, wd_ix10, wd_up_self, wd_up_eq, wd_up_ne, Int.toNat_natCast, Int.toNat_of_nonneg, not_true_eq_false, not_false_eq_true, Option.some.injEq, ab_c0]); omega)))); (focus (intro _; exact rfl)); (intro v9 hv9; (try simp (disch := omega) only [ab_tI, ab_c0, wd_ix12, wd_ix8, wd_ix10, wd_up_self, wd_up_eq, wd_up_ne, Int.toNat_natCast, Int.toNat_of_nonneg, not_true_eq_false, not_false_eq_true, Option.some.injEq] at hv9); subst hv9))
    | (refine And.intro trivial ?_)
    | (refine And.intro (Or.inl rfl) ?_)
    | (refine And.intro (Or.inr rfl) ?_)
    | (refine And.intro (by ((try simp (disch := omega) only [ab_tI, ab_c0, wd_ix12, wd_ix8, wd_ix10, wd_up_self, wd_up_eq, wd_up_ne, Int.toNat_natCast, Int.toNat_of_nonneg, not_true_eq_false, not_false_eq_true, Option.some.injEq]); omega)) ?_)
    | fail)
        all_goals first | exact hQ | (exfalso; omega)
      · rw [if_neg hfl] at hQ
        have hS1 := h.I (I' := I) hL1
        dsimp only at hS1
        have hg1 := fun Q hq => hG T (I, c_pu g x fk fp n, k, z) Q (hS1.pr h0) (hS1.ro hro).1 hq
        obtain ⟨T1, a1, a2, a3⟩ := hS1.go h0 hGg
        generalize G (I, c_pu g x fk fp n, k, z) = R1 at *
        obtain ⟨o1, I2, g2, k2, z2⟩ := R1
        dsimp only at a1 a2 a3 hg1 hQ
        unfold c_S at hg1
        dsimp only at hg1
        have c0 : g2 x = c_po x n := (a3.ofr x (by show x < k; omega) (wd_mut_new h125)).trans c_pu_0
        have c1 : g2 (x + 1) = ab_ia 0 13 fk := (a3.ofr (x + 1) (by show x + 1 < k; omega) (wd_mut_new (by omega))).trans c_pu_1
        have c2 : g2 (x + 2) = ab_ra 4 13 fp := (a3.ofr (x + 2) (by show x + 2 < k; omega) (wd_mut_new (by omega))).trans c_pu_2
        obtain ⟨g3, hg3⟩ : ∃ g3, g2 = c_pu g3 x fk fp n := ⟨g2, c_pu_id c0 c1 c2⟩
        subst hg3
        have hkk : k ≤ k2 := a3.kk
        have hn2 : c_nq3 T1 (c_pu g3 x fk fp n) x := ⟨a3.nq x (by show x < k; omega) hn.1, a3.nq (x + 1) (by show x + 1 < k; omega) hn.2.1, a3.nq (x + 2) (by show x + 2 < k; omega) hn.2.2⟩
        cases o1 with
        | none =>
          clear hG
          refine wd_rnC rfl ?_
          intro C9 X9 hC9 hX9
          repeat' ((conv => whnf); first
    | (apply i_getN; (focus (first | exact hxc _ _ _ _ _ _)); (focus (exact rfl)); (intro v9 hv9; (try simp (disch := omega) only [ab_tI, ab_c0, wd_ix12, wd_ix8, wd_ix10, wd_up_self, wd_up_eq, wd_up_ne, Int.toNat_natCast, Int.toNat_of_nonneg, not_true_eq_false, not_false_eq_true, Option.some.injEq] at hv9); subst hv9))
    | (apply i_cv; (focus (first | exact hxc _ _ _ _ _ _)))
    | (apply i_len; (focus (first | exact congrArg ab_len (hxc _ _ _ _ _ _))))
    | (apply i_ialN; (focus (first | exact hxc _ _ _ _ _ _)); (focus (first | exact Or.inl rfl | exact Or.inr rfl)); (focus (exact (by first | exact ⟨by decide, by decide⟩ | ((try simp (disch := omega) only [ab_tI, ab_c0, wd_ix12, wd_ix8, wd_ix10, wd_up_self, wd_up_eq, wd_up_ne, Int.toNat_natCast, Int.toNat_of_nonneg, not_true_eq_false, not_false_eq_true, Option.some.injEq, ab_c0]); omega)))); (intro v9 hv9; (try simp (disch := omega) only [ab_tI, ab_c0, wd_ix12, wd_ix8, wd_ix10, wd_up_self, wd_up_eq, wd_up_ne, Int.toNat_natCast, Int.toNat_of_nonneg, not_true_eq_false, not_false_eq_true, Option.some.injEq] at hv9); subst hv9))
    | (apply i_aalN; (focus (first | exact hxc _ _ _ _ _ _)); (focus (exact (by first | exact ⟨by decide, by decide⟩ | ((try simp (disch := omega) only [ab_tI, ab_c0, wd_ix12, wd_ix8, wd_ix10, wd_up_self, wd_up_eq, wd_up_ne, Int.toNat_natCast, Int.toNat_of_nonneg, not_true_eq_false, not_false_eq_true, Option.some.injEq, ab_c0]); omega)))); (intro v9 hv9; (try simp (disch := omega) only [ab_tI, ab_c0, wd_ix12, wd_ix8, wd_ix10, wd_up_self, wd_up_eq, wd_up_ne, Int.toNat_natCast, Int.toNat_of_nonneg, not_true_eq_false, not_false_eq_true, Option.some.injEq] at hv9); subst hv9))
    | (refine hC9 76 _ _ _ (y_tfaulty (by omega) (fun q => absurd q hfl) (fun _ => ?_)))
    | (refine hC9 98 _ _ _ (hg1 _ ?_))
    | (intro v9 hv9; (try simp (disch := omega) only [ab_tI, ab_c0, wd_ix12, wd_ix8, wd_ix10, wd_up_self, wd_up_eq, wd_up_ne, Int.toNat_natCast, Int.toNat_of_nonneg, not_true_eq_false, not_false_eq_true, Option.some.injEq] at hv9); subst hv9)
    | (apply i_get; (focus (exact rfl)); (focus (exact rfl)))
    | (refine hX9 _ _ _ _ (wd_rnC rfl ?_); clear hC9 hX9 X9 C9; intro C9 X9 hC9 hX9)
    | (refine i_brF (by decide) ?_)
    | (refine i_brT (by decide) ?_)
    | (refine ⟨fun hc => ?_, fun hc => ?_⟩ <;> (try simp (disch := omega) only [ab_tI, ab_c0, wd_ix12, wd_ix8, wd_ix10, wd_up_self, wd_up_eq, wd_up_ne, Int.toNat_natCast, Int.toNat_of_nonneg, not_true_eq_false, not_false_eq_true, Option.some.injEq] at hc) <;> first | (exfalso; omega) | skip)
    | (apply i_cv; (focus (exact rfl)))
    | (apply i_len; (focus (exact rfl)))
    | (apply w_putI; (focus (exact rfl)); (focus (exact rfl)); (focus (exact rfl)); (focus (first | exact trivial | exact Or.inl rfl | exact Or.inr rfl)); (focus (exact rfl)))
    | (apply w_putP; (focus (exact rfl)); (focus (exact rfl)); (focus (exact rfl)); (focus (exact trivial)); (focus (exact rfl)))
    | (apply i_ialN; (focus (exact rfl)); (focus (first | exact Or.inl rfl | exact Or.inr rfl)); (focus (exact (by first | exact ⟨by decide, by decide⟩ | ((try simp (disch := omega) only [ab_tI, ab_c0, wd_ix12, wd_ix8, wd_ix10, wd_up_self, wd_up_eq, wd_up_ne, Int.toNat_natCast, Int.toNat_of_nonneg, not_true_eq_false, not_false_eq_true, Option.some.injEq, ab_c0]); omega)))); (intro v9 hv9; (try simp (disch := omega) only [ab_tI, ab_c0, wd_ix12, wd_ix8, wd_ix10, wd_up_self, wd_up_eq, wd_up_ne, Int.toNat_natCast, Int.toNat_of_nonneg, not_true_eq_false, not_false_eq_true, Option.some.injEq] at hv9); subst hv9))
    | (apply i_aalN; (focus (exact rfl)); (focus (exact (by first | exact ⟨by decide, by decide⟩ | ((try simp (disch := omega) only [ab_tI, ab_c0, wd_ix12, wd_ix8, wd_ix10, wd_up_self, wd_up_eq, wd_up_ne, Int.toNat_natCast, Int.toNat_of_nonneg, not_true_eq_false, not_false_eq_true, Option.some.injEq, ab_c0]); omega)))); (intro v9 hv9; (try simp (disch := omega) only [ab_tI, ab_c0, wd_ix12, wd_ix8, wd_ix10, wd_up_self, wd_up_eq, wd_up_ne, Int.toNat_natCast, Int.toNat_of_nonneg, not_true_eq_false, not_false_eq_true, Option.some.injEq] at hv9); subst hv9))
    | (apply w_iasI; (focus (exact rfl)); (focus (exact rfl)); (focus (exact (by first | exact ⟨by decide, by decide⟩ | ((try simp (disch := omega) only [ab_tI, ab_c0, wd_ix12, wd_ix8, wd_ix10, wd_up_self, wd_up_eq, wd_up_ne, Int.toNat_natCast, Int.toNat_of_nonneg, not_true_eq_false, not_false_eq_true, Option.some.injEq, ab_c0]); omega)))); (focus (intro _; exact rfl)); (intro v9 hv9; (try simp (disch := omega) only [ab_tI, ab_c0, wd_ix12, wd_ix8, wd_ix10, wd_up_self, wd_up_eq, wd_up_ne, Int.toNat_natCast, Int.toNat_of_nonneg, not_true_eq_false, not_false_eq_true, Option.some.injEq] at hv9); subst hv9))
    | (refine And.intro trivial ?_)
    | (refine And.intro (Or.inl rfl) ?_)
    | (refine And.intro (Or.inr rfl) ?_)
    | (refine And.intro (by ((try simp (disch := omega) only [ab_tI, ab_c0, wd_ix12, wd_ix8, wd_ix10, wd_up_self, wd_up_eq, wd_up_ne, Int.toNat_natCast, Int.toNat_of_nonneg, not_true_eq_false, not_false_eq_true, Option.some.injEq]); omega)) ?_)
    | fail)
          all_goals first | exact hQ | (exfalso; omega)
        | some b =>
          dsimp only at hQ
          have hTb := a2 b rfl
          have ho := c_out_nq (hW := a1.1.wf) hn2
          have hf2 := c_rT_mo hf a3.inc
          have ht2 : t_tp I2 := a1.2.1.2.1
          have hxd := fun I fk fp n kk z' => c_pu_w (I := I) (P := P) (M := M) (k := kk) (z := z') (wd_mut_new h125) (c_pu_0 (g := g3) (x := x) (n := n) (fk := fk) (fp := fp))
          have hput := fun (Q : ab_Q) hq => y_padd (d := d - 1) (I := I2) (P := P) (M := M) (g := g3) (k := k2) (z := z2) (x := x) (n := n) (fk := fk) (fp := fp) (Q := Q) (b := b) (l := ab_ii 0) (by omega) h125 (by omega) ho hTb hf2 hq
          have hple : n ≤ n := by omega
          obtain ⟨hS3, hn3⟩ := r_S3_at (pl := n) (n := n) (l := (ab_ii 0)) (fk := fk) (fp := fp) (b := b) a1 hx hn2
          have e3 : r_S3 x (n) n (ab_ii 0) fk fp b (I2, c_pu g3 x fk fp n, k2, z2) = (I2, c_pu g3 x (c_ins fk n (n) (ab_ii 0)) (c_ins fp n (n) (some b)) (n + 1), k2, z2) := by unfold r_S3; dsimp only; rw [c_pu_pu]
          rw [e3] at hS3 hn3 hQ
          have hf3 := c_ins_T hf2 hple hTb
          dsimp only at hn3 hQ
          have hS4 := hS3.I (t_step_tf ht2).1
          dsimp only at hS4
          by_cases hcl : (t_next I2).toInt = close.toInt
          · rw [if_pos hcl] at hQ
            obtain ⟨r1, r2⟩ := (hS3.ro hro).2
            dsimp only at r1 r2
            have htg := fun (Q : ab_Q) hq => y_together (d := d - 1) (I := t_step I2) (P := P) (M := M) (g := g3) (k := k2) (z := z2) (x := x) (n := n + 1) (fk := c_ins fk n (n) (ab_ii 0)) (fp := c_ins fp n (n) (some b)) (kd := kd) (Q := Q) (T := T1) (by omega) h125 (by omega) (by omega) (hS3.pr h0).1 hf3 ⟨r1, r2⟩ hq
            clear hG
            refine wd_rnC rfl ?_
            intro C9 X9 hC9 hX9
            repeat' ((conv => whnf); first
    | (apply i_getN; (focus (first | exact hxc _ _ _ _ _ _ | exact hxd _ _ _ _ _ _)); (focus (exact rfl)); (intro v9 hv9; (try simp (disch := omega) only [ab_tI, ab_c0, wd_ix12, wd_ix8, wd_ix10, wd_up_self, wd_up_eq, wd_up_ne, Int.toNat_natCast, Int.toNat_of_nonneg, not_true_eq_false, not_false_eq_true, Option.some.injEq] at hv9); subst hv9))
    | (apply i_cv; (focus (first | exact hxc _ _ _ _ _ _ | exact hxd _ _ _ _ _ _)))
    | (apply i_len; (focus (first | exact congrArg ab_len (hxc _ _ _ _ _ _) | exact congrArg ab_len (hxd _ _ _ _ _ _))))
    | (apply i_ialN; (focus (first | exact hxc _ _ _ _ _ _ | exact hxd _ _ _ _ _ _)); (focus (first | exact Or.inl rfl | exact Or.inr rfl)); (focus (exact (by first | exact ⟨by decide, by decide⟩ | ((try simp (disch := omega) only [ab_tI, ab_c0, wd_ix12, wd_ix8, wd_ix10, wd_up_self, wd_up_eq, wd_up_ne, Int.toNat_natCast, Int.toNat_of_nonneg, not_true_eq_false, not_false_eq_true, Option.some.injEq, ab_c0]); omega)))); (intro v9 hv9; (try simp (disch := omega) only [ab_tI, ab_c0, wd_ix12, wd_ix8, wd_ix10, wd_up_self, wd_up_eq, wd_up_ne, Int.toNat_natCast, Int.toNat_of_nonneg, not_true_eq_false, not_false_eq_true, Option.some.injEq] at hv9); subst hv9))
    | (apply i_aalN; (focus (first | exact hxc _ _ _ _ _ _ | exact hxd _ _ _ _ _ _)); (focus (exact (by first | exact ⟨by decide, by decide⟩ | ((try simp (disch := omega) only [ab_tI, ab_c0, wd_ix12, wd_ix8, wd_ix10, wd_up_self, wd_up_eq, wd_up_ne, Int.toNat_natCast, Int.toNat_of_nonneg, not_true_eq_false, not_false_eq_true, Option.some.injEq, ab_c0]); omega)))); (intro v9 hv9; (try simp (disch := omega) only [ab_tI, ab_c0, wd_ix12, wd_ix8, wd_ix10, wd_up_self, wd_up_eq, wd_up_ne, Int.toNat_natCast, Int.toNat_of_nonneg, not_true_eq_false, not_false_eq_true, Option.some.injEq] at hv9); subst hv9))
    | (refine hC9 76 _ _ _ (y_tfaulty (by omega) (fun q => absurd q hfl) (fun _ => ?_)))
    | (refine hC9 98 _ _ _ (hg1 _ ?_))
    | (refine hC9 _ _ _ _ (hput _ ?_))
    | (refine hC9 81 _ _ _ (y_ttakes (b := close) (by omega) ht2 (fun _ => ?_) (fun q => absurd hcl q)))
    | (refine hC9 42 _ _ _ (htg _ ?_))
    | (intro v9 hv9; (try simp (disch := omega) only [ab_tI, ab_c0, wd_ix12, wd_ix8, wd_ix10, wd_up_self, wd_up_eq, wd_up_ne, Int.toNat_natCast, Int.toNat_of_nonneg, not_true_eq_false, not_false_eq_true, Option.some.injEq] at hv9); subst hv9)
    | (apply i_get; (focus (exact rfl)); (focus (exact rfl)))
    | (refine hX9 _ _ _ _ (wd_rnC rfl ?_); clear hC9 hX9 X9 C9; intro C9 X9 hC9 hX9)
    | (refine i_brF (by decide) ?_)
    | (refine i_brT (by decide) ?_)
    | (refine ⟨fun hc => ?_, fun hc => ?_⟩ <;> (try simp (disch := omega) only [ab_tI, ab_c0, wd_ix12, wd_ix8, wd_ix10, wd_up_self, wd_up_eq, wd_up_ne, Int.toNat_natCast, Int.toNat_of_nonneg, not_true_eq_false, not_false_eq_true, Option.some.injEq] at hc) <;> first | (exfalso; omega) | skip)
    | (apply i_cv; (focus (exact rfl)))
    | (apply i_len; (focus (exact rfl)))
    | (apply w_putI; (focus (exact rfl)); (focus (exact rfl)); (focus (exact rfl)); (focus (first | exact trivial | exact Or.inl rfl | exact Or.inr rfl)); (focus (exact rfl)))
    | (apply w_putP; (focus (exact rfl)); (focus (exact rfl)); (focus (exact rfl)); (focus (exact trivial)); (focus (exact rfl)))
    | (apply i_ialN; (focus (exact rfl)); (focus (first | exact Or.inl rfl | exact Or.inr rfl)); (focus (exact (by first | exact ⟨by decide, by decide⟩ | ((try simp (disch := omega) only [ab_tI, ab_c0, wd_ix12, wd_ix8, wd_ix10, wd_up_self, wd_up_eq, wd_up_ne, Int.toNat_natCast, Int.toNat_of_nonneg, not_true_eq_false, not_false_eq_true, Option.some.injEq, ab_c0]); omega)))); (intro v9 hv9; (try simp (disch := omega) only [ab_tI, ab_c0, wd_ix12, wd_ix8, wd_ix10, wd_up_self, wd_up_eq, wd_up_ne, Int.toNat_natCast, Int.toNat_of_nonneg, not_true_eq_false, not_false_eq_true, Option.some.injEq] at hv9); subst hv9))
    | (apply i_aalN; (focus (exact rfl)); (focus (exact (by first | exact ⟨by decide, by decide⟩ | ((try simp (disch := omega) only [ab_tI, ab_c0, wd_ix12, wd_ix8, wd_ix10, wd_up_self, wd_up_eq, wd_up_ne, Int.toNat_natCast, Int.toNat_of_nonneg, not_true_eq_false, not_false_eq_true, Option.some.injEq, ab_c0]); omega)))); (intro v9 hv9; (try simp (disch := omega) only [ab_tI, ab_c0, wd_ix12, wd_ix8, wd_ix10, wd_up_self, wd_up_eq, wd_up_ne, Int.toNat_natCast, Int.toNat_of_nonneg, not_true_eq_false, not_false_eq_true, Option.some.injEq] at hv9); subst hv9))
    | (apply w_iasI; (focus (exact rfl)); (focus (exact rfl)); (focus (exact (by first | exact ⟨by decide, by decide⟩ | ((try simp (disch := omega) only [ab_tI, ab_c0, wd_ix12, wd_ix8, wd_ix10, wd_up_self, wd_up_eq, wd_up_ne, Int.toNat_natCast, Int.toNat_of_nonneg, not_true_eq_false, not_false_eq_true, Option.some.injEq, ab_c0]); omega)))); (focus (intro _; exact rfl)); (intro v9 hv9; (try simp (disch := omega) only [ab_tI, ab_c0, wd_ix12, wd_ix8, wd_ix10, wd_up_self, wd_up_eq, wd_up_ne, Int.toNat_natCast, Int.toNat_of_nonneg, not_true_eq_false, not_false_eq_true, Option.some.injEq] at hv9); subst hv9))
    | (refine And.intro trivial ?_)
    | (refine And.intro (Or.inl rfl) ?_)
    | (refine And.intro (Or.inr rfl) ?_)
    | (refine And.intro (by ((try simp (disch := omega) only [ab_tI, ab_c0, wd_ix12, wd_ix8, wd_ix10, wd_up_self, wd_up_eq, wd_up_ne, Int.toNat_natCast, Int.toNat_of_nonneg, not_true_eq_false, not_false_eq_true, Option.some.injEq]); omega)) ?_)
    | fail)
            all_goals first | exact hQ | (exfalso; omega)
          · rw [if_neg hcl] at hQ
            by_cases hcm : r = 0 ∨ ¬ (t_next I2).toInt = 44
            · rw [if_pos hcm] at hQ
              clear hG
              refine wd_rnC rfl ?_
              intro C9 X9 hC9 hX9
              repeat' ((conv => whnf); first
    | (apply i_getN; (focus (first | exact hxc _ _ _ _ _ _ | exact hxd _ _ _ _ _ _)); (focus (exact rfl)); (intro v9 hv9; (try simp (disch := omega) only [ab_tI, ab_c0, wd_ix12, wd_ix8, wd_ix10, wd_up_self, wd_up_eq, wd_up_ne, Int.toNat_natCast, Int.toNat_of_nonneg, not_true_eq_false, not_false_eq_true, Option.some.injEq] at hv9); subst hv9))
    | (apply i_cv; (focus (first | exact hxc _ _ _ _ _ _ | exact hxd _ _ _ _ _ _)))
    | (apply i_len; (focus (first | exact congrArg ab_len (hxc _ _ _ _ _ _) | exact congrArg ab_len (hxd _ _ _ _ _ _))))
    | (apply i_ialN; (focus (first | exact hxc _ _ _ _ _ _ | exact hxd _ _ _ _ _ _)); (focus (first | exact Or.inl rfl | exact Or.inr rfl)); (focus (exact (by first | exact ⟨by decide, by decide⟩ | ((try simp (disch := omega) only [ab_tI, ab_c0, wd_ix12, wd_ix8, wd_ix10, wd_up_self, wd_up_eq, wd_up_ne, Int.toNat_natCast, Int.toNat_of_nonneg, not_true_eq_false, not_false_eq_true, Option.some.injEq, ab_c0]); omega)))); (intro v9 hv9; (try simp (disch := omega) only [ab_tI, ab_c0, wd_ix12, wd_ix8, wd_ix10, wd_up_self, wd_up_eq, wd_up_ne, Int.toNat_natCast, Int.toNat_of_nonneg, not_true_eq_false, not_false_eq_true, Option.some.injEq] at hv9); subst hv9))
    | (apply i_aalN; (focus (first | exact hxc _ _ _ _ _ _ | exact hxd _ _ _ _ _ _)); (focus (exact (by first | exact ⟨by decide, by decide⟩ | ((try simp (disch := omega) only [ab_tI, ab_c0, wd_ix12, wd_ix8, wd_ix10, wd_up_self, wd_up_eq, wd_up_ne, Int.toNat_natCast, Int.toNat_of_nonneg, not_true_eq_false, not_false_eq_true, Option.some.injEq, ab_c0]); omega)))); (intro v9 hv9; (try simp (disch := omega) only [ab_tI, ab_c0, wd_ix12, wd_ix8, wd_ix10, wd_up_self, wd_up_eq, wd_up_ne, Int.toNat_natCast, Int.toNat_of_nonneg, not_true_eq_false, not_false_eq_true, Option.some.injEq] at hv9); subst hv9))
    | (refine hC9 76 _ _ _ (y_tfaulty (by omega) (fun q => absurd q hfl) (fun _ => ?_)))
    | (refine hC9 98 _ _ _ (hg1 _ ?_))
    | (refine hC9 _ _ _ _ (hput _ ?_))
    | (refine hC9 81 _ _ _ (y_ttakes (b := close) (by omega) ht2 (fun q => absurd q hcl) (fun _ => ?_)))
    | (refine hC9 81 _ _ _ (y_ttakes (b := ab_ii 44) (by omega) ht2 (fun q => by exfalso; rw [e44] at q; omega) (fun _ => ?_)))
    | (refine hC9 74 _ _ _ (y_tat (by omega) ?_))
    | (refine hC9 78 _ _ _ (y_tfail (by omega) ?_))
    | (intro v9 hv9; (try simp (disch := omega) only [ab_tI, ab_c0, wd_ix12, wd_ix8, wd_ix10, wd_up_self, wd_up_eq, wd_up_ne, Int.toNat_natCast, Int.toNat_of_nonneg, not_true_eq_false, not_false_eq_true, Option.some.injEq] at hv9); subst hv9)
    | (apply i_get; (focus (exact rfl)); (focus (exact rfl)))
    | (refine hX9 _ _ _ _ (wd_rnC rfl ?_); clear hC9 hX9 X9 C9; intro C9 X9 hC9 hX9)
    | (refine i_brF (by decide) ?_)
    | (refine i_brT (by decide) ?_)
    | (refine ⟨fun hc => ?_, fun hc => ?_⟩ <;> (try simp (disch := omega) only [ab_tI, ab_c0, wd_ix12, wd_ix8, wd_ix10, wd_up_self, wd_up_eq, wd_up_ne, Int.toNat_natCast, Int.toNat_of_nonneg, not_true_eq_false, not_false_eq_true, Option.some.injEq] at hc) <;> first | (exfalso; omega) | skip)
    | (apply i_cv; (focus (exact rfl)))
    | (apply i_len; (focus (exact rfl)))
    | (apply w_putI; (focus (exact rfl)); (focus (exact rfl)); (focus (exact rfl)); (focus (first | exact trivial | exact Or.inl rfl | exact Or.inr rfl)); (focus (exact rfl)))
    | (apply w_putP; (focus (exact rfl)); (focus (exact rfl)); (focus (exact rfl)); (focus (exact trivial)); (focus (exact rfl)))
    | (apply i_ialN; (focus (exact rfl)); (focus (first | exact Or.inl rfl | exact Or.inr rfl)); (focus (exact (by first | exact ⟨by decide, by decide⟩ | ((try simp (disch := omega) only [ab_tI, ab_c0, wd_ix12, wd_ix8, wd_ix10, wd_up_self, wd_up_eq, wd_up_ne, Int.toNat_natCast, Int.toNat_of_nonneg, not_true_eq_false, not_false_eq_true, Option.some.injEq, ab_c0]); omega)))); (intro v9 hv9; (try simp (disch := omega) only [ab_tI, ab_c0, wd_ix12, wd_ix8, wd_ix10, wd_up_self, wd_up_eq, wd_up_ne, Int.toNat_natCast, Int.toNat_of_nonneg, not_true_eq_false, not_false_eq_true, Option.some.injEq] at hv9); subst hv9))
    | (apply i_aalN; (focus (exact rfl)); (focus (exact (by first | exact ⟨by decide, by decide⟩ | ((try simp (disch := omega) only [ab_tI, ab_c0, wd_ix12, wd_ix8, wd_ix10, wd_up_self, wd_up_eq, wd_up_ne, Int.toNat_natCast, Int.toNat_of_nonneg, not_true_eq_false, not_false_eq_true, Option.some.injEq, ab_c0]); omega)))); (intro v9 hv9; (try simp (disch := omega) only [ab_tI, ab_c0, wd_ix12, wd_ix8, wd_ix10, wd_up_self, wd_up_eq, wd_up_ne, Int.toNat_natCast, Int.toNat_of_nonneg, not_true_eq_false, not_false_eq_true, Option.some.injEq] at hv9); subst hv9))
    | (apply w_iasI; (focus (exact rfl)); (focus (exact rfl)); (focus (exact (by first | exact ⟨by decide, by decide⟩ | ((try simp (disch := omega) only [ab_tI, ab_c0, wd_ix12, wd_ix8, wd_ix10, wd_up_self, wd_up_eq, wd_up_ne, Int.toNat_natCast, Int.toNat_of_nonneg, not_true_eq_false, not_false_eq_true, Option.some.injEq, ab_c0]); omega)))); (focus (intro _; exact rfl)); (intro v9 hv9; (try simp (disch := omega) only [ab_tI, ab_c0, wd_ix12, wd_ix8, wd_ix10, wd_up_self, wd_up_eq, wd_up_ne, Int.toNat_natCast, Int.toNat_of_nonneg, not_true_eq_false, not_false_eq_true, Option.some.injEq] at hv9); subst hv9))
    | (refine And.intro trivial ?_)
    | (refine And.intro (Or.inl rfl) ?_)
    | (refine And.intro (Or.inr rfl) ?_)
    | (refine And.intro (by ((try simp (disch := omega) only [ab_tI, ab_c0, wd_ix12, wd_ix8, wd_ix10, wd_up_self, wd_up_eq, wd_up_ne, Int.toNat_natCast, Int.toNat_of_nonneg, not_true_eq_false, not_false_eq_true, Option.some.injEq]); omega)) ?_)
    | fail)
              all_goals first | exact hQ | (exfalso; omega)
            · rw [if_neg hcm] at hQ
              have ih := y_rmnl hd hdp hGg hG h0 hro h125 hx r (n + 1) _ _ T1 (t_step I2) g3 k2 z2 (by omega) hS4 hf3 hn3 (by omega) hQ
              clear hG
              refine wd_rnC rfl ?_
              intro C9 X9 hC9 hX9
              repeat' ((conv => whnf); first
    | (apply i_getN; (focus (first | exact hxc _ _ _ _ _ _ | exact hxd _ _ _ _ _ _)); (focus (exact rfl)); (intro v9 hv9; (try simp (disch := omega) only [ab_tI, ab_c0, wd_ix12, wd_ix8, wd_ix10, wd_up_self, wd_up_eq, wd_up_ne, Int.toNat_natCast, Int.toNat_of_nonneg, not_true_eq_false, not_false_eq_true, Option.some.injEq] at hv9); subst hv9))
    | (apply i_cv; (focus (first | exact hxc _ _ _ _ _ _ | exact hxd _ _ _ _ _ _)))
    | (apply i_len; (focus (first | exact congrArg ab_len (hxc _ _ _ _ _ _) | exact congrArg ab_len (hxd _ _ _ _ _ _))))
    | (apply i_ialN; (focus (first | exact hxc _ _ _ _ _ _ | exact hxd _ _ _ _ _ _)); (focus (first | exact Or.inl rfl | exact Or.inr rfl)); (focus (exact (by first | exact ⟨by decide, by decide⟩ | ((try simp (disch := omega) only [ab_tI, ab_c0, wd_ix12, wd_ix8, wd_ix10, wd_up_self, wd_up_eq, wd_up_ne, Int.toNat_natCast, Int.toNat_of_nonneg, not_true_eq_false, not_false_eq_true, Option.some.injEq, ab_c0]); omega)))); (intro v9 hv9; (try simp (disch := omega) only [ab_tI, ab_c0, wd_ix12, wd_ix8, wd_ix10, wd_up_self, wd_up_eq, wd_up_ne, Int.toNat_natCast, Int.toNat_of_nonneg, not_true_eq_false, not_false_eq_true, Option.some.injEq] at hv9); subst hv9))
    | (apply i_aalN; (focus (first | exact hxc _ _ _ _ _ _ | exact hxd _ _ _ _ _ _)); (focus (exact (by first | exact ⟨by decide, by decide⟩ | ((try simp (disch := omega) only [ab_tI, ab_c0, wd_ix12, wd_ix8, wd_ix10, wd_up_self, wd_up_eq, wd_up_ne, Int.toNat_natCast, Int.toNat_of_nonneg, not_true_eq_false, not_false_eq_true, Option.some.injEq, ab_c0]); omega)))); (intro v9 hv9; (try simp (disch := omega) only [ab_tI, ab_c0, wd_ix12, wd_ix8, wd_ix10, wd_up_self, wd_up_eq, wd_up_ne, Int.toNat_natCast, Int.toNat_of_nonneg, not_true_eq_false, not_false_eq_true, Option.some.injEq] at hv9); subst hv9))
    | (refine hC9 76 _ _ _ (y_tfaulty (by omega) (fun q => absurd q hfl) (fun _ => ?_)))
    | (refine hC9 98 _ _ _ (hg1 _ ?_))
    | (refine hC9 _ _ _ _ (hput _ ?_))
    | (refine hC9 81 _ _ _ (y_ttakes (b := close) (by omega) ht2 (fun q => absurd q hcl) (fun _ => ?_)))
    | (refine hC9 81 _ _ _ (y_ttakes (b := ab_ii 44) (by omega) ht2 (fun _ => ?_) (fun q => by exfalso; rw [e44] at q; omega)))
    | (refine hX9 37 _ _ _ (ab_WB_sub ?_ ih); (repeat (first | exact ab_sub0 | (refine ab_sub1 ?_ ?_; (focus ((repeat (refine ab_skip rfl ?_)); first | exact List.mem_cons_self))))))
    | (intro v9 hv9; (try simp (disch := omega) only [ab_tI, ab_c0, wd_ix12, wd_ix8, wd_ix10, wd_up_self, wd_up_eq, wd_up_ne, Int.toNat_natCast, Int.toNat_of_nonneg, not_true_eq_false, not_false_eq_true, Option.some.injEq] at hv9); subst hv9)
    | (apply i_get; (focus (exact rfl)); (focus (exact rfl)))
    | (refine hX9 _ _ _ _ (wd_rnC rfl ?_); clear hC9 hX9 X9 C9; intro C9 X9 hC9 hX9)
    | (refine i_brF (by decide) ?_)
    | (refine i_brT (by decide) ?_)
    | (refine ⟨fun hc => ?_, fun hc => ?_⟩ <;> (try simp (disch := omega) only [ab_tI, ab_c0, wd_ix12, wd_ix8, wd_ix10, wd_up_self, wd_up_eq, wd_up_ne, Int.toNat_natCast, Int.toNat_of_nonneg, not_true_eq_false, not_false_eq_true, Option.some.injEq] at hc) <;> first | (exfalso; omega) | skip)
    | (apply i_cv; (focus (exact rfl)))
    | (apply i_len; (focus (exact rfl)))
    | (apply w_putI; (focus (exact rfl)); (focus (exact rfl)); (focus (exact rfl)); (focus (first | exact trivial | exact Or.inl rfl | exact Or.inr rfl)); (focus (exact rfl)))
    | (apply w_putP; (focus (exact rfl)); (focus (exact rfl)); (focus (exact rfl)); (focus (exact trivial)); (focus (exact rfl)))
    | (apply i_ialN; (focus (exact rfl)); (focus (first | exact Or.inl rfl | exact Or.inr rfl)); (focus (exact (by first | exact ⟨by decide, by decide⟩ | ((try simp (disch := omega) only [ab_tI, ab_c0, wd_ix12, wd_ix8, wd_ix10, wd_up_self, wd_up_eq, wd_up_ne, Int.toNat_natCast, Int.toNat_of_nonneg, not_true_eq_false, not_false_eq_true, Option.some.injEq, ab_c0]); omega)))); (intro v9 hv9; (try simp (disch := omega) only [ab_tI, ab_c0, wd_ix12, wd_ix8, wd_ix10, wd_up_self, wd_up_eq, wd_up_ne, Int.toNat_natCast, Int.toNat_of_nonneg, not_true_eq_false, not_false_eq_true, Option.some.injEq] at hv9); subst hv9))
    | (apply i_aalN; (focus (exact rfl)); (focus (exact (by first | exact ⟨by decide, by decide⟩ | ((try simp (disch := omega) only [ab_tI, ab_c0, wd_ix12, wd_ix8, wd_ix10, wd_up_self, wd_up_eq, wd_up_ne, Int.toNat_natCast, Int.toNat_of_nonneg, not_true_eq_false, not_false_eq_true, Option.some.injEq, ab_c0]); omega)))); (intro v9 hv9; (try simp (disch := omega) only [ab_tI, ab_c0, wd_ix12, wd_ix8, wd_ix10, wd_up_self, wd_up_eq, wd_up_ne, Int.toNat_natCast, Int.toNat_of_nonneg, not_true_eq_false, not_false_eq_true, Option.some.injEq] at hv9); subst hv9))
    | (apply w_iasI; (focus (exact rfl)); (focus (exact rfl)); (focus (exact (by first | exact ⟨by decide, by decide⟩ | ((try simp (disch := omega) only [ab_tI, ab_c0, wd_ix12, wd_ix8, wd_ix10, wd_up_self, wd_up_eq, wd_up_ne, Int.toNat_natCast, Int.toNat_of_nonneg, not_true_eq_false, not_false_eq_true, Option.some.injEq, ab_c0]); omega)))); (focus (intro _; exact rfl)); (intro v9 hv9; (try simp (disch := omega) only [ab_tI, ab_c0, wd_ix12, wd_ix8, wd_ix10, wd_up_self, wd_up_eq, wd_up_ne, Int.toNat_natCast, Int.toNat_of_nonneg, not_true_eq_false, not_false_eq_true, Option.some.injEq] at hv9); subst hv9))
    | (refine And.intro trivial ?_)
    | (refine And.intro (Or.inl rfl) ?_)
    | (refine And.intro (Or.inr rfl) ?_)
    | (refine And.intro (by ((try simp (disch := omega) only [ab_tI, ab_c0, wd_ix12, wd_ix8, wd_ix10, wd_up_self, wd_up_eq, wd_up_ne, Int.toNat_natCast, Int.toNat_of_nonneg, not_true_eq_false, not_false_eq_true, Option.some.injEq]); omega)) ?_)
    | fail)
              all_goals (exfalso; omega)
end
