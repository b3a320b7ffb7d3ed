/-! ===== the class: join, path, foci at a place, image, back (own text) ===== -/
theorem c_mkr_wf {g : Nat → ab_C} {k n : Nat} {I : wd_I} (h125 : 125 ≤ k) (h8 : n ≤ 8) : p_wf (c_mkr g k n I) (k + 1 + 1 + 1) k ∧ p_n (c_mkr g k n I) k = n ∧ (∀ i, p_sg (c_mkr g k n I) k i = c_rwi (I 5) n i) ∧ ∀ i, p_wd (c_mkr g k n I) k i = c_rwi (I 6) n i := by
  have h0 : c_mkr g k n I k = c_pth (k + 1) (k + 1 + 1) := ab_up_self _ _ _
  have h1 : c_mkr g k n I (k + 1) = ab_ia 0 n (c_rwi (I 5) n) := by unfold c_mkr; rw [ab_up_ne _ _ (by omega), ab_up_ne _ _ (by omega), ab_up_self]
  have h2 : c_mkr g k n I (k + 1 + 1) = ab_ia 0 n (c_rwi (I 6) n) := by unfold c_mkr; rw [ab_up_ne _ _ (by omega), ab_up_self]
  have e1 : p_sa (c_mkr g k n I) k = k + 1 := by unfold p_sa; rw [h0]; rfl
  have e2 : p_wa (c_mkr g k n I) k = k + 1 + 1 := by unfold p_wa; rw [h0]; rfl
  refine ⟨⟨⟨wd_mut_new h125, by omega⟩, k + 1, k + 1 + 1, n, _, _, h0, ⟨⟨wd_mut_new (by omega), by omega⟩, h1⟩, ⟨⟨wd_mut_new (by omega), by omega⟩, h2⟩, h8⟩, ?_, fun i => ?_, fun i => ?_⟩
  · unfold p_n; rw [e1, h1]; rfl
  · unfold p_sg; rw [e1, h1]; rfl
  · unfold p_wd; rw [e2, h2]; rfl
theorem c_mkr_of {g : Nat → ab_C} {k n : Nat} {I : wd_I} : c_ofr k g (c_mkr g k n I) := c_ofr_up (c_ofr_up (c_ofr_up c_ofr.rf (by omega)) (by omega)) (Nat.le_refl _)
/-- the path of two -/
def c_jng (g : Nat → ab_C) (k a b : Nat) : Nat → ab_C := c_mkp g k (p_n g a + p_n g b) (c_rwi (c_jn (p_sg g a) (p_sg g b) (p_n g a)) (p_n g a + p_n g b)) (c_rwi (c_jn (p_wd g a) (p_wd g b) (p_n g a)) (p_n g a + p_n g b))
section
variable {d : Nat} {I : wd_I} {P : wd_P} {M : wd_I} {g : Nat → ab_C} {k z : Nat} {Q : ab_Q} {T : Nat → Prop}
set_option maxHeartbeats 4000000 in
set_option maxRecDepth 100000 in
theorem y_path (hd : 8 ≤ d) (h125 : 125 ≤ k) {p : Int32} (ht : 0 ≤ (I 1 1).toInt ∧ (I 1 1).toInt ≤ 100) (hr : k + 3 ≤ 600000 ∧ z + 18 ≤ 5000000) (hbad : ¬ c_pp p → Q (some (.inl (ab_ii (-2)))) (wd I P M g, k, z)) (hn : c_pp p → 0 ≤ (r_who I 1 3).toInt → Q (some (.inl (ab_ii (-100 - (r_who I 1 3).toInt)))) (wd (wd_up (r_who I) 1 1 (ab_ii 0)) P M g, k, z)) (hy : c_pp p → (r_who I 1 3).toInt < 0 → Q (some (.inl (ab_ii (r_len I : Int)))) (wd (wd_up (r_who I) 1 1 (ab_ii 0)) (wd_up P 8 p.toInt.toNat (some k)) M (c_mkr g k (r_len I) (r_who I)), k + 1 + 1 + 1, z + 2 + r_len I + r_len I)) : ab_CT d 106 [wd_v 0, .inl p] (wd I P M g, k, z) Q := by
  by_cases hs : c_pp p
  · obtain ⟨hs0, hs1⟩ := id hs
    have hy := hy hs
    have hn := hn hs
    have h8 : r_len I ≤ 8 := by have := r_loop_le 8 (r_new I) 0; unfold r_len; omega
    by_cases hf : 0 ≤ (r_who I 1 3).toInt
    · have hn := hn hf
      have hrw := fun (Q : ab_Q) hq => y_rwhole (d := d - 1) (P := P) (M := M) (g := g) (k := k) (z := z) (Q := Q) (by omega) h125 ht hr (fun q => absurd hf (by omega)) (fun _ => hq)
      generalize r_who I = R at *
      clear hy hbad
      refine wd_inC rfl (by omega) rfl ?_
      intro C9 X9 hC9 hX9
      repeat' ((conv => whnf); first
    | (refine hC9 124 _ _ _ (y_isPath (by omega) (fun _ _ => ?_) (fun q => by exfalso; omega)))
    | (refine hC9 54 _ _ _ (hrw _ ?_))
    | (refine hC9 75 _ _ _ (y_tfault (by omega) ?_))
    | (refine hC9 72 _ _ _ (y_tclear (by omega) ?_))
    | (intro v9 hv9; (try simp (disch := omega) only [ab_tI, ab_c0, wd_ix12, wd_ix8, wd_ix10, wd_up_self, wd_up_eq, wd_up_ne, Int.toNat_natCast, Int.toNat_of_nonneg, not_true_eq_false, not_false_eq_true, Option.some.injEq] at hv9); subst hv9)
    | (apply i_get; (focus (exact rfl)); (focus (exact rfl)))
    | (refine hX9 _ _ _ _ (wd_rnC rfl ?_); clear hC9 hX9 X9 C9; intro C9 X9 hC9 hX9)
    | (refine i_brF (by decide) ?_)
    | (refine i_brT (by decide) ?_)
    | (refine ⟨fun hc => ?_, fun hc => ?_⟩ <;> (try simp (disch := omega) only [ab_tI, ab_c0, wd_ix12, wd_ix8, wd_ix10, wd_up_self, wd_up_eq, wd_up_ne, Int.toNat_natCast, Int.toNat_of_nonneg, not_true_eq_false, not_false_eq_true, Option.some.injEq] at hc) <;> first | (exfalso; omega) | skip)
    | (apply i_cv; (focus (exact rfl)))
    | (apply i_len; (focus (exact rfl)))
    | (apply w_putI; (focus (exact rfl)); (focus (exact rfl)); (focus (exact rfl)); (focus (first | exact trivial | exact Or.inl rfl | exact Or.inr rfl)); (focus (exact rfl)))
    | (apply w_putP; (focus (exact rfl)); (focus (exact rfl)); (focus (exact rfl)); (focus (exact trivial)); (focus (exact rfl)))
    | (apply i_ialN; (focus (exact rfl)); (focus (first | exact Or.inl rfl | exact Or.inr rfl)); (focus (exact (by first | exact ⟨by decide, by decide⟩ | ((try simp (disch := omega) only [ab_tI, ab_c0, wd_ix12, wd_ix8, wd_ix10, wd_up_self, wd_up_eq, wd_up_ne, Int.toNat_natCast, Int.toNat_of_nonneg, not_true_eq_false, not_false_eq_true, Option.some.injEq, ab_c0]); omega)))); (intro v9 hv9; (try simp (disch := omega) only [ab_tI, ab_c0, wd_ix12, wd_ix8, wd_ix10, wd_up_self, wd_up_eq, wd_up_ne, Int.toNat_natCast, Int.toNat_of_nonneg, not_true_eq_false, not_false_eq_true, Option.some.injEq] at hv9); subst hv9))
    | (apply i_aalN; (focus (exact rfl)); (focus (exact (by first | exact ⟨by decide, by decide⟩ | ((try simp (disch := omega) only [ab_tI, ab_c0, wd_ix12, wd_ix8, wd_ix10, wd_up_self, wd_up_eq, wd_up_ne, Int.toNat_natCast, Int.toNat_of_nonneg, not_true_eq_false, not_false_eq_true, Option.some.injEq, ab_c0]); omega)))); (intro v9 hv9; (try simp (disch := omega) only [ab_tI, ab_c0, wd_ix12, wd_ix8, wd_ix10, wd_up_self, wd_up_eq, wd_up_ne, Int.toNat_natCast, Int.toNat_of_nonneg, not_true_eq_false, not_false_eq_true, Option.some.injEq] at hv9); subst hv9))
    | (apply w_iasI; (focus (exact rfl)); (focus (exact rfl)); (focus (exact (by first | exact ⟨by decide, by decide⟩ | ((try simp (disch := omega) only [ab_tI, ab_c0, wd_ix12, wd_ix8, wd_ix10, wd_up_self, wd_up_eq, wd_up_ne, Int.toNat_natCast, Int.toNat_of_nonneg, not_true_eq_false, not_false_eq_true, Option.some.injEq, ab_c0]); omega)))); (focus (intro _; exact rfl)); (intro v9 hv9; (try simp (disch := omega) only [ab_tI, ab_c0, wd_ix12, wd_ix8, wd_ix10, wd_up_self, wd_up_eq, wd_up_ne, Int.toNat_natCast, Int.toNat_of_nonneg, not_true_eq_false, not_false_eq_true, Option.some.injEq] at hv9); subst hv9))
    | (refine And.intro trivial ?_)
    | (refine And.intro (Or.inl rfl) ?_)
    | (refine And.intro (Or.inr rfl) ?_)
    | (refine And.intro (by ((try simp (disch := omega) only [ab_tI, ab_c0, wd_ix12, wd_ix8, wd_ix10, wd_up_self, wd_up_eq, wd_up_ne, Int.toNat_natCast, Int.toNat_of_nonneg, not_true_eq_false, not_false_eq_true, Option.some.injEq]); omega)) ?_)
    | fail)
      all_goals first | exact hn | (exfalso; omega)
    · have hy := hy (by omega)
      have hrw := fun (Q : ab_Q) hq => y_rwhole (d := d - 1) (P := P) (M := M) (g := g) (k := k) (z := z) (Q := Q) (by omega) h125 ht hr (fun _ => hq) (fun q => absurd q hf)
      generalize r_who I = R at *
      generalize r_len I = n at *
      obtain ⟨w1, w2, -, -⟩ := c_mkr_wf (g := g) (I := R) h125 h8
      have h3 : ∀ (I' : wd_I) (P' : wd_P) (kk z' : Nat), (wd I' P' M (c_mkr g k n R), kk, z').1 k = c_pth (k + 1) (k + 1 + 1) := fun I' P' kk z' => (wd_g (wd_mut_new h125)).trans (ab_up_self _ _ _)
      have hsz : ∀ (I' : wd_I) (P' : wd_P) (z' : Nat) (Q : ab_Q), Q (some (.inl (ab_ii (n : Int)))) (wd I' P' M (c_mkr g k n R), k + 1 + 1 + 1, z') → ab_CT (d - 1) 46 [wd_v k] (wd I' P' M (c_mkr g k n R), k + 1 + 1 + 1, z') Q := fun I' P' z' Q hq => y_psize (by omega) w1 (by rw [w2]; exact hq)
      generalize c_mkr g k n R = gj at *
      clear hn hbad w1 w2
      refine wd_inC rfl (by omega) rfl ?_
      intro C9 X9 hC9 hX9
      repeat' ((conv => whnf); first
    | (apply i_getN; (focus (first | exact h3 _ _ _ _)); (focus (exact rfl)); (intro v9 hv9; (try simp (disch := omega) only [ab_tI, ab_c0, wd_ix12, wd_ix8, wd_ix10, wd_up_self, wd_up_eq, wd_up_ne, Int.toNat_natCast, Int.toNat_of_nonneg, not_true_eq_false, not_false_eq_true, Option.some.injEq] at hv9); subst hv9))
    | (apply i_cv; (focus (first | exact h3 _ _ _ _)))
    | (apply i_len; (focus (first | exact congrArg ab_len (h3 _ _ _ _))))
    | (apply i_ialN; (focus (first | exact h3 _ _ _ _)); (focus (first | exact Or.inl rfl | exact Or.inr rfl)); (focus (exact (by first | exact ⟨by decide, by decide⟩ | ((try simp (disch := omega) only [ab_tI, ab_c0, wd_ix12, wd_ix8, wd_ix10, wd_up_self, wd_up_eq, wd_up_ne, Int.toNat_natCast, Int.toNat_of_nonneg, not_true_eq_false, not_false_eq_true, Option.some.injEq, ab_c0]); omega)))); (intro v9 hv9; (try simp (disch := omega) only [ab_tI, ab_c0, wd_ix12, wd_ix8, wd_ix10, wd_up_self, wd_up_eq, wd_up_ne, Int.toNat_natCast, Int.toNat_of_nonneg, not_true_eq_false, not_false_eq_true, Option.some.injEq] at hv9); subst hv9))
    | (apply i_aalN; (focus (first | exact h3 _ _ _ _)); (focus (exact (by first | exact ⟨by decide, by decide⟩ | ((try simp (disch := omega) only [ab_tI, ab_c0, wd_ix12, wd_ix8, wd_ix10, wd_up_self, wd_up_eq, wd_up_ne, Int.toNat_natCast, Int.toNat_of_nonneg, not_true_eq_false, not_false_eq_true, Option.some.injEq, ab_c0]); omega)))); (intro v9 hv9; (try simp (disch := omega) only [ab_tI, ab_c0, wd_ix12, wd_ix8, wd_ix10, wd_up_self, wd_up_eq, wd_up_ne, Int.toNat_natCast, Int.toNat_of_nonneg, not_true_eq_false, not_false_eq_true, Option.some.injEq] at hv9); subst hv9))
    | (refine hC9 124 _ _ _ (y_isPath (by omega) (fun _ _ => ?_) (fun q => by exfalso; omega)))
    | (refine hC9 54 _ _ _ (hrw _ ?_))
    | (refine hC9 75 _ _ _ (y_tfault (by omega) ?_))
    | (refine hC9 72 _ _ _ (y_tclear (by omega) ?_))
    | (refine hC9 46 _ _ _ (hsz _ _ _ _ ?_))
    | (apply w_aasP; (focus (exact rfl)); (focus (exact rfl)); (focus (exact ⟨by omega, by omega⟩)); (focus (intro _; exact rfl)); (focus (intro v9 hv9; cases hv9; exact i_ex (h3 _ _ _ _))); (intro e9 he9; subst he9))
    | (intro v9 hv9; (try simp (disch := omega) only [ab_tI, ab_c0, wd_ix12, wd_ix8, wd_ix10, wd_up_self, wd_up_eq, wd_up_ne, Int.toNat_natCast, Int.toNat_of_nonneg, not_true_eq_false, not_false_eq_true, Option.some.injEq] at hv9); subst hv9)
    | (apply i_get; (focus (exact rfl)); (focus (exact rfl)))
    | (refine hX9 _ _ _ _ (wd_rnC rfl ?_); clear hC9 hX9 X9 C9; intro C9 X9 hC9 hX9)
    | (refine i_brF (by decide) ?_)
    | (refine i_brT (by decide) ?_)
    | (refine ⟨fun hc => ?_, fun hc => ?_⟩ <;> (try simp (disch := omega) only [ab_tI, ab_c0, wd_ix12, wd_ix8, wd_ix10, wd_up_self, wd_up_eq, wd_up_ne, Int.toNat_natCast, Int.toNat_of_nonneg, not_true_eq_false, not_false_eq_true, Option.some.injEq] at hc) <;> first | (exfalso; omega) | skip)
    | (apply i_cv; (focus (exact rfl)))
    | (apply i_len; (focus (exact rfl)))
    | (apply w_putI; (focus (exact rfl)); (focus (exact rfl)); (focus (exact rfl)); (focus (first | exact trivial | exact Or.inl rfl | exact Or.inr rfl)); (focus (exact rfl)))
    | (apply w_putP; (focus (exact rfl)); (focus (exact rfl)); (focus (exact rfl)); (focus (exact trivial)); (focus (exact rfl)))
    | (apply i_ialN; (focus (exact rfl)); (focus (first | exact Or.inl rfl | exact Or.inr rfl)); (focus (exact (by first | exact ⟨by decide, by decide⟩ | ((try simp (disch := omega) only [ab_tI, ab_c0, wd_ix12, wd_ix8, wd_ix10, wd_up_self, wd_up_eq, wd_up_ne, Int.toNat_natCast, Int.toNat_of_nonneg, not_true_eq_false, not_false_eq_true, Option.some.injEq, ab_c0]); omega)))); (intro v9 hv9; (try simp (disch := omega) only [ab_tI, ab_c0, wd_ix12, wd_ix8, wd_ix10, wd_up_self, wd_up_eq, wd_up_ne, Int.toNat_natCast, Int.toNat_of_nonneg, not_true_eq_false, not_false_eq_true, Option.some.injEq] at hv9); subst hv9))
    | (apply i_aalN; (focus (exact rfl)); (focus (exact (by first | exact ⟨by decide, by decide⟩ | ((try simp (disch := omega) only [ab_tI, ab_c0, wd_ix12, wd_ix8, wd_ix10, wd_up_self, wd_up_eq, wd_up_ne, Int.toNat_natCast, Int.toNat_of_nonneg, not_true_eq_false, not_false_eq_true, Option.some.injEq, ab_c0]); omega)))); (intro v9 hv9; (try simp (disch := omega) only [ab_tI, ab_c0, wd_ix12, wd_ix8, wd_ix10, wd_up_self, wd_up_eq, wd_up_ne, Int.toNat_natCast, Int.toNat_of_nonneg, not_true_eq_false, not_false_eq_true, Option.some.injEq] at hv9); subst hv9))
    | (apply w_iasI; (focus (exact rfl)); (focus (exact rfl)); (focus (exact (by first | exact ⟨by decide, by decide⟩ | ((try simp (disch := omega) only [ab_tI, ab_c0, wd_ix12, wd_ix8, wd_ix10, wd_up_self, wd_up_eq, wd_up_ne, Int.toNat_natCast, Int.toNat_of_nonneg, not_true_eq_false, not_false_eq_true, Option.some.injEq, ab_c0]); omega)))); (focus (intro _; exact rfl)); (intro v9 hv9; (try simp (disch := omega) only [ab_tI, ab_c0, wd_ix12, wd_ix8, wd_ix10, wd_up_self, wd_up_eq, wd_up_ne, Int.toNat_natCast, Int.toNat_of_nonneg, not_true_eq_false, not_false_eq_true, Option.some.injEq] at hv9); subst hv9))
    | (refine And.intro trivial ?_)
    | (refine And.intro (Or.inl rfl) ?_)
    | (refine And.intro (Or.inr rfl) ?_)
    | (refine And.intro (by ((try simp (disch := omega) only [ab_tI, ab_c0, wd_ix12, wd_ix8, wd_ix10, wd_up_self, wd_up_eq, wd_up_ne, Int.toNat_natCast, Int.toNat_of_nonneg, not_true_eq_false, not_false_eq_true, Option.some.injEq]); omega)) ?_)
    | fail)
      all_goals first | exact hy | (exfalso; omega)
  · have hbad := hbad hs
    have hs2 : p.toInt < 0 ∨ 8 ≤ p.toInt := by unfold c_pp at hs; omega
    refine wd_inC rfl (by omega) rfl ?_
    intro C9 X9 hC9 hX9
    repeat' ((conv => whnf); first
    | (refine hC9 124 _ _ _ (y_isPath (by omega) (fun q1 q2 => by exfalso; omega) (fun _ => ?_)))
    | (intro v9 hv9; (try simp (disch := omega) only [ab_tI, ab_c0, wd_ix12, wd_ix8, wd_ix10, wd_up_self, wd_up_eq, wd_up_ne, Int.toNat_natCast, Int.toNat_of_nonneg, not_true_eq_false, not_false_eq_true, Option.some.injEq] at hv9); subst hv9)
    | (apply i_get; (focus (exact rfl)); (focus (exact rfl)))
    | (refine hX9 _ _ _ _ (wd_rnC rfl ?_); clear hC9 hX9 X9 C9; intro C9 X9 hC9 hX9)
    | (refine i_brF (by decide) ?_)
    | (refine i_brT (by decide) ?_)
    | (refine ⟨fun hc => ?_, fun hc => ?_⟩ <;> (try simp (disch := omega) only [ab_tI, ab_c0, wd_ix12, wd_ix8, wd_ix10, wd_up_self, wd_up_eq, wd_up_ne, Int.toNat_natCast, Int.toNat_of_nonneg, not_true_eq_false, not_false_eq_true, Option.some.injEq] at hc) <;> first | (exfalso; omega) | skip)
    | (apply i_cv; (focus (exact rfl)))
    | (apply i_len; (focus (exact rfl)))
    | (apply w_putI; (focus (exact rfl)); (focus (exact rfl)); (focus (exact rfl)); (focus (first | exact trivial | exact Or.inl rfl | exact Or.inr rfl)); (focus (exact rfl)))
    | (apply w_putP; (focus (exact rfl)); (focus (exact rfl)); (focus (exact rfl)); (focus (exact trivial)); (focus (exact rfl)))
    | (apply i_ialN; (focus (exact rfl)); (focus (first | exact Or.inl rfl | exact Or.inr rfl)); (focus (exact (by first | exact ⟨by decide, by decide⟩ | ((try simp (disch := omega) only [ab_tI, ab_c0, wd_ix12, wd_ix8, wd_ix10, wd_up_self, wd_up_eq, wd_up_ne, Int.toNat_natCast, Int.toNat_of_nonneg, not_true_eq_false, not_false_eq_true, Option.some.injEq, ab_c0]); omega)))); (intro v9 hv9; (try simp (disch := omega) only [ab_tI, ab_c0, wd_ix12, wd_ix8, wd_ix10, wd_up_self, wd_up_eq, wd_up_ne, Int.toNat_natCast, Int.toNat_of_nonneg, not_true_eq_false, not_false_eq_true, Option.some.injEq] at hv9); subst hv9))
    | (apply i_aalN; (focus (exact rfl)); (focus (exact (by first | exact ⟨by decide, by decide⟩ | ((try simp (disch := omega) only [ab_tI, ab_c0, wd_ix12, wd_ix8, wd_ix10, wd_up_self, wd_up_eq, wd_up_ne, Int.toNat_natCast, Int.toNat_of_nonneg, not_true_eq_false, not_false_eq_true, Option.some.injEq, ab_c0]); omega)))); (intro v9 hv9; (try simp (disch := omega) only [ab_tI, ab_c0, wd_ix12, wd_ix8, wd_ix10, wd_up_self, wd_up_eq, wd_up_ne, Int.toNat_natCast, Int.toNat_of_nonneg, not_true_eq_false, not_false_eq_true, Option.some.injEq] at hv9); subst hv9))
    | (apply w_iasI; (focus (exact rfl)); (focus (exact rfl)); (focus (exact (by first | exact ⟨by decide, by decide⟩ | ((try simp (disch := omega) only [ab_tI, ab_c0, wd_ix12, wd_ix8, wd_ix10, wd_up_self, wd_up_eq, wd_up_ne, Int.toNat_natCast, Int.toNat_of_nonneg, not_true_eq_false, not_false_eq_true, Option.some.injEq, ab_c0]); omega)))); (focus (intro _; exact rfl)); (intro v9 hv9; (try simp (disch := omega) only [ab_tI, ab_c0, wd_ix12, wd_ix8, wd_ix10, wd_up_self, wd_up_eq, wd_up_ne, Int.toNat_natCast, Int.toNat_of_nonneg, not_true_eq_false, not_false_eq_true, Option.some.injEq] at hv9); subst hv9))
    | (refine And.intro trivial ?_)
    | (refine And.intro (Or.inl rfl) ?_)
    | (refine And.intro (Or.inr rfl) ?_)
    | (refine And.intro (by ((try simp (disch := omega) only [ab_tI, ab_c0, wd_ix12, wd_ix8, wd_ix10, wd_up_self, wd_up_eq, wd_up_ne, Int.toNat_natCast, Int.toNat_of_nonneg, not_true_eq_false, not_false_eq_true, Option.some.injEq]); omega)) ?_)
    | fail)
    all_goals first | exact hbad | (exfalso; omega)
end
