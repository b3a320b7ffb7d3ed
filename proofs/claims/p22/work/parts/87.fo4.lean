/-! ===== the class: a focus paired, tagged, alone, given (own text) ===== -/
section
variable {d : Nat} {I : wd_I} {P : wd_P} {M : wd_I} {g : Nat → ab_C} {k kw z : Nat} {Q : ab_Q} {T : Nat → Prop}
theorem c_mkg4 {A : ab_C} {v : Int32} {fp : Nat → Option Nat} : c_mkg (ab_up (ab_up g k A) (k + 1) (ab_ra 4 0 (fun _ => none))) (k + 1 + 1) (ab_ii 0) v (k + 1) 0 fp = ab_up (ab_up (ab_up (ab_up g (k + 1) (ab_ra 4 0 (fun _ => none))) (k + 1 + 1 + 1) (ab_ia 0 0 (fun _ => 0))) (k + 1 + 1) (c_num v (k + 1 + 1 + 1) (k + 1))) k A := by
  unfold c_mkg
  rw [c_num_new, ab_up_cm (x := k) (y := k + 1) (by omega), ab_up_cm (x := k) (y := k + 1 + 1 + 1) (by omega), ab_up_cm (x := k) (y := k + 1 + 1) (by omega)]
theorem c_g4y_W (hW : c_W T g kw) (hkw : kw ≤ k) (h125 : 125 ≤ kw) {a : Nat} {v : Int32} : c_W (fun b => T b ∨ b = k + 1 + 1) (c_g4y g k a v) (k + 1 + 1 + 2) := by
  have e : c_g4y g k a v = ab_up (ab_up (ab_up (ab_up g k (ab_ra 4 2 (c_two a (some (k + 1 + 1))))) (k + 1) (ab_ra 4 0 (fun _ => none))) (k + 1 + 1 + 1) (ab_ia 0 0 (fun _ => 0))) (k + 1 + 1) (c_num v (k + 1 + 1 + 1) (k + 1)) := by
    unfold c_g4y
    rw [ab_up_cm (x := k) (y := k + 1) (by omega), ab_up_cm (x := k) (y := k + 1 + 1 + 1) (by omega), ab_up_cm (x := k) (y := k + 1 + 1) (by omega)]
  rw [e]
  have hW3 : c_W T (ab_up (ab_up (ab_up g k (ab_ra 4 2 (c_two a (some (k + 1 + 1))))) (k + 1) (ab_ra 4 0 (fun _ => none))) (k + 1 + 1 + 1) (ab_ia 0 0 (fun _ => 0))) kw := c_W_up (c_W_up (c_W_up hW (by omega) (Nat.le_refl _)) (by omega) (Nat.le_refl _)) (by omega) (Nat.le_refl _)
  refine c_W_new (nk := 0) (np := 0) (fk := fun _ => 0) (fp := fun _ => none) hW3 (by omega) (by omega) (wd_mut_new (by omega)) ⟨⟨wd_mut_new (by omega), by omega⟩, ab_up_self _ _ _, by omega⟩ ⟨⟨wd_mut_new (by omega), by omega⟩, ?_, by omega⟩ ⟨by omega, by omega⟩ (fun j hj => absurd hj (Nat.not_lt_zero _))
  rw [ab_up_ne _ _ (by omega), ab_up_self]
theorem c_g4n_W (hW : c_W T g kw) (hkw : kw ≤ k) {a : Nat} : c_W T (c_g4n g k a) kw := by
  unfold c_g4n
  exact c_W_up (c_W_up hW (by omega) (Nat.le_refl _)) (by omega) (Nat.le_refl _)
theorem c_two_T {T : Nat → Prop} {a b : Nat} (ha : T a) (hb : T b) : c_rT T 2 (c_two a (some b)) := fun j hj => by
  unfold c_two
  by_cases e : j = 1
  · subst e; exact ⟨b, ab_up_self _ _ _, hb⟩
  · rw [ab_up_ne _ _ e, show j = 0 by omega, ab_up_self]; exact ⟨a, rfl, ha⟩
set_option maxHeartbeats 4000000 in
set_option maxRecDepth 100000 in
theorem y_focus_4 (hd : 48 ≤ d) (hW : c_W T g kw) (hkw : kw ≤ k) (h125 : 125 ≤ kw) {a gv : Nat} (ha : T a) (h0 : 0 ≤ (I 9 0).toInt ∧ (I 9 0).toInt ≤ 3000) (hsp : (I 10 6).toInt = 0) (hhow : (I 10 2).toInt = 4) (hr : k + 6 ≤ 600000 ∧ z + 20 ≤ 5000000) (hQ : Q (some (wd_v (c_foc gv (I, g, k, z) a).1)) (c_S P M (c_foc gv (I, g, k, z) a).2)) : ab_CT d 4 [wd_v 10, wd_v a] (wd I P M g, k, z) Q := by
  have hak : a < kw := (hW a ha).1.2
  have e90 : c_fI I 9 0 = I 9 0 := wd_up_ne _ _ (by omega)
  have e102 : c_fI I 10 2 = I 10 2 := wd_up_ne _ _ (by omega)
  have e103 : c_fI I 10 3 = I 10 3 := wd_up_ne _ _ (by omega)
  have e106 : c_fI I 10 6 = I 10 6 := wd_up_ne _ _ (by omega)
  have eF : wd_up I 10 5 (ab_ii ((I 10 5).toInt + 1)) = c_fI I := rfl
  unfold c_foc at hQ
  dsimp only at hQ
  rw [if_neg (by omega), if_pos hhow] at hQ
  have h3 := fun (I' : wd_I) (c : ab_C) (kk z' : Nat) => c_W_x (I := I') (P := P) (M := M) (kk := kk) (z := z') (x := k) (c := c) hW ha (by omega)
  have hW2 : c_W T (ab_up (ab_up g k (ab_ra 4 2 (ab_up (fun _ => none) 0 (some a)))) (k + 1) (ab_ra 4 0 (fun _ => none))) kw := c_W_up (c_W_up hW (by omega) (Nat.le_refl _)) (by omega) (Nat.le_refl _)
  have hmk := fun (Q : ab_Q) hy hn => y_make (d := d - 1) (I := c_fI I) (P := P) (M := M) (Q := Q) (k := k + 1 + 1) (z := z + 2 + 0) (by omega) hW2 (by omega) h125 (kd := ab_ii 0) (wo := I 10 3) (pa := k + 1) (np := 0) (r := a) (fp := fun _ => none) ⟨wd_mut_new (by omega), ab_up_self _ _ _⟩ (by omega) (by omega) (fun j hj => absurd hj (Nat.not_lt_zero _)) (by rw [e90]; exact h0) ⟨by omega, by omega⟩ hy hn (fun q => absurd (by rw [e106]; exact hsp) q)
  rw [e90, e106] at hmk
  by_cases hlt : (I 9 0).toInt < 3000
  · rw [if_pos hlt] at hQ
    have hmk2 : ∀ Q' : ab_Q, Q' (some (wd_v (k + 1 + 1))) (wd (c_I1 (c_fI I)) P M (ab_up (ab_up (ab_up (ab_up g (k + 1) (ab_ra 4 0 (fun _ => none))) (k + 1 + 1 + 1) (ab_ia 0 0 (fun _ => 0))) (k + 1 + 1) (c_num (I 10 3) (k + 1 + 1 + 1) (k + 1))) k (ab_ra 4 2 (ab_up (fun _ => none) 0 (some a)))), k + 1 + 1 + 2, z + 2 + 0 + 6) → ab_CT (d - 1) 7 [wd_v 10, .inl (ab_ii 0), .inl (I 10 3), wd_v (k + 1), wd_v a] (wd (c_fI I) P M (ab_up (ab_up g k (ab_ra 4 2 (ab_up (fun _ => none) 0 (some a)))) (k + 1) (ab_ra 4 0 (fun _ => none))), k + 1 + 1, z + 2 + 0) Q' := fun Q' hq => hmk Q' (fun _ _ => by rw [c_mkg4]; exact hq) (fun _ q => by omega)
    have hu9 : (c_I1 (c_fI I) 9 0).toInt = (I 9 0).toInt + 1 := by unfold c_I1; rw [wd_up_self, e90, ab_tI (by omega) (by omega)]
    have hx4 : ∀ (I' : wd_I) (c : ab_C) (kk z' : Nat), (wd I' P M (ab_up (ab_up (ab_up (ab_up g (k + 1) (ab_ra 4 0 (fun _ => none))) (k + 1 + 1 + 1) (ab_ia 0 0 (fun _ => 0))) (k + 1 + 1) (c_num (I 10 3) (k + 1 + 1 + 1) (k + 1))) k c), kk, z').1 (k + 1 + 1) = c_num (I 10 3) (k + 1 + 1 + 1) (k + 1) := fun I' c kk z' => (wd_upN (wd_mut_new (by omega)) (by omega)).trans (ab_up_self _ _ _)
    have hpair := fun (Q : ab_Q) hq => y_mkN (d := d - 1) (I := c_I1 (c_fI I)) (P := P) (M := M) (g := c_g4y g k a (I 10 3)) (k := k + 1 + 1 + 2) (z := z + 2 + 0 + 6) (Q := Q) (by omega) (c_g4y_W (a := a) (v := I 10 3) hW hkw h125) (Nat.le_refl _) (by omega) (kd := ab_ii 1) (wo := ab_ii 0) (pa := k) (np := 2) (r := a) (fp := c_two a (some (k + 1 + 1))) ⟨wd_mut_new (by omega), ab_up_self _ _ _⟩ (by omega) (by omega) (c_two_T (Or.inl ha) (Or.inr rfl)) (by omega) ⟨by omega, by omega⟩ hq
    have eG : ab_up (ab_up (ab_up (ab_up g (k + 1) (ab_ra 4 0 (fun _ => none))) (k + 1 + 1 + 1) (ab_ia 0 0 (fun _ => 0))) (k + 1 + 1) (c_num (I 10 3) (k + 1 + 1 + 1) (k + 1))) k (ab_ra 4 2 (ab_up (ab_up (fun _ => none) 0 (some a)) 1 (some (k + 1 + 1)))) = c_g4y g k a (I 10 3) := rfl
    clear hmk
    refine wd_inC rfl (by omega) rfl ?_
    intro C9 X9 hC9 hX9
    repeat' ((conv => whnf); first
    | (apply w_newR (n := 2); (focus (rfl)); (focus (exact ⟨by omega, by omega⟩)); (focus (omega)); (dsimp only))
    | (apply w_newR (n := 0); (focus (rfl)); (focus (exact ⟨by omega, by omega⟩)); (focus (omega)); (dsimp only))
    | (rw [eF]; refine hC9 _ _ _ _ (hmk2 _ ?_))
    | (exact hC9 _ _ _ _ (hpair _ hQ))
    | (apply w_aasG (wd_mut_new (by omega)); (focus (first | exact ⟨by decide, by decide⟩ | ((try simp (disch := omega) only [ab_tI, ab_c0, wd_ix12, wd_ix8, wd_ix10, wd_up_self, wd_up_eq, wd_up_ne, Int.toNat_natCast, Int.toNat_of_nonneg, not_true_eq_false, not_false_eq_true, Option.some.injEq]); omega))); (focus (intro v9 hv9; cases hv9; first | exact i_ex (h3 _ _ _ _) | exact i_ex (hx4 _ _ _ _))); (intro e9 he9; (try simp (disch := omega) only [ab_tI, ab_c0, wd_ix12, wd_ix8, wd_ix10, wd_up_self, wd_up_eq, wd_up_ne, Int.toNat_natCast, Int.toNat_of_nonneg, not_true_eq_false, not_false_eq_true, Option.some.injEq] at he9); subst he9))
    | (apply i_getN; (focus (exact rfl)); (focus (exact rfl)); (intro v9 hv9; (try simp (disch := omega) only [ab_tI, ab_c0, wd_ix12, wd_ix8, wd_ix10, wd_up_self, wd_up_eq, wd_up_ne, Int.toNat_natCast, Int.toNat_of_nonneg, not_true_eq_false, not_false_eq_true, Option.some.injEq, e102, e103] at hv9); subst hv9))
    | (intro v9 hv9; (try simp (disch := omega) only [ab_tI, ab_c0, wd_ix12, wd_ix8, wd_ix10, wd_up_self, wd_up_eq, wd_up_ne, Int.toNat_natCast, Int.toNat_of_nonneg, not_true_eq_false, not_false_eq_true, Option.some.injEq, e102, e103] at hv9); subst hv9)
    | (apply i_get; (focus (exact rfl)); (focus (exact rfl)))
    | (refine hX9 _ _ _ _ (wd_rnC rfl ?_); clear hC9 hX9 X9 C9; intro C9 X9 hC9 hX9)
    | (refine i_brF (by decide) ?_)
    | (refine i_brT (by decide) ?_)
    | (refine ⟨fun hc => ?_, fun hc => ?_⟩ <;> (try simp (disch := omega) only [ab_tI, ab_c0, wd_ix12, wd_ix8, wd_ix10, wd_up_self, wd_up_eq, wd_up_ne, Int.toNat_natCast, Int.toNat_of_nonneg, not_true_eq_false, not_false_eq_true, Option.some.injEq, e102, e103] at hc) <;> first | (exfalso; omega) | skip)
    | (apply i_cv; (focus (exact rfl)))
    | (apply i_len; (focus (exact rfl)))
    | (apply w_putI; (focus (exact rfl)); (focus (exact rfl)); (focus (exact rfl)); (focus (first | exact trivial | exact Or.inl rfl | exact Or.inr rfl)); (focus (exact rfl)))
    | (apply w_putP; (focus (exact rfl)); (focus (exact rfl)); (focus (exact rfl)); (focus (exact trivial)); (focus (exact rfl)))
    | (apply i_ialN; (focus (exact rfl)); (focus (first | exact Or.inl rfl | exact Or.inr rfl)); (focus (exact (by first | exact ⟨by decide, by decide⟩ | ((try simp (disch := omega) only [ab_tI, ab_c0, wd_ix12, wd_ix8, wd_ix10, wd_up_self, wd_up_eq, wd_up_ne, Int.toNat_natCast, Int.toNat_of_nonneg, not_true_eq_false, not_false_eq_true, Option.some.injEq, e102, e103, ab_c0]); omega)))); (intro v9 hv9; (try simp (disch := omega) only [ab_tI, ab_c0, wd_ix12, wd_ix8, wd_ix10, wd_up_self, wd_up_eq, wd_up_ne, Int.toNat_natCast, Int.toNat_of_nonneg, not_true_eq_false, not_false_eq_true, Option.some.injEq, e102, e103] at hv9); subst hv9))
    | (apply i_aalN; (focus (exact rfl)); (focus (exact (by first | exact ⟨by decide, by decide⟩ | ((try simp (disch := omega) only [ab_tI, ab_c0, wd_ix12, wd_ix8, wd_ix10, wd_up_self, wd_up_eq, wd_up_ne, Int.toNat_natCast, Int.toNat_of_nonneg, not_true_eq_false, not_false_eq_true, Option.some.injEq, e102, e103, ab_c0]); omega)))); (intro v9 hv9; (try simp (disch := omega) only [ab_tI, ab_c0, wd_ix12, wd_ix8, wd_ix10, wd_up_self, wd_up_eq, wd_up_ne, Int.toNat_natCast, Int.toNat_of_nonneg, not_true_eq_false, not_false_eq_true, Option.some.injEq, e102, e103] at hv9); subst hv9))
    | (apply w_iasI; (focus (exact rfl)); (focus (exact rfl)); (focus (exact (by first | exact ⟨by decide, by decide⟩ | ((try simp (disch := omega) only [ab_tI, ab_c0, wd_ix12, wd_ix8, wd_ix10, wd_up_self, wd_up_eq, wd_up_ne, Int.toNat_natCast, Int.toNat_of_nonneg, not_true_eq_false, not_false_eq_true, Option.some.injEq, e102, e103, ab_c0]); omega)))); (focus (intro _; exact rfl)); (intro v9 hv9; (try simp (disch := omega) only [ab_tI, ab_c0, wd_ix12, wd_ix8, wd_ix10, wd_up_self, wd_up_eq, wd_up_ne, Int.toNat_natCast, Int.toNat_of_nonneg, not_true_eq_false, not_false_eq_true, Option.some.injEq, e102, e103] at hv9); subst hv9))
    | (refine And.intro trivial ?_)
    | (refine And.intro (Or.inl rfl) ?_)
    | (refine And.intro (Or.inr rfl) ?_)
    | (refine And.intro (by ((try simp (disch := omega) only [ab_tI, ab_c0, wd_ix12, wd_ix8, wd_ix10, wd_up_self, wd_up_eq, wd_up_ne, Int.toNat_natCast, Int.toNat_of_nonneg, not_true_eq_false, not_false_eq_true, Option.some.injEq, e102, e103]); omega)) ?_)
    | fail)
    all_goals (exfalso; omega)
  · rw [if_neg hlt] at hQ
    have hmk2 : ∀ Q' : ab_Q, Q' (some (wd_v a)) (wd (c_I0 (c_fI I)) P M (ab_up (ab_up g (k + 1) (ab_ra 4 0 (fun _ => none))) k (ab_ra 4 2 (ab_up (fun _ => none) 0 (some a)))), k + 1 + 1, z + 2 + 0) → ab_CT (d - 1) 7 [wd_v 10, .inl (ab_ii 0), .inl (I 10 3), wd_v (k + 1), wd_v a] (wd (c_fI I) P M (ab_up (ab_up g k (ab_ra 4 2 (ab_up (fun _ => none) 0 (some a)))) (k + 1) (ab_ra 4 0 (fun _ => none))), k + 1 + 1, z + 2 + 0) Q' := fun Q' hq => hmk Q' (fun _ q => by omega) (fun _ _ => by rw [ab_up_cm (x := k) (y := k + 1) (by omega)]; exact hq)
    have hu9 : (c_I0 (c_fI I) 9 0).toInt = (I 9 0).toInt := by unfold c_I0; rw [wd_up_ne _ _ (by omega), e90]
    have hW1 : c_W T (ab_up g (k + 1) (ab_ra 4 0 (fun _ => none))) kw := c_W_up hW (by omega) (Nat.le_refl _)
    have h4 := fun (I' : wd_I) (c : ab_C) (kk z' : Nat) => c_W_x (I := I') (P := P) (M := M) (kk := kk) (z := z') (x := k) (c := c) hW1 ha (by omega)
    have hpair := fun (Q : ab_Q) hq => y_mkN (d := d - 1) (I := c_I0 (c_fI I)) (P := P) (M := M) (g := c_g4n g k a) (k := k + 1 + 1) (z := z + 2 + 0) (Q := Q) (by omega) (c_g4n_W (a := a) hW hkw) (by omega) h125 (kd := ab_ii 1) (wo := ab_ii 0) (pa := k) (np := 2) (r := a) (fp := c_two a (some a)) ⟨wd_mut_new (by omega), ab_up_self _ _ _⟩ (by omega) (by omega) (c_two_T ha ha) (by omega) ⟨by omega, by omega⟩ hq
    have eG : ab_up (ab_up g (k + 1) (ab_ra 4 0 (fun _ => none))) k (ab_ra 4 2 (ab_up (ab_up (fun _ => none) 0 (some a)) 1 (some a))) = c_g4n g k a := rfl
    clear hmk
    refine wd_inC rfl (by omega) rfl ?_
    intro C9 X9 hC9 hX9
    repeat' ((conv => whnf); first
    | (apply w_newR (n := 2); (focus (rfl)); (focus (exact ⟨by omega, by omega⟩)); (focus (omega)); (dsimp only))
    | (apply w_newR (n := 0); (focus (rfl)); (focus (exact ⟨by omega, by omega⟩)); (focus (omega)); (dsimp only))
    | (rw [eF]; refine hC9 _ _ _ _ (hmk2 _ ?_))
    | (exact hC9 _ _ _ _ (hpair _ hQ))
    | (apply w_aasG (wd_mut_new (by omega)); (focus (first | exact ⟨by decide, by decide⟩ | ((try simp (disch := omega) only [ab_tI, ab_c0, wd_ix12, wd_ix8, wd_ix10, wd_up_self, wd_up_eq, wd_up_ne, Int.toNat_natCast, Int.toNat_of_nonneg, not_true_eq_false, not_false_eq_true, Option.some.injEq]); omega))); (focus (intro v9 hv9; cases hv9; first | exact i_ex (h3 _ _ _ _) | exact i_ex (h4 _ _ _ _))); (intro e9 he9; (try simp (disch := omega) only [ab_tI, ab_c0, wd_ix12, wd_ix8, wd_ix10, wd_up_self, wd_up_eq, wd_up_ne, Int.toNat_natCast, Int.toNat_of_nonneg, not_true_eq_false, not_false_eq_true, Option.some.injEq] at he9); subst he9))
    | (apply i_getN; (focus (exact rfl)); (focus (exact rfl)); (intro v9 hv9; (try simp (disch := omega) only [ab_tI, ab_c0, wd_ix12, wd_ix8, wd_ix10, wd_up_self, wd_up_eq, wd_up_ne, Int.toNat_natCast, Int.toNat_of_nonneg, not_true_eq_false, not_false_eq_true, Option.some.injEq, e102, e103] at hv9); subst hv9))
    | (intro v9 hv9; (try simp (disch := omega) only [ab_tI, ab_c0, wd_ix12, wd_ix8, wd_ix10, wd_up_self, wd_up_eq, wd_up_ne, Int.toNat_natCast, Int.toNat_of_nonneg, not_true_eq_false, not_false_eq_true, Option.some.injEq, e102, e103] at hv9); subst hv9)
    | (apply i_get; (focus (exact rfl)); (focus (exact rfl)))
    | (refine hX9 _ _ _ _ (wd_rnC rfl ?_); clear hC9 hX9 X9 C9; intro C9 X9 hC9 hX9)
    | (refine i_brF (by decide) ?_)
    | (refine i_brT (by decide) ?_)
    | (refine ⟨fun hc => ?_, fun hc => ?_⟩ <;> (try simp (disch := omega) only [ab_tI, ab_c0, wd_ix12, wd_ix8, wd_ix10, wd_up_self, wd_up_eq, wd_up_ne, Int.toNat_natCast, Int.toNat_of_nonneg, not_true_eq_false, not_false_eq_true, Option.some.injEq, e102, e103] at hc) <;> first | (exfalso; omega) | skip)
    | (apply i_cv; (focus (exact rfl)))
    | (apply i_len; (focus (exact rfl)))
    | (apply w_putI; (focus (exact rfl)); (focus (exact rfl)); (focus (exact rfl)); (focus (first | exact trivial | exact Or.inl rfl | exact Or.inr rfl)); (focus (exact rfl)))
    | (apply w_putP; (focus (exact rfl)); (focus (exact rfl)); (focus (exact rfl)); (focus (exact trivial)); (focus (exact rfl)))
    | (apply i_ialN; (focus (exact rfl)); (focus (first | exact Or.inl rfl | exact Or.inr rfl)); (focus (exact (by first | exact ⟨by decide, by decide⟩ | ((try simp (disch := omega) only [ab_tI, ab_c0, wd_ix12, wd_ix8, wd_ix10, wd_up_self, wd_up_eq, wd_up_ne, Int.toNat_natCast, Int.toNat_of_nonneg, not_true_eq_false, not_false_eq_true, Option.some.injEq, e102, e103, ab_c0]); omega)))); (intro v9 hv9; (try simp (disch := omega) only [ab_tI, ab_c0, wd_ix12, wd_ix8, wd_ix10, wd_up_self, wd_up_eq, wd_up_ne, Int.toNat_natCast, Int.toNat_of_nonneg, not_true_eq_false, not_false_eq_true, Option.some.injEq, e102, e103] at hv9); subst hv9))
    | (apply i_aalN; (focus (exact rfl)); (focus (exact (by first | exact ⟨by decide, by decide⟩ | ((try simp (disch := omega) only [ab_tI, ab_c0, wd_ix12, wd_ix8, wd_ix10, wd_up_self, wd_up_eq, wd_up_ne, Int.toNat_natCast, Int.toNat_of_nonneg, not_true_eq_false, not_false_eq_true, Option.some.injEq, e102, e103, ab_c0]); omega)))); (intro v9 hv9; (try simp (disch := omega) only [ab_tI, ab_c0, wd_ix12, wd_ix8, wd_ix10, wd_up_self, wd_up_eq, wd_up_ne, Int.toNat_natCast, Int.toNat_of_nonneg, not_true_eq_false, not_false_eq_true, Option.some.injEq, e102, e103] at hv9); subst hv9))
    | (apply w_iasI; (focus (exact rfl)); (focus (exact rfl)); (focus (exact (by first | exact ⟨by decide, by decide⟩ | ((try simp (disch := omega) only [ab_tI, ab_c0, wd_ix12, wd_ix8, wd_ix10, wd_up_self, wd_up_eq, wd_up_ne, Int.toNat_natCast, Int.toNat_of_nonneg, not_true_eq_false, not_false_eq_true, Option.some.injEq, e102, e103, ab_c0]); omega)))); (focus (intro _; exact rfl)); (intro v9 hv9; (try simp (disch := omega) only [ab_tI, ab_c0, wd_ix12, wd_ix8, wd_ix10, wd_up_self, wd_up_eq, wd_up_ne, Int.toNat_natCast, Int.toNat_of_nonneg, not_true_eq_false, not_false_eq_true, Option.some.injEq, e102, e103] at hv9); subst hv9))
    | (refine And.intro trivial ?_)
    | (refine And.intro (Or.inl rfl) ?_)
    | (refine And.intro (Or.inr rfl) ?_)
    | (refine And.intro (by ((try simp (disch := omega) only [ab_tI, ab_c0, wd_ix12, wd_ix8, wd_ix10, wd_up_self, wd_up_eq, wd_up_ne, Int.toNat_natCast, Int.toNat_of_nonneg, not_true_eq_false, not_false_eq_true, Option.some.injEq, e102, e103]); omega)) ?_)
    | fail)
    all_goals (exfalso; omega)
set_option maxHeartbeats 4000000 in
set_option maxRecDepth 100000 in
theorem y_focus_5 (hd : 48 ≤ d) (hW : c_W T g kw) (hkw : kw ≤ k) (h125 : 125 ≤ kw) {a gv : Nat} (ha : T a) (h0 : 0 ≤ (I 9 0).toInt ∧ (I 9 0).toInt ≤ 3000) (hhow : (I 10 2).toInt = 5 ∨ (I 10 2).toInt = 6 ∨ (I 10 2).toInt = 7 ∨ (8 ≤ (I 10 2).toInt ∧ (I 10 2).toInt ≤ 11)) (hgv : P 10 4 = some gv ∨ 8 ≤ (I 10 2).toInt ∨ (I 10 2).toInt ≤ 6) (hr : k + 6 ≤ 600000 ∧ z + 21 ≤ 5000000) (hQ : Q (some (wd_v (c_foc gv (I, g, k, z) a).1)) (c_S P M (c_foc gv (I, g, k, z) a).2)) : ab_CT d 4 [wd_v 10, wd_v a] (wd I P M g, k, z) Q := by
  have hak : a < kw := (hW a ha).1.2
  have e90 : c_fI I 9 0 = I 9 0 := wd_up_ne _ _ (by omega)
  have e102 : c_fI I 10 2 = I 10 2 := wd_up_ne _ _ (by omega)
  have e103 : c_fI I 10 3 = I 10 3 := wd_up_ne _ _ (by omega)
  have eF : wd_up I 10 5 (ab_ii ((I 10 5).toInt + 1)) = c_fI I := rfl
  have hWk := c_W_mono hW hkw
  have h1 := c_W_c (I := c_fI I) (P := P) (M := M) (z := z) hWk ha
  unfold c_foc at hQ
  dsimp only at hQ
  rw [if_neg (by omega), if_neg (by omega)] at hQ
  have hmk := fun (kd wo : Int32) (Q : ab_Q) hq => y_mkN (d := d - 1) (I := c_fI I) (P := P) (M := M) (g := ab_up g k (ab_ra 4 1 (ab_up (fun _ => none) 0 (some a)))) (k := k + 1) (z := z + 1) (Q := Q) (by omega) (c_W_up hW hkw (Nat.le_refl _)) (by omega) h125 (kd := kd) (wo := wo) (pa := k) (np := 1) (r := a) (fp := ab_up (fun _ => none) 0 (some a)) ⟨wd_mut_new (by omega), ab_up_self _ _ _⟩ (by omega) (by omega) (c_one_T ha) (by rw [e90]; exact h0) ⟨by omega, by omega⟩ hq
  have hjo := fun (Q : ab_Q) hq => y_justOne (d := d - 1) (I := c_fI I) (P := P) (M := M) (k := k) (z := z) (Q := Q) (by omega) hW hkw h125 ha ⟨by omega, by omega⟩ hq
  have hor := fun (Q : ab_Q) hq => y_order (d := d - 1) (I := c_fI I) (P := P) (M := M) (k := k) (z := z) (Q := Q) (by omega) hW hkw h125 ha (by rw [e90]; exact h0) ⟨by omega, by omega⟩ hq
  by_cases c5 : (I 10 2).toInt = 5
  · rw [if_pos c5] at hQ
    refine wd_inC rfl (by omega) rfl ?_
    intro C9 X9 hC9 hX9
    repeat' ((conv => whnf); first
    | (rw [eF]; refine hC9 _ _ _ _ (hjo _ ?_))
    | (exact hC9 _ _ _ _ (hmk _ _ _ hQ))
    | (apply i_getN; (focus (exact rfl)); (focus (exact rfl)); (intro v9 hv9; (try simp (disch := omega) only [ab_tI, ab_c0, wd_ix12, wd_ix8, wd_ix10, wd_up_self, wd_up_eq, wd_up_ne, Int.toNat_natCast, Int.toNat_of_nonneg, not_true_eq_false, not_false_eq_true, Option.some.injEq, e102, e103] at hv9); subst hv9))
    | (intro v9 hv9; (try simp (disch := omega) only [ab_tI, ab_c0, wd_ix12, wd_ix8, wd_ix10, wd_up_self, wd_up_eq, wd_up_ne, Int.toNat_natCast, Int.toNat_of_nonneg, not_true_eq_false, not_false_eq_true, Option.some.injEq, e102, e103] at hv9); subst hv9)
    | (apply i_get; (focus (exact rfl)); (focus (exact rfl)))
    | (refine hX9 _ _ _ _ (wd_rnC rfl ?_); clear hC9 hX9 X9 C9; intro C9 X9 hC9 hX9)
    | (refine i_brF (by decide) ?_)
    | (refine i_brT (by decide) ?_)
    | (refine ⟨fun hc => ?_, fun hc => ?_⟩ <;> (try simp (disch := omega) only [ab_tI, ab_c0, wd_ix12, wd_ix8, wd_ix10, wd_up_self, wd_up_eq, wd_up_ne, Int.toNat_natCast, Int.toNat_of_nonneg, not_true_eq_false, not_false_eq_true, Option.some.injEq, e102, e103] at hc) <;> first | (exfalso; omega) | skip)
    | (apply i_cv; (focus (exact rfl)))
    | (apply i_len; (focus (exact rfl)))
    | (apply w_putI; (focus (exact rfl)); (focus (exact rfl)); (focus (exact rfl)); (focus (first | exact trivial | exact Or.inl rfl | exact Or.inr rfl)); (focus (exact rfl)))
    | (apply w_putP; (focus (exact rfl)); (focus (exact rfl)); (focus (exact rfl)); (focus (exact trivial)); (focus (exact rfl)))
    | (apply i_ialN; (focus (exact rfl)); (focus (first | exact Or.inl rfl | exact Or.inr rfl)); (focus (exact (by first | exact ⟨by decide, by decide⟩ | ((try simp (disch := omega) only [ab_tI, ab_c0, wd_ix12, wd_ix8, wd_ix10, wd_up_self, wd_up_eq, wd_up_ne, Int.toNat_natCast, Int.toNat_of_nonneg, not_true_eq_false, not_false_eq_true, Option.some.injEq, e102, e103, ab_c0]); omega)))); (intro v9 hv9; (try simp (disch := omega) only [ab_tI, ab_c0, wd_ix12, wd_ix8, wd_ix10, wd_up_self, wd_up_eq, wd_up_ne, Int.toNat_natCast, Int.toNat_of_nonneg, not_true_eq_false, not_false_eq_true, Option.some.injEq, e102, e103] at hv9); subst hv9))
    | (apply i_aalN; (focus (exact rfl)); (focus (exact (by first | exact ⟨by decide, by decide⟩ | ((try simp (disch := omega) only [ab_tI, ab_c0, wd_ix12, wd_ix8, wd_ix10, wd_up_self, wd_up_eq, wd_up_ne, Int.toNat_natCast, Int.toNat_of_nonneg, not_true_eq_false, not_false_eq_true, Option.some.injEq, e102, e103, ab_c0]); omega)))); (intro v9 hv9; (try simp (disch := omega) only [ab_tI, ab_c0, wd_ix12, wd_ix8, wd_ix10, wd_up_self, wd_up_eq, wd_up_ne, Int.toNat_natCast, Int.toNat_of_nonneg, not_true_eq_false, not_false_eq_true, Option.some.injEq, e102, e103] at hv9); subst hv9))
    | (apply w_iasI; (focus (exact rfl)); (focus (exact rfl)); (focus (exact (by first | exact ⟨by decide, by decide⟩ | ((try simp (disch := omega) only [ab_tI, ab_c0, wd_ix12, wd_ix8, wd_ix10, wd_up_self, wd_up_eq, wd_up_ne, Int.toNat_natCast, Int.toNat_of_nonneg, not_true_eq_false, not_false_eq_true, Option.some.injEq, e102, e103, ab_c0]); omega)))); (focus (intro _; exact rfl)); (intro v9 hv9; (try simp (disch := omega) only [ab_tI, ab_c0, wd_ix12, wd_ix8, wd_ix10, wd_up_self, wd_up_eq, wd_up_ne, Int.toNat_natCast, Int.toNat_of_nonneg, not_true_eq_false, not_false_eq_true, Option.some.injEq, e102, e103] at hv9); subst hv9))
    | (refine And.intro trivial ?_)
    | (refine And.intro (Or.inl rfl) ?_)
    | (refine And.intro (Or.inr rfl) ?_)
    | (refine And.intro (by ((try simp (disch := omega) only [ab_tI, ab_c0, wd_ix12, wd_ix8, wd_ix10, wd_up_self, wd_up_eq, wd_up_ne, Int.toNat_natCast, Int.toNat_of_nonneg, not_true_eq_false, not_false_eq_true, Option.some.injEq, e102, e103]); omega)) ?_)
    | fail)
    all_goals (exfalso; omega)
  rw [if_neg c5] at hQ
  by_cases c6 : (I 10 2).toInt = 6
  · rw [if_pos c6] at hQ
    refine wd_inC rfl (by omega) rfl ?_
    intro C9 X9 hC9 hX9
    repeat' ((conv => whnf); first
    | (rw [eF]; refine hC9 _ _ _ _ (hjo _ ?_))
    | (exact hC9 _ _ _ _ (hmk _ _ _ hQ))
    | (apply i_getN; (focus (exact rfl)); (focus (exact rfl)); (intro v9 hv9; (try simp (disch := omega) only [ab_tI, ab_c0, wd_ix12, wd_ix8, wd_ix10, wd_up_self, wd_up_eq, wd_up_ne, Int.toNat_natCast, Int.toNat_of_nonneg, not_true_eq_false, not_false_eq_true, Option.some.injEq, e102, e103] at hv9); subst hv9))
    | (intro v9 hv9; (try simp (disch := omega) only [ab_tI, ab_c0, wd_ix12, wd_ix8, wd_ix10, wd_up_self, wd_up_eq, wd_up_ne, Int.toNat_natCast, Int.toNat_of_nonneg, not_true_eq_false, not_false_eq_true, Option.some.injEq, e102, e103] at hv9); subst hv9)
    | (apply i_get; (focus (exact rfl)); (focus (exact rfl)))
    | (refine hX9 _ _ _ _ (wd_rnC rfl ?_); clear hC9 hX9 X9 C9; intro C9 X9 hC9 hX9)
    | (refine i_brF (by decide) ?_)
    | (refine i_brT (by decide) ?_)
    | (refine ⟨fun hc => ?_, fun hc => ?_⟩ <;> (try simp (disch := omega) only [ab_tI, ab_c0, wd_ix12, wd_ix8, wd_ix10, wd_up_self, wd_up_eq, wd_up_ne, Int.toNat_natCast, Int.toNat_of_nonneg, not_true_eq_false, not_false_eq_true, Option.some.injEq, e102, e103] at hc) <;> first | (exfalso; omega) | skip)
    | (apply i_cv; (focus (exact rfl)))
    | (apply i_len; (focus (exact rfl)))
    | (apply w_putI; (focus (exact rfl)); (focus (exact rfl)); (focus (exact rfl)); (focus (first | exact trivial | exact Or.inl rfl | exact Or.inr rfl)); (focus (exact rfl)))
    | (apply w_putP; (focus (exact rfl)); (focus (exact rfl)); (focus (exact rfl)); (focus (exact trivial)); (focus (exact rfl)))
    | (apply i_ialN; (focus (exact rfl)); (focus (first | exact Or.inl rfl | exact Or.inr rfl)); (focus (exact (by first | exact ⟨by decide, by decide⟩ | ((try simp (disch := omega) only [ab_tI, ab_c0, wd_ix12, wd_ix8, wd_ix10, wd_up_self, wd_up_eq, wd_up_ne, Int.toNat_natCast, Int.toNat_of_nonneg, not_true_eq_false, not_false_eq_true, Option.some.injEq, e102, e103, ab_c0]); omega)))); (intro v9 hv9; (try simp (disch := omega) only [ab_tI, ab_c0, wd_ix12, wd_ix8, wd_ix10, wd_up_self, wd_up_eq, wd_up_ne, Int.toNat_natCast, Int.toNat_of_nonneg, not_true_eq_false, not_false_eq_true, Option.some.injEq, e102, e103] at hv9); subst hv9))
    | (apply i_aalN; (focus (exact rfl)); (focus (exact (by first | exact ⟨by decide, by decide⟩ | ((try simp (disch := omega) only [ab_tI, ab_c0, wd_ix12, wd_ix8, wd_ix10, wd_up_self, wd_up_eq, wd_up_ne, Int.toNat_natCast, Int.toNat_of_nonneg, not_true_eq_false, not_false_eq_true, Option.some.injEq, e102, e103, ab_c0]); omega)))); (intro v9 hv9; (try simp (disch := omega) only [ab_tI, ab_c0, wd_ix12, wd_ix8, wd_ix10, wd_up_self, wd_up_eq, wd_up_ne, Int.toNat_natCast, Int.toNat_of_nonneg, not_true_eq_false, not_false_eq_true, Option.some.injEq, e102, e103] at hv9); subst hv9))
    | (apply w_iasI; (focus (exact rfl)); (focus (exact rfl)); (focus (exact (by first | exact ⟨by decide, by decide⟩ | ((try simp (disch := omega) only [ab_tI, ab_c0, wd_ix12, wd_ix8, wd_ix10, wd_up_self, wd_up_eq, wd_up_ne, Int.toNat_natCast, Int.toNat_of_nonneg, not_true_eq_false, not_false_eq_true, Option.some.injEq, e102, e103, ab_c0]); omega)))); (focus (intro _; exact rfl)); (intro v9 hv9; (try simp (disch := omega) only [ab_tI, ab_c0, wd_ix12, wd_ix8, wd_ix10, wd_up_self, wd_up_eq, wd_up_ne, Int.toNat_natCast, Int.toNat_of_nonneg, not_true_eq_false, not_false_eq_true, Option.some.injEq, e102, e103] at hv9); subst hv9))
    | (refine And.intro trivial ?_)
    | (refine And.intro (Or.inl rfl) ?_)
    | (refine And.intro (Or.inr rfl) ?_)
    | (refine And.intro (by ((try simp (disch := omega) only [ab_tI, ab_c0, wd_ix12, wd_ix8, wd_ix10, wd_up_self, wd_up_eq, wd_up_ne, Int.toNat_natCast, Int.toNat_of_nonneg, not_true_eq_false, not_false_eq_true, Option.some.injEq, e102, e103]); omega)) ?_)
    | fail)
    all_goals (exfalso; omega)
  rw [if_neg c6] at hQ
  by_cases c7 : (I 10 2).toInt = 7
  · rw [if_pos c7] at hQ
    have hg4 : P 10 4 = some gv := by
      rcases hgv with h | h | h
      · exact h
      · omega
      · omega
    refine wd_inC rfl (by omega) rfl ?_
    intro C9 X9 hC9 hX9
    (have chk9 := @hg4; clear chk9); repeat' ((conv => whnf); first
    | (apply i_getN; (focus (exact rfl)); (focus (exact rfl)); (intro v9 hv9; (try simp (disch := omega) only [ab_tI, ab_c0, wd_ix12, wd_ix8, wd_ix10, wd_up_self, wd_up_eq, wd_up_ne, Int.toNat_natCast, Int.toNat_of_nonneg, not_true_eq_false, not_false_eq_true, Option.some.injEq, e102, e103, hg4] at hv9); subst hv9))
    | (intro v9 hv9; (try simp (disch := omega) only [ab_tI, ab_c0, wd_ix12, wd_ix8, wd_ix10, wd_up_self, wd_up_eq, wd_up_ne, Int.toNat_natCast, Int.toNat_of_nonneg, not_true_eq_false, not_false_eq_true, Option.some.injEq, e102, e103, hg4] at hv9); subst hv9)
    | (apply i_get; (focus (exact rfl)); (focus (exact rfl)))
    | (refine hX9 _ _ _ _ (wd_rnC rfl ?_); clear hC9 hX9 X9 C9; intro C9 X9 hC9 hX9)
    | (refine i_brF (by decide) ?_)
    | (refine i_brT (by decide) ?_)
    | (refine ⟨fun hc => ?_, fun hc => ?_⟩ <;> (try simp (disch := omega) only [ab_tI, ab_c0, wd_ix12, wd_ix8, wd_ix10, wd_up_self, wd_up_eq, wd_up_ne, Int.toNat_natCast, Int.toNat_of_nonneg, not_true_eq_false, not_false_eq_true, Option.some.injEq, e102, e103, hg4] at hc) <;> first | (exfalso; omega) | skip)
    | (apply i_cv; (focus (exact rfl)))
    | (apply i_len; (focus (exact rfl)))
    | (apply w_putI; (focus (exact rfl)); (focus (exact rfl)); (focus (exact rfl)); (focus (first | exact trivial | exact Or.inl rfl | exact Or.inr rfl)); (focus (exact rfl)))
    | (apply w_putP; (focus (exact rfl)); (focus (exact rfl)); (focus (exact rfl)); (focus (exact trivial)); (focus (exact rfl)))
    | (apply i_ialN; (focus (exact rfl)); (focus (first | exact Or.inl rfl | exact Or.inr rfl)); (focus (exact (by first | exact ⟨by decide, by decide⟩ | ((try simp (disch := omega) only [ab_tI, ab_c0, wd_ix12, wd_ix8, wd_ix10, wd_up_self, wd_up_eq, wd_up_ne, Int.toNat_natCast, Int.toNat_of_nonneg, not_true_eq_false, not_false_eq_true, Option.some.injEq, e102, e103, hg4, ab_c0]); omega)))); (intro v9 hv9; (try simp (disch := omega) only [ab_tI, ab_c0, wd_ix12, wd_ix8, wd_ix10, wd_up_self, wd_up_eq, wd_up_ne, Int.toNat_natCast, Int.toNat_of_nonneg, not_true_eq_false, not_false_eq_true, Option.some.injEq, e102, e103, hg4] at hv9); subst hv9))
    | (apply i_aalN; (focus (exact rfl)); (focus (exact (by first | exact ⟨by decide, by decide⟩ | ((try simp (disch := omega) only [ab_tI, ab_c0, wd_ix12, wd_ix8, wd_ix10, wd_up_self, wd_up_eq, wd_up_ne, Int.toNat_natCast, Int.toNat_of_nonneg, not_true_eq_false, not_false_eq_true, Option.some.injEq, e102, e103, hg4, ab_c0]); omega)))); (intro v9 hv9; (try simp (disch := omega) only [ab_tI, ab_c0, wd_ix12, wd_ix8, wd_ix10, wd_up_self, wd_up_eq, wd_up_ne, Int.toNat_natCast, Int.toNat_of_nonneg, not_true_eq_false, not_false_eq_true, Option.some.injEq, e102, e103, hg4] at hv9); subst hv9))
    | (apply w_iasI; (focus (exact rfl)); (focus (exact rfl)); (focus (exact (by first | exact ⟨by decide, by decide⟩ | ((try simp (disch := omega) only [ab_tI, ab_c0, wd_ix12, wd_ix8, wd_ix10, wd_up_self, wd_up_eq, wd_up_ne, Int.toNat_natCast, Int.toNat_of_nonneg, not_true_eq_false, not_false_eq_true, Option.some.injEq, e102, e103, hg4, ab_c0]); omega)))); (focus (intro _; exact rfl)); (intro v9 hv9; (try simp (disch := omega) only [ab_tI, ab_c0, wd_ix12, wd_ix8, wd_ix10, wd_up_self, wd_up_eq, wd_up_ne, Int.toNat_natCast, Int.toNat_of_nonneg, not_true_eq_false, not_false_eq_true, Option.some.injEq, e102, e103, hg4] at hv9); subst hv9))
    | (refine And.intro trivial ?_)
    | (refine And.intro (Or.inl rfl) ?_)
    | (refine And.intro (Or.inr rfl) ?_)
    | (refine And.intro (by ((try simp (disch := omega) only [ab_tI, ab_c0, wd_ix12, wd_ix8, wd_ix10, wd_up_self, wd_up_eq, wd_up_ne, Int.toNat_natCast, Int.toNat_of_nonneg, not_true_eq_false, not_false_eq_true, Option.some.injEq, e102, e103, hg4]); omega)) ?_)
    | fail)
    all_goals first | exact hQ | (rw [hg4]; exact hQ) | (exfalso; omega)
  · rw [if_neg c7] at hQ
    refine wd_inC rfl (by omega) rfl ?_
    intro C9 X9 hC9 hX9
    repeat' ((conv => whnf); first
    | (rw [eF]; exact hC9 _ _ _ _ (hor _ hQ))
    | (apply i_getN; (focus (exact rfl)); (focus (exact rfl)); (intro v9 hv9; (try simp (disch := omega) only [ab_tI, ab_c0, wd_ix12, wd_ix8, wd_ix10, wd_up_self, wd_up_eq, wd_up_ne, Int.toNat_natCast, Int.toNat_of_nonneg, not_true_eq_false, not_false_eq_true, Option.some.injEq, e102, e103] at hv9); subst hv9))
    | (intro v9 hv9; (try simp (disch := omega) only [ab_tI, ab_c0, wd_ix12, wd_ix8, wd_ix10, wd_up_self, wd_up_eq, wd_up_ne, Int.toNat_natCast, Int.toNat_of_nonneg, not_true_eq_false, not_false_eq_true, Option.some.injEq, e102, e103] at hv9); subst hv9)
    | (apply i_get; (focus (exact rfl)); (focus (exact rfl)))
    | (refine hX9 _ _ _ _ (wd_rnC rfl ?_); clear hC9 hX9 X9 C9; intro C9 X9 hC9 hX9)
    | (refine i_brF (by decide) ?_)
    | (refine i_brT (by decide) ?_)
    | (refine ⟨fun hc => ?_, fun hc => ?_⟩ <;> (try simp (disch := omega) only [ab_tI, ab_c0, wd_ix12, wd_ix8, wd_ix10, wd_up_self, wd_up_eq, wd_up_ne, Int.toNat_natCast, Int.toNat_of_nonneg, not_true_eq_false, not_false_eq_true, Option.some.injEq, e102, e103] at hc) <;> first | (exfalso; omega) | skip)
    | (apply i_cv; (focus (exact rfl)))
    | (apply i_len; (focus (exact rfl)))
    | (apply w_putI; (focus (exact rfl)); (focus (exact rfl)); (focus (exact rfl)); (focus (first | exact trivial | exact Or.inl rfl | exact Or.inr rfl)); (focus (exact rfl)))
    | (apply w_putP; (focus (exact rfl)); (focus (exact rfl)); (focus (exact rfl)); (focus (exact trivial)); (focus (exact rfl)))
    | (apply i_ialN; (focus (exact rfl)); (focus (first | exact Or.inl rfl | exact Or.inr rfl)); (focus (exact (by first | exact ⟨by decide, by decide⟩ | ((try simp (disch := omega) only [ab_tI, ab_c0, wd_ix12, wd_ix8, wd_ix10, wd_up_self, wd_up_eq, wd_up_ne, Int.toNat_natCast, Int.toNat_of_nonneg, not_true_eq_false, not_false_eq_true, Option.some.injEq, e102, e103, ab_c0]); omega)))); (intro v9 hv9; (try simp (disch := omega) only [ab_tI, ab_c0, wd_ix12, wd_ix8, wd_ix10, wd_up_self, wd_up_eq, wd_up_ne, Int.toNat_natCast, Int.toNat_of_nonneg, not_true_eq_false, not_false_eq_true, Option.some.injEq, e102, e103] at hv9); subst hv9))
    | (apply i_aalN; (focus (exact rfl)); (focus (exact (by first | exact ⟨by decide, by decide⟩ | ((try simp (disch := omega) only [ab_tI, ab_c0, wd_ix12, wd_ix8, wd_ix10, wd_up_self, wd_up_eq, wd_up_ne, Int.toNat_natCast, Int.toNat_of_nonneg, not_true_eq_false, not_false_eq_true, Option.some.injEq, e102, e103, ab_c0]); omega)))); (intro v9 hv9; (try simp (disch := omega) only [ab_tI, ab_c0, wd_ix12, wd_ix8, wd_ix10, wd_up_self, wd_up_eq, wd_up_ne, Int.toNat_natCast, Int.toNat_of_nonneg, not_true_eq_false, not_false_eq_true, Option.some.injEq, e102, e103] at hv9); subst hv9))
    | (apply w_iasI; (focus (exact rfl)); (focus (exact rfl)); (focus (exact (by first | exact ⟨by decide, by decide⟩ | ((try simp (disch := omega) only [ab_tI, ab_c0, wd_ix12, wd_ix8, wd_ix10, wd_up_self, wd_up_eq, wd_up_ne, Int.toNat_natCast, Int.toNat_of_nonneg, not_true_eq_false, not_false_eq_true, Option.some.injEq, e102, e103, ab_c0]); omega)))); (focus (intro _; exact rfl)); (intro v9 hv9; (try simp (disch := omega) only [ab_tI, ab_c0, wd_ix12, wd_ix8, wd_ix10, wd_up_self, wd_up_eq, wd_up_ne, Int.toNat_natCast, Int.toNat_of_nonneg, not_true_eq_false, not_false_eq_true, Option.some.injEq, e102, e103] at hv9); subst hv9))
    | (refine And.intro trivial ?_)
    | (refine And.intro (Or.inl rfl) ?_)
    | (refine And.intro (Or.inr rfl) ?_)
    | (refine And.intro (by ((try simp (disch := omega) only [ab_tI, ab_c0, wd_ix12, wd_ix8, wd_ix10, wd_up_self, wd_up_eq, wd_up_ne, Int.toNat_natCast, Int.toNat_of_nonneg, not_true_eq_false, not_false_eq_true, Option.some.injEq, e102, e103]); omega)) ?_)
    | fail)
    all_goals (exfalso; omega)
theorem y_focus (hd : 48 ≤ d) (hW : c_W T g kw) (hkw : kw ≤ k) (h125 : 125 ≤ kw) {a gv : Nat} (ha : T a) (h0 : 0 ≤ (I 9 0).toInt ∧ (I 9 0).toInt ≤ 3000) (hsp : (I 10 6).toInt = 0) (hhow : 0 ≤ (I 10 2).toInt ∧ (I 10 2).toInt ≤ 11) (hgv : (I 10 2).toInt = 7 → P 10 4 = some gv) (hr : k + 6 ≤ 600000 ∧ z + 21 ≤ 5000000) (hQ : Q (some (wd_v (c_foc gv (I, g, k, z) a).1)) (c_S P M (c_foc gv (I, g, k, z) a).2)) : ab_CT d 4 [wd_v 10, wd_v a] (wd I P M g, k, z) Q := by
  by_cases c3 : (I 10 2).toInt < 4
  · exact y_focus_n hd hW hkw h125 ha h0 hsp ⟨hhow.1, c3⟩ ⟨hr.1, by omega⟩ hQ
  by_cases c4 : (I 10 2).toInt = 4
  · exact y_focus_4 hd hW hkw h125 ha h0 hsp c4 ⟨hr.1, by omega⟩ hQ
  · refine y_focus_5 hd hW hkw h125 ha h0 (by omega) ?_ hr hQ
    by_cases c7 : (I 10 2).toInt = 7
    · exact Or.inl (hgv c7)
    · omega
end
