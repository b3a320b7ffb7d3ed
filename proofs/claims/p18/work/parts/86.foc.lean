/-! ===== the class: what a focus becomes, whole (own text) ===== -/
def c_fI (I : wd_I) : wd_I := wd_up I 10 5 (ab_ii ((I 10 5).toInt + 1))
def c_fv (I : wd_I) (w : Int32) : Int32 := if (I 10 2).toInt = 0 then ab_ii (w.toInt + (I 10 3).toInt) else if (I 10 2).toInt = 1 then ab_ii (w.toInt * (I 10 3).toInt) else if (I 10 2).toInt = 2 then ab_ii ((I 10 3).toInt - w.toInt) else ab_ii (w.toInt + (I 10 5).toInt)
def c_num (v : Int32) (ka pa : Nat) : ab_C := ab_ob 9 [.inl (ab_ii 0), .inl v, .inl (ab_ii 1), .inl (ab_ii ((ab_ii (-1)).toInt + 1)), wd_v ka, wd_v pa]
def c_two (a : Nat) (o : Option Nat) : Nat → Option Nat := ab_up (ab_up (fun _ => none) 0 (some a)) 1 o
/-- behind the row of two and the number (made, or not) -/
def c_g4y (g : Nat → ab_C) (k a : Nat) (v : Int32) : Nat → ab_C := ab_up (ab_up (ab_up (ab_up g (k + 1) (ab_ra 4 0 (fun _ => none))) (k + 1 + 1 + 1) (ab_ia 0 0 (fun _ => 0))) (k + 1 + 1) (c_num v (k + 1 + 1 + 1) (k + 1))) k (ab_ra 4 2 (c_two a (some (k + 1 + 1))))
def c_g4n (g : Nat → ab_C) (k a : Nat) : Nat → ab_C := ab_up (ab_up g (k + 1) (ab_ra 4 0 (fun _ => none))) k (ab_ra 4 2 (c_two a (some a)))
def c_foc (gv : Nat) (S : c_St) (a : Nat) : Nat × c_St :=
  if (S.1 10 2).toInt < 4 then (if (c_i S.2.1 a 0).toInt = 0 then (if (S.1 9 0).toInt < 3000 then (S.2.2.1 + 1, (c_I1 (c_fI S.1), c_nmg S.2.1 S.2.2.1 (c_fv S.1 (c_i S.2.1 a 1)), S.2.2.1 + 3, S.2.2.2 + 6)) else (a, (c_I0 (c_fI S.1), ab_up S.2.1 S.2.2.1 (ab_ra 4 0 (fun _ => none)), S.2.2.1 + 1, S.2.2.2))) else (a, (c_fI S.1, S.2)))
  else if (S.1 10 2).toInt = 4 then (if (S.1 9 0).toInt < 3000 then c_mkN (ab_ii 1) (ab_ii 0) S.2.2.1 2 (c_two a (some (S.2.2.1 + 1 + 1))) a (c_I1 (c_fI S.1), c_g4y S.2.1 S.2.2.1 a (S.1 10 3), S.2.2.1 + 1 + 1 + 2, S.2.2.2 + 2 + 0 + 6) else c_mkN (ab_ii 1) (ab_ii 0) S.2.2.1 2 (c_two a (some a)) a (c_I0 (c_fI S.1), c_g4n S.2.1 S.2.2.1 a, S.2.2.1 + 1 + 1, S.2.2.2 + 2 + 0))
  else if (S.1 10 2).toInt = 5 then c_mkN (ab_ii 4) (S.1 10 3) S.2.2.1 1 (ab_up (fun _ => none) 0 (some a)) a (c_arr (c_fI S.1, S.2) (ab_up (fun _ => none) 0 (some a)) 1)
  else if (S.1 10 2).toInt = 6 then c_mkN (ab_ii 2) (ab_ii 0) S.2.2.1 1 (ab_up (fun _ => none) 0 (some a)) a (c_arr (c_fI S.1, S.2) (ab_up (fun _ => none) 0 (some a)) 1)
  else if (S.1 10 2).toInt = 7 then (gv, (c_fI S.1, S.2))
  else c_ordr (c_fI S.1, S.2) a
theorem c_num_new {g : Nat → ab_C} {v : Int32} {ka pa : Nat} {fp : Nat → Option Nat} : c_new g (ab_ii 0) v ka pa 0 fp = c_num v ka pa := rfl
section
variable {d : Nat} {I : wd_I} {P : wd_P} {M : wd_I} {g : Nat → ab_C} {k kw z : Nat} {Q : ab_Q} {T : Nat → Prop}
theorem y_mkN (hd : 4 ≤ d) (hW : c_W T g kw) (hkw : kw ≤ k) (h125 : 125 ≤ kw) {kd wo : Int32} {pa np r : Nat} {fp : Nat → Option Nat} (hpa : wd_mut pa = false ∧ g pa = ab_ra 4 np fp) (hpk : pa < k) (hnp : np ≤ 13) (hf : c_rT T np fp) (h0 : 0 ≤ (I 9 0).toInt ∧ (I 9 0).toInt ≤ 3000) (hr : k + 2 ≤ 600000 ∧ z + 6 ≤ 7302250) (hQ : Q (some (wd_v (c_mkN kd wo pa np fp r (I, g, k, z)).1)) (c_S P M (c_mkN kd wo pa np fp r (I, g, k, z)).2)) : ab_CT d 7 [wd_v 10, .inl kd, .inl wo, wd_v pa, wd_v r] (wd I P M g, k, z) Q := by
  unfold c_mkN at hQ
  dsimp only at hQ
  refine y_make hd hW hkw h125 hpa hpk hnp hf h0 hr (fun h1 h2 => ?_) (fun h1 h2 => ?_) (fun h1 => ?_)
  · rw [if_pos h1, if_pos h2] at hQ; exact hQ
  · rw [if_pos h1, if_neg (by omega)] at hQ; exact hQ
  · rw [if_neg h1] at hQ; exact hQ
theorem c_one_T {a : Nat} (ha : T a) : c_rT T 1 (ab_up (fun _ => none) 0 (some a)) := fun j hj => ⟨a, by rw [show j = 0 by omega, ab_up_self], ha⟩
set_option maxHeartbeats 4000000 in
set_option maxRecDepth 100000 in
theorem y_focus_n (hd : 48 ≤ d) (hW : c_W T g kw) (hkw : kw ≤ k) (h125 : 125 ≤ kw) {a gv : Nat} (ha : T a) (h0 : 0 ≤ (I 9 0).toInt ∧ (I 9 0).toInt ≤ 3000) (hsp : (I 10 6).toInt = 0) (hhow : 0 ≤ (I 10 2).toInt ∧ (I 10 2).toInt < 4) (hr : k + 6 ≤ 600000 ∧ z + 20 ≤ 7302250) (hQ : Q (some (wd_v (c_foc gv (I, g, k, z) a).1)) (c_S P M (c_foc gv (I, g, k, z) a).2)) : ab_CT d 4 [wd_v 10, wd_v a] (wd I P M g, k, z) Q := by
  have hWk := c_W_mono hW hkw
  have h1 := c_W_c (I := c_fI I) (P := P) (M := M) (z := z) hWk ha
  have e90 : c_fI I 9 0 = I 9 0 := wd_up_ne _ _ (by omega)
  have e102 : c_fI I 10 2 = I 10 2 := wd_up_ne _ _ (by omega)
  have e103 : c_fI I 10 3 = I 10 3 := wd_up_ne _ _ (by omega)
  have e106 : c_fI I 10 6 = I 10 6 := wd_up_ne _ _ (by omega)
  have eF : wd_up I 10 5 (ab_ii ((I 10 5).toInt + 1)) = c_fI I := rfl
  unfold c_foc at hQ
  dsimp only at hQ
  rw [if_pos hhow.2] at hQ
  have hmn := fun (v : Int32) (Q : ab_Q) hnn hy hn => y_makeN (d := d - 1) (I := c_fI I) (P := P) (M := M) (g := g) (k := k) (z := z) (Q := Q) (by omega) hW hkw h125 (v := v) ha (by rw [e90]; exact h0) (by rw [e106]; exact hsp) ⟨by omega, by omega⟩ hnn hy hn
  rw [e90] at hmn
  have hfin : ∀ (v : Int32), v = c_fv I (c_i g a 1) → ∀ Q' : ab_Q, (∀ (x : Nat) (h : ab_H), Q (some (wd_v x)) h → Q' (some (wd_v x)) h) → ab_CT (d - 1) 6 [wd_v 10, wd_v a, .inl v] (wd (c_fI I) P M g, k, z) Q' := fun v hv Q' hQQ => by
    refine hmn v Q' (fun hk => hQQ _ _ ?_) (fun hk hm => hQQ _ _ ?_) (fun hk hm => hQQ _ _ ?_)
    · rw [if_neg hk] at hQ; exact hQ
    · rw [if_pos hk, if_pos hm, ← hv] at hQ; exact hQ
    · rw [if_pos hk, if_neg (by omega)] at hQ; exact hQ
  unfold c_fv at hfin
  clear hQ hmn
  refine wd_inC rfl (by omega) rfl ?_
  intro C9 X9 hC9 hX9
  repeat' ((conv => whnf); first
    | (rw [eF]; exact hC9 6 _ _ _ (hfin _ (by first | rw [if_pos (by omega)] | rw [if_neg (by omega), if_pos (by omega)] | rw [if_neg (by omega), if_neg (by omega), if_pos (by omega)] | rw [if_neg (by omega), if_neg (by omega), if_neg (by omega)]) _ (fun _ _ q => q)))
    | (apply i_getN; (focus (exact c_W_c hWk ha)); (focus (exact rfl)); (intro v9 hv9; subst hv9))
    | (apply i_getN; (focus (exact rfl)); (focus (exact rfl)); (intro v9 hv9; (try simp (disch := omega) only [ab_tI, ab_c0, wd_ix12, wd_ix8, wd_ix10, wd_up_self, wd_up_eq, wd_up_ne, Int.toNat_natCast, Int.toNat_of_nonneg, not_true_eq_false, not_false_eq_true, Option.some.injEq, e102, e103] at hv9); subst hv9))
    | (intro v9 hv9; (try simp (disch := omega) only [ab_tI, ab_c0, wd_ix12, wd_ix8, wd_ix10, wd_up_self, wd_up_eq, wd_up_ne, Int.toNat_natCast, Int.toNat_of_nonneg, not_true_eq_false, not_false_eq_true, Option.some.injEq, e102, e103] at hv9); subst hv9)
    | (apply i_get; (focus (exact rfl)); (focus (exact rfl)))
    | (refine hX9 _ _ _ _ (wd_rnC rfl ?_); clear hC9 hX9 X9 C9; intro C9 X9 hC9 hX9)
    | (apply w_ialM; (focus (exact rfl)); (focus (exact (by first | exact ⟨by decide, by decide⟩ | ((try simp (disch := omega) only [ab_tI, ab_c0, wd_ix12, wd_ix8, wd_ix10, wd_up_self, wd_up_eq, wd_up_ne, Int.toNat_natCast, Int.toNat_of_nonneg, not_true_eq_false, not_false_eq_true, Option.some.injEq, e102, e103, wd_l103, wd_l104, wd_l105, wd_l106, wd_l107, wd_l108, wd_l109, wd_l110, wd_l111, wd_l112, wd_l113, wd_l114, wd_l115, wd_l116, wd_l117, wd_l118, wd_l119, wd_l120, wd_l121, wd_l122, wd_l123, wd_l124]); omega)))); (intro v9 hv9; (try simp (disch := omega) only [ab_tI, ab_c0, wd_ix12, wd_ix8, wd_ix10, wd_up_self, wd_up_eq, wd_up_ne, Int.toNat_natCast, Int.toNat_of_nonneg, not_true_eq_false, not_false_eq_true, Option.some.injEq, e102, e103] at hv9); subst hv9))
    | (apply w_putM; (focus (exact rfl)); (focus (first | exact trivial | exact Or.inl rfl | exact Or.inr rfl)); (focus (exact rfl)))
    | (apply w_iasM; (focus (exact rfl)); (focus (exact (by first | exact ⟨by decide, by decide⟩ | ((try simp (disch := omega) only [ab_tI, ab_c0, wd_ix12, wd_ix8, wd_ix10, wd_up_self, wd_up_eq, wd_up_ne, Int.toNat_natCast, Int.toNat_of_nonneg, not_true_eq_false, not_false_eq_true, Option.some.injEq, e102, e103, wd_l103, wd_l104, wd_l105, wd_l106, wd_l107, wd_l108, wd_l109, wd_l110, wd_l111, wd_l112, wd_l113, wd_l114, wd_l115, wd_l116, wd_l117, wd_l118, wd_l119, wd_l120, wd_l121, wd_l122, wd_l123, wd_l124]); omega)))); (intro v9 hv9; (try simp (disch := omega) only [ab_tI, ab_c0, wd_ix12, wd_ix8, wd_ix10, wd_up_self, wd_up_eq, wd_up_ne, Int.toNat_natCast, Int.toNat_of_nonneg, not_true_eq_false, not_false_eq_true, Option.some.injEq, e102, e103] at hv9); subst hv9))
    | (refine i_brF (by decide) ?_)
    | (refine i_brT (by decide) ?_)
    | (refine ⟨fun hc => ?_, fun hc => ?_⟩ <;> (try simp (disch := omega) only [ab_tI, ab_c0, wd_ix12, wd_ix8, wd_ix10, wd_up_self, wd_up_eq, wd_up_ne, Int.toNat_natCast, Int.toNat_of_nonneg, not_true_eq_false, not_false_eq_true, Option.some.injEq, e102, e103] at hc) <;> first | (exfalso; omega) | skip)
    | (apply i_cv; (focus (exact rfl)))
    | (apply i_len; (focus (exact rfl)))
    | (apply w_putI; (focus (exact rfl)); (focus (exact rfl)); (focus (exact rfl)); (focus (first | exact trivial | exact Or.inl rfl | exact Or.inr rfl)); (focus (exact rfl)))
    | (apply w_putP; (focus (exact rfl)); (focus (exact rfl)); (focus (exact rfl)); (focus (exact trivial)); (focus (exact rfl)))
    | (apply i_ialN; (focus (exact rfl)); (focus (first | exact Or.inl rfl | exact Or.inr rfl)); (focus (exact (by first | exact ⟨by decide, by decide⟩ | ((try simp (disch := omega) only [ab_tI, ab_c0, wd_ix12, wd_ix8, wd_ix10, wd_up_self, wd_up_eq, wd_up_ne, Int.toNat_natCast, Int.toNat_of_nonneg, not_true_eq_false, not_false_eq_true, Option.some.injEq, e102, e103, wd_l103, wd_l104, wd_l105, wd_l106, wd_l107, wd_l108, wd_l109, wd_l110, wd_l111, wd_l112, wd_l113, wd_l114, wd_l115, wd_l116, wd_l117, wd_l118, wd_l119, wd_l120, wd_l121, wd_l122, wd_l123, wd_l124]); omega)))); (intro v9 hv9; (try simp (disch := omega) only [ab_tI, ab_c0, wd_ix12, wd_ix8, wd_ix10, wd_up_self, wd_up_eq, wd_up_ne, Int.toNat_natCast, Int.toNat_of_nonneg, not_true_eq_false, not_false_eq_true, Option.some.injEq, e102, e103] at hv9); subst hv9))
    | (apply i_aalN; (focus (exact rfl)); (focus (exact (by first | exact ⟨by decide, by decide⟩ | ((try simp (disch := omega) only [ab_tI, ab_c0, wd_ix12, wd_ix8, wd_ix10, wd_up_self, wd_up_eq, wd_up_ne, Int.toNat_natCast, Int.toNat_of_nonneg, not_true_eq_false, not_false_eq_true, Option.some.injEq, e102, e103, wd_l103, wd_l104, wd_l105, wd_l106, wd_l107, wd_l108, wd_l109, wd_l110, wd_l111, wd_l112, wd_l113, wd_l114, wd_l115, wd_l116, wd_l117, wd_l118, wd_l119, wd_l120, wd_l121, wd_l122, wd_l123, wd_l124]); omega)))); (intro v9 hv9; (try simp (disch := omega) only [ab_tI, ab_c0, wd_ix12, wd_ix8, wd_ix10, wd_up_self, wd_up_eq, wd_up_ne, Int.toNat_natCast, Int.toNat_of_nonneg, not_true_eq_false, not_false_eq_true, Option.some.injEq, e102, e103] at hv9); subst hv9))
    | (apply w_iasI; (focus (exact rfl)); (focus (exact rfl)); (focus (exact (by first | exact ⟨by decide, by decide⟩ | ((try simp (disch := omega) only [ab_tI, ab_c0, wd_ix12, wd_ix8, wd_ix10, wd_up_self, wd_up_eq, wd_up_ne, Int.toNat_natCast, Int.toNat_of_nonneg, not_true_eq_false, not_false_eq_true, Option.some.injEq, e102, e103, wd_l103, wd_l104, wd_l105, wd_l106, wd_l107, wd_l108, wd_l109, wd_l110, wd_l111, wd_l112, wd_l113, wd_l114, wd_l115, wd_l116, wd_l117, wd_l118, wd_l119, wd_l120, wd_l121, wd_l122, wd_l123, wd_l124]); omega)))); (focus (intro _; exact rfl)); (intro v9 hv9; (try simp (disch := omega) only [ab_tI, ab_c0, wd_ix12, wd_ix8, wd_ix10, wd_up_self, wd_up_eq, wd_up_ne, Int.toNat_natCast, Int.toNat_of_nonneg, not_true_eq_false, not_false_eq_true, Option.some.injEq, e102, e103] at hv9); subst hv9))
    | (apply w_balM; (focus (exact (by first | exact ⟨by decide, by decide⟩ | ((try simp (disch := omega) only [ab_tI, ab_c0, wd_ix12, wd_ix8, wd_ix10, wd_up_self, wd_up_eq, wd_up_ne, Int.toNat_natCast, Int.toNat_of_nonneg, not_true_eq_false, not_false_eq_true, Option.some.injEq, e102, e103, wd_l103, wd_l104, wd_l105, wd_l106, wd_l107, wd_l108, wd_l109, wd_l110, wd_l111, wd_l112, wd_l113, wd_l114, wd_l115, wd_l116, wd_l117, wd_l118, wd_l119, wd_l120, wd_l121, wd_l122, wd_l123, wd_l124]); omega)))); (intro v9 hv9; (try simp (disch := omega) only [ab_tI, ab_c0, wd_ix12, wd_ix8, wd_ix10, wd_up_self, wd_up_eq, wd_up_ne, Int.toNat_natCast, Int.toNat_of_nonneg, not_true_eq_false, not_false_eq_true, Option.some.injEq, e102, e103] at hv9); subst hv9))
    | (apply w_basM; (focus (exact (by first | exact ⟨by decide, by decide⟩ | ((try simp (disch := omega) only [ab_tI, ab_c0, wd_ix12, wd_ix8, wd_ix10, wd_up_self, wd_up_eq, wd_up_ne, Int.toNat_natCast, Int.toNat_of_nonneg, not_true_eq_false, not_false_eq_true, Option.some.injEq, e102, e103, wd_l103, wd_l104, wd_l105, wd_l106, wd_l107, wd_l108, wd_l109, wd_l110, wd_l111, wd_l112, wd_l113, wd_l114, wd_l115, wd_l116, wd_l117, wd_l118, wd_l119, wd_l120, wd_l121, wd_l122, wd_l123, wd_l124]); omega)))); (focus (first | exact Or.inl rfl | exact Or.inr rfl)); (intro v9 hv9; (try simp (disch := omega) only [ab_tI, ab_c0, wd_ix12, wd_ix8, wd_ix10, wd_up_self, wd_up_eq, wd_up_ne, Int.toNat_natCast, Int.toNat_of_nonneg, not_true_eq_false, not_false_eq_true, Option.some.injEq, e102, e103] at hv9); subst hv9))
    | (refine And.intro trivial ?_)
    | (refine And.intro (Or.inl rfl) ?_)
    | (refine And.intro (Or.inr rfl) ?_)
    | (refine And.intro (by ((try simp (disch := omega) only [ab_tI, ab_c0, wd_ix12, wd_ix8, wd_ix10, wd_up_self, wd_up_eq, wd_up_ne, Int.toNat_natCast, Int.toNat_of_nonneg, not_true_eq_false, not_false_eq_true, Option.some.injEq, e102, e103]); omega)) ?_)
    | fail)
  all_goals (exfalso; omega)
end
