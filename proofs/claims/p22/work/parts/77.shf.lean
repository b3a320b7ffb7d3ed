/-! ===== the class: shelves, the tally, the difference, the sorted foci (own text) ===== -/
theorem wd_s1n {j : Nat} : (((j + 1 : Nat) : Int) - 1).toNat = j := by omega
theorem wd_sh_b {j : Nat} (hj : j < 12) : wd_mut (18 + 5 * j) = true ∧ wd_mut (22 + 5 * j) = true := by
  have : ∀ j, j < 12 → wd_mut (18 + 5 * j) = true ∧ wd_mut (22 + 5 * j) = true := by decide
  exact this j hj
theorem wd_sh_c {j : Nat} (hj : j < 12) (F : Nat → Int32) (G : Nat → Option Nat) (m : Nat → Int32) : wd_c (18 + 5 * j) F G m = ab_ob 6 [wd_v (22 + 5 * j), .inl (F 1), .inr (.inr (G 2))] := by
  unfold wd_c wd_s
  rw [wd_bf (by omega), show ((18 + 5 * j - 18) % 5) = 0 by omega]
  show ab_ob 6 [wd_v (18 + 5 * j + 4), _, _] = _
  rw [show 18 + 5 * j + 4 = 22 + 5 * j by omega]
theorem wd_sh_o {j : Nat} (hj : j < 12) (F : Nat → Int32) (G : Nat → Option Nat) (m : Nat → Int32) : wd_c (22 + 5 * j) F G m = ab_ra 4 10 G := by
  unfold wd_c wd_s
  rw [wd_bf (by omega), show ((22 + 5 * j - 18) % 5) = 4 by omega]
  rfl
section
variable {I : wd_I} {P : wd_P} {M : wd_I} {g : Nat → ab_C} {k z : Nat}
theorem w_sh {j : Nat} (hj : j < 12) : (wd I P M g, k, z).1 (18 + 5 * j) = ab_ob 6 [wd_v (22 + 5 * j), .inl (I (18 + 5 * j) 1), .inr (.inr (P (18 + 5 * j) 2))] := (wd_at (wd_sh_b hj).1).trans (wd_sh_c hj _ _ _)
theorem w_so {j : Nat} (hj : j < 12) : (wd I P M g, k, z).1 (22 + 5 * j) = ab_ra 4 10 (P (22 + 5 * j)) := (wd_at (wd_sh_b hj).2).trans (wd_sh_o hj _ _ _)
theorem w_shI {j : Nat} (hj : j < 12) {x : Int32} {K : ab_H → Prop} (hK : K (wd (wd_up I (18 + 5 * j) 1 x) P M g, k, z)) : ∃ fs, (wd I P M g, k, z).1 (18 + 5 * j) = ab_ob 6 fs ∧ 1 < fs.length ∧ ab_fit 0 (.inl x) ∧ ∀ h', h' = ab_set (wd I P M g, k, z) (18 + 5 * j) (ab_ob 6 (fs.set 1 (.inl x))) → K h' := by
  refine ⟨_, w_sh hj, Nat.le_of_ble_eq_true rfl, trivial, fun h' hh => ?_⟩
  have e : h' = (wd (wd_up I (18 + 5 * j) 1 x) P M g, k, z) := by
    rw [hh]
    refine congrArg (fun f => (f, k, z)) (wd_foldI (a := 18 + 5 * j) (j := 1) (x := x) (wd_sh_b hj).1 ?_)
    rw [wd_sh_c hj]
    rfl
  rw [e]
  exact hK
theorem w_shP {j : Nat} (hj : j < 12) {x : Option Nat} {K : ab_H → Prop} (hK : K (wd I (wd_up P (18 + 5 * j) 2 x) M g, k, z)) : ∃ fs, (wd I P M g, k, z).1 (18 + 5 * j) = ab_ob 6 fs ∧ 2 < fs.length ∧ ab_fit 2 (.inr (.inr x)) ∧ ∀ h', h' = ab_set (wd I P M g, k, z) (18 + 5 * j) (ab_ob 6 (fs.set 2 (.inr (.inr x)))) → K h' := by
  refine ⟨_, w_sh hj, Nat.le_of_ble_eq_true rfl, trivial, fun h' hh => ?_⟩
  have e : h' = (wd I (wd_up P (18 + 5 * j) 2 x) M g, k, z) := by
    rw [hh]
    refine congrArg (fun f => (f, k, z)) (wd_foldP (a := 18 + 5 * j) (j := 2) (x := x) (wd_sh_b hj).1 ?_)
    rw [wd_sh_c hj]
    rfl
  rw [e]
  exact hK
theorem w_soA {j : Nat} (hj : j < 12) {i : Int32} {o : Option Nat} {K : ab_H → Prop} (hi : 0 ≤ i.toInt ∧ i.toInt < ((10 : Nat) : Int)) (ho : ∀ v, o = some v → ∃ fs, (wd I P M g, k, z).1 v = ab_ob (ab_ec 4) fs) (hK : ∀ e, e = i.toInt.toNat → K (wd I (wd_up P (22 + 5 * j) e o) M g, k, z)) : ∃ t n f, (wd I P M g, k, z).1 (22 + 5 * j) = ab_ra t n f ∧ (0 ≤ i.toInt ∧ i.toInt < n) ∧ (∀ v, o = some v → ∃ fs, (wd I P M g, k, z).1 v = ab_ob (ab_ec t) fs) ∧ ∀ h', h' = ab_set (wd I P M g, k, z) (22 + 5 * j) (ab_ra t n (ab_up f i.toInt.toNat o)) → K h' := by
  refine ⟨4, 10, _, w_so hj, hi, ho, fun h' hh => ?_⟩
  have e : h' = (wd I (wd_up P (22 + 5 * j) i.toInt.toNat o) M g, k, z) := by
    rw [hh]
    exact congrArg (fun f => (f, k, z)) (wd_foldP (a := 22 + 5 * j) (j := i.toInt.toNat) (x := o) (wd_sh_b hj).2 (wd_sh_o hj _ _ _).symm)
  rw [e]
  exact hK _ rfl
end
/-- shelf s holds a thing of T, and remembers such -/
def s_ok (T : Nat → Prop) (I : wd_I) (P : wd_P) (s c : Nat) : Prop := I (18 + 5 * s) 1 = ab_ii (c : Int) ∧ c ≤ 10 ∧ (∃ a, P (18 + 5 * s) 2 = some a ∧ T a) ∧ ∀ i, i < c → ∃ b, P (22 + 5 * s) i = some b ∧ T b
def s_shift (P : wd_P) (s : Nat) : Nat → wd_P
  | 0 => P
  | q + 1 => wd_up (s_shift P s q) (22 + 5 * s) q (s_shift P s q (22 + 5 * s) (q + 1))
def s_becI (I : wd_I) (s c : Nat) : wd_I := if c = 10 then wd_up (wd_up I (18 + 5 * s) 1 (ab_ii 9)) (18 + 5 * s) 1 (ab_ii 10) else wd_up I (18 + 5 * s) 1 (ab_ii ((c : Int) + 1))
def s_becP (P : wd_P) (s c a : Nat) : wd_P := if c = 10 then wd_up (wd_up (s_shift P s 9) (22 + 5 * s) 9 (P (18 + 5 * s) 2)) (18 + 5 * s) 2 (some a) else wd_up (wd_up P (22 + 5 * s) c (P (18 + 5 * s) 2)) (18 + 5 * s) 2 (some a)
theorem s_shift_ne {P : wd_P} {s a j : Nat} (h : a ≠ 22 + 5 * s) : ∀ q, s_shift P s q a j = P a j
  | 0 => rfl
  | q + 1 => by unfold s_shift; rw [wd_up_ne _ _ (Or.inl h), s_shift_ne h q]
theorem s_shift_at {P : wd_P} {s : Nat} : ∀ q j, s_shift P s q (22 + 5 * s) j = if j < q then P (22 + 5 * s) (j + 1) else P (22 + 5 * s) j
  | 0, j => by rw [if_neg (by omega)]; rfl
  | q + 1, j => by
    unfold s_shift
    by_cases e : j = q
    · subst e
      rw [wd_up_self, s_shift_at j (j + 1), if_neg (by omega), if_pos (by omega)]
    · rw [wd_up_ne _ _ (Or.inr e), s_shift_at q j]
      by_cases h : j < q
      · rw [if_pos h, if_pos (by omega)]
      · rw [if_neg h, if_neg (by omega)]
section
variable {d : Nat} {M : wd_I} {g : Nat → ab_C} {k z : Nat} {Q : ab_Q} {T : Nat → Prop}
set_option maxHeartbeats 4000000 in
set_option maxRecDepth 100000 in
theorem y_held (hd : 1 ≤ d) {I : wd_I} {P : wd_P} {s a : Nat} (hs : s < 12) (ha : P (18 + 5 * s) 2 = some a) (hQ : Q (some (wd_v a)) (wd I P M g, k, z)) : ab_CT d 60 [wd_v (18 + 5 * s)] (wd I P M g, k, z) Q := by
  have h1 := w_sh (I := I) (P := P) (M := M) (g := g) (k := k) (z := z) hs
  rw [ha] at h1
  refine wd_inC rfl (by omega) rfl ?_
  intro C9 X9 hC9 hX9
  repeat' ((conv => whnf); first
    | (apply i_getN; (focus (first | exact h1)); (focus (exact rfl)); (intro v9 hv9; (try simp (disch := omega) only [ab_tI, ab_c0, wd_ix12, wd_ix8, wd_ix10, wd_up_self, wd_up_eq, wd_up_ne, Int.toNat_natCast, Int.toNat_of_nonneg, not_true_eq_false, not_false_eq_true, Option.some.injEq] at hv9); subst hv9))
    | (apply i_cv; (focus (first | exact h1)))
    | (apply i_len; (focus (first | exact congrArg ab_len (h1))))
    | (apply i_ialN; (focus (first | exact h1)); (focus (first | exact Or.inl rfl | exact Or.inr rfl)); (focus (exact (by first | exact ⟨by decide, by decide⟩ | ((try simp (disch := omega) only [ab_tI, ab_c0, wd_ix12, wd_ix8, wd_ix10, wd_up_self, wd_up_eq, wd_up_ne, Int.toNat_natCast, Int.toNat_of_nonneg, not_true_eq_false, not_false_eq_true, Option.some.injEq, ab_c0]); omega)))); (intro v9 hv9; (try simp (disch := omega) only [ab_tI, ab_c0, wd_ix12, wd_ix8, wd_ix10, wd_up_self, wd_up_eq, wd_up_ne, Int.toNat_natCast, Int.toNat_of_nonneg, not_true_eq_false, not_false_eq_true, Option.some.injEq] at hv9); subst hv9))
    | (apply i_aalN; (focus (first | exact h1)); (focus (exact (by first | exact ⟨by decide, by decide⟩ | ((try simp (disch := omega) only [ab_tI, ab_c0, wd_ix12, wd_ix8, wd_ix10, wd_up_self, wd_up_eq, wd_up_ne, Int.toNat_natCast, Int.toNat_of_nonneg, not_true_eq_false, not_false_eq_true, Option.some.injEq, ab_c0]); omega)))); (intro v9 hv9; (try simp (disch := omega) only [ab_tI, ab_c0, wd_ix12, wd_ix8, wd_ix10, wd_up_self, wd_up_eq, wd_up_ne, Int.toNat_natCast, Int.toNat_of_nonneg, not_true_eq_false, not_false_eq_true, Option.some.injEq] at hv9); subst hv9))
    | (intro v9 hv9; (try simp (disch := omega) only [ab_tI, ab_c0, wd_ix12, wd_ix8, wd_ix10, wd_up_self, wd_up_eq, wd_up_ne, Int.toNat_natCast, Int.toNat_of_nonneg, not_true_eq_false, not_false_eq_true, Option.some.injEq] at hv9); subst hv9)
    | (apply i_get; (focus (exact rfl)); (focus (exact rfl)))
    | (refine hX9 _ _ _ _ (wd_rnC rfl ?_); clear hC9 hX9 X9 C9; intro C9 X9 hC9 hX9)
    | (refine i_brF (by decide) ?_)
    | (refine i_brT (by decide) ?_)
    | (refine ⟨fun hc => ?_, fun hc => ?_⟩ <;> (try simp (disch := omega) only [ab_tI, ab_c0, wd_ix12, wd_ix8, wd_ix10, wd_up_self, wd_up_eq, wd_up_ne, Int.toNat_natCast, Int.toNat_of_nonneg, not_true_eq_false, not_false_eq_true, Option.some.injEq] at hc) <;> first | (exfalso; omega) | skip)
    | (apply i_cv; (focus (exact rfl)))
    | (apply i_len; (focus (exact rfl)))
    | (apply w_putI; (focus (exact rfl)); (focus (exact rfl)); (focus (exact rfl)); (focus (first | exact trivial | exact Or.inl rfl | exact Or.inr rfl)); (focus (exact rfl)))
    | (apply w_putP; (focus (exact rfl)); (focus (exact rfl)); (focus (exact rfl)); (focus (exact trivial)); (focus (exact rfl)))
    | (apply i_ialN; (focus (exact rfl)); (focus (first | exact Or.inl rfl | exact Or.inr rfl)); (focus (exact (by first | exact ⟨by decide, by decide⟩ | ((try simp (disch := omega) only [ab_tI, ab_c0, wd_ix12, wd_ix8, wd_ix10, wd_up_self, wd_up_eq, wd_up_ne, Int.toNat_natCast, Int.toNat_of_nonneg, not_true_eq_false, not_false_eq_true, Option.some.injEq, ab_c0]); omega)))); (intro v9 hv9; (try simp (disch := omega) only [ab_tI, ab_c0, wd_ix12, wd_ix8, wd_ix10, wd_up_self, wd_up_eq, wd_up_ne, Int.toNat_natCast, Int.toNat_of_nonneg, not_true_eq_false, not_false_eq_true, Option.some.injEq] at hv9); subst hv9))
    | (apply i_aalN; (focus (exact rfl)); (focus (exact (by first | exact ⟨by decide, by decide⟩ | ((try simp (disch := omega) only [ab_tI, ab_c0, wd_ix12, wd_ix8, wd_ix10, wd_up_self, wd_up_eq, wd_up_ne, Int.toNat_natCast, Int.toNat_of_nonneg, not_true_eq_false, not_false_eq_true, Option.some.injEq, ab_c0]); omega)))); (intro v9 hv9; (try simp (disch := omega) only [ab_tI, ab_c0, wd_ix12, wd_ix8, wd_ix10, wd_up_self, wd_up_eq, wd_up_ne, Int.toNat_natCast, Int.toNat_of_nonneg, not_true_eq_false, not_false_eq_true, Option.some.injEq] at hv9); subst hv9))
    | (apply w_iasI; (focus (exact rfl)); (focus (exact rfl)); (focus (exact (by first | exact ⟨by decide, by decide⟩ | ((try simp (disch := omega) only [ab_tI, ab_c0, wd_ix12, wd_ix8, wd_ix10, wd_up_self, wd_up_eq, wd_up_ne, Int.toNat_natCast, Int.toNat_of_nonneg, not_true_eq_false, not_false_eq_true, Option.some.injEq, ab_c0]); omega)))); (focus (intro _; exact rfl)); (intro v9 hv9; (try simp (disch := omega) only [ab_tI, ab_c0, wd_ix12, wd_ix8, wd_ix10, wd_up_self, wd_up_eq, wd_up_ne, Int.toNat_natCast, Int.toNat_of_nonneg, not_true_eq_false, not_false_eq_true, Option.some.injEq] at hv9); subst hv9))
    | (refine And.intro trivial ?_)
    | (refine And.intro (Or.inl rfl) ?_)
    | (refine And.intro (Or.inr rfl) ?_)
    | (refine And.intro (by ((try simp (disch := omega) only [ab_tI, ab_c0, wd_ix12, wd_ix8, wd_ix10, wd_up_self, wd_up_eq, wd_up_ne, Int.toNat_natCast, Int.toNat_of_nonneg, not_true_eq_false, not_false_eq_true, Option.some.injEq]); omega)) ?_)
    | fail)
  exact hQ
set_option maxHeartbeats 4000000 in
set_option maxRecDepth 100000 in
theorem y_oldCount (hd : 1 ≤ d) {I : wd_I} {P : wd_P} {s : Nat} (hs : s < 12) (hQ : Q (some (.inl (I (18 + 5 * s) 1))) (wd I P M g, k, z)) : ab_CT d 61 [wd_v (18 + 5 * s)] (wd I P M g, k, z) Q := by
  have h1 := w_sh (I := I) (P := P) (M := M) (g := g) (k := k) (z := z) hs
  refine wd_inC rfl (by omega) rfl ?_
  intro C9 X9 hC9 hX9
  repeat' ((conv => whnf); first
    | (apply i_getN; (focus (first | exact h1)); (focus (exact rfl)); (intro v9 hv9; (try simp (disch := omega) only [ab_tI, ab_c0, wd_ix12, wd_ix8, wd_ix10, wd_up_self, wd_up_eq, wd_up_ne, Int.toNat_natCast, Int.toNat_of_nonneg, not_true_eq_false, not_false_eq_true, Option.some.injEq] at hv9); subst hv9))
    | (apply i_cv; (focus (first | exact h1)))
    | (apply i_len; (focus (first | exact congrArg ab_len (h1))))
    | (apply i_ialN; (focus (first | exact h1)); (focus (first | exact Or.inl rfl | exact Or.inr rfl)); (focus (exact (by first | exact ⟨by decide, by decide⟩ | ((try simp (disch := omega) only [ab_tI, ab_c0, wd_ix12, wd_ix8, wd_ix10, wd_up_self, wd_up_eq, wd_up_ne, Int.toNat_natCast, Int.toNat_of_nonneg, not_true_eq_false, not_false_eq_true, Option.some.injEq, ab_c0]); omega)))); (intro v9 hv9; (try simp (disch := omega) only [ab_tI, ab_c0, wd_ix12, wd_ix8, wd_ix10, wd_up_self, wd_up_eq, wd_up_ne, Int.toNat_natCast, Int.toNat_of_nonneg, not_true_eq_false, not_false_eq_true, Option.some.injEq] at hv9); subst hv9))
    | (apply i_aalN; (focus (first | exact h1)); (focus (exact (by first | exact ⟨by decide, by decide⟩ | ((try simp (disch := omega) only [ab_tI, ab_c0, wd_ix12, wd_ix8, wd_ix10, wd_up_self, wd_up_eq, wd_up_ne, Int.toNat_natCast, Int.toNat_of_nonneg, not_true_eq_false, not_false_eq_true, Option.some.injEq, ab_c0]); omega)))); (intro v9 hv9; (try simp (disch := omega) only [ab_tI, ab_c0, wd_ix12, wd_ix8, wd_ix10, wd_up_self, wd_up_eq, wd_up_ne, Int.toNat_natCast, Int.toNat_of_nonneg, not_true_eq_false, not_false_eq_true, Option.some.injEq] at hv9); subst hv9))
    | (intro v9 hv9; (try simp (disch := omega) only [ab_tI, ab_c0, wd_ix12, wd_ix8, wd_ix10, wd_up_self, wd_up_eq, wd_up_ne, Int.toNat_natCast, Int.toNat_of_nonneg, not_true_eq_false, not_false_eq_true, Option.some.injEq] at hv9); subst hv9)
    | (apply i_get; (focus (exact rfl)); (focus (exact rfl)))
    | (refine hX9 _ _ _ _ (wd_rnC rfl ?_); clear hC9 hX9 X9 C9; intro C9 X9 hC9 hX9)
    | (refine i_brF (by decide) ?_)
    | (refine i_brT (by decide) ?_)
    | (refine ⟨fun hc => ?_, fun hc => ?_⟩ <;> (try simp (disch := omega) only [ab_tI, ab_c0, wd_ix12, wd_ix8, wd_ix10, wd_up_self, wd_up_eq, wd_up_ne, Int.toNat_natCast, Int.toNat_of_nonneg, not_true_eq_false, not_false_eq_true, Option.some.injEq] at hc) <;> first | (exfalso; omega) | skip)
    | (apply i_cv; (focus (exact rfl)))
    | (apply i_len; (focus (exact rfl)))
    | (apply w_putI; (focus (exact rfl)); (focus (exact rfl)); (focus (exact rfl)); (focus (first | exact trivial | exact Or.inl rfl | exact Or.inr rfl)); (focus (exact rfl)))
    | (apply w_putP; (focus (exact rfl)); (focus (exact rfl)); (focus (exact rfl)); (focus (exact trivial)); (focus (exact rfl)))
    | (apply i_ialN; (focus (exact rfl)); (focus (first | exact Or.inl rfl | exact Or.inr rfl)); (focus (exact (by first | exact ⟨by decide, by decide⟩ | ((try simp (disch := omega) only [ab_tI, ab_c0, wd_ix12, wd_ix8, wd_ix10, wd_up_self, wd_up_eq, wd_up_ne, Int.toNat_natCast, Int.toNat_of_nonneg, not_true_eq_false, not_false_eq_true, Option.some.injEq, ab_c0]); omega)))); (intro v9 hv9; (try simp (disch := omega) only [ab_tI, ab_c0, wd_ix12, wd_ix8, wd_ix10, wd_up_self, wd_up_eq, wd_up_ne, Int.toNat_natCast, Int.toNat_of_nonneg, not_true_eq_false, not_false_eq_true, Option.some.injEq] at hv9); subst hv9))
    | (apply i_aalN; (focus (exact rfl)); (focus (exact (by first | exact ⟨by decide, by decide⟩ | ((try simp (disch := omega) only [ab_tI, ab_c0, wd_ix12, wd_ix8, wd_ix10, wd_up_self, wd_up_eq, wd_up_ne, Int.toNat_natCast, Int.toNat_of_nonneg, not_true_eq_false, not_false_eq_true, Option.some.injEq, ab_c0]); omega)))); (intro v9 hv9; (try simp (disch := omega) only [ab_tI, ab_c0, wd_ix12, wd_ix8, wd_ix10, wd_up_self, wd_up_eq, wd_up_ne, Int.toNat_natCast, Int.toNat_of_nonneg, not_true_eq_false, not_false_eq_true, Option.some.injEq] at hv9); subst hv9))
    | (apply w_iasI; (focus (exact rfl)); (focus (exact rfl)); (focus (exact (by first | exact ⟨by decide, by decide⟩ | ((try simp (disch := omega) only [ab_tI, ab_c0, wd_ix12, wd_ix8, wd_ix10, wd_up_self, wd_up_eq, wd_up_ne, Int.toNat_natCast, Int.toNat_of_nonneg, not_true_eq_false, not_false_eq_true, Option.some.injEq, ab_c0]); omega)))); (focus (intro _; exact rfl)); (intro v9 hv9; (try simp (disch := omega) only [ab_tI, ab_c0, wd_ix12, wd_ix8, wd_ix10, wd_up_self, wd_up_eq, wd_up_ne, Int.toNat_natCast, Int.toNat_of_nonneg, not_true_eq_false, not_false_eq_true, Option.some.injEq] at hv9); subst hv9))
    | (refine And.intro trivial ?_)
    | (refine And.intro (Or.inl rfl) ?_)
    | (refine And.intro (Or.inr rfl) ?_)
    | (refine And.intro (by ((try simp (disch := omega) only [ab_tI, ab_c0, wd_ix12, wd_ix8, wd_ix10, wd_up_self, wd_up_eq, wd_up_ne, Int.toNat_natCast, Int.toNat_of_nonneg, not_true_eq_false, not_false_eq_true, Option.some.injEq]); omega)) ?_)
    | fail)
  exact hQ
set_option maxHeartbeats 4000000 in
set_option maxRecDepth 100000 in
theorem y_become_l (hd : 1 ≤ d) (hW : c_W T g k) {I : wd_I} {P : wd_P} {s a : Nat} (hs : s < 12) (hok : s_ok T I P s 10) (hK : ab_WB d 62 Q 11 [(0, wd_v (18 + 5 * s)), (1, wd_v a), (2, .inl (ab_ii (((9 + 1 : Nat)) : Int)))] [] (wd I (s_shift P s 9) M g, k, z)) : ∀ n q, q + n = 9 → ab_WB d 62 Q 11 [(0, wd_v (18 + 5 * s)), (1, wd_v a), (2, .inl (ab_ii ((q + 1 : Nat) : Int)))] [] (wd I (s_shift P s q) M g, k, z)
  | 0, q, hq => by
    have e : q = 9 := by omega
    subst e
    exact hK
  | n + 1, q, hq => by
    have ih := y_become_l hd hW hs hok hK n (q + 1) (by omega)
    have h1 := w_sh (I := I) (P := s_shift P s q) (M := M) (g := g) (k := k) (z := z) hs
    have h2 := w_so (I := I) (P := s_shift P s q) (M := M) (g := g) (k := k) (z := z) hs
    obtain ⟨b, hb, hT⟩ := hok.2.2.2 (q + 1) (by omega)
    have hb2 : s_shift P s q (22 + 5 * s) (q + 1) = some b := by rw [s_shift_at, if_neg (by omega)]; exact hb
    have hcb := c_W_c (I := I) (P := s_shift P s q) (M := M) (z := z) hW hT
    unfold s_shift at ih
    rw [hb2] at ih
    refine wd_rnC rfl ?_
    intro C9 X9 hC9 hX9
    (have chk9 := @hb2; clear chk9); repeat' ((conv => whnf); first
    | (apply i_getN; (focus (first | exact h1 | exact h2)); (focus (exact rfl)); (intro v9 hv9; (try simp (disch := omega) only [ab_tI, ab_c0, wd_ix12, wd_ix8, wd_ix10, wd_up_self, wd_up_eq, wd_up_ne, Int.toNat_natCast, Int.toNat_of_nonneg, not_true_eq_false, not_false_eq_true, Option.some.injEq, hb2, wd_s1n] at hv9); subst hv9))
    | (apply i_cv; (focus (first | exact h1 | exact h2)))
    | (apply i_len; (focus (first | exact congrArg ab_len (h1) | exact congrArg ab_len (h2))))
    | (apply i_ialN; (focus (first | exact h1 | exact h2)); (focus (first | exact Or.inl rfl | exact Or.inr rfl)); (focus (exact (by first | exact ⟨by decide, by decide⟩ | ((try simp (disch := omega) only [ab_tI, ab_c0, wd_ix12, wd_ix8, wd_ix10, wd_up_self, wd_up_eq, wd_up_ne, Int.toNat_natCast, Int.toNat_of_nonneg, not_true_eq_false, not_false_eq_true, Option.some.injEq, hb2, wd_s1n, ab_c0]); omega)))); (intro v9 hv9; (try simp (disch := omega) only [ab_tI, ab_c0, wd_ix12, wd_ix8, wd_ix10, wd_up_self, wd_up_eq, wd_up_ne, Int.toNat_natCast, Int.toNat_of_nonneg, not_true_eq_false, not_false_eq_true, Option.some.injEq, hb2, wd_s1n] at hv9); subst hv9))
    | (apply i_aalN; (focus (first | exact h1 | exact h2)); (focus (exact (by first | exact ⟨by decide, by decide⟩ | ((try simp (disch := omega) only [ab_tI, ab_c0, wd_ix12, wd_ix8, wd_ix10, wd_up_self, wd_up_eq, wd_up_ne, Int.toNat_natCast, Int.toNat_of_nonneg, not_true_eq_false, not_false_eq_true, Option.some.injEq, hb2, wd_s1n, ab_c0]); omega)))); (intro v9 hv9; (try simp (disch := omega) only [ab_tI, ab_c0, wd_ix12, wd_ix8, wd_ix10, wd_up_self, wd_up_eq, wd_up_ne, Int.toNat_natCast, Int.toNat_of_nonneg, not_true_eq_false, not_false_eq_true, Option.some.injEq, hb2, wd_s1n] at hv9); subst hv9))
    | (apply w_soA hs; (focus (first | exact ⟨by decide, by decide⟩ | ((try simp (disch := omega) only [ab_tI, ab_c0, wd_ix12, wd_ix8, wd_ix10, wd_up_self, wd_up_eq, wd_up_ne, Int.toNat_natCast, Int.toNat_of_nonneg, not_true_eq_false, not_false_eq_true, Option.some.injEq]); omega))); (focus (intro v9 hv9; cases hv9; exact i_ex hcb)); (intro e9 he9; (try simp (disch := omega) only [ab_tI, ab_c0, wd_ix12, wd_ix8, wd_ix10, wd_up_self, wd_up_eq, wd_up_ne, Int.toNat_natCast, Int.toNat_of_nonneg, not_true_eq_false, not_false_eq_true, Option.some.injEq, wd_s1n] at he9); subst he9))
    | (refine hX9 11 _ _ _ (ab_WB_sub ?_ ih); (repeat (first | exact ab_sub0 | (refine ab_sub1 ?_ ?_; (focus ((repeat (refine ab_skip rfl ?_)); first | exact List.mem_cons_self))))))
    | (intro v9 hv9; (try simp (disch := omega) only [ab_tI, ab_c0, wd_ix12, wd_ix8, wd_ix10, wd_up_self, wd_up_eq, wd_up_ne, Int.toNat_natCast, Int.toNat_of_nonneg, not_true_eq_false, not_false_eq_true, Option.some.injEq, hb2, wd_s1n] at hv9); subst hv9)
    | (apply i_get; (focus (exact rfl)); (focus (exact rfl)))
    | (refine hX9 _ _ _ _ (wd_rnC rfl ?_); clear hC9 hX9 X9 C9; intro C9 X9 hC9 hX9)
    | (refine i_brF (by decide) ?_)
    | (refine i_brT (by decide) ?_)
    | (refine ⟨fun hc => ?_, fun hc => ?_⟩ <;> (try simp (disch := omega) only [ab_tI, ab_c0, wd_ix12, wd_ix8, wd_ix10, wd_up_self, wd_up_eq, wd_up_ne, Int.toNat_natCast, Int.toNat_of_nonneg, not_true_eq_false, not_false_eq_true, Option.some.injEq, hb2, wd_s1n] at hc) <;> first | (exfalso; omega) | skip)
    | (apply i_cv; (focus (exact rfl)))
    | (apply i_len; (focus (exact rfl)))
    | (apply w_putI; (focus (exact rfl)); (focus (exact rfl)); (focus (exact rfl)); (focus (first | exact trivial | exact Or.inl rfl | exact Or.inr rfl)); (focus (exact rfl)))
    | (apply w_putP; (focus (exact rfl)); (focus (exact rfl)); (focus (exact rfl)); (focus (exact trivial)); (focus (exact rfl)))
    | (apply i_ialN; (focus (exact rfl)); (focus (first | exact Or.inl rfl | exact Or.inr rfl)); (focus (exact (by first | exact ⟨by decide, by decide⟩ | ((try simp (disch := omega) only [ab_tI, ab_c0, wd_ix12, wd_ix8, wd_ix10, wd_up_self, wd_up_eq, wd_up_ne, Int.toNat_natCast, Int.toNat_of_nonneg, not_true_eq_false, not_false_eq_true, Option.some.injEq, hb2, wd_s1n, ab_c0]); omega)))); (intro v9 hv9; (try simp (disch := omega) only [ab_tI, ab_c0, wd_ix12, wd_ix8, wd_ix10, wd_up_self, wd_up_eq, wd_up_ne, Int.toNat_natCast, Int.toNat_of_nonneg, not_true_eq_false, not_false_eq_true, Option.some.injEq, hb2, wd_s1n] at hv9); subst hv9))
    | (apply i_aalN; (focus (exact rfl)); (focus (exact (by first | exact ⟨by decide, by decide⟩ | ((try simp (disch := omega) only [ab_tI, ab_c0, wd_ix12, wd_ix8, wd_ix10, wd_up_self, wd_up_eq, wd_up_ne, Int.toNat_natCast, Int.toNat_of_nonneg, not_true_eq_false, not_false_eq_true, Option.some.injEq, hb2, wd_s1n, ab_c0]); omega)))); (intro v9 hv9; (try simp (disch := omega) only [ab_tI, ab_c0, wd_ix12, wd_ix8, wd_ix10, wd_up_self, wd_up_eq, wd_up_ne, Int.toNat_natCast, Int.toNat_of_nonneg, not_true_eq_false, not_false_eq_true, Option.some.injEq, hb2, wd_s1n] at hv9); subst hv9))
    | (apply w_iasI; (focus (exact rfl)); (focus (exact rfl)); (focus (exact (by first | exact ⟨by decide, by decide⟩ | ((try simp (disch := omega) only [ab_tI, ab_c0, wd_ix12, wd_ix8, wd_ix10, wd_up_self, wd_up_eq, wd_up_ne, Int.toNat_natCast, Int.toNat_of_nonneg, not_true_eq_false, not_false_eq_true, Option.some.injEq, hb2, wd_s1n, ab_c0]); omega)))); (focus (intro _; exact rfl)); (intro v9 hv9; (try simp (disch := omega) only [ab_tI, ab_c0, wd_ix12, wd_ix8, wd_ix10, wd_up_self, wd_up_eq, wd_up_ne, Int.toNat_natCast, Int.toNat_of_nonneg, not_true_eq_false, not_false_eq_true, Option.some.injEq, hb2, wd_s1n] at hv9); subst hv9))
    | (refine And.intro trivial ?_)
    | (refine And.intro (Or.inl rfl) ?_)
    | (refine And.intro (Or.inr rfl) ?_)
    | (refine And.intro (by ((try simp (disch := omega) only [ab_tI, ab_c0, wd_ix12, wd_ix8, wd_ix10, wd_up_self, wd_up_eq, wd_up_ne, Int.toNat_natCast, Int.toNat_of_nonneg, not_true_eq_false, not_false_eq_true, Option.some.injEq, hb2, wd_s1n]); omega)) ?_)
    | fail)
    all_goals (exfalso; omega)
set_option maxHeartbeats 4000000 in
set_option maxRecDepth 100000 in
theorem y_become (hd : 1 ≤ d) (hW : c_W T g k) {I : wd_I} {P : wd_P} {s c a : Nat} (hs : s < 12) (hok : s_ok T I P s c) (hQ : Q none (wd (s_becI I s c) (s_becP P s c a) M g, k, z)) : ab_CT d 62 [wd_v (18 + 5 * s), wd_v a] (wd I P M g, k, z) Q := by
  obtain ⟨hcn, hc10, ⟨b, hb, hTb⟩, ho⟩ := id hok
  have hcb := fun (P' : wd_P) (I' : wd_I) => c_W_c (I := I') (P := P') (M := M) (z := z) hW hTb
  unfold s_becI s_becP at hQ
  rw [hb] at hQ
  by_cases h10 : c = 10
  · subst h10
    rw [if_pos rfl, if_pos rfl] at hQ
    have hb2 : s_shift P s 9 (18 + 5 * s) 2 = some b := by rw [s_shift_ne (by omega)]; exact hb
    have hK : ab_WB d 62 Q 11 [(0, wd_v (18 + 5 * s)), (1, wd_v a), (2, .inl (ab_ii (((9 + 1 : Nat)) : Int)))] [] (wd I (s_shift P s 9) M g, k, z) := by
      have h1 := fun (I' : wd_I) (P' : wd_P) => w_sh (I := I') (P := P') (M := M) (g := g) (k := k) (z := z) hs
      have h2 := fun (I' : wd_I) (P' : wd_P) => w_so (I := I') (P := P') (M := M) (g := g) (k := k) (z := z) hs
      generalize s_shift P s 9 = P9 at *
      refine wd_rnC rfl ?_
      intro C9 X9 hC9 hX9
      (have chk9 := @hcn; clear chk9); (have chk9 := @hb2; clear chk9); repeat' ((conv => whnf); first
    | (apply i_getN; (focus (first | exact h1 _ _ | exact h2 _ _)); (focus (exact rfl)); (intro v9 hv9; (try simp (disch := omega) only [ab_tI, ab_c0, wd_ix12, wd_ix8, wd_ix10, wd_up_self, wd_up_eq, wd_up_ne, Int.toNat_natCast, Int.toNat_of_nonneg, not_true_eq_false, not_false_eq_true, Option.some.injEq, hcn, hb2] at hv9); subst hv9))
    | (apply i_cv; (focus (first | exact h1 _ _ | exact h2 _ _)))
    | (apply i_len; (focus (first | exact congrArg ab_len (h1 _ _) | exact congrArg ab_len (h2 _ _))))
    | (apply i_ialN; (focus (first | exact h1 _ _ | exact h2 _ _)); (focus (first | exact Or.inl rfl | exact Or.inr rfl)); (focus (exact (by first | exact ⟨by decide, by decide⟩ | ((try simp (disch := omega) only [ab_tI, ab_c0, wd_ix12, wd_ix8, wd_ix10, wd_up_self, wd_up_eq, wd_up_ne, Int.toNat_natCast, Int.toNat_of_nonneg, not_true_eq_false, not_false_eq_true, Option.some.injEq, hcn, hb2, ab_c0]); omega)))); (intro v9 hv9; (try simp (disch := omega) only [ab_tI, ab_c0, wd_ix12, wd_ix8, wd_ix10, wd_up_self, wd_up_eq, wd_up_ne, Int.toNat_natCast, Int.toNat_of_nonneg, not_true_eq_false, not_false_eq_true, Option.some.injEq, hcn, hb2] at hv9); subst hv9))
    | (apply i_aalN; (focus (first | exact h1 _ _ | exact h2 _ _)); (focus (exact (by first | exact ⟨by decide, by decide⟩ | ((try simp (disch := omega) only [ab_tI, ab_c0, wd_ix12, wd_ix8, wd_ix10, wd_up_self, wd_up_eq, wd_up_ne, Int.toNat_natCast, Int.toNat_of_nonneg, not_true_eq_false, not_false_eq_true, Option.some.injEq, hcn, hb2, ab_c0]); omega)))); (intro v9 hv9; (try simp (disch := omega) only [ab_tI, ab_c0, wd_ix12, wd_ix8, wd_ix10, wd_up_self, wd_up_eq, wd_up_ne, Int.toNat_natCast, Int.toNat_of_nonneg, not_true_eq_false, not_false_eq_true, Option.some.injEq, hcn, hb2] at hv9); subst hv9))
    | (apply w_shI hs)
    | (apply w_shP hs)
    | (apply w_soA hs; (focus (first | exact ⟨by decide, by decide⟩ | ((try simp (disch := omega) only [ab_tI, ab_c0, wd_ix12, wd_ix8, wd_ix10, wd_up_self, wd_up_eq, wd_up_ne, Int.toNat_natCast, Int.toNat_of_nonneg, not_true_eq_false, not_false_eq_true, Option.some.injEq, hcn]); omega))); (focus (intro v9 hv9; cases hv9; exact i_ex (hcb _ _))); (intro e9 he9; (try simp (disch := omega) only [ab_tI, ab_c0, wd_ix12, wd_ix8, wd_ix10, wd_up_self, wd_up_eq, wd_up_ne, Int.toNat_natCast, Int.toNat_of_nonneg, not_true_eq_false, not_false_eq_true, Option.some.injEq, hcn] at he9); subst he9))
    | (intro v9 hv9; (try simp (disch := omega) only [ab_tI, ab_c0, wd_ix12, wd_ix8, wd_ix10, wd_up_self, wd_up_eq, wd_up_ne, Int.toNat_natCast, Int.toNat_of_nonneg, not_true_eq_false, not_false_eq_true, Option.some.injEq, hcn, hb2] at hv9); subst hv9)
    | (apply i_get; (focus (exact rfl)); (focus (exact rfl)))
    | (refine hX9 _ _ _ _ (wd_rnC rfl ?_); clear hC9 hX9 X9 C9; intro C9 X9 hC9 hX9)
    | (refine i_brF (by decide) ?_)
    | (refine i_brT (by decide) ?_)
    | (refine ⟨fun hc => ?_, fun hc => ?_⟩ <;> (try simp (disch := omega) only [ab_tI, ab_c0, wd_ix12, wd_ix8, wd_ix10, wd_up_self, wd_up_eq, wd_up_ne, Int.toNat_natCast, Int.toNat_of_nonneg, not_true_eq_false, not_false_eq_true, Option.some.injEq, hcn, hb2] at hc) <;> first | (exfalso; omega) | skip)
    | (apply i_cv; (focus (exact rfl)))
    | (apply i_len; (focus (exact rfl)))
    | (apply w_putI; (focus (exact rfl)); (focus (exact rfl)); (focus (exact rfl)); (focus (first | exact trivial | exact Or.inl rfl | exact Or.inr rfl)); (focus (exact rfl)))
    | (apply w_putP; (focus (exact rfl)); (focus (exact rfl)); (focus (exact rfl)); (focus (exact trivial)); (focus (exact rfl)))
    | (apply i_ialN; (focus (exact rfl)); (focus (first | exact Or.inl rfl | exact Or.inr rfl)); (focus (exact (by first | exact ⟨by decide, by decide⟩ | ((try simp (disch := omega) only [ab_tI, ab_c0, wd_ix12, wd_ix8, wd_ix10, wd_up_self, wd_up_eq, wd_up_ne, Int.toNat_natCast, Int.toNat_of_nonneg, not_true_eq_false, not_false_eq_true, Option.some.injEq, hcn, hb2, ab_c0]); omega)))); (intro v9 hv9; (try simp (disch := omega) only [ab_tI, ab_c0, wd_ix12, wd_ix8, wd_ix10, wd_up_self, wd_up_eq, wd_up_ne, Int.toNat_natCast, Int.toNat_of_nonneg, not_true_eq_false, not_false_eq_true, Option.some.injEq, hcn, hb2] at hv9); subst hv9))
    | (apply i_aalN; (focus (exact rfl)); (focus (exact (by first | exact ⟨by decide, by decide⟩ | ((try simp (disch := omega) only [ab_tI, ab_c0, wd_ix12, wd_ix8, wd_ix10, wd_up_self, wd_up_eq, wd_up_ne, Int.toNat_natCast, Int.toNat_of_nonneg, not_true_eq_false, not_false_eq_true, Option.some.injEq, hcn, hb2, ab_c0]); omega)))); (intro v9 hv9; (try simp (disch := omega) only [ab_tI, ab_c0, wd_ix12, wd_ix8, wd_ix10, wd_up_self, wd_up_eq, wd_up_ne, Int.toNat_natCast, Int.toNat_of_nonneg, not_true_eq_false, not_false_eq_true, Option.some.injEq, hcn, hb2] at hv9); subst hv9))
    | (apply w_iasI; (focus (exact rfl)); (focus (exact rfl)); (focus (exact (by first | exact ⟨by decide, by decide⟩ | ((try simp (disch := omega) only [ab_tI, ab_c0, wd_ix12, wd_ix8, wd_ix10, wd_up_self, wd_up_eq, wd_up_ne, Int.toNat_natCast, Int.toNat_of_nonneg, not_true_eq_false, not_false_eq_true, Option.some.injEq, hcn, hb2, ab_c0]); omega)))); (focus (intro _; exact rfl)); (intro v9 hv9; (try simp (disch := omega) only [ab_tI, ab_c0, wd_ix12, wd_ix8, wd_ix10, wd_up_self, wd_up_eq, wd_up_ne, Int.toNat_natCast, Int.toNat_of_nonneg, not_true_eq_false, not_false_eq_true, Option.some.injEq, hcn, hb2] at hv9); subst hv9))
    | (refine And.intro trivial ?_)
    | (refine And.intro (Or.inl rfl) ?_)
    | (refine And.intro (Or.inr rfl) ?_)
    | (refine And.intro (by ((try simp (disch := omega) only [ab_tI, ab_c0, wd_ix12, wd_ix8, wd_ix10, wd_up_self, wd_up_eq, wd_up_ne, Int.toNat_natCast, Int.toNat_of_nonneg, not_true_eq_false, not_false_eq_true, Option.some.injEq, hcn, hb2]); omega)) ?_)
    | fail)
      all_goals first | exact hQ | (exfalso; omega)
    have hl := y_become_l hd hW hs hok hK 9 0 (by omega)
    have h1 := w_sh (I := I) (P := P) (M := M) (g := g) (k := k) (z := z) hs
    refine wd_inC rfl (by omega) rfl ?_
    intro C9 X9 hC9 hX9
    (have chk9 := @hcn; clear chk9); repeat' ((conv => whnf); first
    | (apply i_getN; (focus (first | exact h1)); (focus (exact rfl)); (intro v9 hv9; (try simp (disch := omega) only [ab_tI, ab_c0, wd_ix12, wd_ix8, wd_ix10, wd_up_self, wd_up_eq, wd_up_ne, Int.toNat_natCast, Int.toNat_of_nonneg, not_true_eq_false, not_false_eq_true, Option.some.injEq, hcn] at hv9); subst hv9))
    | (apply i_cv; (focus (first | exact h1)))
    | (apply i_len; (focus (first | exact congrArg ab_len (h1))))
    | (apply i_ialN; (focus (first | exact h1)); (focus (first | exact Or.inl rfl | exact Or.inr rfl)); (focus (exact (by first | exact ⟨by decide, by decide⟩ | ((try simp (disch := omega) only [ab_tI, ab_c0, wd_ix12, wd_ix8, wd_ix10, wd_up_self, wd_up_eq, wd_up_ne, Int.toNat_natCast, Int.toNat_of_nonneg, not_true_eq_false, not_false_eq_true, Option.some.injEq, hcn, ab_c0]); omega)))); (intro v9 hv9; (try simp (disch := omega) only [ab_tI, ab_c0, wd_ix12, wd_ix8, wd_ix10, wd_up_self, wd_up_eq, wd_up_ne, Int.toNat_natCast, Int.toNat_of_nonneg, not_true_eq_false, not_false_eq_true, Option.some.injEq, hcn] at hv9); subst hv9))
    | (apply i_aalN; (focus (first | exact h1)); (focus (exact (by first | exact ⟨by decide, by decide⟩ | ((try simp (disch := omega) only [ab_tI, ab_c0, wd_ix12, wd_ix8, wd_ix10, wd_up_self, wd_up_eq, wd_up_ne, Int.toNat_natCast, Int.toNat_of_nonneg, not_true_eq_false, not_false_eq_true, Option.some.injEq, hcn, ab_c0]); omega)))); (intro v9 hv9; (try simp (disch := omega) only [ab_tI, ab_c0, wd_ix12, wd_ix8, wd_ix10, wd_up_self, wd_up_eq, wd_up_ne, Int.toNat_natCast, Int.toNat_of_nonneg, not_true_eq_false, not_false_eq_true, Option.some.injEq, hcn] at hv9); subst hv9))
    | (refine hX9 11 _ _ _ (ab_WB_sub ?_ hl); (repeat (first | exact ab_sub0 | (refine ab_sub1 ?_ ?_; (focus ((repeat (refine ab_skip rfl ?_)); first | exact List.mem_cons_self))))))
    | (intro v9 hv9; (try simp (disch := omega) only [ab_tI, ab_c0, wd_ix12, wd_ix8, wd_ix10, wd_up_self, wd_up_eq, wd_up_ne, Int.toNat_natCast, Int.toNat_of_nonneg, not_true_eq_false, not_false_eq_true, Option.some.injEq, hcn] at hv9); subst hv9)
    | (apply i_get; (focus (exact rfl)); (focus (exact rfl)))
    | (refine hX9 _ _ _ _ (wd_rnC rfl ?_); clear hC9 hX9 X9 C9; intro C9 X9 hC9 hX9)
    | (refine i_brF (by decide) ?_)
    | (refine i_brT (by decide) ?_)
    | (refine ⟨fun hc => ?_, fun hc => ?_⟩ <;> (try simp (disch := omega) only [ab_tI, ab_c0, wd_ix12, wd_ix8, wd_ix10, wd_up_self, wd_up_eq, wd_up_ne, Int.toNat_natCast, Int.toNat_of_nonneg, not_true_eq_false, not_false_eq_true, Option.some.injEq, hcn] at hc) <;> first | (exfalso; omega) | skip)
    | (apply i_cv; (focus (exact rfl)))
    | (apply i_len; (focus (exact rfl)))
    | (apply w_putI; (focus (exact rfl)); (focus (exact rfl)); (focus (exact rfl)); (focus (first | exact trivial | exact Or.inl rfl | exact Or.inr rfl)); (focus (exact rfl)))
    | (apply w_putP; (focus (exact rfl)); (focus (exact rfl)); (focus (exact rfl)); (focus (exact trivial)); (focus (exact rfl)))
    | (apply i_ialN; (focus (exact rfl)); (focus (first | exact Or.inl rfl | exact Or.inr rfl)); (focus (exact (by first | exact ⟨by decide, by decide⟩ | ((try simp (disch := omega) only [ab_tI, ab_c0, wd_ix12, wd_ix8, wd_ix10, wd_up_self, wd_up_eq, wd_up_ne, Int.toNat_natCast, Int.toNat_of_nonneg, not_true_eq_false, not_false_eq_true, Option.some.injEq, hcn, ab_c0]); omega)))); (intro v9 hv9; (try simp (disch := omega) only [ab_tI, ab_c0, wd_ix12, wd_ix8, wd_ix10, wd_up_self, wd_up_eq, wd_up_ne, Int.toNat_natCast, Int.toNat_of_nonneg, not_true_eq_false, not_false_eq_true, Option.some.injEq, hcn] at hv9); subst hv9))
    | (apply i_aalN; (focus (exact rfl)); (focus (exact (by first | exact ⟨by decide, by decide⟩ | ((try simp (disch := omega) only [ab_tI, ab_c0, wd_ix12, wd_ix8, wd_ix10, wd_up_self, wd_up_eq, wd_up_ne, Int.toNat_natCast, Int.toNat_of_nonneg, not_true_eq_false, not_false_eq_true, Option.some.injEq, hcn, ab_c0]); omega)))); (intro v9 hv9; (try simp (disch := omega) only [ab_tI, ab_c0, wd_ix12, wd_ix8, wd_ix10, wd_up_self, wd_up_eq, wd_up_ne, Int.toNat_natCast, Int.toNat_of_nonneg, not_true_eq_false, not_false_eq_true, Option.some.injEq, hcn] at hv9); subst hv9))
    | (apply w_iasI; (focus (exact rfl)); (focus (exact rfl)); (focus (exact (by first | exact ⟨by decide, by decide⟩ | ((try simp (disch := omega) only [ab_tI, ab_c0, wd_ix12, wd_ix8, wd_ix10, wd_up_self, wd_up_eq, wd_up_ne, Int.toNat_natCast, Int.toNat_of_nonneg, not_true_eq_false, not_false_eq_true, Option.some.injEq, hcn, ab_c0]); omega)))); (focus (intro _; exact rfl)); (intro v9 hv9; (try simp (disch := omega) only [ab_tI, ab_c0, wd_ix12, wd_ix8, wd_ix10, wd_up_self, wd_up_eq, wd_up_ne, Int.toNat_natCast, Int.toNat_of_nonneg, not_true_eq_false, not_false_eq_true, Option.some.injEq, hcn] at hv9); subst hv9))
    | (refine And.intro trivial ?_)
    | (refine And.intro (Or.inl rfl) ?_)
    | (refine And.intro (Or.inr rfl) ?_)
    | (refine And.intro (by ((try simp (disch := omega) only [ab_tI, ab_c0, wd_ix12, wd_ix8, wd_ix10, wd_up_self, wd_up_eq, wd_up_ne, Int.toNat_natCast, Int.toNat_of_nonneg, not_true_eq_false, not_false_eq_true, Option.some.injEq, hcn]); omega)) ?_)
    | fail)
    all_goals (exfalso; omega)
  · rw [if_neg h10, if_neg h10] at hQ
    have h1 := fun (I' : wd_I) (P' : wd_P) => w_sh (I := I') (P := P') (M := M) (g := g) (k := k) (z := z) hs
    have h2 := fun (I' : wd_I) (P' : wd_P) => w_so (I := I') (P := P') (M := M) (g := g) (k := k) (z := z) hs
    refine wd_inC rfl (by omega) rfl ?_
    intro C9 X9 hC9 hX9
    (have chk9 := @hcn; clear chk9); (have chk9 := @hb; clear chk9); repeat' ((conv => whnf); first
    | (apply i_getN; (focus (first | exact h1 _ _ | exact h2 _ _)); (focus (exact rfl)); (intro v9 hv9; (try simp (disch := omega) only [ab_tI, ab_c0, wd_ix12, wd_ix8, wd_ix10, wd_up_self, wd_up_eq, wd_up_ne, Int.toNat_natCast, Int.toNat_of_nonneg, not_true_eq_false, not_false_eq_true, Option.some.injEq, hcn, hb] at hv9); subst hv9))
    | (apply i_cv; (focus (first | exact h1 _ _ | exact h2 _ _)))
    | (apply i_len; (focus (first | exact congrArg ab_len (h1 _ _) | exact congrArg ab_len (h2 _ _))))
    | (apply i_ialN; (focus (first | exact h1 _ _ | exact h2 _ _)); (focus (first | exact Or.inl rfl | exact Or.inr rfl)); (focus (exact (by first | exact ⟨by decide, by decide⟩ | ((try simp (disch := omega) only [ab_tI, ab_c0, wd_ix12, wd_ix8, wd_ix10, wd_up_self, wd_up_eq, wd_up_ne, Int.toNat_natCast, Int.toNat_of_nonneg, not_true_eq_false, not_false_eq_true, Option.some.injEq, hcn, hb, ab_c0]); omega)))); (intro v9 hv9; (try simp (disch := omega) only [ab_tI, ab_c0, wd_ix12, wd_ix8, wd_ix10, wd_up_self, wd_up_eq, wd_up_ne, Int.toNat_natCast, Int.toNat_of_nonneg, not_true_eq_false, not_false_eq_true, Option.some.injEq, hcn, hb] at hv9); subst hv9))
    | (apply i_aalN; (focus (first | exact h1 _ _ | exact h2 _ _)); (focus (exact (by first | exact ⟨by decide, by decide⟩ | ((try simp (disch := omega) only [ab_tI, ab_c0, wd_ix12, wd_ix8, wd_ix10, wd_up_self, wd_up_eq, wd_up_ne, Int.toNat_natCast, Int.toNat_of_nonneg, not_true_eq_false, not_false_eq_true, Option.some.injEq, hcn, hb, ab_c0]); omega)))); (intro v9 hv9; (try simp (disch := omega) only [ab_tI, ab_c0, wd_ix12, wd_ix8, wd_ix10, wd_up_self, wd_up_eq, wd_up_ne, Int.toNat_natCast, Int.toNat_of_nonneg, not_true_eq_false, not_false_eq_true, Option.some.injEq, hcn, hb] at hv9); subst hv9))
    | (apply w_shI hs)
    | (apply w_shP hs)
    | (apply w_soA hs; (focus (first | exact ⟨by decide, by decide⟩ | ((try simp (disch := omega) only [ab_tI, ab_c0, wd_ix12, wd_ix8, wd_ix10, wd_up_self, wd_up_eq, wd_up_ne, Int.toNat_natCast, Int.toNat_of_nonneg, not_true_eq_false, not_false_eq_true, Option.some.injEq, hcn]); omega))); (focus (intro v9 hv9; cases hv9; exact i_ex (hcb _ _))); (intro e9 he9; (try simp (disch := omega) only [ab_tI, ab_c0, wd_ix12, wd_ix8, wd_ix10, wd_up_self, wd_up_eq, wd_up_ne, Int.toNat_natCast, Int.toNat_of_nonneg, not_true_eq_false, not_false_eq_true, Option.some.injEq, hcn] at he9); subst he9))
    | (refine hX9 11 _ _ _ ?_; exfalso; omega)
    | (intro v9 hv9; (try simp (disch := omega) only [ab_tI, ab_c0, wd_ix12, wd_ix8, wd_ix10, wd_up_self, wd_up_eq, wd_up_ne, Int.toNat_natCast, Int.toNat_of_nonneg, not_true_eq_false, not_false_eq_true, Option.some.injEq, hcn, hb] at hv9); subst hv9)
    | (apply i_get; (focus (exact rfl)); (focus (exact rfl)))
    | (refine hX9 _ _ _ _ (wd_rnC rfl ?_); clear hC9 hX9 X9 C9; intro C9 X9 hC9 hX9)
    | (refine i_brF (by decide) ?_)
    | (refine i_brT (by decide) ?_)
    | (refine ⟨fun hc => ?_, fun hc => ?_⟩ <;> (try simp (disch := omega) only [ab_tI, ab_c0, wd_ix12, wd_ix8, wd_ix10, wd_up_self, wd_up_eq, wd_up_ne, Int.toNat_natCast, Int.toNat_of_nonneg, not_true_eq_false, not_false_eq_true, Option.some.injEq, hcn, hb] at hc) <;> first | (exfalso; omega) | skip)
    | (apply i_cv; (focus (exact rfl)))
    | (apply i_len; (focus (exact rfl)))
    | (apply w_putI; (focus (exact rfl)); (focus (exact rfl)); (focus (exact rfl)); (focus (first | exact trivial | exact Or.inl rfl | exact Or.inr rfl)); (focus (exact rfl)))
    | (apply w_putP; (focus (exact rfl)); (focus (exact rfl)); (focus (exact rfl)); (focus (exact trivial)); (focus (exact rfl)))
    | (apply i_ialN; (focus (exact rfl)); (focus (first | exact Or.inl rfl | exact Or.inr rfl)); (focus (exact (by first | exact ⟨by decide, by decide⟩ | ((try simp (disch := omega) only [ab_tI, ab_c0, wd_ix12, wd_ix8, wd_ix10, wd_up_self, wd_up_eq, wd_up_ne, Int.toNat_natCast, Int.toNat_of_nonneg, not_true_eq_false, not_false_eq_true, Option.some.injEq, hcn, hb, ab_c0]); omega)))); (intro v9 hv9; (try simp (disch := omega) only [ab_tI, ab_c0, wd_ix12, wd_ix8, wd_ix10, wd_up_self, wd_up_eq, wd_up_ne, Int.toNat_natCast, Int.toNat_of_nonneg, not_true_eq_false, not_false_eq_true, Option.some.injEq, hcn, hb] at hv9); subst hv9))
    | (apply i_aalN; (focus (exact rfl)); (focus (exact (by first | exact ⟨by decide, by decide⟩ | ((try simp (disch := omega) only [ab_tI, ab_c0, wd_ix12, wd_ix8, wd_ix10, wd_up_self, wd_up_eq, wd_up_ne, Int.toNat_natCast, Int.toNat_of_nonneg, not_true_eq_false, not_false_eq_true, Option.some.injEq, hcn, hb, ab_c0]); omega)))); (intro v9 hv9; (try simp (disch := omega) only [ab_tI, ab_c0, wd_ix12, wd_ix8, wd_ix10, wd_up_self, wd_up_eq, wd_up_ne, Int.toNat_natCast, Int.toNat_of_nonneg, not_true_eq_false, not_false_eq_true, Option.some.injEq, hcn, hb] at hv9); subst hv9))
    | (apply w_iasI; (focus (exact rfl)); (focus (exact rfl)); (focus (exact (by first | exact ⟨by decide, by decide⟩ | ((try simp (disch := omega) only [ab_tI, ab_c0, wd_ix12, wd_ix8, wd_ix10, wd_up_self, wd_up_eq, wd_up_ne, Int.toNat_natCast, Int.toNat_of_nonneg, not_true_eq_false, not_false_eq_true, Option.some.injEq, hcn, hb, ab_c0]); omega)))); (focus (intro _; exact rfl)); (intro v9 hv9; (try simp (disch := omega) only [ab_tI, ab_c0, wd_ix12, wd_ix8, wd_ix10, wd_up_self, wd_up_eq, wd_up_ne, Int.toNat_natCast, Int.toNat_of_nonneg, not_true_eq_false, not_false_eq_true, Option.some.injEq, hcn, hb] at hv9); subst hv9))
    | (refine And.intro trivial ?_)
    | (refine And.intro (Or.inl rfl) ?_)
    | (refine And.intro (Or.inr rfl) ?_)
    | (refine And.intro (by ((try simp (disch := omega) only [ab_tI, ab_c0, wd_ix12, wd_ix8, wd_ix10, wd_up_self, wd_up_eq, wd_up_ne, Int.toNat_natCast, Int.toNat_of_nonneg, not_true_eq_false, not_false_eq_true, Option.some.injEq, hcn, hb]); omega)) ?_)
    | fail)
    all_goals first | exact hQ | (exfalso; omega)
set_option maxHeartbeats 4000000 in
set_option maxRecDepth 100000 in
theorem y_lastOld (hd : 1 ≤ d) {I : wd_I} {P : wd_P} {s c : Nat} (hs : s < 12) (hcn : I (18 + 5 * s) 1 = ab_ii ((c + 1 : Nat) : Int)) (hc9 : c ≤ 9) {b : Nat} (hb : P (22 + 5 * s) c = some b) (hQ : Q none (wd (wd_up I (18 + 5 * s) 1 (ab_ii (c : Int))) (wd_up P (18 + 5 * s) 2 (some b)) M g, k, z)) : ab_CT d 63 [wd_v (18 + 5 * s)] (wd I P M g, k, z) Q := by
  have h1 := fun (I' : wd_I) (P' : wd_P) => w_sh (I := I') (P := P') (M := M) (g := g) (k := k) (z := z) hs
  have h2 := fun (I' : wd_I) (P' : wd_P) => w_so (I := I') (P := P') (M := M) (g := g) (k := k) (z := z) hs
  have e9 : ((c + 1 : Nat) : Int) - 1 = (c : Int) := by omega
  refine wd_inC rfl (by omega) rfl ?_
  intro C9 X9 hC9 hX9
  (have chk9 := @hcn; clear chk9); (have chk9 := @hb; clear chk9); repeat' ((conv => whnf); first
    | (apply i_getN; (focus (first | exact h1 _ _ | exact h2 _ _)); (focus (exact rfl)); (intro v9 hv9; (try simp (disch := omega) only [ab_tI, ab_c0, wd_ix12, wd_ix8, wd_ix10, wd_up_self, wd_up_eq, wd_up_ne, Int.toNat_natCast, Int.toNat_of_nonneg, not_true_eq_false, not_false_eq_true, Option.some.injEq, hcn, hb, e9] at hv9); subst hv9))
    | (apply i_cv; (focus (first | exact h1 _ _ | exact h2 _ _)))
    | (apply i_len; (focus (first | exact congrArg ab_len (h1 _ _) | exact congrArg ab_len (h2 _ _))))
    | (apply i_ialN; (focus (first | exact h1 _ _ | exact h2 _ _)); (focus (first | exact Or.inl rfl | exact Or.inr rfl)); (focus (exact (by first | exact ⟨by decide, by decide⟩ | ((try simp (disch := omega) only [ab_tI, ab_c0, wd_ix12, wd_ix8, wd_ix10, wd_up_self, wd_up_eq, wd_up_ne, Int.toNat_natCast, Int.toNat_of_nonneg, not_true_eq_false, not_false_eq_true, Option.some.injEq, hcn, hb, e9, ab_c0]); omega)))); (intro v9 hv9; (try simp (disch := omega) only [ab_tI, ab_c0, wd_ix12, wd_ix8, wd_ix10, wd_up_self, wd_up_eq, wd_up_ne, Int.toNat_natCast, Int.toNat_of_nonneg, not_true_eq_false, not_false_eq_true, Option.some.injEq, hcn, hb, e9] at hv9); subst hv9))
    | (apply i_aalN; (focus (first | exact h1 _ _ | exact h2 _ _)); (focus (exact (by first | exact ⟨by decide, by decide⟩ | ((try simp (disch := omega) only [ab_tI, ab_c0, wd_ix12, wd_ix8, wd_ix10, wd_up_self, wd_up_eq, wd_up_ne, Int.toNat_natCast, Int.toNat_of_nonneg, not_true_eq_false, not_false_eq_true, Option.some.injEq, hcn, hb, e9, ab_c0]); omega)))); (intro v9 hv9; (try simp (disch := omega) only [ab_tI, ab_c0, wd_ix12, wd_ix8, wd_ix10, wd_up_self, wd_up_eq, wd_up_ne, Int.toNat_natCast, Int.toNat_of_nonneg, not_true_eq_false, not_false_eq_true, Option.some.injEq, hcn, hb, e9] at hv9); subst hv9))
    | (apply w_shI hs)
    | (apply w_shP hs)
    | (intro v9 hv9; (try simp (disch := omega) only [ab_tI, ab_c0, wd_ix12, wd_ix8, wd_ix10, wd_up_self, wd_up_eq, wd_up_ne, Int.toNat_natCast, Int.toNat_of_nonneg, not_true_eq_false, not_false_eq_true, Option.some.injEq, hcn, hb, e9] at hv9); subst hv9)
    | (apply i_get; (focus (exact rfl)); (focus (exact rfl)))
    | (refine hX9 _ _ _ _ (wd_rnC rfl ?_); clear hC9 hX9 X9 C9; intro C9 X9 hC9 hX9)
    | (refine i_brF (by decide) ?_)
    | (refine i_brT (by decide) ?_)
    | (refine ⟨fun hc => ?_, fun hc => ?_⟩ <;> (try simp (disch := omega) only [ab_tI, ab_c0, wd_ix12, wd_ix8, wd_ix10, wd_up_self, wd_up_eq, wd_up_ne, Int.toNat_natCast, Int.toNat_of_nonneg, not_true_eq_false, not_false_eq_true, Option.some.injEq, hcn, hb, e9] at hc) <;> first | (exfalso; omega) | skip)
    | (apply i_cv; (focus (exact rfl)))
    | (apply i_len; (focus (exact rfl)))
    | (apply w_putI; (focus (exact rfl)); (focus (exact rfl)); (focus (exact rfl)); (focus (first | exact trivial | exact Or.inl rfl | exact Or.inr rfl)); (focus (exact rfl)))
    | (apply w_putP; (focus (exact rfl)); (focus (exact rfl)); (focus (exact rfl)); (focus (exact trivial)); (focus (exact rfl)))
    | (apply i_ialN; (focus (exact rfl)); (focus (first | exact Or.inl rfl | exact Or.inr rfl)); (focus (exact (by first | exact ⟨by decide, by decide⟩ | ((try simp (disch := omega) only [ab_tI, ab_c0, wd_ix12, wd_ix8, wd_ix10, wd_up_self, wd_up_eq, wd_up_ne, Int.toNat_natCast, Int.toNat_of_nonneg, not_true_eq_false, not_false_eq_true, Option.some.injEq, hcn, hb, e9, ab_c0]); omega)))); (intro v9 hv9; (try simp (disch := omega) only [ab_tI, ab_c0, wd_ix12, wd_ix8, wd_ix10, wd_up_self, wd_up_eq, wd_up_ne, Int.toNat_natCast, Int.toNat_of_nonneg, not_true_eq_false, not_false_eq_true, Option.some.injEq, hcn, hb, e9] at hv9); subst hv9))
    | (apply i_aalN; (focus (exact rfl)); (focus (exact (by first | exact ⟨by decide, by decide⟩ | ((try simp (disch := omega) only [ab_tI, ab_c0, wd_ix12, wd_ix8, wd_ix10, wd_up_self, wd_up_eq, wd_up_ne, Int.toNat_natCast, Int.toNat_of_nonneg, not_true_eq_false, not_false_eq_true, Option.some.injEq, hcn, hb, e9, ab_c0]); omega)))); (intro v9 hv9; (try simp (disch := omega) only [ab_tI, ab_c0, wd_ix12, wd_ix8, wd_ix10, wd_up_self, wd_up_eq, wd_up_ne, Int.toNat_natCast, Int.toNat_of_nonneg, not_true_eq_false, not_false_eq_true, Option.some.injEq, hcn, hb, e9] at hv9); subst hv9))
    | (apply w_iasI; (focus (exact rfl)); (focus (exact rfl)); (focus (exact (by first | exact ⟨by decide, by decide⟩ | ((try simp (disch := omega) only [ab_tI, ab_c0, wd_ix12, wd_ix8, wd_ix10, wd_up_self, wd_up_eq, wd_up_ne, Int.toNat_natCast, Int.toNat_of_nonneg, not_true_eq_false, not_false_eq_true, Option.some.injEq, hcn, hb, e9, ab_c0]); omega)))); (focus (intro _; exact rfl)); (intro v9 hv9; (try simp (disch := omega) only [ab_tI, ab_c0, wd_ix12, wd_ix8, wd_ix10, wd_up_self, wd_up_eq, wd_up_ne, Int.toNat_natCast, Int.toNat_of_nonneg, not_true_eq_false, not_false_eq_true, Option.some.injEq, hcn, hb, e9] at hv9); subst hv9))
    | (refine And.intro trivial ?_)
    | (refine And.intro (Or.inl rfl) ?_)
    | (refine And.intro (Or.inr rfl) ?_)
    | (refine And.intro (by ((try simp (disch := omega) only [ab_tI, ab_c0, wd_ix12, wd_ix8, wd_ix10, wd_up_self, wd_up_eq, wd_up_ne, Int.toNat_natCast, Int.toNat_of_nonneg, not_true_eq_false, not_false_eq_true, Option.some.injEq, hcn, hb, e9]); omega)) ?_)
    | fail)
  all_goals first | exact hQ | (exfalso; omega)
set_option maxHeartbeats 4000000 in
set_option maxRecDepth 100000 in
theorem y_restart (hd : 1 ≤ d) {I : wd_I} {P : wd_P} {s a : Nat} (hs : s < 12) (hQ : Q none (wd (wd_up I (18 + 5 * s) 1 (ab_ii 0)) (wd_up P (18 + 5 * s) 2 (some a)) M g, k, z)) : ab_CT d 64 [wd_v (18 + 5 * s), wd_v a] (wd I P M g, k, z) Q := by
  refine wd_inC rfl (by omega) rfl ?_
  intro C9 X9 hC9 hX9
  repeat' ((conv => whnf); first
    | (apply w_shI hs)
    | (apply w_shP hs)
    | (intro v9 hv9; (try simp (disch := omega) only [ab_tI, ab_c0, wd_ix12, wd_ix8, wd_ix10, wd_up_self, wd_up_eq, wd_up_ne, Int.toNat_natCast, Int.toNat_of_nonneg, not_true_eq_false, not_false_eq_true, Option.some.injEq] at hv9); subst hv9)
    | (apply i_get; (focus (exact rfl)); (focus (exact rfl)))
    | (refine hX9 _ _ _ _ (wd_rnC rfl ?_); clear hC9 hX9 X9 C9; intro C9 X9 hC9 hX9)
    | (refine i_brF (by decide) ?_)
    | (refine i_brT (by decide) ?_)
    | (refine ⟨fun hc => ?_, fun hc => ?_⟩ <;> (try simp (disch := omega) only [ab_tI, ab_c0, wd_ix12, wd_ix8, wd_ix10, wd_up_self, wd_up_eq, wd_up_ne, Int.toNat_natCast, Int.toNat_of_nonneg, not_true_eq_false, not_false_eq_true, Option.some.injEq] at hc) <;> first | (exfalso; omega) | skip)
    | (apply i_cv; (focus (exact rfl)))
    | (apply i_len; (focus (exact rfl)))
    | (apply w_putI; (focus (exact rfl)); (focus (exact rfl)); (focus (exact rfl)); (focus (first | exact trivial | exact Or.inl rfl | exact Or.inr rfl)); (focus (exact rfl)))
    | (apply w_putP; (focus (exact rfl)); (focus (exact rfl)); (focus (exact rfl)); (focus (exact trivial)); (focus (exact rfl)))
    | (apply i_ialN; (focus (exact rfl)); (focus (first | exact Or.inl rfl | exact Or.inr rfl)); (focus (exact (by first | exact ⟨by decide, by decide⟩ | ((try simp (disch := omega) only [ab_tI, ab_c0, wd_ix12, wd_ix8, wd_ix10, wd_up_self, wd_up_eq, wd_up_ne, Int.toNat_natCast, Int.toNat_of_nonneg, not_true_eq_false, not_false_eq_true, Option.some.injEq, ab_c0]); omega)))); (intro v9 hv9; (try simp (disch := omega) only [ab_tI, ab_c0, wd_ix12, wd_ix8, wd_ix10, wd_up_self, wd_up_eq, wd_up_ne, Int.toNat_natCast, Int.toNat_of_nonneg, not_true_eq_false, not_false_eq_true, Option.some.injEq] at hv9); subst hv9))
    | (apply i_aalN; (focus (exact rfl)); (focus (exact (by first | exact ⟨by decide, by decide⟩ | ((try simp (disch := omega) only [ab_tI, ab_c0, wd_ix12, wd_ix8, wd_ix10, wd_up_self, wd_up_eq, wd_up_ne, Int.toNat_natCast, Int.toNat_of_nonneg, not_true_eq_false, not_false_eq_true, Option.some.injEq, ab_c0]); omega)))); (intro v9 hv9; (try simp (disch := omega) only [ab_tI, ab_c0, wd_ix12, wd_ix8, wd_ix10, wd_up_self, wd_up_eq, wd_up_ne, Int.toNat_natCast, Int.toNat_of_nonneg, not_true_eq_false, not_false_eq_true, Option.some.injEq] at hv9); subst hv9))
    | (apply w_iasI; (focus (exact rfl)); (focus (exact rfl)); (focus (exact (by first | exact ⟨by decide, by decide⟩ | ((try simp (disch := omega) only [ab_tI, ab_c0, wd_ix12, wd_ix8, wd_ix10, wd_up_self, wd_up_eq, wd_up_ne, Int.toNat_natCast, Int.toNat_of_nonneg, not_true_eq_false, not_false_eq_true, Option.some.injEq, ab_c0]); omega)))); (focus (intro _; exact rfl)); (intro v9 hv9; (try simp (disch := omega) only [ab_tI, ab_c0, wd_ix12, wd_ix8, wd_ix10, wd_up_self, wd_up_eq, wd_up_ne, Int.toNat_natCast, Int.toNat_of_nonneg, not_true_eq_false, not_false_eq_true, Option.some.injEq] at hv9); subst hv9))
    | (refine And.intro trivial ?_)
    | (refine And.intro (Or.inl rfl) ?_)
    | (refine And.intro (Or.inr rfl) ?_)
    | (refine And.intro (by ((try simp (disch := omega) only [ab_tI, ab_c0, wd_ix12, wd_ix8, wd_ix10, wd_up_self, wd_up_eq, wd_up_ne, Int.toNat_natCast, Int.toNat_of_nonneg, not_true_eq_false, not_false_eq_true, Option.some.injEq]); omega)) ?_)
    | fail)
  all_goals first | exact hQ | (exfalso; omega)
set_option maxHeartbeats 4000000 in
set_option maxRecDepth 100000 in
theorem y_tadds (hd : 1 ≤ d) {I : wd_I} {P : wd_P} {m : Int32} (h0 : 0 ≤ (I 9 0).toInt ∧ (I 9 0).toInt ≤ 3000) (hm : 0 ≤ m.toInt ∧ m.toInt ≤ 100000) (hy : (I 9 0).toInt + m.toInt ≤ 3000 → Q (some (.inl (ab_ii 1))) (wd (wd_up I 9 0 (ab_ii ((I 9 0).toInt + m.toInt))) P M g, k, z)) (hn : 3000 < (I 9 0).toInt + m.toInt → Q (some (.inl (ab_ii 0))) (wd I P M g, k, z)) : ab_CT d 68 [wd_v 9, .inl m] (wd I P M g, k, z) Q := by
  refine wd_inC rfl (by omega) rfl ?_
  intro C9 X9 hC9 hX9
  repeat' ((conv => whnf); first
    | (intro v9 hv9; (try simp (disch := omega) only [ab_tI, ab_c0, wd_ix12, wd_ix8, wd_ix10, wd_up_self, wd_up_eq, wd_up_ne, Int.toNat_natCast, Int.toNat_of_nonneg, not_true_eq_false, not_false_eq_true, Option.some.injEq] at hv9); subst hv9)
    | (apply i_get; (focus (exact rfl)); (focus (exact rfl)))
    | (refine hX9 _ _ _ _ (wd_rnC rfl ?_); clear hC9 hX9 X9 C9; intro C9 X9 hC9 hX9)
    | (refine i_brF (by decide) ?_)
    | (refine i_brT (by decide) ?_)
    | (refine ⟨fun hc => ?_, fun hc => ?_⟩ <;> (try simp (disch := omega) only [ab_tI, ab_c0, wd_ix12, wd_ix8, wd_ix10, wd_up_self, wd_up_eq, wd_up_ne, Int.toNat_natCast, Int.toNat_of_nonneg, not_true_eq_false, not_false_eq_true, Option.some.injEq] at hc) <;> first | (exfalso; omega) | skip)
    | (apply i_cv; (focus (exact rfl)))
    | (apply i_len; (focus (exact rfl)))
    | (apply w_putI; (focus (exact rfl)); (focus (exact rfl)); (focus (exact rfl)); (focus (first | exact trivial | exact Or.inl rfl | exact Or.inr rfl)); (focus (exact rfl)))
    | (apply w_putP; (focus (exact rfl)); (focus (exact rfl)); (focus (exact rfl)); (focus (exact trivial)); (focus (exact rfl)))
    | (apply i_ialN; (focus (exact rfl)); (focus (first | exact Or.inl rfl | exact Or.inr rfl)); (focus (exact (by first | exact ⟨by decide, by decide⟩ | ((try simp (disch := omega) only [ab_tI, ab_c0, wd_ix12, wd_ix8, wd_ix10, wd_up_self, wd_up_eq, wd_up_ne, Int.toNat_natCast, Int.toNat_of_nonneg, not_true_eq_false, not_false_eq_true, Option.some.injEq, ab_c0]); omega)))); (intro v9 hv9; (try simp (disch := omega) only [ab_tI, ab_c0, wd_ix12, wd_ix8, wd_ix10, wd_up_self, wd_up_eq, wd_up_ne, Int.toNat_natCast, Int.toNat_of_nonneg, not_true_eq_false, not_false_eq_true, Option.some.injEq] at hv9); subst hv9))
    | (apply i_aalN; (focus (exact rfl)); (focus (exact (by first | exact ⟨by decide, by decide⟩ | ((try simp (disch := omega) only [ab_tI, ab_c0, wd_ix12, wd_ix8, wd_ix10, wd_up_self, wd_up_eq, wd_up_ne, Int.toNat_natCast, Int.toNat_of_nonneg, not_true_eq_false, not_false_eq_true, Option.some.injEq, ab_c0]); omega)))); (intro v9 hv9; (try simp (disch := omega) only [ab_tI, ab_c0, wd_ix12, wd_ix8, wd_ix10, wd_up_self, wd_up_eq, wd_up_ne, Int.toNat_natCast, Int.toNat_of_nonneg, not_true_eq_false, not_false_eq_true, Option.some.injEq] at hv9); subst hv9))
    | (apply w_iasI; (focus (exact rfl)); (focus (exact rfl)); (focus (exact (by first | exact ⟨by decide, by decide⟩ | ((try simp (disch := omega) only [ab_tI, ab_c0, wd_ix12, wd_ix8, wd_ix10, wd_up_self, wd_up_eq, wd_up_ne, Int.toNat_natCast, Int.toNat_of_nonneg, not_true_eq_false, not_false_eq_true, Option.some.injEq, ab_c0]); omega)))); (focus (intro _; exact rfl)); (intro v9 hv9; (try simp (disch := omega) only [ab_tI, ab_c0, wd_ix12, wd_ix8, wd_ix10, wd_up_self, wd_up_eq, wd_up_ne, Int.toNat_natCast, Int.toNat_of_nonneg, not_true_eq_false, not_false_eq_true, Option.some.injEq] at hv9); subst hv9))
    | (refine And.intro trivial ?_)
    | (refine And.intro (Or.inl rfl) ?_)
    | (refine And.intro (Or.inr rfl) ?_)
    | (refine And.intro (by ((try simp (disch := omega) only [ab_tI, ab_c0, wd_ix12, wd_ix8, wd_ix10, wd_up_self, wd_up_eq, wd_up_ne, Int.toNat_natCast, Int.toNat_of_nonneg, not_true_eq_false, not_false_eq_true, Option.some.injEq]); omega)) ?_)
    | fail)
  all_goals first | exact hy (by omega) | exact hn (by omega) | (exfalso; omega)
set_option maxHeartbeats 4000000 in
set_option maxRecDepth 100000 in
theorem y_troom (hd : 1 ≤ d) {I : wd_I} {P : wd_P} {m : Int32} (h0 : 0 ≤ (I 9 0).toInt ∧ (I 9 0).toInt ≤ 3000) (hm : 0 ≤ m.toInt ∧ m.toInt ≤ 100000) (hy : (I 9 0).toInt + m.toInt ≤ 3000 → Q (some (.inl (ab_ii 1))) (wd I P M g, k, z)) (hn : 3000 < (I 9 0).toInt + m.toInt → Q (some (.inl (ab_ii 0))) (wd I P M g, k, z)) : ab_CT d 67 [wd_v 9, .inl m] (wd I P M g, k, z) Q := by
  refine wd_inC rfl (by omega) rfl ?_
  intro C9 X9 hC9 hX9
  repeat' ((conv => whnf); first
    | (intro v9 hv9; (try simp (disch := omega) only [ab_tI, ab_c0, wd_ix12, wd_ix8, wd_ix10, wd_up_self, wd_up_eq, wd_up_ne, Int.toNat_natCast, Int.toNat_of_nonneg, not_true_eq_false, not_false_eq_true, Option.some.injEq] at hv9); subst hv9)
    | (apply i_get; (focus (exact rfl)); (focus (exact rfl)))
    | (refine hX9 _ _ _ _ (wd_rnC rfl ?_); clear hC9 hX9 X9 C9; intro C9 X9 hC9 hX9)
    | (refine i_brF (by decide) ?_)
    | (refine i_brT (by decide) ?_)
    | (refine ⟨fun hc => ?_, fun hc => ?_⟩ <;> (try simp (disch := omega) only [ab_tI, ab_c0, wd_ix12, wd_ix8, wd_ix10, wd_up_self, wd_up_eq, wd_up_ne, Int.toNat_natCast, Int.toNat_of_nonneg, not_true_eq_false, not_false_eq_true, Option.some.injEq] at hc) <;> first | (exfalso; omega) | skip)
    | (apply i_cv; (focus (exact rfl)))
    | (apply i_len; (focus (exact rfl)))
    | (apply w_putI; (focus (exact rfl)); (focus (exact rfl)); (focus (exact rfl)); (focus (first | exact trivial | exact Or.inl rfl | exact Or.inr rfl)); (focus (exact rfl)))
    | (apply w_putP; (focus (exact rfl)); (focus (exact rfl)); (focus (exact rfl)); (focus (exact trivial)); (focus (exact rfl)))
    | (apply i_ialN; (focus (exact rfl)); (focus (first | exact Or.inl rfl | exact Or.inr rfl)); (focus (exact (by first | exact ⟨by decide, by decide⟩ | ((try simp (disch := omega) only [ab_tI, ab_c0, wd_ix12, wd_ix8, wd_ix10, wd_up_self, wd_up_eq, wd_up_ne, Int.toNat_natCast, Int.toNat_of_nonneg, not_true_eq_false, not_false_eq_true, Option.some.injEq, ab_c0]); omega)))); (intro v9 hv9; (try simp (disch := omega) only [ab_tI, ab_c0, wd_ix12, wd_ix8, wd_ix10, wd_up_self, wd_up_eq, wd_up_ne, Int.toNat_natCast, Int.toNat_of_nonneg, not_true_eq_false, not_false_eq_true, Option.some.injEq] at hv9); subst hv9))
    | (apply i_aalN; (focus (exact rfl)); (focus (exact (by first | exact ⟨by decide, by decide⟩ | ((try simp (disch := omega) only [ab_tI, ab_c0, wd_ix12, wd_ix8, wd_ix10, wd_up_self, wd_up_eq, wd_up_ne, Int.toNat_natCast, Int.toNat_of_nonneg, not_true_eq_false, not_false_eq_true, Option.some.injEq, ab_c0]); omega)))); (intro v9 hv9; (try simp (disch := omega) only [ab_tI, ab_c0, wd_ix12, wd_ix8, wd_ix10, wd_up_self, wd_up_eq, wd_up_ne, Int.toNat_natCast, Int.toNat_of_nonneg, not_true_eq_false, not_false_eq_true, Option.some.injEq] at hv9); subst hv9))
    | (apply w_iasI; (focus (exact rfl)); (focus (exact rfl)); (focus (exact (by first | exact ⟨by decide, by decide⟩ | ((try simp (disch := omega) only [ab_tI, ab_c0, wd_ix12, wd_ix8, wd_ix10, wd_up_self, wd_up_eq, wd_up_ne, Int.toNat_natCast, Int.toNat_of_nonneg, not_true_eq_false, not_false_eq_true, Option.some.injEq, ab_c0]); omega)))); (focus (intro _; exact rfl)); (intro v9 hv9; (try simp (disch := omega) only [ab_tI, ab_c0, wd_ix12, wd_ix8, wd_ix10, wd_up_self, wd_up_eq, wd_up_ne, Int.toNat_natCast, Int.toNat_of_nonneg, not_true_eq_false, not_false_eq_true, Option.some.injEq] at hv9); subst hv9))
    | (refine And.intro trivial ?_)
    | (refine And.intro (Or.inl rfl) ?_)
    | (refine And.intro (Or.inr rfl) ?_)
    | (refine And.intro (by ((try simp (disch := omega) only [ab_tI, ab_c0, wd_ix12, wd_ix8, wd_ix10, wd_up_self, wd_up_eq, wd_up_ne, Int.toNat_natCast, Int.toNat_of_nonneg, not_true_eq_false, not_false_eq_true, Option.some.injEq]); omega)) ?_)
    | fail)
  all_goals first | exact hy (by omega) | exact hn (by omega) | (exfalso; omega)
set_option maxHeartbeats 4000000 in
set_option maxRecDepth 100000 in
theorem y_tsum (hd : 1 ≤ d) {I : wd_I} {P : wd_P} (hQ : Q (some (.inl (I 9 0))) (wd I P M g, k, z)) : ab_CT d 66 [wd_v 9] (wd I P M g, k, z) Q := by
  refine wd_inC rfl (by omega) rfl ?_
  intro C9 X9 hC9 hX9
  repeat' ((conv => whnf); first
    | (intro v9 hv9; (try simp (disch := omega) only [ab_tI, ab_c0, wd_ix12, wd_ix8, wd_ix10, wd_up_self, wd_up_eq, wd_up_ne, Int.toNat_natCast, Int.toNat_of_nonneg, not_true_eq_false, not_false_eq_true, Option.some.injEq] at hv9); subst hv9)
    | (apply i_get; (focus (exact rfl)); (focus (exact rfl)))
    | (refine hX9 _ _ _ _ (wd_rnC rfl ?_); clear hC9 hX9 X9 C9; intro C9 X9 hC9 hX9)
    | (refine i_brF (by decide) ?_)
    | (refine i_brT (by decide) ?_)
    | (refine ⟨fun hc => ?_, fun hc => ?_⟩ <;> (try simp (disch := omega) only [ab_tI, ab_c0, wd_ix12, wd_ix8, wd_ix10, wd_up_self, wd_up_eq, wd_up_ne, Int.toNat_natCast, Int.toNat_of_nonneg, not_true_eq_false, not_false_eq_true, Option.some.injEq] at hc) <;> first | (exfalso; omega) | skip)
    | (apply i_cv; (focus (exact rfl)))
    | (apply i_len; (focus (exact rfl)))
    | (apply w_putI; (focus (exact rfl)); (focus (exact rfl)); (focus (exact rfl)); (focus (first | exact trivial | exact Or.inl rfl | exact Or.inr rfl)); (focus (exact rfl)))
    | (apply w_putP; (focus (exact rfl)); (focus (exact rfl)); (focus (exact rfl)); (focus (exact trivial)); (focus (exact rfl)))
    | (apply i_ialN; (focus (exact rfl)); (focus (first | exact Or.inl rfl | exact Or.inr rfl)); (focus (exact (by first | exact ⟨by decide, by decide⟩ | ((try simp (disch := omega) only [ab_tI, ab_c0, wd_ix12, wd_ix8, wd_ix10, wd_up_self, wd_up_eq, wd_up_ne, Int.toNat_natCast, Int.toNat_of_nonneg, not_true_eq_false, not_false_eq_true, Option.some.injEq, ab_c0]); omega)))); (intro v9 hv9; (try simp (disch := omega) only [ab_tI, ab_c0, wd_ix12, wd_ix8, wd_ix10, wd_up_self, wd_up_eq, wd_up_ne, Int.toNat_natCast, Int.toNat_of_nonneg, not_true_eq_false, not_false_eq_true, Option.some.injEq] at hv9); subst hv9))
    | (apply i_aalN; (focus (exact rfl)); (focus (exact (by first | exact ⟨by decide, by decide⟩ | ((try simp (disch := omega) only [ab_tI, ab_c0, wd_ix12, wd_ix8, wd_ix10, wd_up_self, wd_up_eq, wd_up_ne, Int.toNat_natCast, Int.toNat_of_nonneg, not_true_eq_false, not_false_eq_true, Option.some.injEq, ab_c0]); omega)))); (intro v9 hv9; (try simp (disch := omega) only [ab_tI, ab_c0, wd_ix12, wd_ix8, wd_ix10, wd_up_self, wd_up_eq, wd_up_ne, Int.toNat_natCast, Int.toNat_of_nonneg, not_true_eq_false, not_false_eq_true, Option.some.injEq] at hv9); subst hv9))
    | (apply w_iasI; (focus (exact rfl)); (focus (exact rfl)); (focus (exact (by first | exact ⟨by decide, by decide⟩ | ((try simp (disch := omega) only [ab_tI, ab_c0, wd_ix12, wd_ix8, wd_ix10, wd_up_self, wd_up_eq, wd_up_ne, Int.toNat_natCast, Int.toNat_of_nonneg, not_true_eq_false, not_false_eq_true, Option.some.injEq, ab_c0]); omega)))); (focus (intro _; exact rfl)); (intro v9 hv9; (try simp (disch := omega) only [ab_tI, ab_c0, wd_ix12, wd_ix8, wd_ix10, wd_up_self, wd_up_eq, wd_up_ne, Int.toNat_natCast, Int.toNat_of_nonneg, not_true_eq_false, not_false_eq_true, Option.some.injEq] at hv9); subst hv9))
    | (refine And.intro trivial ?_)
    | (refine And.intro (Or.inl rfl) ?_)
    | (refine And.intro (Or.inr rfl) ?_)
    | (refine And.intro (by ((try simp (disch := omega) only [ab_tI, ab_c0, wd_ix12, wd_ix8, wd_ix10, wd_up_self, wd_up_eq, wd_up_ne, Int.toNat_natCast, Int.toNat_of_nonneg, not_true_eq_false, not_false_eq_true, Option.some.injEq]); omega)) ?_)
    | fail)
  exact hQ
end
