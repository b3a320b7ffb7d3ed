/-! ===== texts: a text, a number, a letter put behind a builder's (own text) ===== -/
section
variable {d : Nat} {F : Nat → ab_C} {k z : Nat} {Q : ab_Q} {x v N n : Nat}

set_option maxHeartbeats 4000000 in
set_option maxRecDepth 100000 in
theorem j_inflate (hd : 2 ≤ d) {s : Nat} {w m c w' : ab_V} {tl : List ab_V} (hs0 : F (ab_scr + 130) = ab_ob 998 [.inl 1]) (h1 : F x = ab_ob 14 [w, .inl 0, m, c]) (h3 : F s = ab_ob 13 (w' :: .inl 0 :: tl)) (hQ : Q none (F, k, z)) : ab_CT d 151 [wd_v x, wd_v s] (F, k, z) Q := by
  refine wd_inC rfl (by omega) rfl ?_
  intro C9 X9 hC9 hX9
  repeat' ((conv => whnf); first
    | (apply i_getN; (focus (first | exact h1 | exact h3)); (focus (exact rfl)); (intro v9 hv9; (try simp (disch := omega) only [ab_tI, ab_c0, wd_ix12, wd_ix8, wd_ix10, wd_up_self, wd_up_eq, wd_up_ne, Int.toNat_natCast, Int.toNat_of_nonneg, not_true_eq_false, not_false_eq_true, Option.some.injEq, st_shr, st_shl] at hv9); subst hv9))
    | (apply i_cv; (focus (first | exact h1 | exact h3)))
    | (apply i_len; (focus (first | exact congrArg ab_len (h1) | exact congrArg ab_len (h3))))
    | (apply i_ialN; (focus (first | exact h1 | exact h3)); (focus (first | exact Or.inl rfl | exact Or.inr rfl)); (focus (exact (by first | exact ⟨by decide, by decide⟩ | ((try simp (disch := omega) only [ab_tI, ab_c0, wd_ix12, wd_ix8, wd_ix10, wd_up_self, wd_up_eq, wd_up_ne, Int.toNat_natCast, Int.toNat_of_nonneg, not_true_eq_false, not_false_eq_true, Option.some.injEq, st_shr, st_shl, ab_c0]); omega)))); (intro v9 hv9; (try simp (disch := omega) only [ab_tI, ab_c0, wd_ix12, wd_ix8, wd_ix10, wd_up_self, wd_up_eq, wd_up_ne, Int.toNat_natCast, Int.toNat_of_nonneg, not_true_eq_false, not_false_eq_true, Option.some.injEq, st_shr, st_shl] at hv9); subst hv9))
    | (apply i_aalN; (focus (first | exact h1 | exact h3)); (focus (exact (by first | exact ⟨by decide, by decide⟩ | ((try simp (disch := omega) only [ab_tI, ab_c0, wd_ix12, wd_ix8, wd_ix10, wd_up_self, wd_up_eq, wd_up_ne, Int.toNat_natCast, Int.toNat_of_nonneg, not_true_eq_false, not_false_eq_true, Option.some.injEq, st_shr, st_shl, ab_c0]); omega)))); (intro v9 hv9; (try simp (disch := omega) only [ab_tI, ab_c0, wd_ix12, wd_ix8, wd_ix10, wd_up_self, wd_up_eq, wd_up_ne, Int.toNat_natCast, Int.toNat_of_nonneg, not_true_eq_false, not_false_eq_true, Option.some.injEq, st_shr, st_shl] at hv9); subst hv9))
    | (refine s_sta hs0 ?_)
    | (refine hC9 160 _ _ _ (j_coder (by omega) hs0 h3 ?_))
    | (intro v9 hv9; (try simp (disch := omega) only [ab_tI, ab_c0, wd_ix12, wd_ix8, wd_ix10, wd_up_self, wd_up_eq, wd_up_ne, Int.toNat_natCast, Int.toNat_of_nonneg, not_true_eq_false, not_false_eq_true, Option.some.injEq, st_shr, st_shl] at hv9); subst hv9)
    | (apply i_get; (focus (exact rfl)); (focus (exact rfl)))
    | (refine hX9 _ _ _ _ (wd_rnC rfl ?_); clear hC9 hX9 X9 C9; intro C9 X9 hC9 hX9)
    | (refine i_brF (by decide) ?_)
    | (refine i_brT (by decide) ?_)
    | (refine ⟨fun hc => ?_, fun hc => ?_⟩ <;> (try simp (disch := omega) only [ab_tI, ab_c0, wd_ix12, wd_ix8, wd_ix10, wd_up_self, wd_up_eq, wd_up_ne, Int.toNat_natCast, Int.toNat_of_nonneg, not_true_eq_false, not_false_eq_true, Option.some.injEq, st_shr, st_shl] at hc) <;> first | (exfalso; omega) | skip)
    | (apply i_cv; (focus (exact rfl)))
    | (refine And.intro trivial ?_)
    | (refine And.intro (Or.inl rfl) ?_)
    | (refine And.intro (Or.inr rfl) ?_)
    | (refine And.intro (by ((try simp (disch := omega) only [ab_tI, ab_c0, wd_ix12, wd_ix8, wd_ix10, wd_up_self, wd_up_eq, wd_up_ne, Int.toNat_natCast, Int.toNat_of_nonneg, not_true_eq_false, not_false_eq_true, Option.some.injEq, st_shr, st_shl]); omega)) ?_)
    | fail)
  all_goals first | exact hQ | (exfalso; omega)
set_option maxHeartbeats 4000000 in
set_option maxRecDepth 100000 in
theorem j_getBytes (hd : 2 ≤ d) {s w m : Nat} {i : Int32} {f fw : Nat → Int32} {tl : List ab_V} (hs0 : F (ab_scr + 130) = ab_ob 998 [.inl 1]) (h2 : F v = ab_ia 1 N f) (hv : v < 600000) (h3 : F s = ab_ob 13 (.inr (.inr (some w)) :: .inl 0 :: tl)) (h4 : F w = ab_ia 1 m fw) (hi : 0 ≤ i.toInt) (him : i.toInt + m ≤ (N : Int)) (hN : N ≤ 1000) (hQ : ∀ F' g', F' v = ab_ia 1 N g' → (∀ y, y ≠ v → F' y = F y) → Q none (F', k, z)) : ab_CT d 158 [wd_v s, wd_v v, .inl i, .inl 0] (F, k, z) Q := by
  have hscr : 700000 ≤ ab_scr := by decide
  have e1 : (ab_ii (m : Int)).toInt = (m : Int) := ab_tI (by omega) (by omega)
  have e0 : (ab_ii 0).toInt = 0 := by decide
  have es : (i <<< ((0 : Int32) &&& 31)).toInt = i.toInt := by rw [st_shl]
  refine wd_inC rfl (by omega) rfl ?_
  intro C9 X9 hC9 hX9
  repeat' ((conv => whnf); first
    | (apply i_getN; (focus (first | exact h3 | exact h4)); (focus (exact rfl)); (intro v9 hv9; (try simp (disch := omega) only [ab_tI, ab_c0, wd_ix12, wd_ix8, wd_ix10, wd_up_self, wd_up_eq, wd_up_ne, Int.toNat_natCast, Int.toNat_of_nonneg, not_true_eq_false, not_false_eq_true, Option.some.injEq, st_shr, st_shl] at hv9); subst hv9))
    | (apply i_cv; (focus (first | exact h3 | exact h4)))
    | (apply i_len; (focus (first | exact congrArg ab_len (h3) | exact congrArg ab_len (h4))))
    | (apply i_ialN; (focus (first | exact h3 | exact h4)); (focus (first | exact Or.inl rfl | exact Or.inr rfl)); (focus (exact (by first | exact ⟨by decide, by decide⟩ | ((try simp (disch := omega) only [ab_tI, ab_c0, wd_ix12, wd_ix8, wd_ix10, wd_up_self, wd_up_eq, wd_up_ne, Int.toNat_natCast, Int.toNat_of_nonneg, not_true_eq_false, not_false_eq_true, Option.some.injEq, st_shr, st_shl, ab_c0]); omega)))); (intro v9 hv9; (try simp (disch := omega) only [ab_tI, ab_c0, wd_ix12, wd_ix8, wd_ix10, wd_up_self, wd_up_eq, wd_up_ne, Int.toNat_natCast, Int.toNat_of_nonneg, not_true_eq_false, not_false_eq_true, Option.some.injEq, st_shr, st_shl] at hv9); subst hv9))
    | (apply i_aalN; (focus (first | exact h3 | exact h4)); (focus (exact (by first | exact ⟨by decide, by decide⟩ | ((try simp (disch := omega) only [ab_tI, ab_c0, wd_ix12, wd_ix8, wd_ix10, wd_up_self, wd_up_eq, wd_up_ne, Int.toNat_natCast, Int.toNat_of_nonneg, not_true_eq_false, not_false_eq_true, Option.some.injEq, st_shr, st_shl, ab_c0]); omega)))); (intro v9 hv9; (try simp (disch := omega) only [ab_tI, ab_c0, wd_ix12, wd_ix8, wd_ix10, wd_up_self, wd_up_eq, wd_up_ne, Int.toNat_natCast, Int.toNat_of_nonneg, not_true_eq_false, not_false_eq_true, Option.some.injEq, st_shr, st_shl] at hv9); subst hv9))
    | (refine hC9 160 _ _ _ (j_coder (by omega) hs0 h3 ?_))
    | (refine s_cpy h4 h2 (by omega) ⟨by decide, by omega, by omega⟩ ⟨by omega, by omega⟩ (fun F2 g' g3 g4 => ?_))
    | (intro v9 hv9; (try simp (disch := omega) only [ab_tI, ab_c0, wd_ix12, wd_ix8, wd_ix10, wd_up_self, wd_up_eq, wd_up_ne, Int.toNat_natCast, Int.toNat_of_nonneg, not_true_eq_false, not_false_eq_true, Option.some.injEq, st_shr, st_shl] at hv9); subst hv9)
    | (apply i_get; (focus (exact rfl)); (focus (exact rfl)))
    | (refine hX9 _ _ _ _ (wd_rnC rfl ?_); clear hC9 hX9 X9 C9; intro C9 X9 hC9 hX9)
    | (refine i_brF (by decide) ?_)
    | (refine i_brT (by decide) ?_)
    | (refine ⟨fun hc => ?_, fun hc => ?_⟩ <;> (try simp (disch := omega) only [ab_tI, ab_c0, wd_ix12, wd_ix8, wd_ix10, wd_up_self, wd_up_eq, wd_up_ne, Int.toNat_natCast, Int.toNat_of_nonneg, not_true_eq_false, not_false_eq_true, Option.some.injEq, st_shr, st_shl] at hc) <;> first | (exfalso; omega) | skip)
    | (apply i_cv; (focus (exact rfl)))
    | (refine And.intro trivial ?_)
    | (refine And.intro (Or.inl rfl) ?_)
    | (refine And.intro (Or.inr rfl) ?_)
    | (refine And.intro (by ((try simp (disch := omega) only [ab_tI, ab_c0, wd_ix12, wd_ix8, wd_ix10, wd_up_self, wd_up_eq, wd_up_ne, Int.toNat_natCast, Int.toNat_of_nonneg, not_true_eq_false, not_false_eq_true, Option.some.injEq, st_shr, st_shl]); omega)) ?_)
    | fail)
  all_goals first | exact hQ _ _ g3 g4 | (exfalso; omega)
set_option maxHeartbeats 4000000 in
set_option maxRecDepth 100000 in
theorem j_putS (hd : 3 ≤ d) {s w m : Nat} {i : Int32} {f fw : Nat → Int32} {mm cc : ab_V} {tl : List ab_V} (hs0 : F (ab_scr + 130) = ab_ob 998 [.inl 1]) (h1 : F x = ab_ob 14 [.inr (.inr (some v)), .inl 0, mm, cc]) (h2 : F v = ab_ia 1 N f) (hv : v < 600000) (h3 : F s = ab_ob 13 (.inr (.inr (some w)) :: .inl 0 :: tl)) (h4 : F w = ab_ia 1 m fw) (hi : 0 ≤ i.toInt) (him : i.toInt + m ≤ (N : Int)) (hN : N ≤ 1000) (hQ : ∀ F' g', F' v = ab_ia 1 N g' → (∀ y, y ≠ v → F' y = F y) → Q none (F', k, z)) : ab_CT d 152 [wd_v x, .inl i, wd_v s] (F, k, z) Q := by
  refine wd_inC rfl (by omega) rfl ?_
  intro C9 X9 hC9 hX9
  repeat' ((conv => whnf); first
    | (apply i_getN; (focus (first | exact h1 | exact h3)); (focus (exact rfl)); (intro v9 hv9; (try simp (disch := omega) only [ab_tI, ab_c0, wd_ix12, wd_ix8, wd_ix10, wd_up_self, wd_up_eq, wd_up_ne, Int.toNat_natCast, Int.toNat_of_nonneg, not_true_eq_false, not_false_eq_true, Option.some.injEq, st_shr, st_shl] at hv9); subst hv9))
    | (apply i_cv; (focus (first | exact h1 | exact h3)))
    | (apply i_len; (focus (first | exact congrArg ab_len (h1) | exact congrArg ab_len (h3))))
    | (apply i_ialN; (focus (first | exact h1 | exact h3)); (focus (first | exact Or.inl rfl | exact Or.inr rfl)); (focus (exact (by first | exact ⟨by decide, by decide⟩ | ((try simp (disch := omega) only [ab_tI, ab_c0, wd_ix12, wd_ix8, wd_ix10, wd_up_self, wd_up_eq, wd_up_ne, Int.toNat_natCast, Int.toNat_of_nonneg, not_true_eq_false, not_false_eq_true, Option.some.injEq, st_shr, st_shl, ab_c0]); omega)))); (intro v9 hv9; (try simp (disch := omega) only [ab_tI, ab_c0, wd_ix12, wd_ix8, wd_ix10, wd_up_self, wd_up_eq, wd_up_ne, Int.toNat_natCast, Int.toNat_of_nonneg, not_true_eq_false, not_false_eq_true, Option.some.injEq, st_shr, st_shl] at hv9); subst hv9))
    | (apply i_aalN; (focus (first | exact h1 | exact h3)); (focus (exact (by first | exact ⟨by decide, by decide⟩ | ((try simp (disch := omega) only [ab_tI, ab_c0, wd_ix12, wd_ix8, wd_ix10, wd_up_self, wd_up_eq, wd_up_ne, Int.toNat_natCast, Int.toNat_of_nonneg, not_true_eq_false, not_false_eq_true, Option.some.injEq, st_shr, st_shl, ab_c0]); omega)))); (intro v9 hv9; (try simp (disch := omega) only [ab_tI, ab_c0, wd_ix12, wd_ix8, wd_ix10, wd_up_self, wd_up_eq, wd_up_ne, Int.toNat_natCast, Int.toNat_of_nonneg, not_true_eq_false, not_false_eq_true, Option.some.injEq, st_shr, st_shl] at hv9); subst hv9))
    | (refine hC9 151 _ _ _ (j_inflate (by omega) hs0 h1 h3 ?_))
    | (refine hC9 158 _ _ _ (j_getBytes (by omega) hs0 h2 hv h3 h4 hi him hN (fun F2 g' g3 g4 => ?_)))
    | (intro v9 hv9; (try simp (disch := omega) only [ab_tI, ab_c0, wd_ix12, wd_ix8, wd_ix10, wd_up_self, wd_up_eq, wd_up_ne, Int.toNat_natCast, Int.toNat_of_nonneg, not_true_eq_false, not_false_eq_true, Option.some.injEq, st_shr, st_shl] at hv9); subst hv9)
    | (apply i_get; (focus (exact rfl)); (focus (exact rfl)))
    | (refine hX9 _ _ _ _ (wd_rnC rfl ?_); clear hC9 hX9 X9 C9; intro C9 X9 hC9 hX9)
    | (refine i_brF (by decide) ?_)
    | (refine i_brT (by decide) ?_)
    | (refine ⟨fun hc => ?_, fun hc => ?_⟩ <;> (try simp (disch := omega) only [ab_tI, ab_c0, wd_ix12, wd_ix8, wd_ix10, wd_up_self, wd_up_eq, wd_up_ne, Int.toNat_natCast, Int.toNat_of_nonneg, not_true_eq_false, not_false_eq_true, Option.some.injEq, st_shr, st_shl] at hc) <;> first | (exfalso; omega) | skip)
    | (apply i_cv; (focus (exact rfl)))
    | (refine And.intro trivial ?_)
    | (refine And.intro (Or.inl rfl) ?_)
    | (refine And.intro (Or.inr rfl) ?_)
    | (refine And.intro (by ((try simp (disch := omega) only [ab_tI, ab_c0, wd_ix12, wd_ix8, wd_ix10, wd_up_self, wd_up_eq, wd_up_ne, Int.toNat_natCast, Int.toNat_of_nonneg, not_true_eq_false, not_false_eq_true, Option.some.injEq, st_shr, st_shl]); omega)) ?_)
    | fail)
  all_goals first | exact hQ _ _ g3 g4 | (exfalso; omega)
/-- what is put behind: the builder grows by it -/
def st_ap (F : Nat → ab_C) (k z x v N n : Nat) (Q : ab_Q) : Prop := ∀ F' k' z' v' N', st_sb F' k' x v' N' n → st_fr F k x v F' → (v' = v ∨ k ≤ v') → (k ≤ k' ∧ k' ≤ k + 1) → (z ≤ z' ∧ z' + 2 * N ≤ z + 2 * N') → (N' ≤ N ∨ N' ≤ 2 * n) → Q (some (wd_v x)) (F', k', z')
theorem st_ne {a b c1 c2 : Nat} {f1 f2 : List ab_V} (h1 : F a = ab_ob c1 f1) (h2 : F b = ab_ob c2 f2) (hc : c1 ≠ c2) : a ≠ b := fun e => by
  subst e
  have h := h1.symm.trans h2
  injection h with h
  injection h with h
  injection h with h h'
  exact hc h
theorem st_ne2 {a b c1 t nn : Nat} {f1 : List ab_V} {g : Nat → Int32} (h1 : F a = ab_ob c1 f1) (h2 : F b = ab_ia t nn g) : a ≠ b := fun e => by
  subst e
  have h := h1.symm.trans h2
  cases h
set_option maxHeartbeats 4000000 in
set_option maxRecDepth 100000 in
theorem j_app5 (hd : 5 ≤ d) {lo s w m : Nat} (hsp : st_sp F) (hb : st_sb F k x v N n) (hs : st_is F lo k s w m) (hnm : n + m ≤ 400) (hroom : k + 1 ≤ 600000 ∧ z + 1000 ≤ 5000000) (hQ : st_ap F k z x v N (n + m) Q) : ab_CT d 146 [wd_v x, wd_v s] (F, k, z) Q := by
  obtain ⟨⟨f, mb, h1, h2⟩, ⟨hx, hv, hxv, hk⟩, hn, hN⟩ := id hb
  obtain ⟨⟨fw, tl, h3, h4⟩, hsl, hwl, hm⟩ := id hs
  have hscr : 700000 ≤ ab_scr := by decide
  have hs0 := hsp.2.1
  have hsx : s ≠ x := st_ne h3 h1 (by decide)
  have hwx : w ≠ x := fun e => st_ne2 h1 h4 e.symm
  have em : (ab_ii (m : Int)).toInt = (m : Int) := ab_tI (by omega) (by omega)
  have en : (ab_ii (n : Int)).toInt = (n : Int) := ab_tI (by omega) (by omega)
  have enm : (ab_ii ((n : Int) + (m : Int))).toInt = (n : Int) + (m : Int) := ab_tI (by omega) (by omega)
  have ecast : ((n + m : Nat) : Int) = (n : Int) + (m : Int) := by omega
  have hfin : ∀ (F1 : Nat → ab_C) (k1 z1 v1 N1 : Nat), st_sb F1 k1 x v1 N1 n → ((n : Int) + (m : Int)) ≤ (N1 : Int) → st_fr F k x x F1 → (v1 = v ∨ k ≤ v1) → (k ≤ k1 ∧ k1 ≤ k + 1) → (z ≤ z1 ∧ z1 + 2 * N ≤ z + 2 * N1) → (N1 ≤ N ∨ (N1 : Int) ≤ 2 * ((n : Int) + (m : Int))) → ∀ (m1 : Int32) (F2 : Nat → ab_C) (g' : Nat → Int32), F2 v1 = ab_ia 1 N1 g' → (∀ y, y ≠ v1 → F2 y = F1 y) → ∀ F3 : Nat → ab_C, F3 x = ab_ob 14 [.inr (.inr (some v1)), .inl 0, .inl m1, .inl (ab_ii ((n : Int) + (m : Int)))] → (∀ y, y ≠ x → F3 y = F2 y) → Q (some (wd_v x)) (F3, k1, z1) := by
    intro F1 k1 z1 v1 N1 b1 b2 b3 b4 b5 b6 b7 m1 F2 g' g3 g4 F3 g5 g6
    obtain ⟨-, ⟨q1, q2, q3, q4⟩, q5, q6⟩ := id b1
    refine hQ F3 k1 z1 v1 N1 ⟨⟨g', m1, by rw [ecast]; exact g5, (g6 _ (by omega)).trans g3⟩, ⟨q1, q2, q3, q4⟩, by omega, q6⟩ (fun a ha h5 h6 => ?_) b4 b5 b6 (by omega)
    exact (g6 a h5).trans ((g4 a (by omega)).trans (b3 a ha h5 h5))
  clear hQ
  refine wd_inC rfl (by omega) rfl ?_
  intro C9 X9 hC9 hX9
  repeat' ((conv => whnf); first
    | (apply i_getN; (focus (first | exact h1 | exact h3)); (focus (exact rfl)); (intro v9 hv9; (try simp (disch := omega) only [ab_tI, ab_c0, wd_ix12, wd_ix8, wd_ix10, wd_up_self, wd_up_eq, wd_up_ne, Int.toNat_natCast, Int.toNat_of_nonneg, not_true_eq_false, not_false_eq_true, Option.some.injEq, st_shr, st_shl, em, en, enm] at hv9); subst hv9))
    | (apply i_cv; (focus (first | exact h1 | exact h3)))
    | (apply i_len; (focus (first | exact congrArg ab_len (h1) | exact congrArg ab_len (h3))))
    | (apply i_ialN; (focus (first | exact h1 | exact h3)); (focus (first | exact Or.inl rfl | exact Or.inr rfl)); (focus (exact (by first | exact ⟨by decide, by decide⟩ | ((try simp (disch := omega) only [ab_tI, ab_c0, wd_ix12, wd_ix8, wd_ix10, wd_up_self, wd_up_eq, wd_up_ne, Int.toNat_natCast, Int.toNat_of_nonneg, not_true_eq_false, not_false_eq_true, Option.some.injEq, st_shr, st_shl, em, en, enm, ab_c0]); omega)))); (intro v9 hv9; (try simp (disch := omega) only [ab_tI, ab_c0, wd_ix12, wd_ix8, wd_ix10, wd_up_self, wd_up_eq, wd_up_ne, Int.toNat_natCast, Int.toNat_of_nonneg, not_true_eq_false, not_false_eq_true, Option.some.injEq, st_shr, st_shl, em, en, enm] at hv9); subst hv9))
    | (apply i_aalN; (focus (first | exact h1 | exact h3)); (focus (exact (by first | exact ⟨by decide, by decide⟩ | ((try simp (disch := omega) only [ab_tI, ab_c0, wd_ix12, wd_ix8, wd_ix10, wd_up_self, wd_up_eq, wd_up_ne, Int.toNat_natCast, Int.toNat_of_nonneg, not_true_eq_false, not_false_eq_true, Option.some.injEq, st_shr, st_shl, em, en, enm, ab_c0]); omega)))); (intro v9 hv9; (try simp (disch := omega) only [ab_tI, ab_c0, wd_ix12, wd_ix8, wd_ix10, wd_up_self, wd_up_eq, wd_up_ne, Int.toNat_natCast, Int.toNat_of_nonneg, not_true_eq_false, not_false_eq_true, Option.some.injEq, st_shr, st_shl, em, en, enm] at hv9); subst hv9))
    | (refine hC9 156 _ _ _ (j_length0 (by omega) hs0 h3 h4 ?_))
    | (refine hC9 144 _ _ _ (j_ens (by omega) hb ⟨by omega, by omega⟩ hroom (fun F1 k1 z1 v1 N1 b1 b2 b3 b4 b5 b6 b7 => ?_)); (rw [enm] at b2 b7); (obtain ⟨f1, m1, c1, c2⟩ := b1.1); (have hv1 := b1.2.1.2.1); (have hk1 := b1.2.1.2.2.2); (have hN1 := b1.2.2.2); (have c3 := (b3 s (by omega) hsx hsx).trans h3); (have c4 := (b3 w (by omega) hwx hwx).trans h4); (have c5 := (b3 (ab_scr + 130) (by omega) (by omega) (by omega)).trans hs0))
    | (apply i_getN; (focus (first | exact c1)); (focus (exact rfl)); (intro v9 hv9; (try simp (disch := omega) only [ab_tI, ab_c0, wd_ix12, wd_ix8, wd_ix10, wd_up_self, wd_up_eq, wd_up_ne, Int.toNat_natCast, Int.toNat_of_nonneg, not_true_eq_false, not_false_eq_true, Option.some.injEq, st_shr, st_shl, em, en, enm] at hv9); subst hv9))
    | (apply i_cv; (focus (first | exact c1)))
    | (apply i_len; (focus (first | exact congrArg ab_len (c1))))
    | (apply i_ialN; (focus (first | exact c1)); (focus (first | exact Or.inl rfl | exact Or.inr rfl)); (focus (exact (by first | exact ⟨by decide, by decide⟩ | ((try simp (disch := omega) only [ab_tI, ab_c0, wd_ix12, wd_ix8, wd_ix10, wd_up_self, wd_up_eq, wd_up_ne, Int.toNat_natCast, Int.toNat_of_nonneg, not_true_eq_false, not_false_eq_true, Option.some.injEq, st_shr, st_shl, em, en, enm, ab_c0]); omega)))); (intro v9 hv9; (try simp (disch := omega) only [ab_tI, ab_c0, wd_ix12, wd_ix8, wd_ix10, wd_up_self, wd_up_eq, wd_up_ne, Int.toNat_natCast, Int.toNat_of_nonneg, not_true_eq_false, not_false_eq_true, Option.some.injEq, st_shr, st_shl, em, en, enm] at hv9); subst hv9))
    | (apply i_aalN; (focus (first | exact c1)); (focus (exact (by first | exact ⟨by decide, by decide⟩ | ((try simp (disch := omega) only [ab_tI, ab_c0, wd_ix12, wd_ix8, wd_ix10, wd_up_self, wd_up_eq, wd_up_ne, Int.toNat_natCast, Int.toNat_of_nonneg, not_true_eq_false, not_false_eq_true, Option.some.injEq, st_shr, st_shl, em, en, enm, ab_c0]); omega)))); (intro v9 hv9; (try simp (disch := omega) only [ab_tI, ab_c0, wd_ix12, wd_ix8, wd_ix10, wd_up_self, wd_up_eq, wd_up_ne, Int.toNat_natCast, Int.toNat_of_nonneg, not_true_eq_false, not_false_eq_true, Option.some.injEq, st_shr, st_shl, em, en, enm] at hv9); subst hv9))
    | (refine hC9 152 _ _ _ (j_putS (by omega) c5 c1 c2 (by omega) c3 c4 (by omega) (by omega) hN1 (fun F2 g' g3 g4 => ?_)); (have c6 := (g4 x b1.2.1.2.2.1).trans c1))
    | (apply i_getN; (focus (first | exact c6)); (focus (exact rfl)); (intro v9 hv9; (try simp (disch := omega) only [ab_tI, ab_c0, wd_ix12, wd_ix8, wd_ix10, wd_up_self, wd_up_eq, wd_up_ne, Int.toNat_natCast, Int.toNat_of_nonneg, not_true_eq_false, not_false_eq_true, Option.some.injEq, st_shr, st_shl, em, en, enm] at hv9); subst hv9))
    | (apply i_cv; (focus (first | exact c6)))
    | (apply i_len; (focus (first | exact congrArg ab_len (c6))))
    | (apply i_ialN; (focus (first | exact c6)); (focus (first | exact Or.inl rfl | exact Or.inr rfl)); (focus (exact (by first | exact ⟨by decide, by decide⟩ | ((try simp (disch := omega) only [ab_tI, ab_c0, wd_ix12, wd_ix8, wd_ix10, wd_up_self, wd_up_eq, wd_up_ne, Int.toNat_natCast, Int.toNat_of_nonneg, not_true_eq_false, not_false_eq_true, Option.some.injEq, st_shr, st_shl, em, en, enm, ab_c0]); omega)))); (intro v9 hv9; (try simp (disch := omega) only [ab_tI, ab_c0, wd_ix12, wd_ix8, wd_ix10, wd_up_self, wd_up_eq, wd_up_ne, Int.toNat_natCast, Int.toNat_of_nonneg, not_true_eq_false, not_false_eq_true, Option.some.injEq, st_shr, st_shl, em, en, enm] at hv9); subst hv9))
    | (apply i_aalN; (focus (first | exact c6)); (focus (exact (by first | exact ⟨by decide, by decide⟩ | ((try simp (disch := omega) only [ab_tI, ab_c0, wd_ix12, wd_ix8, wd_ix10, wd_up_self, wd_up_eq, wd_up_ne, Int.toNat_natCast, Int.toNat_of_nonneg, not_true_eq_false, not_false_eq_true, Option.some.injEq, st_shr, st_shl, em, en, enm, ab_c0]); omega)))); (intro v9 hv9; (try simp (disch := omega) only [ab_tI, ab_c0, wd_ix12, wd_ix8, wd_ix10, wd_up_self, wd_up_eq, wd_up_ne, Int.toNat_natCast, Int.toNat_of_nonneg, not_true_eq_false, not_false_eq_true, Option.some.injEq, st_shr, st_shl, em, en, enm] at hv9); subst hv9))
    | (refine s_put c6 rfl trivial (fun F3 g5 g6 => ?_))
    | (intro v9 hv9; (try simp (disch := omega) only [ab_tI, ab_c0, wd_ix12, wd_ix8, wd_ix10, wd_up_self, wd_up_eq, wd_up_ne, Int.toNat_natCast, Int.toNat_of_nonneg, not_true_eq_false, not_false_eq_true, Option.some.injEq, st_shr, st_shl, em, en, enm] at hv9); subst hv9)
    | (apply i_get; (focus (exact rfl)); (focus (exact rfl)))
    | (refine hX9 _ _ _ _ (wd_rnC rfl ?_); clear hC9 hX9 X9 C9; intro C9 X9 hC9 hX9)
    | (refine i_brF (by decide) ?_)
    | (refine i_brT (by decide) ?_)
    | (refine ⟨fun hc => ?_, fun hc => ?_⟩ <;> (try simp (disch := omega) only [ab_tI, ab_c0, wd_ix12, wd_ix8, wd_ix10, wd_up_self, wd_up_eq, wd_up_ne, Int.toNat_natCast, Int.toNat_of_nonneg, not_true_eq_false, not_false_eq_true, Option.some.injEq, st_shr, st_shl, em, en, enm] at hc) <;> first | (exfalso; omega) | skip)
    | (apply i_cv; (focus (exact rfl)))
    | (refine And.intro trivial ?_)
    | (refine And.intro (Or.inl rfl) ?_)
    | (refine And.intro (Or.inr rfl) ?_)
    | (refine And.intro (by ((try simp (disch := omega) only [ab_tI, ab_c0, wd_ix12, wd_ix8, wd_ix10, wd_up_self, wd_up_eq, wd_up_ne, Int.toNat_natCast, Int.toNat_of_nonneg, not_true_eq_false, not_false_eq_true, Option.some.injEq, st_shr, st_shl, em, en, enm]); omega)) ?_)
    | fail)
  all_goals first | exact hfin F1 k1 z1 v1 N1 b1 b2 b3 b4 b5 b6 b7 m1 F2 g' g3 g4 _ g5 g6 | (exfalso; omega)
set_option maxHeartbeats 4000000 in
set_option maxRecDepth 100000 in
theorem j_app4 (hd : 6 ≤ d) {lo s w m : Nat} (hsp : st_sp F) (hb : st_sb F k x v N n) (hs : st_is F lo k s w m) (hnm : n + m ≤ 400) (hroom : k + 1 ≤ 600000 ∧ z + 1000 ≤ 5000000) (hQ : st_ap F k z x v N (n + m) Q) : ab_CT d 164 [wd_v x, wd_v s] (F, k, z) Q := by
  obtain ⟨⟨f, mb, h1, h2⟩, -⟩ := id hb
  refine wd_inC rfl (by omega) rfl ?_
  intro C9 X9 hC9 hX9
  repeat' ((conv => whnf); first
    | (apply i_getN; (focus (first | exact h1)); (focus (exact rfl)); (intro v9 hv9; (try simp (disch := omega) only [ab_tI, ab_c0, wd_ix12, wd_ix8, wd_ix10, wd_up_self, wd_up_eq, wd_up_ne, Int.toNat_natCast, Int.toNat_of_nonneg, not_true_eq_false, not_false_eq_true, Option.some.injEq, st_shr, st_shl] at hv9); subst hv9))
    | (apply i_cv; (focus (first | exact h1)))
    | (apply i_len; (focus (first | exact congrArg ab_len (h1))))
    | (apply i_ialN; (focus (first | exact h1)); (focus (first | exact Or.inl rfl | exact Or.inr rfl)); (focus (exact (by first | exact ⟨by decide, by decide⟩ | ((try simp (disch := omega) only [ab_tI, ab_c0, wd_ix12, wd_ix8, wd_ix10, wd_up_self, wd_up_eq, wd_up_ne, Int.toNat_natCast, Int.toNat_of_nonneg, not_true_eq_false, not_false_eq_true, Option.some.injEq, st_shr, st_shl, ab_c0]); omega)))); (intro v9 hv9; (try simp (disch := omega) only [ab_tI, ab_c0, wd_ix12, wd_ix8, wd_ix10, wd_up_self, wd_up_eq, wd_up_ne, Int.toNat_natCast, Int.toNat_of_nonneg, not_true_eq_false, not_false_eq_true, Option.some.injEq, st_shr, st_shl] at hv9); subst hv9))
    | (apply i_aalN; (focus (first | exact h1)); (focus (exact (by first | exact ⟨by decide, by decide⟩ | ((try simp (disch := omega) only [ab_tI, ab_c0, wd_ix12, wd_ix8, wd_ix10, wd_up_self, wd_up_eq, wd_up_ne, Int.toNat_natCast, Int.toNat_of_nonneg, not_true_eq_false, not_false_eq_true, Option.some.injEq, st_shr, st_shl, ab_c0]); omega)))); (intro v9 hv9; (try simp (disch := omega) only [ab_tI, ab_c0, wd_ix12, wd_ix8, wd_ix10, wd_up_self, wd_up_eq, wd_up_ne, Int.toNat_natCast, Int.toNat_of_nonneg, not_true_eq_false, not_false_eq_true, Option.some.injEq, st_shr, st_shl] at hv9); subst hv9))
    | (refine hC9 146 _ _ _ (j_app5 (by omega) hsp hb hs hnm hroom (fun F1 k1 z1 v1 N1 b1 b2 b3 b4 b5 b6 => ?_)))
    | (intro v9 hv9; (try simp (disch := omega) only [ab_tI, ab_c0, wd_ix12, wd_ix8, wd_ix10, wd_up_self, wd_up_eq, wd_up_ne, Int.toNat_natCast, Int.toNat_of_nonneg, not_true_eq_false, not_false_eq_true, Option.some.injEq, st_shr, st_shl] at hv9); subst hv9)
    | (apply i_get; (focus (exact rfl)); (focus (exact rfl)))
    | (refine hX9 _ _ _ _ (wd_rnC rfl ?_); clear hC9 hX9 X9 C9; intro C9 X9 hC9 hX9)
    | (refine i_brF (by decide) ?_)
    | (refine i_brT (by decide) ?_)
    | (refine ⟨fun hc => ?_, fun hc => ?_⟩ <;> (try simp (disch := omega) only [ab_tI, ab_c0, wd_ix12, wd_ix8, wd_ix10, wd_up_self, wd_up_eq, wd_up_ne, Int.toNat_natCast, Int.toNat_of_nonneg, not_true_eq_false, not_false_eq_true, Option.some.injEq, st_shr, st_shl] at hc) <;> first | (exfalso; omega) | skip)
    | (apply i_cv; (focus (exact rfl)))
    | (refine And.intro trivial ?_)
    | (refine And.intro (Or.inl rfl) ?_)
    | (refine And.intro (Or.inr rfl) ?_)
    | (refine And.intro (by ((try simp (disch := omega) only [ab_tI, ab_c0, wd_ix12, wd_ix8, wd_ix10, wd_up_self, wd_up_eq, wd_up_ne, Int.toNat_natCast, Int.toNat_of_nonneg, not_true_eq_false, not_false_eq_true, Option.some.injEq, st_shr, st_shl]); omega)) ?_)
    | fail)
  all_goals first | exact hQ F1 k1 z1 v1 N1 b1 b2 b3 b4 b5 b6 | (exfalso; omega)
end
