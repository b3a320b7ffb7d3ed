/-! ===== texts: a number, a letter put behind a builder's, whole (own text) ===== -/
section
variable {d : Nat} {F : Nat → ab_C} {k z : Nat} {Q : ab_Q} {x v N n : Nat}

set_option maxHeartbeats 4000000 in
set_option maxRecDepth 100000 in
theorem j_appI5 (hd : 5 ≤ d) {i : Int32} {m : Nat} (hsp : st_sp F) (hb : st_sb F k x v N n) (hi : 0 ≤ i.toInt ∧ i.toInt ≤ 99) (hm : (i.toInt ≤ 9 ∧ m = 1) ∨ (10 ≤ i.toInt ∧ m = 2)) (hnm : n + m ≤ 400) (hroom : k + 1 ≤ 600000 ∧ z + 1000 ≤ 5000000) (hQ : st_ap F k z x v N (n + m) Q) : ab_CT d 148 [wd_v x, .inl i] (F, k, z) Q := by
  obtain ⟨⟨f, mb, h1, h2⟩, ⟨hx, hv, hxv, hk⟩, hn, hN⟩ := id hb
  have hscr : 700000 ≤ ab_scr := by decide
  have hs0 := hsp.2.1
  have em : (ab_ii (m : Int)).toInt = (m : Int) := ab_tI (by omega) (by omega)
  have en : (ab_ii (n : Int)).toInt = (n : Int) := ab_tI (by omega) (by omega)
  have enm : (ab_ii ((n : Int) + (m : Int))).toInt = (n : Int) + (m : Int) := ab_tI (by omega) (by omega)
  have ecast : ((n + m : Nat) : Int) = (n : Int) + (m : Int) := by omega
  have hsz := fun (Q : ab_Q) (h : ab_H) (hq : Q (some (.inl (ab_ii (m : Int)))) h) => j_size (d := d - 1) (Q := Q) (h := h) (by omega) hi (fun q => by rw [show (m : Int) = 1 by omega] at hq; exact hq) (fun q => by rw [show (m : Int) = 2 by omega] at hq; exact hq)
  have hfin : ∀ (F1 : Nat → ab_C) (k1 z1 v1 N1 : Nat), st_sb F1 k1 x v1 N1 n → ((n : Int) + (m : Int)) ≤ (N1 : Int) → st_fr F k x x F1 → (v1 = v ∨ k ≤ v1) → (k ≤ k1 ∧ k1 ≤ k + 1) → (z ≤ z1 ∧ z1 + 2 * N ≤ z + 2 * N1) → (N1 ≤ N ∨ (N1 : Int) ≤ 2 * ((n : Int) + (m : Int))) → ∀ (m1 : Int32) (F2 : Nat → ab_C) (g' : Nat → Int32), F2 v1 = ab_ia 1 N1 g' → (∀ y, y ≠ v1 → F2 y = F1 y) → ∀ F3 : Nat → ab_C, F3 x = ab_ob 14 [.inr (.inr (some v1)), .inl 0, .inl m1, .inl (ab_ii ((n : Int) + (m : Int)))] → (∀ y, y ≠ x → F3 y = F2 y) → Q (some (wd_v x)) (F3, k1, z1) := by
    intro F1 k1 z1 v1 N1 b1 b2 b3 b4 b5 b6 b7 m1 F2 g' g3 g4 F3 g5 g6
    obtain ⟨-, ⟨q1, q2, q3, q4⟩, q5, q6⟩ := id b1
    refine hQ F3 k1 z1 v1 N1 ⟨⟨g', m1, by rw [ecast]; exact g5, (g6 _ (by omega)).trans g3⟩, ⟨q1, q2, q3, q4⟩, by omega, q6⟩ (fun a ha h5 h6 => ?_) b4 b5 b6 (by omega)
    exact (g6 a h5).trans ((g4 a (by omega)).trans (b3 a ha h5 h5))
  clear hQ
  refine wd_inC rfl (by omega) rfl ?_
  intro C9 X9 hC9 hX9
  repeat' ((conv => whnf); first
    | (apply i_getN; (focus (first | exact h1)); (focus (exact rfl)); (intro v9 hv9; (try simp (disch := omega) only [ab_tI, ab_c0, wd_ix12, wd_ix8, wd_ix10, wd_up_self, wd_up_eq, wd_up_ne, Int.toNat_natCast, Int.toNat_of_nonneg, not_true_eq_false, not_false_eq_true, Option.some.injEq, st_shr, st_shl, em, en, enm] at hv9); subst hv9))
    | (apply i_cv; (focus (first | exact h1)))
    | (apply i_len; (focus (first | exact congrArg ab_len (h1))))
    | (apply i_ialN; (focus (first | exact h1)); (focus (first | exact Or.inl rfl | exact Or.inr rfl)); (focus (exact (by first | exact ⟨by decide, by decide⟩ | ((try simp (disch := omega) only [ab_tI, ab_c0, wd_ix12, wd_ix8, wd_ix10, wd_up_self, wd_up_eq, wd_up_ne, Int.toNat_natCast, Int.toNat_of_nonneg, not_true_eq_false, not_false_eq_true, Option.some.injEq, st_shr, st_shl, em, en, enm, ab_c0]); omega)))); (intro v9 hv9; (try simp (disch := omega) only [ab_tI, ab_c0, wd_ix12, wd_ix8, wd_ix10, wd_up_self, wd_up_eq, wd_up_ne, Int.toNat_natCast, Int.toNat_of_nonneg, not_true_eq_false, not_false_eq_true, Option.some.injEq, st_shr, st_shl, em, en, enm] at hv9); subst hv9))
    | (apply i_aalN; (focus (first | exact h1)); (focus (exact (by first | exact ⟨by decide, by decide⟩ | ((try simp (disch := omega) only [ab_tI, ab_c0, wd_ix12, wd_ix8, wd_ix10, wd_up_self, wd_up_eq, wd_up_ne, Int.toNat_natCast, Int.toNat_of_nonneg, not_true_eq_false, not_false_eq_true, Option.some.injEq, st_shr, st_shl, em, en, enm, ab_c0]); omega)))); (intro v9 hv9; (try simp (disch := omega) only [ab_tI, ab_c0, wd_ix12, wd_ix8, wd_ix10, wd_up_self, wd_up_eq, wd_up_ne, Int.toNat_natCast, Int.toNat_of_nonneg, not_true_eq_false, not_false_eq_true, Option.some.injEq, st_shr, st_shl, em, en, enm] at hv9); subst hv9))
    | (refine hC9 154 _ _ _ (hsz _ _ ?_))
    | (refine hC9 144 _ _ _ (j_ens (by omega) hb ⟨by omega, by omega⟩ hroom (fun F1 k1 z1 v1 N1 b1 b2 b3 b4 b5 b6 b7 => ?_)); (rw [enm] at b2 b7); (obtain ⟨f1, m1, c1, c2⟩ := b1.1); (have hv1 := b1.2.1.2.1); (have hk1 := b1.2.1.2.2.2); (have hN1 := b1.2.2.2); (have c5 : st_sp F1 := hsp.eq (fun a ha => b3 a (Or.inr ha) (by omega) (by omega))))
    | (apply i_getN; (focus (first | exact c1)); (focus (exact rfl)); (intro v9 hv9; (try simp (disch := omega) only [ab_tI, ab_c0, wd_ix12, wd_ix8, wd_ix10, wd_up_self, wd_up_eq, wd_up_ne, Int.toNat_natCast, Int.toNat_of_nonneg, not_true_eq_false, not_false_eq_true, Option.some.injEq, st_shr, st_shl, em, en, enm] at hv9); subst hv9))
    | (apply i_cv; (focus (first | exact c1)))
    | (apply i_len; (focus (first | exact congrArg ab_len (c1))))
    | (apply i_ialN; (focus (first | exact c1)); (focus (first | exact Or.inl rfl | exact Or.inr rfl)); (focus (exact (by first | exact ⟨by decide, by decide⟩ | ((try simp (disch := omega) only [ab_tI, ab_c0, wd_ix12, wd_ix8, wd_ix10, wd_up_self, wd_up_eq, wd_up_ne, Int.toNat_natCast, Int.toNat_of_nonneg, not_true_eq_false, not_false_eq_true, Option.some.injEq, st_shr, st_shl, em, en, enm, ab_c0]); omega)))); (intro v9 hv9; (try simp (disch := omega) only [ab_tI, ab_c0, wd_ix12, wd_ix8, wd_ix10, wd_up_self, wd_up_eq, wd_up_ne, Int.toNat_natCast, Int.toNat_of_nonneg, not_true_eq_false, not_false_eq_true, Option.some.injEq, st_shr, st_shl, em, en, enm] at hv9); subst hv9))
    | (apply i_aalN; (focus (first | exact c1)); (focus (exact (by first | exact ⟨by decide, by decide⟩ | ((try simp (disch := omega) only [ab_tI, ab_c0, wd_ix12, wd_ix8, wd_ix10, wd_up_self, wd_up_eq, wd_up_ne, Int.toNat_natCast, Int.toNat_of_nonneg, not_true_eq_false, not_false_eq_true, Option.some.injEq, st_shr, st_shl, em, en, enm, ab_c0]); omega)))); (intro v9 hv9; (try simp (disch := omega) only [ab_tI, ab_c0, wd_ix12, wd_ix8, wd_ix10, wd_up_self, wd_up_eq, wd_up_ne, Int.toNat_natCast, Int.toNat_of_nonneg, not_true_eq_false, not_false_eq_true, Option.some.injEq, st_shr, st_shl, em, en, enm] at hv9); subst hv9))
    | (refine hC9 150 _ _ _ (j_isLatin1 (by omega) c5.2.1 c1 ?_))
    | (refine hC9 153 _ _ _ (j_getChars (by omega) c5 c2 (by omega) hN1 hi (by omega) (fun q => by omega) (by omega) (fun r F2 g' g3 g4 => ?_)); (have c6 := (g4 x b1.2.1.2.2.1).trans c1))
    | (refine s_put c6 rfl trivial (fun F3 g5 g6 => ?_))
    | (intro v9 hv9; (try simp (disch := omega) only [ab_tI, ab_c0, wd_ix12, wd_ix8, wd_ix10, wd_up_self, wd_up_eq, wd_up_ne, Int.toNat_natCast, Int.toNat_of_nonneg, not_true_eq_false, not_false_eq_true, Option.some.injEq, st_shr, st_shl, em, en, enm] at hv9); subst hv9)
    | (apply i_get; (focus (exact rfl)); (focus (exact rfl)))
    | (refine hX9 _ _ _ _ (wd_rnC rfl ?_); clear hC9 hX9 X9 C9; intro C9 X9 hC9 hX9)
    | (refine i_brF (by decide) ?_)
    | (refine i_brT (by decide) ?_)
    | (refine ⟨fun hc => ?_, fun hc => ?_⟩ <;> (try simp (disch := omega) only [ab_tI, ab_c0, wd_ix12, wd_ix8, wd_ix10, wd_up_self, wd_up_eq, wd_up_ne, Int.toNat_natCast, Int.toNat_of_nonneg, not_true_eq_false, not_false_eq_true, Option.some.injEq, st_shr, st_shl, em, en, enm] at hc) <;> first | (exfalso; omega) | skip)
    | (apply i_cv; (focus (exact rfl)))
    | (refine And.intro trivial ?_)
    | (refine And.intro (Or.inl rfl) ?_)
    | (refine And.intro (Or.inr rfl) ?_)
    | (refine And.intro (by ((try simp (disch := omega) only [ab_tI, ab_c0, wd_ix12, wd_ix8, wd_ix10, wd_up_self, wd_up_eq, wd_up_ne, Int.toNat_natCast, Int.toNat_of_nonneg, not_true_eq_false, not_false_eq_true, Option.some.injEq, st_shr, st_shl, em, en, enm]); omega)) ?_)
    | fail)
  all_goals first | exact hfin F1 k1 z1 v1 N1 b1 b2 b3 b4 b5 b6 b7 m1 F2 g' g3 g4 _ g5 g6 | (exfalso; omega)
set_option maxHeartbeats 4000000 in
set_option maxRecDepth 100000 in
theorem j_appI4 (hd : 6 ≤ d) {i : Int32} (hsp : st_sp F) (hb : st_sb F k x v N n) (hi : 0 ≤ i.toInt ∧ i.toInt ≤ 99) (hnm : n + 2 ≤ 400) (hroom : k + 1 ≤ 600000 ∧ z + 1000 ≤ 5000000) (hQ : ∀ m, m ≤ 2 → st_ap F k z x v N (n + m) Q) : ab_CT d 166 [wd_v x, .inl i] (F, k, z) Q := by
  obtain ⟨⟨f, mb, h1, h2⟩, -⟩ := id hb
  obtain ⟨m, hm, hm2⟩ : ∃ m, ((i.toInt ≤ 9 ∧ m = 1) ∨ (10 ≤ i.toInt ∧ m = 2)) ∧ m ≤ 2 := by
    by_cases q : i.toInt ≤ 9
    · exact ⟨1, Or.inl ⟨q, rfl⟩, by omega⟩
    · exact ⟨2, Or.inr ⟨by omega, rfl⟩, by omega⟩
  have hQm := hQ m hm2
  refine wd_inC rfl (by omega) rfl ?_
  intro C9 X9 hC9 hX9
  repeat' ((conv => whnf); first
    | (apply i_getN; (focus (first | exact h1)); (focus (exact rfl)); (intro v9 hv9; (try simp (disch := omega) only [ab_tI, ab_c0, wd_ix12, wd_ix8, wd_ix10, wd_up_self, wd_up_eq, wd_up_ne, Int.toNat_natCast, Int.toNat_of_nonneg, not_true_eq_false, not_false_eq_true, Option.some.injEq, st_shr, st_shl] at hv9); subst hv9))
    | (apply i_cv; (focus (first | exact h1)))
    | (apply i_len; (focus (first | exact congrArg ab_len (h1))))
    | (apply i_ialN; (focus (first | exact h1)); (focus (first | exact Or.inl rfl | exact Or.inr rfl)); (focus (exact (by first | exact ⟨by decide, by decide⟩ | ((try simp (disch := omega) only [ab_tI, ab_c0, wd_ix12, wd_ix8, wd_ix10, wd_up_self, wd_up_eq, wd_up_ne, Int.toNat_natCast, Int.toNat_of_nonneg, not_true_eq_false, not_false_eq_true, Option.some.injEq, st_shr, st_shl, ab_c0]); omega)))); (intro v9 hv9; (try simp (disch := omega) only [ab_tI, ab_c0, wd_ix12, wd_ix8, wd_ix10, wd_up_self, wd_up_eq, wd_up_ne, Int.toNat_natCast, Int.toNat_of_nonneg, not_true_eq_false, not_false_eq_true, Option.some.injEq, st_shr, st_shl] at hv9); subst hv9))
    | (apply i_aalN; (focus (first | exact h1)); (focus (exact (by first | exact ⟨by decide, by decide⟩ | ((try simp (disch := omega) only [ab_tI, ab_c0, wd_ix12, wd_ix8, wd_ix10, wd_up_self, wd_up_eq, wd_up_ne, Int.toNat_natCast, Int.toNat_of_nonneg, not_true_eq_false, not_false_eq_true, Option.some.injEq, st_shr, st_shl, ab_c0]); omega)))); (intro v9 hv9; (try simp (disch := omega) only [ab_tI, ab_c0, wd_ix12, wd_ix8, wd_ix10, wd_up_self, wd_up_eq, wd_up_ne, Int.toNat_natCast, Int.toNat_of_nonneg, not_true_eq_false, not_false_eq_true, Option.some.injEq, st_shr, st_shl] at hv9); subst hv9))
    | (refine hC9 148 _ _ _ (j_appI5 (by omega) hsp hb hi hm (by omega) hroom (fun F1 k1 z1 v1 N1 b1 b2 b3 b4 b5 b6 => ?_)))
    | (intro v9 hv9; (try simp (disch := omega) only [ab_tI, ab_c0, wd_ix12, wd_ix8, wd_ix10, wd_up_self, wd_up_eq, wd_up_ne, Int.toNat_natCast, Int.toNat_of_nonneg, not_true_eq_false, not_false_eq_true, Option.some.injEq, st_shr, st_shl] at hv9); subst hv9)
    | (apply i_get; (focus (exact rfl)); (focus (exact rfl)))
    | (refine hX9 _ _ _ _ (wd_rnC rfl ?_); clear hC9 hX9 X9 C9; intro C9 X9 hC9 hX9)
    | (refine i_brF (by decide) ?_)
    | (refine i_brT (by decide) ?_)
    | (refine ⟨fun hc => ?_, fun hc => ?_⟩ <;> (try simp (disch := omega) only [ab_tI, ab_c0, wd_ix12, wd_ix8, wd_ix10, wd_up_self, wd_up_eq, wd_up_ne, Int.toNat_natCast, Int.toNat_of_nonneg, not_true_eq_false, not_false_eq_true, Option.some.injEq, st_shr, st_shl] at hc) <;> first | (exfalso; omega) | skip)
    | (apply i_cv; (focus (exact rfl)))
    | (refine And.intro trivial ?_)
    | (refine And.intro (Or.inl rfl) ?_)
    | (refine And.intro (Or.inr rfl) ?_)
    | (refine And.intro (by ((try simp (disch := omega) only [ab_tI, ab_c0, wd_ix12, wd_ix8, wd_ix10, wd_up_self, wd_up_eq, wd_up_ne, Int.toNat_natCast, Int.toNat_of_nonneg, not_true_eq_false, not_false_eq_true, Option.some.injEq, st_shr, st_shl]); omega)) ?_)
    | fail)
  all_goals first | exact hQm F1 k1 z1 v1 N1 b1 b2 b3 b4 b5 b6 | (exfalso; omega)
set_option maxHeartbeats 4000000 in
set_option maxRecDepth 100000 in
theorem j_appC5 (hd : 5 ≤ d) {c : Int32} (hsp : st_sp F) (hb : st_sb F k x v N n) (hc : c.toInt ≤ 255) (hnm : n + 1 ≤ 400) (hroom : k + 1 ≤ 600000 ∧ z + 1000 ≤ 5000000) (hQ : st_ap F k z x v N (n + 1) Q) : ab_CT d 147 [wd_v x, .inl c] (F, k, z) Q := by
  obtain ⟨⟨f, mb, h1, h2⟩, ⟨hx, hv, hxv, hk⟩, hn, hN⟩ := id hb
  have hscr : 700000 ≤ ab_scr := by decide
  have hs0 := hsp.2.1
  have en : (ab_ii (n : Int)).toInt = (n : Int) := ab_tI (by omega) (by omega)
  have enm : (ab_ii ((n : Int) + 1)).toInt = (n : Int) + 1 := ab_tI (by omega) (by omega)
  have ecast : ((n + 1 : Nat) : Int) = (n : Int) + 1 := by omega
  have hfin : ∀ (F1 : Nat → ab_C) (k1 z1 v1 N1 : Nat), st_sb F1 k1 x v1 N1 n → ((n : Int) + 1) ≤ (N1 : Int) → st_fr F k x x F1 → (v1 = v ∨ k ≤ v1) → (k ≤ k1 ∧ k1 ≤ k + 1) → (z ≤ z1 ∧ z1 + 2 * N ≤ z + 2 * N1) → (N1 ≤ N ∨ (N1 : Int) ≤ 2 * ((n : Int) + 1)) → ∀ (m1 : Int32) (F2 : Nat → ab_C), F2 x = ab_ob 14 [.inr (.inr (some v1)), .inl 0, .inl m1, .inl (ab_ii ((n : Int) + 1))] → (∀ y, y ≠ x → F2 y = F1 y) → ∀ (F3 : Nat → ab_C) (g' : Nat → Int32), F3 v1 = ab_ia 1 N1 g' → (∀ y, y ≠ v1 → F3 y = F2 y) → Q (some (wd_v x)) (F3, k1, z1) := by
    intro F1 k1 z1 v1 N1 b1 b2 b3 b4 b5 b6 b7 m1 F2 g5 g6 F3 g' g3 g4
    obtain ⟨-, ⟨q1, q2, q3, q4⟩, q5, q6⟩ := id b1
    refine hQ F3 k1 z1 v1 N1 ⟨⟨g', m1, by rw [ecast]; exact (g4 x q3).trans g5, g3⟩, ⟨q1, q2, q3, q4⟩, by omega, q6⟩ (fun a ha h5 h6 => ?_) b4 b5 b6 (by omega)
    exact (g4 a (by omega)).trans ((g6 a h5).trans (b3 a ha h5 h5))
  clear hQ
  refine wd_inC rfl (by omega) rfl ?_
  intro C9 X9 hC9 hX9
  repeat' ((conv => whnf); first
    | (apply i_getN; (focus (first | exact h1)); (focus (exact rfl)); (intro v9 hv9; (try simp (disch := omega) only [ab_tI, ab_c0, wd_ix12, wd_ix8, wd_ix10, wd_up_self, wd_up_eq, wd_up_ne, Int.toNat_natCast, Int.toNat_of_nonneg, not_true_eq_false, not_false_eq_true, Option.some.injEq, st_shr, st_shl, en, enm] at hv9); subst hv9))
    | (apply i_cv; (focus (first | exact h1)))
    | (apply i_len; (focus (first | exact congrArg ab_len (h1))))
    | (apply i_ialN; (focus (first | exact h1)); (focus (first | exact Or.inl rfl | exact Or.inr rfl)); (focus (exact (by first | exact ⟨by decide, by decide⟩ | ((try simp (disch := omega) only [ab_tI, ab_c0, wd_ix12, wd_ix8, wd_ix10, wd_up_self, wd_up_eq, wd_up_ne, Int.toNat_natCast, Int.toNat_of_nonneg, not_true_eq_false, not_false_eq_true, Option.some.injEq, st_shr, st_shl, en, enm, ab_c0]); omega)))); (intro v9 hv9; (try simp (disch := omega) only [ab_tI, ab_c0, wd_ix12, wd_ix8, wd_ix10, wd_up_self, wd_up_eq, wd_up_ne, Int.toNat_natCast, Int.toNat_of_nonneg, not_true_eq_false, not_false_eq_true, Option.some.injEq, st_shr, st_shl, en, enm] at hv9); subst hv9))
    | (apply i_aalN; (focus (first | exact h1)); (focus (exact (by first | exact ⟨by decide, by decide⟩ | ((try simp (disch := omega) only [ab_tI, ab_c0, wd_ix12, wd_ix8, wd_ix10, wd_up_self, wd_up_eq, wd_up_ne, Int.toNat_natCast, Int.toNat_of_nonneg, not_true_eq_false, not_false_eq_true, Option.some.injEq, st_shr, st_shl, en, enm, ab_c0]); omega)))); (intro v9 hv9; (try simp (disch := omega) only [ab_tI, ab_c0, wd_ix12, wd_ix8, wd_ix10, wd_up_self, wd_up_eq, wd_up_ne, Int.toNat_natCast, Int.toNat_of_nonneg, not_true_eq_false, not_false_eq_true, Option.some.injEq, st_shr, st_shl, en, enm] at hv9); subst hv9))
    | (refine hC9 144 _ _ _ (j_ens (by omega) hb ⟨by omega, by omega⟩ hroom (fun F1 k1 z1 v1 N1 b1 b2 b3 b4 b5 b6 b7 => ?_)); (rw [enm] at b2 b7); (obtain ⟨f1, m1, c1, c2⟩ := b1.1); (have hv1 := b1.2.1.2.1); (have hk1 := b1.2.1.2.2.2); (have hN1 := b1.2.2.2); (have c5 : st_sp F1 := hsp.eq (fun a ha => b3 a (Or.inr ha) (by omega) (by omega))))
    | (apply i_getN; (focus (first | exact c1)); (focus (exact rfl)); (intro v9 hv9; (try simp (disch := omega) only [ab_tI, ab_c0, wd_ix12, wd_ix8, wd_ix10, wd_up_self, wd_up_eq, wd_up_ne, Int.toNat_natCast, Int.toNat_of_nonneg, not_true_eq_false, not_false_eq_true, Option.some.injEq, st_shr, st_shl, en, enm] at hv9); subst hv9))
    | (apply i_cv; (focus (first | exact c1)))
    | (apply i_len; (focus (first | exact congrArg ab_len (c1))))
    | (apply i_ialN; (focus (first | exact c1)); (focus (first | exact Or.inl rfl | exact Or.inr rfl)); (focus (exact (by first | exact ⟨by decide, by decide⟩ | ((try simp (disch := omega) only [ab_tI, ab_c0, wd_ix12, wd_ix8, wd_ix10, wd_up_self, wd_up_eq, wd_up_ne, Int.toNat_natCast, Int.toNat_of_nonneg, not_true_eq_false, not_false_eq_true, Option.some.injEq, st_shr, st_shl, en, enm, ab_c0]); omega)))); (intro v9 hv9; (try simp (disch := omega) only [ab_tI, ab_c0, wd_ix12, wd_ix8, wd_ix10, wd_up_self, wd_up_eq, wd_up_ne, Int.toNat_natCast, Int.toNat_of_nonneg, not_true_eq_false, not_false_eq_true, Option.some.injEq, st_shr, st_shl, en, enm] at hv9); subst hv9))
    | (apply i_aalN; (focus (first | exact c1)); (focus (exact (by first | exact ⟨by decide, by decide⟩ | ((try simp (disch := omega) only [ab_tI, ab_c0, wd_ix12, wd_ix8, wd_ix10, wd_up_self, wd_up_eq, wd_up_ne, Int.toNat_natCast, Int.toNat_of_nonneg, not_true_eq_false, not_false_eq_true, Option.some.injEq, st_shr, st_shl, en, enm, ab_c0]); omega)))); (intro v9 hv9; (try simp (disch := omega) only [ab_tI, ab_c0, wd_ix12, wd_ix8, wd_ix10, wd_up_self, wd_up_eq, wd_up_ne, Int.toNat_natCast, Int.toNat_of_nonneg, not_true_eq_false, not_false_eq_true, Option.some.injEq, st_shr, st_shl, en, enm] at hv9); subst hv9))
    | (refine hC9 150 _ _ _ (j_isLatin1 (by omega) c5.2.1 c1 ?_))
    | (refine hC9 170 _ _ _ (j_canEncode (by omega) hc ?_))
    | (refine s_put c1 rfl trivial (fun F2 g5 g6 => ?_))
    | (first | (intro v9 hv9; (try simp (disch := omega) only [ab_tI, ab_c0, wd_ix12, wd_ix8, wd_ix10, wd_up_self, wd_up_eq, wd_up_ne, Int.toNat_natCast, Int.toNat_of_nonneg, not_true_eq_false, not_false_eq_true, Option.some.injEq, st_shr, st_shl] at hv9); subst hv9) | intro v9)
    | (refine s_bas ((g6 v1 (fun e => b1.2.1.2.2.1 e.symm)).trans c2) (by omega) ⟨by omega, by omega⟩ (fun F3 g' g3 g4 => ?_))
    | (intro v9 hv9; (try simp (disch := omega) only [ab_tI, ab_c0, wd_ix12, wd_ix8, wd_ix10, wd_up_self, wd_up_eq, wd_up_ne, Int.toNat_natCast, Int.toNat_of_nonneg, not_true_eq_false, not_false_eq_true, Option.some.injEq, st_shr, st_shl, en, enm] at hv9); subst hv9)
    | (apply i_get; (focus (exact rfl)); (focus (exact rfl)))
    | (refine hX9 _ _ _ _ (wd_rnC rfl ?_); clear hC9 hX9 X9 C9; intro C9 X9 hC9 hX9)
    | (refine i_brF (by decide) ?_)
    | (refine i_brT (by decide) ?_)
    | (refine ⟨fun hc => ?_, fun hc => ?_⟩ <;> (try simp (disch := omega) only [ab_tI, ab_c0, wd_ix12, wd_ix8, wd_ix10, wd_up_self, wd_up_eq, wd_up_ne, Int.toNat_natCast, Int.toNat_of_nonneg, not_true_eq_false, not_false_eq_true, Option.some.injEq, st_shr, st_shl, en, enm] at hc) <;> first | (exfalso; omega) | skip)
    | (apply i_cv; (focus (exact rfl)))
    | (refine And.intro trivial ?_)
    | (refine And.intro (Or.inl rfl) ?_)
    | (refine And.intro (Or.inr rfl) ?_)
    | (refine And.intro (by ((try simp (disch := omega) only [ab_tI, ab_c0, wd_ix12, wd_ix8, wd_ix10, wd_up_self, wd_up_eq, wd_up_ne, Int.toNat_natCast, Int.toNat_of_nonneg, not_true_eq_false, not_false_eq_true, Option.some.injEq, st_shr, st_shl, en, enm]); omega)) ?_)
    | fail)
  all_goals first | exact hfin F1 k1 z1 v1 N1 b1 b2 b3 b4 b5 b6 b7 m1 F2 g5 g6 _ _ g3 g4 | (exfalso; omega)
set_option maxHeartbeats 4000000 in
set_option maxRecDepth 100000 in
theorem j_appC4 (hd : 6 ≤ d) {c : Int32} (hsp : st_sp F) (hb : st_sb F k x v N n) (hc : c.toInt ≤ 255) (hnm : n + 1 ≤ 400) (hroom : k + 1 ≤ 600000 ∧ z + 1000 ≤ 5000000) (hQ : st_ap F k z x v N (n + 1) Q) : ab_CT d 165 [wd_v x, .inl c] (F, k, z) Q := by
  obtain ⟨⟨f, mb, h1, h2⟩, -⟩ := id hb
  refine wd_inC rfl (by omega) rfl ?_
  intro C9 X9 hC9 hX9
  repeat' ((conv => whnf); first
    | (apply i_getN; (focus (first | exact h1)); (focus (exact rfl)); (intro v9 hv9; (try simp (disch := omega) only [ab_tI, ab_c0, wd_ix12, wd_ix8, wd_ix10, wd_up_self, wd_up_eq, wd_up_ne, Int.toNat_natCast, Int.toNat_of_nonneg, not_true_eq_false, not_false_eq_true, Option.some.injEq, st_shr, st_shl] at hv9); subst hv9))
    | (apply i_cv; (focus (first | exact h1)))
    | (apply i_len; (focus (first | exact congrArg ab_len (h1))))
    | (apply i_ialN; (focus (first | exact h1)); (focus (first | exact Or.inl rfl | exact Or.inr rfl)); (focus (exact (by first | exact ⟨by decide, by decide⟩ | ((try simp (disch := omega) only [ab_tI, ab_c0, wd_ix12, wd_ix8, wd_ix10, wd_up_self, wd_up_eq, wd_up_ne, Int.toNat_natCast, Int.toNat_of_nonneg, not_true_eq_false, not_false_eq_true, Option.some.injEq, st_shr, st_shl, ab_c0]); omega)))); (intro v9 hv9; (try simp (disch := omega) only [ab_tI, ab_c0, wd_ix12, wd_ix8, wd_ix10, wd_up_self, wd_up_eq, wd_up_ne, Int.toNat_natCast, Int.toNat_of_nonneg, not_true_eq_false, not_false_eq_true, Option.some.injEq, st_shr, st_shl] at hv9); subst hv9))
    | (apply i_aalN; (focus (first | exact h1)); (focus (exact (by first | exact ⟨by decide, by decide⟩ | ((try simp (disch := omega) only [ab_tI, ab_c0, wd_ix12, wd_ix8, wd_ix10, wd_up_self, wd_up_eq, wd_up_ne, Int.toNat_natCast, Int.toNat_of_nonneg, not_true_eq_false, not_false_eq_true, Option.some.injEq, st_shr, st_shl, ab_c0]); omega)))); (intro v9 hv9; (try simp (disch := omega) only [ab_tI, ab_c0, wd_ix12, wd_ix8, wd_ix10, wd_up_self, wd_up_eq, wd_up_ne, Int.toNat_natCast, Int.toNat_of_nonneg, not_true_eq_false, not_false_eq_true, Option.some.injEq, st_shr, st_shl] at hv9); subst hv9))
    | (refine hC9 147 _ _ _ (j_appC5 (by omega) hsp hb hc hnm hroom (fun F1 k1 z1 v1 N1 b1 b2 b3 b4 b5 b6 => ?_)))
    | (intro v9 hv9; (try simp (disch := omega) only [ab_tI, ab_c0, wd_ix12, wd_ix8, wd_ix10, wd_up_self, wd_up_eq, wd_up_ne, Int.toNat_natCast, Int.toNat_of_nonneg, not_true_eq_false, not_false_eq_true, Option.some.injEq, st_shr, st_shl] at hv9); subst hv9)
    | (apply i_get; (focus (exact rfl)); (focus (exact rfl)))
    | (refine hX9 _ _ _ _ (wd_rnC rfl ?_); clear hC9 hX9 X9 C9; intro C9 X9 hC9 hX9)
    | (refine i_brF (by decide) ?_)
    | (refine i_brT (by decide) ?_)
    | (refine ⟨fun hc => ?_, fun hc => ?_⟩ <;> (try simp (disch := omega) only [ab_tI, ab_c0, wd_ix12, wd_ix8, wd_ix10, wd_up_self, wd_up_eq, wd_up_ne, Int.toNat_natCast, Int.toNat_of_nonneg, not_true_eq_false, not_false_eq_true, Option.some.injEq, st_shr, st_shl] at hc) <;> first | (exfalso; omega) | skip)
    | (apply i_cv; (focus (exact rfl)))
    | (refine And.intro trivial ?_)
    | (refine And.intro (Or.inl rfl) ?_)
    | (refine And.intro (Or.inr rfl) ?_)
    | (refine And.intro (by ((try simp (disch := omega) only [ab_tI, ab_c0, wd_ix12, wd_ix8, wd_ix10, wd_up_self, wd_up_eq, wd_up_ne, Int.toNat_natCast, Int.toNat_of_nonneg, not_true_eq_false, not_false_eq_true, Option.some.injEq, st_shr, st_shl]); omega)) ?_)
    | fail)
  all_goals first | exact hQ F1 k1 z1 v1 N1 b1 b2 b3 b4 b5 b6 | (exfalso; omega)
end
