/-! ===== texts: the builder's room, a text cut out of it (own text) ===== -/
section
variable {d : Nat} {F : Nat → ab_C} {k z : Nat} {Q : ab_Q} {x v N n : Nat}

set_option maxHeartbeats 4000000 in
set_option maxRecDepth 100000 in
theorem j_newCap (hd : 3 ≤ d) {m : Int32} {f : Nat → Int32} {mm cc : ab_V} (h1 : F x = ab_ob 14 [.inr (.inr (some v)), .inl 0, mm, cc]) (h2 : F v = ab_ia 1 N f) (hm : (N : Int) < m.toInt ∧ m.toInt ≤ 500) (hQ : ∀ r : Int32, (N : Int) < r.toInt → m.toInt ≤ r.toInt → 2 * (N : Int) ≤ r.toInt → r.toInt ≤ 2 * m.toInt → Q (some (.inl r)) (F, k, z)) : ab_CT d 145 [wd_v x, .inl m] (F, k, z) Q := by
  have hnl := fun (Q : ab_Q) h1 h2 => j_newLength (d := d - 1) (h := (F, k, z)) (Q := Q) (a := ab_ii (N : Int)) (b := ab_ii (m.toInt - (N : Int))) (c := ab_ii ((N : Int) + 2)) (by omega) (by rw [ab_tI (by omega) (by omega)]; omega) (by rw [ab_tI (by omega) (by omega)]; omega) (by rw [ab_tI (by omega) (by omega)]; omega) h1 h2
  have e1 : (ab_ii (N : Int)).toInt = (N : Int) := ab_tI (by omega) (by omega)
  have e2 : (ab_ii (m.toInt - (N : Int))).toInt = m.toInt - (N : Int) := ab_tI (by omega) (by omega)
  have e3 : (ab_ii ((N : Int) + 2)).toInt = (N : Int) + 2 := ab_tI (by omega) (by omega)
  rw [e1, e2, e3] at hnl
  have e9 : ab_z [(2147483647, 0)] = 2147483647 := rfl
  refine wd_inC rfl (by omega) rfl ?_
  intro C9 X9 hC9 hX9
  repeat' ((conv => whnf); first
    | (apply i_getN; (focus (first | exact h1 | exact h2)); (focus (exact rfl)); (intro v9 hv9; (try simp (disch := omega) only [ab_tI, ab_c0, wd_ix12, wd_ix8, wd_ix10, wd_up_self, wd_up_eq, wd_up_ne, Int.toNat_natCast, Int.toNat_of_nonneg, not_true_eq_false, not_false_eq_true, Option.some.injEq, st_shr, st_shl, e9] at hv9); subst hv9))
    | (apply i_cv; (focus (first | exact h1 | exact h2)))
    | (apply i_len; (focus (first | exact congrArg ab_len (h1) | exact congrArg ab_len (h2))))
    | (apply i_ialN; (focus (first | exact h1 | exact h2)); (focus (first | exact Or.inl rfl | exact Or.inr rfl)); (focus (exact (by first | exact ⟨by decide, by decide⟩ | ((try simp (disch := omega) only [ab_tI, ab_c0, wd_ix12, wd_ix8, wd_ix10, wd_up_self, wd_up_eq, wd_up_ne, Int.toNat_natCast, Int.toNat_of_nonneg, not_true_eq_false, not_false_eq_true, Option.some.injEq, st_shr, st_shl, e9, ab_c0]); omega)))); (intro v9 hv9; (try simp (disch := omega) only [ab_tI, ab_c0, wd_ix12, wd_ix8, wd_ix10, wd_up_self, wd_up_eq, wd_up_ne, Int.toNat_natCast, Int.toNat_of_nonneg, not_true_eq_false, not_false_eq_true, Option.some.injEq, st_shr, st_shl, e9] at hv9); subst hv9))
    | (apply i_aalN; (focus (first | exact h1 | exact h2)); (focus (exact (by first | exact ⟨by decide, by decide⟩ | ((try simp (disch := omega) only [ab_tI, ab_c0, wd_ix12, wd_ix8, wd_ix10, wd_up_self, wd_up_eq, wd_up_ne, Int.toNat_natCast, Int.toNat_of_nonneg, not_true_eq_false, not_false_eq_true, Option.some.injEq, st_shr, st_shl, e9, ab_c0]); omega)))); (intro v9 hv9; (try simp (disch := omega) only [ab_tI, ab_c0, wd_ix12, wd_ix8, wd_ix10, wd_up_self, wd_up_eq, wd_up_ne, Int.toNat_natCast, Int.toNat_of_nonneg, not_true_eq_false, not_false_eq_true, Option.some.injEq, st_shr, st_shl, e9] at hv9); subst hv9))
    | (refine hC9 175 _ _ _ (hnl _ (fun q1 => ?_) (fun q1 => ?_)))
    | (intro v9 hv9; (try simp (disch := omega) only [ab_tI, ab_c0, wd_ix12, wd_ix8, wd_ix10, wd_up_self, wd_up_eq, wd_up_ne, Int.toNat_natCast, Int.toNat_of_nonneg, not_true_eq_false, not_false_eq_true, Option.some.injEq, st_shr, st_shl, e9] at hv9); subst hv9)
    | (apply i_get; (focus (exact rfl)); (focus (exact rfl)))
    | (refine hX9 _ _ _ _ (wd_rnC rfl ?_); clear hC9 hX9 X9 C9; intro C9 X9 hC9 hX9)
    | (refine i_brF (by decide) ?_)
    | (refine i_brT (by decide) ?_)
    | (refine ⟨fun hc => ?_, fun hc => ?_⟩ <;> (try simp (disch := omega) only [ab_tI, ab_c0, wd_ix12, wd_ix8, wd_ix10, wd_up_self, wd_up_eq, wd_up_ne, Int.toNat_natCast, Int.toNat_of_nonneg, not_true_eq_false, not_false_eq_true, Option.some.injEq, st_shr, st_shl, e9] at hc) <;> first | (exfalso; omega) | skip)
    | (apply i_cv; (focus (exact rfl)))
    | (refine And.intro trivial ?_)
    | (refine And.intro (Or.inl rfl) ?_)
    | (refine And.intro (Or.inr rfl) ?_)
    | (refine And.intro (by ((try simp (disch := omega) only [ab_tI, ab_c0, wd_ix12, wd_ix8, wd_ix10, wd_up_self, wd_up_eq, wd_up_ne, Int.toNat_natCast, Int.toNat_of_nonneg, not_true_eq_false, not_false_eq_true, Option.some.injEq, st_shr, st_shl, e9]); omega)) ?_)
    | fail)
  all_goals first | (rw [st_shr]; refine hQ _ ?_ ?_ ?_ ?_ <;> rw [ab_tI (by omega) (by omega)] <;> omega) | (exfalso; omega)
set_option maxHeartbeats 4000000 in
set_option maxRecDepth 100000 in
theorem j_copyOf (hd : 2 ≤ d) {r : Int32} {f : Nat → Int32} (h2 : F v = ab_ia 1 N f) (hv : v < k ∧ k ≤ 600000) (hr : (N : Int) < r.toInt ∧ r.toInt ≤ 1000) (hroom : k + 1 ≤ 600000 ∧ z + 1000 ≤ 5000000) (hQ : ∀ F' f', F' k = ab_ia 1 r.toInt.toNat f' → (∀ y, y ≠ k → F' y = F y) → Q (some (wd_v k)) (F', k + 1, z + r.toInt.toNat)) : ab_CT d 171 [wd_v v, .inl r] (F, k, z) Q := by
  have hscr : 700000 ≤ ab_scr := by decide
  have e1 : (ab_ii (N : Int)).toInt = (N : Int) := ab_tI (by omega) (by omega)
  refine wd_inC rfl (by omega) rfl ?_
  intro C9 X9 hC9 hX9
  repeat' ((conv => whnf); first
    | (apply i_getN; (focus (first | exact h2)); (focus (exact rfl)); (intro v9 hv9; (try simp (disch := omega) only [ab_tI, ab_c0, wd_ix12, wd_ix8, wd_ix10, wd_up_self, wd_up_eq, wd_up_ne, Int.toNat_natCast, Int.toNat_of_nonneg, not_true_eq_false, not_false_eq_true, Option.some.injEq, st_shr, st_shl] at hv9); subst hv9))
    | (apply i_cv; (focus (first | exact h2)))
    | (apply i_len; (focus (first | exact congrArg ab_len (h2))))
    | (apply i_ialN; (focus (first | exact h2)); (focus (first | exact Or.inl rfl | exact Or.inr rfl)); (focus (exact (by first | exact ⟨by decide, by decide⟩ | ((try simp (disch := omega) only [ab_tI, ab_c0, wd_ix12, wd_ix8, wd_ix10, wd_up_self, wd_up_eq, wd_up_ne, Int.toNat_natCast, Int.toNat_of_nonneg, not_true_eq_false, not_false_eq_true, Option.some.injEq, st_shr, st_shl, ab_c0]); omega)))); (intro v9 hv9; (try simp (disch := omega) only [ab_tI, ab_c0, wd_ix12, wd_ix8, wd_ix10, wd_up_self, wd_up_eq, wd_up_ne, Int.toNat_natCast, Int.toNat_of_nonneg, not_true_eq_false, not_false_eq_true, Option.some.injEq, st_shr, st_shl] at hv9); subst hv9))
    | (apply i_aalN; (focus (first | exact h2)); (focus (exact (by first | exact ⟨by decide, by decide⟩ | ((try simp (disch := omega) only [ab_tI, ab_c0, wd_ix12, wd_ix8, wd_ix10, wd_up_self, wd_up_eq, wd_up_ne, Int.toNat_natCast, Int.toNat_of_nonneg, not_true_eq_false, not_false_eq_true, Option.some.injEq, st_shr, st_shl, ab_c0]); omega)))); (intro v9 hv9; (try simp (disch := omega) only [ab_tI, ab_c0, wd_ix12, wd_ix8, wd_ix10, wd_up_self, wd_up_eq, wd_up_ne, Int.toNat_natCast, Int.toNat_of_nonneg, not_true_eq_false, not_false_eq_true, Option.some.injEq, st_shr, st_shl] at hv9); subst hv9))
    | (refine s_newA (n := r.toInt.toNat) (by omega) ⟨by omega, by omega⟩ (fun F1 g1 g2 => ?_); (dsimp only))
    | (apply i_len; (focus (exact congrArg ab_len ((g2 _ (by omega)).trans h2))))
    | (refine hC9 200 _ _ _ (j_min (by omega) (fun q => ?_) (fun q => ?_)))
    | (refine s_cpy ((g2 _ (by omega)).trans h2) g1 (by omega) ⟨by decide, by decide, by omega⟩ ⟨by rw [ab_tI (by omega) (by omega)]; omega, by rw [ab_tI (by omega) (by omega)]; omega⟩ (fun F2 g' g3 g4 => ?_))
    | (intro v9 hv9; (try simp (disch := omega) only [ab_tI, ab_c0, wd_ix12, wd_ix8, wd_ix10, wd_up_self, wd_up_eq, wd_up_ne, Int.toNat_natCast, Int.toNat_of_nonneg, not_true_eq_false, not_false_eq_true, Option.some.injEq, st_shr, st_shl] at hv9); subst hv9)
    | (apply i_get; (focus (exact rfl)); (focus (exact rfl)))
    | (refine hX9 _ _ _ _ (wd_rnC rfl ?_); clear hC9 hX9 X9 C9; intro C9 X9 hC9 hX9)
    | (refine i_brF (by decide) ?_)
    | (refine i_brT (by decide) ?_)
    | (refine ⟨fun hc => ?_, fun hc => ?_⟩ <;> (try simp (disch := omega) only [ab_tI, ab_c0, wd_ix12, wd_ix8, wd_ix10, wd_up_self, wd_up_eq, wd_up_ne, Int.toNat_natCast, Int.toNat_of_nonneg, not_true_eq_false, not_false_eq_true, Option.some.injEq, st_shr, st_shl] at hc) <;> first | (exfalso; omega) | skip)
    | (apply i_cv; (focus (exact rfl)))
    | (refine And.intro trivial ?_)
    | (refine And.intro (Or.inl rfl) ?_)
    | (refine And.intro (Or.inr rfl) ?_)
    | (refine And.intro (by ((try simp (disch := omega) only [ab_tI, ab_c0, wd_ix12, wd_ix8, wd_ix10, wd_up_self, wd_up_eq, wd_up_ne, Int.toNat_natCast, Int.toNat_of_nonneg, not_true_eq_false, not_false_eq_true, Option.some.injEq, st_shr, st_shl]); omega)) ?_)
    | fail)
  all_goals first | exact hQ _ _ g3 (fun y hy => (g4 y hy).trans (g2 y hy)) | (exfalso; omega)
theorem st_sb.sp (hb : st_sb F k x v N n) : ∃ f m, F x = ab_ob 14 [.inr (.inr (some v)), .inl 0, .inl m, .inl (ab_ii (n : Int))] ∧ F v = ab_ia 1 N f := hb.1
set_option maxHeartbeats 4000000 in
set_option maxRecDepth 100000 in
theorem j_ens (hd : 4 ≤ d) {c : Int32} (hb : st_sb F k x v N n) (hc : 0 ≤ c.toInt ∧ c.toInt ≤ 400) (hroom : k + 1 ≤ 600000 ∧ z + 1000 ≤ 5000000) (hQ : ∀ F' k' z' v' N', st_sb F' k' x v' N' n → c.toInt ≤ (N' : Int) → st_fr F k x x F' → (v' = v ∨ k ≤ v') → (k ≤ k' ∧ k' ≤ k + 1) → (z ≤ z' ∧ z' + 2 * N ≤ z + 2 * N') → (N' ≤ N ∨ (N' : Int) ≤ 2 * c.toInt) → Q none (F', k', z')) : ab_CT d 144 [wd_v x, .inl c] (F, k, z) Q := by
  obtain ⟨⟨f, m, h1, h2⟩, ⟨hx, hv, hxv, hk⟩, hn, hN⟩ := id hb
  have hscr : 700000 ≤ ab_scr := by decide
  have e1 : (ab_ii (N : Int)).toInt = (N : Int) := ab_tI (by omega) (by omega)
  by_cases hcN : c.toInt ≤ (N : Int)
  · have hQ' := hQ F k z v N hb hcN (fun _ _ _ _ => rfl) (Or.inl rfl) ⟨by omega, by omega⟩ ⟨by omega, by omega⟩ (Or.inl (by omega))
    clear hQ
    refine wd_inC rfl (by omega) rfl ?_
    intro C9 X9 hC9 hX9
    repeat' ((conv => whnf); first
    | (apply i_getN; (focus (first | exact h1 | exact h2)); (focus (exact rfl)); (intro v9 hv9; (try simp (disch := omega) only [ab_tI, ab_c0, wd_ix12, wd_ix8, wd_ix10, wd_up_self, wd_up_eq, wd_up_ne, Int.toNat_natCast, Int.toNat_of_nonneg, not_true_eq_false, not_false_eq_true, Option.some.injEq, st_shr, st_shl] at hv9); subst hv9))
    | (apply i_cv; (focus (first | exact h1 | exact h2)))
    | (apply i_len; (focus (first | exact congrArg ab_len (h1) | exact congrArg ab_len (h2))))
    | (apply i_ialN; (focus (first | exact h1 | exact h2)); (focus (first | exact Or.inl rfl | exact Or.inr rfl)); (focus (exact (by first | exact ⟨by decide, by decide⟩ | ((try simp (disch := omega) only [ab_tI, ab_c0, wd_ix12, wd_ix8, wd_ix10, wd_up_self, wd_up_eq, wd_up_ne, Int.toNat_natCast, Int.toNat_of_nonneg, not_true_eq_false, not_false_eq_true, Option.some.injEq, st_shr, st_shl, ab_c0]); omega)))); (intro v9 hv9; (try simp (disch := omega) only [ab_tI, ab_c0, wd_ix12, wd_ix8, wd_ix10, wd_up_self, wd_up_eq, wd_up_ne, Int.toNat_natCast, Int.toNat_of_nonneg, not_true_eq_false, not_false_eq_true, Option.some.injEq, st_shr, st_shl] at hv9); subst hv9))
    | (apply i_aalN; (focus (first | exact h1 | exact h2)); (focus (exact (by first | exact ⟨by decide, by decide⟩ | ((try simp (disch := omega) only [ab_tI, ab_c0, wd_ix12, wd_ix8, wd_ix10, wd_up_self, wd_up_eq, wd_up_ne, Int.toNat_natCast, Int.toNat_of_nonneg, not_true_eq_false, not_false_eq_true, Option.some.injEq, st_shr, st_shl, ab_c0]); omega)))); (intro v9 hv9; (try simp (disch := omega) only [ab_tI, ab_c0, wd_ix12, wd_ix8, wd_ix10, wd_up_self, wd_up_eq, wd_up_ne, Int.toNat_natCast, Int.toNat_of_nonneg, not_true_eq_false, not_false_eq_true, Option.some.injEq, st_shr, st_shl] at hv9); subst hv9))
    | (intro v9 hv9; (try simp (disch := omega) only [ab_tI, ab_c0, wd_ix12, wd_ix8, wd_ix10, wd_up_self, wd_up_eq, wd_up_ne, Int.toNat_natCast, Int.toNat_of_nonneg, not_true_eq_false, not_false_eq_true, Option.some.injEq, st_shr, st_shl] at hv9); subst hv9)
    | (apply i_get; (focus (exact rfl)); (focus (exact rfl)))
    | (refine hX9 _ _ _ _ (wd_rnC rfl ?_); clear hC9 hX9 X9 C9; intro C9 X9 hC9 hX9)
    | (refine i_brF (by decide) ?_)
    | (refine i_brT (by decide) ?_)
    | (refine ⟨fun hc => ?_, fun hc => ?_⟩ <;> (try simp (disch := omega) only [ab_tI, ab_c0, wd_ix12, wd_ix8, wd_ix10, wd_up_self, wd_up_eq, wd_up_ne, Int.toNat_natCast, Int.toNat_of_nonneg, not_true_eq_false, not_false_eq_true, Option.some.injEq, st_shr, st_shl] at hc) <;> first | (exfalso; omega) | skip)
    | (apply i_cv; (focus (exact rfl)))
    | (refine And.intro trivial ?_)
    | (refine And.intro (Or.inl rfl) ?_)
    | (refine And.intro (Or.inr rfl) ?_)
    | (refine And.intro (by ((try simp (disch := omega) only [ab_tI, ab_c0, wd_ix12, wd_ix8, wd_ix10, wd_up_self, wd_up_eq, wd_up_ne, Int.toNat_natCast, Int.toNat_of_nonneg, not_true_eq_false, not_false_eq_true, Option.some.injEq, st_shr, st_shl]); omega)) ?_)
    | fail)
    all_goals first | exact hQ' | (exfalso; omega)
  · have hfin : ∀ (r : Int32) (F1 : Nat → ab_C) (f1 : Nat → Int32), (N : Int) < r.toInt → c.toInt ≤ r.toInt → 2 * (N : Int) ≤ r.toInt → r.toInt ≤ 2 * c.toInt → F1 k = ab_ia 1 r.toInt.toNat f1 → (∀ y, y ≠ k → F1 y = F y) → ∀ F2, F2 x = ab_ob 14 [.inr (.inr (some k)), .inl 0, .inl m, .inl (ab_ii (n : Int))] → (∀ y, y ≠ x → F2 y = F1 y) → Q none (F2, k + 1, z + r.toInt.toNat) := fun r F1 f1 r1 r2 r3 r4 g1 g2 F2 g3 g4 => by
      refine hQ F2 (k + 1) (z + r.toInt.toNat) k r.toInt.toNat ⟨⟨f1, m, g3, (g4 k (by omega)).trans g1⟩, ⟨by omega, by omega, by omega, by omega⟩, by omega, by omega⟩ (by omega) (fun a ha h3 _ => (g4 a h3).trans (g2 a (by omega))) (Or.inr (Nat.le_refl _)) ⟨by omega, by omega⟩ ⟨by omega, by omega⟩ (Or.inr (by omega))
    clear hQ
    refine wd_inC rfl (by omega) rfl ?_
    intro C9 X9 hC9 hX9
    repeat' ((conv => whnf); first
    | (apply i_getN; (focus (first | exact h1 | exact h2)); (focus (exact rfl)); (intro v9 hv9; (try simp (disch := omega) only [ab_tI, ab_c0, wd_ix12, wd_ix8, wd_ix10, wd_up_self, wd_up_eq, wd_up_ne, Int.toNat_natCast, Int.toNat_of_nonneg, not_true_eq_false, not_false_eq_true, Option.some.injEq, st_shr, st_shl] at hv9); subst hv9))
    | (apply i_cv; (focus (first | exact h1 | exact h2)))
    | (apply i_len; (focus (first | exact congrArg ab_len (h1) | exact congrArg ab_len (h2))))
    | (apply i_ialN; (focus (first | exact h1 | exact h2)); (focus (first | exact Or.inl rfl | exact Or.inr rfl)); (focus (exact (by first | exact ⟨by decide, by decide⟩ | ((try simp (disch := omega) only [ab_tI, ab_c0, wd_ix12, wd_ix8, wd_ix10, wd_up_self, wd_up_eq, wd_up_ne, Int.toNat_natCast, Int.toNat_of_nonneg, not_true_eq_false, not_false_eq_true, Option.some.injEq, st_shr, st_shl, ab_c0]); omega)))); (intro v9 hv9; (try simp (disch := omega) only [ab_tI, ab_c0, wd_ix12, wd_ix8, wd_ix10, wd_up_self, wd_up_eq, wd_up_ne, Int.toNat_natCast, Int.toNat_of_nonneg, not_true_eq_false, not_false_eq_true, Option.some.injEq, st_shr, st_shl] at hv9); subst hv9))
    | (apply i_aalN; (focus (first | exact h1 | exact h2)); (focus (exact (by first | exact ⟨by decide, by decide⟩ | ((try simp (disch := omega) only [ab_tI, ab_c0, wd_ix12, wd_ix8, wd_ix10, wd_up_self, wd_up_eq, wd_up_ne, Int.toNat_natCast, Int.toNat_of_nonneg, not_true_eq_false, not_false_eq_true, Option.some.injEq, st_shr, st_shl, ab_c0]); omega)))); (intro v9 hv9; (try simp (disch := omega) only [ab_tI, ab_c0, wd_ix12, wd_ix8, wd_ix10, wd_up_self, wd_up_eq, wd_up_ne, Int.toNat_natCast, Int.toNat_of_nonneg, not_true_eq_false, not_false_eq_true, Option.some.injEq, st_shr, st_shl] at hv9); subst hv9))
    | (refine hC9 145 _ _ _ (j_newCap (by omega) h1 h2 ⟨by omega, by omega⟩ (fun r r1 r2 r3 r4 => ?_)))
    | (rw [st_shl]; refine hC9 171 _ _ _ (j_copyOf (by omega) h2 ⟨hv, hk⟩ ⟨r1, by omega⟩ hroom (fun F1 f1 g1 g2 => ?_)))
    | (refine s_put ((g2 _ (by omega)).trans h1) rfl trivial (fun F2 g3 g4 => ?_))
    | (intro v9 hv9; (try simp (disch := omega) only [ab_tI, ab_c0, wd_ix12, wd_ix8, wd_ix10, wd_up_self, wd_up_eq, wd_up_ne, Int.toNat_natCast, Int.toNat_of_nonneg, not_true_eq_false, not_false_eq_true, Option.some.injEq, st_shr, st_shl] at hv9); subst hv9)
    | (apply i_get; (focus (exact rfl)); (focus (exact rfl)))
    | (refine hX9 _ _ _ _ (wd_rnC rfl ?_); clear hC9 hX9 X9 C9; intro C9 X9 hC9 hX9)
    | (refine i_brF (by decide) ?_)
    | (refine i_brT (by decide) ?_)
    | (refine ⟨fun hc => ?_, fun hc => ?_⟩ <;> (try simp (disch := omega) only [ab_tI, ab_c0, wd_ix12, wd_ix8, wd_ix10, wd_up_self, wd_up_eq, wd_up_ne, Int.toNat_natCast, Int.toNat_of_nonneg, not_true_eq_false, not_false_eq_true, Option.some.injEq, st_shr, st_shl] at hc) <;> first | (exfalso; omega) | skip)
    | (apply i_cv; (focus (exact rfl)))
    | (refine And.intro trivial ?_)
    | (refine And.intro (Or.inl rfl) ?_)
    | (refine And.intro (Or.inr rfl) ?_)
    | (refine And.intro (by ((try simp (disch := omega) only [ab_tI, ab_c0, wd_ix12, wd_ix8, wd_ix10, wd_up_self, wd_up_eq, wd_up_ne, Int.toNat_natCast, Int.toNat_of_nonneg, not_true_eq_false, not_false_eq_true, Option.some.injEq, st_shr, st_shl]); omega)) ?_)
    | fail)
    all_goals first | exact hfin r F1 f1 r1 r2 r3 r4 g1 g2 _ g3 g4 | (exfalso; omega)
set_option maxHeartbeats 4000000 in
set_option maxRecDepth 100000 in
theorem j_init5 (hd : 1 ≤ d) (hs0 : F (ab_scr + 130) = ab_ob 998 [.inl 1]) (hx : x < k) (h1 : F x = ab_ob 14 (ab_df 14)) (hroom : k + 1 ≤ 600000 ∧ z + 16 ≤ 5000000) (hQ : ∀ F', st_sb F' (k + 1) x k 16 0 → st_fr F k x x F' → Q none (F', k + 1, z + 16)) : ab_CT d 142 [wd_v x, .inl (ab_ii 16)] (F, k, z) Q := by
  have hscr : 700000 ≤ ab_scr := by decide
  refine wd_inC rfl (by omega) rfl ?_
  intro C9 X9 hC9 hX9
  repeat' ((conv => whnf); first
    | (refine s_sta hs0 ?_)
    | (refine s_newA (n := 16) (by decide) ⟨by omega, by omega⟩ (fun F1 g1 g2 => ?_); (dsimp only))
    | (refine s_put ((g2 _ (by omega)).trans h1) rfl trivial (fun F2 g3 g4 => ?_))
    | (refine s_put g3 rfl (And.intro (by decide) (by decide)) (fun F3 g5 g6 => ?_))
    | (intro v9 hv9; (try simp (disch := omega) only [ab_tI, ab_c0, wd_ix12, wd_ix8, wd_ix10, wd_up_self, wd_up_eq, wd_up_ne, Int.toNat_natCast, Int.toNat_of_nonneg, not_true_eq_false, not_false_eq_true, Option.some.injEq, st_shr, st_shl] at hv9); subst hv9)
    | (apply i_get; (focus (exact rfl)); (focus (exact rfl)))
    | (refine hX9 _ _ _ _ (wd_rnC rfl ?_); clear hC9 hX9 X9 C9; intro C9 X9 hC9 hX9)
    | (refine i_brF (by decide) ?_)
    | (refine i_brT (by decide) ?_)
    | (refine ⟨fun hc => ?_, fun hc => ?_⟩ <;> (try simp (disch := omega) only [ab_tI, ab_c0, wd_ix12, wd_ix8, wd_ix10, wd_up_self, wd_up_eq, wd_up_ne, Int.toNat_natCast, Int.toNat_of_nonneg, not_true_eq_false, not_false_eq_true, Option.some.injEq, st_shr, st_shl] at hc) <;> first | (exfalso; omega) | skip)
    | (apply i_cv; (focus (exact rfl)))
    | (refine And.intro trivial ?_)
    | (refine And.intro (Or.inl rfl) ?_)
    | (refine And.intro (Or.inr rfl) ?_)
    | (refine And.intro (by ((try simp (disch := omega) only [ab_tI, ab_c0, wd_ix12, wd_ix8, wd_ix10, wd_up_self, wd_up_eq, wd_up_ne, Int.toNat_natCast, Int.toNat_of_nonneg, not_true_eq_false, not_false_eq_true, Option.some.injEq, st_shr, st_shl]); omega)) ?_)
    | fail)
  all_goals first | (exact hQ _ ⟨⟨_, _, g5, ((g6 k (by omega)).trans (g4 k (by omega))).trans g1⟩, ⟨by omega, by omega, by omega, by omega⟩, by omega, by omega⟩ (fun a ha h3 _ => ((g6 a h3).trans (g4 a h3)).trans (g2 a (by omega)))) | (exfalso; omega)
set_option maxHeartbeats 4000000 in
set_option maxRecDepth 100000 in
theorem j_init4 (hd : 2 ≤ d) (hs0 : F (ab_scr + 130) = ab_ob 998 [.inl 1]) (hx : x < k) (h1 : F x = ab_ob 14 (ab_df 14)) (hroom : k + 1 ≤ 600000 ∧ z + 16 ≤ 5000000) (hQ : ∀ F', st_sb F' (k + 1) x k 16 0 → st_fr F k x x F' → Q none (F', k + 1, z + 16)) : ab_CT d 163 [wd_v x] (F, k, z) Q := by
  refine wd_inC rfl (by omega) rfl ?_
  intro C9 X9 hC9 hX9
  repeat' ((conv => whnf); first
    | (apply i_getN; (focus (first | exact h1)); (focus (exact rfl)); (intro v9 hv9; (try simp (disch := omega) only [ab_tI, ab_c0, wd_ix12, wd_ix8, wd_ix10, wd_up_self, wd_up_eq, wd_up_ne, Int.toNat_natCast, Int.toNat_of_nonneg, not_true_eq_false, not_false_eq_true, Option.some.injEq, st_shr, st_shl] at hv9); subst hv9))
    | (apply i_cv; (focus (first | exact h1)))
    | (apply i_len; (focus (first | exact congrArg ab_len (h1))))
    | (apply i_ialN; (focus (first | exact h1)); (focus (first | exact Or.inl rfl | exact Or.inr rfl)); (focus (exact (by first | exact ⟨by decide, by decide⟩ | ((try simp (disch := omega) only [ab_tI, ab_c0, wd_ix12, wd_ix8, wd_ix10, wd_up_self, wd_up_eq, wd_up_ne, Int.toNat_natCast, Int.toNat_of_nonneg, not_true_eq_false, not_false_eq_true, Option.some.injEq, st_shr, st_shl, ab_c0]); omega)))); (intro v9 hv9; (try simp (disch := omega) only [ab_tI, ab_c0, wd_ix12, wd_ix8, wd_ix10, wd_up_self, wd_up_eq, wd_up_ne, Int.toNat_natCast, Int.toNat_of_nonneg, not_true_eq_false, not_false_eq_true, Option.some.injEq, st_shr, st_shl] at hv9); subst hv9))
    | (apply i_aalN; (focus (first | exact h1)); (focus (exact (by first | exact ⟨by decide, by decide⟩ | ((try simp (disch := omega) only [ab_tI, ab_c0, wd_ix12, wd_ix8, wd_ix10, wd_up_self, wd_up_eq, wd_up_ne, Int.toNat_natCast, Int.toNat_of_nonneg, not_true_eq_false, not_false_eq_true, Option.some.injEq, st_shr, st_shl, ab_c0]); omega)))); (intro v9 hv9; (try simp (disch := omega) only [ab_tI, ab_c0, wd_ix12, wd_ix8, wd_ix10, wd_up_self, wd_up_eq, wd_up_ne, Int.toNat_natCast, Int.toNat_of_nonneg, not_true_eq_false, not_false_eq_true, Option.some.injEq, st_shr, st_shl] at hv9); subst hv9))
    | (refine hC9 142 _ _ _ (j_init5 (by omega) hs0 hx h1 hroom (fun F1 g1 g2 => ?_)))
    | (intro v9 hv9; (try simp (disch := omega) only [ab_tI, ab_c0, wd_ix12, wd_ix8, wd_ix10, wd_up_self, wd_up_eq, wd_up_ne, Int.toNat_natCast, Int.toNat_of_nonneg, not_true_eq_false, not_false_eq_true, Option.some.injEq, st_shr, st_shl] at hv9); subst hv9)
    | (apply i_get; (focus (exact rfl)); (focus (exact rfl)))
    | (refine hX9 _ _ _ _ (wd_rnC rfl ?_); clear hC9 hX9 X9 C9; intro C9 X9 hC9 hX9)
    | (refine i_brF (by decide) ?_)
    | (refine i_brT (by decide) ?_)
    | (refine ⟨fun hc => ?_, fun hc => ?_⟩ <;> (try simp (disch := omega) only [ab_tI, ab_c0, wd_ix12, wd_ix8, wd_ix10, wd_up_self, wd_up_eq, wd_up_ne, Int.toNat_natCast, Int.toNat_of_nonneg, not_true_eq_false, not_false_eq_true, Option.some.injEq, st_shr, st_shl] at hc) <;> first | (exfalso; omega) | skip)
    | (apply i_cv; (focus (exact rfl)))
    | (refine And.intro trivial ?_)
    | (refine And.intro (Or.inl rfl) ?_)
    | (refine And.intro (Or.inr rfl) ?_)
    | (refine And.intro (by ((try simp (disch := omega) only [ab_tI, ab_c0, wd_ix12, wd_ix8, wd_ix10, wd_up_self, wd_up_eq, wd_up_ne, Int.toNat_natCast, Int.toNat_of_nonneg, not_true_eq_false, not_false_eq_true, Option.some.injEq, st_shr, st_shl]); omega)) ?_)
    | fail)
  all_goals first | exact hQ _ g1 g2 | (exfalso; omega)
set_option maxHeartbeats 4000000 in
set_option maxRecDepth 100000 in
theorem j_copyRB (hd : 2 ≤ d) {c : Int32} {f : Nat → Int32} (h2 : F v = ab_ia 1 N f) (hv : v < k ∧ k ≤ 600000) (hN : N ≤ 1000) (hcc : 0 ≤ c.toInt ∧ c.toInt ≤ (N : Int)) (hroom : k + 1 ≤ 600000 ∧ z + 1000 ≤ 5000000) (hQ : ∀ F' f', F' k = ab_ia 1 c.toInt.toNat f' → (∀ y, y ≠ k → F' y = F y) → Q (some (wd_v k)) (F', k + 1, z + c.toInt.toNat)) : ab_CT d 174 [wd_v v, .inl (ab_ii 0), .inl c] (F, k, z) Q := by
  have hscr : 700000 ≤ ab_scr := by decide
  have e0 : (ab_ii 0).toInt = 0 := by decide
  have e1 : (ab_ii (N : Int)).toInt = (N : Int) := ab_tI (by omega) (by omega)
  have e2 : (ab_ii (c.toInt - 0)).toInt = c.toInt := by rw [Int.sub_zero, ab_ii_toInt]
  have e3 : (N : Int) - 0 = (N : Int) := Int.sub_zero _
  refine wd_inC rfl (by omega) rfl ?_
  intro C9 X9 hC9 hX9
  repeat' ((conv => whnf); first
    | (apply i_getN; (focus (first | exact h2)); (focus (exact rfl)); (intro v9 hv9; (try simp (disch := omega) only [ab_tI, ab_c0, wd_ix12, wd_ix8, wd_ix10, wd_up_self, wd_up_eq, wd_up_ne, Int.toNat_natCast, Int.toNat_of_nonneg, not_true_eq_false, not_false_eq_true, Option.some.injEq, st_shr, st_shl, e0, e2, e3] at hv9); subst hv9))
    | (apply i_cv; (focus (first | exact h2)))
    | (apply i_len; (focus (first | exact congrArg ab_len (h2))))
    | (apply i_ialN; (focus (first | exact h2)); (focus (first | exact Or.inl rfl | exact Or.inr rfl)); (focus (exact (by first | exact ⟨by decide, by decide⟩ | ((try simp (disch := omega) only [ab_tI, ab_c0, wd_ix12, wd_ix8, wd_ix10, wd_up_self, wd_up_eq, wd_up_ne, Int.toNat_natCast, Int.toNat_of_nonneg, not_true_eq_false, not_false_eq_true, Option.some.injEq, st_shr, st_shl, e0, e2, e3, ab_c0]); omega)))); (intro v9 hv9; (try simp (disch := omega) only [ab_tI, ab_c0, wd_ix12, wd_ix8, wd_ix10, wd_up_self, wd_up_eq, wd_up_ne, Int.toNat_natCast, Int.toNat_of_nonneg, not_true_eq_false, not_false_eq_true, Option.some.injEq, st_shr, st_shl, e0, e2, e3] at hv9); subst hv9))
    | (apply i_aalN; (focus (first | exact h2)); (focus (exact (by first | exact ⟨by decide, by decide⟩ | ((try simp (disch := omega) only [ab_tI, ab_c0, wd_ix12, wd_ix8, wd_ix10, wd_up_self, wd_up_eq, wd_up_ne, Int.toNat_natCast, Int.toNat_of_nonneg, not_true_eq_false, not_false_eq_true, Option.some.injEq, st_shr, st_shl, e0, e2, e3, ab_c0]); omega)))); (intro v9 hv9; (try simp (disch := omega) only [ab_tI, ab_c0, wd_ix12, wd_ix8, wd_ix10, wd_up_self, wd_up_eq, wd_up_ne, Int.toNat_natCast, Int.toNat_of_nonneg, not_true_eq_false, not_false_eq_true, Option.some.injEq, st_shr, st_shl, e0, e2, e3] at hv9); subst hv9))
    | (refine hC9 172 _ _ _ (j_checkLen (by omega) (by omega) ?_))
    | (refine s_newA (n := c.toInt.toNat) (by omega) ⟨by omega, by omega⟩ (fun F1 g1 g2 => ?_); (dsimp only))
    | (apply i_len; (focus (exact congrArg ab_len ((g2 _ (by omega)).trans h2))))
    | (refine hC9 200 _ _ _ (j_min (by omega) (fun q => ?_) (fun q => ?_)))
    | (refine s_cpy ((g2 _ (by omega)).trans h2) g1 (by omega) ⟨by decide, by decide, by omega⟩ ⟨by omega, by omega⟩ (fun F2 g' g3 g4 => ?_))
    | (intro v9 hv9; (try simp (disch := omega) only [ab_tI, ab_c0, wd_ix12, wd_ix8, wd_ix10, wd_up_self, wd_up_eq, wd_up_ne, Int.toNat_natCast, Int.toNat_of_nonneg, not_true_eq_false, not_false_eq_true, Option.some.injEq, st_shr, st_shl, e0, e2, e3] at hv9); subst hv9)
    | (apply i_get; (focus (exact rfl)); (focus (exact rfl)))
    | (refine hX9 _ _ _ _ (wd_rnC rfl ?_); clear hC9 hX9 X9 C9; intro C9 X9 hC9 hX9)
    | (refine i_brF (by decide) ?_)
    | (refine i_brT (by decide) ?_)
    | (refine ⟨fun hc => ?_, fun hc => ?_⟩ <;> (try simp (disch := omega) only [ab_tI, ab_c0, wd_ix12, wd_ix8, wd_ix10, wd_up_self, wd_up_eq, wd_up_ne, Int.toNat_natCast, Int.toNat_of_nonneg, not_true_eq_false, not_false_eq_true, Option.some.injEq, st_shr, st_shl, e0, e2, e3] at hc) <;> first | (exfalso; omega) | skip)
    | (apply i_cv; (focus (exact rfl)))
    | (refine And.intro trivial ?_)
    | (refine And.intro (Or.inl rfl) ?_)
    | (refine And.intro (Or.inr rfl) ?_)
    | (refine And.intro (by ((try simp (disch := omega) only [ab_tI, ab_c0, wd_ix12, wd_ix8, wd_ix10, wd_up_self, wd_up_eq, wd_up_ne, Int.toNat_natCast, Int.toNat_of_nonneg, not_true_eq_false, not_false_eq_true, Option.some.injEq, st_shr, st_shl, e0, e2, e3]); omega)) ?_)
    | fail)
  all_goals first | exact hQ _ _ g3 (fun y hy => (g4 y hy).trans (g2 y hy)) | (exfalso; omega)
set_option maxHeartbeats 4000000 in
set_option maxRecDepth 100000 in
theorem j_copyR (hd : 3 ≤ d) {c : Int32} {f : Nat → Int32} (h2 : F v = ab_ia 1 N f) (hv : v < k ∧ k ≤ 600000) (hN : N ≤ 1000) (hcc : 0 ≤ c.toInt ∧ c.toInt ≤ (N : Int)) (hroom : k + 1 ≤ 600000 ∧ z + 1000 ≤ 5000000) (hQ : ∀ F' f', F' k = ab_ia 1 c.toInt.toNat f' → (∀ y, y ≠ k → F' y = F y) → Q (some (wd_v k)) (F', k + 1, z + c.toInt.toNat)) : ab_CT d 173 [wd_v v, .inl (ab_ii 0), .inl c] (F, k, z) Q := by
  have hscr : 700000 ≤ ab_scr := by decide
  have e1 : (ab_ii (N : Int)).toInt = (N : Int) := ab_tI (by omega) (by omega)
  by_cases hcN : c.toInt = (N : Int)
  · have hQ' : ∀ F' : Nat → ab_C, F' k = ab_ia 1 N f → (∀ y, y ≠ k → F' y = F y) → Q (some (wd_v k)) (F', k + 1, z + N) := fun F' g1 g2 => by
      have e : c.toInt.toNat = N := by omega
      rw [e] at hQ
      exact hQ F' f g1 g2
    clear hQ
    refine wd_inC rfl (by omega) rfl ?_
    intro C9 X9 hC9 hX9
    repeat' ((conv => whnf); first
    | (apply i_getN; (focus (first | exact h2)); (focus (exact rfl)); (intro v9 hv9; (try simp (disch := omega) only [ab_tI, ab_c0, wd_ix12, wd_ix8, wd_ix10, wd_up_self, wd_up_eq, wd_up_ne, Int.toNat_natCast, Int.toNat_of_nonneg, not_true_eq_false, not_false_eq_true, Option.some.injEq, st_shr, st_shl] at hv9); subst hv9))
    | (apply i_cv; (focus (first | exact h2)))
    | (apply i_len; (focus (first | exact congrArg ab_len (h2))))
    | (apply i_ialN; (focus (first | exact h2)); (focus (first | exact Or.inl rfl | exact Or.inr rfl)); (focus (exact (by first | exact ⟨by decide, by decide⟩ | ((try simp (disch := omega) only [ab_tI, ab_c0, wd_ix12, wd_ix8, wd_ix10, wd_up_self, wd_up_eq, wd_up_ne, Int.toNat_natCast, Int.toNat_of_nonneg, not_true_eq_false, not_false_eq_true, Option.some.injEq, st_shr, st_shl, ab_c0]); omega)))); (intro v9 hv9; (try simp (disch := omega) only [ab_tI, ab_c0, wd_ix12, wd_ix8, wd_ix10, wd_up_self, wd_up_eq, wd_up_ne, Int.toNat_natCast, Int.toNat_of_nonneg, not_true_eq_false, not_false_eq_true, Option.some.injEq, st_shr, st_shl] at hv9); subst hv9))
    | (apply i_aalN; (focus (first | exact h2)); (focus (exact (by first | exact ⟨by decide, by decide⟩ | ((try simp (disch := omega) only [ab_tI, ab_c0, wd_ix12, wd_ix8, wd_ix10, wd_up_self, wd_up_eq, wd_up_ne, Int.toNat_natCast, Int.toNat_of_nonneg, not_true_eq_false, not_false_eq_true, Option.some.injEq, st_shr, st_shl, ab_c0]); omega)))); (intro v9 hv9; (try simp (disch := omega) only [ab_tI, ab_c0, wd_ix12, wd_ix8, wd_ix10, wd_up_self, wd_up_eq, wd_up_ne, Int.toNat_natCast, Int.toNat_of_nonneg, not_true_eq_false, not_false_eq_true, Option.some.injEq, st_shr, st_shl] at hv9); subst hv9))
    | (refine s_cln h2 (by omega) ⟨by omega, by omega⟩ (fun F1 g1 g2 => ?_); (dsimp only))
    | (refine ⟨N, f, g1, by show k < ab_scr; omega, ?_⟩)
    | (refine hC9 174 _ _ _ ?_; exfalso; omega)
    | (intro v9 hv9; (try simp (disch := omega) only [ab_tI, ab_c0, wd_ix12, wd_ix8, wd_ix10, wd_up_self, wd_up_eq, wd_up_ne, Int.toNat_natCast, Int.toNat_of_nonneg, not_true_eq_false, not_false_eq_true, Option.some.injEq, st_shr, st_shl] at hv9); subst hv9)
    | (apply i_get; (focus (exact rfl)); (focus (exact rfl)))
    | (refine hX9 _ _ _ _ (wd_rnC rfl ?_); clear hC9 hX9 X9 C9; intro C9 X9 hC9 hX9)
    | (refine i_brF (by decide) ?_)
    | (refine i_brT (by decide) ?_)
    | (refine ⟨fun hc => ?_, fun hc => ?_⟩ <;> (try simp (disch := omega) only [ab_tI, ab_c0, wd_ix12, wd_ix8, wd_ix10, wd_up_self, wd_up_eq, wd_up_ne, Int.toNat_natCast, Int.toNat_of_nonneg, not_true_eq_false, not_false_eq_true, Option.some.injEq, st_shr, st_shl] at hc) <;> first | (exfalso; omega) | skip)
    | (apply i_cv; (focus (exact rfl)))
    | (refine And.intro trivial ?_)
    | (refine And.intro (Or.inl rfl) ?_)
    | (refine And.intro (Or.inr rfl) ?_)
    | (refine And.intro (by ((try simp (disch := omega) only [ab_tI, ab_c0, wd_ix12, wd_ix8, wd_ix10, wd_up_self, wd_up_eq, wd_up_ne, Int.toNat_natCast, Int.toNat_of_nonneg, not_true_eq_false, not_false_eq_true, Option.some.injEq, st_shr, st_shl]); omega)) ?_)
    | fail)
    all_goals first | exact hQ' _ g1 g2 | (exfalso; omega)
  · refine wd_inC rfl (by omega) rfl ?_
    intro C9 X9 hC9 hX9
    repeat' ((conv => whnf); first
    | (apply i_getN; (focus (first | exact h2)); (focus (exact rfl)); (intro v9 hv9; (try simp (disch := omega) only [ab_tI, ab_c0, wd_ix12, wd_ix8, wd_ix10, wd_up_self, wd_up_eq, wd_up_ne, Int.toNat_natCast, Int.toNat_of_nonneg, not_true_eq_false, not_false_eq_true, Option.some.injEq, st_shr, st_shl] at hv9); subst hv9))
    | (apply i_cv; (focus (first | exact h2)))
    | (apply i_len; (focus (first | exact congrArg ab_len (h2))))
    | (apply i_ialN; (focus (first | exact h2)); (focus (first | exact Or.inl rfl | exact Or.inr rfl)); (focus (exact (by first | exact ⟨by decide, by decide⟩ | ((try simp (disch := omega) only [ab_tI, ab_c0, wd_ix12, wd_ix8, wd_ix10, wd_up_self, wd_up_eq, wd_up_ne, Int.toNat_natCast, Int.toNat_of_nonneg, not_true_eq_false, not_false_eq_true, Option.some.injEq, st_shr, st_shl, ab_c0]); omega)))); (intro v9 hv9; (try simp (disch := omega) only [ab_tI, ab_c0, wd_ix12, wd_ix8, wd_ix10, wd_up_self, wd_up_eq, wd_up_ne, Int.toNat_natCast, Int.toNat_of_nonneg, not_true_eq_false, not_false_eq_true, Option.some.injEq, st_shr, st_shl] at hv9); subst hv9))
    | (apply i_aalN; (focus (first | exact h2)); (focus (exact (by first | exact ⟨by decide, by decide⟩ | ((try simp (disch := omega) only [ab_tI, ab_c0, wd_ix12, wd_ix8, wd_ix10, wd_up_self, wd_up_eq, wd_up_ne, Int.toNat_natCast, Int.toNat_of_nonneg, not_true_eq_false, not_false_eq_true, Option.some.injEq, st_shr, st_shl, ab_c0]); omega)))); (intro v9 hv9; (try simp (disch := omega) only [ab_tI, ab_c0, wd_ix12, wd_ix8, wd_ix10, wd_up_self, wd_up_eq, wd_up_ne, Int.toNat_natCast, Int.toNat_of_nonneg, not_true_eq_false, not_false_eq_true, Option.some.injEq, st_shr, st_shl] at hv9); subst hv9))
    | (refine hC9 174 _ _ _ (j_copyRB (by omega) h2 hv hN hcc hroom (fun F1 f1 g1 g2 => ?_)))
    | (intro v9 hv9; (try simp (disch := omega) only [ab_tI, ab_c0, wd_ix12, wd_ix8, wd_ix10, wd_up_self, wd_up_eq, wd_up_ne, Int.toNat_natCast, Int.toNat_of_nonneg, not_true_eq_false, not_false_eq_true, Option.some.injEq, st_shr, st_shl] at hv9); subst hv9)
    | (apply i_get; (focus (exact rfl)); (focus (exact rfl)))
    | (refine hX9 _ _ _ _ (wd_rnC rfl ?_); clear hC9 hX9 X9 C9; intro C9 X9 hC9 hX9)
    | (refine i_brF (by decide) ?_)
    | (refine i_brT (by decide) ?_)
    | (refine ⟨fun hc => ?_, fun hc => ?_⟩ <;> (try simp (disch := omega) only [ab_tI, ab_c0, wd_ix12, wd_ix8, wd_ix10, wd_up_self, wd_up_eq, wd_up_ne, Int.toNat_natCast, Int.toNat_of_nonneg, not_true_eq_false, not_false_eq_true, Option.some.injEq, st_shr, st_shl] at hc) <;> first | (exfalso; omega) | skip)
    | (apply i_cv; (focus (exact rfl)))
    | (refine And.intro trivial ?_)
    | (refine And.intro (Or.inl rfl) ?_)
    | (refine And.intro (Or.inr rfl) ?_)
    | (refine And.intro (by ((try simp (disch := omega) only [ab_tI, ab_c0, wd_ix12, wd_ix8, wd_ix10, wd_up_self, wd_up_eq, wd_up_ne, Int.toNat_natCast, Int.toNat_of_nonneg, not_true_eq_false, not_false_eq_true, Option.some.injEq, st_shr, st_shl]); omega)) ?_)
    | fail)
    all_goals first | exact hQ _ _ g1 g2 | (exfalso; omega)
set_option maxHeartbeats 4000000 in
set_option maxRecDepth 100000 in
theorem j_sinit (hd : 4 ≤ d) {y : Nat} (hs0 : F (ab_scr + 130) = ab_ob 998 [.inl 1]) (hb : st_sb F k x v N n) (hy : y < k ∧ y ≠ x ∧ y ≠ v) (h0 : F y = ab_ob 13 (ab_df 13)) (hroom : k + 1 ≤ 600000 ∧ z + 1000 ≤ 5000000) (hQ : ∀ F' f', F' y = ab_ob 13 [.inr (.inr (some k)), .inl 0, .inl 0, .inl 0] → F' k = ab_ia 1 n f' → (∀ a, a ≠ y → a ≠ k → F' a = F a) → Q none (F', k + 1, z + n)) : ab_CT d 159 [wd_v y, wd_v x, .inr (.inr none)] (F, k, z) Q := by
  obtain ⟨⟨f, m, h1, h2⟩, ⟨hx, hv, hxv, hk⟩, hn, hN⟩ := id hb
  have hscr : 700000 ≤ ab_scr := by decide
  have e1 : (ab_ii (n : Int)).toInt = (n : Int) := ab_tI (by omega) (by omega)
  have e2 : (ab_ii (n : Int)).toInt.toNat = n := by omega
  rw [← e2] at hQ
  refine wd_inC rfl (by omega) rfl ?_
  intro C9 X9 hC9 hX9
  repeat' ((conv => whnf); first
    | (apply i_getN; (focus (first | exact h1 | exact h2)); (focus (exact rfl)); (intro v9 hv9; (try simp (disch := omega) only [ab_tI, ab_c0, wd_ix12, wd_ix8, wd_ix10, wd_up_self, wd_up_eq, wd_up_ne, Int.toNat_natCast, Int.toNat_of_nonneg, not_true_eq_false, not_false_eq_true, Option.some.injEq, st_shr, st_shl] at hv9); subst hv9))
    | (apply i_cv; (focus (first | exact h1 | exact h2)))
    | (apply i_len; (focus (first | exact congrArg ab_len (h1) | exact congrArg ab_len (h2))))
    | (apply i_ialN; (focus (first | exact h1 | exact h2)); (focus (first | exact Or.inl rfl | exact Or.inr rfl)); (focus (exact (by first | exact ⟨by decide, by decide⟩ | ((try simp (disch := omega) only [ab_tI, ab_c0, wd_ix12, wd_ix8, wd_ix10, wd_up_self, wd_up_eq, wd_up_ne, Int.toNat_natCast, Int.toNat_of_nonneg, not_true_eq_false, not_false_eq_true, Option.some.injEq, st_shr, st_shl, ab_c0]); omega)))); (intro v9 hv9; (try simp (disch := omega) only [ab_tI, ab_c0, wd_ix12, wd_ix8, wd_ix10, wd_up_self, wd_up_eq, wd_up_ne, Int.toNat_natCast, Int.toNat_of_nonneg, not_true_eq_false, not_false_eq_true, Option.some.injEq, st_shr, st_shl] at hv9); subst hv9))
    | (apply i_aalN; (focus (first | exact h1 | exact h2)); (focus (exact (by first | exact ⟨by decide, by decide⟩ | ((try simp (disch := omega) only [ab_tI, ab_c0, wd_ix12, wd_ix8, wd_ix10, wd_up_self, wd_up_eq, wd_up_ne, Int.toNat_natCast, Int.toNat_of_nonneg, not_true_eq_false, not_false_eq_true, Option.some.injEq, st_shr, st_shl, ab_c0]); omega)))); (intro v9 hv9; (try simp (disch := omega) only [ab_tI, ab_c0, wd_ix12, wd_ix8, wd_ix10, wd_up_self, wd_up_eq, wd_up_ne, Int.toNat_natCast, Int.toNat_of_nonneg, not_true_eq_false, not_false_eq_true, Option.some.injEq, st_shr, st_shl] at hv9); subst hv9))
    | (refine hC9 149 _ _ _ (j_getValue (by omega) h1 ?_))
    | (refine hC9 168 _ _ _ (j_length4 (by omega) h1 ?_))
    | (refine hC9 150 _ _ _ (j_isLatin1 (by omega) hs0 h1 ?_))
    | (refine And.intro (by omega) ?_)
    | (refine s_put h0 rfl (And.intro (by decide) (by decide)) (fun F1 g1 g2 => ?_))
    | (refine hC9 173 _ _ _ (j_copyR (by omega) ((g2 _ (by omega)).trans h2) ⟨hv, hk⟩ hN ⟨by omega, by omega⟩ hroom (fun F2 f2 g3 g4 => ?_)))
    | (refine s_put ((g4 _ (by omega)).trans g1) rfl trivial (fun F3 g5 g6 => ?_))
    | (intro v9 hv9; (try simp (disch := omega) only [ab_tI, ab_c0, wd_ix12, wd_ix8, wd_ix10, wd_up_self, wd_up_eq, wd_up_ne, Int.toNat_natCast, Int.toNat_of_nonneg, not_true_eq_false, not_false_eq_true, Option.some.injEq, st_shr, st_shl] at hv9); subst hv9)
    | (apply i_get; (focus (exact rfl)); (focus (exact rfl)))
    | (refine hX9 _ _ _ _ (wd_rnC rfl ?_); clear hC9 hX9 X9 C9; intro C9 X9 hC9 hX9)
    | (refine i_brF (by decide) ?_)
    | (refine i_brT (by decide) ?_)
    | (refine ⟨fun hc => ?_, fun hc => ?_⟩ <;> (try simp (disch := omega) only [ab_tI, ab_c0, wd_ix12, wd_ix8, wd_ix10, wd_up_self, wd_up_eq, wd_up_ne, Int.toNat_natCast, Int.toNat_of_nonneg, not_true_eq_false, not_false_eq_true, Option.some.injEq, st_shr, st_shl] at hc) <;> first | (exfalso; omega) | skip)
    | (apply i_cv; (focus (exact rfl)))
    | (refine And.intro trivial ?_)
    | (refine And.intro (Or.inl rfl) ?_)
    | (refine And.intro (Or.inr rfl) ?_)
    | (refine And.intro (by ((try simp (disch := omega) only [ab_tI, ab_c0, wd_ix12, wd_ix8, wd_ix10, wd_up_self, wd_up_eq, wd_up_ne, Int.toNat_natCast, Int.toNat_of_nonneg, not_true_eq_false, not_false_eq_true, Option.some.injEq, st_shr, st_shl]); omega)) ?_)
    | fail)
  all_goals first | exact hQ _ _ g5 ((g6 _ (by omega)).trans g3) (fun a q1 q2 => ((g6 a q1).trans (g4 a q2)).trans (g2 a q1)) | (exfalso; omega)
set_option maxHeartbeats 4000000 in
set_option maxRecDepth 100000 in
theorem j_sinit2 (hd : 5 ≤ d) {y : Nat} (hs0 : F (ab_scr + 130) = ab_ob 998 [.inl 1]) (hb : st_sb F k x v N n) (hy : y < k ∧ y ≠ x ∧ y ≠ v) (h0 : F y = ab_ob 13 (ab_df 13)) (hroom : k + 1 ≤ 600000 ∧ z + 1000 ≤ 5000000) (hQ : ∀ F' f', F' y = ab_ob 13 [.inr (.inr (some k)), .inl 0, .inl 0, .inl 0] → F' k = ab_ia 1 n f' → (∀ a, a ≠ y → a ≠ k → F' a = F a) → Q none (F', k + 1, z + n)) : ab_CT d 155 [wd_v y, wd_v x] (F, k, z) Q := by
  refine wd_inC rfl (by omega) rfl ?_
  intro C9 X9 hC9 hX9
  repeat' ((conv => whnf); first
    | (refine hC9 159 _ _ _ (j_sinit (by omega) hs0 hb hy h0 hroom (fun F1 f1 g1 g2 g3 => ?_)))
    | (intro v9 hv9; (try simp (disch := omega) only [ab_tI, ab_c0, wd_ix12, wd_ix8, wd_ix10, wd_up_self, wd_up_eq, wd_up_ne, Int.toNat_natCast, Int.toNat_of_nonneg, not_true_eq_false, not_false_eq_true, Option.some.injEq, st_shr, st_shl] at hv9); subst hv9)
    | (apply i_get; (focus (exact rfl)); (focus (exact rfl)))
    | (refine hX9 _ _ _ _ (wd_rnC rfl ?_); clear hC9 hX9 X9 C9; intro C9 X9 hC9 hX9)
    | (refine i_brF (by decide) ?_)
    | (refine i_brT (by decide) ?_)
    | (refine ⟨fun hc => ?_, fun hc => ?_⟩ <;> (try simp (disch := omega) only [ab_tI, ab_c0, wd_ix12, wd_ix8, wd_ix10, wd_up_self, wd_up_eq, wd_up_ne, Int.toNat_natCast, Int.toNat_of_nonneg, not_true_eq_false, not_false_eq_true, Option.some.injEq, st_shr, st_shl] at hc) <;> first | (exfalso; omega) | skip)
    | (apply i_cv; (focus (exact rfl)))
    | (refine And.intro trivial ?_)
    | (refine And.intro (Or.inl rfl) ?_)
    | (refine And.intro (Or.inr rfl) ?_)
    | (refine And.intro (by ((try simp (disch := omega) only [ab_tI, ab_c0, wd_ix12, wd_ix8, wd_ix10, wd_up_self, wd_up_eq, wd_up_ne, Int.toNat_natCast, Int.toNat_of_nonneg, not_true_eq_false, not_false_eq_true, Option.some.injEq, st_shr, st_shl]); omega)) ?_)
    | fail)
  all_goals first | exact hQ _ _ g1 g2 g3 | (exfalso; omega)
set_option maxHeartbeats 4000000 in
set_option maxRecDepth 100000 in
theorem j_toString (hd : 6 ≤ d) {lo : Nat} (hlo : lo ≤ k) (hs0 : F (ab_scr + 130) = ab_ob 998 [.inl 1]) (hb : st_sb F k x v N n) (hn4 : n ≤ 400) (hroom : k + 2 ≤ 600000 ∧ z + 1004 ≤ 5000000) (hQ : ∀ F', st_is F' lo (k + 2) k (k + 1) n → (∀ a, a ≠ k → a ≠ k + 1 → F' a = F a) → Q (some (wd_v k)) (F', k + 2, z + 4 + n)) : ab_CT d 167 [wd_v x] (F, k, z) Q := by
  obtain ⟨⟨f, m, h1, h2⟩, ⟨hx, hv, hxv, hk⟩, hn, hN⟩ := id hb
  have hscr : 700000 ≤ ab_scr := by decide
  refine wd_inC rfl (by omega) rfl ?_
  intro C9 X9 hC9 hX9
  repeat' ((conv => whnf); first
    | (refine s_new (n := 4) ⟨by omega, by omega⟩ (fun F1 g1 g2 => ?_); (dsimp only))
    | (refine hC9 155 _ _ _ (j_sinit2 (k := k + 1) (z := z + 4) (N := N) (v := v) (n := n) (by omega) ((g2 _ (by omega)).trans hs0) ⟨⟨f, m, (g2 _ (by omega)).trans h1, (g2 _ (by omega)).trans h2⟩, ⟨by omega, by omega, hxv, by omega⟩, hn, hN⟩ ⟨by omega, by omega, by omega⟩ g1 ⟨by omega, by omega⟩ (fun F2 f2 g3 g4 g5 => ?_)))
    | (intro v9 hv9; (try simp (disch := omega) only [ab_tI, ab_c0, wd_ix12, wd_ix8, wd_ix10, wd_up_self, wd_up_eq, wd_up_ne, Int.toNat_natCast, Int.toNat_of_nonneg, not_true_eq_false, not_false_eq_true, Option.some.injEq, st_shr, st_shl] at hv9); subst hv9)
    | (apply i_get; (focus (exact rfl)); (focus (exact rfl)))
    | (refine hX9 _ _ _ _ (wd_rnC rfl ?_); clear hC9 hX9 X9 C9; intro C9 X9 hC9 hX9)
    | (refine i_brF (by decide) ?_)
    | (refine i_brT (by decide) ?_)
    | (refine ⟨fun hc => ?_, fun hc => ?_⟩ <;> (try simp (disch := omega) only [ab_tI, ab_c0, wd_ix12, wd_ix8, wd_ix10, wd_up_self, wd_up_eq, wd_up_ne, Int.toNat_natCast, Int.toNat_of_nonneg, not_true_eq_false, not_false_eq_true, Option.some.injEq, st_shr, st_shl] at hc) <;> first | (exfalso; omega) | skip)
    | (apply i_cv; (focus (exact rfl)))
    | (refine And.intro trivial ?_)
    | (refine And.intro (Or.inl rfl) ?_)
    | (refine And.intro (Or.inr rfl) ?_)
    | (refine And.intro (by ((try simp (disch := omega) only [ab_tI, ab_c0, wd_ix12, wd_ix8, wd_ix10, wd_up_self, wd_up_eq, wd_up_ne, Int.toNat_natCast, Int.toNat_of_nonneg, not_true_eq_false, not_false_eq_true, Option.some.injEq, st_shr, st_shl]); omega)) ?_)
    | fail)
  all_goals first | exact hQ _ ⟨⟨_, _, g3, g4⟩, Or.inl ⟨by omega, by omega⟩, Or.inl ⟨by omega, by omega⟩, hn4⟩ (fun a q1 q2 => (g5 a q1 q2).trans (g2 a q1)) | (exfalso; omega)
end
