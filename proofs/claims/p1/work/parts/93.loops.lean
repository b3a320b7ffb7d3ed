/-! ===== the reference's loops over rows of its own (own text) ===== -/
theorem ab_up_sw {α : Type} (g : Nat → α) {a b : Nat} (x y x' y' : α) (h : a ≠ b) : ab_up (ab_up (ab_up (ab_up g a x) b y) a x') b y' = ab_up (ab_up g a x') b y' := by
  funext j
  by_cases h1 : j = b
  · subst h1; rw [ab_up_self, ab_up_self]
  · rw [ab_up_ne _ _ h1, ab_up_ne _ _ h1]
    by_cases h2 : j = a
    · subst h2; rw [ab_up_self, ab_up_self]
    · rw [ab_up_ne _ _ h2, ab_up_ne _ _ h2, ab_up_ne _ _ h1, ab_up_ne _ _ h2]
theorem ab_up_ov {α : Type} (g : Nat → α) {a : Nat} (x x' : α) : ab_up (ab_up g a x) a x' = ab_up g a x' := by
  funext j
  by_cases h2 : j = a
  · subst h2; rw [ab_up_self, ab_up_self]
  · rw [ab_up_ne _ _ h2, ab_up_ne _ _ h2, ab_up_ne _ _ h2]
theorem ab_WB_h {d n : Nat} {Q : ab_Q} {pc : Nat} {ls : ab_L} {st : List ab_V} {f f' : Nat → ab_C} {kk z : Nat} (e : f = f') (k : ab_WB d n Q pc ls st (f', kk, z)) : ab_WB d n Q pc ls st (f, kk, z) := e ▸ k
theorem ab_ii_s (k : Nat) : ab_ii ((k : Int) + 1) = ab_ii (((k + 1 : Nat)) : Int) := rfl
set_option maxHeartbeats 400000000 in
set_option maxRecDepth 100000 in
theorem r_l64 {g0 : Nat → ab_C} {kk z : Nat} {Q : ab_Q} {fl : List ab_V} {c1 c2 : Nat → Int32} (h102 : g0 102 = ab_ob 12 fl) (f17 : fl[17]? = some (.inr (.inr (some 117)))) (f18 : fl[18]? = some (.inr (.inr (some 118)))) (f13 : fl[13]? = some (.inr (.inr (some 113)))) (f14 : fl[14]? = some (.inr (.inr (some 114)))) (h113 : g0 113 = ab_ia 0 64 c1) (h114 : g0 114 = ab_ia 0 64 c2)
    (hK : ∀ f f', ab_WB 2047 195 Q 28 [(1, .inl (ab_ii 64)), (0, .inr (.inr (some 102)))] [] (ab_up (ab_up g0 117 (ab_ia 0 64 f)) 118 (ab_ia 0 64 f'), kk, z)) : ∀ (n k : Nat), k + n = 64 → ∀ f f', ab_WB 2047 195 Q 28 [(1, .inl (ab_ii (k : Int))), (0, .inr (.inr (some 102)))] [] (ab_up (ab_up g0 117 (ab_ia 0 64 f)) 118 (ab_ia 0 64 f'), kk, z)
  | 0, k, hk, f, f' => by
    have e : k = 64 := by omega
    subst e
    exact hK f f'
  | n + 1, k, hk, f, f' => by
    have ih := r_l64 h102 f17 f18 f13 f14 h113 h114 hK n (k + 1) (by omega)
    have hk64 : k < 64 := by omega
    refine ab_rn rfl ?_
    repeat' ((conv => whnf); first
      | (rw [ab_ii_s]; exact ab_WB_h (ab_up_sw _ _ _ _ _ (by decide)) (ih _ _))
      | (apply i_get; (focus (first | exact rfl | (simp (disch := omega) only [ab_set, ab_up_ne, ab_up_self, ab_tI, ab_c0, ab_nd_lt, Int.toNat_natCast, Int.toNat_of_nonneg, not_true_eq_false, not_false_eq_true, Option.some.injEq, h102, h113, h114] <;> rfl))); (focus (first | exact f17 | exact f18 | exact f13 | exact f14)))
      | first
 | (intro v9 hv9; (try simp (disch := omega) only [ab_up_at, ab_up_ne, List.set_cons_zero, List.set_cons_succ, ab_tI, ab_c0, ab_nd_lt, Int.toNat_natCast, Int.toNat_of_nonneg, not_true_eq_false, not_false_eq_true, Option.some.injEq] at hv9); subst hv9)
 | (refine ⟨⟨Nat.le_of_ble_eq_true rfl, Nat.le_of_ble_eq_true rfl⟩, fun k9 hk9 => ?_⟩; (simp only [Nat.reduceAdd] at hk9); subst hk9)
 | (refine ⟨⟨by decide, Nat.le_of_ble_eq_true rfl, Nat.le_of_ble_eq_true rfl⟩, fun k9 hk9 => ?_⟩; (simp only [Nat.reduceAdd] at hk9); subst hk9)
 | (apply i_get; (focus (first | exact rfl | (simp (disch := omega) only [ab_set, ab_up_ne, ab_up_self, ab_tI, ab_c0, ab_nd_lt, Int.toNat_natCast, Int.toNat_of_nonneg, not_true_eq_false, not_false_eq_true, Option.some.injEq, h102, h113, h114] <;> rfl))); (focus (exact rfl)))
 | (apply i_put; (focus (first | exact rfl | (simp (disch := omega) only [ab_set, ab_up_ne, ab_up_self, ab_tI, ab_c0, ab_nd_lt, Int.toNat_natCast, Int.toNat_of_nonneg, not_true_eq_false, not_false_eq_true, Option.some.injEq, h102, h113, h114] <;> rfl))); (focus (exact rfl)); (focus (first | exact trivial | exact Or.inl rfl | exact Or.inr rfl)))
 | (apply i_cv; (focus (first | exact rfl | (simp (disch := omega) only [ab_set, ab_up_ne, ab_up_self, ab_tI, ab_c0, ab_nd_lt, Int.toNat_natCast, Int.toNat_of_nonneg, not_true_eq_false, not_false_eq_true, Option.some.injEq, h102, h113, h114] <;> rfl))))
 | (apply i_ial; (focus (first | exact rfl | (simp (disch := omega) only [ab_set, ab_up_ne, ab_up_self, ab_tI, ab_c0, ab_nd_lt, Int.toNat_natCast, Int.toNat_of_nonneg, not_true_eq_false, not_false_eq_true, Option.some.injEq, h102, h113, h114] <;> rfl))); (focus (first | exact Or.inl rfl | exact Or.inr rfl)); (focus (first | exact ⟨by decide, by decide⟩ | ((try simp (disch := omega) only [ab_tI, ab_c0, ab_nd_lt, Int.toNat_natCast, Int.toNat_of_nonneg, not_true_eq_false, not_false_eq_true, Option.some.injEq]); omega))); (intro v9 hv9; (try simp (disch := omega) only [ab_up_at, ab_up_ne, List.set_cons_zero, List.set_cons_succ, ab_tI, ab_c0, ab_nd_lt, Int.toNat_natCast, Int.toNat_of_nonneg, not_true_eq_false, not_false_eq_true, Option.some.injEq] at hv9); subst hv9))
 | (apply i_aal; (focus (first | exact rfl | (simp (disch := omega) only [ab_set, ab_up_ne, ab_up_self, ab_tI, ab_c0, ab_nd_lt, Int.toNat_natCast, Int.toNat_of_nonneg, not_true_eq_false, not_false_eq_true, Option.some.injEq, h102, h113, h114] <;> rfl))); (focus (first | exact ⟨by decide, by decide⟩ | ((try simp (disch := omega) only [ab_tI, ab_c0, ab_nd_lt, Int.toNat_natCast, Int.toNat_of_nonneg, not_true_eq_false, not_false_eq_true, Option.some.injEq]); omega))); (intro v9 hv9; (try simp (disch := omega) only [ab_up_at, ab_up_ne, List.set_cons_zero, List.set_cons_succ, ab_tI, ab_c0, ab_nd_lt, Int.toNat_natCast, Int.toNat_of_nonneg, not_true_eq_false, not_false_eq_true, Option.some.injEq] at hv9); subst hv9))
 | (apply i_ias; (focus (first | exact rfl | (simp (disch := omega) only [ab_set, ab_up_ne, ab_up_self, ab_tI, ab_c0, ab_nd_lt, Int.toNat_natCast, Int.toNat_of_nonneg, not_true_eq_false, not_false_eq_true, Option.some.injEq, h102, h113, h114] <;> rfl))); (focus (first | exact ⟨by decide, by decide⟩ | ((try simp (disch := omega) only [ab_tI, ab_c0, ab_nd_lt, Int.toNat_natCast, Int.toNat_of_nonneg, not_true_eq_false, not_false_eq_true, Option.some.injEq]); omega))))
 | (apply i_aas; (focus (first | exact rfl | (simp (disch := omega) only [ab_set, ab_up_ne, ab_up_self, ab_tI, ab_c0, ab_nd_lt, Int.toNat_natCast, Int.toNat_of_nonneg, not_true_eq_false, not_false_eq_true, Option.some.injEq, h102, h113, h114] <;> rfl))); (focus (first | exact ⟨by decide, by decide⟩ | ((try simp (disch := omega) only [ab_tI, ab_c0, ab_nd_lt, Int.toNat_natCast, Int.toNat_of_nonneg, not_true_eq_false, not_false_eq_true, Option.some.injEq]); omega))); (focus (intro w hw; cases hw <;> (apply i_ex; (first | exact rfl | (simp (disch := omega) only [ab_set, ab_up_ne, ab_up_self, ab_tI, ab_c0, ab_nd_lt, Int.toNat_natCast, Int.toNat_of_nonneg, not_true_eq_false, not_false_eq_true, Option.some.injEq, h102, h113, h114] <;> rfl))))))
 | (apply i_bal; (focus (first | exact rfl | (simp (disch := omega) only [ab_set, ab_up_ne, ab_up_self, ab_tI, ab_c0, ab_nd_lt, Int.toNat_natCast, Int.toNat_of_nonneg, not_true_eq_false, not_false_eq_true, Option.some.injEq, h102, h113, h114] <;> rfl))); (focus (first | exact ⟨by decide, by decide⟩ | ((try simp (disch := omega) only [ab_tI, ab_c0, ab_nd_lt, Int.toNat_natCast, Int.toNat_of_nonneg, not_true_eq_false, not_false_eq_true, Option.some.injEq]); omega))); (intro v9 hv9; (try simp (disch := omega) only [ab_up_at, ab_up_ne, List.set_cons_zero, List.set_cons_succ, ab_tI, ab_c0, ab_nd_lt, Int.toNat_natCast, Int.toNat_of_nonneg, not_true_eq_false, not_false_eq_true, Option.some.injEq] at hv9); subst hv9))
 | (apply i_bas; (focus (first | exact rfl | (simp (disch := omega) only [ab_set, ab_up_ne, ab_up_self, ab_tI, ab_c0, ab_nd_lt, Int.toNat_natCast, Int.toNat_of_nonneg, not_true_eq_false, not_false_eq_true, Option.some.injEq, h102, h113, h114] <;> rfl))); (focus (first | exact ⟨by decide, by decide⟩ | ((try simp (disch := omega) only [ab_tI, ab_c0, ab_nd_lt, Int.toNat_natCast, Int.toNat_of_nonneg, not_true_eq_false, not_false_eq_true, Option.some.injEq]); omega))); (focus (first | exact Or.inl rfl | exact Or.inr rfl)))
 | (apply i_len; (focus (first | exact rfl | (simp (disch := omega) only [ab_set, ab_up_ne, ab_up_self, ab_tI, ab_c0, ab_nd_lt, Int.toNat_natCast, Int.toNat_of_nonneg, not_true_eq_false, not_false_eq_true, Option.some.injEq, h102, h113, h114] <;> rfl))))
 | (refine i_brF (by decide) ?_)
 | (refine i_brT (by decide) ?_)
 | (refine ⟨fun hc => ?_, fun hc => ?_⟩ <;> (try simp (disch := omega) only [ab_up_at, ab_up_ne, ab_tI, ab_c0, ab_nd_lt, Int.toNat_natCast, Int.toNat_of_nonneg, not_true_eq_false, not_false_eq_true, Option.some.injEq] at hc) <;> first | (exfalso; omega) | skip)
 | (refine ⟨trivial, ?_⟩) | (refine ⟨Or.inl rfl, ?_⟩) | (refine ⟨Or.inr rfl, ?_⟩)
 | (simp (disch := omega) only [ab_up_at, ab_up_ne, ab_tI, ab_c0, ab_nd_lt, Int.toNat_natCast, Int.toNat_of_nonneg, not_true_eq_false, not_false_eq_true, Option.some.injEq])
 | fail)
theorem r_l64s {g0 : Nat → ab_C} {kk z : Nat} {Q : ab_Q} {fl : List ab_V} {c1 c2 c3 c4 : Nat → Int32} (h102 : g0 102 = ab_ob 12 fl) (f17 : fl[17]? = some (.inr (.inr (some 117)))) (f18 : fl[18]? = some (.inr (.inr (some 118)))) (f13 : fl[13]? = some (.inr (.inr (some 113)))) (f14 : fl[14]? = some (.inr (.inr (some 114)))) (h113 : g0 113 = ab_ia 0 64 c1) (h114 : g0 114 = ab_ia 0 64 c2) (h117 : g0 117 = ab_ia 0 64 c3) (h118 : g0 118 = ab_ia 0 64 c4)
    (hK : ∀ f f', ab_WB 2047 195 Q 28 [(1, .inl (ab_ii 64)), (0, .inr (.inr (some 102)))] [] (ab_up (ab_up g0 117 (ab_ia 0 64 f)) 118 (ab_ia 0 64 f'), kk, z)) : ab_WB 2047 195 Q 28 [(1, .inl (ab_ii 0)), (0, .inr (.inr (some 102)))] [] (g0, kk, z) := by
  refine ab_WB_h (f' := ab_up (ab_up g0 117 (ab_ia 0 64 c3)) 118 (ab_ia 0 64 c4)) ?_ (r_l64 h102 f17 f18 f13 f14 h113 h114 hK 64 0 rfl c3 c4)
  rw [ab_up_id h117, ab_up_id h118]
set_option maxHeartbeats 400000000 in
set_option maxRecDepth 100000 in
theorem r_l31 {g0 : Nat → ab_C} {kk z : Nat} {Q : ab_Q} {fl : List ab_V} {a b : Int32} (h102 : g0 102 = ab_ob 12 fl) (f37 : fl[37]? = some (.inr (.inr (some 124))))
    (hK : ∀ f, (∀ j, j < 3120 → f j = ab_ii 0) → ab_WB 2047 189 Q 19 [(3, .inl (ab_ii 3120)), (0, .inr (.inr (some 102))), (1, .inl a), (2, .inl b)] [] (ab_up g0 124 (ab_ia 1 3120 f), kk, z)) : ∀ (n k : Nat), k + n = 3120 → ∀ f, (∀ j, j < k → f j = ab_ii 0) → ab_WB 2047 189 Q 19 [(3, .inl (ab_ii (k : Int))), (0, .inr (.inr (some 102))), (1, .inl a), (2, .inl b)] [] (ab_up g0 124 (ab_ia 1 3120 f), kk, z)
  | 0, k, hk, f, hf => by
    have e : k = 3120 := by omega
    subst e
    exact hK f hf
  | n + 1, k, hk, f, hf => by
    have ih := r_l31 h102 f37 hK n (k + 1) (by omega)
    have hk64 : k < 3120 := by omega
    have hf' : ∀ j, j < k + 1 → ab_up f k (ab_ii 0) j = ab_ii 0 := fun j hj => by
      by_cases e : j = k
      · subst e; rw [ab_up_self]
      · rw [ab_up_ne _ _ e]; exact hf j (by omega)
    have ekk : (ab_ii (k : Int)).toInt.toNat = k := by rw [ab_tI (by omega) (by omega)]; rfl
    refine ab_rn rfl ?_
    repeat' ((conv => whnf); first
      | (rw [ab_ii_s]; exact ab_WB_h (ab_up_ov _ _ _) (ih _ (by rw [ekk]; exact hf')))
      | (apply i_get; (focus (first | exact rfl | (simp (disch := omega) only [ab_set, ab_up_ne, ab_up_self, ab_tI, ab_c0, ab_nd_lt, Int.toNat_natCast, Int.toNat_of_nonneg, not_true_eq_false, not_false_eq_true, Option.some.injEq, h102] <;> rfl))); (focus (exact f37)))
      | first
 | (intro v9 hv9; (try simp (disch := omega) only [ab_up_at, ab_up_ne, List.set_cons_zero, List.set_cons_succ, ab_tI, ab_c0, ab_nd_lt, Int.toNat_natCast, Int.toNat_of_nonneg, not_true_eq_false, not_false_eq_true, Option.some.injEq] at hv9); subst hv9)
 | (refine ⟨⟨Nat.le_of_ble_eq_true rfl, Nat.le_of_ble_eq_true rfl⟩, fun k9 hk9 => ?_⟩; (simp only [Nat.reduceAdd] at hk9); subst hk9)
 | (refine ⟨⟨by decide, Nat.le_of_ble_eq_true rfl, Nat.le_of_ble_eq_true rfl⟩, fun k9 hk9 => ?_⟩; (simp only [Nat.reduceAdd] at hk9); subst hk9)
 | (apply i_get; (focus (first | exact rfl | (simp (disch := omega) only [ab_set, ab_up_ne, ab_up_self, ab_tI, ab_c0, ab_nd_lt, Int.toNat_natCast, Int.toNat_of_nonneg, not_true_eq_false, not_false_eq_true, Option.some.injEq, h102] <;> rfl))); (focus (exact rfl)))
 | (apply i_put; (focus (first | exact rfl | (simp (disch := omega) only [ab_set, ab_up_ne, ab_up_self, ab_tI, ab_c0, ab_nd_lt, Int.toNat_natCast, Int.toNat_of_nonneg, not_true_eq_false, not_false_eq_true, Option.some.injEq, h102] <;> rfl))); (focus (exact rfl)); (focus (first | exact trivial | exact Or.inl rfl | exact Or.inr rfl)))
 | (apply i_cv; (focus (first | exact rfl | (simp (disch := omega) only [ab_set, ab_up_ne, ab_up_self, ab_tI, ab_c0, ab_nd_lt, Int.toNat_natCast, Int.toNat_of_nonneg, not_true_eq_false, not_false_eq_true, Option.some.injEq, h102] <;> rfl))))
 | (apply i_ial; (focus (first | exact rfl | (simp (disch := omega) only [ab_set, ab_up_ne, ab_up_self, ab_tI, ab_c0, ab_nd_lt, Int.toNat_natCast, Int.toNat_of_nonneg, not_true_eq_false, not_false_eq_true, Option.some.injEq, h102] <;> rfl))); (focus (first | exact Or.inl rfl | exact Or.inr rfl)); (focus (first | exact ⟨by decide, by decide⟩ | ((try simp (disch := omega) only [ab_tI, ab_c0, ab_nd_lt, Int.toNat_natCast, Int.toNat_of_nonneg, not_true_eq_false, not_false_eq_true, Option.some.injEq]); omega))); (intro v9 hv9; (try simp (disch := omega) only [ab_up_at, ab_up_ne, List.set_cons_zero, List.set_cons_succ, ab_tI, ab_c0, ab_nd_lt, Int.toNat_natCast, Int.toNat_of_nonneg, not_true_eq_false, not_false_eq_true, Option.some.injEq] at hv9); subst hv9))
 | (apply i_aal; (focus (first | exact rfl | (simp (disch := omega) only [ab_set, ab_up_ne, ab_up_self, ab_tI, ab_c0, ab_nd_lt, Int.toNat_natCast, Int.toNat_of_nonneg, not_true_eq_false, not_false_eq_true, Option.some.injEq, h102] <;> rfl))); (focus (first | exact ⟨by decide, by decide⟩ | ((try simp (disch := omega) only [ab_tI, ab_c0, ab_nd_lt, Int.toNat_natCast, Int.toNat_of_nonneg, not_true_eq_false, not_false_eq_true, Option.some.injEq]); omega))); (intro v9 hv9; (try simp (disch := omega) only [ab_up_at, ab_up_ne, List.set_cons_zero, List.set_cons_succ, ab_tI, ab_c0, ab_nd_lt, Int.toNat_natCast, Int.toNat_of_nonneg, not_true_eq_false, not_false_eq_true, Option.some.injEq] at hv9); subst hv9))
 | (apply i_ias; (focus (first | exact rfl | (simp (disch := omega) only [ab_set, ab_up_ne, ab_up_self, ab_tI, ab_c0, ab_nd_lt, Int.toNat_natCast, Int.toNat_of_nonneg, not_true_eq_false, not_false_eq_true, Option.some.injEq, h102] <;> rfl))); (focus (first | exact ⟨by decide, by decide⟩ | ((try simp (disch := omega) only [ab_tI, ab_c0, ab_nd_lt, Int.toNat_natCast, Int.toNat_of_nonneg, not_true_eq_false, not_false_eq_true, Option.some.injEq]); omega))))
 | (apply i_aas; (focus (first | exact rfl | (simp (disch := omega) only [ab_set, ab_up_ne, ab_up_self, ab_tI, ab_c0, ab_nd_lt, Int.toNat_natCast, Int.toNat_of_nonneg, not_true_eq_false, not_false_eq_true, Option.some.injEq, h102] <;> rfl))); (focus (first | exact ⟨by decide, by decide⟩ | ((try simp (disch := omega) only [ab_tI, ab_c0, ab_nd_lt, Int.toNat_natCast, Int.toNat_of_nonneg, not_true_eq_false, not_false_eq_true, Option.some.injEq]); omega))); (focus (intro w hw; cases hw <;> (apply i_ex; (first | exact rfl | (simp (disch := omega) only [ab_set, ab_up_ne, ab_up_self, ab_tI, ab_c0, ab_nd_lt, Int.toNat_natCast, Int.toNat_of_nonneg, not_true_eq_false, not_false_eq_true, Option.some.injEq, h102] <;> rfl))))))
 | (apply i_bal; (focus (first | exact rfl | (simp (disch := omega) only [ab_set, ab_up_ne, ab_up_self, ab_tI, ab_c0, ab_nd_lt, Int.toNat_natCast, Int.toNat_of_nonneg, not_true_eq_false, not_false_eq_true, Option.some.injEq, h102] <;> rfl))); (focus (first | exact ⟨by decide, by decide⟩ | ((try simp (disch := omega) only [ab_tI, ab_c0, ab_nd_lt, Int.toNat_natCast, Int.toNat_of_nonneg, not_true_eq_false, not_false_eq_true, Option.some.injEq]); omega))); (intro v9 hv9; (try simp (disch := omega) only [ab_up_at, ab_up_ne, List.set_cons_zero, List.set_cons_succ, ab_tI, ab_c0, ab_nd_lt, Int.toNat_natCast, Int.toNat_of_nonneg, not_true_eq_false, not_false_eq_true, Option.some.injEq] at hv9); subst hv9))
 | (apply i_bas; (focus (first | exact rfl | (simp (disch := omega) only [ab_set, ab_up_ne, ab_up_self, ab_tI, ab_c0, ab_nd_lt, Int.toNat_natCast, Int.toNat_of_nonneg, not_true_eq_false, not_false_eq_true, Option.some.injEq, h102] <;> rfl))); (focus (first | exact ⟨by decide, by decide⟩ | ((try simp (disch := omega) only [ab_tI, ab_c0, ab_nd_lt, Int.toNat_natCast, Int.toNat_of_nonneg, not_true_eq_false, not_false_eq_true, Option.some.injEq]); omega))); (focus (first | exact Or.inl rfl | exact Or.inr rfl)))
 | (apply i_len; (focus (first | exact rfl | (simp (disch := omega) only [ab_set, ab_up_ne, ab_up_self, ab_tI, ab_c0, ab_nd_lt, Int.toNat_natCast, Int.toNat_of_nonneg, not_true_eq_false, not_false_eq_true, Option.some.injEq, h102] <;> rfl))))
 | (refine i_brF (by decide) ?_)
 | (refine i_brT (by decide) ?_)
 | (refine ⟨fun hc => ?_, fun hc => ?_⟩ <;> (try simp (disch := omega) only [ab_up_at, ab_up_ne, ab_tI, ab_c0, ab_nd_lt, Int.toNat_natCast, Int.toNat_of_nonneg, not_true_eq_false, not_false_eq_true, Option.some.injEq] at hc) <;> first | (exfalso; omega) | skip)
 | (refine ⟨trivial, ?_⟩) | (refine ⟨Or.inl rfl, ?_⟩) | (refine ⟨Or.inr rfl, ?_⟩)
 | (simp (disch := omega) only [ab_up_at, ab_up_ne, ab_tI, ab_c0, ab_nd_lt, Int.toNat_natCast, Int.toNat_of_nonneg, not_true_eq_false, not_false_eq_true, Option.some.injEq])
 | fail)
theorem r_l31s {g0 : Nat → ab_C} {kk z : Nat} {Q : ab_Q} {fl : List ab_V} {a b : Int32} {c3 : Nat → Int32} (h102 : g0 102 = ab_ob 12 fl) (f37 : fl[37]? = some (.inr (.inr (some 124)))) (h124 : g0 124 = ab_ia 1 3120 c3)
    (hK : ∀ f, (∀ j, j < 3120 → f j = ab_ii 0) → ab_WB 2047 189 Q 19 [(3, .inl (ab_ii 3120)), (0, .inr (.inr (some 102))), (1, .inl a), (2, .inl b)] [] (ab_up g0 124 (ab_ia 1 3120 f), kk, z)) : ab_WB 2047 189 Q 19 [(3, .inl (ab_ii 0)), (0, .inr (.inr (some 102))), (1, .inl a), (2, .inl b)] [] (g0, kk, z) := by
  refine ab_WB_h (f' := ab_up g0 124 (ab_ia 1 3120 c3)) ?_ (r_l31 h102 f37 hK 3120 0 rfl c3 (fun j hj => absurd hj (Nat.not_lt_zero _)))
  rw [ab_up_id h124]
