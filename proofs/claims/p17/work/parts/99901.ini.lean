/-! ===== the law to its loop, the room told one slot less (own text) ===== -/
abbrev ab_h1 (L : Nat) (xs : Nat → Int32) : ab_H := (ab_up (fun _ => ab_ob 999 []) ab_scr (ab_ia 9 L xs), 0, 1)
section
variable {F : Nat → ab_C} {k z : Nat}
theorem l_new {c : ab_C} {n : Nat} {K : ab_H → Prop} (hr : k < 600000 ∧ z + n ≤ 7302250) (hK : ∀ k' z', k' = k + 1 → z' = z + n → K (ab_up F k c, k', z')) : ((F, k, z).2.1 < ab_CM ∧ (F, k, z).2.2 + n ≤ ab_SM) ∧ ∀ h', h' = ab_new (F, k, z) c n → K h' := by
  refine ⟨hr, fun h' hh => ?_⟩
  rw [hh]
  exact hK _ _ rfl rfl
theorem l_newR {x : Int32} {n t : Nat} {K : ab_H → Prop} (hx : x.toInt = (n : Int)) (hr : k < 600000 ∧ z + n ≤ 7302250) (hK : ∀ k' z', k' = k + 1 → z' = z + n → K (ab_up F k (ab_ra t n (fun _ => none)), k', z')) : (0 ≤ x.toInt ∧ (F, k, z).2.1 < ab_CM ∧ (F, k, z).2.2 + x.toInt.toNat ≤ ab_SM) ∧ ∀ h', h' = ab_new (F, k, z) (ab_ra t x.toInt.toNat (fun _ => none)) x.toInt.toNat → K h' := by
  have e : x.toInt.toNat = n := by omega
  rw [e]
  exact ⟨⟨by omega, hr⟩, (l_new (K := K) hr hK).2⟩
theorem l_newI {x : Int32} {n t : Nat} {K : ab_H → Prop} (hx : x.toInt = (n : Int)) (hr : k < 600000 ∧ z + n ≤ 7302250) (hK : ∀ k' z', k' = k + 1 → z' = z + n → K (ab_up F k (ab_ia t n (fun _ => 0)), k', z')) : (0 ≤ x.toInt ∧ (F, k, z).2.1 < ab_CM ∧ (F, k, z).2.2 + x.toInt.toNat ≤ ab_SM) ∧ ∀ h', h' = ab_new (F, k, z) (ab_ia t x.toInt.toNat (fun _ => 0)) x.toInt.toNat → K h' := by
  have e : x.toInt.toNat = n := by omega
  rw [e]
  exact ⟨⟨by omega, hr⟩, (l_new (K := K) hr hK).2⟩
theorem l_put {a ci j t : Nat} {v : ab_V} {fs : List ab_V} {K : ab_H → Prop} (h1 : F a = ab_ob ci fs) (hj : Nat.blt j fs.length = true) (ht : ab_fit t v) (hK : ∀ fs', fs' = fs.set j v → K (ab_up F a (ab_ob ci fs'), k, z)) : ∃ fs, (F, k, z).1 a = ab_ob ci fs ∧ j < fs.length ∧ ab_fit t v ∧ ∀ h', h' = ab_set (F, k, z) a (ab_ob ci (fs.set j v)) → K h' :=
  ⟨fs, h1, Nat.le_of_ble_eq_true hj, ht, fun h' hh => by rw [hh]; exact hK _ rfl⟩
theorem l_ias {a n : Nat} {i x : Int32} {f : Nat → Int32} {K : ab_H → Prop} (h1 : F a = ab_ia 0 n f) (hi : 0 ≤ i.toInt ∧ i.toInt < n) (hK : ∀ e, e = i.toInt.toNat → K (ab_up F a (ab_ia 0 n (ab_up f e x)), k, z)) : ∃ n f, (F, k, z).1 a = ab_ia 0 n f ∧ (0 ≤ i.toInt ∧ i.toInt < n) ∧ ∀ h', h' = ab_set (F, k, z) a (ab_ia 0 n (ab_up f i.toInt.toNat x)) → K h' :=
  ⟨n, f, h1, hi, fun h' hh => by rw [hh]; exact hK _ rfl⟩
theorem l_aas {a n t : Nat} {i : Int32} {o : Option Nat} {f : Nat → Option Nat} {K : ab_H → Prop} (h1 : F a = ab_ra t n f) (hi : 0 ≤ i.toInt ∧ i.toInt < n) (ho : ∀ v, o = some v → ∃ fs, F v = ab_ob (ab_ec t) fs) (hK : ∀ e, e = i.toInt.toNat → K (ab_up F a (ab_ra t n (ab_up f e o)), k, z)) : ∃ t n f, (F, k, z).1 a = ab_ra t n f ∧ (0 ≤ i.toInt ∧ i.toInt < n) ∧ (∀ v, o = some v → ∃ fs, (F, k, z).1 v = ab_ob (ab_ec t) fs) ∧ ∀ h', h' = ab_set (F, k, z) a (ab_ra t n (ab_up f i.toInt.toNat o)) → K h' :=
  ⟨t, n, f, h1, hi, ho, fun h' hh => by rw [hh]; exact hK _ rfl⟩
end
set_option maxHeartbeats 400000000 in
set_option maxRecDepth 100000 in
theorem ab_init (L : Nat) (xs : Nat → Int32) (Q : ab_Q) (k : ab_WB 2048 iL_law Q 18 [(3, .inl (ab_ii 0)), (2, .inr (.inr (some 102))), (1, .inr (.inr (some 0))), (0, .inr (.inr (some ab_scr)))] [] (ab_hK L xs)) : ab_WB 2048 iL_law Q 0 [(0, .inr (.inr (some ab_scr)))] [] (ab_up (fun _ => ab_ob 999 []) 1000000000 (ab_ia 9 L xs), 0, 1) := by
  refine ab_run ab_okAll okL_law ?_
  repeat' ((conv => whnf); first
 | (intro v9 hv9; (try simp (disch := omega) only [ab_up_at, ab_up_ne, List.set_cons_zero, List.set_cons_succ, ab_tI, ab_c0, ab_nd_lt, Int.toNat_natCast, Int.toNat_of_nonneg, not_true_eq_false, not_false_eq_true, Option.some.injEq] at hv9); subst hv9)
 | (apply l_new; (focus (exact ⟨Nat.le_of_ble_eq_true rfl, Nat.le_of_ble_eq_true rfl⟩)); (intro k9 z9 hk9 hz9; simp only [Nat.reduceAdd] at hk9 hz9; subst hk9; subst hz9; dsimp only))
 | (apply l_newR; (focus (exact rfl)); (focus (exact ⟨Nat.le_of_ble_eq_true rfl, Nat.le_of_ble_eq_true rfl⟩)); (intro k9 z9 hk9 hz9; simp only [Nat.reduceAdd] at hk9 hz9; subst hk9; subst hz9; dsimp only))
 | (apply l_newI; (focus (exact rfl)); (focus (exact ⟨Nat.le_of_ble_eq_true rfl, Nat.le_of_ble_eq_true rfl⟩)); (intro k9 z9 hk9 hz9; simp only [Nat.reduceAdd] at hk9 hz9; subst hk9; subst hz9; dsimp only))
 | (refine ab_inl rfl rfl ?_)
 | (refine ab_rn rfl ?_)
 | (apply i_get; (focus (first | exact rfl | (simp (disch := omega) only [ab_up_ne, ab_up_self, ab_tI, ab_c0, ab_nd_lt, Int.toNat_natCast, Int.toNat_of_nonneg, not_true_eq_false, not_false_eq_true, Option.some.injEq] <;> rfl))); (focus (exact rfl)))
 | (apply l_put; (focus (first | exact rfl | (simp (disch := omega) only [ab_up_ne, ab_up_self, ab_tI, ab_c0, ab_nd_lt, Int.toNat_natCast, Int.toNat_of_nonneg, not_true_eq_false, not_false_eq_true, Option.some.injEq] <;> rfl))); (focus (exact rfl)); (focus (first | exact trivial | exact Or.inl rfl | exact Or.inr rfl)); (intro f9 hf9; simp only [ab_df, List.set_cons_zero, List.set_cons_succ] at hf9; subst hf9))
 | (apply i_cv; (focus (first | exact rfl | (simp (disch := omega) only [ab_up_ne, ab_up_self, ab_tI, ab_c0, ab_nd_lt, Int.toNat_natCast, Int.toNat_of_nonneg, not_true_eq_false, not_false_eq_true, Option.some.injEq] <;> rfl))))
 | (apply i_ialN; (focus (first | exact rfl | (simp (disch := omega) only [ab_up_ne, ab_up_self, ab_tI, ab_c0, ab_nd_lt, Int.toNat_natCast, Int.toNat_of_nonneg, not_true_eq_false, not_false_eq_true, Option.some.injEq] <;> rfl))); (focus (first | exact Or.inl rfl | exact Or.inr rfl)); (focus (first | exact ⟨by decide, by decide⟩ | ((try simp (disch := omega) only [ab_tI, ab_c0, ab_nd_lt, Int.toNat_natCast, Int.toNat_of_nonneg, not_true_eq_false, not_false_eq_true, Option.some.injEq]); omega))); (intro v9 hv9; (try simp (disch := omega) only [ab_up_at, ab_up_ne, List.set_cons_zero, List.set_cons_succ, ab_tI, ab_c0, ab_nd_lt, Int.toNat_natCast, Int.toNat_of_nonneg, not_true_eq_false, not_false_eq_true, Option.some.injEq] at hv9); subst hv9))
 | (apply i_aalN; (focus (first | exact rfl | (simp (disch := omega) only [ab_up_ne, ab_up_self, ab_tI, ab_c0, ab_nd_lt, Int.toNat_natCast, Int.toNat_of_nonneg, not_true_eq_false, not_false_eq_true, Option.some.injEq] <;> rfl))); (focus (first | exact ⟨by decide, by decide⟩ | ((try simp (disch := omega) only [ab_tI, ab_c0, ab_nd_lt, Int.toNat_natCast, Int.toNat_of_nonneg, not_true_eq_false, not_false_eq_true, Option.some.injEq]); omega))); (intro v9 hv9; (try simp (disch := omega) only [ab_up_at, ab_up_ne, List.set_cons_zero, List.set_cons_succ, ab_tI, ab_c0, ab_nd_lt, Int.toNat_natCast, Int.toNat_of_nonneg, not_true_eq_false, not_false_eq_true, Option.some.injEq] at hv9); subst hv9))
 | (apply l_ias; (focus (first | exact rfl | (simp (disch := omega) only [ab_up_ne, ab_up_self, ab_tI, ab_c0, ab_nd_lt, Int.toNat_natCast, Int.toNat_of_nonneg, not_true_eq_false, not_false_eq_true, Option.some.injEq] <;> rfl))); (focus (first | exact ⟨by decide, by decide⟩ | ((try simp (disch := omega) only [ab_tI, ab_c0, ab_nd_lt, Int.toNat_natCast, Int.toNat_of_nonneg, not_true_eq_false, not_false_eq_true, Option.some.injEq]); omega))); (intro e9 he9; (try simp (disch := omega) only [ab_tI, ab_c0, ab_nd_lt, Int.toNat_natCast, Int.toNat_of_nonneg, not_true_eq_false, not_false_eq_true, Option.some.injEq] at he9); subst he9))
 | (apply l_aas; (focus (first | exact rfl | (simp (disch := omega) only [ab_up_ne, ab_up_self, ab_tI, ab_c0, ab_nd_lt, Int.toNat_natCast, Int.toNat_of_nonneg, not_true_eq_false, not_false_eq_true, Option.some.injEq] <;> rfl))); (focus (first | exact ⟨by decide, by decide⟩ | ((try simp (disch := omega) only [ab_tI, ab_c0, ab_nd_lt, Int.toNat_natCast, Int.toNat_of_nonneg, not_true_eq_false, not_false_eq_true, Option.some.injEq]); omega))); (focus (intro w hw; cases hw <;> (apply i_ex; (first | exact rfl | (simp (disch := omega) only [ab_up_ne, ab_up_self, ab_tI, ab_c0, ab_nd_lt, Int.toNat_natCast, Int.toNat_of_nonneg, not_true_eq_false, not_false_eq_true, Option.some.injEq] <;> rfl))))); (intro e9 he9; (try simp (disch := omega) only [ab_tI, ab_c0, ab_nd_lt, Int.toNat_natCast, Int.toNat_of_nonneg, not_true_eq_false, not_false_eq_true, Option.some.injEq] at he9); subst he9))
 | (apply i_len; (focus (first | exact rfl | (simp (disch := omega) only [ab_up_ne, ab_up_self, ab_tI, ab_c0, ab_nd_lt, Int.toNat_natCast, Int.toNat_of_nonneg, not_true_eq_false, not_false_eq_true, Option.some.injEq] <;> rfl))))
 | (refine i_brF (by decide) ?_)
 | (refine i_brT (by decide) ?_)
 | (refine ⟨fun hc => ?_, fun hc => ?_⟩ <;> (try simp (disch := omega) only [ab_up_at, ab_up_ne, ab_tI, ab_c0, ab_nd_lt, Int.toNat_natCast, Int.toNat_of_nonneg, not_true_eq_false, not_false_eq_true, Option.some.injEq] at hc) <;> first | (exfalso; omega) | skip)
 | (refine ⟨trivial, ?_⟩) | (refine ⟨Or.inl rfl, ?_⟩) | (refine ⟨Or.inr rfl, ?_⟩)
 | fail)
  refine ab_WB_ext (h' := ab_hK L xs) rfl rfl ?_ ?_ k
  · intro a h1 h2
    show ab_up hp_F ab_scr (ab_ia 9 L xs) a = _
    rw [ab_up_ne _ _ h2]
    exact hp_F_end h1
  · intro a ha
    match a, ha with
    | 0, _ => first | exact rfl | exact ⟨_, rfl, fun _ _ => rfl⟩
    | 1, _ => first | exact rfl | exact ⟨_, rfl, fun _ _ => rfl⟩
    | 2, _ => first | exact rfl | exact ⟨_, rfl, fun _ _ => rfl⟩
    | 3, _ => first | exact rfl | exact ⟨_, rfl, fun _ _ => rfl⟩
    | 4, _ => first | exact rfl | exact ⟨_, rfl, fun _ _ => rfl⟩
    | 5, _ => first | exact rfl | exact ⟨_, rfl, fun _ _ => rfl⟩
    | 6, _ => first | exact rfl | exact ⟨_, rfl, fun _ _ => rfl⟩
    | 7, _ => exact ⟨_, rfl, fun j hj => by
        match j, hj with
        | 0, _ => exact rfl
        | 1, _ => exact rfl
        | 2, _ => exact rfl
        | 3, _ => exact rfl
        | 4, _ => exact rfl
        | 5, _ => exact rfl
        | 6, _ => exact rfl
        | 7, _ => exact rfl
        | 8, _ => exact rfl
        | 9, _ => exact rfl
        | 10, _ => exact rfl
        | 11, _ => exact rfl
        | j + 12, hj => exact absurd (show j + 12 < 12 from hj) (by omega)⟩
    | 8, _ => exact ⟨_, rfl, fun j hj => by
        match j, hj with
        | 0, _ => exact rfl
        | 1, _ => exact rfl
        | 2, _ => exact rfl
        | 3, _ => exact rfl
        | 4, _ => exact rfl
        | 5, _ => exact rfl
        | 6, _ => exact rfl
        | 7, _ => exact rfl
        | j + 8, hj => exact absurd (show j + 8 < 8 from hj) (by omega)⟩
    | 9, _ => first | exact rfl | exact ⟨_, rfl, fun _ _ => rfl⟩
    | 10, _ => first | exact rfl | exact ⟨_, rfl, fun _ _ => rfl⟩
    | 11, _ => first | exact rfl | exact ⟨_, rfl, fun _ _ => rfl⟩
    | 12, _ => first | exact rfl | exact ⟨_, rfl, fun _ _ => rfl⟩
    | 13, _ => first | exact rfl | exact ⟨_, rfl, fun _ _ => rfl⟩
    | 14, _ => first | exact rfl | exact ⟨_, rfl, fun _ _ => rfl⟩
    | 15, _ => first | exact rfl | exact ⟨_, rfl, fun _ _ => rfl⟩
    | 16, _ => first | exact rfl | exact ⟨_, rfl, fun _ _ => rfl⟩
    | 17, _ => first | exact rfl | exact ⟨_, rfl, fun _ _ => rfl⟩
    | 18, _ => first | exact rfl | exact ⟨_, rfl, fun _ _ => rfl⟩
    | 19, _ => first | exact rfl | exact ⟨_, rfl, fun _ _ => rfl⟩
    | 20, _ => first | exact rfl | exact ⟨_, rfl, fun _ _ => rfl⟩
    | 21, _ => first | exact rfl | exact ⟨_, rfl, fun _ _ => rfl⟩
    | 22, _ => first | exact rfl | exact ⟨_, rfl, fun _ _ => rfl⟩
    | 23, _ => first | exact rfl | exact ⟨_, rfl, fun _ _ => rfl⟩
    | 24, _ => first | exact rfl | exact ⟨_, rfl, fun _ _ => rfl⟩
    | 25, _ => first | exact rfl | exact ⟨_, rfl, fun _ _ => rfl⟩
    | 26, _ => first | exact rfl | exact ⟨_, rfl, fun _ _ => rfl⟩
    | 27, _ => first | exact rfl | exact ⟨_, rfl, fun _ _ => rfl⟩
    | 28, _ => first | exact rfl | exact ⟨_, rfl, fun _ _ => rfl⟩
    | 29, _ => first | exact rfl | exact ⟨_, rfl, fun _ _ => rfl⟩
    | 30, _ => first | exact rfl | exact ⟨_, rfl, fun _ _ => rfl⟩
    | 31, _ => first | exact rfl | exact ⟨_, rfl, fun _ _ => rfl⟩
    | 32, _ => first | exact rfl | exact ⟨_, rfl, fun _ _ => rfl⟩
    | 33, _ => first | exact rfl | exact ⟨_, rfl, fun _ _ => rfl⟩
    | 34, _ => first | exact rfl | exact ⟨_, rfl, fun _ _ => rfl⟩
    | 35, _ => first | exact rfl | exact ⟨_, rfl, fun _ _ => rfl⟩
    | 36, _ => first | exact rfl | exact ⟨_, rfl, fun _ _ => rfl⟩
    | 37, _ => first | exact rfl | exact ⟨_, rfl, fun _ _ => rfl⟩
    | 38, _ => first | exact rfl | exact ⟨_, rfl, fun _ _ => rfl⟩
    | 39, _ => first | exact rfl | exact ⟨_, rfl, fun _ _ => rfl⟩
    | 40, _ => first | exact rfl | exact ⟨_, rfl, fun _ _ => rfl⟩
    | 41, _ => first | exact rfl | exact ⟨_, rfl, fun _ _ => rfl⟩
    | 42, _ => first | exact rfl | exact ⟨_, rfl, fun _ _ => rfl⟩
    | 43, _ => first | exact rfl | exact ⟨_, rfl, fun _ _ => rfl⟩
    | 44, _ => first | exact rfl | exact ⟨_, rfl, fun _ _ => rfl⟩
    | 45, _ => first | exact rfl | exact ⟨_, rfl, fun _ _ => rfl⟩
    | 46, _ => first | exact rfl | exact ⟨_, rfl, fun _ _ => rfl⟩
    | 47, _ => first | exact rfl | exact ⟨_, rfl, fun _ _ => rfl⟩
    | 48, _ => first | exact rfl | exact ⟨_, rfl, fun _ _ => rfl⟩
    | 49, _ => first | exact rfl | exact ⟨_, rfl, fun _ _ => rfl⟩
    | 50, _ => first | exact rfl | exact ⟨_, rfl, fun _ _ => rfl⟩
    | 51, _ => first | exact rfl | exact ⟨_, rfl, fun _ _ => rfl⟩
    | 52, _ => first | exact rfl | exact ⟨_, rfl, fun _ _ => rfl⟩
    | 53, _ => first | exact rfl | exact ⟨_, rfl, fun _ _ => rfl⟩
    | 54, _ => first | exact rfl | exact ⟨_, rfl, fun _ _ => rfl⟩
    | 55, _ => first | exact rfl | exact ⟨_, rfl, fun _ _ => rfl⟩
    | 56, _ => first | exact rfl | exact ⟨_, rfl, fun _ _ => rfl⟩
    | 57, _ => first | exact rfl | exact ⟨_, rfl, fun _ _ => rfl⟩
    | 58, _ => first | exact rfl | exact ⟨_, rfl, fun _ _ => rfl⟩
    | 59, _ => first | exact rfl | exact ⟨_, rfl, fun _ _ => rfl⟩
    | 60, _ => first | exact rfl | exact ⟨_, rfl, fun _ _ => rfl⟩
    | 61, _ => first | exact rfl | exact ⟨_, rfl, fun _ _ => rfl⟩
    | 62, _ => first | exact rfl | exact ⟨_, rfl, fun _ _ => rfl⟩
    | 63, _ => first | exact rfl | exact ⟨_, rfl, fun _ _ => rfl⟩
    | 64, _ => first | exact rfl | exact ⟨_, rfl, fun _ _ => rfl⟩
    | 65, _ => first | exact rfl | exact ⟨_, rfl, fun _ _ => rfl⟩
    | 66, _ => first | exact rfl | exact ⟨_, rfl, fun _ _ => rfl⟩
    | 67, _ => first | exact rfl | exact ⟨_, rfl, fun _ _ => rfl⟩
    | 68, _ => first | exact rfl | exact ⟨_, rfl, fun _ _ => rfl⟩
    | 69, _ => first | exact rfl | exact ⟨_, rfl, fun _ _ => rfl⟩
    | 70, _ => first | exact rfl | exact ⟨_, rfl, fun _ _ => rfl⟩
    | 71, _ => first | exact rfl | exact ⟨_, rfl, fun _ _ => rfl⟩
    | 72, _ => first | exact rfl | exact ⟨_, rfl, fun _ _ => rfl⟩
    | 73, _ => first | exact rfl | exact ⟨_, rfl, fun _ _ => rfl⟩
    | 74, _ => first | exact rfl | exact ⟨_, rfl, fun _ _ => rfl⟩
    | 75, _ => first | exact rfl | exact ⟨_, rfl, fun _ _ => rfl⟩
    | 76, _ => first | exact rfl | exact ⟨_, rfl, fun _ _ => rfl⟩
    | 77, _ => first | exact rfl | exact ⟨_, rfl, fun _ _ => rfl⟩
    | 78, _ => first | exact rfl | exact ⟨_, rfl, fun _ _ => rfl⟩
    | 79, _ => first | exact rfl | exact ⟨_, rfl, fun _ _ => rfl⟩
    | 80, _ => first | exact rfl | exact ⟨_, rfl, fun _ _ => rfl⟩
    | 81, _ => first | exact rfl | exact ⟨_, rfl, fun _ _ => rfl⟩
    | 82, _ => first | exact rfl | exact ⟨_, rfl, fun _ _ => rfl⟩
    | 83, _ => first | exact rfl | exact ⟨_, rfl, fun _ _ => rfl⟩
    | 84, _ => first | exact rfl | exact ⟨_, rfl, fun _ _ => rfl⟩
    | 85, _ => first | exact rfl | exact ⟨_, rfl, fun _ _ => rfl⟩
    | 86, _ => first | exact rfl | exact ⟨_, rfl, fun _ _ => rfl⟩
    | 87, _ => first | exact rfl | exact ⟨_, rfl, fun _ _ => rfl⟩
    | 88, _ => first | exact rfl | exact ⟨_, rfl, fun _ _ => rfl⟩
    | 89, _ => first | exact rfl | exact ⟨_, rfl, fun _ _ => rfl⟩
    | 90, _ => first | exact rfl | exact ⟨_, rfl, fun _ _ => rfl⟩
    | 91, _ => first | exact rfl | exact ⟨_, rfl, fun _ _ => rfl⟩
    | 92, _ => first | exact rfl | exact ⟨_, rfl, fun _ _ => rfl⟩
    | 93, _ => first | exact rfl | exact ⟨_, rfl, fun _ _ => rfl⟩
    | 94, _ => first | exact rfl | exact ⟨_, rfl, fun _ _ => rfl⟩
    | 95, _ => first | exact rfl | exact ⟨_, rfl, fun _ _ => rfl⟩
    | 96, _ => first | exact rfl | exact ⟨_, rfl, fun _ _ => rfl⟩
    | 97, _ => first | exact rfl | exact ⟨_, rfl, fun _ _ => rfl⟩
    | 98, _ => first | exact rfl | exact ⟨_, rfl, fun _ _ => rfl⟩
    | 99, _ => first | exact rfl | exact ⟨_, rfl, fun _ _ => rfl⟩
    | 100, _ => first | exact rfl | exact ⟨_, rfl, fun _ _ => rfl⟩
    | 101, _ => first | exact rfl | exact ⟨_, rfl, fun _ _ => rfl⟩
    | 102, _ => first | exact rfl | exact ⟨_, rfl, fun _ _ => rfl⟩
    | 103, _ => first | exact ⟨_, rfl, fun _ _ => rfl⟩ | exact ⟨_, rfl, fun j _ => by
        (repeat (show ab_up _ _ _ j = ab_ii 0; refine ab_upz ?_ rfl))
        exact rfl⟩
    | 104, _ => first | exact ⟨_, rfl, fun _ _ => rfl⟩ | exact ⟨_, rfl, fun j _ => by
        (repeat (show ab_up _ _ _ j = ab_ii 0; refine ab_upz ?_ rfl))
        exact rfl⟩
    | 105, _ => first | exact ⟨_, rfl, fun _ _ => rfl⟩ | exact ⟨_, rfl, fun j _ => by
        (repeat (show ab_up _ _ _ j = ab_ii 0; refine ab_upz ?_ rfl))
        exact rfl⟩
    | 106, _ => first | exact rfl | exact ⟨_, rfl, fun _ _ => rfl⟩
    | 107, _ => first | exact ⟨_, rfl, fun _ _ => rfl⟩ | exact ⟨_, rfl, fun j _ => by
        (repeat (show ab_up _ _ _ j = ab_ii 0; refine ab_upz ?_ rfl))
        exact rfl⟩
    | 108, _ => first | exact ⟨_, rfl, fun _ _ => rfl⟩ | exact ⟨_, rfl, fun j _ => by
        (repeat (show ab_up _ _ _ j = ab_ii 0; refine ab_upz ?_ rfl))
        exact rfl⟩
    | 109, _ => first | exact ⟨_, rfl, fun _ _ => rfl⟩ | exact ⟨_, rfl, fun j _ => by
        (repeat (show ab_up _ _ _ j = ab_ii 0; refine ab_upz ?_ rfl))
        exact rfl⟩
    | 110, _ => exact ⟨_, rfl, fun j hj => by
        match j, hj with
        | 0, _ => exact rfl
        | 1, _ => exact rfl
        | 2, _ => exact rfl
        | 3, _ => exact rfl
        | 4, _ => exact rfl
        | 5, _ => exact rfl
        | 6, _ => exact rfl
        | 7, _ => exact rfl
        | 8, _ => exact rfl
        | 9, _ => exact rfl
        | 10, _ => exact rfl
        | 11, _ => exact rfl
        | j + 12, hj => exact absurd (show j + 12 < 12 from hj) (by omega)⟩
    | 111, _ => first | exact ⟨_, rfl, fun _ _ => rfl⟩ | exact ⟨_, rfl, fun j _ => by
        (repeat (show ab_up _ _ _ j = ab_ii 0; refine ab_upz ?_ rfl))
        exact rfl⟩
    | 112, _ => first | exact ⟨_, rfl, fun _ _ => rfl⟩ | exact ⟨_, rfl, fun j _ => by
        (repeat (show ab_up _ _ _ j = ab_ii 0; refine ab_upz ?_ rfl))
        exact rfl⟩
    | 113, _ => first | exact ⟨_, rfl, fun _ _ => rfl⟩ | exact ⟨_, rfl, fun j _ => by
        (repeat (show ab_up _ _ _ j = ab_ii 0; refine ab_upz ?_ rfl))
        exact rfl⟩
    | 114, _ => first | exact ⟨_, rfl, fun _ _ => rfl⟩ | exact ⟨_, rfl, fun j _ => by
        (repeat (show ab_up _ _ _ j = ab_ii 0; refine ab_upz ?_ rfl))
        exact rfl⟩
    | 115, _ => first | exact ⟨_, rfl, fun _ _ => rfl⟩ | exact ⟨_, rfl, fun j _ => by
        (repeat (show ab_up _ _ _ j = ab_ii 0; refine ab_upz ?_ rfl))
        exact rfl⟩
    | 116, _ => first | exact ⟨_, rfl, fun _ _ => rfl⟩ | exact ⟨_, rfl, fun j _ => by
        (repeat (show ab_up _ _ _ j = ab_ii 0; refine ab_upz ?_ rfl))
        exact rfl⟩
    | 117, _ => first | exact ⟨_, rfl, fun _ _ => rfl⟩ | exact ⟨_, rfl, fun j _ => by
        (repeat (show ab_up _ _ _ j = ab_ii 0; refine ab_upz ?_ rfl))
        exact rfl⟩
    | 118, _ => first | exact ⟨_, rfl, fun _ _ => rfl⟩ | exact ⟨_, rfl, fun j _ => by
        (repeat (show ab_up _ _ _ j = ab_ii 0; refine ab_upz ?_ rfl))
        exact rfl⟩
    | 119, _ => first | exact ⟨_, rfl, fun _ _ => rfl⟩ | exact ⟨_, rfl, fun j _ => by
        (repeat (show ab_up _ _ _ j = ab_ii 0; refine ab_upz ?_ rfl))
        exact rfl⟩
    | 120, _ => first | exact ⟨_, rfl, fun _ _ => rfl⟩ | exact ⟨_, rfl, fun j _ => by
        (repeat (show ab_up _ _ _ j = ab_ii 0; refine ab_upz ?_ rfl))
        exact rfl⟩
    | 121, _ => first | exact ⟨_, rfl, fun _ _ => rfl⟩ | exact ⟨_, rfl, fun j _ => by
        (repeat (show ab_up _ _ _ j = ab_ii 0; refine ab_upz ?_ rfl))
        exact rfl⟩
    | 122, _ => first | exact ⟨_, rfl, fun _ _ => rfl⟩ | exact ⟨_, rfl, fun j _ => by
        (repeat (show ab_up _ _ _ j = ab_ii 0; refine ab_upz ?_ rfl))
        exact rfl⟩
    | 123, _ => first | exact ⟨_, rfl, fun _ _ => rfl⟩ | exact ⟨_, rfl, fun j _ => by
        (repeat (show ab_up _ _ _ j = ab_ii 0; refine ab_upz ?_ rfl))
        exact rfl⟩
    | 124, _ => first | exact ⟨_, rfl, fun _ _ => rfl⟩ | exact ⟨_, rfl, fun j _ => by
        (repeat (show ab_up _ _ _ j = ab_ii 0; refine ab_upz ?_ rfl))
        exact rfl⟩
    | a + 125, ha => exact absurd ha (by show ¬ a + 125 < 125; omega)
