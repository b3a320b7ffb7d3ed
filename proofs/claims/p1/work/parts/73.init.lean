set_option maxHeartbeats 400000000 in
set_option maxRecDepth 100000 in
theorem p1_init (L : Nat) (xs : Nat → Int32) (Q : ab_Q) (k : ab_WB 2048 iL_law Q 18 [(3, .inl (ab_ii 0)), (2, .inr (.inr (some 102))), (1, .inr (.inr (some 0))), (0, .inr (.inr (some ab_scr)))] [] (ab_hK L xs)) : ab_WB 2048 iL_law Q 0 [(0, .inr (.inr (some ab_scr)))] [] (ab_h0 L xs) := by
  refine ab_run ab_okAll okL_law ?_
  repeat' ((conv => whnf); first
 | (intro v9 hv9; (try simp (disch := omega) only [ab_up_at, ab_up_ne, List.set_cons_zero, List.set_cons_succ, ab_tI, ab_c0, ab_nd_lt, Int.toNat_natCast, Int.toNat_of_nonneg, not_true_eq_false, not_false_eq_true, Option.some.injEq] at hv9); subst hv9)
 | (refine ⟨⟨Nat.le_of_ble_eq_true rfl, Nat.le_of_ble_eq_true rfl⟩, fun k9 hk9 => ?_⟩; (simp only [Nat.reduceAdd] at hk9); subst hk9)
 | (refine ⟨⟨by decide, Nat.le_of_ble_eq_true rfl, Nat.le_of_ble_eq_true rfl⟩, fun k9 hk9 => ?_⟩; (simp only [Nat.reduceAdd] at hk9); subst hk9)
 | (refine ab_inl rfl rfl ?_)
 | (refine ab_rn rfl ?_)
 | (apply i_get; (focus (first | exact rfl | (simp (disch := omega) only [ab_set, ab_hK, ab_up_ne, ab_up_self, ab_tI, ab_c0, ab_nd_lt, Int.toNat_natCast, Int.toNat_of_nonneg, not_true_eq_false, not_false_eq_true, Option.some.injEq, hp_F_s0, hp_F_s1, hp_F_s2, hp_F_s3, hp_F_s4, hp_F_p0, hp_F_p1, hp_F_p2] <;> rfl))); (focus (exact rfl)))
 | (apply i_put; (focus (first | exact rfl | (simp (disch := omega) only [ab_set, ab_hK, ab_up_ne, ab_up_self, ab_tI, ab_c0, ab_nd_lt, Int.toNat_natCast, Int.toNat_of_nonneg, not_true_eq_false, not_false_eq_true, Option.some.injEq, hp_F_s0, hp_F_s1, hp_F_s2, hp_F_s3, hp_F_s4, hp_F_p0, hp_F_p1, hp_F_p2] <;> rfl))); (focus (exact rfl)); (focus (first | exact trivial | exact Or.inl rfl | exact Or.inr rfl)))
 | (apply i_cv; (focus (first | exact rfl | (simp (disch := omega) only [ab_set, ab_hK, ab_up_ne, ab_up_self, ab_tI, ab_c0, ab_nd_lt, Int.toNat_natCast, Int.toNat_of_nonneg, not_true_eq_false, not_false_eq_true, Option.some.injEq, hp_F_s0, hp_F_s1, hp_F_s2, hp_F_s3, hp_F_s4, hp_F_p0, hp_F_p1, hp_F_p2] <;> rfl))))
 | (apply i_ial; (focus (first | exact rfl | (simp (disch := omega) only [ab_set, ab_hK, ab_up_ne, ab_up_self, ab_tI, ab_c0, ab_nd_lt, Int.toNat_natCast, Int.toNat_of_nonneg, not_true_eq_false, not_false_eq_true, Option.some.injEq, hp_F_s0, hp_F_s1, hp_F_s2, hp_F_s3, hp_F_s4, hp_F_p0, hp_F_p1, hp_F_p2] <;> rfl))); (focus (first | exact Or.inl rfl | exact Or.inr rfl)); (focus (first | exact ⟨by decide, by decide⟩ | ((try simp (disch := omega) only [ab_tI, ab_c0, ab_nd_lt, Int.toNat_natCast, Int.toNat_of_nonneg, not_true_eq_false, not_false_eq_true, Option.some.injEq]); omega))); (intro v9 hv9; (try simp (disch := omega) only [ab_up_at, ab_up_ne, List.set_cons_zero, List.set_cons_succ, ab_tI, ab_c0, ab_nd_lt, Int.toNat_natCast, Int.toNat_of_nonneg, not_true_eq_false, not_false_eq_true, Option.some.injEq] at hv9); subst hv9))
 | (apply i_aal; (focus (first | exact rfl | (simp (disch := omega) only [ab_set, ab_hK, ab_up_ne, ab_up_self, ab_tI, ab_c0, ab_nd_lt, Int.toNat_natCast, Int.toNat_of_nonneg, not_true_eq_false, not_false_eq_true, Option.some.injEq, hp_F_s0, hp_F_s1, hp_F_s2, hp_F_s3, hp_F_s4, hp_F_p0, hp_F_p1, hp_F_p2] <;> rfl))); (focus (first | exact ⟨by decide, by decide⟩ | ((try simp (disch := omega) only [ab_tI, ab_c0, ab_nd_lt, Int.toNat_natCast, Int.toNat_of_nonneg, not_true_eq_false, not_false_eq_true, Option.some.injEq]); omega))); (intro v9 hv9; (try simp (disch := omega) only [ab_up_at, ab_up_ne, List.set_cons_zero, List.set_cons_succ, ab_tI, ab_c0, ab_nd_lt, Int.toNat_natCast, Int.toNat_of_nonneg, not_true_eq_false, not_false_eq_true, Option.some.injEq] at hv9); subst hv9))
 | (apply i_ias; (focus (first | exact rfl | (simp (disch := omega) only [ab_set, ab_hK, ab_up_ne, ab_up_self, ab_tI, ab_c0, ab_nd_lt, Int.toNat_natCast, Int.toNat_of_nonneg, not_true_eq_false, not_false_eq_true, Option.some.injEq, hp_F_s0, hp_F_s1, hp_F_s2, hp_F_s3, hp_F_s4, hp_F_p0, hp_F_p1, hp_F_p2] <;> rfl))); (focus (first | exact ⟨by decide, by decide⟩ | ((try simp (disch := omega) only [ab_tI, ab_c0, ab_nd_lt, Int.toNat_natCast, Int.toNat_of_nonneg, not_true_eq_false, not_false_eq_true, Option.some.injEq]); omega))))
 | (apply i_aas; (focus (first | exact rfl | (simp (disch := omega) only [ab_set, ab_hK, ab_up_ne, ab_up_self, ab_tI, ab_c0, ab_nd_lt, Int.toNat_natCast, Int.toNat_of_nonneg, not_true_eq_false, not_false_eq_true, Option.some.injEq, hp_F_s0, hp_F_s1, hp_F_s2, hp_F_s3, hp_F_s4, hp_F_p0, hp_F_p1, hp_F_p2] <;> rfl))); (focus (first | exact ⟨by decide, by decide⟩ | ((try simp (disch := omega) only [ab_tI, ab_c0, ab_nd_lt, Int.toNat_natCast, Int.toNat_of_nonneg, not_true_eq_false, not_false_eq_true, Option.some.injEq]); omega))); (focus (intro w hw; cases hw <;> (apply i_ex; (first | exact rfl | (simp (disch := omega) only [ab_set, ab_hK, ab_up_ne, ab_up_self, ab_tI, ab_c0, ab_nd_lt, Int.toNat_natCast, Int.toNat_of_nonneg, not_true_eq_false, not_false_eq_true, Option.some.injEq, hp_F_s0, hp_F_s1, hp_F_s2, hp_F_s3, hp_F_s4, hp_F_p0, hp_F_p1, hp_F_p2] <;> rfl))))))
 | (apply i_bal; (focus (first | exact rfl | (simp (disch := omega) only [ab_set, ab_hK, ab_up_ne, ab_up_self, ab_tI, ab_c0, ab_nd_lt, Int.toNat_natCast, Int.toNat_of_nonneg, not_true_eq_false, not_false_eq_true, Option.some.injEq, hp_F_s0, hp_F_s1, hp_F_s2, hp_F_s3, hp_F_s4, hp_F_p0, hp_F_p1, hp_F_p2] <;> rfl))); (focus (first | exact ⟨by decide, by decide⟩ | ((try simp (disch := omega) only [ab_tI, ab_c0, ab_nd_lt, Int.toNat_natCast, Int.toNat_of_nonneg, not_true_eq_false, not_false_eq_true, Option.some.injEq]); omega))); (intro v9 hv9; (try simp (disch := omega) only [ab_up_at, ab_up_ne, List.set_cons_zero, List.set_cons_succ, ab_tI, ab_c0, ab_nd_lt, Int.toNat_natCast, Int.toNat_of_nonneg, not_true_eq_false, not_false_eq_true, Option.some.injEq] at hv9); subst hv9))
 | (apply i_bas; (focus (first | exact rfl | (simp (disch := omega) only [ab_set, ab_hK, ab_up_ne, ab_up_self, ab_tI, ab_c0, ab_nd_lt, Int.toNat_natCast, Int.toNat_of_nonneg, not_true_eq_false, not_false_eq_true, Option.some.injEq, hp_F_s0, hp_F_s1, hp_F_s2, hp_F_s3, hp_F_s4, hp_F_p0, hp_F_p1, hp_F_p2] <;> rfl))); (focus (first | exact ⟨by decide, by decide⟩ | ((try simp (disch := omega) only [ab_tI, ab_c0, ab_nd_lt, Int.toNat_natCast, Int.toNat_of_nonneg, not_true_eq_false, not_false_eq_true, Option.some.injEq]); omega))); (focus (first | exact Or.inl rfl | exact Or.inr rfl)))
 | (apply i_len; (focus (first | exact rfl | (simp (disch := omega) only [ab_set, ab_hK, ab_up_ne, ab_up_self, ab_tI, ab_c0, ab_nd_lt, Int.toNat_natCast, Int.toNat_of_nonneg, not_true_eq_false, not_false_eq_true, Option.some.injEq, hp_F_s0, hp_F_s1, hp_F_s2, hp_F_s3, hp_F_s4, hp_F_p0, hp_F_p1, hp_F_p2] <;> rfl))))
 | (refine i_brF (by decide) ?_)
 | (refine i_brT (by decide) ?_)
 | (refine ⟨fun hc => ?_, fun hc => ?_⟩ <;> (try simp (disch := omega) only [ab_up_at, ab_up_ne, ab_tI, ab_c0, ab_nd_lt, Int.toNat_natCast, Int.toNat_of_nonneg, not_true_eq_false, not_false_eq_true, Option.some.injEq] at hc) <;> first | (exfalso; omega) | skip)
 | (refine ⟨trivial, ?_⟩) | (refine ⟨Or.inl rfl, ?_⟩) | (refine ⟨Or.inr rfl, ?_⟩)
 | (simp (disch := omega) only [ab_up_at, ab_up_ne, ab_tI, ab_c0, ab_nd_lt, Int.toNat_natCast, Int.toNat_of_nonneg, not_true_eq_false, not_false_eq_true, Option.some.injEq])
 | fail)
  refine ab_WB_ext (h' := ab_hK L xs) rfl rfl ?_ ?_ k
  · intro a h1 h2
    show ab_up hp_F ab_scr (ab_ia 9 L xs) a = _
    rw [ab_up_ne _ _ h2]
    exact hp_F_end h1
  · intro a ha
    match a, ha with
    | 0, _ => first | exact rfl | exact ⟨_, rfl, fun _ _ => rfl⟩
    | 1, _ => first | exact rfl | exact ⟨_, rfl, fun _ _ => rfl⟩
    | 2, _ => first | exact rfl | exact ⟨_, rfl, fun _ _ => rfl⟩
    | 3, _ => first | exact rfl | exact ⟨_, rfl, fun _ _ => rfl⟩
    | 4, _ => first | exact rfl | exact ⟨_, rfl, fun _ _ => rfl⟩
    | 5, _ => first | exact rfl | exact ⟨_, rfl, fun _ _ => rfl⟩
    | 6, _ => first | exact rfl | exact ⟨_, rfl, fun _ _ => rfl⟩
    | 7, _ => exact ⟨_, rfl, fun j hj => by
        match j, hj with
        | 0, _ => exact rfl
        | 1, _ => exact rfl
        | 2, _ => exact rfl
        | 3, _ => exact rfl
        | 4, _ => exact rfl
        | 5, _ => exact rfl
        | 6, _ => exact rfl
        | 7, _ => exact rfl
        | 8, _ => exact rfl
        | 9, _ => exact rfl
        | 10, _ => exact rfl
        | 11, _ => exact rfl
        | j + 12, hj => exact absurd (show j + 12 < 12 from hj) (by omega)⟩
    | 8, _ => exact ⟨_, rfl, fun j hj => by
        match j, hj with
        | 0, _ => exact rfl
        | 1, _ => exact rfl
        | 2, _ => exact rfl
        | 3, _ => exact rfl
        | 4, _ => exact rfl
        | 5, _ => exact rfl
        | 6, _ => exact rfl
        | 7, _ => exact rfl
        | j + 8, hj => exact absurd (show j + 8 < 8 from hj) (by omega)⟩
    | 9, _ => first | exact rfl | exact ⟨_, rfl, fun _ _ => rfl⟩
    | 10, _ => first | exact rfl | exact ⟨_, rfl, fun _ _ => rfl⟩
    | 11, _ => first | exact rfl | exact ⟨_, rfl, fun _ _ => rfl⟩
    | 12, _ => first | exact rfl | exact ⟨_, rfl, fun _ _ => rfl⟩
    | 13, _ => first | exact rfl | exact ⟨_, rfl, fun _ _ => rfl⟩
    | 14, _ => first | exact rfl | exact ⟨_, rfl, fun _ _ => rfl⟩
    | 15, _ => first | exact rfl | exact ⟨_, rfl, fun _ _ => rfl⟩
    | 16, _ => first | exact rfl | exact ⟨_, rfl, fun _ _ => rfl⟩
    | 17, _ => first | exact rfl | exact ⟨_, rfl, fun _ _ => rfl⟩
    | 18, _ => first | exact rfl | exact ⟨_, rfl, fun _ _ => rfl⟩
    | 19, _ => first | exact rfl | exact ⟨_, rfl, fun _ _ => rfl⟩
    | 20, _ => first | exact rfl | exact ⟨_, rfl, fun _ _ => rfl⟩
    | 21, _ => first | exact rfl | exact ⟨_, rfl, fun _ _ => rfl⟩
    | 22, _ => first | exact rfl | exact ⟨_, rfl, fun _ _ => rfl⟩
    | 23, _ => first | exact rfl | exact ⟨_, rfl, fun _ _ => rfl⟩
    | 24, _ => first | exact rfl | exact ⟨_, rfl, fun _ _ => rfl⟩
    | 25, _ => first | exact rfl | exact ⟨_, rfl, fun _ _ => rfl⟩
    | 26, _ => first | exact rfl | exact ⟨_, rfl, fun _ _ => rfl⟩
    | 27, _ => first | exact rfl | exact ⟨_, rfl, fun _ _ => rfl⟩
    | 28, _ => first | exact rfl | exact ⟨_, rfl, fun _ _ => rfl⟩
    | 29, _ => first | exact rfl | exact ⟨_, rfl, fun _ _ => rfl⟩
    | 30, _ => first | exact rfl | exact ⟨_, rfl, fun _ _ => rfl⟩
    | 31, _ => first | exact rfl | exact ⟨_, rfl, fun _ _ => rfl⟩
    | 32, _ => first | exact rfl | exact ⟨_, rfl, fun _ _ => rfl⟩
    | 33, _ => first | exact rfl | exact ⟨_, rfl, fun _ _ => rfl⟩
    | 34, _ => first | exact rfl | exact ⟨_, rfl, fun _ _ => rfl⟩
    | 35, _ => first | exact rfl | exact ⟨_, rfl, fun _ _ => rfl⟩
    | 36, _ => first | exact rfl | exact ⟨_, rfl, fun _ _ => rfl⟩
    | 37, _ => first | exact rfl | exact ⟨_, rfl, fun _ _ => rfl⟩
    | 38, _ => first | exact rfl | exact ⟨_, rfl, fun _ _ => rfl⟩
    | 39, _ => first | exact rfl | exact ⟨_, rfl, fun _ _ => rfl⟩
    | 40, _ => first | exact rfl | exact ⟨_, rfl, fun _ _ => rfl⟩
    | 41, _ => first | exact rfl | exact ⟨_, rfl, fun _ _ => rfl⟩
    | 42, _ => first | exact rfl | exact ⟨_, rfl, fun _ _ => rfl⟩
    | 43, _ => first | exact rfl | exact ⟨_, rfl, fun _ _ => rfl⟩
    | 44, _ => first | exact rfl | exact ⟨_, rfl, fun _ _ => rfl⟩
    | 45, _ => first | exact rfl | exact ⟨_, rfl, fun _ _ => rfl⟩
    | 46, _ => first | exact rfl | exact ⟨_, rfl, fun _ _ => rfl⟩
    | 47, _ => first | exact rfl | exact ⟨_, rfl, fun _ _ => rfl⟩
    | 48, _ => first | exact rfl | exact ⟨_, rfl, fun _ _ => rfl⟩
    | 49, _ => first | exact rfl | exact ⟨_, rfl, fun _ _ => rfl⟩
    | 50, _ => first | exact rfl | exact ⟨_, rfl, fun _ _ => rfl⟩
    | 51, _ => first | exact rfl | exact ⟨_, rfl, fun _ _ => rfl⟩
    | 52, _ => first | exact rfl | exact ⟨_, rfl, fun _ _ => rfl⟩
    | 53, _ => first | exact rfl | exact ⟨_, rfl, fun _ _ => rfl⟩
    | 54, _ => first | exact rfl | exact ⟨_, rfl, fun _ _ => rfl⟩
    | 55, _ => first | exact rfl | exact ⟨_, rfl, fun _ _ => rfl⟩
    | 56, _ => first | exact rfl | exact ⟨_, rfl, fun _ _ => rfl⟩
    | 57, _ => first | exact rfl | exact ⟨_, rfl, fun _ _ => rfl⟩
    | 58, _ => first | exact rfl | exact ⟨_, rfl, fun _ _ => rfl⟩
    | 59, _ => first | exact rfl | exact ⟨_, rfl, fun _ _ => rfl⟩
    | 60, _ => first | exact rfl | exact ⟨_, rfl, fun _ _ => rfl⟩
    | 61, _ => first | exact rfl | exact ⟨_, rfl, fun _ _ => rfl⟩
    | 62, _ => first | exact rfl | exact ⟨_, rfl, fun _ _ => rfl⟩
    | 63, _ => first | exact rfl | exact ⟨_, rfl, fun _ _ => rfl⟩
    | 64, _ => first | exact rfl | exact ⟨_, rfl, fun _ _ => rfl⟩
    | 65, _ => first | exact rfl | exact ⟨_, rfl, fun _ _ => rfl⟩
    | 66, _ => first | exact rfl | exact ⟨_, rfl, fun _ _ => rfl⟩
    | 67, _ => first | exact rfl | exact ⟨_, rfl, fun _ _ => rfl⟩
    | 68, _ => first | exact rfl | exact ⟨_, rfl, fun _ _ => rfl⟩
    | 69, _ => first | exact rfl | exact ⟨_, rfl, fun _ _ => rfl⟩
    | 70, _ => first | exact rfl | exact ⟨_, rfl, fun _ _ => rfl⟩
    | 71, _ => first | exact rfl | exact ⟨_, rfl, fun _ _ => rfl⟩
    | 72, _ => first | exact rfl | exact ⟨_, rfl, fun _ _ => rfl⟩
    | 73, _ => first | exact rfl | exact ⟨_, rfl, fun _ _ => rfl⟩
    | 74, _ => first | exact rfl | exact ⟨_, rfl, fun _ _ => rfl⟩
    | 75, _ => first | exact rfl | exact ⟨_, rfl, fun _ _ => rfl⟩
    | 76, _ => first | exact rfl | exact ⟨_, rfl, fun _ _ => rfl⟩
    | 77, _ => first | exact rfl | exact ⟨_, rfl, fun _ _ => rfl⟩
    | 78, _ => first | exact rfl | exact ⟨_, rfl, fun _ _ => rfl⟩
    | 79, _ => first | exact rfl | exact ⟨_, rfl, fun _ _ => rfl⟩
    | 80, _ => first | exact rfl | exact ⟨_, rfl, fun _ _ => rfl⟩
    | 81, _ => first | exact rfl | exact ⟨_, rfl, fun _ _ => rfl⟩
    | 82, _ => first | exact rfl | exact ⟨_, rfl, fun _ _ => rfl⟩
    | 83, _ => first | exact rfl | exact ⟨_, rfl, fun _ _ => rfl⟩
    | 84, _ => first | exact rfl | exact ⟨_, rfl, fun _ _ => rfl⟩
    | 85, _ => first | exact rfl | exact ⟨_, rfl, fun _ _ => rfl⟩
    | 86, _ => first | exact rfl | exact ⟨_, rfl, fun _ _ => rfl⟩
    | 87, _ => first | exact rfl | exact ⟨_, rfl, fun _ _ => rfl⟩
    | 88, _ => first | exact rfl | exact ⟨_, rfl, fun _ _ => rfl⟩
    | 89, _ => first | exact rfl | exact ⟨_, rfl, fun _ _ => rfl⟩
    | 90, _ => first | exact rfl | exact ⟨_, rfl, fun _ _ => rfl⟩
    | 91, _ => first | exact rfl | exact ⟨_, rfl, fun _ _ => rfl⟩
    | 92, _ => first | exact rfl | exact ⟨_, rfl, fun _ _ => rfl⟩
    | 93, _ => first | exact rfl | exact ⟨_, rfl, fun _ _ => rfl⟩
    | 94, _ => first | exact rfl | exact ⟨_, rfl, fun _ _ => rfl⟩
    | 95, _ => first | exact rfl | exact ⟨_, rfl, fun _ _ => rfl⟩
    | 96, _ => first | exact rfl | exact ⟨_, rfl, fun _ _ => rfl⟩
    | 97, _ => first | exact rfl | exact ⟨_, rfl, fun _ _ => rfl⟩
    | 98, _ => first | exact rfl | exact ⟨_, rfl, fun _ _ => rfl⟩
    | 99, _ => first | exact rfl | exact ⟨_, rfl, fun _ _ => rfl⟩
    | 100, _ => first | exact rfl | exact ⟨_, rfl, fun _ _ => rfl⟩
    | 101, _ => first | exact rfl | exact ⟨_, rfl, fun _ _ => rfl⟩
    | 102, _ => first | exact rfl | exact ⟨_, rfl, fun _ _ => rfl⟩
    | 103, _ => first | exact ⟨_, rfl, fun _ _ => rfl⟩ | exact ⟨_, rfl, fun j _ => by
        (repeat (show ab_up _ _ _ j = ab_ii 0; refine ab_upz ?_ rfl))
        exact rfl⟩
    | 104, _ => first | exact ⟨_, rfl, fun _ _ => rfl⟩ | exact ⟨_, rfl, fun j _ => by
        (repeat (show ab_up _ _ _ j = ab_ii 0; refine ab_upz ?_ rfl))
        exact rfl⟩
    | 105, _ => first | exact ⟨_, rfl, fun _ _ => rfl⟩ | exact ⟨_, rfl, fun j _ => by
        (repeat (show ab_up _ _ _ j = ab_ii 0; refine ab_upz ?_ rfl))
        exact rfl⟩
    | 106, _ => first | exact rfl | exact ⟨_, rfl, fun _ _ => rfl⟩
    | 107, _ => first | exact ⟨_, rfl, fun _ _ => rfl⟩ | exact ⟨_, rfl, fun j _ => by
        (repeat (show ab_up _ _ _ j = ab_ii 0; refine ab_upz ?_ rfl))
        exact rfl⟩
    | 108, _ => first | exact ⟨_, rfl, fun _ _ => rfl⟩ | exact ⟨_, rfl, fun j _ => by
        (repeat (show ab_up _ _ _ j = ab_ii 0; refine ab_upz ?_ rfl))
        exact rfl⟩
    | 109, _ => first | exact ⟨_, rfl, fun _ _ => rfl⟩ | exact ⟨_, rfl, fun j _ => by
        (repeat (show ab_up _ _ _ j = ab_ii 0; refine ab_upz ?_ rfl))
        exact rfl⟩
    | 110, _ => exact ⟨_, rfl, fun j hj => by
        match j, hj with
        | 0, _ => exact rfl
        | 1, _ => exact rfl
        | 2, _ => exact rfl
        | 3, _ => exact rfl
        | 4, _ => exact rfl
        | 5, _ => exact rfl
        | 6, _ => exact rfl
        | 7, _ => exact rfl
        | 8, _ => exact rfl
        | 9, _ => exact rfl
        | 10, _ => exact rfl
        | 11, _ => exact rfl
        | j + 12, hj => exact absurd (show j + 12 < 12 from hj) (by omega)⟩
    | 111, _ => first | exact ⟨_, rfl, fun _ _ => rfl⟩ | exact ⟨_, rfl, fun j _ => by
        (repeat (show ab_up _ _ _ j = ab_ii 0; refine ab_upz ?_ rfl))
        exact rfl⟩
    | 112, _ => first | exact ⟨_, rfl, fun _ _ => rfl⟩ | exact ⟨_, rfl, fun j _ => by
        (repeat (show ab_up _ _ _ j = ab_ii 0; refine ab_upz ?_ rfl))
        exact rfl⟩
    | 113, _ => first | exact ⟨_, rfl, fun _ _ => rfl⟩ | exact ⟨_, rfl, fun j _ => by
        (repeat (show ab_up _ _ _ j = ab_ii 0; refine ab_upz ?_ rfl))
        exact rfl⟩
    | 114, _ => first | exact ⟨_, rfl, fun _ _ => rfl⟩ | exact ⟨_, rfl, fun j _ => by
        (repeat (show ab_up _ _ _ j = ab_ii 0; refine ab_upz ?_ rfl))
        exact rfl⟩
    | 115, _ => first | exact ⟨_, rfl, fun _ _ => rfl⟩ | exact ⟨_, rfl, fun j _ => by
        (repeat (show ab_up _ _ _ j = ab_ii 0; refine ab_upz ?_ rfl))
        exact rfl⟩
    | 116, _ => first | exact ⟨_, rfl, fun _ _ => rfl⟩ | exact ⟨_, rfl, fun j _ => by
        (repeat (show ab_up _ _ _ j = ab_ii 0; refine ab_upz ?_ rfl))
        exact rfl⟩
    | 117, _ => first | exact ⟨_, rfl, fun _ _ => rfl⟩ | exact ⟨_, rfl, fun j _ => by
        (repeat (show ab_up _ _ _ j = ab_ii 0; refine ab_upz ?_ rfl))
        exact rfl⟩
    | 118, _ => first | exact ⟨_, rfl, fun _ _ => rfl⟩ | exact ⟨_, rfl, fun j _ => by
        (repeat (show ab_up _ _ _ j = ab_ii 0; refine ab_upz ?_ rfl))
        exact rfl⟩
    | 119, _ => first | exact ⟨_, rfl, fun _ _ => rfl⟩ | exact ⟨_, rfl, fun j _ => by
        (repeat (show ab_up _ _ _ j = ab_ii 0; refine ab_upz ?_ rfl))
        exact rfl⟩
    | 120, _ => first | exact ⟨_, rfl, fun _ _ => rfl⟩ | exact ⟨_, rfl, fun j _ => by
        (repeat (show ab_up _ _ _ j = ab_ii 0; refine ab_upz ?_ rfl))
        exact rfl⟩
    | 121, _ => first | exact ⟨_, rfl, fun _ _ => rfl⟩ | exact ⟨_, rfl, fun j _ => by
        (repeat (show ab_up _ _ _ j = ab_ii 0; refine ab_upz ?_ rfl))
        exact rfl⟩
    | 122, _ => first | exact ⟨_, rfl, fun _ _ => rfl⟩ | exact ⟨_, rfl, fun j _ => by
        (repeat (show ab_up _ _ _ j = ab_ii 0; refine ab_upz ?_ rfl))
        exact rfl⟩
    | 123, _ => first | exact ⟨_, rfl, fun _ _ => rfl⟩ | exact ⟨_, rfl, fun j _ => by
        (repeat (show ab_up _ _ _ j = ab_ii 0; refine ab_upz ?_ rfl))
        exact rfl⟩
    | 124, _ => first | exact ⟨_, rfl, fun _ _ => rfl⟩ | exact ⟨_, rfl, fun j _ => by
        (repeat (show ab_up _ _ _ j = ab_ii 0; refine ab_upz ?_ rfl))
        exact rfl⟩
    | a + 125, ha => exact absurd ha (by show ¬ a + 125 < 125; omega)
