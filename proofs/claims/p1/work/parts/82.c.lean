set_option maxHeartbeats 400000000 in
set_option maxRecDepth 100000 in
theorem c_thing (L : Nat) (xs : Nat → Int32) (a : Int32) (Q : ab_Q) (hQ : ∀ (r : Int32) h', an_thing a.toInt r.toInt → p1_keep L xs h' → Q (some (.inl r)) h') : ab_CT 2047 iX11_thing [.inr (.inr (some 0)), .inl a] (ab_hK L xs) Q := by
  refine ab_inl rfl rfl ?_
  repeat' ((conv => whnf); first
 | (refine ⟨⟨Nat.le_of_ble_eq_true rfl, Nat.le_of_ble_eq_true rfl⟩, fun k9 hk9 => ?_⟩; (simp only [Nat.reduceAdd] at hk9); subst hk9)
 | (refine ⟨⟨by decide, Nat.le_of_ble_eq_true rfl, Nat.le_of_ble_eq_true rfl⟩, fun k9 hk9 => ?_⟩; (simp only [Nat.reduceAdd] at hk9); subst hk9)
 | (refine ab_inl rfl rfl ?_)
 | (refine ab_rn rfl ?_)
 | (apply i_get; (focus (first | exact rfl | (simp (disch := omega) only [ab_set, ab_hK, ab_up_ne, ab_up_self, ab_tI, ab_c0, ab_nd_lt, Int.toNat_natCast, Int.toNat_of_nonneg, not_true_eq_false, not_false_eq_true, hp_F_s0, hp_F_s1, hp_F_s2, hp_F_s3, hp_F_s4, hp_F_p0, hp_F_p1, hp_F_p2] <;> rfl))); (focus (exact rfl)))
 | (apply i_put; (focus (first | exact rfl | (simp (disch := omega) only [ab_set, ab_hK, ab_up_ne, ab_up_self, ab_tI, ab_c0, ab_nd_lt, Int.toNat_natCast, Int.toNat_of_nonneg, not_true_eq_false, not_false_eq_true, hp_F_s0, hp_F_s1, hp_F_s2, hp_F_s3, hp_F_s4, hp_F_p0, hp_F_p1, hp_F_p2] <;> rfl))); (focus (exact rfl)); (focus (first | exact trivial | exact Or.inl rfl | exact Or.inr rfl)))
 | (apply i_cv; (focus (first | exact rfl | (simp (disch := omega) only [ab_set, ab_hK, ab_up_ne, ab_up_self, ab_tI, ab_c0, ab_nd_lt, Int.toNat_natCast, Int.toNat_of_nonneg, not_true_eq_false, not_false_eq_true, hp_F_s0, hp_F_s1, hp_F_s2, hp_F_s3, hp_F_s4, hp_F_p0, hp_F_p1, hp_F_p2] <;> rfl))))
 | (apply i_ial; (focus (first | exact rfl | (simp (disch := omega) only [ab_set, ab_hK, ab_up_ne, ab_up_self, ab_tI, ab_c0, ab_nd_lt, Int.toNat_natCast, Int.toNat_of_nonneg, not_true_eq_false, not_false_eq_true, hp_F_s0, hp_F_s1, hp_F_s2, hp_F_s3, hp_F_s4, hp_F_p0, hp_F_p1, hp_F_p2] <;> rfl))); (focus (first | exact Or.inl rfl | exact Or.inr rfl)); (focus (first | exact ⟨by decide, by decide⟩ | ((try simp (disch := omega) only [ab_tI, ab_c0, ab_nd_lt, Int.toNat_natCast, Int.toNat_of_nonneg, not_true_eq_false, not_false_eq_true]); omega))))
 | (apply i_aal; (focus (first | exact rfl | (simp (disch := omega) only [ab_set, ab_hK, ab_up_ne, ab_up_self, ab_tI, ab_c0, ab_nd_lt, Int.toNat_natCast, Int.toNat_of_nonneg, not_true_eq_false, not_false_eq_true, hp_F_s0, hp_F_s1, hp_F_s2, hp_F_s3, hp_F_s4, hp_F_p0, hp_F_p1, hp_F_p2] <;> rfl))); (focus (first | exact ⟨by decide, by decide⟩ | ((try simp (disch := omega) only [ab_tI, ab_c0, ab_nd_lt, Int.toNat_natCast, Int.toNat_of_nonneg, not_true_eq_false, not_false_eq_true]); omega))))
 | (apply i_ias; (focus (first | exact rfl | (simp (disch := omega) only [ab_set, ab_hK, ab_up_ne, ab_up_self, ab_tI, ab_c0, ab_nd_lt, Int.toNat_natCast, Int.toNat_of_nonneg, not_true_eq_false, not_false_eq_true, hp_F_s0, hp_F_s1, hp_F_s2, hp_F_s3, hp_F_s4, hp_F_p0, hp_F_p1, hp_F_p2] <;> rfl))); (focus (first | exact ⟨by decide, by decide⟩ | ((try simp (disch := omega) only [ab_tI, ab_c0, ab_nd_lt, Int.toNat_natCast, Int.toNat_of_nonneg, not_true_eq_false, not_false_eq_true]); omega))))
 | (apply i_aas; (focus (first | exact rfl | (simp (disch := omega) only [ab_set, ab_hK, ab_up_ne, ab_up_self, ab_tI, ab_c0, ab_nd_lt, Int.toNat_natCast, Int.toNat_of_nonneg, not_true_eq_false, not_false_eq_true, hp_F_s0, hp_F_s1, hp_F_s2, hp_F_s3, hp_F_s4, hp_F_p0, hp_F_p1, hp_F_p2] <;> rfl))); (focus (first | exact ⟨by decide, by decide⟩ | ((try simp (disch := omega) only [ab_tI, ab_c0, ab_nd_lt, Int.toNat_natCast, Int.toNat_of_nonneg, not_true_eq_false, not_false_eq_true]); omega))); (focus (intro w hw; cases hw; exact ⟨_, rfl⟩)))
 | (apply i_bal; (focus (first | exact rfl | (simp (disch := omega) only [ab_set, ab_hK, ab_up_ne, ab_up_self, ab_tI, ab_c0, ab_nd_lt, Int.toNat_natCast, Int.toNat_of_nonneg, not_true_eq_false, not_false_eq_true, hp_F_s0, hp_F_s1, hp_F_s2, hp_F_s3, hp_F_s4, hp_F_p0, hp_F_p1, hp_F_p2] <;> rfl))); (focus (first | exact ⟨by decide, by decide⟩ | ((try simp (disch := omega) only [ab_tI, ab_c0, ab_nd_lt, Int.toNat_natCast, Int.toNat_of_nonneg, not_true_eq_false, not_false_eq_true]); omega))))
 | (apply i_bas; (focus (first | exact rfl | (simp (disch := omega) only [ab_set, ab_hK, ab_up_ne, ab_up_self, ab_tI, ab_c0, ab_nd_lt, Int.toNat_natCast, Int.toNat_of_nonneg, not_true_eq_false, not_false_eq_true, hp_F_s0, hp_F_s1, hp_F_s2, hp_F_s3, hp_F_s4, hp_F_p0, hp_F_p1, hp_F_p2] <;> rfl))); (focus (first | exact ⟨by decide, by decide⟩ | ((try simp (disch := omega) only [ab_tI, ab_c0, ab_nd_lt, Int.toNat_natCast, Int.toNat_of_nonneg, not_true_eq_false, not_false_eq_true]); omega))); (focus (first | exact Or.inl rfl | exact Or.inr rfl)))
 | (apply i_len; (focus (first | exact rfl | (simp (disch := omega) only [ab_set, ab_hK, ab_up_ne, ab_up_self, ab_tI, ab_c0, ab_nd_lt, Int.toNat_natCast, Int.toNat_of_nonneg, not_true_eq_false, not_false_eq_true, hp_F_s0, hp_F_s1, hp_F_s2, hp_F_s3, hp_F_s4, hp_F_p0, hp_F_p1, hp_F_p2] <;> rfl))))
 | (refine i_brF (by decide) ?_)
 | (refine i_brT (by decide) ?_)
 | (refine ⟨fun hc => ?_, fun hc => ?_⟩ <;> (try simp (disch := omega) only [ab_tI, ab_c0, ab_nd_lt, Int.toNat_natCast, Int.toNat_of_nonneg, not_true_eq_false, not_false_eq_true] at hc) <;> first | (exfalso; omega) | skip)
 | (refine ⟨trivial, ?_⟩) | (refine ⟨Or.inl rfl, ?_⟩) | (refine ⟨Or.inr rfl, ?_⟩)
 | (simp (disch := omega) only [ab_up_self, ab_up_ne])
 | fail)
  all_goals (refine hQ _ _ ?_ ?_)
  all_goals first
  | ((try simp (disch := omega) only [ab_tI, ab_c0, ab_nd_lt, Int.toNat_natCast, Int.toNat_of_nonneg, not_true_eq_false, not_false_eq_true, ab_l0, ab_l1, ab_lN, ab_li]); unfold an_thing; omega)
  | (refine ⟨fun q h1 h2 => ?_, ?_⟩ <;> (simp (disch := omega) only [ab_set, ab_hK, ab_up_ne, ab_up_self]; done))
  | (trace_state; fail)
set_option maxHeartbeats 400000000 in
set_option maxRecDepth 100000 in
theorem c_path (L : Nat) (xs : Nat → Int32) (a : Int32) (Q : ab_Q) (hQ : ∀ (r : Int32) h', an_path a.toInt r.toInt → p1_keep L xs h' → Q (some (.inl r)) h') : ab_CT 2047 iX11_path [.inr (.inr (some 0)), .inl a] (ab_hK L xs) Q := by
  refine ab_inl rfl rfl ?_
  repeat' ((conv => whnf); first
 | (refine ⟨⟨Nat.le_of_ble_eq_true rfl, Nat.le_of_ble_eq_true rfl⟩, fun k9 hk9 => ?_⟩; (simp only [Nat.reduceAdd] at hk9); subst hk9)
 | (refine ⟨⟨by decide, Nat.le_of_ble_eq_true rfl, Nat.le_of_ble_eq_true rfl⟩, fun k9 hk9 => ?_⟩; (simp only [Nat.reduceAdd] at hk9); subst hk9)
 | (refine ab_inl rfl rfl ?_)
 | (refine ab_rn rfl ?_)
 | (apply i_get; (focus (first | exact rfl | (simp (disch := omega) only [ab_set, ab_hK, ab_up_ne, ab_up_self, ab_tI, ab_c0, ab_nd_lt, Int.toNat_natCast, Int.toNat_of_nonneg, not_true_eq_false, not_false_eq_true, hp_F_s0, hp_F_s1, hp_F_s2, hp_F_s3, hp_F_s4, hp_F_p0, hp_F_p1, hp_F_p2] <;> rfl))); (focus (exact rfl)))
 | (apply i_put; (focus (first | exact rfl | (simp (disch := omega) only [ab_set, ab_hK, ab_up_ne, ab_up_self, ab_tI, ab_c0, ab_nd_lt, Int.toNat_natCast, Int.toNat_of_nonneg, not_true_eq_false, not_false_eq_true, hp_F_s0, hp_F_s1, hp_F_s2, hp_F_s3, hp_F_s4, hp_F_p0, hp_F_p1, hp_F_p2] <;> rfl))); (focus (exact rfl)); (focus (first | exact trivial | exact Or.inl rfl | exact Or.inr rfl)))
 | (apply i_cv; (focus (first | exact rfl | (simp (disch := omega) only [ab_set, ab_hK, ab_up_ne, ab_up_self, ab_tI, ab_c0, ab_nd_lt, Int.toNat_natCast, Int.toNat_of_nonneg, not_true_eq_false, not_false_eq_true, hp_F_s0, hp_F_s1, hp_F_s2, hp_F_s3, hp_F_s4, hp_F_p0, hp_F_p1, hp_F_p2] <;> rfl))))
 | (apply i_ial; (focus (first | exact rfl | (simp (disch := omega) only [ab_set, ab_hK, ab_up_ne, ab_up_self, ab_tI, ab_c0, ab_nd_lt, Int.toNat_natCast, Int.toNat_of_nonneg, not_true_eq_false, not_false_eq_true, hp_F_s0, hp_F_s1, hp_F_s2, hp_F_s3, hp_F_s4, hp_F_p0, hp_F_p1, hp_F_p2] <;> rfl))); (focus (first | exact Or.inl rfl | exact Or.inr rfl)); (focus (first | exact ⟨by decide, by decide⟩ | ((try simp (disch := omega) only [ab_tI, ab_c0, ab_nd_lt, Int.toNat_natCast, Int.toNat_of_nonneg, not_true_eq_false, not_false_eq_true]); omega))))
 | (apply i_aal; (focus (first | exact rfl | (simp (disch := omega) only [ab_set, ab_hK, ab_up_ne, ab_up_self, ab_tI, ab_c0, ab_nd_lt, Int.toNat_natCast, Int.toNat_of_nonneg, not_true_eq_false, not_false_eq_true, hp_F_s0, hp_F_s1, hp_F_s2, hp_F_s3, hp_F_s4, hp_F_p0, hp_F_p1, hp_F_p2] <;> rfl))); (focus (first | exact ⟨by decide, by decide⟩ | ((try simp (disch := omega) only [ab_tI, ab_c0, ab_nd_lt, Int.toNat_natCast, Int.toNat_of_nonneg, not_true_eq_false, not_false_eq_true]); omega))))
 | (apply i_ias; (focus (first | exact rfl | (simp (disch := omega) only [ab_set, ab_hK, ab_up_ne, ab_up_self, ab_tI, ab_c0, ab_nd_lt, Int.toNat_natCast, Int.toNat_of_nonneg, not_true_eq_false, not_false_eq_true, hp_F_s0, hp_F_s1, hp_F_s2, hp_F_s3, hp_F_s4, hp_F_p0, hp_F_p1, hp_F_p2] <;> rfl))); (focus (first | exact ⟨by decide, by decide⟩ | ((try simp (disch := omega) only [ab_tI, ab_c0, ab_nd_lt, Int.toNat_natCast, Int.toNat_of_nonneg, not_true_eq_false, not_false_eq_true]); omega))))
 | (apply i_aas; (focus (first | exact rfl | (simp (disch := omega) only [ab_set, ab_hK, ab_up_ne, ab_up_self, ab_tI, ab_c0, ab_nd_lt, Int.toNat_natCast, Int.toNat_of_nonneg, not_true_eq_false, not_false_eq_true, hp_F_s0, hp_F_s1, hp_F_s2, hp_F_s3, hp_F_s4, hp_F_p0, hp_F_p1, hp_F_p2] <;> rfl))); (focus (first | exact ⟨by decide, by decide⟩ | ((try simp (disch := omega) only [ab_tI, ab_c0, ab_nd_lt, Int.toNat_natCast, Int.toNat_of_nonneg, not_true_eq_false, not_false_eq_true]); omega))); (focus (intro w hw; cases hw; exact ⟨_, rfl⟩)))
 | (apply i_bal; (focus (first | exact rfl | (simp (disch := omega) only [ab_set, ab_hK, ab_up_ne, ab_up_self, ab_tI, ab_c0, ab_nd_lt, Int.toNat_natCast, Int.toNat_of_nonneg, not_true_eq_false, not_false_eq_true, hp_F_s0, hp_F_s1, hp_F_s2, hp_F_s3, hp_F_s4, hp_F_p0, hp_F_p1, hp_F_p2] <;> rfl))); (focus (first | exact ⟨by decide, by decide⟩ | ((try simp (disch := omega) only [ab_tI, ab_c0, ab_nd_lt, Int.toNat_natCast, Int.toNat_of_nonneg, not_true_eq_false, not_false_eq_true]); omega))))
 | (apply i_bas; (focus (first | exact rfl | (simp (disch := omega) only [ab_set, ab_hK, ab_up_ne, ab_up_self, ab_tI, ab_c0, ab_nd_lt, Int.toNat_natCast, Int.toNat_of_nonneg, not_true_eq_false, not_false_eq_true, hp_F_s0, hp_F_s1, hp_F_s2, hp_F_s3, hp_F_s4, hp_F_p0, hp_F_p1, hp_F_p2] <;> rfl))); (focus (first | exact ⟨by decide, by decide⟩ | ((try simp (disch := omega) only [ab_tI, ab_c0, ab_nd_lt, Int.toNat_natCast, Int.toNat_of_nonneg, not_true_eq_false, not_false_eq_true]); omega))); (focus (first | exact Or.inl rfl | exact Or.inr rfl)))
 | (apply i_len; (focus (first | exact rfl | (simp (disch := omega) only [ab_set, ab_hK, ab_up_ne, ab_up_self, ab_tI, ab_c0, ab_nd_lt, Int.toNat_natCast, Int.toNat_of_nonneg, not_true_eq_false, not_false_eq_true, hp_F_s0, hp_F_s1, hp_F_s2, hp_F_s3, hp_F_s4, hp_F_p0, hp_F_p1, hp_F_p2] <;> rfl))))
 | (refine i_brF (by decide) ?_)
 | (refine i_brT (by decide) ?_)
 | (refine ⟨fun hc => ?_, fun hc => ?_⟩ <;> (try simp (disch := omega) only [ab_tI, ab_c0, ab_nd_lt, Int.toNat_natCast, Int.toNat_of_nonneg, not_true_eq_false, not_false_eq_true] at hc) <;> first | (exfalso; omega) | skip)
 | (refine ⟨trivial, ?_⟩) | (refine ⟨Or.inl rfl, ?_⟩) | (refine ⟨Or.inr rfl, ?_⟩)
 | (simp (disch := omega) only [ab_up_self, ab_up_ne])
 | fail)
  all_goals (refine hQ _ _ ?_ ?_)
  all_goals first
  | ((try simp (disch := omega) only [ab_tI, ab_c0, ab_nd_lt, Int.toNat_natCast, Int.toNat_of_nonneg, not_true_eq_false, not_false_eq_true, ab_l0, ab_l1, ab_lN, ab_li]); unfold an_path; omega)
  | (refine ⟨fun q h1 h2 => ?_, ?_⟩ <;> (simp (disch := omega) only [ab_set, ab_hK, ab_up_ne, ab_up_self]; done))
  | (trace_state; fail)
set_option maxHeartbeats 400000000 in
set_option maxRecDepth 100000 in
theorem c_join (L : Nat) (xs : Nat → Int32) (a b : Int32) (Q : ab_Q) (hQ : ∀ (r : Int32) h', an_join a.toInt b.toInt r.toInt → p1_keep L xs h' → Q (some (.inl r)) h') : ab_CT 2047 iX11_join [.inr (.inr (some 0)), .inl a, .inl b] (ab_hK L xs) Q := by
  refine ab_inl rfl rfl ?_
  repeat' ((conv => whnf); first
 | (refine ⟨⟨Nat.le_of_ble_eq_true rfl, Nat.le_of_ble_eq_true rfl⟩, fun k9 hk9 => ?_⟩; (simp only [Nat.reduceAdd] at hk9); subst hk9)
 | (refine ⟨⟨by decide, Nat.le_of_ble_eq_true rfl, Nat.le_of_ble_eq_true rfl⟩, fun k9 hk9 => ?_⟩; (simp only [Nat.reduceAdd] at hk9); subst hk9)
 | (refine ab_inl rfl rfl ?_)
 | (refine ab_rn rfl ?_)
 | (apply i_get; (focus (first | exact rfl | (simp (disch := omega) only [ab_set, ab_hK, ab_up_ne, ab_up_self, ab_tI, ab_c0, ab_nd_lt, Int.toNat_natCast, Int.toNat_of_nonneg, not_true_eq_false, not_false_eq_true, hp_F_s0, hp_F_s1, hp_F_s2, hp_F_s3, hp_F_s4, hp_F_p0, hp_F_p1, hp_F_p2] <;> rfl))); (focus (exact rfl)))
 | (apply i_put; (focus (first | exact rfl | (simp (disch := omega) only [ab_set, ab_hK, ab_up_ne, ab_up_self, ab_tI, ab_c0, ab_nd_lt, Int.toNat_natCast, Int.toNat_of_nonneg, not_true_eq_false, not_false_eq_true, hp_F_s0, hp_F_s1, hp_F_s2, hp_F_s3, hp_F_s4, hp_F_p0, hp_F_p1, hp_F_p2] <;> rfl))); (focus (exact rfl)); (focus (first | exact trivial | exact Or.inl rfl | exact Or.inr rfl)))
 | (apply i_cv; (focus (first | exact rfl | (simp (disch := omega) only [ab_set, ab_hK, ab_up_ne, ab_up_self, ab_tI, ab_c0, ab_nd_lt, Int.toNat_natCast, Int.toNat_of_nonneg, not_true_eq_false, not_false_eq_true, hp_F_s0, hp_F_s1, hp_F_s2, hp_F_s3, hp_F_s4, hp_F_p0, hp_F_p1, hp_F_p2] <;> rfl))))
 | (apply i_ial; (focus (first | exact rfl | (simp (disch := omega) only [ab_set, ab_hK, ab_up_ne, ab_up_self, ab_tI, ab_c0, ab_nd_lt, Int.toNat_natCast, Int.toNat_of_nonneg, not_true_eq_false, not_false_eq_true, hp_F_s0, hp_F_s1, hp_F_s2, hp_F_s3, hp_F_s4, hp_F_p0, hp_F_p1, hp_F_p2] <;> rfl))); (focus (first | exact Or.inl rfl | exact Or.inr rfl)); (focus (first | exact ⟨by decide, by decide⟩ | ((try simp (disch := omega) only [ab_tI, ab_c0, ab_nd_lt, Int.toNat_natCast, Int.toNat_of_nonneg, not_true_eq_false, not_false_eq_true]); omega))))
 | (apply i_aal; (focus (first | exact rfl | (simp (disch := omega) only [ab_set, ab_hK, ab_up_ne, ab_up_self, ab_tI, ab_c0, ab_nd_lt, Int.toNat_natCast, Int.toNat_of_nonneg, not_true_eq_false, not_false_eq_true, hp_F_s0, hp_F_s1, hp_F_s2, hp_F_s3, hp_F_s4, hp_F_p0, hp_F_p1, hp_F_p2] <;> rfl))); (focus (first | exact ⟨by decide, by decide⟩ | ((try simp (disch := omega) only [ab_tI, ab_c0, ab_nd_lt, Int.toNat_natCast, Int.toNat_of_nonneg, not_true_eq_false, not_false_eq_true]); omega))))
 | (apply i_ias; (focus (first | exact rfl | (simp (disch := omega) only [ab_set, ab_hK, ab_up_ne, ab_up_self, ab_tI, ab_c0, ab_nd_lt, Int.toNat_natCast, Int.toNat_of_nonneg, not_true_eq_false, not_false_eq_true, hp_F_s0, hp_F_s1, hp_F_s2, hp_F_s3, hp_F_s4, hp_F_p0, hp_F_p1, hp_F_p2] <;> rfl))); (focus (first | exact ⟨by decide, by decide⟩ | ((try simp (disch := omega) only [ab_tI, ab_c0, ab_nd_lt, Int.toNat_natCast, Int.toNat_of_nonneg, not_true_eq_false, not_false_eq_true]); omega))))
 | (apply i_aas; (focus (first | exact rfl | (simp (disch := omega) only [ab_set, ab_hK, ab_up_ne, ab_up_self, ab_tI, ab_c0, ab_nd_lt, Int.toNat_natCast, Int.toNat_of_nonneg, not_true_eq_false, not_false_eq_true, hp_F_s0, hp_F_s1, hp_F_s2, hp_F_s3, hp_F_s4, hp_F_p0, hp_F_p1, hp_F_p2] <;> rfl))); (focus (first | exact ⟨by decide, by decide⟩ | ((try simp (disch := omega) only [ab_tI, ab_c0, ab_nd_lt, Int.toNat_natCast, Int.toNat_of_nonneg, not_true_eq_false, not_false_eq_true]); omega))); (focus (intro w hw; cases hw; exact ⟨_, rfl⟩)))
 | (apply i_bal; (focus (first | exact rfl | (simp (disch := omega) only [ab_set, ab_hK, ab_up_ne, ab_up_self, ab_tI, ab_c0, ab_nd_lt, Int.toNat_natCast, Int.toNat_of_nonneg, not_true_eq_false, not_false_eq_true, hp_F_s0, hp_F_s1, hp_F_s2, hp_F_s3, hp_F_s4, hp_F_p0, hp_F_p1, hp_F_p2] <;> rfl))); (focus (first | exact ⟨by decide, by decide⟩ | ((try simp (disch := omega) only [ab_tI, ab_c0, ab_nd_lt, Int.toNat_natCast, Int.toNat_of_nonneg, not_true_eq_false, not_false_eq_true]); omega))))
 | (apply i_bas; (focus (first | exact rfl | (simp (disch := omega) only [ab_set, ab_hK, ab_up_ne, ab_up_self, ab_tI, ab_c0, ab_nd_lt, Int.toNat_natCast, Int.toNat_of_nonneg, not_true_eq_false, not_false_eq_true, hp_F_s0, hp_F_s1, hp_F_s2, hp_F_s3, hp_F_s4, hp_F_p0, hp_F_p1, hp_F_p2] <;> rfl))); (focus (first | exact ⟨by decide, by decide⟩ | ((try simp (disch := omega) only [ab_tI, ab_c0, ab_nd_lt, Int.toNat_natCast, Int.toNat_of_nonneg, not_true_eq_false, not_false_eq_true]); omega))); (focus (first | exact Or.inl rfl | exact Or.inr rfl)))
 | (apply i_len; (focus (first | exact rfl | (simp (disch := omega) only [ab_set, ab_hK, ab_up_ne, ab_up_self, ab_tI, ab_c0, ab_nd_lt, Int.toNat_natCast, Int.toNat_of_nonneg, not_true_eq_false, not_false_eq_true, hp_F_s0, hp_F_s1, hp_F_s2, hp_F_s3, hp_F_s4, hp_F_p0, hp_F_p1, hp_F_p2] <;> rfl))))
 | (refine i_brF (by decide) ?_)
 | (refine i_brT (by decide) ?_)
 | (refine ⟨fun hc => ?_, fun hc => ?_⟩ <;> (try simp (disch := omega) only [ab_tI, ab_c0, ab_nd_lt, Int.toNat_natCast, Int.toNat_of_nonneg, not_true_eq_false, not_false_eq_true] at hc) <;> first | (exfalso; omega) | skip)
 | (refine ⟨trivial, ?_⟩) | (refine ⟨Or.inl rfl, ?_⟩) | (refine ⟨Or.inr rfl, ?_⟩)
 | (simp (disch := omega) only [ab_up_self, ab_up_ne])
 | fail)
  all_goals (refine hQ _ _ ?_ ?_)
  all_goals first
  | ((try simp (disch := omega) only [ab_tI, ab_c0, ab_nd_lt, Int.toNat_natCast, Int.toNat_of_nonneg, not_true_eq_false, not_false_eq_true, ab_l0, ab_l1, ab_lN, ab_li]); unfold an_join; omega)
  | (refine ⟨fun q h1 h2 => ?_, ?_⟩ <;> (simp (disch := omega) only [ab_set, ab_hK, ab_up_ne, ab_up_self]; done))
  | (trace_state; fail)
