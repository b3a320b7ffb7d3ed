section
/-! ===== the reference: fit (own text) ===== -/
def m_alk (M : wd_I) (l : List Int32) (v : Int32) : Nat → Int32
  | 0 => ab_ii 1
  | j + 1 => if ¬ (m_alk M l v j).toInt = 0 ∧ m_cmp M 13 (l.getD j 0) v = 0 then ab_ii 1 else ab_ii 0
theorem m_alk_b {M : wd_I} {l : List Int32} {v : Int32} : ∀ j, (m_alk M l v j).toInt = 0 ∨ (m_alk M l v j).toInt = 1
  | 0 => Or.inr rfl
  | j + 1 => by
    unfold m_alk
    split
    · exact Or.inr rfl
    · exact Or.inl rfl

set_option maxHeartbeats 4000000 in
set_option maxRecDepth 100000 in
theorem x_fit_l {d : Nat} (hd : 14 ≤ d) {I : wd_I} {P : wd_P} {M : wd_I} {g : Nat → ab_C} {k z : Nat} {n : Int} {l : List Int32} (hl : m_lst M l n) (hn31 : M 102 31 = ab_ii (l.length : Int)) {s p w bf many first ft v : Int32} (hw : 0 ≤ w.toInt ∧ w.toInt ≤ 11) (hv : M 110 w.toInt.toNat = v) (hv0 : 0 ≤ v.toInt ∧ v.toInt < n) {Q : ab_Q} (hK : ab_WB d 193 Q 174 [(0, wd_v 102), (1, .inl s), (2, .inl p), (3, .inl w), (4, .inl bf), (5, .inl many), (6, .inl first), (7, .inl ft), (8, .inl (m_alk M l v l.length))] [] (wd I P M g, k, z)) : ∀ m j, j + m = l.length → ab_WB d 193 Q 127 [(0, wd_v 102), (1, .inl s), (2, .inl p), (3, .inl w), (4, .inl bf), (5, .inl many), (6, .inl first), (7, .inl ft), (8, .inl (m_alk M l v j)), (9, .inl (ab_ii (j : Int)))] [] (wd I P M g, k, z)
  | 0, j, hj => by
    have e : j = l.length := by omega
    subst e
    have hl2 := hl.2.1
    have hat := hl.2.2.1
    refine wd_rnC rfl ?_
    intro C9 X9 hC9 hX9
    (have chk9 := @hat; clear chk9); (have chk9 := @hn31; clear chk9); repeat' ((conv => whnf); first
    | (refine hX9 174 _ _ _ (ab_WB_sub ?_ hK); (repeat (first | exact ab_sub0 | (refine ab_sub1 ?_ ?_; (focus ((repeat (refine ab_skip rfl ?_)); first | exact List.mem_cons_self))))))
    | (intro v9 hv9; (try simp (disch := omega) only [ab_tI, ab_c0, wd_ix12, wd_ix8, wd_ix10, wd_up_self, wd_up_eq, wd_up_ne, Int.toNat_natCast, Int.toNat_of_nonneg, not_true_eq_false, not_false_eq_true, Option.some.injEq, hat, hn31] at hv9); subst hv9)
    | (apply i_get; (focus (exact rfl)); (focus (exact rfl)))
    | (refine hX9 _ _ _ _ (wd_rnC rfl ?_); clear hC9 hX9 X9 C9; intro C9 X9 hC9 hX9)
    | (apply w_ialM; (focus (exact rfl)); (focus (exact (by first | exact ⟨by decide, by decide⟩ | ((try simp (disch := omega) only [ab_tI, ab_c0, wd_ix12, wd_ix8, wd_ix10, wd_up_self, wd_up_eq, wd_up_ne, Int.toNat_natCast, Int.toNat_of_nonneg, not_true_eq_false, not_false_eq_true, Option.some.injEq, hat, hn31, wd_l103, wd_l104, wd_l105, wd_l106, wd_l107, wd_l108, wd_l109, wd_l110, wd_l111, wd_l112, wd_l113, wd_l114, wd_l115, wd_l116, wd_l117, wd_l118, wd_l119, wd_l120, wd_l121, wd_l122, wd_l123, wd_l124]); omega)))); (intro v9 hv9; (try simp (disch := omega) only [ab_tI, ab_c0, wd_ix12, wd_ix8, wd_ix10, wd_up_self, wd_up_eq, wd_up_ne, Int.toNat_natCast, Int.toNat_of_nonneg, not_true_eq_false, not_false_eq_true, Option.some.injEq, hat, hn31] at hv9); subst hv9))
    | (apply w_putM; (focus (exact rfl)); (focus (first | exact trivial | exact Or.inl rfl | exact Or.inr rfl)); (focus (exact rfl)))
    | (apply w_iasM; (focus (exact rfl)); (focus (exact (by first | exact ⟨by decide, by decide⟩ | ((try simp (disch := omega) only [ab_tI, ab_c0, wd_ix12, wd_ix8, wd_ix10, wd_up_self, wd_up_eq, wd_up_ne, Int.toNat_natCast, Int.toNat_of_nonneg, not_true_eq_false, not_false_eq_true, Option.some.injEq, hat, hn31, wd_l103, wd_l104, wd_l105, wd_l106, wd_l107, wd_l108, wd_l109, wd_l110, wd_l111, wd_l112, wd_l113, wd_l114, wd_l115, wd_l116, wd_l117, wd_l118, wd_l119, wd_l120, wd_l121, wd_l122, wd_l123, wd_l124]); omega)))); (intro v9 hv9; (try simp (disch := omega) only [ab_tI, ab_c0, wd_ix12, wd_ix8, wd_ix10, wd_up_self, wd_up_eq, wd_up_ne, Int.toNat_natCast, Int.toNat_of_nonneg, not_true_eq_false, not_false_eq_true, Option.some.injEq, hat, hn31] at hv9); subst hv9))
    | (refine i_brF (by decide) ?_)
    | (refine i_brT (by decide) ?_)
    | (refine ⟨fun hc => ?_, fun hc => ?_⟩ <;> (try simp (disch := omega) only [ab_tI, ab_c0, wd_ix12, wd_ix8, wd_ix10, wd_up_self, wd_up_eq, wd_up_ne, Int.toNat_natCast, Int.toNat_of_nonneg, not_true_eq_false, not_false_eq_true, Option.some.injEq, hat, hn31] at hc) <;> first | (exfalso; omega) | skip)
    | (apply i_cv; (focus (exact rfl)))
    | (apply w_balM; (focus (exact (by first | exact ⟨by decide, by decide⟩ | ((try simp (disch := omega) only [ab_tI, ab_c0, wd_ix12, wd_ix8, wd_ix10, wd_up_self, wd_up_eq, wd_up_ne, Int.toNat_natCast, Int.toNat_of_nonneg, not_true_eq_false, not_false_eq_true, Option.some.injEq, hat, hn31, wd_l103, wd_l104, wd_l105, wd_l106, wd_l107, wd_l108, wd_l109, wd_l110, wd_l111, wd_l112, wd_l113, wd_l114, wd_l115, wd_l116, wd_l117, wd_l118, wd_l119, wd_l120, wd_l121, wd_l122, wd_l123, wd_l124]); omega)))); (intro v9 hv9; (try simp (disch := omega) only [ab_tI, ab_c0, wd_ix12, wd_ix8, wd_ix10, wd_up_self, wd_up_eq, wd_up_ne, Int.toNat_natCast, Int.toNat_of_nonneg, not_true_eq_false, not_false_eq_true, Option.some.injEq, hat, hn31] at hv9); subst hv9))
    | (apply w_basM; (focus (exact (by first | exact ⟨by decide, by decide⟩ | ((try simp (disch := omega) only [ab_tI, ab_c0, wd_ix12, wd_ix8, wd_ix10, wd_up_self, wd_up_eq, wd_up_ne, Int.toNat_natCast, Int.toNat_of_nonneg, not_true_eq_false, not_false_eq_true, Option.some.injEq, hat, hn31, wd_l103, wd_l104, wd_l105, wd_l106, wd_l107, wd_l108, wd_l109, wd_l110, wd_l111, wd_l112, wd_l113, wd_l114, wd_l115, wd_l116, wd_l117, wd_l118, wd_l119, wd_l120, wd_l121, wd_l122, wd_l123, wd_l124]); omega)))); (focus (first | exact Or.inl rfl | exact Or.inr rfl)); (intro v9 hv9; (try simp (disch := omega) only [ab_tI, ab_c0, wd_ix12, wd_ix8, wd_ix10, wd_up_self, wd_up_eq, wd_up_ne, Int.toNat_natCast, Int.toNat_of_nonneg, not_true_eq_false, not_false_eq_true, Option.some.injEq, hat, hn31] at hv9); subst hv9))
    | (refine And.intro trivial ?_)
    | (refine And.intro (Or.inl rfl) ?_)
    | (refine And.intro (Or.inr rfl) ?_)
    | (refine And.intro (by ((try simp (disch := omega) only [ab_tI, ab_c0, wd_ix12, wd_ix8, wd_ix10, wd_up_self, wd_up_eq, wd_up_ne, Int.toNat_natCast, Int.toNat_of_nonneg, not_true_eq_false, not_false_eq_true, Option.some.injEq, hat, hn31]); omega)) ?_)
    | fail)
  | m + 1, j, hj => by
    have ih := x_fit_l hd hl hn31 hw hv hv0 hK m (j + 1) (by omega)
    have hl2 := hl.2.1
    have hat := hl.2.2.1
    have hjl : j < l.length := by omega
    have hb := m_cmp_b (M := M) 13 (l.getD j 0) v
    have hin := hl.2.2.2 j hjl
    have hal := m_alk_b (M := M) (l := l) (v := v) j
    refine wd_rnC rfl ?_
    intro C9 X9 hC9 hX9
    (have chk9 := @hat; clear chk9); (have chk9 := @hn31; clear chk9); (have chk9 := @hv; clear chk9); repeat' ((conv => whnf); first
    | (refine hX9 127 _ _ _ (ab_WB_sub ?_ ih); (repeat (first | exact ab_sub0 | (refine ab_sub1 ?_ ?_; (focus ((repeat (refine ab_skip rfl ?_)); first | (rw [m_alk, if_pos (by omega)]; exact List.mem_cons_self) | (rw [m_alk, if_neg (by omega)]; exact List.mem_cons_self) | exact List.mem_cons_self))))))
    | (refine hC9 140 _ _ _ (x_compared hl.1 13 _ (by omega) _ _ _ hin.1 hin.2 hv0.1 hv0.2 (m_ht13 hl.1 hin.1 hin.2) ?_))
    | (intro v9 hv9; (try simp (disch := omega) only [ab_tI, ab_c0, wd_ix12, wd_ix8, wd_ix10, wd_up_self, wd_up_eq, wd_up_ne, Int.toNat_natCast, Int.toNat_of_nonneg, not_true_eq_false, not_false_eq_true, Option.some.injEq, hat, hn31, hv] at hv9); subst hv9)
    | (apply i_get; (focus (exact rfl)); (focus (exact rfl)))
    | (refine hX9 _ _ _ _ (wd_rnC rfl ?_); clear hC9 hX9 X9 C9; intro C9 X9 hC9 hX9)
    | (apply w_ialM; (focus (exact rfl)); (focus (exact (by first | exact ⟨by decide, by decide⟩ | ((try simp (disch := omega) only [ab_tI, ab_c0, wd_ix12, wd_ix8, wd_ix10, wd_up_self, wd_up_eq, wd_up_ne, Int.toNat_natCast, Int.toNat_of_nonneg, not_true_eq_false, not_false_eq_true, Option.some.injEq, hat, hn31, hv, wd_l103, wd_l104, wd_l105, wd_l106, wd_l107, wd_l108, wd_l109, wd_l110, wd_l111, wd_l112, wd_l113, wd_l114, wd_l115, wd_l116, wd_l117, wd_l118, wd_l119, wd_l120, wd_l121, wd_l122, wd_l123, wd_l124]); omega)))); (intro v9 hv9; (try simp (disch := omega) only [ab_tI, ab_c0, wd_ix12, wd_ix8, wd_ix10, wd_up_self, wd_up_eq, wd_up_ne, Int.toNat_natCast, Int.toNat_of_nonneg, not_true_eq_false, not_false_eq_true, Option.some.injEq, hat, hn31, hv] at hv9); subst hv9))
    | (apply w_putM; (focus (exact rfl)); (focus (first | exact trivial | exact Or.inl rfl | exact Or.inr rfl)); (focus (exact rfl)))
    | (apply w_iasM; (focus (exact rfl)); (focus (exact (by first | exact ⟨by decide, by decide⟩ | ((try simp (disch := omega) only [ab_tI, ab_c0, wd_ix12, wd_ix8, wd_ix10, wd_up_self, wd_up_eq, wd_up_ne, Int.toNat_natCast, Int.toNat_of_nonneg, not_true_eq_false, not_false_eq_true, Option.some.injEq, hat, hn31, hv, wd_l103, wd_l104, wd_l105, wd_l106, wd_l107, wd_l108, wd_l109, wd_l110, wd_l111, wd_l112, wd_l113, wd_l114, wd_l115, wd_l116, wd_l117, wd_l118, wd_l119, wd_l120, wd_l121, wd_l122, wd_l123, wd_l124]); omega)))); (intro v9 hv9; (try simp (disch := omega) only [ab_tI, ab_c0, wd_ix12, wd_ix8, wd_ix10, wd_up_self, wd_up_eq, wd_up_ne, Int.toNat_natCast, Int.toNat_of_nonneg, not_true_eq_false, not_false_eq_true, Option.some.injEq, hat, hn31, hv] at hv9); subst hv9))
    | (refine i_brF (by decide) ?_)
    | (refine i_brT (by decide) ?_)
    | (refine ⟨fun hc => ?_, fun hc => ?_⟩ <;> (try simp (disch := omega) only [ab_tI, ab_c0, wd_ix12, wd_ix8, wd_ix10, wd_up_self, wd_up_eq, wd_up_ne, Int.toNat_natCast, Int.toNat_of_nonneg, not_true_eq_false, not_false_eq_true, Option.some.injEq, hat, hn31, hv] at hc) <;> first | (exfalso; omega) | skip)
    | (apply i_cv; (focus (exact rfl)))
    | (apply w_balM; (focus (exact (by first | exact ⟨by decide, by decide⟩ | ((try simp (disch := omega) only [ab_tI, ab_c0, wd_ix12, wd_ix8, wd_ix10, wd_up_self, wd_up_eq, wd_up_ne, Int.toNat_natCast, Int.toNat_of_nonneg, not_true_eq_false, not_false_eq_true, Option.some.injEq, hat, hn31, hv, wd_l103, wd_l104, wd_l105, wd_l106, wd_l107, wd_l108, wd_l109, wd_l110, wd_l111, wd_l112, wd_l113, wd_l114, wd_l115, wd_l116, wd_l117, wd_l118, wd_l119, wd_l120, wd_l121, wd_l122, wd_l123, wd_l124]); omega)))); (intro v9 hv9; (try simp (disch := omega) only [ab_tI, ab_c0, wd_ix12, wd_ix8, wd_ix10, wd_up_self, wd_up_eq, wd_up_ne, Int.toNat_natCast, Int.toNat_of_nonneg, not_true_eq_false, not_false_eq_true, Option.some.injEq, hat, hn31, hv] at hv9); subst hv9))
    | (apply w_basM; (focus (exact (by first | exact ⟨by decide, by decide⟩ | ((try simp (disch := omega) only [ab_tI, ab_c0, wd_ix12, wd_ix8, wd_ix10, wd_up_self, wd_up_eq, wd_up_ne, Int.toNat_natCast, Int.toNat_of_nonneg, not_true_eq_false, not_false_eq_true, Option.some.injEq, hat, hn31, hv, wd_l103, wd_l104, wd_l105, wd_l106, wd_l107, wd_l108, wd_l109, wd_l110, wd_l111, wd_l112, wd_l113, wd_l114, wd_l115, wd_l116, wd_l117, wd_l118, wd_l119, wd_l120, wd_l121, wd_l122, wd_l123, wd_l124]); omega)))); (focus (first | exact Or.inl rfl | exact Or.inr rfl)); (intro v9 hv9; (try simp (disch := omega) only [ab_tI, ab_c0, wd_ix12, wd_ix8, wd_ix10, wd_up_self, wd_up_eq, wd_up_ne, Int.toNat_natCast, Int.toNat_of_nonneg, not_true_eq_false, not_false_eq_true, Option.some.injEq, hat, hn31, hv] at hv9); subst hv9))
    | (refine And.intro trivial ?_)
    | (refine And.intro (Or.inl rfl) ?_)
    | (refine And.intro (Or.inr rfl) ?_)
    | (refine And.intro (by ((try simp (disch := omega) only [ab_tI, ab_c0, wd_ix12, wd_ix8, wd_ix10, wd_up_self, wd_up_eq, wd_up_ne, Int.toNat_natCast, Int.toNat_of_nonneg, not_true_eq_false, not_false_eq_true, Option.some.injEq, hat, hn31, hv]); omega)) ?_)
    | fail)

def m_fitv (ft is : Int32) (c : Int) : Int32 := ab_ii (ft.toInt + (if is.toInt = 0 then 0 else 2) + (if c = 0 then 4 else 0))
set_option maxHeartbeats 4000000 in
set_option maxRecDepth 100000 in
theorem x_fit_2 {d : Nat} (hd : 41 ≤ d) {I : wd_I} {P : wd_P} {M : wd_I} {g : Nat → ab_C} {k z : Nat} {s p w bf many first ft is : Int32} {Q : ab_Q} (hT : m_T M (M 102 8).toInt) (hcop : m_cop (M 102 8).toInt M (ab_ii 7) w) (hph : m_ph M p) (hf0 : 0 ≤ first.toInt ∧ first.toInt < (M 102 8).toInt) (hft : ft.toInt = 0 ∨ ft.toInt = 1)
    (hN : ¬ ((m_co M first p (ab_ii 7) w).1 102 36).toInt = 0 → Q (some (.inl (ab_ii (-17)))) (wd I P (wd_up (m_co M first p (ab_ii 7) w).1 102 8 bf) g, k, z))
    (hF : ((m_co M first p (ab_ii 7) w).1 102 36).toInt = 0 → (200 < ((m_co M first p (ab_ii 7) w).1 106 (m_co M first p (ab_ii 7) w).2.toInt.toNat).toInt ∨ 12 < ((m_co M first p (ab_ii 7) w).1 107 (m_co M first p (ab_ii 7) w).2.toInt.toNat).toInt) → Q (some (.inl (ab_ii (-4)))) (wd I P (wd_up (m_co M first p (ab_ii 7) w).1 102 8 bf) g, k, z))
    (hD : ((m_co M first p (ab_ii 7) w).1 102 36).toInt = 0 → ((m_co M first p (ab_ii 7) w).1 106 (m_co M first p (ab_ii 7) w).2.toInt.toNat).toInt ≤ 200 → ((m_co M first p (ab_ii 7) w).1 107 (m_co M first p (ab_ii 7) w).2.toInt.toNat).toInt ≤ 12 → Q (some (.inl (m_fitv ft is (m_cmp (m_co M first p (ab_ii 7) w).1 13 first (m_co M first p (ab_ii 7) w).2)))) (wd I P (wd_up (m_co M first p (ab_ii 7) w).1 102 8 bf) g, k, z)) : ab_WB d 193 Q 174 [(0, wd_v 102), (1, .inl s), (2, .inl p), (3, .inl w), (4, .inl bf), (5, .inl many), (6, .inl first), (7, .inl ft), (8, .inl is)] [] (wd I P M g, k, z) := by
  have hgd := m_co_good (p := p) hcop hf0.1 hf0.2
  have hTN := m_co_T (p := p) hcop hT hf0.1 hf0.2
  have hco := fun Q hQ => x_comesOf (d := d - 1) (by omega) (I := I) (P := P) (g := g) (k := k) (z := z) (Q := Q) hcop hph hf0.1 hf0.2 hQ
  unfold m_cor at hco
  generalize m_co M first p (ab_ii 7) w = R at *
  obtain ⟨N, r⟩ := R
  dsimp only at *
  obtain ⟨g1, g2, g3, g4, g5⟩ := hgd
  change m_rm N at g2
  change (m_co0 M p (ab_ii 7) w 102 8).toInt ≤ (N 102 8).toInt at g3
  change 0 ≤ r.toInt at g4
  change r.toInt < (N 102 8).toInt at g5
  rw [m_co0_n (by decide)] at g3
  obtain ⟨q1, q2, q3⟩ := id g2
  have eN6 : wd_up N 102 8 bf 106 = N 106 := wd_up_row _ _ _ (by decide)
  have eN7 : wd_up N 102 8 bf 107 = N 107 := wd_up_row _ _ _ (by decide)
  by_cases hmd : (N 102 36).toInt = 0
  · rw [if_pos hmd] at hco
    by_cases hok : (N 106 r.toInt.toNat).toInt ≤ 200 ∧ (N 107 r.toInt.toNat).toInt ≤ 12
    · have hTN' := hTN hmd hok.1 hok.2
      have hb := m_cmp_b (M := N) 13 first r
      have hcm := fun Q hQ => x_compared (d := d - 1) hTN'.tb.1 (I := I) (P := P) (g := g) (k := k) (z := z) 13 (by omega) first r Q hf0.1 (by omega) g4 g5 (m_ht13 hTN'.tb.1 hf0.1 (by omega)) hQ
      have hD1 := hD hmd hok.1 hok.2
      unfold m_fitv at hD1
      refine wd_rnC rfl ?_
      intro C9 X9 hC9 hX9
      repeat' ((conv => whnf); first
    | (refine hC9 173 _ _ _ (hco _ ?_))
    | (refine hC9 139 _ _ _ (x_isFull (M := N) (by omega) g4 (by omega) (fun hc => ?_) (fun hc hc2 => ?_)))
    | (refine hC9 140 _ _ _ (hcm _ ?_))
    | (intro v9 hv9; (try simp (disch := omega) only [ab_tI, ab_c0, wd_ix12, wd_ix8, wd_ix10, wd_up_self, wd_up_eq, wd_up_ne, Int.toNat_natCast, Int.toNat_of_nonneg, not_true_eq_false, not_false_eq_true, Option.some.injEq] at hv9); subst hv9)
    | (apply i_get; (focus (exact rfl)); (focus (exact rfl)))
    | (refine hX9 _ _ _ _ (wd_rnC rfl ?_); clear hC9 hX9 X9 C9; intro C9 X9 hC9 hX9)
    | (apply w_ialM; (focus (exact rfl)); (focus (exact (by first | exact ⟨by decide, by decide⟩ | ((try simp (disch := omega) only [ab_tI, ab_c0, wd_ix12, wd_ix8, wd_ix10, wd_up_self, wd_up_eq, wd_up_ne, Int.toNat_natCast, Int.toNat_of_nonneg, not_true_eq_false, not_false_eq_true, Option.some.injEq, wd_l103, wd_l104, wd_l105, wd_l106, wd_l107, wd_l108, wd_l109, wd_l110, wd_l111, wd_l112, wd_l113, wd_l114, wd_l115, wd_l116, wd_l117, wd_l118, wd_l119, wd_l120, wd_l121, wd_l122, wd_l123, wd_l124]); omega)))); (intro v9 hv9; (try simp (disch := omega) only [ab_tI, ab_c0, wd_ix12, wd_ix8, wd_ix10, wd_up_self, wd_up_eq, wd_up_ne, Int.toNat_natCast, Int.toNat_of_nonneg, not_true_eq_false, not_false_eq_true, Option.some.injEq] at hv9); subst hv9))
    | (apply w_putM; (focus (exact rfl)); (focus (first | exact trivial | exact Or.inl rfl | exact Or.inr rfl)); (focus (exact rfl)))
    | (apply w_iasM; (focus (exact rfl)); (focus (exact (by first | exact ⟨by decide, by decide⟩ | ((try simp (disch := omega) only [ab_tI, ab_c0, wd_ix12, wd_ix8, wd_ix10, wd_up_self, wd_up_eq, wd_up_ne, Int.toNat_natCast, Int.toNat_of_nonneg, not_true_eq_false, not_false_eq_true, Option.some.injEq, wd_l103, wd_l104, wd_l105, wd_l106, wd_l107, wd_l108, wd_l109, wd_l110, wd_l111, wd_l112, wd_l113, wd_l114, wd_l115, wd_l116, wd_l117, wd_l118, wd_l119, wd_l120, wd_l121, wd_l122, wd_l123, wd_l124]); omega)))); (intro v9 hv9; (try simp (disch := omega) only [ab_tI, ab_c0, wd_ix12, wd_ix8, wd_ix10, wd_up_self, wd_up_eq, wd_up_ne, Int.toNat_natCast, Int.toNat_of_nonneg, not_true_eq_false, not_false_eq_true, Option.some.injEq] at hv9); subst hv9))
    | (refine i_brF (by decide) ?_)
    | (refine i_brT (by decide) ?_)
    | (refine ⟨fun hc => ?_, fun hc => ?_⟩ <;> (try simp (disch := omega) only [ab_tI, ab_c0, wd_ix12, wd_ix8, wd_ix10, wd_up_self, wd_up_eq, wd_up_ne, Int.toNat_natCast, Int.toNat_of_nonneg, not_true_eq_false, not_false_eq_true, Option.some.injEq] at hc) <;> first | (exfalso; omega) | skip)
    | (apply i_cv; (focus (exact rfl)))
    | (apply w_balM; (focus (exact (by first | exact ⟨by decide, by decide⟩ | ((try simp (disch := omega) only [ab_tI, ab_c0, wd_ix12, wd_ix8, wd_ix10, wd_up_self, wd_up_eq, wd_up_ne, Int.toNat_natCast, Int.toNat_of_nonneg, not_true_eq_false, not_false_eq_true, Option.some.injEq, wd_l103, wd_l104, wd_l105, wd_l106, wd_l107, wd_l108, wd_l109, wd_l110, wd_l111, wd_l112, wd_l113, wd_l114, wd_l115, wd_l116, wd_l117, wd_l118, wd_l119, wd_l120, wd_l121, wd_l122, wd_l123, wd_l124]); omega)))); (intro v9 hv9; (try simp (disch := omega) only [ab_tI, ab_c0, wd_ix12, wd_ix8, wd_ix10, wd_up_self, wd_up_eq, wd_up_ne, Int.toNat_natCast, Int.toNat_of_nonneg, not_true_eq_false, not_false_eq_true, Option.some.injEq] at hv9); subst hv9))
    | (apply w_basM; (focus (exact (by first | exact ⟨by decide, by decide⟩ | ((try simp (disch := omega) only [ab_tI, ab_c0, wd_ix12, wd_ix8, wd_ix10, wd_up_self, wd_up_eq, wd_up_ne, Int.toNat_natCast, Int.toNat_of_nonneg, not_true_eq_false, not_false_eq_true, Option.some.injEq, wd_l103, wd_l104, wd_l105, wd_l106, wd_l107, wd_l108, wd_l109, wd_l110, wd_l111, wd_l112, wd_l113, wd_l114, wd_l115, wd_l116, wd_l117, wd_l118, wd_l119, wd_l120, wd_l121, wd_l122, wd_l123, wd_l124]); omega)))); (focus (first | exact Or.inl rfl | exact Or.inr rfl)); (intro v9 hv9; (try simp (disch := omega) only [ab_tI, ab_c0, wd_ix12, wd_ix8, wd_ix10, wd_up_self, wd_up_eq, wd_up_ne, Int.toNat_natCast, Int.toNat_of_nonneg, not_true_eq_false, not_false_eq_true, Option.some.injEq] at hv9); subst hv9))
    | (refine And.intro trivial ?_)
    | (refine And.intro (Or.inl rfl) ?_)
    | (refine And.intro (Or.inr rfl) ?_)
    | (refine And.intro (by ((try simp (disch := omega) only [ab_tI, ab_c0, wd_ix12, wd_ix8, wd_ix10, wd_up_self, wd_up_eq, wd_up_ne, Int.toNat_natCast, Int.toNat_of_nonneg, not_true_eq_false, not_false_eq_true, Option.some.injEq]); omega)) ?_)
    | fail)
      all_goals (repeat' (split at hD1)) <;> first | exact hD1 | (exfalso; omega) | (simpa using hD1)
    · have hF1 := hF hmd (by omega)
      refine wd_rnC rfl ?_
      intro C9 X9 hC9 hX9
      repeat' ((conv => whnf); first
    | (refine hC9 173 _ _ _ (hco _ ?_))
    | (refine hC9 139 _ _ _ (x_isFull (M := N) (by omega) g4 (by omega) (fun hc => ?_) (fun hc hc2 => ?_)) <;> (try (exfalso; omega)))
    | (intro v9 hv9; (try simp (disch := omega) only [ab_tI, ab_c0, wd_ix12, wd_ix8, wd_ix10, wd_up_self, wd_up_eq, wd_up_ne, Int.toNat_natCast, Int.toNat_of_nonneg, not_true_eq_false, not_false_eq_true, Option.some.injEq] at hv9); subst hv9)
    | (apply i_get; (focus (exact rfl)); (focus (exact rfl)))
    | (refine hX9 _ _ _ _ (wd_rnC rfl ?_); clear hC9 hX9 X9 C9; intro C9 X9 hC9 hX9)
    | (apply w_ialM; (focus (exact rfl)); (focus (exact (by first | exact ⟨by decide, by decide⟩ | ((try simp (disch := omega) only [ab_tI, ab_c0, wd_ix12, wd_ix8, wd_ix10, wd_up_self, wd_up_eq, wd_up_ne, Int.toNat_natCast, Int.toNat_of_nonneg, not_true_eq_false, not_false_eq_true, Option.some.injEq, wd_l103, wd_l104, wd_l105, wd_l106, wd_l107, wd_l108, wd_l109, wd_l110, wd_l111, wd_l112, wd_l113, wd_l114, wd_l115, wd_l116, wd_l117, wd_l118, wd_l119, wd_l120, wd_l121, wd_l122, wd_l123, wd_l124]); omega)))); (intro v9 hv9; (try simp (disch := omega) only [ab_tI, ab_c0, wd_ix12, wd_ix8, wd_ix10, wd_up_self, wd_up_eq, wd_up_ne, Int.toNat_natCast, Int.toNat_of_nonneg, not_true_eq_false, not_false_eq_true, Option.some.injEq] at hv9); subst hv9))
    | (apply w_putM; (focus (exact rfl)); (focus (first | exact trivial | exact Or.inl rfl | exact Or.inr rfl)); (focus (exact rfl)))
    | (apply w_iasM; (focus (exact rfl)); (focus (exact (by first | exact ⟨by decide, by decide⟩ | ((try simp (disch := omega) only [ab_tI, ab_c0, wd_ix12, wd_ix8, wd_ix10, wd_up_self, wd_up_eq, wd_up_ne, Int.toNat_natCast, Int.toNat_of_nonneg, not_true_eq_false, not_false_eq_true, Option.some.injEq, wd_l103, wd_l104, wd_l105, wd_l106, wd_l107, wd_l108, wd_l109, wd_l110, wd_l111, wd_l112, wd_l113, wd_l114, wd_l115, wd_l116, wd_l117, wd_l118, wd_l119, wd_l120, wd_l121, wd_l122, wd_l123, wd_l124]); omega)))); (intro v9 hv9; (try simp (disch := omega) only [ab_tI, ab_c0, wd_ix12, wd_ix8, wd_ix10, wd_up_self, wd_up_eq, wd_up_ne, Int.toNat_natCast, Int.toNat_of_nonneg, not_true_eq_false, not_false_eq_true, Option.some.injEq] at hv9); subst hv9))
    | (refine i_brF (by decide) ?_)
    | (refine i_brT (by decide) ?_)
    | (refine ⟨fun hc => ?_, fun hc => ?_⟩ <;> (try simp (disch := omega) only [ab_tI, ab_c0, wd_ix12, wd_ix8, wd_ix10, wd_up_self, wd_up_eq, wd_up_ne, Int.toNat_natCast, Int.toNat_of_nonneg, not_true_eq_false, not_false_eq_true, Option.some.injEq] at hc) <;> first | (exfalso; omega) | skip)
    | (apply i_cv; (focus (exact rfl)))
    | (apply w_balM; (focus (exact (by first | exact ⟨by decide, by decide⟩ | ((try simp (disch := omega) only [ab_tI, ab_c0, wd_ix12, wd_ix8, wd_ix10, wd_up_self, wd_up_eq, wd_up_ne, Int.toNat_natCast, Int.toNat_of_nonneg, not_true_eq_false, not_false_eq_true, Option.some.injEq, wd_l103, wd_l104, wd_l105, wd_l106, wd_l107, wd_l108, wd_l109, wd_l110, wd_l111, wd_l112, wd_l113, wd_l114, wd_l115, wd_l116, wd_l117, wd_l118, wd_l119, wd_l120, wd_l121, wd_l122, wd_l123, wd_l124]); omega)))); (intro v9 hv9; (try simp (disch := omega) only [ab_tI, ab_c0, wd_ix12, wd_ix8, wd_ix10, wd_up_self, wd_up_eq, wd_up_ne, Int.toNat_natCast, Int.toNat_of_nonneg, not_true_eq_false, not_false_eq_true, Option.some.injEq] at hv9); subst hv9))
    | (apply w_basM; (focus (exact (by first | exact ⟨by decide, by decide⟩ | ((try simp (disch := omega) only [ab_tI, ab_c0, wd_ix12, wd_ix8, wd_ix10, wd_up_self, wd_up_eq, wd_up_ne, Int.toNat_natCast, Int.toNat_of_nonneg, not_true_eq_false, not_false_eq_true, Option.some.injEq, wd_l103, wd_l104, wd_l105, wd_l106, wd_l107, wd_l108, wd_l109, wd_l110, wd_l111, wd_l112, wd_l113, wd_l114, wd_l115, wd_l116, wd_l117, wd_l118, wd_l119, wd_l120, wd_l121, wd_l122, wd_l123, wd_l124]); omega)))); (focus (first | exact Or.inl rfl | exact Or.inr rfl)); (intro v9 hv9; (try simp (disch := omega) only [ab_tI, ab_c0, wd_ix12, wd_ix8, wd_ix10, wd_up_self, wd_up_eq, wd_up_ne, Int.toNat_natCast, Int.toNat_of_nonneg, not_true_eq_false, not_false_eq_true, Option.some.injEq] at hv9); subst hv9))
    | (refine And.intro trivial ?_)
    | (refine And.intro (Or.inl rfl) ?_)
    | (refine And.intro (Or.inr rfl) ?_)
    | (refine And.intro (by ((try simp (disch := omega) only [ab_tI, ab_c0, wd_ix12, wd_ix8, wd_ix10, wd_up_self, wd_up_eq, wd_up_ne, Int.toNat_natCast, Int.toNat_of_nonneg, not_true_eq_false, not_false_eq_true, Option.some.injEq]); omega)) ?_)
    | fail)
      all_goals first | exact hF1 | (exfalso; omega)
  · rw [if_neg hmd] at hco
    have hN1 := hN hmd
    refine wd_rnC rfl ?_
    intro C9 X9 hC9 hX9
    repeat' ((conv => whnf); first
    | (refine hC9 173 _ _ _ (hco _ ?_))
    | (intro v9 hv9; (try simp (disch := omega) only [ab_tI, ab_c0, wd_ix12, wd_ix8, wd_ix10, wd_up_self, wd_up_eq, wd_up_ne, Int.toNat_natCast, Int.toNat_of_nonneg, not_true_eq_false, not_false_eq_true, Option.some.injEq] at hv9); subst hv9)
    | (apply i_get; (focus (exact rfl)); (focus (exact rfl)))
    | (refine hX9 _ _ _ _ (wd_rnC rfl ?_); clear hC9 hX9 X9 C9; intro C9 X9 hC9 hX9)
    | (apply w_ialM; (focus (exact rfl)); (focus (exact (by first | exact ⟨by decide, by decide⟩ | ((try simp (disch := omega) only [ab_tI, ab_c0, wd_ix12, wd_ix8, wd_ix10, wd_up_self, wd_up_eq, wd_up_ne, Int.toNat_natCast, Int.toNat_of_nonneg, not_true_eq_false, not_false_eq_true, Option.some.injEq, wd_l103, wd_l104, wd_l105, wd_l106, wd_l107, wd_l108, wd_l109, wd_l110, wd_l111, wd_l112, wd_l113, wd_l114, wd_l115, wd_l116, wd_l117, wd_l118, wd_l119, wd_l120, wd_l121, wd_l122, wd_l123, wd_l124]); omega)))); (intro v9 hv9; (try simp (disch := omega) only [ab_tI, ab_c0, wd_ix12, wd_ix8, wd_ix10, wd_up_self, wd_up_eq, wd_up_ne, Int.toNat_natCast, Int.toNat_of_nonneg, not_true_eq_false, not_false_eq_true, Option.some.injEq] at hv9); subst hv9))
    | (apply w_putM; (focus (exact rfl)); (focus (first | exact trivial | exact Or.inl rfl | exact Or.inr rfl)); (focus (exact rfl)))
    | (apply w_iasM; (focus (exact rfl)); (focus (exact (by first | exact ⟨by decide, by decide⟩ | ((try simp (disch := omega) only [ab_tI, ab_c0, wd_ix12, wd_ix8, wd_ix10, wd_up_self, wd_up_eq, wd_up_ne, Int.toNat_natCast, Int.toNat_of_nonneg, not_true_eq_false, not_false_eq_true, Option.some.injEq, wd_l103, wd_l104, wd_l105, wd_l106, wd_l107, wd_l108, wd_l109, wd_l110, wd_l111, wd_l112, wd_l113, wd_l114, wd_l115, wd_l116, wd_l117, wd_l118, wd_l119, wd_l120, wd_l121, wd_l122, wd_l123, wd_l124]); omega)))); (intro v9 hv9; (try simp (disch := omega) only [ab_tI, ab_c0, wd_ix12, wd_ix8, wd_ix10, wd_up_self, wd_up_eq, wd_up_ne, Int.toNat_natCast, Int.toNat_of_nonneg, not_true_eq_false, not_false_eq_true, Option.some.injEq] at hv9); subst hv9))
    | (refine i_brF (by decide) ?_)
    | (refine i_brT (by decide) ?_)
    | (refine ⟨fun hc => ?_, fun hc => ?_⟩ <;> (try simp (disch := omega) only [ab_tI, ab_c0, wd_ix12, wd_ix8, wd_ix10, wd_up_self, wd_up_eq, wd_up_ne, Int.toNat_natCast, Int.toNat_of_nonneg, not_true_eq_false, not_false_eq_true, Option.some.injEq] at hc) <;> first | (exfalso; omega) | skip)
    | (apply i_cv; (focus (exact rfl)))
    | (apply w_balM; (focus (exact (by first | exact ⟨by decide, by decide⟩ | ((try simp (disch := omega) only [ab_tI, ab_c0, wd_ix12, wd_ix8, wd_ix10, wd_up_self, wd_up_eq, wd_up_ne, Int.toNat_natCast, Int.toNat_of_nonneg, not_true_eq_false, not_false_eq_true, Option.some.injEq, wd_l103, wd_l104, wd_l105, wd_l106, wd_l107, wd_l108, wd_l109, wd_l110, wd_l111, wd_l112, wd_l113, wd_l114, wd_l115, wd_l116, wd_l117, wd_l118, wd_l119, wd_l120, wd_l121, wd_l122, wd_l123, wd_l124]); omega)))); (intro v9 hv9; (try simp (disch := omega) only [ab_tI, ab_c0, wd_ix12, wd_ix8, wd_ix10, wd_up_self, wd_up_eq, wd_up_ne, Int.toNat_natCast, Int.toNat_of_nonneg, not_true_eq_false, not_false_eq_true, Option.some.injEq] at hv9); subst hv9))
    | (apply w_basM; (focus (exact (by first | exact ⟨by decide, by decide⟩ | ((try simp (disch := omega) only [ab_tI, ab_c0, wd_ix12, wd_ix8, wd_ix10, wd_up_self, wd_up_eq, wd_up_ne, Int.toNat_natCast, Int.toNat_of_nonneg, not_true_eq_false, not_false_eq_true, Option.some.injEq, wd_l103, wd_l104, wd_l105, wd_l106, wd_l107, wd_l108, wd_l109, wd_l110, wd_l111, wd_l112, wd_l113, wd_l114, wd_l115, wd_l116, wd_l117, wd_l118, wd_l119, wd_l120, wd_l121, wd_l122, wd_l123, wd_l124]); omega)))); (focus (first | exact Or.inl rfl | exact Or.inr rfl)); (intro v9 hv9; (try simp (disch := omega) only [ab_tI, ab_c0, wd_ix12, wd_ix8, wd_ix10, wd_up_self, wd_up_eq, wd_up_ne, Int.toNat_natCast, Int.toNat_of_nonneg, not_true_eq_false, not_false_eq_true, Option.some.injEq] at hv9); subst hv9))
    | (refine And.intro trivial ?_)
    | (refine And.intro (Or.inl rfl) ?_)
    | (refine And.intro (Or.inr rfl) ?_)
    | (refine And.intro (by ((try simp (disch := omega) only [ab_tI, ab_c0, wd_ix12, wd_ix8, wd_ix10, wd_up_self, wd_up_eq, wd_up_ne, Int.toNat_natCast, Int.toNat_of_nonneg, not_true_eq_false, not_false_eq_true, Option.some.injEq]); omega)) ?_)
    | fail)
    all_goals first | exact hN1 | (exfalso; omega)
end
section
/-! ===== the reference: fit, whole (own text) ===== -/
def m_fok (s p w : Int32) : Prop := m_sh s ∧ m_pa p ∧ m_sh w
theorem m_eqv_lok {M M' : wd_I} (h : m_eqv M M') (hT : m_T M (M 102 8).toInt) : m_T M' (M' 102 8).toInt := by rw [h.2.1]; exact m_T_c h.sa hT
theorem m_eqv_rm {M M' : wd_I} (h : m_eqv M M') (hr : m_rm M) : m_rm M' := by unfold m_rm at hr ⊢; rw [h.2.1, h.2.2.1]; exact hr
theorem m_eqv_cop {M M' : wd_I} {w : Int32} (h : m_eqv M M') (hT : m_T M (M 102 8).toInt) (hr : m_rm M) (hw : m_sh w) (hs : 0 ≤ (M 110 w.toInt.toNat).toInt ∧ (M 110 w.toInt.toNat).toInt < (M 102 8).toInt) : m_cop (M' 102 8).toInt M' (ab_ii 7) w := by
  have hr' := m_eqv_rm h hr
  refine ⟨(m_eqv_lok h hT).tb.1, hr'.1, Int.le_refl _, hr', by decide, fun _ => ⟨hw, ?_⟩⟩
  rw [h.1 110 (by decide) (by decide), h.2.1]
  exact hs
set_option maxHeartbeats 4000000 in
set_option maxRecDepth 100000 in
theorem x_fit {d : Nat} (hd : 42 ≤ d) {I : wd_I} {P : wd_P} {M : wd_I} {g : Nat → ab_C} {k z : Nat} {s p w : Int32} {Q : ab_Q} (hT : m_T M (M 102 8).toInt) (hok : m_lok M) (hrm : m_rm M)
    (hb : ¬ m_fok s p w → Q (some (.inl (ab_ii (-2)))) (wd I P M g, k, z))
    (hN : m_fok s p w → ∀ M1, m_eqv M M1 → ¬ ((m_co M1 (M 110 s.toInt.toNat) p (ab_ii 7) w).1 102 36).toInt = 0 → Q (some (.inl (ab_ii (-17)))) (wd I P (m_rs M (m_co M1 (M 110 s.toInt.toNat) p (ab_ii 7) w).1) g, k, z))
    (hF : m_fok s p w → ∀ M1, m_eqv M M1 → ((m_co M1 (M 110 s.toInt.toNat) p (ab_ii 7) w).1 102 36).toInt = 0 → (200 < ((m_co M1 (M 110 s.toInt.toNat) p (ab_ii 7) w).1 106 (m_co M1 (M 110 s.toInt.toNat) p (ab_ii 7) w).2.toInt.toNat).toInt ∨ 12 < ((m_co M1 (M 110 s.toInt.toNat) p (ab_ii 7) w).1 107 (m_co M1 (M 110 s.toInt.toNat) p (ab_ii 7) w).2.toInt.toNat).toInt) → Q (some (.inl (ab_ii (-4)))) (wd I P (m_rs M (m_co M1 (M 110 s.toInt.toNat) p (ab_ii 7) w).1) g, k, z))
    (hR : m_fok s p w → ∀ M1, m_eqv M M1 → ∀ (N : wd_I) (r : Int32), (N, r) = m_co M1 (M 110 s.toInt.toNat) p (ab_ii 7) w → (N 102 36).toInt = 0 → (N 106 r.toInt.toNat).toInt ≤ 200 → (N 107 r.toInt.toNat).toInt ≤ 12 → ∀ M2, m_eqv N M2 →
      (¬ ((m_co M2 r p (ab_ii 7) w).1 102 36).toInt = 0 → Q (some (.inl (ab_ii (-17)))) (wd I P (m_rs M (m_co M2 r p (ab_ii 7) w).1) g, k, z)) ∧
      (((m_co M2 r p (ab_ii 7) w).1 102 36).toInt = 0 → (200 < ((m_co M2 r p (ab_ii 7) w).1 106 (m_co M2 r p (ab_ii 7) w).2.toInt.toNat).toInt ∨ 12 < ((m_co M2 r p (ab_ii 7) w).1 107 (m_co M2 r p (ab_ii 7) w).2.toInt.toNat).toInt) → Q (some (.inl (ab_ii (-4)))) (wd I P (m_rs M (m_co M2 r p (ab_ii 7) w).1) g, k, z)) ∧
      (((m_co M2 r p (ab_ii 7) w).1 102 36).toInt = 0 → ((m_co M2 r p (ab_ii 7) w).1 106 (m_co M2 r p (ab_ii 7) w).2.toInt.toNat).toInt ≤ 200 → ((m_co M2 r p (ab_ii 7) w).1 107 (m_co M2 r p (ab_ii 7) w).2.toInt.toNat).toInt ≤ 12 → Q (some (.inl (m_fitv (if (m_fs N p r).length = (m_fs M p (M 110 s.toInt.toNat)).length then ab_ii 1 else ab_ii 0) (m_alk M2 (m_fs N p r) (M 110 w.toInt.toNat) (m_fs N p r).length) (m_cmp (m_co M2 r p (ab_ii 7) w).1 13 r (m_co M2 r p (ab_ii 7) w).2)))) (wd I P (m_rs M (m_co M2 r p (ab_ii 7) w).1) g, k, z))) : ab_CT d 193 [wd_v 102, .inl s, .inl p, .inl w] (wd I P M g, k, z) Q := by
  by_cases hfo : m_fok s p w
  · have hN := hN hfo
    have hF := hF hfo
    have hR := hR hfo
    clear hb
    obtain ⟨o1, o2, o3⟩ := id hok
    obtain ⟨hs, hp, hw⟩ := id hfo
    have hs2 := o2 s.toInt.toNat (by unfold m_sh at hs; omega)
    have hw2 := o2 w.toInt.toNat (by unfold m_sh at hw; omega)
    have hph := o3 p hp.1 hp.2
    have hlen := m_fs_len o1 (p := p) hs2.1 hs2.2
    unfold m_fok m_sh m_pa at hfo
    unfold m_rs at hN hF hR
    refine wd_inC rfl (by omega) rfl ?_
    intro C9 X9 hC9 hX9
    repeat' ((conv => whnf); first
    | (refine hC9 134 _ _ _ (x_isShelf (by omega) (fun hc hc2 => ?_) (fun hc => ?_)) <;> (try (exfalso; omega)))
    | (refine hC9 135 _ _ _ (x_isPath (by omega) (fun hc hc2 => ?_) (fun hc => ?_)) <;> (try (exfalso; omega)))
    | (refine hC9 165 _ _ _ (x_looks o1 hph (by omega) hs2.1 hs2.2 ?_))
    | (intro v9 hv9; (try simp (disch := omega) only [ab_tI, ab_c0, wd_ix12, wd_ix8, wd_ix10, wd_up_self, wd_up_eq, wd_up_ne, Int.toNat_natCast, Int.toNat_of_nonneg, not_true_eq_false, not_false_eq_true, Option.some.injEq] at hv9); subst hv9)
    | (apply i_get; (focus (exact rfl)); (focus (exact rfl)))
    | (refine hX9 _ _ _ _ (wd_rnC rfl ?_); clear hC9 hX9 X9 C9; intro C9 X9 hC9 hX9)
    | (apply w_ialM; (focus (exact rfl)); (focus (exact (by first | exact ⟨by decide, by decide⟩ | ((try simp (disch := omega) only [ab_tI, ab_c0, wd_ix12, wd_ix8, wd_ix10, wd_up_self, wd_up_eq, wd_up_ne, Int.toNat_natCast, Int.toNat_of_nonneg, not_true_eq_false, not_false_eq_true, Option.some.injEq, wd_l103, wd_l104, wd_l105, wd_l106, wd_l107, wd_l108, wd_l109, wd_l110, wd_l111, wd_l112, wd_l113, wd_l114, wd_l115, wd_l116, wd_l117, wd_l118, wd_l119, wd_l120, wd_l121, wd_l122, wd_l123, wd_l124]); omega)))); (intro v9 hv9; (try simp (disch := omega) only [ab_tI, ab_c0, wd_ix12, wd_ix8, wd_ix10, wd_up_self, wd_up_eq, wd_up_ne, Int.toNat_natCast, Int.toNat_of_nonneg, not_true_eq_false, not_false_eq_true, Option.some.injEq] at hv9); subst hv9))
    | (apply w_putM; (focus (exact rfl)); (focus (first | exact trivial | exact Or.inl rfl | exact Or.inr rfl)); (focus (exact rfl)))
    | (apply w_iasM; (focus (exact rfl)); (focus (exact (by first | exact ⟨by decide, by decide⟩ | ((try simp (disch := omega) only [ab_tI, ab_c0, wd_ix12, wd_ix8, wd_ix10, wd_up_self, wd_up_eq, wd_up_ne, Int.toNat_natCast, Int.toNat_of_nonneg, not_true_eq_false, not_false_eq_true, Option.some.injEq, wd_l103, wd_l104, wd_l105, wd_l106, wd_l107, wd_l108, wd_l109, wd_l110, wd_l111, wd_l112, wd_l113, wd_l114, wd_l115, wd_l116, wd_l117, wd_l118, wd_l119, wd_l120, wd_l121, wd_l122, wd_l123, wd_l124]); omega)))); (intro v9 hv9; (try simp (disch := omega) only [ab_tI, ab_c0, wd_ix12, wd_ix8, wd_ix10, wd_up_self, wd_up_eq, wd_up_ne, Int.toNat_natCast, Int.toNat_of_nonneg, not_true_eq_false, not_false_eq_true, Option.some.injEq] at hv9); subst hv9))
    | (refine i_brF (by decide) ?_)
    | (refine i_brT (by decide) ?_)
    | (refine ⟨fun hc => ?_, fun hc => ?_⟩ <;> (try simp (disch := omega) only [ab_tI, ab_c0, wd_ix12, wd_ix8, wd_ix10, wd_up_self, wd_up_eq, wd_up_ne, Int.toNat_natCast, Int.toNat_of_nonneg, not_true_eq_false, not_false_eq_true, Option.some.injEq] at hc) <;> first | (exfalso; omega) | skip)
    | (apply i_cv; (focus (exact rfl)))
    | (apply w_balM; (focus (exact (by first | exact ⟨by decide, by decide⟩ | ((try simp (disch := omega) only [ab_tI, ab_c0, wd_ix12, wd_ix8, wd_ix10, wd_up_self, wd_up_eq, wd_up_ne, Int.toNat_natCast, Int.toNat_of_nonneg, not_true_eq_false, not_false_eq_true, Option.some.injEq, wd_l103, wd_l104, wd_l105, wd_l106, wd_l107, wd_l108, wd_l109, wd_l110, wd_l111, wd_l112, wd_l113, wd_l114, wd_l115, wd_l116, wd_l117, wd_l118, wd_l119, wd_l120, wd_l121, wd_l122, wd_l123, wd_l124]); omega)))); (intro v9 hv9; (try simp (disch := omega) only [ab_tI, ab_c0, wd_ix12, wd_ix8, wd_ix10, wd_up_self, wd_up_eq, wd_up_ne, Int.toNat_natCast, Int.toNat_of_nonneg, not_true_eq_false, not_false_eq_true, Option.some.injEq] at hv9); subst hv9))
    | (apply w_basM; (focus (exact (by first | exact ⟨by decide, by decide⟩ | ((try simp (disch := omega) only [ab_tI, ab_c0, wd_ix12, wd_ix8, wd_ix10, wd_up_self, wd_up_eq, wd_up_ne, Int.toNat_natCast, Int.toNat_of_nonneg, not_true_eq_false, not_false_eq_true, Option.some.injEq, wd_l103, wd_l104, wd_l105, wd_l106, wd_l107, wd_l108, wd_l109, wd_l110, wd_l111, wd_l112, wd_l113, wd_l114, wd_l115, wd_l116, wd_l117, wd_l118, wd_l119, wd_l120, wd_l121, wd_l122, wd_l123, wd_l124]); omega)))); (focus (first | exact Or.inl rfl | exact Or.inr rfl)); (intro v9 hv9; (try simp (disch := omega) only [ab_tI, ab_c0, wd_ix12, wd_ix8, wd_ix10, wd_up_self, wd_up_eq, wd_up_ne, Int.toNat_natCast, Int.toNat_of_nonneg, not_true_eq_false, not_false_eq_true, Option.some.injEq] at hv9); subst hv9))
    | (refine And.intro trivial ?_)
    | (refine And.intro (Or.inl rfl) ?_)
    | (refine And.intro (Or.inr rfl) ?_)
    | (refine And.intro (by ((try simp (disch := omega) only [ab_tI, ab_c0, wd_ix12, wd_ix8, wd_ix10, wd_up_self, wd_up_eq, wd_up_ne, Int.toNat_natCast, Int.toNat_of_nonneg, not_true_eq_false, not_false_eq_true, Option.some.injEq]); omega)) ?_)
    | fail)
    intro M1 hE1 hn1 hat1
    have hcop := m_eqv_cop hE1 hT hrm hw hw2
    have hT1 := m_eqv_lok hE1 hT
    have hph1 : m_ph M1 p := m_ph_c hE1.sp hph
    have h0 : 0 ≤ (M 110 s.toInt.toNat).toInt ∧ (M 110 s.toInt.toNat).toInt < (M1 102 8).toInt := by rw [hE1.2.1]; exact hs2
    have e110 : M1 110 = M 110 := hE1.1 110 (by decide) (by decide)
    have hN := hN M1 hE1
    have hF := hF M1 hE1
    have hR := hR M1 hE1
    have hgd := m_co_good (p := p) hcop h0.1 h0.2
    have hTN := m_co_T (p := p) hcop hT1 h0.1 h0.2
    have hco := fun Q hQ => x_comesOf (d := d - 1) (by omega) (I := I) (P := P) (g := g) (k := k) (z := z) (Q := Q) hcop hph1 h0.1 h0.2 hQ
    unfold m_cor at hco
    generalize m_co M1 (M 110 s.toInt.toNat) p (ab_ii 7) w = R at *
    obtain ⟨N, r⟩ := R
    dsimp only at hN hF hco hTN
    have hR := hR N r rfl
    obtain ⟨g1, g2, g3, g4, g5⟩ := hgd
    change m_fr (M1 102 8).toInt (m_co0 M1 p (ab_ii 7) w) N at g1
    change m_rm N at g2
    change (m_co0 M1 p (ab_ii 7) w 102 8).toInt ≤ (N 102 8).toInt at g3
    change 0 ≤ r.toInt at g4
    change r.toInt < (N 102 8).toInt at g5
    rw [m_co0_n (by decide)] at g3
    obtain ⟨q1, q2, q3⟩ := id g2
    by_cases hmd : (N 102 36).toInt = 0
    · rw [if_pos hmd] at hco
      by_cases hok2 : (N 106 r.toInt.toNat).toInt ≤ 200 ∧ (N 107 r.toInt.toNat).toInt ≤ 12
      · have hR := hR hmd hok2.1 hok2.2
        have hTN' := hTN hmd hok2.1 hok2.2
        have hphN : m_ph N p := by
          have e115 : N 115 = M1 115 := by rw [g1.2.1 115 (by decide), m_co0_row (by decide)]
          unfold m_ph at hph1 ⊢
          rw [e115]
          exact hph1
        have hlenN := m_fs_len hTN'.tb (p := p) g4 g5
        have e110N : N 110 = M 110 := by rw [g1.2.1 110 (by decide), m_co0_row (by decide)]; exact e110
        have hwN : 0 ≤ (N 110 w.toInt.toNat).toInt ∧ (N 110 w.toInt.toNat).toInt < (N 102 8).toInt := by rw [e110N]; rw [hE1.2.1] at g3; omega
        have hlk := fun Q hQ => x_looks (d := d - 1) hTN'.tb (I := I) (P := P) (g := g) (k := k) (z := z) hphN (by omega) (Q := Q) g4 g5 hQ
        clear hN hF hTN
        (have chk9 := @hn1; clear chk9); repeat' ((conv => whnf); first
    | (refine hC9 173 _ _ _ (hco _ ?_))
    | (refine hC9 139 _ _ _ (x_isFull (M := N) (by omega) g4 (by omega) (fun hc => ?_) (fun hc hc2 => ?_)) <;> (try (exfalso; omega)))
    | (refine hC9 165 _ _ _ (hlk _ ?_))
    | (intro v9 hv9; (try simp (disch := omega) only [ab_tI, ab_c0, wd_ix12, wd_ix8, wd_ix10, wd_up_self, wd_up_eq, wd_up_ne, Int.toNat_natCast, Int.toNat_of_nonneg, not_true_eq_false, not_false_eq_true, Option.some.injEq, hn1, e110] at hv9); subst hv9)
    | (apply i_get; (focus (exact rfl)); (focus (exact rfl)))
    | (refine hX9 _ _ _ _ (wd_rnC rfl ?_); clear hC9 hX9 X9 C9; intro C9 X9 hC9 hX9)
    | (apply w_ialM; (focus (exact rfl)); (focus (exact (by first | exact ⟨by decide, by decide⟩ | ((try simp (disch := omega) only [ab_tI, ab_c0, wd_ix12, wd_ix8, wd_ix10, wd_up_self, wd_up_eq, wd_up_ne, Int.toNat_natCast, Int.toNat_of_nonneg, not_true_eq_false, not_false_eq_true, Option.some.injEq, hn1, e110, wd_l103, wd_l104, wd_l105, wd_l106, wd_l107, wd_l108, wd_l109, wd_l110, wd_l111, wd_l112, wd_l113, wd_l114, wd_l115, wd_l116, wd_l117, wd_l118, wd_l119, wd_l120, wd_l121, wd_l122, wd_l123, wd_l124]); omega)))); (intro v9 hv9; (try simp (disch := omega) only [ab_tI, ab_c0, wd_ix12, wd_ix8, wd_ix10, wd_up_self, wd_up_eq, wd_up_ne, Int.toNat_natCast, Int.toNat_of_nonneg, not_true_eq_false, not_false_eq_true, Option.some.injEq, hn1, e110] at hv9); subst hv9))
    | (apply w_putM; (focus (exact rfl)); (focus (first | exact trivial | exact Or.inl rfl | exact Or.inr rfl)); (focus (exact rfl)))
    | (apply w_iasM; (focus (exact rfl)); (focus (exact (by first | exact ⟨by decide, by decide⟩ | ((try simp (disch := omega) only [ab_tI, ab_c0, wd_ix12, wd_ix8, wd_ix10, wd_up_self, wd_up_eq, wd_up_ne, Int.toNat_natCast, Int.toNat_of_nonneg, not_true_eq_false, not_false_eq_true, Option.some.injEq, hn1, e110, wd_l103, wd_l104, wd_l105, wd_l106, wd_l107, wd_l108, wd_l109, wd_l110, wd_l111, wd_l112, wd_l113, wd_l114, wd_l115, wd_l116, wd_l117, wd_l118, wd_l119, wd_l120, wd_l121, wd_l122, wd_l123, wd_l124]); omega)))); (intro v9 hv9; (try simp (disch := omega) only [ab_tI, ab_c0, wd_ix12, wd_ix8, wd_ix10, wd_up_self, wd_up_eq, wd_up_ne, Int.toNat_natCast, Int.toNat_of_nonneg, not_true_eq_false, not_false_eq_true, Option.some.injEq, hn1, e110] at hv9); subst hv9))
    | (refine i_brF (by decide) ?_)
    | (refine i_brT (by decide) ?_)
    | (refine ⟨fun hc => ?_, fun hc => ?_⟩ <;> (try simp (disch := omega) only [ab_tI, ab_c0, wd_ix12, wd_ix8, wd_ix10, wd_up_self, wd_up_eq, wd_up_ne, Int.toNat_natCast, Int.toNat_of_nonneg, not_true_eq_false, not_false_eq_true, Option.some.injEq, hn1, e110] at hc) <;> first | (exfalso; omega) | skip)
    | (apply i_cv; (focus (exact rfl)))
    | (apply w_balM; (focus (exact (by first | exact ⟨by decide, by decide⟩ | ((try simp (disch := omega) only [ab_tI, ab_c0, wd_ix12, wd_ix8, wd_ix10, wd_up_self, wd_up_eq, wd_up_ne, Int.toNat_natCast, Int.toNat_of_nonneg, not_true_eq_false, not_false_eq_true, Option.some.injEq, hn1, e110, wd_l103, wd_l104, wd_l105, wd_l106, wd_l107, wd_l108, wd_l109, wd_l110, wd_l111, wd_l112, wd_l113, wd_l114, wd_l115, wd_l116, wd_l117, wd_l118, wd_l119, wd_l120, wd_l121, wd_l122, wd_l123, wd_l124]); omega)))); (intro v9 hv9; (try simp (disch := omega) only [ab_tI, ab_c0, wd_ix12, wd_ix8, wd_ix10, wd_up_self, wd_up_eq, wd_up_ne, Int.toNat_natCast, Int.toNat_of_nonneg, not_true_eq_false, not_false_eq_true, Option.some.injEq, hn1, e110] at hv9); subst hv9))
    | (apply w_basM; (focus (exact (by first | exact ⟨by decide, by decide⟩ | ((try simp (disch := omega) only [ab_tI, ab_c0, wd_ix12, wd_ix8, wd_ix10, wd_up_self, wd_up_eq, wd_up_ne, Int.toNat_natCast, Int.toNat_of_nonneg, not_true_eq_false, not_false_eq_true, Option.some.injEq, hn1, e110, wd_l103, wd_l104, wd_l105, wd_l106, wd_l107, wd_l108, wd_l109, wd_l110, wd_l111, wd_l112, wd_l113, wd_l114, wd_l115, wd_l116, wd_l117, wd_l118, wd_l119, wd_l120, wd_l121, wd_l122, wd_l123, wd_l124]); omega)))); (focus (first | exact Or.inl rfl | exact Or.inr rfl)); (intro v9 hv9; (try simp (disch := omega) only [ab_tI, ab_c0, wd_ix12, wd_ix8, wd_ix10, wd_up_self, wd_up_eq, wd_up_ne, Int.toNat_natCast, Int.toNat_of_nonneg, not_true_eq_false, not_false_eq_true, Option.some.injEq, hn1, e110] at hv9); subst hv9))
    | (refine And.intro trivial ?_)
    | (refine And.intro (Or.inl rfl) ?_)
    | (refine And.intro (Or.inr rfl) ?_)
    | (refine And.intro (by ((try simp (disch := omega) only [ab_tI, ab_c0, wd_ix12, wd_ix8, wd_ix10, wd_up_self, wd_up_eq, wd_up_ne, Int.toNat_natCast, Int.toNat_of_nonneg, not_true_eq_false, not_false_eq_true, Option.some.injEq, hn1, e110]); omega)) ?_)
    | fail)
        intro M2 hE2 hn2 hat2
        have hcop2 := m_eqv_cop hE2 hTN' g2 hw hwN
        have hT2 := m_eqv_lok hE2 hTN'
        have hR := hR M2 hE2
        have e110b : M2 110 = M 110 := (hE2.1 110 (by decide) (by decide)).trans e110N
        have hlst : m_lst M2 (m_fs N p r) (N 102 8).toInt := ⟨m_cl_c hE2.sa hTN'.tb.1, hlenN, hat2, fun j hj => m_getD_in (m_fo_in hTN'.tb.1 _ _ _ g4 g5) hj⟩
        have hfin := fun (ft : Int32) (hft : ft = (if (m_fs N p r).length = (m_fs M p (M 110 s.toInt.toNat)).length then ab_ii 1 else ab_ii 0)) => x_fit_2 (d := d) (by omega) (I := I) (P := P) (M := M2) (g := g) (k := k) (z := z) (s := s) (p := p) (w := w) (bf := M 102 8) (many := ab_ii ((m_fs M p (M 110 s.toInt.toNat)).length : Int)) (first := r) (ft := ft) (is := m_alk M2 (m_fs N p r) (M 110 w.toInt.toNat) (m_fs N p r).length) (Q := Q) hT2 hcop2 (m_ph_c hE2.sp hphN) (by rw [hE2.2.1]; exact ⟨g4, g5⟩) (by rw [hft]; split; exact Or.inr rfl; exact Or.inl rfl) hR.1 hR.2.1 (by rw [hft]; exact hR.2.2)
        have hlp := fun (ft : Int32) (hft : ft = (if (m_fs N p r).length = (m_fs M p (M 110 s.toInt.toNat)).length then ab_ii 1 else ab_ii 0)) => x_fit_l (d := d) (by omega) (I := I) (P := P) (M := M2) (g := g) (k := k) (z := z) hlst hn2 (s := s) (p := p) (w := w) (bf := M 102 8) (many := ab_ii ((m_fs M p (M 110 s.toInt.toNat)).length : Int)) (first := r) (ft := ft) (v := M 110 w.toInt.toNat) hw (by rw [e110b]) (by rw [← e110N]; exact hwN) (hfin ft hft) (m_fs N p r).length 0 (by omega)
        clear hfin hR
        by_cases hlen2 : (m_fs N p r).length = (m_fs M p (M 110 s.toInt.toNat)).length
        · have hlp := hlp (ab_ii 1) (by rw [if_pos hlen2])
          (have chk9 := @hn1; clear chk9); (have chk9 := @hn2; clear chk9); repeat' ((conv => whnf); first
    | (refine hX9 127 _ _ _ (ab_WB_sub ?_ hlp); (repeat (first | exact ab_sub0 | (refine ab_sub1 ?_ ?_; (focus ((repeat (refine ab_skip rfl ?_)); first | (rw [← hn1]; exact List.mem_cons_self) | exact List.mem_cons_self))))))
    | (intro v9 hv9; (try simp (disch := omega) only [ab_tI, ab_c0, wd_ix12, wd_ix8, wd_ix10, wd_up_self, wd_up_eq, wd_up_ne, Int.toNat_natCast, Int.toNat_of_nonneg, not_true_eq_false, not_false_eq_true, Option.some.injEq, hn1, hn2] at hv9); subst hv9)
    | (apply i_get; (focus (exact rfl)); (focus (exact rfl)))
    | (refine hX9 _ _ _ _ (wd_rnC rfl ?_); clear hC9 hX9 X9 C9; intro C9 X9 hC9 hX9)
    | (apply w_ialM; (focus (exact rfl)); (focus (exact (by first | exact ⟨by decide, by decide⟩ | ((try simp (disch := omega) only [ab_tI, ab_c0, wd_ix12, wd_ix8, wd_ix10, wd_up_self, wd_up_eq, wd_up_ne, Int.toNat_natCast, Int.toNat_of_nonneg, not_true_eq_false, not_false_eq_true, Option.some.injEq, hn1, hn2, wd_l103, wd_l104, wd_l105, wd_l106, wd_l107, wd_l108, wd_l109, wd_l110, wd_l111, wd_l112, wd_l113, wd_l114, wd_l115, wd_l116, wd_l117, wd_l118, wd_l119, wd_l120, wd_l121, wd_l122, wd_l123, wd_l124]); omega)))); (intro v9 hv9; (try simp (disch := omega) only [ab_tI, ab_c0, wd_ix12, wd_ix8, wd_ix10, wd_up_self, wd_up_eq, wd_up_ne, Int.toNat_natCast, Int.toNat_of_nonneg, not_true_eq_false, not_false_eq_true, Option.some.injEq, hn1, hn2] at hv9); subst hv9))
    | (apply w_putM; (focus (exact rfl)); (focus (first | exact trivial | exact Or.inl rfl | exact Or.inr rfl)); (focus (exact rfl)))
    | (apply w_iasM; (focus (exact rfl)); (focus (exact (by first | exact ⟨by decide, by decide⟩ | ((try simp (disch := omega) only [ab_tI, ab_c0, wd_ix12, wd_ix8, wd_ix10, wd_up_self, wd_up_eq, wd_up_ne, Int.toNat_natCast, Int.toNat_of_nonneg, not_true_eq_false, not_false_eq_true, Option.some.injEq, hn1, hn2, wd_l103, wd_l104, wd_l105, wd_l106, wd_l107, wd_l108, wd_l109, wd_l110, wd_l111, wd_l112, wd_l113, wd_l114, wd_l115, wd_l116, wd_l117, wd_l118, wd_l119, wd_l120, wd_l121, wd_l122, wd_l123, wd_l124]); omega)))); (intro v9 hv9; (try simp (disch := omega) only [ab_tI, ab_c0, wd_ix12, wd_ix8, wd_ix10, wd_up_self, wd_up_eq, wd_up_ne, Int.toNat_natCast, Int.toNat_of_nonneg, not_true_eq_false, not_false_eq_true, Option.some.injEq, hn1, hn2] at hv9); subst hv9))
    | (refine i_brF (by decide) ?_)
    | (refine i_brT (by decide) ?_)
    | (refine ⟨fun hc => ?_, fun hc => ?_⟩ <;> (try simp (disch := omega) only [ab_tI, ab_c0, wd_ix12, wd_ix8, wd_ix10, wd_up_self, wd_up_eq, wd_up_ne, Int.toNat_natCast, Int.toNat_of_nonneg, not_true_eq_false, not_false_eq_true, Option.some.injEq, hn1, hn2] at hc) <;> first | (exfalso; omega) | skip)
    | (apply i_cv; (focus (exact rfl)))
    | (apply w_balM; (focus (exact (by first | exact ⟨by decide, by decide⟩ | ((try simp (disch := omega) only [ab_tI, ab_c0, wd_ix12, wd_ix8, wd_ix10, wd_up_self, wd_up_eq, wd_up_ne, Int.toNat_natCast, Int.toNat_of_nonneg, not_true_eq_false, not_false_eq_true, Option.some.injEq, hn1, hn2, wd_l103, wd_l104, wd_l105, wd_l106, wd_l107, wd_l108, wd_l109, wd_l110, wd_l111, wd_l112, wd_l113, wd_l114, wd_l115, wd_l116, wd_l117, wd_l118, wd_l119, wd_l120, wd_l121, wd_l122, wd_l123, wd_l124]); omega)))); (intro v9 hv9; (try simp (disch := omega) only [ab_tI, ab_c0, wd_ix12, wd_ix8, wd_ix10, wd_up_self, wd_up_eq, wd_up_ne, Int.toNat_natCast, Int.toNat_of_nonneg, not_true_eq_false, not_false_eq_true, Option.some.injEq, hn1, hn2] at hv9); subst hv9))
    | (apply w_basM; (focus (exact (by first | exact ⟨by decide, by decide⟩ | ((try simp (disch := omega) only [ab_tI, ab_c0, wd_ix12, wd_ix8, wd_ix10, wd_up_self, wd_up_eq, wd_up_ne, Int.toNat_natCast, Int.toNat_of_nonneg, not_true_eq_false, not_false_eq_true, Option.some.injEq, hn1, hn2, wd_l103, wd_l104, wd_l105, wd_l106, wd_l107, wd_l108, wd_l109, wd_l110, wd_l111, wd_l112, wd_l113, wd_l114, wd_l115, wd_l116, wd_l117, wd_l118, wd_l119, wd_l120, wd_l121, wd_l122, wd_l123, wd_l124]); omega)))); (focus (first | exact Or.inl rfl | exact Or.inr rfl)); (intro v9 hv9; (try simp (disch := omega) only [ab_tI, ab_c0, wd_ix12, wd_ix8, wd_ix10, wd_up_self, wd_up_eq, wd_up_ne, Int.toNat_natCast, Int.toNat_of_nonneg, not_true_eq_false, not_false_eq_true, Option.some.injEq, hn1, hn2] at hv9); subst hv9))
    | (refine And.intro trivial ?_)
    | (refine And.intro (Or.inl rfl) ?_)
    | (refine And.intro (Or.inr rfl) ?_)
    | (refine And.intro (by ((try simp (disch := omega) only [ab_tI, ab_c0, wd_ix12, wd_ix8, wd_ix10, wd_up_self, wd_up_eq, wd_up_ne, Int.toNat_natCast, Int.toNat_of_nonneg, not_true_eq_false, not_false_eq_true, Option.some.injEq, hn1, hn2]); omega)) ?_)
    | fail)
          all_goals (exfalso; omega)
        · have hlp := hlp (ab_ii 0) (by rw [if_neg hlen2])
          (have chk9 := @hn1; clear chk9); (have chk9 := @hn2; clear chk9); repeat' ((conv => whnf); first
    | (refine hX9 127 _ _ _ (ab_WB_sub ?_ hlp); (repeat (first | exact ab_sub0 | (refine ab_sub1 ?_ ?_; (focus ((repeat (refine ab_skip rfl ?_)); first | (rw [← hn1]; exact List.mem_cons_self) | exact List.mem_cons_self))))))
    | (intro v9 hv9; (try simp (disch := omega) only [ab_tI, ab_c0, wd_ix12, wd_ix8, wd_ix10, wd_up_self, wd_up_eq, wd_up_ne, Int.toNat_natCast, Int.toNat_of_nonneg, not_true_eq_false, not_false_eq_true, Option.some.injEq, hn1, hn2] at hv9); subst hv9)
    | (apply i_get; (focus (exact rfl)); (focus (exact rfl)))
    | (refine hX9 _ _ _ _ (wd_rnC rfl ?_); clear hC9 hX9 X9 C9; intro C9 X9 hC9 hX9)
    | (apply w_ialM; (focus (exact rfl)); (focus (exact (by first | exact ⟨by decide, by decide⟩ | ((try simp (disch := omega) only [ab_tI, ab_c0, wd_ix12, wd_ix8, wd_ix10, wd_up_self, wd_up_eq, wd_up_ne, Int.toNat_natCast, Int.toNat_of_nonneg, not_true_eq_false, not_false_eq_true, Option.some.injEq, hn1, hn2, wd_l103, wd_l104, wd_l105, wd_l106, wd_l107, wd_l108, wd_l109, wd_l110, wd_l111, wd_l112, wd_l113, wd_l114, wd_l115, wd_l116, wd_l117, wd_l118, wd_l119, wd_l120, wd_l121, wd_l122, wd_l123, wd_l124]); omega)))); (intro v9 hv9; (try simp (disch := omega) only [ab_tI, ab_c0, wd_ix12, wd_ix8, wd_ix10, wd_up_self, wd_up_eq, wd_up_ne, Int.toNat_natCast, Int.toNat_of_nonneg, not_true_eq_false, not_false_eq_true, Option.some.injEq, hn1, hn2] at hv9); subst hv9))
    | (apply w_putM; (focus (exact rfl)); (focus (first | exact trivial | exact Or.inl rfl | exact Or.inr rfl)); (focus (exact rfl)))
    | (apply w_iasM; (focus (exact rfl)); (focus (exact (by first | exact ⟨by decide, by decide⟩ | ((try simp (disch := omega) only [ab_tI, ab_c0, wd_ix12, wd_ix8, wd_ix10, wd_up_self, wd_up_eq, wd_up_ne, Int.toNat_natCast, Int.toNat_of_nonneg, not_true_eq_false, not_false_eq_true, Option.some.injEq, hn1, hn2, wd_l103, wd_l104, wd_l105, wd_l106, wd_l107, wd_l108, wd_l109, wd_l110, wd_l111, wd_l112, wd_l113, wd_l114, wd_l115, wd_l116, wd_l117, wd_l118, wd_l119, wd_l120, wd_l121, wd_l122, wd_l123, wd_l124]); omega)))); (intro v9 hv9; (try simp (disch := omega) only [ab_tI, ab_c0, wd_ix12, wd_ix8, wd_ix10, wd_up_self, wd_up_eq, wd_up_ne, Int.toNat_natCast, Int.toNat_of_nonneg, not_true_eq_false, not_false_eq_true, Option.some.injEq, hn1, hn2] at hv9); subst hv9))
    | (refine i_brF (by decide) ?_)
    | (refine i_brT (by decide) ?_)
    | (refine ⟨fun hc => ?_, fun hc => ?_⟩ <;> (try simp (disch := omega) only [ab_tI, ab_c0, wd_ix12, wd_ix8, wd_ix10, wd_up_self, wd_up_eq, wd_up_ne, Int.toNat_natCast, Int.toNat_of_nonneg, not_true_eq_false, not_false_eq_true, Option.some.injEq, hn1, hn2] at hc) <;> first | (exfalso; omega) | skip)
    | (apply i_cv; (focus (exact rfl)))
    | (apply w_balM; (focus (exact (by first | exact ⟨by decide, by decide⟩ | ((try simp (disch := omega) only [ab_tI, ab_c0, wd_ix12, wd_ix8, wd_ix10, wd_up_self, wd_up_eq, wd_up_ne, Int.toNat_natCast, Int.toNat_of_nonneg, not_true_eq_false, not_false_eq_true, Option.some.injEq, hn1, hn2, wd_l103, wd_l104, wd_l105, wd_l106, wd_l107, wd_l108, wd_l109, wd_l110, wd_l111, wd_l112, wd_l113, wd_l114, wd_l115, wd_l116, wd_l117, wd_l118, wd_l119, wd_l120, wd_l121, wd_l122, wd_l123, wd_l124]); omega)))); (intro v9 hv9; (try simp (disch := omega) only [ab_tI, ab_c0, wd_ix12, wd_ix8, wd_ix10, wd_up_self, wd_up_eq, wd_up_ne, Int.toNat_natCast, Int.toNat_of_nonneg, not_true_eq_false, not_false_eq_true, Option.some.injEq, hn1, hn2] at hv9); subst hv9))
    | (apply w_basM; (focus (exact (by first | exact ⟨by decide, by decide⟩ | ((try simp (disch := omega) only [ab_tI, ab_c0, wd_ix12, wd_ix8, wd_ix10, wd_up_self, wd_up_eq, wd_up_ne, Int.toNat_natCast, Int.toNat_of_nonneg, not_true_eq_false, not_false_eq_true, Option.some.injEq, hn1, hn2, wd_l103, wd_l104, wd_l105, wd_l106, wd_l107, wd_l108, wd_l109, wd_l110, wd_l111, wd_l112, wd_l113, wd_l114, wd_l115, wd_l116, wd_l117, wd_l118, wd_l119, wd_l120, wd_l121, wd_l122, wd_l123, wd_l124]); omega)))); (focus (first | exact Or.inl rfl | exact Or.inr rfl)); (intro v9 hv9; (try simp (disch := omega) only [ab_tI, ab_c0, wd_ix12, wd_ix8, wd_ix10, wd_up_self, wd_up_eq, wd_up_ne, Int.toNat_natCast, Int.toNat_of_nonneg, not_true_eq_false, not_false_eq_true, Option.some.injEq, hn1, hn2] at hv9); subst hv9))
    | (refine And.intro trivial ?_)
    | (refine And.intro (Or.inl rfl) ?_)
    | (refine And.intro (Or.inr rfl) ?_)
    | (refine And.intro (by ((try simp (disch := omega) only [ab_tI, ab_c0, wd_ix12, wd_ix8, wd_ix10, wd_up_self, wd_up_eq, wd_up_ne, Int.toNat_natCast, Int.toNat_of_nonneg, not_true_eq_false, not_false_eq_true, Option.some.injEq, hn1, hn2]); omega)) ?_)
    | fail)
          all_goals (exfalso; omega)
      · have hF := hF hmd (by omega)
        (have chk9 := @hn1; clear chk9); repeat' ((conv => whnf); first
    | (refine hC9 173 _ _ _ (hco _ ?_))
    | (refine hC9 139 _ _ _ (x_isFull (M := N) (by omega) g4 (by omega) (fun hc => ?_) (fun hc hc2 => ?_)) <;> (try (exfalso; omega)))
    | (intro v9 hv9; (try simp (disch := omega) only [ab_tI, ab_c0, wd_ix12, wd_ix8, wd_ix10, wd_up_self, wd_up_eq, wd_up_ne, Int.toNat_natCast, Int.toNat_of_nonneg, not_true_eq_false, not_false_eq_true, Option.some.injEq, hn1, e110] at hv9); subst hv9)
    | (apply i_get; (focus (exact rfl)); (focus (exact rfl)))
    | (refine hX9 _ _ _ _ (wd_rnC rfl ?_); clear hC9 hX9 X9 C9; intro C9 X9 hC9 hX9)
    | (apply w_ialM; (focus (exact rfl)); (focus (exact (by first | exact ⟨by decide, by decide⟩ | ((try simp (disch := omega) only [ab_tI, ab_c0, wd_ix12, wd_ix8, wd_ix10, wd_up_self, wd_up_eq, wd_up_ne, Int.toNat_natCast, Int.toNat_of_nonneg, not_true_eq_false, not_false_eq_true, Option.some.injEq, hn1, e110, wd_l103, wd_l104, wd_l105, wd_l106, wd_l107, wd_l108, wd_l109, wd_l110, wd_l111, wd_l112, wd_l113, wd_l114, wd_l115, wd_l116, wd_l117, wd_l118, wd_l119, wd_l120, wd_l121, wd_l122, wd_l123, wd_l124]); omega)))); (intro v9 hv9; (try simp (disch := omega) only [ab_tI, ab_c0, wd_ix12, wd_ix8, wd_ix10, wd_up_self, wd_up_eq, wd_up_ne, Int.toNat_natCast, Int.toNat_of_nonneg, not_true_eq_false, not_false_eq_true, Option.some.injEq, hn1, e110] at hv9); subst hv9))
    | (apply w_putM; (focus (exact rfl)); (focus (first | exact trivial | exact Or.inl rfl | exact Or.inr rfl)); (focus (exact rfl)))
    | (apply w_iasM; (focus (exact rfl)); (focus (exact (by first | exact ⟨by decide, by decide⟩ | ((try simp (disch := omega) only [ab_tI, ab_c0, wd_ix12, wd_ix8, wd_ix10, wd_up_self, wd_up_eq, wd_up_ne, Int.toNat_natCast, Int.toNat_of_nonneg, not_true_eq_false, not_false_eq_true, Option.some.injEq, hn1, e110, wd_l103, wd_l104, wd_l105, wd_l106, wd_l107, wd_l108, wd_l109, wd_l110, wd_l111, wd_l112, wd_l113, wd_l114, wd_l115, wd_l116, wd_l117, wd_l118, wd_l119, wd_l120, wd_l121, wd_l122, wd_l123, wd_l124]); omega)))); (intro v9 hv9; (try simp (disch := omega) only [ab_tI, ab_c0, wd_ix12, wd_ix8, wd_ix10, wd_up_self, wd_up_eq, wd_up_ne, Int.toNat_natCast, Int.toNat_of_nonneg, not_true_eq_false, not_false_eq_true, Option.some.injEq, hn1, e110] at hv9); subst hv9))
    | (refine i_brF (by decide) ?_)
    | (refine i_brT (by decide) ?_)
    | (refine ⟨fun hc => ?_, fun hc => ?_⟩ <;> (try simp (disch := omega) only [ab_tI, ab_c0, wd_ix12, wd_ix8, wd_ix10, wd_up_self, wd_up_eq, wd_up_ne, Int.toNat_natCast, Int.toNat_of_nonneg, not_true_eq_false, not_false_eq_true, Option.some.injEq, hn1, e110] at hc) <;> first | (exfalso; omega) | skip)
    | (apply i_cv; (focus (exact rfl)))
    | (apply w_balM; (focus (exact (by first | exact ⟨by decide, by decide⟩ | ((try simp (disch := omega) only [ab_tI, ab_c0, wd_ix12, wd_ix8, wd_ix10, wd_up_self, wd_up_eq, wd_up_ne, Int.toNat_natCast, Int.toNat_of_nonneg, not_true_eq_false, not_false_eq_true, Option.some.injEq, hn1, e110, wd_l103, wd_l104, wd_l105, wd_l106, wd_l107, wd_l108, wd_l109, wd_l110, wd_l111, wd_l112, wd_l113, wd_l114, wd_l115, wd_l116, wd_l117, wd_l118, wd_l119, wd_l120, wd_l121, wd_l122, wd_l123, wd_l124]); omega)))); (intro v9 hv9; (try simp (disch := omega) only [ab_tI, ab_c0, wd_ix12, wd_ix8, wd_ix10, wd_up_self, wd_up_eq, wd_up_ne, Int.toNat_natCast, Int.toNat_of_nonneg, not_true_eq_false, not_false_eq_true, Option.some.injEq, hn1, e110] at hv9); subst hv9))
    | (apply w_basM; (focus (exact (by first | exact ⟨by decide, by decide⟩ | ((try simp (disch := omega) only [ab_tI, ab_c0, wd_ix12, wd_ix8, wd_ix10, wd_up_self, wd_up_eq, wd_up_ne, Int.toNat_natCast, Int.toNat_of_nonneg, not_true_eq_false, not_false_eq_true, Option.some.injEq, hn1, e110, wd_l103, wd_l104, wd_l105, wd_l106, wd_l107, wd_l108, wd_l109, wd_l110, wd_l111, wd_l112, wd_l113, wd_l114, wd_l115, wd_l116, wd_l117, wd_l118, wd_l119, wd_l120, wd_l121, wd_l122, wd_l123, wd_l124]); omega)))); (focus (first | exact Or.inl rfl | exact Or.inr rfl)); (intro v9 hv9; (try simp (disch := omega) only [ab_tI, ab_c0, wd_ix12, wd_ix8, wd_ix10, wd_up_self, wd_up_eq, wd_up_ne, Int.toNat_natCast, Int.toNat_of_nonneg, not_true_eq_false, not_false_eq_true, Option.some.injEq, hn1, e110] at hv9); subst hv9))
    | (refine And.intro trivial ?_)
    | (refine And.intro (Or.inl rfl) ?_)
    | (refine And.intro (Or.inr rfl) ?_)
    | (refine And.intro (by ((try simp (disch := omega) only [ab_tI, ab_c0, wd_ix12, wd_ix8, wd_ix10, wd_up_self, wd_up_eq, wd_up_ne, Int.toNat_natCast, Int.toNat_of_nonneg, not_true_eq_false, not_false_eq_true, Option.some.injEq, hn1, e110]); omega)) ?_)
    | fail)
        all_goals first | exact hF | (exfalso; omega)
    · rw [if_neg hmd] at hco
      have hN := hN hmd
      (have chk9 := @hn1; clear chk9); repeat' ((conv => whnf); first
    | (refine hC9 173 _ _ _ (hco _ ?_))
    | (intro v9 hv9; (try simp (disch := omega) only [ab_tI, ab_c0, wd_ix12, wd_ix8, wd_ix10, wd_up_self, wd_up_eq, wd_up_ne, Int.toNat_natCast, Int.toNat_of_nonneg, not_true_eq_false, not_false_eq_true, Option.some.injEq, hn1, e110] at hv9); subst hv9)
    | (apply i_get; (focus (exact rfl)); (focus (exact rfl)))
    | (refine hX9 _ _ _ _ (wd_rnC rfl ?_); clear hC9 hX9 X9 C9; intro C9 X9 hC9 hX9)
    | (apply w_ialM; (focus (exact rfl)); (focus (exact (by first | exact ⟨by decide, by decide⟩ | ((try simp (disch := omega) only [ab_tI, ab_c0, wd_ix12, wd_ix8, wd_ix10, wd_up_self, wd_up_eq, wd_up_ne, Int.toNat_natCast, Int.toNat_of_nonneg, not_true_eq_false, not_false_eq_true, Option.some.injEq, hn1, e110, wd_l103, wd_l104, wd_l105, wd_l106, wd_l107, wd_l108, wd_l109, wd_l110, wd_l111, wd_l112, wd_l113, wd_l114, wd_l115, wd_l116, wd_l117, wd_l118, wd_l119, wd_l120, wd_l121, wd_l122, wd_l123, wd_l124]); omega)))); (intro v9 hv9; (try simp (disch := omega) only [ab_tI, ab_c0, wd_ix12, wd_ix8, wd_ix10, wd_up_self, wd_up_eq, wd_up_ne, Int.toNat_natCast, Int.toNat_of_nonneg, not_true_eq_false, not_false_eq_true, Option.some.injEq, hn1, e110] at hv9); subst hv9))
    | (apply w_putM; (focus (exact rfl)); (focus (first | exact trivial | exact Or.inl rfl | exact Or.inr rfl)); (focus (exact rfl)))
    | (apply w_iasM; (focus (exact rfl)); (focus (exact (by first | exact ⟨by decide, by decide⟩ | ((try simp (disch := omega) only [ab_tI, ab_c0, wd_ix12, wd_ix8, wd_ix10, wd_up_self, wd_up_eq, wd_up_ne, Int.toNat_natCast, Int.toNat_of_nonneg, not_true_eq_false, not_false_eq_true, Option.some.injEq, hn1, e110, wd_l103, wd_l104, wd_l105, wd_l106, wd_l107, wd_l108, wd_l109, wd_l110, wd_l111, wd_l112, wd_l113, wd_l114, wd_l115, wd_l116, wd_l117, wd_l118, wd_l119, wd_l120, wd_l121, wd_l122, wd_l123, wd_l124]); omega)))); (intro v9 hv9; (try simp (disch := omega) only [ab_tI, ab_c0, wd_ix12, wd_ix8, wd_ix10, wd_up_self, wd_up_eq, wd_up_ne, Int.toNat_natCast, Int.toNat_of_nonneg, not_true_eq_false, not_false_eq_true, Option.some.injEq, hn1, e110] at hv9); subst hv9))
    | (refine i_brF (by decide) ?_)
    | (refine i_brT (by decide) ?_)
    | (refine ⟨fun hc => ?_, fun hc => ?_⟩ <;> (try simp (disch := omega) only [ab_tI, ab_c0, wd_ix12, wd_ix8, wd_ix10, wd_up_self, wd_up_eq, wd_up_ne, Int.toNat_natCast, Int.toNat_of_nonneg, not_true_eq_false, not_false_eq_true, Option.some.injEq, hn1, e110] at hc) <;> first | (exfalso; omega) | skip)
    | (apply i_cv; (focus (exact rfl)))
    | (apply w_balM; (focus (exact (by first | exact ⟨by decide, by decide⟩ | ((try simp (disch := omega) only [ab_tI, ab_c0, wd_ix12, wd_ix8, wd_ix10, wd_up_self, wd_up_eq, wd_up_ne, Int.toNat_natCast, Int.toNat_of_nonneg, not_true_eq_false, not_false_eq_true, Option.some.injEq, hn1, e110, wd_l103, wd_l104, wd_l105, wd_l106, wd_l107, wd_l108, wd_l109, wd_l110, wd_l111, wd_l112, wd_l113, wd_l114, wd_l115, wd_l116, wd_l117, wd_l118, wd_l119, wd_l120, wd_l121, wd_l122, wd_l123, wd_l124]); omega)))); (intro v9 hv9; (try simp (disch := omega) only [ab_tI, ab_c0, wd_ix12, wd_ix8, wd_ix10, wd_up_self, wd_up_eq, wd_up_ne, Int.toNat_natCast, Int.toNat_of_nonneg, not_true_eq_false, not_false_eq_true, Option.some.injEq, hn1, e110] at hv9); subst hv9))
    | (apply w_basM; (focus (exact (by first | exact ⟨by decide, by decide⟩ | ((try simp (disch := omega) only [ab_tI, ab_c0, wd_ix12, wd_ix8, wd_ix10, wd_up_self, wd_up_eq, wd_up_ne, Int.toNat_natCast, Int.toNat_of_nonneg, not_true_eq_false, not_false_eq_true, Option.some.injEq, hn1, e110, wd_l103, wd_l104, wd_l105, wd_l106, wd_l107, wd_l108, wd_l109, wd_l110, wd_l111, wd_l112, wd_l113, wd_l114, wd_l115, wd_l116, wd_l117, wd_l118, wd_l119, wd_l120, wd_l121, wd_l122, wd_l123, wd_l124]); omega)))); (focus (first | exact Or.inl rfl | exact Or.inr rfl)); (intro v9 hv9; (try simp (disch := omega) only [ab_tI, ab_c0, wd_ix12, wd_ix8, wd_ix10, wd_up_self, wd_up_eq, wd_up_ne, Int.toNat_natCast, Int.toNat_of_nonneg, not_true_eq_false, not_false_eq_true, Option.some.injEq, hn1, e110] at hv9); subst hv9))
    | (refine And.intro trivial ?_)
    | (refine And.intro (Or.inl rfl) ?_)
    | (refine And.intro (Or.inr rfl) ?_)
    | (refine And.intro (by ((try simp (disch := omega) only [ab_tI, ab_c0, wd_ix12, wd_ix8, wd_ix10, wd_up_self, wd_up_eq, wd_up_ne, Int.toNat_natCast, Int.toNat_of_nonneg, not_true_eq_false, not_false_eq_true, Option.some.injEq, hn1, e110]); omega)) ?_)
    | fail)
      all_goals first | exact hN | (exfalso; omega)
  · have hb := hb hfo
    unfold m_fok m_sh m_pa at hfo
    refine wd_inC rfl (by omega) rfl ?_
    intro C9 X9 hC9 hX9
    repeat' ((conv => whnf); first
    | (refine hC9 134 _ _ _ (x_isShelf (by omega) (fun hc hc2 => ?_) (fun hc => ?_)))
    | (refine hC9 135 _ _ _ (x_isPath (by omega) (fun hc hc2 => ?_) (fun hc => ?_)))
    | (intro v9 hv9; (try simp (disch := omega) only [ab_tI, ab_c0, wd_ix12, wd_ix8, wd_ix10, wd_up_self, wd_up_eq, wd_up_ne, Int.toNat_natCast, Int.toNat_of_nonneg, not_true_eq_false, not_false_eq_true, Option.some.injEq] at hv9); subst hv9)
    | (apply i_get; (focus (exact rfl)); (focus (exact rfl)))
    | (refine hX9 _ _ _ _ (wd_rnC rfl ?_); clear hC9 hX9 X9 C9; intro C9 X9 hC9 hX9)
    | (apply w_ialM; (focus (exact rfl)); (focus (exact (by first | exact ⟨by decide, by decide⟩ | ((try simp (disch := omega) only [ab_tI, ab_c0, wd_ix12, wd_ix8, wd_ix10, wd_up_self, wd_up_eq, wd_up_ne, Int.toNat_natCast, Int.toNat_of_nonneg, not_true_eq_false, not_false_eq_true, Option.some.injEq, wd_l103, wd_l104, wd_l105, wd_l106, wd_l107, wd_l108, wd_l109, wd_l110, wd_l111, wd_l112, wd_l113, wd_l114, wd_l115, wd_l116, wd_l117, wd_l118, wd_l119, wd_l120, wd_l121, wd_l122, wd_l123, wd_l124]); omega)))); (intro v9 hv9; (try simp (disch := omega) only [ab_tI, ab_c0, wd_ix12, wd_ix8, wd_ix10, wd_up_self, wd_up_eq, wd_up_ne, Int.toNat_natCast, Int.toNat_of_nonneg, not_true_eq_false, not_false_eq_true, Option.some.injEq] at hv9); subst hv9))
    | (apply w_putM; (focus (exact rfl)); (focus (first | exact trivial | exact Or.inl rfl | exact Or.inr rfl)); (focus (exact rfl)))
    | (apply w_iasM; (focus (exact rfl)); (focus (exact (by first | exact ⟨by decide, by decide⟩ | ((try simp (disch := omega) only [ab_tI, ab_c0, wd_ix12, wd_ix8, wd_ix10, wd_up_self, wd_up_eq, wd_up_ne, Int.toNat_natCast, Int.toNat_of_nonneg, not_true_eq_false, not_false_eq_true, Option.some.injEq, wd_l103, wd_l104, wd_l105, wd_l106, wd_l107, wd_l108, wd_l109, wd_l110, wd_l111, wd_l112, wd_l113, wd_l114, wd_l115, wd_l116, wd_l117, wd_l118, wd_l119, wd_l120, wd_l121, wd_l122, wd_l123, wd_l124]); omega)))); (intro v9 hv9; (try simp (disch := omega) only [ab_tI, ab_c0, wd_ix12, wd_ix8, wd_ix10, wd_up_self, wd_up_eq, wd_up_ne, Int.toNat_natCast, Int.toNat_of_nonneg, not_true_eq_false, not_false_eq_true, Option.some.injEq] at hv9); subst hv9))
    | (refine i_brF (by decide) ?_)
    | (refine i_brT (by decide) ?_)
    | (refine ⟨fun hc => ?_, fun hc => ?_⟩ <;> (try simp (disch := omega) only [ab_tI, ab_c0, wd_ix12, wd_ix8, wd_ix10, wd_up_self, wd_up_eq, wd_up_ne, Int.toNat_natCast, Int.toNat_of_nonneg, not_true_eq_false, not_false_eq_true, Option.some.injEq] at hc) <;> first | (exfalso; omega) | skip)
    | (apply i_cv; (focus (exact rfl)))
    | (apply w_balM; (focus (exact (by first | exact ⟨by decide, by decide⟩ | ((try simp (disch := omega) only [ab_tI, ab_c0, wd_ix12, wd_ix8, wd_ix10, wd_up_self, wd_up_eq, wd_up_ne, Int.toNat_natCast, Int.toNat_of_nonneg, not_true_eq_false, not_false_eq_true, Option.some.injEq, wd_l103, wd_l104, wd_l105, wd_l106, wd_l107, wd_l108, wd_l109, wd_l110, wd_l111, wd_l112, wd_l113, wd_l114, wd_l115, wd_l116, wd_l117, wd_l118, wd_l119, wd_l120, wd_l121, wd_l122, wd_l123, wd_l124]); omega)))); (intro v9 hv9; (try simp (disch := omega) only [ab_tI, ab_c0, wd_ix12, wd_ix8, wd_ix10, wd_up_self, wd_up_eq, wd_up_ne, Int.toNat_natCast, Int.toNat_of_nonneg, not_true_eq_false, not_false_eq_true, Option.some.injEq] at hv9); subst hv9))
    | (apply w_basM; (focus (exact (by first | exact ⟨by decide, by decide⟩ | ((try simp (disch := omega) only [ab_tI, ab_c0, wd_ix12, wd_ix8, wd_ix10, wd_up_self, wd_up_eq, wd_up_ne, Int.toNat_natCast, Int.toNat_of_nonneg, not_true_eq_false, not_false_eq_true, Option.some.injEq, wd_l103, wd_l104, wd_l105, wd_l106, wd_l107, wd_l108, wd_l109, wd_l110, wd_l111, wd_l112, wd_l113, wd_l114, wd_l115, wd_l116, wd_l117, wd_l118, wd_l119, wd_l120, wd_l121, wd_l122, wd_l123, wd_l124]); omega)))); (focus (first | exact Or.inl rfl | exact Or.inr rfl)); (intro v9 hv9; (try simp (disch := omega) only [ab_tI, ab_c0, wd_ix12, wd_ix8, wd_ix10, wd_up_self, wd_up_eq, wd_up_ne, Int.toNat_natCast, Int.toNat_of_nonneg, not_true_eq_false, not_false_eq_true, Option.some.injEq] at hv9); subst hv9))
    | (refine And.intro trivial ?_)
    | (refine And.intro (Or.inl rfl) ?_)
    | (refine And.intro (Or.inr rfl) ?_)
    | (refine And.intro (by ((try simp (disch := omega) only [ab_tI, ab_c0, wd_ix12, wd_ix8, wd_ix10, wd_up_self, wd_up_eq, wd_up_ne, Int.toNat_natCast, Int.toNat_of_nonneg, not_true_eq_false, not_false_eq_true, Option.some.injEq]); omega)) ?_)
    | fail)
    all_goals first | exact hb | (exfalso; omega)
end
section
/-! ===== the reference: what is read are good rows (own text) ===== -/
/-- not failed behind it: not failed ahead of it -/
def m_uf (M N : wd_I) : Prop := (N 102 24).toInt = -1 → (M 102 24).toInt = -1
theorem m_uf.tr {M N K : wd_I} (h : m_uf M N) (h' : m_uf N K) : m_uf M K := fun q => h (h' q)
theorem m_uf_e {M N : wd_I} (h : N 102 24 = M 102 24) : m_uf M N := fun q => by rw [← h]; exact q
theorem m_fails_uf {M : wd_I} {p : Int32} : m_uf M (m_fails M p) := fun q => by
  unfold m_fails at q
  rw [wd_up_self] at q
  split at q
  · assumption
  · exact q
theorem m_stp_uf {M : wd_I} : m_uf M (m_stp M) := m_uf_e (wd_up_ne _ _ (Or.inr (by decide)))
theorem m_one_uf {M : wd_I} {lo hi : Int32} : m_uf M (m_one M lo hi).1 := by
  unfold m_one
  split
  · exact m_stp_uf
  · exact m_fails_uf
theorem m_dgl_uf : ∀ (r : Nat) {M : wd_I} {n : Int32}, m_uf M (m_dgl r M n).1
  | 0, M, n => m_uf_e rfl
  | r + 1, M, n => by
    unfold m_dgl
    split
    · exact m_stp_uf.tr (m_dgl_uf r)
    · exact m_uf_e rfl
theorem m_digits_uf {M : wd_I} {most : Nat} : m_uf M (m_digits M most).1 := by
  unfold m_digits
  exact m_one_uf.tr (m_dgl_uf _)
theorem m_signed_uf {M : wd_I} : m_uf M (m_signed M).1 := by
  unfold m_signed
  split
  · exact m_stp_uf.tr m_digits_uf
  · exact m_digits_uf
theorem m_ltl_uf : ∀ (r : Nat) {M : wd_I} {n : Int32}, m_uf M (m_ltl r M n).1
  | 0, M, n => m_uf_e rfl
  | r + 1, M, n => by
    unfold m_ltl
    split
    · exact m_stp_uf.tr (m_ltl_uf r)
    · exact m_uf_e rfl
theorem m_letters_uf {M : wd_I} : m_uf M (m_letters M).1 := by
  unfold m_letters
  exact m_one_uf.tr (m_ltl_uf _)
theorem m_e1_uf {M : wd_I} {t : Int32} {s : Nat} : m_uf M (m_e1 M t s) := by
  unfold m_e1
  split
  · exact m_letters_uf.tr m_fails_uf
  · exact m_letters_uf
theorem m_e2_uf {M : wd_I} {t : Int32} {s : Nat} : m_uf M (m_e2 M t s) := m_e1_uf.tr m_one_uf
/-- a second of one key fails -/
theorem m_e1_dup {M : wd_I} {t : Int32} {s : Nat} (h : m_tp M) (hf : (m_e1 M t s 102 24).toInt = -1) : (m_hk (m_letters M).1 t.toInt.toNat (m_letters M).2 s).toInt = 0 := by
  by_cases hk : (m_hk (m_letters M).1 t.toInt.toNat (m_letters M).2 s).toInt = 0
  · exact hk
  · have hlf : ((m_letters M).1 102 24).toInt = -1 := by
      unfold m_e1 at hf
      split at hf
      · next hc => exact hc.1
      · exact hf
    unfold m_e1 at hf
    rw [if_pos ⟨hlf, hk⟩] at hf
    unfold m_fails at hf
    rw [wd_up_self, if_pos hlf] at hf
    have := h.1
    omega
/-- what has been read of a thing: its rows from n on -/
def m_rq (n : Int) (hb : Int) (M : wd_I) : Prop := ∀ q : Nat, n ≤ (q : Int) → (q : Int) < (M 102 8).toInt → m_gr (fun x => n ≤ x ∧ x < (M 102 8).toInt) M q ∧ (M 106 q).toInt ≤ 150 ∧ (M 107 q).toInt ≤ hb
/-- a reading that went well -/
def m_rw2 (hb : Int) (M : wd_I) (R : wd_I × Int32) : Prop := (R.1 102 24).toInt = -1 → m_rq (M 102 8).toInt hb R.1 ∧ (M 102 8).toInt ≤ R.2.toInt ∧ (1 ≤ (R.1 106 R.2.toInt.toNat).toInt ∧ (R.1 106 R.2.toInt.toNat).toInt ≤ m_pt M - m_pt R.1) ∧ (0 ≤ (R.1 107 R.2.toInt.toNat).toInt ∧ (R.1 107 R.2.toInt.toNat).toInt ≤ hb) ∧ (R.1 102 25).toInt = (M 102 25).toInt + (R.1 106 R.2.toInt.toNat).toInt ∧ (R.1 102 8).toInt = (M 102 8).toInt + (R.1 106 R.2.toInt.toNat).toInt
def m_r25 (M : wd_I) : Prop := 0 ≤ (M 102 25).toInt ∧ (M 102 25).toInt + m_pt M ≤ 1000
def m_rG2 (hb : Int) (G : wd_I → wd_I × Int32) : Prop := m_rG G ∧ (∀ N, m_rp N → m_uf N (G N).1) ∧ ∀ N, m_rp N → m_r25 N → m_rw2 hb N (G N)
/-- a thing in the making, of what is read within -/
def m_ip (hb : Int) (M0 M : wd_I) (t sort : Int32) (s : Nat) : Prop := M 103 t.toInt.toNat = sort ∧ (M 105 t.toInt.toNat).toInt = (s : Int) ∧ m_rq (t.toInt + 1) hb M ∧
  (∀ j, j < s → (t.toInt + 1 ≤ (M 108 (12 * t.toInt.toNat + j)).toInt ∧ (M 108 (12 * t.toInt.toNat + j)).toInt < (M 102 8).toInt) ∧ 1 ≤ (M 106 (M 108 (12 * t.toInt.toNat + j)).toInt.toNat).toInt ∧ (0 ≤ (M 107 (M 108 (12 * t.toInt.toNat + j)).toInt.toNat).toInt ∧ (M 107 (M 108 (12 * t.toInt.toNat + j)).toInt.toNat).toInt ≤ hb)) ∧
  m_nds M t.toInt.toNat s + m_pt M ≤ m_pt M0 ∧ (M 102 25).toInt = (M0 102 25).toInt + m_nds M t.toInt.toNat s ∧
  (¬ sort.toInt = 3 → ∀ j, j < s → (M 109 (12 * t.toInt.toNat + j)).toInt = 0) ∧ (sort.toInt = 3 → ∀ j, j + 1 < s → (M 109 (12 * t.toInt.toNat + j)).toInt < (M 109 (12 * t.toInt.toNat + (j + 1))).toInt) ∧ (M 102 8).toInt = t.toInt + m_nds M t.toInt.toNat s
theorem m_rq_sb {n hb : Int} {M N : wd_I} (h : m_rq n hb M) (hs : m_sb (M 102 8).toInt M N) (h8 : N 102 8 = M 102 8) (h0 : 0 ≤ n) : m_rq n hb N := fun q h1 h2 => by
  rw [h8] at h2
  obtain ⟨a1, a2, a3⟩ := h q h1 h2
  have hr := hs.ra h2
  exact ⟨m_gr_ra a1 hr (fun x hx hxD => hs.ra (by omega)) (fun x _ hx => by rw [h8]; exact hx), by rw [hr.2.2.2.1]; exact a2, by rw [hr.2.2.2.2.1]; exact a3⟩
/-- scanning leaves it, but for what is counted -/
theorem m_ip_sc {hb : Int} {M0 M N : wd_I} {t sort : Int32} {s : Nat} (h : m_ip hb M0 M t sort s) (h0 : 0 ≤ t.toInt) (hs : m_sc M N) : m_ip hb M0 N t sort s := by
  obtain ⟨a1, a2, a3, a4, a5, a6, a7, a8, a9⟩ := h
  obtain ⟨h1, h2, h3, h4⟩ := hs
  have e8 : N 102 8 = M 102 8 := h2 8 (by decide) (by decide)
  have e25 : N 102 25 = M 102 25 := h2 25 (by decide) (by decide)
  have en : m_nds N t.toInt.toNat s = m_nds M t.toInt.toNat s := m_nds_ra s (fun j _ => ⟨by rw [h1 108 (by decide)], by rw [h1 106 (by decide)]⟩)
  refine ⟨by rw [h1 103 (by decide)]; exact a1, by rw [h1 105 (by decide)]; exact a2, m_rq_sb a3 ⟨fun q _ => ⟨by rw [h1 103 (by decide)], by rw [h1 104 (by decide)], by rw [h1 105 (by decide)], by rw [h1 106 (by decide)], by rw [h1 107 (by decide)]⟩, fun i _ => ⟨by rw [h1 108 (by decide)], by rw [h1 109 (by decide)]⟩⟩ e8 (by omega), ?_, by rw [en]; omega, by rw [en, e25]; exact a6, ?_, ?_, by rw [en, e8]; exact a9⟩
  · rw [h1 108 (by decide), h1 106 (by decide), h1 107 (by decide), e8]; exact a4
  · rw [h1 109 (by decide)]; exact a7
  · rw [h1 109 (by decide)]; exact a8
theorem m_ip_r25 {hb : Int} {M0 M : wd_I} {t sort : Int32} {s : Nat} (h : m_ip hb M0 M t sort s) (h0 : m_r25 M0) : m_r25 M := by
  obtain ⟨a1, a2, a3, a4, a5, a6, a7, a8⟩ := h
  have hge : 1 ≤ m_nds M t.toInt.toNat s := m_nds_mono (N := M) (q := t.toInt.toNat) (s := s) (fun j hj => by have := (a4 j hj).2.1; omega) 0 s (by omega) (Nat.le_refl _)
  unfold m_r25 at h0 ⊢
  omega
end
section
/-! ===== the reference: a part comes to what is read (own text) ===== -/
theorem m_nds_ins {A B : wd_I} {q s k : Nat} {v : Int} (h1 : ∀ j, j < k → (B 106 (B 108 (12 * q + j)).toInt.toNat).toInt = (A 106 (A 108 (12 * q + j)).toInt.toNat).toInt) (h2 : (B 106 (B 108 (12 * q + k)).toInt.toNat).toInt = v) (h3 : ∀ j, k ≤ j → j < s → (B 106 (B 108 (12 * q + (j + 1))).toInt.toNat).toInt = (A 106 (A 108 (12 * q + j)).toInt.toNat).toInt) : (∀ i, i ≤ k → m_nds B q i = m_nds A q i) ∧ ∀ i, k ≤ i → i ≤ s → m_nds B q (i + 1) = m_nds A q i + v := by
  have hlo : ∀ i, i ≤ k → m_nds B q i = m_nds A q i := by
    intro i
    induction i with
    | zero => intro _; rfl
    | succ i ih =>
      intro hi
      have := ih (by omega)
      have := h1 i (by omega)
      unfold m_nds
      omega
  refine ⟨hlo, fun i => ?_⟩
  induction i with
  | zero =>
    intro hk _
    have e : k = 0 := by omega
    subst e
    show m_nds B q 0 + _ = m_nds A q 0 + v
    rw [hlo 0 (by omega), h2]
  | succ i ih =>
    intro hk hs
    by_cases e : k = i + 1
    · subst e
      show m_nds B q (i + 1) + _ = m_nds A q (i + 1) + v
      rw [hlo (i + 1) (by omega), h2]
    · have h4 := ih (by omega) (by omega)
      have h5 := h3 i (by omega) (by omega)
      show m_nds B q (i + 1) + (B 106 (B 108 (12 * q + (i + 1))).toInt.toNat).toInt = m_nds A q i + (A 106 (A 108 (12 * q + i)).toInt.toNat).toInt + v
      omega
theorem m_ip_ins {hb : Int} {M0 N N1 X : wd_I} {t sort p : Int32} {s k : Nat} (h : m_ip hb M0 N t sort s) (h11 : s ≤ 11) (h0 : 0 ≤ t.toInt) (ht : t.toInt < (N 102 8).toInt) (g : m_rg N N1)
    (w : m_rq (N 102 8).toInt hb N1 ∧ (N 102 8).toInt ≤ p.toInt ∧ (1 ≤ (N1 106 p.toInt.toNat).toInt ∧ (N1 106 p.toInt.toNat).toInt ≤ m_pt N - m_pt N1) ∧ (0 ≤ (N1 107 p.toInt.toNat).toInt ∧ (N1 107 p.toInt.toNat).toInt ≤ hb) ∧ (N1 102 25).toInt = (N 102 25).toInt + (N1 106 p.toInt.toNat).toInt ∧ (N1 102 8).toInt = (N 102 8).toInt + (N1 106 p.toInt.toNat).toInt) (hp : p.toInt < (N1 102 8).toInt)
    (hk : k ≤ s) (x102 : X 102 = N1 102) (xra : ∀ q : Nat, q ≠ t.toInt.toNat → m_ra N1 X q) (x103 : X 103 t.toInt.toNat = N1 103 t.toInt.toNat) (x105 : (X 105 t.toInt.toNat).toInt = ((s + 1 : Nat) : Int)) (x108 : ∀ j, j ≤ s → X 108 (12 * t.toInt.toNat + j) = if j = k then p else if k < j then N1 108 (12 * t.toInt.toNat + (j - 1)) else N1 108 (12 * t.toInt.toNat + j))
    (hk0 : ¬ sort.toInt = 3 → ∀ j, j < s + 1 → (X 109 (12 * t.toInt.toNat + j)).toInt = 0) (hk3 : sort.toInt = 3 → ∀ j, j + 1 < s + 1 → (X 109 (12 * t.toInt.toNat + j)).toInt < (X 109 (12 * t.toInt.toNat + (j + 1))).toInt) : m_ip hb M0 X t sort (s + 1) := by
  obtain ⟨a1, a2, a3, a4, a5, a6, a7, a8, a9⟩ := h
  obtain ⟨w1, w2, w3, w4, w5, w6⟩ := w
  have hsb := g.1.1
  have hrt := hsb.ra (q := t.toInt.toNat) (by omega)
  have g8 := g.2.2.1
  have e8 : X 102 8 = N1 102 8 := by rw [x102]
  have ept : m_pt X = m_pt N1 := by unfold m_pt; rw [x102]
  -- the old parts
  have hold : ∀ j, j < s → N1 108 (12 * t.toInt.toNat + j) = N 108 (12 * t.toInt.toNat + j) ∧ X 106 (N1 108 (12 * t.toInt.toNat + j)).toInt.toNat = N 106 (N 108 (12 * t.toInt.toNat + j)).toInt.toNat ∧ X 107 (N1 108 (12 * t.toInt.toNat + j)).toInt.toNat = N 107 (N 108 (12 * t.toInt.toNat + j)).toInt.toNat := fun j hj => by
    obtain ⟨b1, b2, b3⟩ := a4 j hj
    have e := (hrt.2.2.2.2.2 j (by omega)).1
    have r1 := hsb.ra (q := (N 108 (12 * t.toInt.toNat + j)).toInt.toNat) (by omega)
    have r2 := xra (N 108 (12 * t.toInt.toNat + j)).toInt.toNat (by omega)
    rw [e]
    exact ⟨rfl, r2.2.2.2.1.trans r1.2.2.2.1, r2.2.2.2.2.1.trans r1.2.2.2.2.1⟩
  have rp := xra p.toInt.toNat (by omega)
  have hlo : ∀ j, j < k → X 108 (12 * t.toInt.toNat + j) = N1 108 (12 * t.toInt.toNat + j) := fun j hj => by rw [x108 j (by omega), if_neg (by omega), if_neg (by omega)]
  have hat : X 108 (12 * t.toInt.toNat + k) = p := by rw [x108 k hk, if_pos rfl]
  have hhi : ∀ j, k ≤ j → j < s → X 108 (12 * t.toInt.toNat + (j + 1)) = N1 108 (12 * t.toInt.toNat + j) := fun j hj hj2 => by rw [x108 (j + 1) (by omega), if_neg (by omega), if_pos (by omega)]; rfl
  have hins := m_nds_ins (A := N) (B := X) (q := t.toInt.toNat) (s := s) (k := k) (v := (N1 106 p.toInt.toNat).toInt) (fun j hj => by rw [hlo j hj, (hold j (by omega)).2.1]) (by rw [hat, rp.2.2.2.1]) (fun j hj hj2 => by rw [hhi j hj hj2, (hold j hj2).2.1])
  have hsum := hins.2 s hk (Nat.le_refl _)
  refine ⟨by rw [x103, hrt.1]; exact a1, x105, fun q hq1 hq2 => ?_, fun j hj => ?_, by rw [hsum, ept]; omega, by rw [hsum, x102, w5, a6]; omega, hk0, hk3, by rw [hsum, e8]; omega⟩
  · rw [e8] at hq2 ⊢
    have rq := xra q (by omega)
    by_cases hqN : (q : Int) < (N 102 8).toInt
    · obtain ⟨b1, b2, b3⟩ := a3 q hq1 hqN
      have r1 := (hsb.ra hqN).tr rq
      exact ⟨m_gr_ra b1 r1 (fun x hx hxD => (hsb.ra (by omega)).tr (xra _ (by omega))) (fun x _ hx => by omega), by rw [r1.2.2.2.1]; exact b2, by rw [r1.2.2.2.2.1]; exact b3⟩
    · obtain ⟨b1, b2, b3⟩ := w1 q (by omega) hq2
      exact ⟨m_gr_ra b1 rq (fun x hx hxD => xra _ (by omega)) (fun x _ hx => by omega), by rw [rq.2.2.2.1]; exact b2, by rw [rq.2.2.2.2.1]; exact b3⟩
  · rw [e8]
    by_cases e : j = k
    · subst e
      rw [hat, rp.2.2.2.1, rp.2.2.2.2.1]
      exact ⟨⟨by omega, hp⟩, w3.1, w4⟩
    · by_cases e2 : j < k
      · obtain ⟨b1, b2, b3⟩ := a4 j (by omega)
        rw [hlo j e2, (hold j (by omega)).2.1, (hold j (by omega)).2.2, (hold j (by omega)).1]
        exact ⟨⟨b1.1, by omega⟩, b2, b3⟩
      · obtain ⟨j', rfl⟩ : ∃ j', j = j' + 1 := ⟨j - 1, by omega⟩
        obtain ⟨b1, b2, b3⟩ := a4 j' (by omega)
        rw [hhi j' (by omega) (by omega), (hold j' (by omega)).2.1, (hold j' (by omega)).2.2, (hold j' (by omega)).1]
        exact ⟨⟨b1.1, by omega⟩, b2, b3⟩
theorem m_adds_ra {M : wd_I} {t key p : Int32} {s q : Nat} (h11 : s ≤ 11) (hq : q ≠ t.toInt.toNat) : m_ra M (m_adds M t key p s) q := by
  refine ⟨by rw [m_adds_kd], by rw [m_adds_wo], ?_, ?_, ?_, fun j hj => ⟨?_, ?_⟩⟩
  · unfold m_adds; rw [wd_up_ne _ _ (Or.inr hq), wd_up_row _ _ _ (by decide), wd_up_row _ _ _ (by decide)]
  · unfold m_adds; rw [wd_up_row _ _ _ (by decide), wd_up_row _ _ _ (by decide), wd_up_row _ _ _ (by decide)]
  · unfold m_adds; rw [wd_up_row _ _ _ (by decide), wd_up_row _ _ _ (by decide), wd_up_row _ _ _ (by decide)]
  · rw [m_adds_pn (by omega)]
  · unfold m_adds; rw [wd_up_row _ _ _ (by decide), wd_up_ne _ _ (Or.inr (by omega)), wd_up_row _ _ _ (by decide)]
theorem m_puts_ra {M : wd_I} {t key p : Int32} {s q : Nat} (h11 : s ≤ 11) (hq : q ≠ t.toInt.toNat) : m_ra M (m_puts M t key p s) q := by
  have hle := m_pk_le (M := M) (t := t) (key := key) (s := s)
  have e1 : ∀ a, a ≠ 108 → a ≠ 109 → a ≠ 105 → m_puts M t key p s a = M a := fun a h1 h2 h3 => by
    unfold m_puts m_puts1
    rw [wd_up_row _ _ _ h2, wd_up_row _ _ _ h1]
    split
    · rw [wd_up_row _ _ _ h3, m_psh_row h1 h2]
    · rfl
  have e5 : m_puts M t key p s 105 q = M 105 q := by
    unfold m_puts m_puts1
    rw [wd_up_row _ _ _ (by decide), wd_up_row _ _ _ (by decide)]
    split
    · rw [wd_up_ne _ _ (Or.inr hq), m_psh_row (by decide) (by decide)]
    · rfl
  refine ⟨by rw [e1 103 (by decide) (by decide) (by decide)], by rw [e1 104 (by decide) (by decide) (by decide)], e5, by rw [e1 106 (by decide) (by decide) (by decide)], by rw [e1 107 (by decide) (by decide) (by decide)], fun j hj => ⟨?_, ?_⟩⟩
  · unfold m_puts
    change (wd_up (wd_up (m_puts1 M t.toInt.toNat key s (m_pk M t key s)) 108 (12 * t.toInt.toNat + m_pk M t key s) p) 109 (12 * t.toInt.toNat + m_pk M t key s) key) 108 (12 * q + j) = _
    rw [wd_up_row _ _ _ (by decide), wd_up_ne _ _ (Or.inr (by omega))]
    unfold m_puts1
    split
    · rw [wd_up_row _ _ _ (by decide), m_psh_8 _ _ _ (by omega), if_neg (by omega)]
    · rfl
  · unfold m_puts
    change (wd_up (wd_up (m_puts1 M t.toInt.toNat key s (m_pk M t key s)) 108 (12 * t.toInt.toNat + m_pk M t key s) p) 109 (12 * t.toInt.toNat + m_pk M t key s) key) 109 (12 * q + j) = _
    rw [wd_up_ne _ _ (Or.inr (by omega)), wd_up_row _ _ _ (by decide)]
    unfold m_puts1
    split
    · rw [wd_up_row _ _ _ (by decide), m_psh_9 _ _ _ (by omega), if_neg (by omega)]
    · rfl
/-- where a key goes: behind the lesser ones -/
theorem m_ppos_lt {M : wd_I} {t : Nat} {key : Int32} : ∀ n i j, i ≤ j → j < m_ppos M t key n i → (M 109 (12 * t + j)).toInt < key.toInt
  | 0, i, j, hij, hj => by
    change j < i at hj
    omega
  | n + 1, i, j, hij, hj => by
    unfold m_ppos at hj
    split at hj
    next hc =>
      by_cases e : i = j
      · subst e; exact hc
      · exact m_ppos_lt n (i + 1) j (by omega) hj
    next hc => omega
theorem m_ppos_ge {M : wd_I} {t : Nat} {key : Int32} : ∀ n i, m_ppos M t key n i < i + n → key.toInt ≤ (M 109 (12 * t + m_ppos M t key n i)).toInt
  | 0, i, h => by
    change i < i + 0 at h
    omega
  | n + 1, i, h => by
    unfold m_ppos at h ⊢
    split at h
    next hc => rw [if_pos hc]; exact m_ppos_ge n (i + 1) (by omega)
    next hc => rw [if_neg hc]; omega
theorem m_hk_no {M : wd_I} {t : Nat} {key : Int32} : ∀ s, (m_hk M t key s).toInt = 0 → ∀ j, j < s → ¬ (M 109 (12 * t + j)).toInt = key.toInt
  | 0, _, j, hj => absurd hj (Nat.not_lt_zero _)
  | s + 1, h, j, hj => by
    unfold m_hk at h
    split at h
    next hc =>
      by_cases e : j = s
      · subst e; exact hc.2
      · exact m_hk_no s hc.1 j (by omega)
    next hc => exact absurd h (by decide)
/-- a new key in its place: still in order -/
theorem m_puts_sorted {M : wd_I} {t key p : Int32} {s : Nat} (hs : ∀ j, j + 1 < s → (M 109 (12 * t.toInt.toNat + j)).toInt < (M 109 (12 * t.toInt.toNat + (j + 1))).toInt) (hno : ∀ j, j < s → ¬ (M 109 (12 * t.toInt.toNat + j)).toInt = key.toInt) : m_pn M t key s ∧ ∀ j, j + 1 < s + 1 → (m_puts M t key p s 109 (12 * t.toInt.toNat + j)).toInt < (m_puts M t key p s 109 (12 * t.toInt.toNat + (j + 1))).toInt := by
  have hle := m_pk_le (M := M) (t := t) (key := key) (s := s)
  have hlt : ∀ j, j < m_pk M t key s → (M 109 (12 * t.toInt.toNat + j)).toInt < key.toInt := fun j hj => m_ppos_lt s 0 j (by omega) hj
  have hge : m_pk M t key s < s → key.toInt < (M 109 (12 * t.toInt.toNat + m_pk M t key s)).toInt := fun h => by
    have h1 : key.toInt ≤ (M 109 (12 * t.toInt.toNat + m_pk M t key s)).toInt := m_ppos_ge s 0 (by have : m_pk M t key s = m_ppos M t.toInt.toNat key s 0 := rfl; omega)
    have := hno _ h
    omega
  have hpn : m_pn M t key s := by
    unfold m_pn
    by_cases e : m_pk M t key s = s
    · exact Or.inl e
    · exact Or.inr (hno _ (by omega))
  refine ⟨hpn, fun j hj => ?_⟩
  rw [m_puts_9, m_puts_9]
  generalize m_pk M t key s = kk at *
  by_cases e1 : j = kk
  · subst e1
    rw [if_pos rfl, if_neg (by omega), if_pos ⟨hpn, by omega, by omega⟩]
    exact hge (by omega)
  · rw [if_neg e1]
    by_cases e2 : j + 1 = kk
    · rw [if_pos e2, if_neg (by omega)]
      exact hlt j (by omega)
    · rw [if_neg e2]
      by_cases e3 : kk < j
      · obtain ⟨j', rfl⟩ : ∃ j', j = j' + 1 := ⟨j - 1, by omega⟩
        rw [if_pos ⟨hpn, by omega, by omega⟩, if_pos ⟨hpn, by omega, by omega⟩]
        exact hs j' (by omega)
      · rw [if_neg (by omega), if_neg (by omega)]
        exact hs j (by omega)
end
section
/-! ===== the reference: what is read are good rows, whole (own text) ===== -/
theorem m_adds_uf {M N : wd_I} {t key p : Int32} {s : Nat} (h : m_uf M N) : m_uf M (m_adds N t key p s) := fun q => h (by rw [m_adds_102] at q; exact q)
theorem m_puts_uf {M N : wd_I} {t key p : Int32} {s : Nat} (h : m_uf M N) : m_uf M (m_puts N t key p s) := fun q => h (by rw [m_puts_102] at q; exact q)
theorem m_item_uf {hb : Int} {G : wd_I → wd_I × Int32} (hG : m_rG2 hb G) {mp : Int} {M : wd_I} {t : Int32} {s : Nat} (hp : m_rp M) : m_uf M (m_item G mp M t s) := by
  unfold m_item
  split
  · unfold m_ent m_e3
    have h2 : m_uf M (G (m_e2 M t s)).1 := m_e2_uf.tr (hG.2.1 _ ((m_e2_sc hp.1).rg.rp hp))
    split
    · exact m_puts_uf h2
    · exact h2
  · exact m_adds_uf (hG.2.1 _ hp)
theorem m_ip_adds {hb : Int} {G : wd_I → wd_I × Int32} (hG : m_rG2 hb G) {M0 N : wd_I} {t sort : Int32} {s : Nat} (h : m_ip hb M0 N t sort s) (hs3 : ¬ sort.toInt = 3) (h25 : m_r25 M0) (hp : m_rp N) (h11 : s ≤ 11) (h0 : 0 ≤ t.toInt) (ht : t.toInt < (N 102 8).toInt) (hu : ((G N).1 102 24).toInt = -1) : m_ip hb M0 (m_adds (G N).1 t (ab_ii 0) (G N).2 s) t sort (s + 1) := by
  have g := hG.1 N hp
  have w := hG.2.2 N hp (m_ip_r25 h h25) hu
  have hrt := g.1.1.1.ra (q := t.toInt.toNat) (by omega)
  refine m_ip_ins (k := s) h h11 h0 ht g.1 w g.2.2 (Nat.le_refl _) m_adds_102 (fun q hq => m_adds_ra h11 hq) (by rw [m_adds_kd]) (by rw [m_adds_sz, ab_tI (by omega) (by omega)]; omega) (fun j hj => ?_) (fun _ j hj => ?_) (fun q => absurd q hs3)
  · by_cases e : j = s
    · subst e; rw [m_adds_pt, if_pos rfl]
    · rw [m_adds_pn (by omega), if_neg e, if_neg (by omega)]
  · rw [m_adds_ky]
    split
    · decide
    · rw [(hrt.2.2.2.2.2 j (by omega)).2]
      exact h.2.2.2.2.2.2.1 hs3 j (by omega)
theorem m_ip_ent {hb : Int} {G : wd_I → wd_I × Int32} (hG : m_rG2 hb G) {M0 N : wd_I} {t sort : Int32} {s : Nat} (h : m_ip hb M0 N t sort s) (hs3 : sort.toInt = 3) (h25 : m_r25 M0) (hp : m_rp N) (h11 : s ≤ 11) (h0 : 0 ≤ t.toInt) (ht : t.toInt < (N 102 8).toInt) (hu : ((m_ent G N t s).1 102 24).toInt = -1) : m_ip hb M0 (m_ent G N t s).1 t sort (s + 1) := by
  have e2 := m_e2_sc (t := t) (s := s) hp.1
  have hpE := e2.rg.rp hp
  have hE := m_ip_sc h h0 e2
  have e8 : m_e2 N t s 102 8 = N 102 8 := e2.2.1 8 (by decide) (by decide)
  have g := hG.1 _ hpE
  have huf := hG.2.1 _ hpE
  have hL := m_letters_sc hp.1
  unfold m_ent m_e3 at hu ⊢
  dsimp only at hu ⊢
  have hu1 : ((G (m_e2 N t s)).1 102 24).toInt = -1 := by
    split at hu
    · next hc => exact hc
    · exact hu
  rw [if_pos hu1]
  have w := hG.2.2 _ hpE (m_ip_r25 hE h25) hu1
  have hue := huf hu1
  have hu1e : (m_e1 N t s 102 24).toInt = -1 := m_one_uf hue
  have hno := m_hk_no s (m_e1_dup hp.1 hu1e)
  have hrt := g.1.1.1.ra (q := t.toInt.toNat) (by rw [e8]; omega)
  have hky : ∀ j, j < s → (G (m_e2 N t s)).1 109 (12 * t.toInt.toNat + j) = N 109 (12 * t.toInt.toNat + j) := fun j hj => by rw [(hrt.2.2.2.2.2 j (by omega)).2, e2.1 109 (by decide)]
  rw [hL.1 109 (by decide)] at hno
  obtain ⟨hpn, hsrt⟩ := m_puts_sorted (M := (G (m_e2 N t s)).1) (t := t) (key := (m_letters N).2) (p := (G (m_e2 N t s)).2) (s := s) (fun j hj => by rw [hky j (by omega), hky (j + 1) hj]; exact h.2.2.2.2.2.2.2.1 hs3 j hj) (fun j hj => by rw [hky j hj]; exact hno j hj)
  refine m_ip_ins (k := m_pk (G (m_e2 N t s)).1 t (m_letters N).2 s) hE h11 h0 (by rw [e8]; exact ht) g.1 w g.2.2 m_pk_le m_puts_102 (fun q hq => m_puts_ra h11 hq) ?_ (by rw [m_puts_5, if_pos hpn, ab_tI (by omega) (by omega)]; omega) (fun j hj => ?_) (fun q => absurd hs3 q) (fun _ => hsrt)
  · unfold m_puts m_puts1
    rw [wd_up_row _ _ _ (by decide), wd_up_row _ _ _ (by decide)]
    split
    · rw [wd_up_row _ _ _ (by decide), m_psh_row (by decide) (by decide)]
    · rfl
  · rw [m_puts_8]
    by_cases e : j = m_pk (G (m_e2 N t s)).1 t (m_letters N).2 s
    · rw [if_pos e, if_pos e]
    · rw [if_neg e, if_neg e]
      by_cases e2 : m_pk (G (m_e2 N t s)).1 t (m_letters N).2 s < j
      · rw [if_pos ⟨hpn, e2, hj⟩, if_pos e2]
      · rw [if_neg (fun q => e2 q.2.1), if_neg e2]
theorem m_ip_item {hb : Int} {G : wd_I → wd_I × Int32} (hG : m_rG2 hb G) {M0 N : wd_I} {t sort : Int32} {s : Nat} (h : m_ip hb M0 N t sort s) (h25 : m_r25 M0) (hp : m_rp N) (h11 : s ≤ 11) (h0 : 0 ≤ t.toInt) (ht : t.toInt < (N 102 8).toInt) (hu : ((m_item G sort.toInt N t s) 102 24).toInt = -1) : m_ip hb M0 (m_item G sort.toInt N t s) t sort (s + 1) := by
  unfold m_item at hu ⊢
  split at hu
  next h3 => rw [if_pos h3]; exact m_ip_ent hG h h3 h25 hp h11 h0 ht hu
  next h3 =>
    rw [if_neg h3]
    rw [m_adds_102] at hu
    exact m_ip_adds hG h h3 h25 hp h11 h0 ht hu
theorem m_itl_uf {hb : Int} {G : wd_I → wd_I × Int32} (hG : m_rG2 hb G) {mp : Int} {M0 : wd_I} {t : Int32} (hp0 : m_rp M0) (h0 : 0 ≤ t.toInt) (ht : (M0 102 8).toInt ≤ t.toInt) : ∀ (n : Nat) (M : wd_I) (s : Nat), m_pd M0 M t s → s ≤ 12 → m_uf M (m_itl G mp t n M)
  | 0, M, s, h, h12 => m_uf_e rfl
  | n + 1, M, s, h, h12 => by
    unfold m_itl
    split
    next hc =>
      have hs := m_pd_sz h
      have hp := h.1.rp hp0
      have hst := (m_stp_sc hp.1 (m_here_lt (by omega)).1).1.rg
      have h2 := m_pd_rg h (by omega) h0 hst
      rw [hs]
      obtain ⟨s', q1, q2⟩ := m_pd_item hG.1 (mp := mp) hp0 h2 h0 ht (by omega)
      exact m_stp_uf.tr ((m_item_uf hG (hst.rp hp)).tr (m_itl_uf hG hp0 h0 ht n _ s' q1 (by omega)))
    next => exact m_uf_e rfl
theorem m_ip_itl {hb : Int} {G : wd_I → wd_I × Int32} (hG : m_rG2 hb G) {M0 : wd_I} {t sort : Int32} (hp0 : m_rp M0) (h25 : m_r25 M0) (h0 : 0 ≤ t.toInt) (ht : (M0 102 8).toInt ≤ t.toInt) : ∀ (n : Nat) (M : wd_I) (s : Nat), m_pd M0 M t s → m_ip hb M0 M t sort s → s ≤ 12 → ((m_itl G sort.toInt t n M) 102 24).toInt = -1 → ∃ s', m_ip hb M0 (m_itl G sort.toInt t n M) t sort s' ∧ m_pd M0 (m_itl G sort.toInt t n M) t s' ∧ s' ≤ 12
  | 0, M, s, h, hi, h12, hu => ⟨s, hi, h, h12⟩
  | n + 1, M, s, h, hi, h12, hu => by
    unfold m_itl at hu ⊢
    split at hu
    next hc =>
      rw [if_pos hc]
      have hs := m_pd_sz h
      have hp := h.1.rp hp0
      have hst := (m_stp_sc hp.1 (m_here_lt (by omega)).1).1
      have h2 := m_pd_rg h (by omega) h0 hst.rg
      rw [hs] at hu ⊢
      have hi2 := m_ip_sc hi h0 hst
      have hp2 := hst.rg.rp hp
      obtain ⟨s', q1, q2⟩ := m_pd_item hG.1 (mp := sort.toInt) hp0 h2 h0 ht (by omega)
      have hu2 : ((m_item G sort.toInt (m_stp M) t s) 102 24).toInt = -1 := m_itl_uf hG hp0 h0 ht n _ s' q1 (by omega) hu
      have hi3 := m_ip_item hG hi2 h25 hp2 (by omega) h0 h2.2.1 hu2
      have es : s' = s + 1 := by
        have b1 := q1.2.2.1
        have b2 := hi3.2.1
        omega
      subst es
      exact m_ip_itl hG hp0 h25 h0 ht n _ (s + 1) q1 hi3 (by omega) hu
    next hc =>
      rw [if_neg hc]
      exact ⟨s, hi, h, h12⟩
theorem m_ip_all {hb : Int} {G : wd_I → wd_I × Int32} (hG : m_rG2 hb G) {M0 M : wd_I} {t sort close : Int32} {s : Nat} (hp0 : m_rp M0) (h25 : m_r25 M0) (h : m_pd M0 M t s) (hi : m_ip hb M0 M t sort s) (h0 : 0 ≤ t.toInt) (ht : (M0 102 8).toInt ≤ t.toInt) (h11 : s ≤ 11) (hcl : 0 ≤ close.toInt) (hu : ((m_all G sort.toInt M t close) 102 24).toInt = -1) : ∃ s', m_ip hb M0 (m_all G sort.toInt M t close) t sort s' ∧ s' ≤ 12 := by
  have hp := h.1.rp hp0
  unfold m_all at hu ⊢
  split at hu
  next hc =>
    rw [if_pos hc]
    exact ⟨s, m_ip_sc hi h0 (m_stp_sc hp.1 (m_here_lt (by omega)).1).1, by omega⟩
  next hc =>
    rw [if_neg hc]
    rw [m_pd_sz h] at hu ⊢
    have hu2 := m_one_uf hu
    obtain ⟨s1, q1, q2⟩ := m_pd_item hG.1 (mp := sort.toInt) hp0 h h0 ht h11
    have hu3 := m_itl_uf hG hp0 h0 ht 102 _ s1 q1 (by omega) hu2
    have hi1 := m_ip_item hG hi h25 hp h11 h0 h.2.1 hu3
    have es : s1 = s + 1 := by
      have b1 := q1.2.2.1
      have b2 := hi1.2.1
      omega
    subst es
    obtain ⟨s2, r1, r2, r3⟩ := m_ip_itl hG hp0 h25 h0 ht 102 _ (s + 1) q1 hi1 (by omega) hu2
    exact ⟨s2, m_ip_sc r1 h0 (m_one_sc (r2.1.rp hp0).1 hcl).1, r3⟩
theorem m_ip_begins {hb : Int} {M M0 : wd_I} {sort v : Int32} (h0 : 0 ≤ (M 102 8).toInt) (h1 : (M 102 8).toInt < 3120) (hpt : 1 + m_pt M ≤ m_pt M0) (h25 : (M 102 25).toInt = (M0 102 25).toInt + 1) : m_ip hb M0 (m_begins M sort v (ab_ii 0)) (M 102 8) sort 0 := by
  have e8 : (m_begins M sort v (ab_ii 0) 102 8).toInt = (M 102 8).toInt + 1 := by rw [m_begins_8, ab_tI (by omega) (by omega)]
  have ept : m_pt (m_begins M sort v (ab_ii 0)) = m_pt M := by unfold m_pt; rw [m_begins_n (by decide), m_begins_n (by decide)]
  exact ⟨m_begins_kd, by rw [m_begins_sz]; rfl, fun q h1 h2 => by omega, fun j hj => absurd hj (Nat.not_lt_zero _), by rw [ept]; exact hpt, by rw [m_begins_n (by decide)]; exact h25, fun _ j hj => absurd hj (Nat.not_lt_zero _), fun _ j hj => absurd hj (Nat.not_lt_zero _), by rw [e8]; rfl⟩
/-- a thing that has been read is finished -/
theorem m_ip_ends {hb : Int} {M0 M : wd_I} {t sort : Int32} {s : Nat} (h : m_ip hb M0 M t sort s) (ht : t = M0 102 8) (h0 : 0 ≤ t.toInt) (htl : t.toInt < (M 102 8).toInt) (h12 : s ≤ 12) (hso : 1 ≤ sort.toInt ∧ sort.toInt ≤ 4) (hhb : -1 ≤ hb ∧ hb ≤ 20) (hpt : m_pt M0 ≤ 1 ∧ -100 ≤ m_pt M) : m_rw2 (hb + 1) M0 (m_ends M t s, t) := by
  obtain ⟨a1, a2, a3, a4, a5, a6, a7, a8, a9⟩ := h
  have hnode : ∀ j, j < s → (M 106 (M 108 (12 * t.toInt.toNat + j)).toInt.toNat).toInt ≤ 150 := fun j hj => (a3 _ (by have := a4 j hj; omega) (by have := a4 j hj; omega)).2.1
  obtain ⟨g1, g2, g3, g4, g5⟩ := m_ends_gr (D := fun x => t.toInt ≤ x ∧ x < (M 102 8).toInt) (N := M) (t := t) a2 h12 (by rw [a1]; omega) (fun j hj => by
    obtain ⟨b1, b2, b3⟩ := a4 j hj
    exact ⟨by omega, by omega, by omega⟩) (fun j hj => by have := a4 j hj; have := hnode j hj; omega) (fun j hj => by have := a4 j hj; omega) (fun q => by rw [a1] at q; omega) (by rw [a1]; exact a7) (by rw [a1]; exact a8)
  have hge : 1 ≤ m_nds M t.toInt.toNat s := m_nds_mono (N := M) (q := t.toInt.toNat) (s := s) (fun j hj => by have := (a4 j hj).2.1; omega) 0 s (by omega) (Nat.le_refl _)
  have e102 : m_ends M t s 102 = M 102 := m_ends_row (by decide) (by decide)
  have ept : m_pt (m_ends M t s) = m_pt M := by unfold m_pt; rw [e102]
  have hh : (m_ends M t s 107 t.toInt.toNat).toInt ≤ hb + 1 := by
    rcases g5 with e | ⟨i, hi, e⟩
    · omega
    · have := (a4 i hi).2.2; omega
  intro _
  dsimp only
  refine ⟨fun q hq1 hq2 => ?_, by rw [← ht]; exact Int.le_refl _, by rw [g2, ept]; omega, ⟨g4, hh⟩, by rw [g2, e102]; exact a6, by rw [g2, e102, ← ht]; exact a9⟩
  rw [e102] at hq2 ⊢
  rw [← ht] at hq1 ⊢
  by_cases e : q = t.toInt.toNat
  · subst e
    exact ⟨m_gr_ra g1 m_ra.rf (fun _ _ _ => m_ra.rf) (fun x _ hx => hx), by rw [g2]; omega, hh⟩
  · obtain ⟨b1, b2, b3⟩ := a3 q (by omega) hq2
    have hr := m_ends_ra (N := M) (t := t) (s := s) e
    exact ⟨m_gr_ra b1 hr (fun x hx hxD => m_ends_ra (by omega)) (fun x _ hx => by omega), by rw [hr.2.2.2.1]; exact b2, by rw [hr.2.2.2.2.1]; omega⟩
theorem m_pt_b {M : wd_I} (h : m_tp M) : -100 ≤ m_pt M ∧ m_pt M ≤ 1 := by
  obtain ⟨t1, t2, t3⟩ := h
  unfold m_pt
  split <;> omega
end
section
/-! ===== the reference: a reading makes good rows (own text) ===== -/
theorem m_ends_uf {M N : wd_I} {t : Int32} {s : Nat} (h : m_uf M N) : m_uf M (m_ends N t s) := fun q => h (by rw [m_ends_row (by decide) (by decide)] at q; exact q)
theorem m_begins_uf {M N : wd_I} {s v m : Int32} (h : m_uf M N) : m_uf M (m_begins N s v m) := fun q => h (by rw [m_begins_n (by decide)] at q; exact q)
/-- the step into a thing: what it leaves as it is -/
theorem m_stp1_g {M : wd_I} (hp : m_rp M) (h : 0 ≤ (m_here M).toInt) (h25 : m_r25 M) : m_stp (m_rm1 M) 102 8 = M 102 8 ∧ 1 + m_pt (m_stp (m_rm1 M)) = m_pt M ∧ (m_stp (m_rm1 M) 102 25).toInt = (M 102 25).toInt + 1 := by
  have p1 : m_rp (m_rm1 M) := (m_many1_rg (M := M) (x := ab_ii ((M 102 25).toInt + 1)) hp.1).rp hp
  have h2 := m_stp_sc p1.1 (m_here_lt (M := m_rm1 M) (by rw [m_here_rm1]; exact h)).1
  have e25 : m_rm1 M 102 25 = ab_ii ((M 102 25).toInt + 1) := wd_up_self _ _ _ _
  have hb := m_pt_b hp.1
  unfold m_r25 at h25
  refine ⟨by rw [h2.1.2.1 8 (by decide) (by decide), m_rm1_n (by decide)], by have := h2.2; rw [m_rm1_pt] at this; omega, ?_⟩
  rw [h2.1.2.1 25 (by decide) (by decide), e25, ab_tI (by omega) (by omega)]
theorem m_stp1_uf {M : wd_I} : m_uf M (m_stp (m_rm1 M)) := fun q => by
  have := m_stp_uf q
  rw [m_rm1_n (by decide)] at this
  exact this
theorem m_rpair_w {hb : Int} {G : wd_I → wd_I × Int32} (hG : m_rG2 hb G) (hhb : -1 ≤ hb ∧ hb ≤ 20) {M S : wd_I} (hp : m_rp M) (h25 : m_r25 M) (hrg : m_rg M S) (hlt : (S 102 8).toInt + m_pt S + 1 ≤ (M 102 8).toInt + m_pt M) (h8 : S 102 8 = M 102 8) (hpt : 1 + m_pt S ≤ m_pt M) (hS25 : (S 102 25).toInt = (M 102 25).toInt + 1) (hufS : m_uf M S) : m_rw2 (hb + 1) M (m_rpair G S) ∧ m_uf M (m_rpair G S).1 := by
  have hr := m_rp_lt (hrg.rp hp)
  have hn : 0 ≤ (M 102 8).toInt := by have := hp.2.1; omega
  have h0 : 0 ≤ (S 102 8).toInt := by omega
  have ht := hrg.2.2.1
  have b1 := m_pd_begins (sort := ab_ii 1) (v := ab_ii 0) hp hrg hlt
  have i1 := m_ip_begins (hb := hb) (M0 := M) (M := S) (sort := ab_ii 1) (v := ab_ii 0) h0 (by omega) hpt hS25
  have u1 : m_uf M (m_begins S (ab_ii 1) (ab_ii 0) (ab_ii 0)) := m_begins_uf hufS
  have hptM := m_pt_b hp.1
  unfold m_rpair
  simp only []
  generalize m_begins S (ab_ii 1) (ab_ii 0) (ab_ii 0) = B1 at *
  have p1 := b1.1.rp hp
  have g1 := hG.1 _ p1
  have c1 := m_pd_rg b1 (by omega) h0 g1.1
  have b2 := m_pd_adds c1 h0 hn ht (by omega) (m_rr_lt p1 g1)
  have u2 : m_uf B1 (m_adds (G B1).1 (S 102 8) (ab_ii 0) (G B1).2 0) := m_adds_uf (hG.2.1 _ p1)
  have i2 := m_ip_adds hG i1 (by decide) h25 p1 (by omega) h0 b1.2.1
  have hA : ((m_adds (G B1).1 (S 102 8) (ab_ii 0) (G B1).2 0) 102 24).toInt = -1 → ((G B1).1 102 24).toInt = -1 := fun q => by rw [m_adds_102] at q; exact q
  generalize m_adds (G B1).1 (S 102 8) (ab_ii 0) (G B1).2 0 = A at *
  have s3 := (m_one_sc (lo := ab_ii 44) (hi := ab_ii 44) (b2.1.rp hp).1 (by decide)).1
  have b3 := m_pd_rg b2 (by omega) h0 s3.rg
  have u3 : m_uf A (m_one A (ab_ii 44) (ab_ii 44)).1 := m_one_uf
  generalize (m_one A (ab_ii 44) (ab_ii 44)).1 = B at *
  have p3 := b3.1.rp hp
  have g3 := hG.1 _ p3
  have c3 := m_pd_rg b3 (by omega) h0 g3.1
  have b4 := m_pd_adds c3 h0 hn ht (by omega) (m_rr_lt p3 g3)
  have u4 : m_uf B (m_adds (G B).1 (S 102 8) (ab_ii 0) (G B).2 1) := m_adds_uf (hG.2.1 _ p3)
  have i4 := fun (i3 : m_ip hb M B (S 102 8) (ab_ii 1) 1) => m_ip_adds hG i3 (by decide) h25 p3 (by omega) h0 b3.2.1
  have huG1 : m_uf B1 (G B1).1 := hG.2.1 _ p1
  have huG3 : ((m_adds (G B).1 (S 102 8) (ab_ii 0) (G B).2 1) 102 24).toInt = -1 → ((G B).1 102 24).toInt = -1 := fun q => by rw [m_adds_102] at q; exact q
  generalize m_adds (G B).1 (S 102 8) (ab_ii 0) (G B).2 1 = C at *
  have s5 := (m_one_sc (lo := ab_ii 41) (hi := ab_ii 41) (b4.1.rp hp).1 (by decide)).1
  have b5 := m_pd_rg b4 (by omega) h0 s5.rg
  have u5 : m_uf C (m_one C (ab_ii 41) (ab_ii 41)).1 := m_one_uf
  generalize (m_one C (ab_ii 41) (ab_ii 41)).1 = E at *
  refine ⟨fun hu => ?_, m_ends_uf (((u1.tr u2).tr (u3.tr u4)).tr u5)⟩
  have hE : (E 102 24).toInt = -1 := by
    have hu' := hu
    dsimp only at hu'
    rw [m_ends_row (by decide) (by decide)] at hu'
    exact hu'
  have hC := u5 hE
  have hB := u4 hC
  have hA1 := u3 hB
  have j2 := i2 (hA hA1)
  have j3 := m_ip_sc j2 h0 s3
  have j4 := i4 j3 (huG3 hC)
  have j5 := m_ip_sc j4 h0 s5
  exact m_ip_ends j5 h8 h0 b5.2.1 (by omega) (by decide) hhb ⟨hptM.2, (m_pt_b (b5.1.rp hp).1).1⟩ hu
theorem m_rmany_w {hb : Int} {G : wd_I → wd_I × Int32} (hG : m_rG2 hb G) (hhb : -1 ≤ hb ∧ hb ≤ 20) {M S : wd_I} {sort close : Int32} (hp : m_rp M) (h25 : m_r25 M) (hrg : m_rg M S) (hlt : (S 102 8).toInt + m_pt S + 1 ≤ (M 102 8).toInt + m_pt M) (h8 : S 102 8 = M 102 8) (hpt : 1 + m_pt S ≤ m_pt M) (hS25 : (S 102 25).toInt = (M 102 25).toInt + 1) (hufS : m_uf M S) (hcl : 0 ≤ close.toInt) (hso : 1 ≤ sort.toInt ∧ sort.toInt ≤ 4) : m_rw2 (hb + 1) M (m_rmany G S sort close) ∧ m_uf M (m_rmany G S sort close).1 := by
  have hr := m_rp_lt (hrg.rp hp)
  have h0 : 0 ≤ (S 102 8).toInt := by omega
  have ht := hrg.2.2.1
  have b1 := m_pd_begins (sort := sort) (v := ab_ii 0) hp hrg hlt
  have i1 := m_ip_begins (hb := hb) (M0 := M) (M := S) (sort := sort) (v := ab_ii 0) h0 (by omega) hpt hS25
  have u1 : m_uf M (m_begins S sort (ab_ii 0) (ab_ii 0)) := m_begins_uf hufS
  have hptM := m_pt_b hp.1
  obtain ⟨s', b2, q2⟩ := m_pd_all hG.1 (mp := sort.toInt) hp b1 h0 ht (by omega) hcl
  have iA := m_ip_all hG (close := close) hp h25 b1 i1 h0 ht (by omega) hcl
  have uA : m_uf (m_begins S sort (ab_ii 0) (ab_ii 0)) (m_all G sort.toInt (m_begins S sort (ab_ii 0) (ab_ii 0)) (S 102 8) close) := by
    unfold m_all
    split
    · exact m_stp_uf
    · rw [m_pd_sz b1]
      obtain ⟨s1, r1, r2⟩ := m_pd_item hG.1 (mp := sort.toInt) hp b1 h0 ht (by omega)
      exact ((m_item_uf hG (b1.1.rp hp)).tr (m_itl_uf hG hp h0 ht 102 _ s1 r1 (by omega))).tr m_one_uf
  unfold m_rmany
  simp only []
  rw [m_pd_sz b2]
  generalize m_all G sort.toInt (m_begins S sort (ab_ii 0) (ab_ii 0)) (S 102 8) close = A at *
  refine ⟨fun hu => ?_, m_ends_uf (u1.tr uA)⟩
  have hA : (A 102 24).toInt = -1 := by
    have hu' := hu
    dsimp only at hu'
    rw [m_ends_row (by decide) (by decide)] at hu'
    exact hu'
  obtain ⟨s2, j2, j3⟩ := iA hA
  have es : s2 = s' := by
    have c1 := j2.2.1
    have c2 := b2.2.2.1
    omega
  subst es
  exact m_ip_ends j2 h8 h0 b2.2.1 q2 hso hhb ⟨hptM.2, (m_pt_b (b2.1.rp hp).1).1⟩ hu
theorem m_rtag_w {hb : Int} {G : wd_I → wd_I × Int32} (hG : m_rG2 hb G) (hhb : -1 ≤ hb ∧ hb ≤ 20) {M S : wd_I} (hp : m_rp M) (h25 : m_r25 M) (hrg : m_rg M S) (hlt : (S 102 8).toInt + m_pt S + 1 ≤ (M 102 8).toInt + m_pt M) (h8 : S 102 8 = M 102 8) (hpt : 1 + m_pt S ≤ m_pt M) (hS25 : (S 102 25).toInt = (M 102 25).toInt + 1) (hufS : m_uf M S) : m_rw2 (hb + 1) M (m_rtag G S) ∧ m_uf M (m_rtag G S).1 := by
  have hn : 0 ≤ (M 102 8).toInt := by have := hp.2.1; omega
  have s1 := (m_one_sc (lo := ab_ii 48) (hi := ab_ii 57) (hrg.rp hp).1 (by decide)).1
  have hA := hrg.tr s1.rg
  have e8 : (m_one S (ab_ii 48) (ab_ii 57)).1 102 8 = S 102 8 := s1.2.1 8 (by decide) (by decide)
  have e25 : (m_one S (ab_ii 48) (ab_ii 57)).1 102 25 = S 102 25 := s1.2.1 25 (by decide) (by decide)
  have hr := m_rp_lt (hA.rp hp)
  have hlt2 := s1.2.2.2
  have hptM := m_pt_b hp.1
  have u0 : m_uf S (m_one S (ab_ii 48) (ab_ii 57)).1 := m_one_uf
  unfold m_rtag
  simp only []
  generalize m_one S (ab_ii 48) (ab_ii 57) = O1 at *
  obtain ⟨A, v⟩ := O1
  dsimp only at *
  have h0 : 0 ≤ (A 102 8).toInt := by omega
  have ht := hA.2.2.1
  have b1 := m_pd_begins (sort := ab_ii 4) (v := ab_ii (v.toInt - 48)) hp hA (by rw [e8]; omega)
  have i1 := m_ip_begins (hb := hb) (M0 := M) (M := A) (sort := ab_ii 4) (v := ab_ii (v.toInt - 48)) h0 (by omega) (by omega) (by rw [e25]; exact hS25)
  have u1 : m_uf A (m_begins A (ab_ii 4) (ab_ii (v.toInt - 48)) (ab_ii 0)) := m_begins_uf (m_uf_e rfl)
  generalize m_begins A (ab_ii 4) (ab_ii (v.toInt - 48)) (ab_ii 0) = B at *
  have p1 := b1.1.rp hp
  have g1 := hG.1 _ p1
  have c1 := m_pd_rg b1 (by omega) h0 g1.1
  have b2 := m_pd_adds c1 h0 hn ht (by omega) (m_rr_lt p1 g1)
  have u2 : m_uf B (m_adds (G B).1 (A 102 8) (ab_ii 0) (G B).2 0) := m_adds_uf (hG.2.1 _ p1)
  have i2 := m_ip_adds hG i1 (by decide) h25 p1 (by omega) h0 b1.2.1
  have hC : ((m_adds (G B).1 (A 102 8) (ab_ii 0) (G B).2 0) 102 24).toInt = -1 → ((G B).1 102 24).toInt = -1 := fun q => by rw [m_adds_102] at q; exact q
  generalize m_adds (G B).1 (A 102 8) (ab_ii 0) (G B).2 0 = C at *
  refine ⟨fun hu => ?_, m_ends_uf (((hufS.tr u0).tr u1).tr u2)⟩
  have hCf : (C 102 24).toInt = -1 := by
    have hu' := hu
    dsimp only at hu'
    rw [m_ends_row (by decide) (by decide)] at hu'
    exact hu'
  exact m_ip_ends (i2 (hC hCf)) (e8.trans h8) h0 b2.2.1 (by omega) (by decide) hhb ⟨hptM.2, (m_pt_b (b2.1.rp hp).1).1⟩ hu
theorem m_rnum_w {hb : Int} (hhb : -1 ≤ hb ∧ hb ≤ 20) {M : wd_I} (hp : m_rp M) (h25 : m_r25 M) (hf : (M 102 24).toInt = -1) : m_rw2 (hb + 1) M (m_number (m_signed (m_rm1 M)).1 (m_signed (m_rm1 M)).2, (m_signed (m_rm1 M)).1 102 8) ∧ m_uf M (m_number (m_signed (m_rm1 M)).1 (m_signed (m_rm1 M)).2) := by
  have h1 : m_rg M (m_rm1 M) := m_many1_rg hp.1
  have p1 := h1.rp hp
  have h2 := m_signed_sc p1.1
  have h3 := h2.2 (by rw [m_rm1_n (by decide)]; exact hf)
  have u1 : m_uf (m_rm1 M) (m_signed (m_rm1 M)).1 := m_signed_uf
  have hb1 := m_pt_b hp.1
  have e25 : m_rm1 M 102 25 = ab_ii ((M 102 25).toInt + 1) := wd_up_self _ _ _ _
  unfold m_r25 at h25
  have s8 := h2.1.2.1 8 (by decide) (by decide)
  have s25 := h2.1.2.1 25 (by decide) (by decide)
  rw [m_rm1_pt] at h3
  have hgN := h1.tr h2.1.rg
  generalize m_signed (m_rm1 M) = R at *
  obtain ⟨N, v⟩ := R
  dsimp only at *
  have hr := m_rp_lt (hgN.rp hp)
  rw [m_rm1_n (by decide)] at s8
  have b1 := m_pd_begins (sort := ab_ii 0) (v := v) hp hgN (by rw [s8]; omega)
  have e8 : (m_begins N (ab_ii 0) v (ab_ii 0) 102 8).toInt = (N 102 8).toInt + 1 := by rw [m_begins_8, ab_tI (by omega) (by omega)]
  obtain ⟨g1, g2, g3, g4, g5⟩ := m_ends_gr (D := fun x => (N 102 8).toInt ≤ x ∧ x < (N 102 8).toInt + 1) (N := m_begins N (ab_ii 0) v (ab_ii 0)) (t := N 102 8) (s := 0) (by rw [m_begins_sz]; rfl) (by omega) (by rw [m_begins_kd]; decide) (fun j hj => absurd hj (Nat.not_lt_zero _)) (fun j hj => absurd hj (Nat.not_lt_zero _)) (fun j hj => absurd hj (Nat.not_lt_zero _)) (fun _ => rfl) (fun _ j hj => absurd hj (Nat.not_lt_zero _)) (fun _ j hj => absurd hj (Nat.not_lt_zero _))
  have e102 : m_number N v 102 = m_begins N (ab_ii 0) v (ab_ii 0) 102 := m_ends_row (by decide) (by decide)
  have ept : m_pt (m_number N v) = m_pt N := by unfold m_pt; rw [e102, m_begins_n (by decide), m_begins_n (by decide)]
  have g5' : (m_number N v 107 (N 102 8).toInt.toNat).toInt = 0 := by
    rcases g5 with e | ⟨i, hi, -⟩
    · exact e
    · exact absurd hi (Nat.not_lt_zero _)
  have g2' : (m_number N v 106 (N 102 8).toInt.toNat).toInt = 1 := g2
  refine ⟨fun hu => ?_, fun q => by rw [e102, m_begins_n (by decide)] at q; have := u1 q; rw [m_rm1_n (by decide)] at this; exact this⟩
  dsimp only
  refine ⟨fun q hq1 hq2 => ?_, by rw [s8]; exact Int.le_refl _, by rw [g2', ept]; omega, by rw [g5']; omega, ?_, by rw [g2', e102, e8, s8]⟩
  · rw [e102] at hq2 ⊢
    rw [← s8] at hq1
    have e : q = (N 102 8).toInt.toNat := by omega
    subst e
    exact ⟨m_gr_ra g1 m_ra.rf (fun _ _ _ => m_ra.rf) (fun x _ hx => by rw [← s8]; omega), by omega, by omega⟩
  · rw [g2', e102, m_begins_n (by decide), s25, e25, ab_tI (by omega) (by omega)]
theorem m_rd_w : ∀ (f : Nat), f ≤ 20 → m_rG2 ((f : Int) - 1) (m_rd f)
  | 0, _ => ⟨m_rd_rr 0, fun N hp => m_fails_uf, fun N hp h25 hu => by
    change (m_fails N (N 102 23) 102 24).toInt = -1 at hu
    have := hp.1.1
    unfold m_fails at hu
    rw [wd_up_self] at hu
    split at hu
    · omega
    · omega⟩
  | f + 1, hf20 => by
    have ih := m_rd_w f (by omega)
    have hhb : -1 ≤ (f : Int) - 1 ∧ (f : Int) - 1 ≤ 20 := by omega
    have key : ∀ N, m_rp N → m_r25 N → m_rw2 ((f : Int) - 1 + 1) N (m_rd (f + 1) N) := by
      intro N hp h25
      unfold m_rd
      split
      next h =>
        intro hu
        exact absurd (m_fails_uf hu) h
      next h =>
        have hf : (N 102 24).toInt = -1 := Classical.not_not.mp h
        unfold m_rd1
        rw [m_here_rm1]
        have hS := fun q : 0 ≤ (m_here N).toInt => m_stp1_f hp q
        have hS2 := fun q : 0 ≤ (m_here N).toInt => m_stp1_g hp q h25
        split
        · obtain ⟨a1, a2, a3⟩ := hS (by omega)
          obtain ⟨b1, b2, b3⟩ := hS2 (by omega)
          exact (m_rpair_w ih hhb hp h25 a1 a3 b1 (by omega) b3 m_stp1_uf).1
        split
        · obtain ⟨a1, a2, a3⟩ := hS (by omega)
          obtain ⟨b1, b2, b3⟩ := hS2 (by omega)
          exact (m_rmany_w ih hhb hp h25 a1 a3 b1 (by omega) b3 m_stp1_uf (by decide) (by decide)).1
        split
        · obtain ⟨a1, a2, a3⟩ := hS (by omega)
          obtain ⟨b1, b2, b3⟩ := hS2 (by omega)
          exact (m_rmany_w ih hhb hp h25 a1 a3 b1 (by omega) b3 m_stp1_uf (by decide) (by decide)).1
        split
        · obtain ⟨a1, a2, a3⟩ := hS (by omega)
          obtain ⟨b1, b2, b3⟩ := hS2 (by omega)
          exact (m_rtag_w ih hhb hp h25 a1 a3 b1 (by omega) b3 m_stp1_uf).1
        · exact (m_rnum_w hhb hp h25 hf).1
    refine ⟨m_rd_rr (f + 1), fun N hp hu => ?_, fun N hp h25 => ?_⟩
    · by_cases hf : (N 102 24).toInt = -1
      · exact hf
      · unfold m_rd at hu
        rw [if_pos hf] at hu
        exact m_fails_uf hu
    · have := key N hp h25
      rw [show (((f + 1 : Nat) : Int) - 1) = (f : Int) - 1 + 1 by omega]
      exact this
/-- behind a reading that went well the table is whole -/
theorem m_th_T {M : wd_I} (hT : m_T M (M 102 8).toInt) (h1 : 1 ≤ (M 102 8).toInt) (h2 : (M 102 8).toInt ≤ 3012) (ht : 0 ≤ (M 102 22).toInt ∧ (M 102 22).toInt ≤ 100) (hu : (m_th2 M 102 24).toInt = -1) : m_T (m_th2 M) (m_th2 M 102 8).toInt ∧ (M 102 8).toInt ≤ (m_th1 M).2.toInt ∧ (m_th1 M).2.toInt < (m_th2 M 102 8).toInt ∧ (1 ≤ (m_th2 M 106 (m_th1 M).2.toInt.toNat).toInt ∧ (m_th2 M 106 (m_th1 M).2.toInt.toNat).toInt ≤ 101) ∧ (m_th2 M 102 25).toInt = (m_th2 M 106 (m_th1 M).2.toInt.toNat).toInt ∧ (m_th2 M 102 8).toInt ≤ 3113 ∧ (m_th2 M 102 8).toInt = (M 102 8).toInt + (m_th2 M 102 25).toInt := by
  have hp := m_th0_rp h1 h2 ht
  obtain ⟨v1, v2, v3⟩ := m_th0_v (M := M)
  have h25 : m_r25 (m_th0 M) := by
    have := m_pt_b hp.1
    unfold m_r25
    rw [v3]
    have e : (ab_ii 0).toInt = 0 := by decide
    omega
  have hrr := m_rd_rr 13 (m_th0 M) hp
  have hw := (m_rd_w 13 (by omega)).2.2 (m_th0 M) hp h25
  have hlt := m_rp_lt (hrr.1.rp hp)
  have e8 := m_th2_n (M := M) (j := 8) (by decide)
  have e25 := m_th2_n (M := M) (j := 25) (by decide)
  have er : ∀ a, a ≠ 102 → m_th2 M a = (m_th1 M).1 a := fun a ha => m_th2_row ha
  have hu1 : ((m_th1 M).1 102 24).toInt = -1 := by
    have e : m_th2 M 102 24 = m_thf (m_th1 M).1 102 24 := wd_up_ne _ _ (by omega)
    rw [e] at hu
    unfold m_thf at hu
    split at hu
    next hc => exact hc.1
    next hc => exact hu
  obtain ⟨w1, w2, w3, w4, w5, w6⟩ := hw hu1
  have hpt0 := m_pt_b hp.1
  have hpt1 := m_pt_b hrr.1.2.1
  change m_rq (m_th0 M 102 8).toInt _ (m_th1 M).1 at w1
  change (m_th0 M 102 8).toInt ≤ (m_th1 M).2.toInt at w2
  change 1 ≤ ((m_th1 M).1 106 (m_th1 M).2.toInt.toNat).toInt ∧ ((m_th1 M).1 106 (m_th1 M).2.toInt.toNat).toInt ≤ m_pt (m_th0 M) - m_pt (m_th1 M).1 at w3
  change ((m_th1 M).1 102 25).toInt = (m_th0 M 102 25).toInt + ((m_th1 M).1 106 (m_th1 M).2.toInt.toNat).toInt at w5
  change ((m_th1 M).1 102 8).toInt = (m_th0 M 102 8).toInt + ((m_th1 M).1 106 (m_th1 M).2.toInt.toNat).toInt at w6
  have hr2 : (m_th1 M).2.toInt < ((m_th1 M).1 102 8).toInt := hrr.2.2
  have hsb : m_sb (m_th0 M 102 8).toInt (m_th0 M) (m_th1 M).1 := hrr.1.1.1
  have hlt' : ((m_th1 M).1 102 8).toInt ≤ 3113 := hlt.2
  have hpt1' : -100 ≤ m_pt (m_th1 M).1 := hpt1.1
  have hmono : (m_th0 M 102 8).toInt ≤ ((m_th1 M).1 102 8).toInt := hrr.1.2.2.1
  have hpot : ((m_th1 M).1 102 8).toInt + m_pt (m_th1 M).1 ≤ (m_th0 M 102 8).toInt + m_pt (m_th0 M) := hrr.1.2.2.2
  rw [m_th0_n (by decide)] at w1 w2 w6 hsb hmono hpot
  rw [v3, show (ab_ii 0).toInt = 0 by decide] at w5
  rw [e8, e25, er 106 (by decide)]
  refine ⟨⟨by omega, fun q hq => ?_⟩, w2, hr2, ⟨w3.1, by omega⟩, by omega, hlt', by omega⟩
  have hra : m_ra (m_th1 M).1 (m_th2 M) q := ⟨by rw [er 103 (by decide)], by rw [er 104 (by decide)], by rw [er 105 (by decide)], by rw [er 106 (by decide)], by rw [er 107 (by decide)], fun j _ => ⟨by rw [er 108 (by decide)], by rw [er 109 (by decide)]⟩⟩
  have hrx : ∀ x : Nat, m_ra (m_th1 M).1 (m_th2 M) x := fun x => ⟨by rw [er 103 (by decide)], by rw [er 104 (by decide)], by rw [er 105 (by decide)], by rw [er 106 (by decide)], by rw [er 107 (by decide)], fun j _ => ⟨by rw [er 108 (by decide)], by rw [er 109 (by decide)]⟩⟩
  by_cases hc : (q : Int) < (M 102 8).toInt
  · obtain ⟨b1, b2, b3⟩ := hT.2 q hc
    have h0r : ∀ x : Nat, m_ra M (m_th0 M) x := fun x => ⟨by rw [m_th0_row (by decide)], by rw [m_th0_row (by decide)], by rw [m_th0_row (by decide)], by rw [m_th0_row (by decide)], by rw [m_th0_row (by decide)], fun j _ => ⟨by rw [m_th0_row (by decide)], by rw [m_th0_row (by decide)]⟩⟩
    have hr := ((h0r q).tr (hsb.ra hc)).tr hra
    exact ⟨m_gr_ra b1 hr (fun x hx hxD => ((h0r _).tr (hsb.ra (by omega))).tr (hrx _)) (fun x _ hx => by omega), by rw [hr.2.2.2.1]; exact b2, by rw [hr.2.2.2.2.1]; exact b3⟩
  · obtain ⟨b1, b2, b3⟩ := w1 q (by omega) hq
    exact ⟨m_gr_ra b1 hra (fun x hx hxD => hrx _) (fun x _ hx => hx.2), by rw [hra.2.2.2.1]; omega, by rw [hra.2.2.2.2.1]; omega⟩
end
section
/-! ===== the reference: what holds between calls (own text) ===== -/
def m_9 (M N : wd_I) : Prop := (M 102 9).toInt ≤ (N 102 9).toInt
theorem m_9.tr {M N K : wd_I} (h : m_9 M N) (h' : m_9 N K) : m_9 M K := Int.le_trans h h'
theorem m_9_e {M N : wd_I} (h : N 102 9 = M 102 9) : m_9 M N := by unfold m_9; rw [h]; exact Int.le_refl _
theorem m_mk_9 {M : wd_I} (hr : m_rm M) (hc : m_can M) (h0 : 0 ≤ (M 102 9).toInt) : m_9 M (m_mk M) := by
  have := m_can_lt hr hc
  unfold m_9 m_mk
  rw [wd_up_self, ab_tI (by omega) (by omega)]
  omega
theorem m_s1_9 {M N : wd_I} (hr : m_rm M) (hc : m_can M) (h0 : 0 ≤ (M 102 9).toInt) (h : m_s1 (m_mk M) N) : m_9 M N := (m_mk_9 hr hc h0).tr (m_9_e (h.2 9 (by decide)))
theorem m_numb_9 {M : wd_I} {v : Int32} (hr : m_rm M) (h0 : 0 ≤ (M 102 9).toInt) : m_9 M (m_numb M v).1 := by
  unfold m_numb
  by_cases hc : m_can M
  · rw [m_cani_t hc]; exact m_s1_9 hr hc h0 m_number_s1
  · rw [m_cani_f hc]; exact m_9_e m_nomk_9
theorem m_bec_9 {M : wd_I} {how : Int} {hw f t : Int32} {s : Nat} {n : Int} (hn : 0 ≤ n) (hn8 : n ≤ (M 102 8).toInt) (hp : 0 < (M 102 8).toInt) (hr : m_rm M) (h0 : 0 ≤ (M 102 9).toInt) : m_9 M (m_bec M how hw f t s).1 := by
  unfold m_bec
  split
  · split
    · exact m_numb_9 hr h0
    · exact m_9_e rfl
  split
  · exact m_9_e rfl
  split
  · have h1 := m_numb_9 (v := hw) hr h0
    have hg := m_numb_good (n := n) (v := hw) hn hn8 hp hr
    have hr1 := hg.2.1
    have h01 : 0 ≤ ((m_numb M hw).1 102 9).toInt := Int.le_trans h0 h1
    generalize m_numb M hw = R at *
    by_cases hc : m_can R.1
    · rw [m_cani_t hc]; exact h1.tr (m_s1_9 hr1 hc h01 m_pair_s1)
    · rw [m_cani_f hc]; exact h1.tr (m_9_e m_nomk_9)
  split
  · by_cases hc : m_can M
    · rw [m_cani_t hc]
      split
      · exact m_s1_9 hr hc h0 m_around_s1
      split
      · exact m_s1_9 hr hc h0 m_around_s1
      · exact m_s1_9 hr hc h0 m_changed_s1
    · rw [m_cani_f hc]; exact m_9_e m_nomk_9
  · exact m_9_e rfl
theorem m_ovs_9 {n : Int} {G : wd_I → Int32 → wd_I × Int32} (hGg : ∀ N q, m_op n N → 0 ≤ q.toInt → q.toInt < n → m_good (N 102 8).toInt N (G N q)) (hG9 : ∀ N q, m_op n N → 0 ≤ (N 102 9).toInt → 0 ≤ q.toInt → q.toInt < n → m_9 N (G N q).1) {p i s j : Nat} {t : Int32} {r : wd_I × Int32} (hop : m_op n r.1) (h0 : 0 ≤ (r.1 102 9).toInt) (hq : 0 ≤ (r.1 108 (12 * t.toInt.toNat + j)).toInt ∧ (r.1 108 (12 * t.toInt.toNat + j)).toInt < n) : m_9 r.1 (m_ovs G p i s t j r).1 := by
  unfold m_ovs
  split
  · have h1 := hG9 r.1 _ hop h0 hq.1 hq.2
    have hg := hGg r.1 _ hop hq.1 hq.2
    generalize G r.1 (r.1 108 (12 * t.toInt.toNat + j)) = R at *
    have hr1 := hg.2.1
    have h01 : 0 ≤ (R.1 102 9).toInt := Int.le_trans h0 h1
    split
    · exact h1
    split
    · by_cases hc : m_can R.1
      · rw [m_cani_t hc]
        refine (h1.tr (m_mk_9 hr1 hc h01)).tr (m_9_e ?_)
        dsimp only
        rw [wd_up_row _ _ _ (by decide)]
        unfold m_copyOf
        rw [m_cpl_row (by decide) (by decide), m_begins_n (by decide)]
      · rw [m_cani_f hc]; exact h1.tr (m_9_e m_nomk_9)
    · exact h1.tr (m_9_e (by dsimp only; rw [wd_up_row _ _ _ (by decide)]))
  · exact m_9_e rfl
theorem m_ovl_9 {n : Int} {G : wd_I → Int32 → wd_I × Int32} (hGg : ∀ N q, m_op n N → 0 ≤ q.toInt → q.toInt < n → m_good (N 102 8).toInt N (G N q)) (hG9 : ∀ N q, m_op n N → 0 ≤ (N 102 9).toInt → 0 ≤ q.toInt → q.toInt < n → m_9 N (G N q).1) {p i s : Nat} {M : wd_I} {t : Int32} (hop : m_op n M) (ht0 : 0 ≤ t.toInt) (ht1 : t.toInt < n) (hs : (M 105 t.toInt.toNat).toInt = (s : Int)) (h12 : s ≤ 12) (hpt : ∀ j, j < s → 0 ≤ (M 108 (12 * t.toInt.toNat + j)).toInt ∧ (M 108 (12 * t.toInt.toNat + j)).toInt < n) : ∀ (m j : Nat) (r : wd_I × Int32), j + m = s → m_li s M r → 0 ≤ (r.1 102 9).toInt → m_9 r.1 (m_ovl G p i s t m j r).1
  | 0, _, _, _, _, _ => m_9_e rfl
  | m + 1, j, (N, a), hj, h, h0 => by
    unfold m_ovl
    obtain ⟨hf, hr, h8, hA⟩ := id h
    have hopN : m_op n N := m_op_fr hop hf hop.2.2.1 hr h8
    have hq : N 108 (12 * t.toInt.toNat + j) = M 108 (12 * t.toInt.toNat + j) := (hf.1.2 _ (by have := hop.2.2.1; omega)).1
    have h1 := m_ovs_9 hGg hG9 (p := p) (i := i) (s := s) (j := j) (t := t) (r := (N, a)) hopN h0 (by dsimp only; rw [hq]; exact hpt j (by omega))
    exact h1.tr (m_ovl_9 hGg hG9 hop ht0 ht1 hs h12 hpt m (j + 1) _ (by omega) (m_ovs_li hop ht0 ht1 hs h12 hpt (by omega) hGg h) (Int.le_trans h0 h1))
theorem m_ov_9 {n : Int} {p : Nat} : ∀ (f : Nat) (M : wd_I) (t : Int32) (i : Nat), m_op n M → 0 ≤ (M 102 9).toInt → 0 ≤ t.toInt → t.toInt < n → m_9 M (m_ov p f M t i).1
  | 0, M, t, i, hop, h9, h0, h1 => m_9_e rfl
  | f + 1, M, t, i, hop, h9, h0, h1 => by
    obtain ⟨o1, o2, o3, o4, o5, o6⟩ := id hop
    obtain ⟨s, hs, a2, a3, a4, a5⟩ := o1.2 t.toInt.toNat (by omega)
    unfold m_ov
    split
    · split
      · unfold m_became
        have e : m_ov1 M 102 9 = M 102 9 := wd_up_ne _ _ (Or.inr (by decide))
        exact (m_9_e (N := m_ov1 M) e).tr (m_bec_9 (n := n) o2 (by rw [m_ov1_8]; exact o3) (by rw [m_ov1_8]; omega) (m_ov1_rm o4) (by rw [e]; exact h9))
      · split
        · exact m_ov_9 f M t (i + 1) hop h9 h0 h1
        · rw [hs, Int.toNat_natCast]
          have hl := m_ovl_9 (n := n) (G := fun N q => m_ov p f N q (m_nxt M p i)) (fun N q hN hq0 hq1 => m_ov_good f N q _ hN hq0 hq1) (fun N q hN hN9 hq0 hq1 => m_ov_9 f N q _ hN hN9 hq0 hq1) (p := p) (i := i) hop h0 h1 hs a2 (fun j hj => ⟨(a5 j hj).1, (a5 j hj).2.1⟩) s 0 (M, ab_ii (-1)) (by omega) ⟨m_fr.rf, o4, Int.le_refl _, Or.inl rfl⟩ h9
          unfold m_fin
          split
          · exact hl
          · exact hl.tr (m_9_e (by dsimp only; rw [m_ends_row (by decide) (by decide)]))
    · exact m_9_e rfl
/-- what holds of the reference between two calls -/
def m_ok (M : wd_I) : Prop := m_T M (M 102 8).toInt ∧ (12 ≤ (M 102 8).toInt ∧ 0 ≤ (M 102 9).toInt) ∧ m_rm M ∧ (∀ j, j < 12 → 0 ≤ (M 110 j).toInt ∧ (M 110 j).toInt < (M 102 8).toInt) ∧ (∀ p, p < 8 → 0 ≤ (M 115 p).toInt ∧ (M 115 p).toInt ≤ 8) ∧ (∀ j, j < 12 → ∃ c : Nat, M 112 j = ab_ii (c : Int) ∧ c ≤ 10 ∧ ∀ i, i < c → 0 ≤ (M 111 (10 * j + i)).toInt ∧ (M 111 (10 * j + i)).toInt < (M 102 8).toInt) ∧ (∃ n : Nat, M 102 22 = ab_ii (n : Int) ∧ n ≤ 100) ∧ (∀ p, p < 8 → 0 ≤ (M 119 p).toInt ∧ (M 119 p).toInt ≤ 8) ∧ (¬ (M 102 20).toInt = 0 → ∀ j, j < 12 → 0 ≤ (M 116 j).toInt ∧ (M 116 j).toInt < (M 102 8).toInt)
theorem m_ok.lok {M : wd_I} (h : m_ok M) : m_lok M := by
  obtain ⟨a1, a2, a3, a4, a5, -⟩ := h
  exact ⟨a1.tb, a4, fun p h0 h7 => ⟨h0, h7, a5 p.toInt.toNat (by omega)⟩⟩
theorem m_ok_of {M N : wd_I} (h : m_ok M) (hT : m_T N (N 102 8).toInt) (h8 : (M 102 8).toInt ≤ (N 102 8).toInt) (h9 : m_9 M N) (hr : m_rm N) (hrow : ∀ a, 110 ≤ a → a ≤ 119 → N a = M a) (h20 : N 102 20 = M 102 20) (h22 : ∃ n : Nat, N 102 22 = ab_ii (n : Int) ∧ n ≤ 100) : m_ok N := by
  obtain ⟨a1, a2, a3, a4, a5, a6, a7, a8, a9⟩ := h
  unfold m_9 at h9
  refine ⟨hT, ⟨by omega, by omega⟩, hr, fun j hj => ?_, fun p hp => by rw [hrow 115 (by decide) (by decide)]; exact a5 p hp, fun j hj => ?_, h22, fun p hp => by rw [hrow 119 (by decide) (by decide)]; exact a8 p hp, fun hne j hj => ?_⟩
  · rw [hrow 110 (by decide) (by decide)]; have := a4 j hj; omega
  · obtain ⟨c, c1, c2, c3⟩ := a6 j hj
    rw [hrow 112 (by decide) (by decide), hrow 111 (by decide) (by decide)]
    exact ⟨c, c1, c2, fun i hi => by have := c3 i hi; omega⟩
  · rw [h20] at hne
    rw [hrow 116 (by decide) (by decide)]
    have := a9 hne j hj
    omega
theorem m_ok_eqv {M M' : wd_I} (h : m_ok M) (he : m_eqv M M') : m_ok M' := by
  have h7 := h.2.2.2.2.2.2.1
  exact m_ok_of h (m_eqv_lok he h.1) (by rw [he.2.1]; exact Int.le_refl _) (m_9_e he.2.2.1) (m_eqv_rm he h.2.2.1) (fun a h1 h2 => he.1 a (by omega) (by omega)) he.2.2.2.1 (by rw [he.2.2.2.2]; exact h7)
theorem m_rs_T {M N : wd_I} (hT : m_T M (M 102 8).toInt) (hs : m_sb (M 102 8).toInt M N) : m_T (m_rs M N) (m_rs M N 102 8).toInt := by
  have e8 : m_rs M N 102 8 = M 102 8 := wd_up_self _ _ _ _
  have er : ∀ a, a ≠ 102 → m_rs M N a = N a := fun a ha => wd_up_row _ _ _ ha
  rw [e8]
  refine m_T_sb hT ⟨fun t ht => ?_, fun i hi => ?_⟩
  · rw [er 103 (by decide), er 104 (by decide), er 105 (by decide), er 106 (by decide), er 107 (by decide)]; exact hs.1 t ht
  · rw [er 108 (by decide), er 109 (by decide)]; exact hs.2 i hi
/-- a call that makes nothing in the end -/
theorem m_ok_rs {M N : wd_I} (h : m_ok M) (hs : m_sb (M 102 8).toInt M N) (h9 : m_9 M N) (h93 : (N 102 9).toInt ≤ 3000) (hrow : ∀ a, 110 ≤ a → a ≤ 119 → N a = M a) (h20 : N 102 20 = M 102 20) (h22 : ∃ n : Nat, N 102 22 = ab_ii (n : Int) ∧ n ≤ 100) : m_ok (m_rs M N) := by
  have e8 : m_rs M N 102 8 = M 102 8 := wd_up_self _ _ _ _
  have en : ∀ j, j ≠ 8 → m_rs M N 102 j = N 102 j := fun j hj => wd_up_ne _ _ (Or.inr hj)
  have er : ∀ a, a ≠ 102 → m_rs M N a = N a := fun a ha => wd_up_row _ _ _ ha
  refine m_ok_of h (m_rs_T h.1 hs) (by rw [e8]; exact Int.le_refl _) ((m_9_e (M := N) (N := m_rs M N) (en 9 (by decide))).tr (m_9_e rfl) |> fun q => h9.tr q) ?_ (fun a h1 h2 => by rw [er a (by omega)]; exact hrow a h1 h2) (by rw [en 20 (by decide)]; exact h20) (by rw [en 22 (by decide)]; exact h22)
  have hr := h.2.2.1
  unfold m_rm m_9 at *
  rw [e8, en 9 (by decide)]
  omega
end
section
/-! ===== the reference: each call leaves what holds between calls (own text) ===== -/
theorem m_shift_at {M : wd_I} {s : Nat} : ∀ (q : Nat), q ≤ 9 → ∀ j i, i ≤ 9 → m_shift M s q 111 (10 * j + i) = if j = s ∧ i < q then M 111 (10 * j + (i + 1)) else M 111 (10 * j + i)
  | 0, _, j, i, _ => by rw [if_neg (by omega)]; rfl
  | q + 1, hq, j, i, hi => by
    show wd_up (m_shift M s q) 111 (10 * s + q) (m_shift M s q 111 (10 * s + (q + 1))) 111 (10 * j + i) = _
    by_cases e : j = s ∧ i = q
    · obtain ⟨rfl, rfl⟩ := e
      rw [wd_up_self, m_shift_at i (by omega) j (i + 1) (by omega), if_neg (by omega), if_pos (by omega)]
    · rw [wd_up_ne _ _ (Or.inr (by omega)), m_shift_at q (by omega) j i hi]
      by_cases h : j = s ∧ i < q
      · rw [if_pos h, if_pos (by omega)]
      · rw [if_neg h, if_neg (by omega)]
theorem m_bec1_row {M : wd_I} {s c a : Nat} {t : Int32} (h1 : a ≠ 110) (h2 : a ≠ 111) (h3 : a ≠ 112) : m_bec1 M s t c a = M a := by
  unfold m_bec1
  rw [wd_up_row _ _ _ h1, wd_up_row _ _ _ h3, wd_up_row _ _ _ h2]
theorem m_becomes_row {M : wd_I} {s c a : Nat} {t : Int32} (h1 : a ≠ 110) (h2 : a ≠ 111) (h3 : a ≠ 112) : m_becomes M s t c a = M a := by
  unfold m_becomes
  split
  · rw [m_bec1_row h1 h2 h3, wd_up_row _ _ _ h3, m_shift_row h2]
  · exact m_bec1_row h1 h2 h3
/-- how many a shelf remembers behind it -/
def m_bc (c : Nat) : Nat := if c = 10 then 10 else c + 1
theorem m_becomes_110 {M : wd_I} {s c j : Nat} {t : Int32} : m_becomes M s t c 110 j = if j = s then t else M 110 j := by
  have h : ∀ N : wd_I, N 110 = M 110 → ∀ c, m_bec1 N s t c 110 j = if j = s then t else M 110 j := fun N hN c => by
    unfold m_bec1
    by_cases e : j = s
    · subst e; rw [wd_up_self, if_pos rfl]
    · rw [wd_up_ne _ _ (Or.inr e), wd_up_row _ _ _ (by decide), wd_up_row _ _ _ (by decide), hN, if_neg e]
  unfold m_becomes
  split
  · exact h _ (by rw [wd_up_row _ _ _ (by decide), m_shift_row (by decide)]) 9
  · exact h M rfl c
theorem m_becomes_112 {M : wd_I} {s c j : Nat} {t : Int32} : m_becomes M s t c 112 j = if j = s then ab_ii (m_bc c : Int) else M 112 j := by
  unfold m_becomes m_bc
  by_cases h10 : c = 10
  · rw [if_pos h10, if_pos h10]
    unfold m_bec1
    by_cases e : j = s
    · subst e; rw [wd_up_row _ _ _ (by decide), wd_up_self, if_pos rfl]; rfl
    · rw [wd_up_row _ _ _ (by decide), wd_up_ne _ _ (Or.inr e), wd_up_row _ _ _ (by decide), wd_up_ne _ _ (Or.inr e), m_shift_row (by decide), if_neg e]
  · rw [if_neg h10, if_neg h10]
    unfold m_bec1
    by_cases e : j = s
    · subst e; rw [wd_up_row _ _ _ (by decide), wd_up_self, if_pos rfl]; rfl
    · rw [wd_up_row _ _ _ (by decide), wd_up_ne _ _ (Or.inr e), wd_up_row _ _ _ (by decide), if_neg e]
theorem m_becomes_111 {M : wd_I} {s c j i : Nat} {t : Int32} (hc : c ≤ 10) (hi : i ≤ 9) : m_becomes M s t c 111 (10 * j + i) = if j = s then (if c = 10 then (if i = 9 then M 110 s else M 111 (10 * j + (i + 1))) else (if i = c then M 110 s else M 111 (10 * j + i))) else M 111 (10 * j + i) := by
  unfold m_becomes
  by_cases h10 : c = 10
  · rw [if_pos h10]
    unfold m_bec1
    rw [wd_up_row _ _ _ (by decide), wd_up_row _ _ _ (by decide), wd_up_row _ _ _ (show (110 : Nat) ≠ 112 by decide), m_shift_row (show (110 : Nat) ≠ 111 by decide)]
    by_cases e : j = s
    · subst e
      rw [if_pos rfl, if_pos h10]
      by_cases e9 : i = 9
      · subst e9; rw [wd_up_self, if_pos rfl]
      · rw [wd_up_ne _ _ (Or.inr (by omega)), wd_up_row _ _ _ (by decide), m_shift_at 9 (by omega) j i hi, if_pos (by omega), if_neg e9]
    · rw [wd_up_ne _ _ (Or.inr (by omega)), wd_up_row _ _ _ (by decide), m_shift_at 9 (by omega) j i hi, if_neg (by omega), if_neg e]
  · rw [if_neg h10]
    unfold m_bec1
    rw [wd_up_row _ _ _ (by decide), wd_up_row _ _ _ (by decide)]
    by_cases e : j = s
    · subst e
      rw [if_pos rfl, if_neg h10]
      by_cases e9 : i = c
      · subst e9; rw [wd_up_self, if_pos rfl]
      · rw [wd_up_ne _ _ (Or.inr (by omega)), if_neg e9]
    · rw [wd_up_ne _ _ (Or.inr (by omega)), if_neg e]
theorem m_ok_same {M N : wd_I} (h : m_ok M) (hsame : ∀ a, 103 ≤ a → a ≤ 109 → N a = M a) (e8 : N 102 8 = M 102 8) (e9 : N 102 9 = M 102 9) (h4 : ∀ j, j < 12 → 0 ≤ (N 110 j).toInt ∧ (N 110 j).toInt < (M 102 8).toInt) (h5 : ∀ p, p < 8 → 0 ≤ (N 115 p).toInt ∧ (N 115 p).toInt ≤ 8) (h6 : ∀ j, j < 12 → ∃ c : Nat, N 112 j = ab_ii (c : Int) ∧ c ≤ 10 ∧ ∀ i, i < c → 0 ≤ (N 111 (10 * j + i)).toInt ∧ (N 111 (10 * j + i)).toInt < (M 102 8).toInt) (h7 : ∃ n : Nat, N 102 22 = ab_ii (n : Int) ∧ n ≤ 100) (h8 : ∀ p, p < 8 → 0 ≤ (N 119 p).toInt ∧ (N 119 p).toInt ≤ 8) (h9 : ¬ (N 102 20).toInt = 0 → ∀ j, j < 12 → 0 ≤ (N 116 j).toInt ∧ (N 116 j).toInt < (M 102 8).toInt) : m_ok N := by
  obtain ⟨a1, a2, a3, -⟩ := h
  refine ⟨by rw [e8]; exact m_T_c hsame a1, by rw [e8, e9]; exact a2, ?_, by rw [e8]; exact h4, h5, by rw [e8]; exact h6, h7, h8, by rw [e8]; exact h9⟩
  unfold m_rm at a3 ⊢
  rw [e8, e9]
  exact a3
theorem m_ok_bec {N : wd_I} (h : m_ok N) {s c : Nat} {t : Int32} (hs : s < 12) (hc : N 112 s = ab_ii (c : Int)) (hc10 : c ≤ 10) (ht : 0 ≤ t.toInt ∧ t.toInt < (N 102 8).toInt) : m_ok (m_becomes N s t c) := by
  have er : ∀ a, a ≠ 110 → a ≠ 111 → a ≠ 112 → m_becomes N s t c a = N a := fun a h1 h2 h3 => m_becomes_row h1 h2 h3
  obtain ⟨a1, a2, a3, a4, a5, a6, a7, a8, a9⟩ := id h
  refine m_ok_same h (fun a h1 h2 => er a (by omega) (by omega) (by omega)) (by rw [er 102 (by decide) (by decide) (by decide)]) (by rw [er 102 (by decide) (by decide) (by decide)]) (fun j hj => ?_) (by rw [er 115 (by decide) (by decide) (by decide)]; exact a5) (fun j hj => ?_) (by rw [er 102 (by decide) (by decide) (by decide)]; exact a7) (by rw [er 119 (by decide) (by decide) (by decide)]; exact a8) (by rw [er 102 (by decide) (by decide) (by decide), er 116 (by decide) (by decide) (by decide)]; exact a9)
  · rw [m_becomes_110]
    split
    · exact ht
    · exact a4 j hj
  · rw [m_becomes_112]
    by_cases e : j = s
    · subst e
      rw [if_pos rfl]
      obtain ⟨c', q1, q2, q3⟩ := a6 j hs
      have ec : c' = c := by
        rw [hc] at q1
        have := congrArg Int32.toInt q1
        rw [ab_tI (by omega) (by omega), ab_tI (by omega) (by omega)] at this
        omega
      subst ec
      have h110 := a4 j hs
      refine ⟨m_bc c', rfl, by unfold m_bc; split <;> omega, fun i hi => ?_⟩
      unfold m_bc at hi
      by_cases h10 : c' = 10
      · rw [if_pos h10] at hi
        rw [m_becomes_111 hc10 (by omega), if_pos rfl, if_pos h10]
        split
        · exact h110
        · exact q3 (i + 1) (by omega)
      · rw [if_neg h10] at hi
        rw [m_becomes_111 hc10 (by omega), if_pos rfl, if_neg h10]
        split
        · exact h110
        · exact q3 i (by omega)
    · rw [if_neg e]
      obtain ⟨c', q1, q2, q3⟩ := a6 j hj
      refine ⟨c', q1, q2, fun i hi => ?_⟩
      rw [m_becomes_111 hc10 (by omega), if_neg e]
      exact q3 i hi
theorem m_ok_undo {M : wd_I} (h : m_ok M) {s c : Nat} (hs : s < 12) (hc : M 112 s = ab_ii ((c : Int) + 1)) (hc9 : c ≤ 9) : m_ok (m_undo M s c) := by
  obtain ⟨a1, a2, a3, a4, a5, a6, a7, a8, a9⟩ := id h
  have er : ∀ a, a ≠ 110 → a ≠ 112 → m_undo M s c a = M a := fun a h1 h2 => by unfold m_undo; rw [wd_up_row _ _ _ h1, wd_up_row _ _ _ h2]
  obtain ⟨c', q1, q2, q3⟩ := a6 s hs
  have ec : c' = c + 1 := by
    rw [hc] at q1
    have := congrArg Int32.toInt q1
    rw [ab_tI (by omega) (by omega), ab_tI (by omega) (by omega)] at this
    omega
  subst ec
  refine m_ok_same h (fun a h1 h2 => er a (by omega) (by omega)) (by rw [er 102 (by decide) (by decide)]) (by rw [er 102 (by decide) (by decide)]) (fun j hj => ?_) (by rw [er 115 (by decide) (by decide)]; exact a5) (fun j hj => ?_) (by rw [er 102 (by decide) (by decide)]; exact a7) (by rw [er 119 (by decide) (by decide)]; exact a8) (by rw [er 102 (by decide) (by decide), er 116 (by decide) (by decide)]; exact a9)
  · unfold m_undo
    by_cases e : j = s
    · subst e; rw [wd_up_self]; exact q3 c (by omega)
    · rw [wd_up_ne _ _ (Or.inr e), wd_up_row _ _ _ (by decide)]; exact a4 j hj
  · rw [er 111 (by decide) (by decide)]
    unfold m_undo
    rw [wd_up_row _ _ _ (by decide)]
    by_cases e : j = s
    · subst e
      rw [wd_up_self]
      exact ⟨c, rfl, by omega, fun i hi => q3 i (by omega)⟩
    · rw [wd_up_ne _ _ (Or.inr e)]; exact a6 j hj
theorem m_fed_row {M : wd_I} {w : Int32} {n a : Nat} (h1 : a ≠ 102) (h2 : a ≠ 120) : ∀ j, m_fed M w n j a = M a
  | 0 => rfl
  | j + 1 => by unfold m_fed; rw [wd_up_row _ _ _ h1, wd_up_row _ _ _ h2, m_fed_row h1 h2 j]
theorem m_fed_m {M : wd_I} {w : Int32} {n i : Nat} (h1 : i ≠ 22) : ∀ j, m_fed M w n j 102 i = M 102 i
  | 0 => rfl
  | j + 1 => by unfold m_fed; rw [wd_up_ne _ _ (Or.inr h1), wd_up_row _ _ _ (by decide), m_fed_m h1 j]
theorem m_ok_fed {M : wd_I} (h : m_ok M) {w : Int32} {n j : Nat} (hn : M 102 22 = ab_ii (n : Int)) (hj : n + j ≤ 100) : m_ok (m_fed M w n j) := by
  obtain ⟨a1, a2, a3, a4, a5, a6, a7, a8, a9⟩ := id h
  refine m_ok_same h (fun a h1 h2 => m_fed_row (by omega) (by omega) j) (m_fed_m (by decide) j) (m_fed_m (by decide) j) (by rw [m_fed_row (by decide) (by decide)]; exact a4) (by rw [m_fed_row (by decide) (by decide)]; exact a5) (by rw [m_fed_row (by decide) (by decide), m_fed_row (by decide) (by decide)]; exact a6) ⟨n + j, by rw [m_fed_n hn]; exact congrArg ab_ii (by omega), hj⟩ (by rw [m_fed_row (by decide) (by decide)]; exact a8) (by rw [m_fed_m (by decide), m_fed_row (by decide) (by decide)]; exact a9)
theorem m_ok_joins {M : wd_I} (h : m_ok M) {p o c n : Nat} (hp : p < 8) (hc : M 115 p = ab_ii (c : Int)) (hcn : c + n ≤ 8) : m_ok (m_joins M p o c n) := by
  obtain ⟨a1, a2, a3, a4, a5, a6, a7, a8, a9⟩ := id h
  have er : ∀ a, a ≠ 113 → a ≠ 114 → a ≠ 115 → m_joins M p o c n a = M a := fun a h1 h2 h3 => m_joins_row h1 h2 h3 n
  refine m_ok_same h (fun a h1 h2 => er a (by omega) (by omega) (by omega)) (by rw [er 102 (by decide) (by decide) (by decide)]) (by rw [er 102 (by decide) (by decide) (by decide)]) (by rw [er 110 (by decide) (by decide) (by decide)]; exact a4) (fun q hq => ?_) (by rw [er 112 (by decide) (by decide) (by decide), er 111 (by decide) (by decide) (by decide)]; exact a6) (by rw [er 102 (by decide) (by decide) (by decide)]; exact a7) (by rw [er 119 (by decide) (by decide) (by decide)]; exact a8) (by rw [er 102 (by decide) (by decide) (by decide), er 116 (by decide) (by decide) (by decide)]; exact a9)
  by_cases e : q = p
  · subst e
    rw [m_joins_n hc, ab_tI (by omega) (by omega)]
    omega
  · have hne : ∀ j, m_joins M p o c j 115 q = M 115 q := fun j => by
      induction j with
      | zero => rfl
      | succ j ih => unfold m_joins; rw [wd_up_ne _ _ (Or.inr e), wd_up_row _ _ _ (by decide), wd_up_row _ _ _ (by decide), ih]
    rw [hne]
    exact a5 q hq
theorem m_ok_p2 {M : wd_I} (h : m_ok M) : m_ok (m_p2 M) ∧ (m_p1 M).2 ≤ 8 ∧ m_p2 M 102 22 = ab_ii 0 := by
  obtain ⟨a1, a2, a3, a4, a5, a6, a7, a8, a9⟩ := id h
  obtain ⟨n, hn, hn100⟩ := a7
  have ht0 : m_tp (m_p0 M) := by
    have e1 : m_p0 M 102 23 = ab_ii 0 := by unfold m_p0; rw [wd_up_ne _ _ (by omega), wd_up_self]
    have e3 : m_p0 M 102 22 = M 102 22 := by unfold m_p0; rw [wd_up_ne _ _ (by omega), wd_up_ne _ _ (by omega)]
    unfold m_tp
    rw [e1, e3, hn, show (ab_ii 0).toInt = 0 by decide, ab_tI (by omega) (by omega)]
    omega
  obtain ⟨hg, h8⟩ := m_pl_pg 102 0 (m_p0 M) ht0 (by omega)
  change m_pg (m_p0 M) (m_p1 M).1 at hg
  obtain ⟨g1, g2, g3⟩ := hg
  have er : ∀ a, a ≠ 102 → a ≠ 121 → a ≠ 122 → m_p2 M a = M a := fun a h1 h2 h3 => by
    unfold m_p2
    rw [wd_up_row _ _ _ h1, g1 a h1 h2 h3]
    unfold m_p0
    rw [wd_up_row _ _ _ h1, wd_up_row _ _ _ h1]
  have en : ∀ j, j ≠ 22 → j ≠ 23 → j ≠ 24 → j ≠ 26 → j ≠ 27 → m_p2 M 102 j = M 102 j := fun j j1 j2 j3 j4 j5 => by
    unfold m_p2
    rw [wd_up_ne _ _ (Or.inr j1), g2 j j2 j3 j4 j5]
    unfold m_p0
    rw [wd_up_ne _ _ (Or.inr j3), wd_up_ne _ _ (Or.inr j2)]
  have e22 : m_p2 M 102 22 = ab_ii 0 := by unfold m_p2; rw [wd_up_self]
  refine ⟨m_ok_same h (fun a h1 h2 => er a (by omega) (by omega) (by omega)) (en 8 (by decide) (by decide) (by decide) (by decide) (by decide)) (en 9 (by decide) (by decide) (by decide) (by decide) (by decide)) (by rw [er 110 (by decide) (by decide) (by decide)]; exact a4) (by rw [er 115 (by decide) (by decide) (by decide)]; exact a5) (by rw [er 112 (by decide) (by decide) (by decide), er 111 (by decide) (by decide) (by decide)]; exact a6) ⟨0, e22, by omega⟩ (by rw [er 119 (by decide) (by decide) (by decide)]; exact a8) (by rw [en 20 (by decide) (by decide) (by decide) (by decide) (by decide), er 116 (by decide) (by decide) (by decide)]; exact a9), h8, e22⟩
theorem m_ok_p3 {M : wd_I} (h : m_ok M) {p : Nat} (hp : p < 8) : m_ok (m_p3 M p) ∧ m_p3 M p 102 22 = ab_ii 0 := by
  obtain ⟨h2, h8, e22⟩ := m_ok_p2 h
  obtain ⟨a1, a2, a3, a4, a5, a6, a7, a8, a9⟩ := id h2
  have er : ∀ a, a ≠ 113 → a ≠ 114 → a ≠ 115 → m_p3 M p a = m_p2 M a := fun a h1 h2 h3 => by
    unfold m_p3
    rw [wd_up_row _ _ _ h3, m_pcp_row h1 h2]
  refine ⟨m_ok_same h2 (fun a h1 h2 => er a (by omega) (by omega) (by omega)) (by rw [er 102 (by decide) (by decide) (by decide)]) (by rw [er 102 (by decide) (by decide) (by decide)]) (by rw [er 110 (by decide) (by decide) (by decide)]; exact a4) (fun q hq => ?_) (by rw [er 112 (by decide) (by decide) (by decide), er 111 (by decide) (by decide) (by decide)]; exact a6) (by rw [er 102 (by decide) (by decide) (by decide)]; exact a7) (by rw [er 119 (by decide) (by decide) (by decide)]; exact a8) (by rw [er 102 (by decide) (by decide) (by decide), er 116 (by decide) (by decide) (by decide)]; exact a9), by rw [er 102 (by decide) (by decide) (by decide)]; exact e22⟩
  unfold m_p3
  by_cases e : q = p
  · subst e
    rw [wd_up_self, ab_tI (by omega) (by omega)]
    omega
  · rw [wd_up_ne _ _ (Or.inr e), m_pcp_row (by decide) (by decide)]
    exact a5 q hq
theorem m_ok_image {M : wd_I} (h : m_ok M) : m_ok (m_image M) ∧ m_image M 102 22 = M 102 22 ∧ m_image M 110 = M 110 := by
  obtain ⟨a1, a2, a3, a4, a5, a6, a7, a8, a9⟩ := id h
  have er : ∀ a, a ≠ 102 → a ≠ 116 → a ≠ 117 → a ≠ 118 → a ≠ 119 → m_image M a = M a := fun a h1 h2 h3 h4 h5 => by
    unfold m_image
    rw [wd_up_row _ _ _ h1, m_cp_row h5, m_cq_row h3 h4, m_cp_row h2]
  have en : ∀ j, j ≠ 20 → m_image M 102 j = M 102 j := fun j hj => by
    unfold m_image
    rw [wd_up_ne _ _ (Or.inr hj), m_cp_row (by decide), m_cq_row (by decide) (by decide), m_cp_row (by decide)]
  have e116 : ∀ j, j < 12 → m_image M 116 j = M 110 j := fun j hj => by
    unfold m_image
    rw [wd_up_row _ _ _ (by decide), m_cp_row (by decide), m_cq_row (by decide) (by decide), m_cp_at, if_pos hj]
  have e119 : ∀ j, j < 8 → m_image M 119 j = M 115 j := fun j hj => by
    unfold m_image
    rw [wd_up_row _ _ _ (by decide), m_cp_at, if_pos hj, m_cq_row (by decide) (by decide), m_cp_row (by decide)]
  refine ⟨m_ok_same h (fun a h1 h2 => er a (by omega) (by omega) (by omega) (by omega) (by omega)) (en 8 (by decide)) (en 9 (by decide)) (by rw [er 110 (by decide) (by decide) (by decide) (by decide) (by decide)]; exact a4) (by rw [er 115 (by decide) (by decide) (by decide) (by decide) (by decide)]; exact a5) (by rw [er 112 (by decide) (by decide) (by decide) (by decide) (by decide), er 111 (by decide) (by decide) (by decide) (by decide) (by decide)]; exact a6) (by rw [en 22 (by decide)]; exact a7) (fun p hp => by rw [e119 p hp]; exact a5 p hp) (fun _ j hj => by rw [e116 j hj]; exact a4 j hj), en 22 (by decide), er 110 (by decide) (by decide) (by decide) (by decide) (by decide)⟩
theorem m_ok_back {M : wd_I} (h : m_ok M) (hi : ¬ (M 102 20).toInt = 0) : m_ok (m_back M) ∧ m_back M 102 22 = M 102 22 := by
  obtain ⟨a1, a2, a3, a4, a5, a6, a7, a8, a9⟩ := id h
  have er : ∀ a, a ≠ 110 → a ≠ 112 → a ≠ 113 → a ≠ 114 → a ≠ 115 → m_back M a = M a := fun a h1 h2 h3 h4 h5 => by
    unfold m_back
    rw [m_cp_row h5, m_cq_row h3 h4, m_cz_row h1 h2]
  have e110 : ∀ j, j < 12 → m_back M 110 j = M 116 j := fun j hj => by
    unfold m_back
    rw [m_cp_row (by decide), m_cq_row (by decide) (by decide), m_cz_at, if_pos hj]
  have e112 : ∀ j, j < 12 → m_back M 112 j = ab_ii 0 := fun j hj => by
    unfold m_back
    rw [m_cp_row (by decide), m_cq_row (by decide) (by decide), m_cz_bt, if_pos hj]
  have e115 : ∀ j, j < 8 → m_back M 115 j = M 119 j := fun j hj => by
    unfold m_back
    rw [m_cp_at, if_pos hj, m_cq_row (by decide) (by decide), m_cz_row (by decide) (by decide)]
  refine ⟨m_ok_same h (fun a h1 h2 => er a (by omega) (by omega) (by omega) (by omega) (by omega)) (by rw [er 102 (by decide) (by decide) (by decide) (by decide) (by decide)]) (by rw [er 102 (by decide) (by decide) (by decide) (by decide) (by decide)]) (fun j hj => by rw [e110 j hj]; exact a9 hi j hj) (fun p hp => by rw [e115 p hp]; exact a8 p hp) (fun j hj => ⟨0, e112 j hj, by omega, fun i hi => absurd hi (Nat.not_lt_zero _)⟩) (by rw [er 102 (by decide) (by decide) (by decide) (by decide) (by decide)]; exact a7) (by rw [er 119 (by decide) (by decide) (by decide) (by decide) (by decide)]; exact a8) (by rw [er 102 (by decide) (by decide) (by decide) (by decide) (by decide), er 116 (by decide) (by decide) (by decide) (by decide) (by decide)]; exact a9), by rw [er 102 (by decide) (by decide) (by decide) (by decide) (by decide)]⟩
end
