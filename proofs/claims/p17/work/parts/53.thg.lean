/-! ===== the reference: thing (own text) ===== -/
def m_th0 (M : wd_I) : wd_I := wd_up (wd_up (wd_up M 102 23 (ab_ii 0)) 102 24 (ab_ii (-1))) 102 25 (ab_ii 0)
def m_th1 (M : wd_I) : wd_I × Int32 := m_rd 13 (m_th0 M)
def m_thf (N : wd_I) : wd_I := if (N 102 24).toInt = -1 ∧ (N 102 23).toInt < (N 102 22).toInt then m_fails N (N 102 23) else N
def m_th2 (M : wd_I) : wd_I := wd_up (m_thf (m_th1 M).1) 102 22 (ab_ii 0)
def m_th3 (M : wd_I) : Int32 := ab_ii ((m_th2 M 102 9).toInt + (m_th2 M 102 25).toInt)
theorem m_th0_n {M : wd_I} {j : Nat} (h : j ≠ 23 ∧ j ≠ 24 ∧ j ≠ 25) : m_th0 M 102 j = M 102 j := by
  unfold m_th0
  rw [wd_up_ne _ _ (by omega), wd_up_ne _ _ (by omega), wd_up_ne _ _ (by omega)]
theorem m_th0_row {M : wd_I} {a : Nat} (h : a ≠ 102) : m_th0 M a = M a := by
  unfold m_th0
  rw [wd_up_row _ _ _ h, wd_up_row _ _ _ h, wd_up_row _ _ _ h]
theorem m_th0_v {M : wd_I} : m_th0 M 102 23 = ab_ii 0 ∧ m_th0 M 102 24 = ab_ii (-1) ∧ m_th0 M 102 25 = ab_ii 0 := by
  unfold m_th0
  refine ⟨?_, ?_, ?_⟩
  · rw [wd_up_ne _ _ (by omega), wd_up_ne _ _ (by omega), wd_up_self]
  · rw [wd_up_ne _ _ (by omega), wd_up_self]
  · rw [wd_up_self]
theorem m_th0_rp {M : wd_I} (h1 : 1 ≤ (M 102 8).toInt) (h2 : (M 102 8).toInt ≤ 3012) (ht : 0 ≤ (M 102 22).toInt ∧ (M 102 22).toInt ≤ 100) : m_rp (m_th0 M) := by
  obtain ⟨e1, e2, e3⟩ := m_th0_v (M := M)
  refine ⟨?_, by rw [m_th0_n (by decide)]; exact h1, ?_⟩
  · unfold m_tp
    rw [e1, m_th0_n (by decide)]
    exact ⟨by decide, ht.1, ht.2⟩
  · unfold m_pt
    rw [e1, e2, m_th0_n (by decide), if_pos (by decide)]
    show (M 102 8).toInt + (1 - 0) ≤ 3013
    omega
theorem m_thf_n {N : wd_I} {j : Nat} (h : j ≠ 24) : m_thf N 102 j = N 102 j := by
  unfold m_thf
  split
  · exact wd_up_ne _ _ (Or.inr h)
  · rfl
theorem m_thf_row {N : wd_I} {a : Nat} (h : a ≠ 102) : m_thf N a = N a := by
  unfold m_thf
  split
  · exact wd_up_row _ _ _ h
  · rfl
theorem m_th2_n {M : wd_I} {j : Nat} (h : j ≠ 22 ∧ j ≠ 24) : m_th2 M 102 j = (m_th1 M).1 102 j := by
  unfold m_th2
  rw [wd_up_ne _ _ (by omega), m_thf_n (by omega)]
theorem m_th2_row {M : wd_I} {a : Nat} (h : a ≠ 102) : m_th2 M a = (m_th1 M).1 a := by
  unfold m_th2
  rw [wd_up_row _ _ _ h, m_thf_row h]
set_option maxHeartbeats 4000000 in
set_option maxRecDepth 100000 in
theorem x_thing {d : Nat} (hd : 46 ≤ d) {I : wd_I} {P : wd_P} {M : wd_I} {g : Nat → ab_C} {k z c : Nat} {s : Int32} {Q : ab_Q} (h8 : 1 ≤ (M 102 8).toInt) (h82 : (M 102 8).toInt ≤ 3012) (htp : 0 ≤ (M 102 22).toInt ∧ (M 102 22).toInt ≤ 100) (hpm : M 112 s.toInt.toNat = ab_ii (c : Int)) (hc10 : c ≤ 10)
    (hb : ¬ m_sh s → Q (some (.inl (ab_ii (-2)))) (wd I P M g, k, z))
    (hF : m_sh s → ¬ (m_th2 M 102 24).toInt = -1 → Q (some (.inl (ab_ii (-100 - (m_th2 M 102 24).toInt)))) (wd I P (m_rs M (m_th2 M)) g, k, z))
    (hN : m_sh s → (m_th2 M 102 24).toInt = -1 → 3000 < (m_th3 M).toInt → Q (some (.inl (ab_ii (-17)))) (wd I P (m_rs M (m_th2 M)) g, k, z))
    (hD : m_sh s → (m_th2 M 102 24).toInt = -1 → (m_th3 M).toInt ≤ 3000 → Q (some (.inl (m_th2 M 106 (m_th1 M).2.toInt.toNat))) (wd I P (m_becomes (wd_up (m_th2 M) 102 9 (m_th3 M)) s.toInt.toNat (m_th1 M).2 c) g, k, z)) : ab_CT d 157 [wd_v 102, .inl s] (wd I P M g, k, z) Q := by
  by_cases hs : m_sh s
  · have hF1 := hF hs
    have hN1 := hN hs
    have hD1 := hD hs
    clear hb hF hN hD
    unfold m_sh at hs
    have hp := m_th0_rp h8 h82 htp
    have hrr := m_rd_rr 13 (m_th0 M) hp
    have hx := fun Q hq => x_reads (I := I) (P := P) (g := g) (k := k) (z := z) 13 (d - 1) 0 (by omega) (by omega) (m_th0 M) Q hp hq
    have e0 : wd_up (wd_up (wd_up M 102 23 (ab_ii 0)) 102 24 (ab_ii (-1))) 102 25 (ab_ii 0) = m_th0 M := rfl
    have e22 : (m_th1 M).1 102 22 = M 102 22 := (hrr.1.1.2.2 22 (by decide) (by decide) (by decide) (by decide)).trans (m_th0_n (by decide))
    have hpN : (m_th1 M).1 112 s.toInt.toNat = ab_ii (c : Int) := by
      rw [show (m_th1 M).1 112 = m_th0 M 112 from hrr.1.1.2.1 112 (by decide), m_th0_row (by decide)]
      exact hpm
    have hlt := m_rr_lt hp hrr
    have htpN := hrr.1.2.1
    change ∀ Q : ab_Q, Q (some (.inl (m_th1 M).2)) (wd I P (m_th1 M).1 g, k, z) → _ at hx
    change 0 ≤ (m_th1 M).2.toInt ∧ (m_th1 M).2.toInt < 3120 at hlt
    change m_tp (m_th1 M).1 at htpN
    unfold m_th2 m_rs at hF1
    unfold m_th3 m_th2 m_rs at hN1
    unfold m_th3 m_th2 at hD1
    clear hrr
    generalize m_th1 M = R at *
    obtain ⟨N, t⟩ := R
    dsimp only at *
    obtain ⟨q1, q2, q3⟩ := htpN
    have e106 : ∀ (x : Int32), m_becomes (wd_up (wd_up (m_thf N) 102 22 (ab_ii 0)) 102 9 x) s.toInt.toNat t c 106 = m_thf N 106 := by
      intro x
      unfold m_becomes
      split
      · unfold m_bec1
        rw [wd_up_row _ _ _ (by decide), wd_up_row _ _ _ (by decide), wd_up_row _ _ _ (by decide), wd_up_row _ _ _ (by decide), m_shift_row (by decide), wd_up_row _ _ _ (by decide), wd_up_row _ _ _ (by decide)]
      · unfold m_bec1
        rw [wd_up_row _ _ _ (by decide), wd_up_row _ _ _ (by decide), wd_up_row _ _ _ (by decide), wd_up_row _ _ _ (by decide), wd_up_row _ _ _ (by decide)]
    have hbec : ∀ (x : Int32), wd_up (wd_up (m_thf N) 102 22 (ab_ii 0)) 102 9 x 112 s.toInt.toNat = ab_ii (c : Int) := fun x => by
      rw [wd_up_row _ _ _ (by decide), wd_up_row _ _ _ (by decide), m_thf_row (by decide)]
      exact hpN
    rw [show wd_up (m_thf N) 102 22 (ab_ii 0) 106 = m_thf N 106 from wd_up_row _ _ _ (by decide)] at hD1
    by_cases hff : (N 102 24).toInt = -1 ∧ (N 102 23).toInt < (N 102 22).toInt
    · have e1 : m_thf N = m_fails N (N 102 23) := if_pos hff
      rw [e1] at hF1 hN1 hD1 e106 hbec
      have e24 : m_fails N (N 102 23) 102 24 = N 102 23 := by unfold m_fails; rw [wd_up_self, if_pos hff.1]
      refine wd_inC rfl (by omega) rfl ?_
      intro C9 X9 hC9 hX9
      repeat' ((conv => whnf); first
    | (refine hC9 134 _ _ _ (x_isShelf (by omega) (fun hc hc2 => ?_) (fun hc => ?_)); (try (exfalso; omega)))
    | (rw [e0]; refine hC9 156 _ _ _ (hx _ ?_))
    | (refine hC9 145 _ _ _ (x_isFault (M := N) (by omega) (fun hc => ?_) (fun hc => ?_)); (try (exfalso; omega)))
    | (refine hC9 144 _ _ _ (x_fails (M := N) (by omega) ?_))
    | (refine hC9 145 _ _ _ (x_isFault (by omega) (fun hc => ?_) (fun hc => ?_)) <;> (try (exfalso; (rw [wd_up_ne _ _ (Or.inr (by decide)), e24] at hc); omega)))
    | (intro v9 hv9; (try simp (disch := omega) only [ab_tI, ab_c0, wd_ix12, wd_ix8, wd_ix10, wd_up_self, wd_up_eq, wd_up_ne, Int.toNat_natCast, Int.toNat_of_nonneg, not_true_eq_false, not_false_eq_true, Option.some.injEq] at hv9); subst hv9)
    | (apply i_get; (focus (exact rfl)); (focus (exact rfl)))
    | (refine hX9 _ _ _ _ (wd_rnC rfl ?_); clear hC9 hX9 X9 C9; intro C9 X9 hC9 hX9)
    | (apply w_ialM; (focus (exact rfl)); (focus (exact (by first | exact ⟨by decide, by decide⟩ | ((try simp (disch := omega) only [ab_tI, ab_c0, wd_ix12, wd_ix8, wd_ix10, wd_up_self, wd_up_eq, wd_up_ne, Int.toNat_natCast, Int.toNat_of_nonneg, not_true_eq_false, not_false_eq_true, Option.some.injEq, wd_l103, wd_l104, wd_l105, wd_l106, wd_l107, wd_l108, wd_l109, wd_l110, wd_l111, wd_l112, wd_l113, wd_l114, wd_l115, wd_l116, wd_l117, wd_l118, wd_l119, wd_l120, wd_l121, wd_l122, wd_l123, wd_l124]); omega)))); (intro v9 hv9; (try simp (disch := omega) only [ab_tI, ab_c0, wd_ix12, wd_ix8, wd_ix10, wd_up_self, wd_up_eq, wd_up_ne, Int.toNat_natCast, Int.toNat_of_nonneg, not_true_eq_false, not_false_eq_true, Option.some.injEq] at hv9); subst hv9))
    | (apply w_putM; (focus (exact rfl)); (focus (first | exact trivial | exact Or.inl rfl | exact Or.inr rfl)); (focus (exact rfl)))
    | (apply w_iasM; (focus (exact rfl)); (focus (exact (by first | exact ⟨by decide, by decide⟩ | ((try simp (disch := omega) only [ab_tI, ab_c0, wd_ix12, wd_ix8, wd_ix10, wd_up_self, wd_up_eq, wd_up_ne, Int.toNat_natCast, Int.toNat_of_nonneg, not_true_eq_false, not_false_eq_true, Option.some.injEq, wd_l103, wd_l104, wd_l105, wd_l106, wd_l107, wd_l108, wd_l109, wd_l110, wd_l111, wd_l112, wd_l113, wd_l114, wd_l115, wd_l116, wd_l117, wd_l118, wd_l119, wd_l120, wd_l121, wd_l122, wd_l123, wd_l124]); omega)))); (intro v9 hv9; (try simp (disch := omega) only [ab_tI, ab_c0, wd_ix12, wd_ix8, wd_ix10, wd_up_self, wd_up_eq, wd_up_ne, Int.toNat_natCast, Int.toNat_of_nonneg, not_true_eq_false, not_false_eq_true, Option.some.injEq] at hv9); subst hv9))
    | (refine i_brF (by decide) ?_)
    | (refine i_brT (by decide) ?_)
    | (refine ⟨fun hc => ?_, fun hc => ?_⟩ <;> (try simp (disch := omega) only [ab_tI, ab_c0, wd_ix12, wd_ix8, wd_ix10, wd_up_self, wd_up_eq, wd_up_ne, Int.toNat_natCast, Int.toNat_of_nonneg, not_true_eq_false, not_false_eq_true, Option.some.injEq] at hc) <;> first | (exfalso; omega) | skip)
    | (apply i_cv; (focus (exact rfl)))
    | (apply w_balM; (focus (exact (by first | exact ⟨by decide, by decide⟩ | ((try simp (disch := omega) only [ab_tI, ab_c0, wd_ix12, wd_ix8, wd_ix10, wd_up_self, wd_up_eq, wd_up_ne, Int.toNat_natCast, Int.toNat_of_nonneg, not_true_eq_false, not_false_eq_true, Option.some.injEq, wd_l103, wd_l104, wd_l105, wd_l106, wd_l107, wd_l108, wd_l109, wd_l110, wd_l111, wd_l112, wd_l113, wd_l114, wd_l115, wd_l116, wd_l117, wd_l118, wd_l119, wd_l120, wd_l121, wd_l122, wd_l123, wd_l124]); omega)))); (intro v9 hv9; (try simp (disch := omega) only [ab_tI, ab_c0, wd_ix12, wd_ix8, wd_ix10, wd_up_self, wd_up_eq, wd_up_ne, Int.toNat_natCast, Int.toNat_of_nonneg, not_true_eq_false, not_false_eq_true, Option.some.injEq] at hv9); subst hv9))
    | (apply w_basM; (focus (exact (by first | exact ⟨by decide, by decide⟩ | ((try simp (disch := omega) only [ab_tI, ab_c0, wd_ix12, wd_ix8, wd_ix10, wd_up_self, wd_up_eq, wd_up_ne, Int.toNat_natCast, Int.toNat_of_nonneg, not_true_eq_false, not_false_eq_true, Option.some.injEq, wd_l103, wd_l104, wd_l105, wd_l106, wd_l107, wd_l108, wd_l109, wd_l110, wd_l111, wd_l112, wd_l113, wd_l114, wd_l115, wd_l116, wd_l117, wd_l118, wd_l119, wd_l120, wd_l121, wd_l122, wd_l123, wd_l124]); omega)))); (focus (first | exact Or.inl rfl | exact Or.inr rfl)); (intro v9 hv9; (try simp (disch := omega) only [ab_tI, ab_c0, wd_ix12, wd_ix8, wd_ix10, wd_up_self, wd_up_eq, wd_up_ne, Int.toNat_natCast, Int.toNat_of_nonneg, not_true_eq_false, not_false_eq_true, Option.some.injEq] at hv9); subst hv9))
    | (refine And.intro trivial ?_)
    | (refine And.intro (Or.inl rfl) ?_)
    | (refine And.intro (Or.inr rfl) ?_)
    | (refine And.intro (by ((try simp (disch := omega) only [ab_tI, ab_c0, wd_ix12, wd_ix8, wd_ix10, wd_up_self, wd_up_eq, wd_up_ne, Int.toNat_natCast, Int.toNat_of_nonneg, not_true_eq_false, not_false_eq_true, Option.some.injEq]); omega)) ?_)
    | fail)
      all_goals first | exact hF1 (by rw [wd_up_ne _ _ (Or.inr (by decide)), e24]; omega) | (exfalso; omega)
    · have e1 : m_thf N = N := if_neg hff
      rw [e1] at hF1 hN1 hD1 e106 hbec
      have e24 : wd_up N 102 22 (ab_ii 0) 102 24 = N 102 24 := wd_up_ne _ _ (Or.inr (by decide))
      have e9 : wd_up N 102 22 (ab_ii 0) 102 9 = N 102 9 := wd_up_ne _ _ (Or.inr (by decide))
      have e25 : wd_up N 102 22 (ab_ii 0) 102 25 = N 102 25 := wd_up_ne _ _ (Or.inr (by decide))
      rw [e24] at hF1 hN1 hD1
      rw [e9, e25] at hN1 hD1
      refine wd_inC rfl (by omega) rfl ?_
      intro C9 X9 hC9 hX9
      repeat' ((conv => whnf); first
    | (refine hC9 134 _ _ _ (x_isShelf (by omega) (fun hc hc2 => ?_) (fun hc => ?_)); (try (exfalso; omega)))
    | (rw [e0]; refine hC9 156 _ _ _ (hx _ ?_))
    | (refine hC9 145 _ _ _ (x_isFault (M := N) (by omega) (fun hc => ?_) (fun hc => ?_)); (try (exfalso; omega)))
    | (refine hC9 145 _ _ _ (x_isFault (M := wd_up N 102 22 (ab_ii 0)) (by omega) (fun hc => ?_) (fun hc => ?_)) <;> rw [e24] at hc)
    | (refine hC9 141 _ _ _ (x_becomes (by omega) hs.1 hs.2 (hbec _) hc10 ?_))
    | (intro v9 hv9; (try simp (disch := omega) only [ab_tI, ab_c0, wd_ix12, wd_ix8, wd_ix10, wd_up_self, wd_up_eq, wd_up_ne, Int.toNat_natCast, Int.toNat_of_nonneg, not_true_eq_false, not_false_eq_true, Option.some.injEq, e106] at hv9); subst hv9)
    | (apply i_get; (focus (exact rfl)); (focus (exact rfl)))
    | (refine hX9 _ _ _ _ (wd_rnC rfl ?_); clear hC9 hX9 X9 C9; intro C9 X9 hC9 hX9)
    | (apply w_ialM; (focus (exact rfl)); (focus (exact (by first | exact ⟨by decide, by decide⟩ | ((try simp (disch := omega) only [ab_tI, ab_c0, wd_ix12, wd_ix8, wd_ix10, wd_up_self, wd_up_eq, wd_up_ne, Int.toNat_natCast, Int.toNat_of_nonneg, not_true_eq_false, not_false_eq_true, Option.some.injEq, e106, wd_l103, wd_l104, wd_l105, wd_l106, wd_l107, wd_l108, wd_l109, wd_l110, wd_l111, wd_l112, wd_l113, wd_l114, wd_l115, wd_l116, wd_l117, wd_l118, wd_l119, wd_l120, wd_l121, wd_l122, wd_l123, wd_l124]); omega)))); (intro v9 hv9; (try simp (disch := omega) only [ab_tI, ab_c0, wd_ix12, wd_ix8, wd_ix10, wd_up_self, wd_up_eq, wd_up_ne, Int.toNat_natCast, Int.toNat_of_nonneg, not_true_eq_false, not_false_eq_true, Option.some.injEq, e106] at hv9); subst hv9))
    | (apply w_putM; (focus (exact rfl)); (focus (first | exact trivial | exact Or.inl rfl | exact Or.inr rfl)); (focus (exact rfl)))
    | (apply w_iasM; (focus (exact rfl)); (focus (exact (by first | exact ⟨by decide, by decide⟩ | ((try simp (disch := omega) only [ab_tI, ab_c0, wd_ix12, wd_ix8, wd_ix10, wd_up_self, wd_up_eq, wd_up_ne, Int.toNat_natCast, Int.toNat_of_nonneg, not_true_eq_false, not_false_eq_true, Option.some.injEq, e106, wd_l103, wd_l104, wd_l105, wd_l106, wd_l107, wd_l108, wd_l109, wd_l110, wd_l111, wd_l112, wd_l113, wd_l114, wd_l115, wd_l116, wd_l117, wd_l118, wd_l119, wd_l120, wd_l121, wd_l122, wd_l123, wd_l124]); omega)))); (intro v9 hv9; (try simp (disch := omega) only [ab_tI, ab_c0, wd_ix12, wd_ix8, wd_ix10, wd_up_self, wd_up_eq, wd_up_ne, Int.toNat_natCast, Int.toNat_of_nonneg, not_true_eq_false, not_false_eq_true, Option.some.injEq, e106] at hv9); subst hv9))
    | (refine i_brF (by decide) ?_)
    | (refine i_brT (by decide) ?_)
    | (refine ⟨fun hc => ?_, fun hc => ?_⟩ <;> (try simp (disch := omega) only [ab_tI, ab_c0, wd_ix12, wd_ix8, wd_ix10, wd_up_self, wd_up_eq, wd_up_ne, Int.toNat_natCast, Int.toNat_of_nonneg, not_true_eq_false, not_false_eq_true, Option.some.injEq, e106] at hc) <;> first | (exfalso; omega) | skip)
    | (apply i_cv; (focus (exact rfl)))
    | (apply w_balM; (focus (exact (by first | exact ⟨by decide, by decide⟩ | ((try simp (disch := omega) only [ab_tI, ab_c0, wd_ix12, wd_ix8, wd_ix10, wd_up_self, wd_up_eq, wd_up_ne, Int.toNat_natCast, Int.toNat_of_nonneg, not_true_eq_false, not_false_eq_true, Option.some.injEq, e106, wd_l103, wd_l104, wd_l105, wd_l106, wd_l107, wd_l108, wd_l109, wd_l110, wd_l111, wd_l112, wd_l113, wd_l114, wd_l115, wd_l116, wd_l117, wd_l118, wd_l119, wd_l120, wd_l121, wd_l122, wd_l123, wd_l124]); omega)))); (intro v9 hv9; (try simp (disch := omega) only [ab_tI, ab_c0, wd_ix12, wd_ix8, wd_ix10, wd_up_self, wd_up_eq, wd_up_ne, Int.toNat_natCast, Int.toNat_of_nonneg, not_true_eq_false, not_false_eq_true, Option.some.injEq, e106] at hv9); subst hv9))
    | (apply w_basM; (focus (exact (by first | exact ⟨by decide, by decide⟩ | ((try simp (disch := omega) only [ab_tI, ab_c0, wd_ix12, wd_ix8, wd_ix10, wd_up_self, wd_up_eq, wd_up_ne, Int.toNat_natCast, Int.toNat_of_nonneg, not_true_eq_false, not_false_eq_true, Option.some.injEq, e106, wd_l103, wd_l104, wd_l105, wd_l106, wd_l107, wd_l108, wd_l109, wd_l110, wd_l111, wd_l112, wd_l113, wd_l114, wd_l115, wd_l116, wd_l117, wd_l118, wd_l119, wd_l120, wd_l121, wd_l122, wd_l123, wd_l124]); omega)))); (focus (first | exact Or.inl rfl | exact Or.inr rfl)); (intro v9 hv9; (try simp (disch := omega) only [ab_tI, ab_c0, wd_ix12, wd_ix8, wd_ix10, wd_up_self, wd_up_eq, wd_up_ne, Int.toNat_natCast, Int.toNat_of_nonneg, not_true_eq_false, not_false_eq_true, Option.some.injEq, e106] at hv9); subst hv9))
    | (refine And.intro trivial ?_)
    | (refine And.intro (Or.inl rfl) ?_)
    | (refine And.intro (Or.inr rfl) ?_)
    | (refine And.intro (by ((try simp (disch := omega) only [ab_tI, ab_c0, wd_ix12, wd_ix8, wd_ix10, wd_up_self, wd_up_eq, wd_up_ne, Int.toNat_natCast, Int.toNat_of_nonneg, not_true_eq_false, not_false_eq_true, Option.some.injEq, e106]); omega)) ?_)
    | fail)
      all_goals first | exact hF1 (by omega) | exact hN1 (by omega) (by omega) | exact hD1 (by omega) (by omega) | (exfalso; omega)
  · have hb1 := hb hs
    clear hb hF hN hD
    unfold m_sh at hs
    refine wd_inC rfl (by omega) rfl ?_
    intro C9 X9 hC9 hX9
    repeat' ((conv => whnf); first
    | (refine hC9 134 _ _ _ (x_isShelf (by omega) (fun hc hc2 => ?_) (fun hc => ?_)); (try (exfalso; omega)))
    | (intro v9 hv9; (try simp (disch := omega) only [ab_tI, ab_c0, wd_ix12, wd_ix8, wd_ix10, wd_up_self, wd_up_eq, wd_up_ne, Int.toNat_natCast, Int.toNat_of_nonneg, not_true_eq_false, not_false_eq_true, Option.some.injEq] at hv9); subst hv9)
    | (apply i_get; (focus (exact rfl)); (focus (exact rfl)))
    | (refine hX9 _ _ _ _ (wd_rnC rfl ?_); clear hC9 hX9 X9 C9; intro C9 X9 hC9 hX9)
    | (apply w_ialM; (focus (exact rfl)); (focus (exact (by first | exact ⟨by decide, by decide⟩ | ((try simp (disch := omega) only [ab_tI, ab_c0, wd_ix12, wd_ix8, wd_ix10, wd_up_self, wd_up_eq, wd_up_ne, Int.toNat_natCast, Int.toNat_of_nonneg, not_true_eq_false, not_false_eq_true, Option.some.injEq, wd_l103, wd_l104, wd_l105, wd_l106, wd_l107, wd_l108, wd_l109, wd_l110, wd_l111, wd_l112, wd_l113, wd_l114, wd_l115, wd_l116, wd_l117, wd_l118, wd_l119, wd_l120, wd_l121, wd_l122, wd_l123, wd_l124]); omega)))); (intro v9 hv9; (try simp (disch := omega) only [ab_tI, ab_c0, wd_ix12, wd_ix8, wd_ix10, wd_up_self, wd_up_eq, wd_up_ne, Int.toNat_natCast, Int.toNat_of_nonneg, not_true_eq_false, not_false_eq_true, Option.some.injEq] at hv9); subst hv9))
    | (apply w_putM; (focus (exact rfl)); (focus (first | exact trivial | exact Or.inl rfl | exact Or.inr rfl)); (focus (exact rfl)))
    | (apply w_iasM; (focus (exact rfl)); (focus (exact (by first | exact ⟨by decide, by decide⟩ | ((try simp (disch := omega) only [ab_tI, ab_c0, wd_ix12, wd_ix8, wd_ix10, wd_up_self, wd_up_eq, wd_up_ne, Int.toNat_natCast, Int.toNat_of_nonneg, not_true_eq_false, not_false_eq_true, Option.some.injEq, wd_l103, wd_l104, wd_l105, wd_l106, wd_l107, wd_l108, wd_l109, wd_l110, wd_l111, wd_l112, wd_l113, wd_l114, wd_l115, wd_l116, wd_l117, wd_l118, wd_l119, wd_l120, wd_l121, wd_l122, wd_l123, wd_l124]); omega)))); (intro v9 hv9; (try simp (disch := omega) only [ab_tI, ab_c0, wd_ix12, wd_ix8, wd_ix10, wd_up_self, wd_up_eq, wd_up_ne, Int.toNat_natCast, Int.toNat_of_nonneg, not_true_eq_false, not_false_eq_true, Option.some.injEq] at hv9); subst hv9))
    | (refine i_brF (by decide) ?_)
    | (refine i_brT (by decide) ?_)
    | (refine ⟨fun hc => ?_, fun hc => ?_⟩ <;> (try simp (disch := omega) only [ab_tI, ab_c0, wd_ix12, wd_ix8, wd_ix10, wd_up_self, wd_up_eq, wd_up_ne, Int.toNat_natCast, Int.toNat_of_nonneg, not_true_eq_false, not_false_eq_true, Option.some.injEq] at hc) <;> first | (exfalso; omega) | skip)
    | (apply i_cv; (focus (exact rfl)))
    | (apply w_balM; (focus (exact (by first | exact ⟨by decide, by decide⟩ | ((try simp (disch := omega) only [ab_tI, ab_c0, wd_ix12, wd_ix8, wd_ix10, wd_up_self, wd_up_eq, wd_up_ne, Int.toNat_natCast, Int.toNat_of_nonneg, not_true_eq_false, not_false_eq_true, Option.some.injEq, wd_l103, wd_l104, wd_l105, wd_l106, wd_l107, wd_l108, wd_l109, wd_l110, wd_l111, wd_l112, wd_l113, wd_l114, wd_l115, wd_l116, wd_l117, wd_l118, wd_l119, wd_l120, wd_l121, wd_l122, wd_l123, wd_l124]); omega)))); (intro v9 hv9; (try simp (disch := omega) only [ab_tI, ab_c0, wd_ix12, wd_ix8, wd_ix10, wd_up_self, wd_up_eq, wd_up_ne, Int.toNat_natCast, Int.toNat_of_nonneg, not_true_eq_false, not_false_eq_true, Option.some.injEq] at hv9); subst hv9))
    | (apply w_basM; (focus (exact (by first | exact ⟨by decide, by decide⟩ | ((try simp (disch := omega) only [ab_tI, ab_c0, wd_ix12, wd_ix8, wd_ix10, wd_up_self, wd_up_eq, wd_up_ne, Int.toNat_natCast, Int.toNat_of_nonneg, not_true_eq_false, not_false_eq_true, Option.some.injEq, wd_l103, wd_l104, wd_l105, wd_l106, wd_l107, wd_l108, wd_l109, wd_l110, wd_l111, wd_l112, wd_l113, wd_l114, wd_l115, wd_l116, wd_l117, wd_l118, wd_l119, wd_l120, wd_l121, wd_l122, wd_l123, wd_l124]); omega)))); (focus (first | exact Or.inl rfl | exact Or.inr rfl)); (intro v9 hv9; (try simp (disch := omega) only [ab_tI, ab_c0, wd_ix12, wd_ix8, wd_ix10, wd_up_self, wd_up_eq, wd_up_ne, Int.toNat_natCast, Int.toNat_of_nonneg, not_true_eq_false, not_false_eq_true, Option.some.injEq] at hv9); subst hv9))
    | (refine And.intro trivial ?_)
    | (refine And.intro (Or.inl rfl) ?_)
    | (refine And.intro (Or.inr rfl) ?_)
    | (refine And.intro (by ((try simp (disch := omega) only [ab_tI, ab_c0, wd_ix12, wd_ix8, wd_ix10, wd_up_self, wd_up_eq, wd_up_ne, Int.toNat_natCast, Int.toNat_of_nonneg, not_true_eq_false, not_false_eq_true, Option.some.injEq]); omega)) ?_)
    | fail)
    all_goals first | exact hb1 | (exfalso; omega)
