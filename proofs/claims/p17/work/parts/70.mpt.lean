section
/-! ===== the reference: what put makes is a good row (own text) ===== -/
/-- puts over a row in order: still in order, its parts the old ones and the new one -/
theorem m_puts_row {C : wd_I} {c key y : Int32} {s : Nat} (hs : (C 105 c.toInt.toNat).toInt = (s : Int)) (h12 : s ≤ 12) (hsr : ∀ j, j + 1 < s → (C 109 (12 * c.toInt.toNat + j)).toInt < (C 109 (12 * c.toInt.toNat + (j + 1))).toInt) (hfit : s ≤ 11 ∨ ∃ j, j < s ∧ (C 109 (12 * c.toInt.toNat + j)).toInt = key.toInt) : ∃ S : Nat, (m_puts C c key y s 105 c.toInt.toNat).toInt = (S : Int) ∧ S ≤ 12 ∧ (∀ j, j + 1 < S → (m_puts C c key y s 109 (12 * c.toInt.toNat + j)).toInt < (m_puts C c key y s 109 (12 * c.toInt.toNat + (j + 1))).toInt) ∧ ∀ j, j < S → m_puts C c key y s 108 (12 * c.toInt.toNat + j) = y ∨ ∃ i, i < s ∧ m_puts C c key y s 108 (12 * c.toInt.toNat + j) = C 108 (12 * c.toInt.toNat + i) := by
  have hle := m_pk_le (M := C) (t := c) (key := key) (s := s)
  by_cases hpn : m_pn C c key s
  · have hno : ∀ j, j < s → ¬ (C 109 (12 * c.toInt.toNat + j)).toInt = key.toInt := fun j hj e => m_pn_has hsr ⟨j, hj, e⟩ hpn
    have h11 : s ≤ 11 := by
      rcases hfit with h | ⟨j, hj, e⟩
      · exact h
      · exact absurd e (hno j hj)
    refine ⟨s + 1, by rw [m_puts_5, if_pos hpn, ab_tI (by omega) (by omega)]; omega, by omega, (m_puts_sorted hsr hno).2, fun j hj => ?_⟩
    rw [m_puts_8]
    by_cases e : j = m_pk C c key s
    · rw [if_pos e]; exact Or.inl rfl
    · rw [if_neg e]
      by_cases e2 : m_pk C c key s < j
      · rw [if_pos ⟨hpn, e2, by omega⟩]
        exact Or.inr ⟨j - 1, by omega, rfl⟩
      · rw [if_neg (fun q => e2 q.2.1)]
        exact Or.inr ⟨j, by omega, rfl⟩
  · have hk : m_pk C c key s < s ∧ (C 109 (12 * c.toInt.toNat + m_pk C c key s)).toInt = key.toInt := by
      unfold m_pn at hpn
      omega
    refine ⟨s, by rw [m_puts_5, if_neg hpn]; exact hs, h12, fun j hj => ?_, fun j hj => ?_⟩
    · have e9 : ∀ i, (m_puts C c key y s 109 (12 * c.toInt.toNat + i)).toInt = (C 109 (12 * c.toInt.toNat + i)).toInt := fun i => by
        rw [m_puts_9, if_neg (fun q => hpn q.1 : ¬ (m_pn C c key s ∧ m_pk C c key s < i ∧ i ≤ s))]
        split
        · next e => rw [e]; exact hk.2.symm
        · rfl
      rw [e9, e9]
      exact hsr j hj
    · rw [m_puts_8, if_neg (fun q => hpn q.1 : ¬ (m_pn C c key s ∧ m_pk C c key s < j ∧ j ≤ s))]
      split
      · exact Or.inl rfl
      · exact Or.inr ⟨j, hj, rfl⟩
theorem m_pW_T {M : wd_I} {what : Int} {map y n : Int32} {s : Nat} (hT : m_T M (M 102 8).toInt) (h8 : (M 102 8).toInt ≤ 3012) (hma : 0 ≤ map.toInt ∧ map.toInt < (M 102 8).toInt) (hmb : 0 ≤ y.toInt ∧ y.toInt < (M 102 8).toInt) (hsz : (M 105 map.toInt.toNat).toInt = (s : Int)) (hk : what = 2 → (M 103 map.toInt.toNat).toInt = 3) (h12 : what = 2 → (s ≤ 11 ∨ ¬ (m_hk M map.toInt.toNat (ab_ii (n.toInt + 1)) s).toInt = 0)) : m_fr (M 102 8).toInt M (m_pW M what map y n s) ∧ m_s1 M (m_pW M what map y n s) ∧ ((m_pW M what map y n s 106 (M 102 8).toInt.toNat).toInt ≤ 200 → (m_pW M what map y n s 107 (M 102 8).toInt.toNat).toInt ≤ 12 → m_T (m_pW M what map y n s) (m_pW M what map y n s 102 8).toInt) := by
  have h0 : 0 ≤ (M 102 8).toInt := by omega
  obtain ⟨s', a1, a2, a3, a4, a5, a6, a7, a8, a9, a10, a11⟩ := m_T_row hT (t := map.toInt.toNat) (by omega)
  have es : s' = s := by omega
  subst es
  have hA : ∃ S : Nat, (m_pA M what map y n s' 105 (M 102 8).toInt.toNat).toInt = (S : Int) ∧ S ≤ 12 ∧ m_fr (M 102 8).toInt M (m_pA M what map y n s') ∧ m_s1 M (m_pA M what map y n s') ∧ (1 ≤ (m_pA M what map y n s' 103 (M 102 8).toInt.toNat).toInt ∧ (m_pA M what map y n s' 103 (M 102 8).toInt.toNat).toInt ≤ 3) ∧ (∀ j, j < S → 0 ≤ (m_pA M what map y n s' 108 (12 * (M 102 8).toInt.toNat + j)).toInt ∧ (m_pA M what map y n s' 108 (12 * (M 102 8).toInt.toNat + j)).toInt < (M 102 8).toInt) ∧ (¬ (m_pA M what map y n s' 103 (M 102 8).toInt.toNat).toInt = 3 → ∀ j, j < S → (m_pA M what map y n s' 109 (12 * (M 102 8).toInt.toNat + j)).toInt = 0) ∧ ((m_pA M what map y n s' 103 (M 102 8).toInt.toNat).toInt = 3 → ∀ j, j + 1 < S → (m_pA M what map y n s' 109 (12 * (M 102 8).toInt.toNat + j)).toInt < (m_pA M what map y n s' 109 (12 * (M 102 8).toInt.toNat + (j + 1))).toInt) := by
    unfold m_pA
    by_cases h2 : what = 2
    · rw [if_pos h2]
      have hCf : m_fr (M 102 8).toInt M (m_copyOf M map s') := m_copyOf_fr m_fr.rf (Int.le_refl _)
      have hCk : ∀ j, j < s' → m_copyOf M map s' 109 (12 * (M 102 8).toInt.toNat + j) = M 109 (12 * map.toInt.toNat + j) := fun j hj => m_copyOf_ky hma.1 hma.2 a2 hj
      have hCp : ∀ j, j < s' → m_copyOf M map s' 108 (12 * (M 102 8).toInt.toNat + j) = M 108 (12 * map.toInt.toNat + j) := fun j hj => m_copyOf_pt hma.1 hma.2 a2 hj
      obtain ⟨S, q1, q2, q3, q4⟩ := m_puts_row (C := m_copyOf M map s') (c := M 102 8) (key := ab_ii (n.toInt + 1)) (y := y) (s := s') (by rw [m_copyOf_sz]; exact a1) a2 (fun j hj => by rw [hCk j (by omega), hCk (j + 1) hj]; exact a11 (hk h2) j hj) (by
        rcases h12 h2 with h | h
        · exact Or.inl h
        · obtain ⟨j, hj, e⟩ := m_hk_ex s' h
          exact Or.inr ⟨j, hj, by rw [hCk j hj]; exact e⟩)
      have hrw : m_rw (M 102 8).toInt (m_copyOf M map s') (m_puts (m_copyOf M map s') (M 102 8) (ab_ii (n.toInt + 1)) y s') := m_puts_rw h0 (Int.le_refl _)
      have e103 : m_puts (m_copyOf M map s') (M 102 8) (ab_ii (n.toInt + 1)) y s' 103 (M 102 8).toInt.toNat = M 103 map.toInt.toNat := by
        unfold m_puts m_puts1
        rw [wd_up_row _ _ _ (by decide), wd_up_row _ _ _ (by decide)]
        split
        · rw [wd_up_row _ _ _ (by decide), m_psh_row (by decide) (by decide), m_copyOf_kd]
        · rw [m_copyOf_kd]
      refine ⟨S, q1, q2, ⟨hCf.1.tr hrw.1 (Int.le_refl _), fun a ha => (hrw.2.1 a ha).trans (hCf.2.1 a ha), fun j j1 j2 j3 j4 => by rw [hrw.2.2]; exact hCf.2.2 j j1 j2 j3 j4⟩, ⟨by rw [hrw.2.2]; exact m_copyOf_8, fun j hj => by rw [hrw.2.2]; unfold m_copyOf; rw [m_cpl_row (by decide) (by decide), m_begins_n hj]⟩, by rw [e103, hk h2]; omega, fun j hj => ?_, fun h3 => by rw [e103] at h3; exact absurd (hk h2) h3, fun _ => q3⟩
      rcases q4 j hj with e | ⟨i, hi, e⟩
      · rw [e]; exact hmb
      · rw [e, hCp i hi]
        exact ⟨(a6 i hi).1, (a6 i hi).2.1⟩
    · rw [if_neg h2]
      obtain ⟨sort, hsort⟩ : ∃ sort, sort = ab_ii (if what = 0 then 1 else 2) := ⟨_, rfl⟩
      have hso : sort.toInt = 1 ∨ sort.toInt = 2 := by
        rw [hsort]
        split
        · left; decide
        · right; decide
      rw [← hsort]
      have e103 : m_adds (m_adds (m_begins M sort (ab_ii 0) (ab_ii 0)) (M 102 8) (ab_ii 0) map 0) (M 102 8) (ab_ii 0) y 1 103 (M 102 8).toInt.toNat = sort := by rw [m_adds_kd, m_adds_kd, m_begins_kd]
      refine ⟨2, by rw [m_adds_sz]; decide, by omega, m_adds_fr (m_adds_fr (m_begins_fr m_fr.rf (Int.le_refl _)) h0 (Int.le_refl _)) h0 (Int.le_refl _), ⟨by rw [m_adds_102, m_adds_102, m_begins_8], fun j hj => by rw [m_adds_102, m_adds_102, m_begins_n hj]⟩, by rw [e103]; omega, fun j hj => ?_, fun _ j hj => ?_, fun h3 => by rw [e103] at h3; omega⟩
      · by_cases e : j = 1
        · subst e; rw [m_adds_pt]; exact hmb
        · have e0 : j = 0 := by omega
          subst e0
          rw [m_adds_pn (by omega), m_adds_pt]; exact hma
      · rw [m_adds_ky]
        split
        · decide
        · rw [m_adds_ky, if_pos (by omega)]; decide
  obtain ⟨S, q1, q2, q3, q4, q5, q6, q7, q8⟩ := hA
  have hszz : m_sz (m_pA M what map y n s') (M 102 8) = S := by unfold m_sz; rw [q1]; omega
  unfold m_pW
  rw [hszz]
  generalize m_pA M what map y n s' = A at *
  have hfE : m_fr (M 102 8).toInt M (m_ends A (M 102 8) S) := m_ends_fr q3 (Int.le_refl _)
  have e102 : m_ends A (M 102 8) S 102 = A 102 := m_ends_row (by decide) (by decide)
  refine ⟨hfE, ⟨by rw [e102]; exact q4.1, fun j hj => by rw [e102]; exact q4.2 j hj⟩, fun hn hh => ?_⟩
  have hpart : ∀ j, j < S → (1 ≤ (A 106 (A 108 (12 * (M 102 8).toInt.toNat + j)).toInt.toNat).toInt ∧ (A 106 (A 108 (12 * (M 102 8).toInt.toNat + j)).toInt.toNat).toInt ≤ 200) ∧ (0 ≤ (A 107 (A 108 (12 * (M 102 8).toInt.toNat + j)).toInt.toNat).toInt ∧ (A 107 (A 108 (12 * (M 102 8).toInt.toNat + j)).toInt.toNat).toInt ≤ 12) := fun j hj => by
    obtain ⟨p1, p2⟩ := q6 j hj
    obtain ⟨-, -, -, e6, e7⟩ := q3.1.1 (A 108 (12 * (M 102 8).toInt.toNat + j)).toInt.toNat (by omega)
    obtain ⟨s2, b1, b2, b3, b4, b5, -⟩ := m_T_row hT (t := (A 108 (12 * (M 102 8).toInt.toNat + j)).toInt.toNat) (by omega)
    rw [e6, e7]
    exact ⟨b5, b4⟩
  obtain ⟨g1, g2, g3, g4, g5⟩ := m_ends_gr (D := fun x => x < (M 102 8).toInt) (N := A) (t := M 102 8) q1 q2 (by omega) (fun j hj => ⟨(q6 j hj).1, (q6 j hj).2, by have := q6 j hj; omega⟩) (fun j hj => by have := hpart j hj; omega) (fun j hj => by have := hpart j hj; omega) (fun h => by omega) q7 q8
  have e8 : (m_ends A (M 102 8) S 102 8).toInt = (M 102 8).toInt + 1 := by rw [e102, q4.1, ab_tI (by omega) (by omega)]
  rw [e8]
  refine ⟨by omega, fun q hq => ?_⟩
  by_cases hc : (q : Int) < (M 102 8).toInt
  · obtain ⟨b1, b2, b3⟩ := hT.2 q hc
    have hr := hfE.1.ra hc
    exact ⟨m_gr_ra b1 hr (fun x hx hxD => hfE.1.ra (by omega)) (fun x _ hx => by omega), by rw [hr.2.2.2.1]; exact b2, by rw [hr.2.2.2.2.1]; exact b3⟩
  · have eq : q = (M 102 8).toInt.toNat := by omega
    subst eq
    exact ⟨m_gr_ra g1 m_ra.rf (fun _ _ _ => m_ra.rf) (fun x _ hx => by omega), hn, hh⟩
end
section
/-! ===== the reference: its calls, safe, with what they leave (own text) ===== -/
def r_q (I : wd_I) (P : wd_P) (g : Nat → ab_C) (k z : Nat) (Q : ab_Q) (T : Int32) : Prop := ∀ (r : Int32) (M' : wd_I), m_ok M' → M' 102 22 = T → Q (some (.inl r)) (wd I P M' g, k, z)
def r_ql (I : wd_I) (P : wd_P) (g : Nat → ab_C) (k z : Nat) (Q : ab_Q) (T : Int32) : Prop := ∀ (r : Int64) (M' : wd_I), m_ok M' → M' 102 22 = T → Q (some (.inr (.inl r))) (wd I P M' g, k, z)
set_option maxHeartbeats 4000000 in
set_option maxRecDepth 100000 in
theorem x_thing_b {d : Nat} (hd : 46 ≤ d) {I : wd_I} {P : wd_P} {M : wd_I} {g : Nat → ab_C} {k z : Nat} {s : Int32} {Q : ab_Q} (hs : ¬ m_sh s) (hb1 : Q (some (.inl (ab_ii (-2)))) (wd I P M g, k, z)) : ab_CT d 157 [wd_v 102, .inl s] (wd I P M g, k, z) Q := by
  unfold m_sh at hs
  refine wd_inC rfl (by omega) rfl ?_
  intro C9 X9 hC9 hX9
  repeat' ((conv => whnf); first
    | (refine hC9 134 _ _ _ (x_isShelf (by omega) (fun hc hc2 => ?_) (fun hc => ?_)); (try (exfalso; omega)))
    | (intro v9 hv9; (try simp (disch := omega) only [ab_tI, ab_c0, wd_ix12, wd_ix8, wd_ix10, wd_up_self, wd_up_eq, wd_up_ne, Int.toNat_natCast, Int.toNat_of_nonneg, not_true_eq_false, not_false_eq_true, Option.some.injEq] at hv9); subst hv9)
    | (apply i_get; (focus (exact rfl)); (focus (exact rfl)))
    | (refine hX9 _ _ _ _ (wd_rnC rfl ?_); clear hC9 hX9 X9 C9; intro C9 X9 hC9 hX9)
    | (apply w_ialM; (focus (exact rfl)); (focus (exact (by first | exact ⟨by decide, by decide⟩ | ((try simp (disch := omega) only [ab_tI, ab_c0, wd_ix12, wd_ix8, wd_ix10, wd_up_self, wd_up_eq, wd_up_ne, Int.toNat_natCast, Int.toNat_of_nonneg, not_true_eq_false, not_false_eq_true, Option.some.injEq, wd_l103, wd_l104, wd_l105, wd_l106, wd_l107, wd_l108, wd_l109, wd_l110, wd_l111, wd_l112, wd_l113, wd_l114, wd_l115, wd_l116, wd_l117, wd_l118, wd_l119, wd_l120, wd_l121, wd_l122, wd_l123, wd_l124]); omega)))); (intro v9 hv9; (try simp (disch := omega) only [ab_tI, ab_c0, wd_ix12, wd_ix8, wd_ix10, wd_up_self, wd_up_eq, wd_up_ne, Int.toNat_natCast, Int.toNat_of_nonneg, not_true_eq_false, not_false_eq_true, Option.some.injEq] at hv9); subst hv9))
    | (apply w_putM; (focus (exact rfl)); (focus (first | exact trivial | exact Or.inl rfl | exact Or.inr rfl)); (focus (exact rfl)))
    | (apply w_iasM; (focus (exact rfl)); (focus (exact (by first | exact ⟨by decide, by decide⟩ | ((try simp (disch := omega) only [ab_tI, ab_c0, wd_ix12, wd_ix8, wd_ix10, wd_up_self, wd_up_eq, wd_up_ne, Int.toNat_natCast, Int.toNat_of_nonneg, not_true_eq_false, not_false_eq_true, Option.some.injEq, wd_l103, wd_l104, wd_l105, wd_l106, wd_l107, wd_l108, wd_l109, wd_l110, wd_l111, wd_l112, wd_l113, wd_l114, wd_l115, wd_l116, wd_l117, wd_l118, wd_l119, wd_l120, wd_l121, wd_l122, wd_l123, wd_l124]); omega)))); (intro v9 hv9; (try simp (disch := omega) only [ab_tI, ab_c0, wd_ix12, wd_ix8, wd_ix10, wd_up_self, wd_up_eq, wd_up_ne, Int.toNat_natCast, Int.toNat_of_nonneg, not_true_eq_false, not_false_eq_true, Option.some.injEq] at hv9); subst hv9))
    | (refine i_brF (by decide) ?_)
    | (refine i_brT (by decide) ?_)
    | (refine ⟨fun hc => ?_, fun hc => ?_⟩ <;> (try simp (disch := omega) only [ab_tI, ab_c0, wd_ix12, wd_ix8, wd_ix10, wd_up_self, wd_up_eq, wd_up_ne, Int.toNat_natCast, Int.toNat_of_nonneg, not_true_eq_false, not_false_eq_true, Option.some.injEq] at hc) <;> first | (exfalso; omega) | skip)
    | (apply i_cv; (focus (exact rfl)))
    | (apply w_balM; (focus (exact (by first | exact ⟨by decide, by decide⟩ | ((try simp (disch := omega) only [ab_tI, ab_c0, wd_ix12, wd_ix8, wd_ix10, wd_up_self, wd_up_eq, wd_up_ne, Int.toNat_natCast, Int.toNat_of_nonneg, not_true_eq_false, not_false_eq_true, Option.some.injEq, wd_l103, wd_l104, wd_l105, wd_l106, wd_l107, wd_l108, wd_l109, wd_l110, wd_l111, wd_l112, wd_l113, wd_l114, wd_l115, wd_l116, wd_l117, wd_l118, wd_l119, wd_l120, wd_l121, wd_l122, wd_l123, wd_l124]); omega)))); (intro v9 hv9; (try simp (disch := omega) only [ab_tI, ab_c0, wd_ix12, wd_ix8, wd_ix10, wd_up_self, wd_up_eq, wd_up_ne, Int.toNat_natCast, Int.toNat_of_nonneg, not_true_eq_false, not_false_eq_true, Option.some.injEq] at hv9); subst hv9))
    | (apply w_basM; (focus (exact (by first | exact ⟨by decide, by decide⟩ | ((try simp (disch := omega) only [ab_tI, ab_c0, wd_ix12, wd_ix8, wd_ix10, wd_up_self, wd_up_eq, wd_up_ne, Int.toNat_natCast, Int.toNat_of_nonneg, not_true_eq_false, not_false_eq_true, Option.some.injEq, wd_l103, wd_l104, wd_l105, wd_l106, wd_l107, wd_l108, wd_l109, wd_l110, wd_l111, wd_l112, wd_l113, wd_l114, wd_l115, wd_l116, wd_l117, wd_l118, wd_l119, wd_l120, wd_l121, wd_l122, wd_l123, wd_l124]); omega)))); (focus (first | exact Or.inl rfl | exact Or.inr rfl)); (intro v9 hv9; (try simp (disch := omega) only [ab_tI, ab_c0, wd_ix12, wd_ix8, wd_ix10, wd_up_self, wd_up_eq, wd_up_ne, Int.toNat_natCast, Int.toNat_of_nonneg, not_true_eq_false, not_false_eq_true, Option.some.injEq] at hv9); subst hv9))
    | (refine And.intro trivial ?_)
    | (refine And.intro (Or.inl rfl) ?_)
    | (refine And.intro (Or.inr rfl) ?_)
    | (refine And.intro (by ((try simp (disch := omega) only [ab_tI, ab_c0, wd_ix12, wd_ix8, wd_ix10, wd_up_self, wd_up_eq, wd_up_ne, Int.toNat_natCast, Int.toNat_of_nonneg, not_true_eq_false, not_false_eq_true, Option.some.injEq]); omega)) ?_)
    | fail)
  all_goals first | exact hb1 | (exfalso; omega)
set_option maxHeartbeats 4000000 in
set_option maxRecDepth 100000 in
theorem x_over_b {d : Nat} (hd : 41 ≤ d) {I : wd_I} {P : wd_P} {M : wd_I} {g : Nat → ab_C} {k z : Nat} {s a p how n : Int32} {Q : ab_Q} (hall : ¬ (m_sh s ∧ m_sh a ∧ m_pa p ∧ m_how how.toInt n.toInt)) (hb1 : Q (some (.inl (ab_ii (-2)))) (wd I P M g, k, z)) : ab_CT d 174 [wd_v 102, .inl s, .inl a, .inl p, .inl how, .inl n] (wd I P M g, k, z) Q := by
  unfold m_sh m_pa m_how at hall
  refine wd_inC rfl (by omega) rfl ?_
  intro C9 X9 hC9 hX9
  repeat' ((conv => whnf); first
    | (refine hC9 134 _ _ _ (x_isShelf (by omega) (fun hc hc2 => ?_) (fun hc => ?_)))
    | (refine hC9 135 _ _ _ (x_isPath (by omega) (fun hc hc2 => ?_) (fun hc => ?_)))
    | (refine hC9 133 _ _ _ (x_in (by omega) (fun hc hc2 => ?_) (fun hc => ?_)) <;> (try simp (disch := omega) only [ab_tI, ab_c0, wd_ix12, wd_ix8, wd_ix10, wd_up_self, wd_up_eq, wd_up_ne, Int.toNat_natCast, Int.toNat_of_nonneg, not_true_eq_false, not_false_eq_true, Option.some.injEq] at hc) <;> (try simp (disch := omega) only [ab_tI, ab_c0, wd_ix12, wd_ix8, wd_ix10, wd_up_self, wd_up_eq, wd_up_ne, Int.toNat_natCast, Int.toNat_of_nonneg, not_true_eq_false, not_false_eq_true, Option.some.injEq] at hc2))
    | (intro v9 hv9; (try simp (disch := omega) only [ab_tI, ab_c0, wd_ix12, wd_ix8, wd_ix10, wd_up_self, wd_up_eq, wd_up_ne, Int.toNat_natCast, Int.toNat_of_nonneg, not_true_eq_false, not_false_eq_true, Option.some.injEq] at hv9); subst hv9)
    | (apply i_get; (focus (exact rfl)); (focus (exact rfl)))
    | (refine hX9 _ _ _ _ (wd_rnC rfl ?_); clear hC9 hX9 X9 C9; intro C9 X9 hC9 hX9)
    | (apply w_ialM; (focus (exact rfl)); (focus (exact (by first | exact ⟨by decide, by decide⟩ | ((try simp (disch := omega) only [ab_tI, ab_c0, wd_ix12, wd_ix8, wd_ix10, wd_up_self, wd_up_eq, wd_up_ne, Int.toNat_natCast, Int.toNat_of_nonneg, not_true_eq_false, not_false_eq_true, Option.some.injEq, wd_l103, wd_l104, wd_l105, wd_l106, wd_l107, wd_l108, wd_l109, wd_l110, wd_l111, wd_l112, wd_l113, wd_l114, wd_l115, wd_l116, wd_l117, wd_l118, wd_l119, wd_l120, wd_l121, wd_l122, wd_l123, wd_l124]); omega)))); (intro v9 hv9; (try simp (disch := omega) only [ab_tI, ab_c0, wd_ix12, wd_ix8, wd_ix10, wd_up_self, wd_up_eq, wd_up_ne, Int.toNat_natCast, Int.toNat_of_nonneg, not_true_eq_false, not_false_eq_true, Option.some.injEq] at hv9); subst hv9))
    | (apply w_putM; (focus (exact rfl)); (focus (first | exact trivial | exact Or.inl rfl | exact Or.inr rfl)); (focus (exact rfl)))
    | (apply w_iasM; (focus (exact rfl)); (focus (exact (by first | exact ⟨by decide, by decide⟩ | ((try simp (disch := omega) only [ab_tI, ab_c0, wd_ix12, wd_ix8, wd_ix10, wd_up_self, wd_up_eq, wd_up_ne, Int.toNat_natCast, Int.toNat_of_nonneg, not_true_eq_false, not_false_eq_true, Option.some.injEq, wd_l103, wd_l104, wd_l105, wd_l106, wd_l107, wd_l108, wd_l109, wd_l110, wd_l111, wd_l112, wd_l113, wd_l114, wd_l115, wd_l116, wd_l117, wd_l118, wd_l119, wd_l120, wd_l121, wd_l122, wd_l123, wd_l124]); omega)))); (intro v9 hv9; (try simp (disch := omega) only [ab_tI, ab_c0, wd_ix12, wd_ix8, wd_ix10, wd_up_self, wd_up_eq, wd_up_ne, Int.toNat_natCast, Int.toNat_of_nonneg, not_true_eq_false, not_false_eq_true, Option.some.injEq] at hv9); subst hv9))
    | (refine i_brF (by decide) ?_)
    | (refine i_brT (by decide) ?_)
    | (refine ⟨fun hc => ?_, fun hc => ?_⟩ <;> (try simp (disch := omega) only [ab_tI, ab_c0, wd_ix12, wd_ix8, wd_ix10, wd_up_self, wd_up_eq, wd_up_ne, Int.toNat_natCast, Int.toNat_of_nonneg, not_true_eq_false, not_false_eq_true, Option.some.injEq] at hc) <;> first | (exfalso; omega) | skip)
    | (apply i_cv; (focus (exact rfl)))
    | (apply w_balM; (focus (exact (by first | exact ⟨by decide, by decide⟩ | ((try simp (disch := omega) only [ab_tI, ab_c0, wd_ix12, wd_ix8, wd_ix10, wd_up_self, wd_up_eq, wd_up_ne, Int.toNat_natCast, Int.toNat_of_nonneg, not_true_eq_false, not_false_eq_true, Option.some.injEq, wd_l103, wd_l104, wd_l105, wd_l106, wd_l107, wd_l108, wd_l109, wd_l110, wd_l111, wd_l112, wd_l113, wd_l114, wd_l115, wd_l116, wd_l117, wd_l118, wd_l119, wd_l120, wd_l121, wd_l122, wd_l123, wd_l124]); omega)))); (intro v9 hv9; (try simp (disch := omega) only [ab_tI, ab_c0, wd_ix12, wd_ix8, wd_ix10, wd_up_self, wd_up_eq, wd_up_ne, Int.toNat_natCast, Int.toNat_of_nonneg, not_true_eq_false, not_false_eq_true, Option.some.injEq] at hv9); subst hv9))
    | (apply w_basM; (focus (exact (by first | exact ⟨by decide, by decide⟩ | ((try simp (disch := omega) only [ab_tI, ab_c0, wd_ix12, wd_ix8, wd_ix10, wd_up_self, wd_up_eq, wd_up_ne, Int.toNat_natCast, Int.toNat_of_nonneg, not_true_eq_false, not_false_eq_true, Option.some.injEq, wd_l103, wd_l104, wd_l105, wd_l106, wd_l107, wd_l108, wd_l109, wd_l110, wd_l111, wd_l112, wd_l113, wd_l114, wd_l115, wd_l116, wd_l117, wd_l118, wd_l119, wd_l120, wd_l121, wd_l122, wd_l123, wd_l124]); omega)))); (focus (first | exact Or.inl rfl | exact Or.inr rfl)); (intro v9 hv9; (try simp (disch := omega) only [ab_tI, ab_c0, wd_ix12, wd_ix8, wd_ix10, wd_up_self, wd_up_eq, wd_up_ne, Int.toNat_natCast, Int.toNat_of_nonneg, not_true_eq_false, not_false_eq_true, Option.some.injEq] at hv9); subst hv9))
    | (refine And.intro trivial ?_)
    | (refine And.intro (Or.inl rfl) ?_)
    | (refine And.intro (Or.inr rfl) ?_)
    | (refine And.intro (by ((try simp (disch := omega) only [ab_tI, ab_c0, wd_ix12, wd_ix8, wd_ix10, wd_up_self, wd_up_eq, wd_up_ne, Int.toNat_natCast, Int.toNat_of_nonneg, not_true_eq_false, not_false_eq_true, Option.some.injEq]); omega)) ?_)
    | fail)
  all_goals first | exact hb1 | (exfalso; omega)
set_option maxHeartbeats 4000000 in
set_option maxRecDepth 100000 in
theorem x_join_b {d : Nat} (hd : 3 ≤ d) {I : wd_I} {P : wd_P} {M : wd_I} {g : Nat → ab_C} {k z : Nat} {p o : Int32} {Q : ab_Q} (hg : ¬ (0 ≤ p.toInt ∧ p.toInt ≤ 7 ∧ 0 ≤ o.toInt ∧ o.toInt ≤ 7)) (hz : Q (some (.inl (ab_ii (-2)))) (wd I P M g, k, z)) : ab_CT d 160 [wd_v 102, .inl p, .inl o] (wd I P M g, k, z) Q := by
  refine wd_inC rfl (by omega) rfl ?_
  intro C9 X9 hC9 hX9
  repeat' ((conv => whnf); first
    | (refine hC9 135 _ _ _ (x_isPath (by omega) (fun hc hc2 => ?_) (fun hc => ?_)))
    | (refine hX9 43 _ _ _ ?_; exfalso; omega)
    | (intro v9 hv9; (try simp (disch := omega) only [ab_tI, ab_c0, wd_ix12, wd_ix8, wd_ix10, wd_up_self, wd_up_eq, wd_up_ne, Int.toNat_natCast, Int.toNat_of_nonneg, not_true_eq_false, not_false_eq_true, Option.some.injEq] at hv9); subst hv9)
    | (apply i_get; (focus (exact rfl)); (focus (exact rfl)))
    | (refine hX9 _ _ _ _ (wd_rnC rfl ?_); clear hC9 hX9 X9 C9; intro C9 X9 hC9 hX9)
    | (apply w_ialM; (focus (exact rfl)); (focus (exact (by first | exact ⟨by decide, by decide⟩ | ((try simp (disch := omega) only [ab_tI, ab_c0, wd_ix12, wd_ix8, wd_ix10, wd_up_self, wd_up_eq, wd_up_ne, Int.toNat_natCast, Int.toNat_of_nonneg, not_true_eq_false, not_false_eq_true, Option.some.injEq, wd_l103, wd_l104, wd_l105, wd_l106, wd_l107, wd_l108, wd_l109, wd_l110, wd_l111, wd_l112, wd_l113, wd_l114, wd_l115, wd_l116, wd_l117, wd_l118, wd_l119, wd_l120, wd_l121, wd_l122, wd_l123, wd_l124]); omega)))); (intro v9 hv9; (try simp (disch := omega) only [ab_tI, ab_c0, wd_ix12, wd_ix8, wd_ix10, wd_up_self, wd_up_eq, wd_up_ne, Int.toNat_natCast, Int.toNat_of_nonneg, not_true_eq_false, not_false_eq_true, Option.some.injEq] at hv9); subst hv9))
    | (apply w_putM; (focus (exact rfl)); (focus (first | exact trivial | exact Or.inl rfl | exact Or.inr rfl)); (focus (exact rfl)))
    | (apply w_iasM; (focus (exact rfl)); (focus (exact (by first | exact ⟨by decide, by decide⟩ | ((try simp (disch := omega) only [ab_tI, ab_c0, wd_ix12, wd_ix8, wd_ix10, wd_up_self, wd_up_eq, wd_up_ne, Int.toNat_natCast, Int.toNat_of_nonneg, not_true_eq_false, not_false_eq_true, Option.some.injEq, wd_l103, wd_l104, wd_l105, wd_l106, wd_l107, wd_l108, wd_l109, wd_l110, wd_l111, wd_l112, wd_l113, wd_l114, wd_l115, wd_l116, wd_l117, wd_l118, wd_l119, wd_l120, wd_l121, wd_l122, wd_l123, wd_l124]); omega)))); (intro v9 hv9; (try simp (disch := omega) only [ab_tI, ab_c0, wd_ix12, wd_ix8, wd_ix10, wd_up_self, wd_up_eq, wd_up_ne, Int.toNat_natCast, Int.toNat_of_nonneg, not_true_eq_false, not_false_eq_true, Option.some.injEq] at hv9); subst hv9))
    | (refine i_brF (by decide) ?_)
    | (refine i_brT (by decide) ?_)
    | (refine ⟨fun hc => ?_, fun hc => ?_⟩ <;> (try simp (disch := omega) only [ab_tI, ab_c0, wd_ix12, wd_ix8, wd_ix10, wd_up_self, wd_up_eq, wd_up_ne, Int.toNat_natCast, Int.toNat_of_nonneg, not_true_eq_false, not_false_eq_true, Option.some.injEq] at hc) <;> first | (exfalso; omega) | skip)
    | (apply i_cv; (focus (exact rfl)))
    | (apply w_balM; (focus (exact (by first | exact ⟨by decide, by decide⟩ | ((try simp (disch := omega) only [ab_tI, ab_c0, wd_ix12, wd_ix8, wd_ix10, wd_up_self, wd_up_eq, wd_up_ne, Int.toNat_natCast, Int.toNat_of_nonneg, not_true_eq_false, not_false_eq_true, Option.some.injEq, wd_l103, wd_l104, wd_l105, wd_l106, wd_l107, wd_l108, wd_l109, wd_l110, wd_l111, wd_l112, wd_l113, wd_l114, wd_l115, wd_l116, wd_l117, wd_l118, wd_l119, wd_l120, wd_l121, wd_l122, wd_l123, wd_l124]); omega)))); (intro v9 hv9; (try simp (disch := omega) only [ab_tI, ab_c0, wd_ix12, wd_ix8, wd_ix10, wd_up_self, wd_up_eq, wd_up_ne, Int.toNat_natCast, Int.toNat_of_nonneg, not_true_eq_false, not_false_eq_true, Option.some.injEq] at hv9); subst hv9))
    | (apply w_basM; (focus (exact (by first | exact ⟨by decide, by decide⟩ | ((try simp (disch := omega) only [ab_tI, ab_c0, wd_ix12, wd_ix8, wd_ix10, wd_up_self, wd_up_eq, wd_up_ne, Int.toNat_natCast, Int.toNat_of_nonneg, not_true_eq_false, not_false_eq_true, Option.some.injEq, wd_l103, wd_l104, wd_l105, wd_l106, wd_l107, wd_l108, wd_l109, wd_l110, wd_l111, wd_l112, wd_l113, wd_l114, wd_l115, wd_l116, wd_l117, wd_l118, wd_l119, wd_l120, wd_l121, wd_l122, wd_l123, wd_l124]); omega)))); (focus (first | exact Or.inl rfl | exact Or.inr rfl)); (intro v9 hv9; (try simp (disch := omega) only [ab_tI, ab_c0, wd_ix12, wd_ix8, wd_ix10, wd_up_self, wd_up_eq, wd_up_ne, Int.toNat_natCast, Int.toNat_of_nonneg, not_true_eq_false, not_false_eq_true, Option.some.injEq] at hv9); subst hv9))
    | (refine And.intro trivial ?_)
    | (refine And.intro (Or.inl rfl) ?_)
    | (refine And.intro (Or.inr rfl) ?_)
    | (refine And.intro (by ((try simp (disch := omega) only [ab_tI, ab_c0, wd_ix12, wd_ix8, wd_ix10, wd_up_self, wd_up_eq, wd_up_ne, Int.toNat_natCast, Int.toNat_of_nonneg, not_true_eq_false, not_false_eq_true, Option.some.injEq]); omega)) ?_)
    | fail)
  all_goals first | exact hz | (exfalso; omega)
section
variable {d : Nat} {I : wd_I} {P : wd_P} {M : wd_I} {g : Nat → ab_C} {k z : Nat} {Q : ab_Q}
theorem m_ok_c {M : wd_I} (h : m_ok M) {s : Int32} (hs : m_sh s) : ∃ c : Nat, M 112 s.toInt.toNat = ab_ii (c : Int) ∧ c ≤ 10 := by
  obtain ⟨c, c1, c2, -⟩ := h.2.2.2.2.2.1 s.toInt.toNat (by unfold m_sh at hs; omega)
  exact ⟨c, c1, c2⟩
theorem m_ok_sh {M : wd_I} (h : m_ok M) {s : Int32} (hs : m_sh s) : 0 ≤ (M 110 s.toInt.toNat).toInt ∧ (M 110 s.toInt.toNat).toInt < (M 102 8).toInt := h.2.2.2.1 s.toInt.toNat (by unfold m_sh at hs; omega)
theorem m_ok_b {M : wd_I} (h : m_ok M) : 12 ≤ (M 102 8).toInt ∧ (M 102 8).toInt ≤ 3012 ∧ 0 ≤ (M 102 9).toInt ∧ (M 102 9).toInt ≤ 3000 := by
  obtain ⟨a1, a2, a3, -⟩ := h
  unfold m_rm at a3
  omega
theorem rr_thing (hd : 46 ≤ d) (hok : m_ok M) {s : Int32} (hQ : r_q I P g k z Q (@ite Int32 (m_sh s) (Classical.propDecidable _) (ab_ii 0) (M 102 22))) : ab_CT d 157 [wd_v 102, .inl s] (wd I P M g, k, z) Q := by
  have hb := m_ok_b hok
  obtain ⟨n, hn, hn100⟩ := hok.2.2.2.2.2.2.1
  have htp : 0 ≤ (M 102 22).toInt ∧ (M 102 22).toInt ≤ 100 := by rw [hn, ab_tI (by omega) (by omega)]; omega
  by_cases hs : m_sh s
  · rw [if_pos hs] at hQ
    obtain ⟨c, hc, hc10⟩ := m_ok_c hok hs
    have hp := m_th0_rp (M := M) (by omega) hb.2.1 htp
    have hrr := m_rd_rr 13 (m_th0 M) hp
    have hfr := hrr.1.1
    rw [m_th0_n (by decide)] at hfr
    have hsb : m_sb (M 102 8).toInt M (m_th2 M) := by
      refine ⟨fun t ht => ?_, fun i hi => ?_⟩
      · rw [m_th2_row (by decide), m_th2_row (by decide), m_th2_row (by decide), m_th2_row (by decide), m_th2_row (by decide)]
        have := hfr.1.1 t ht
        rw [m_th0_row (by decide), m_th0_row (by decide), m_th0_row (by decide), m_th0_row (by decide), m_th0_row (by decide)] at this
        exact this
      · rw [m_th2_row (by decide), m_th2_row (by decide)]
        have := hfr.1.2 i hi
        rw [m_th0_row (by decide), m_th0_row (by decide)] at this
        exact this
    have hrow : ∀ a, 110 ≤ a → a ≤ 119 → m_th2 M a = M a := fun a h1 h2 => by
      rw [m_th2_row (by omega), show (m_th1 M).1 a = m_th0 M a from hfr.2.1 a h1, m_th0_row (by omega)]
    have hnn : ∀ j, j ≠ 8 → j ≠ 22 → j ≠ 23 → j ≠ 24 → j ≠ 25 → m_th2 M 102 j = M 102 j := fun j j1 j2 j3 j4 j5 => by
      rw [m_th2_n ⟨j2, j4⟩, show (m_th1 M).1 102 j = m_th0 M 102 j from hfr.2.2 j j1 j3 j4 j5, m_th0_n ⟨j3, j4, j5⟩]
    have e9 := hnn 9 (by decide) (by decide) (by decide) (by decide) (by decide)
    have e20 := hnn 20 (by decide) (by decide) (by decide) (by decide) (by decide)
    have e22 : m_th2 M 102 22 = ab_ii 0 := by unfold m_th2; rw [wd_up_self]
    have hrs : m_ok (m_rs M (m_th2 M)) := m_ok_rs hok hsb (m_9_e e9) (by rw [e9]; exact hb.2.2.2) hrow e20 ⟨0, e22, by omega⟩
    have ers : m_rs M (m_th2 M) 102 22 = ab_ii 0 := by unfold m_rs; rw [wd_up_ne _ _ (by omega)]; exact e22
    refine x_thing hd (by omega) hb.2.1 htp hc hc10 (fun h => absurd hs h) (fun _ _ => hQ _ _ hrs ers) (fun _ _ _ => hQ _ _ hrs ers) (fun _ hu h3 => ?_)
    obtain ⟨t1, t2, t3, t4, t5, t6, t7⟩ := m_th_T hok.1 (by omega) hb.2.1 htp hu
    have e3 : (m_th3 M).toInt = (M 102 9).toInt + (m_th2 M 102 25).toInt := by unfold m_th3; rw [e9, ab_tI (by omega) (by omega)]
    have hrm := hok.2.2.1
    unfold m_rm at hrm
    have u8 : ∀ j, j ≠ 9 → wd_up (m_th2 M) 102 9 (m_th3 M) 102 j = m_th2 M 102 j := fun j hj => wd_up_ne _ _ (Or.inr hj)
    have u9 : wd_up (m_th2 M) 102 9 (m_th3 M) 102 9 = m_th3 M := wd_up_self _ _ _ _
    have ur : ∀ a, a ≠ 102 → wd_up (m_th2 M) 102 9 (m_th3 M) a = m_th2 M a := fun a ha => wd_up_row _ _ _ ha
    have hN : m_ok (wd_up (m_th2 M) 102 9 (m_th3 M)) := by
      refine m_ok_of hok ?_ (by rw [u8 8 (by decide)]; omega) (by unfold m_9; rw [u9]; omega) ?_ (fun a h1 h2 => by rw [ur a (by omega)]; exact hrow a h1 h2) (by rw [u8 20 (by decide)]; exact e20) ⟨0, by rw [u8 22 (by decide)]; exact e22, by omega⟩
      · rw [u8 8 (by decide)]
        exact m_T_c (fun a h1 h2 => ur a (by omega)) t1
      · unfold m_rm
        rw [u8 8 (by decide), u9]
        omega
    have hsr := hs
    unfold m_sh at hsr
    refine hQ _ _ (m_ok_bec hN (by omega) (by rw [ur 112 (by decide), hrow 112 (by decide) (by decide)]; exact hc) hc10 (by rw [u8 8 (by decide)]; omega)) ?_
    rw [m_becomes_row (by decide) (by decide) (by decide), u8 22 (by decide)]
    exact e22
  · rw [if_neg hs] at hQ
    exact x_thing_b hd hs (hQ _ _ hok rfl)
theorem rr_over (hd : 41 ≤ d) (hok : m_ok M) {s a p how n : Int32} (hQ : r_q I P g k z Q (M 102 22)) : ab_CT d 174 [wd_v 102, .inl s, .inl a, .inl p, .inl how, .inl n] (wd I P M g, k, z) Q := by
  by_cases hall : m_sh s ∧ m_sh a ∧ m_pa p ∧ m_how how.toInt n.toInt
  · have hb := m_ok_b hok
    obtain ⟨hs, ha, hp, hh⟩ := id hall
    obtain ⟨c, hc, hc10⟩ := m_ok_c hok hs
    have hsa := m_ok_sh hok ha
    have hcop : m_cop (M 102 8).toInt M how n := ⟨hok.1.tb.1, by omega, Int.le_refl _, hok.2.2.1, hh.1, fun h7 => ⟨hh.2.2 h7, m_ok_sh hok (hh.2.2 h7)⟩⟩
    have hg := m_co_good (p := p) hcop hsa.1 hsa.2
    have h9 := m_ov_9 (p := p.toInt.toNat) 21 (m_co0 M p how n) (M 110 a.toInt.toNat) 0 (m_cop_op hcop) (by rw [m_co0_n (by decide)]; exact hb.2.2.1) hsa.1 hsa.2
    change m_9 (m_co0 M p how n) (m_co M (M 110 a.toInt.toNat) p how n).1 at h9
    have hT := m_co_T (p := p) hcop hok.1 hsa.1 hsa.2
    have hx := x_over (d := d) (I := I) (P := P) (g := g) (k := k) (z := z) (Q := Q) hd hok.lok hok.2.2.1 hc hc10 (fun h => absurd hall h)
    have h22 := hok.2.2.2.2.2.2.1
    generalize m_co M (M 110 a.toInt.toNat) p how n = R at *
    obtain ⟨N, r⟩ := R
    obtain ⟨g1, g2, g3, g4, g5⟩ := hg
    change m_fr (M 102 8).toInt (m_co0 M p how n) N at g1
    change m_rm N at g2
    change (m_co0 M p how n 102 8).toInt ≤ (N 102 8).toInt at g3
    change 0 ≤ r.toInt at g4
    change r.toInt < (N 102 8).toInt at g5
    unfold m_9 at h9
    rw [m_co0_n (by decide)] at g3 h9
    dsimp only at h9 hT hx
    have hsb : m_sb (M 102 8).toInt M N := by
      refine ⟨fun t ht => ?_, fun i hi => ?_⟩
      · have := g1.1.1 t ht
        rw [m_co0_row (by decide), m_co0_row (by decide), m_co0_row (by decide), m_co0_row (by decide), m_co0_row (by decide)] at this
        exact this
      · have := g1.1.2 i hi
        rw [m_co0_row (by decide), m_co0_row (by decide)] at this
        exact this
    have hrow : ∀ x, 110 ≤ x → x ≤ 119 → N x = M x := fun x h1 h2 => by rw [g1.2.1 x h1, m_co0_row (by omega)]
    have hnn : ∀ j, j ≠ 8 → j ≠ 9 → j < 32 → N 102 j = M 102 j := fun j j1 j2 j3 => by rw [g1.2.2 j j1 j2 (by omega) (by omega), m_co0_n j3]
    have e22 : N 102 22 = M 102 22 := hnn 22 (by decide) (by decide) (by decide)
    have e20 : N 102 20 = M 102 20 := hnn 20 (by decide) (by decide) (by decide)
    have hrs : m_ok (m_rs M N) := m_ok_rs hok hsb h9 g2.2.2 hrow e20 (by rw [e22]; exact h22)
    have ers : m_rs M N 102 22 = M 102 22 := by unfold m_rs; rw [wd_up_ne _ _ (by omega)]; exact e22
    refine hx (fun _ _ => hQ _ _ hrs ers) (fun _ _ _ => hQ _ _ hrs ers) (fun _ hu hn2 hh2 => hQ _ _ ?_ ?_)
    · have hN : m_ok N := m_ok_of hok (hT hu hn2 hh2) g3 h9 g2 hrow e20 (by rw [e22]; exact h22)
      unfold m_sh at hs
      exact m_ok_bec hN (by omega) (by rw [hrow 112 (by decide) (by decide)]; exact hc) hc10 ⟨g4, g5⟩
    · rw [m_becomes_row (by decide) (by decide) (by decide)]; exact e22
  · exact x_over_b hd hall (hQ _ _ hok rfl)
theorem rr_put (hd : 41 ≤ d) (hok : m_ok M) {s what a b n : Int32} (hQ : r_q I P g k z Q (M 102 22)) : ab_CT d 175 [wd_v 102, .inl s, .inl what, .inl a, .inl b, .inl n] (wd I P M g, k, z) Q := by
  by_cases hpo : m_pok s what a b n
  · have hb := m_ok_b hok
    obtain ⟨hs, hw, ha, hbb, hn⟩ := id hpo
    obtain ⟨c, hc, hc10⟩ := m_ok_c hok hs
    have hsa := m_ok_sh hok ha
    have hsb := m_ok_sh hok hbb
    obtain ⟨sz, a1, a2, a3, -⟩ := m_T_row hok.1 (t := (M 110 a.toInt.toNat).toInt.toNat) (by omega)
    have h22 := hok.2.2.2.2.2.2.1
    by_cases hS : what.toInt = 2 ∧ ¬ (M 103 (M 110 a.toInt.toNat).toInt.toNat).toInt = 3
    · exact x_put_S (by omega) hpo hS.1 ⟨hsa.1, by omega⟩ hS.2 (hQ _ _ hok rfl)
    · by_cases hF : what.toInt = 2 ∧ sz = 12 ∧ (m_hk M (M 110 a.toInt.toNat).toInt.toNat (ab_ii (n.toInt + 1)) 12).toInt = 0
      · obtain ⟨f1, rfl, f3⟩ := hF
        exact x_put_F (by omega) hpo f1 ⟨hsa.1, by omega⟩ (by omega) a1 f3 (hQ _ _ hok rfl)
      · have hk : what.toInt = 2 → (M 103 (M 110 a.toInt.toNat).toInt.toNat).toInt = 3 := fun h => by omega
        have h12 : what.toInt = 2 → (sz ≤ 11 ∨ ¬ (m_hk M (M 110 a.toInt.toNat).toInt.toNat (ab_ii (n.toInt + 1)) sz).toInt = 0) := fun h => by
          by_cases e : sz ≤ 11
          · exact Or.inl e
          · have e12 : sz = 12 := by omega
            subst e12
            exact Or.inr (fun q => hF ⟨h, rfl, q⟩)
        obtain ⟨w1, w2, w3⟩ := m_pW_T (what := what.toInt) (n := n) hok.1 hb.2.1 hsa hsb a1 hk h12
        have hx := x_put_ok (d := d) (I := I) (P := P) (g := g) (k := k) (z := z) (Q := Q) (by omega) hok.1 hb.2.1 hc hc10 hpo hsa hsb a1 hk h12
        generalize m_pW M what.toInt (M 110 a.toInt.toNat) (M 110 b.toInt.toNat) n sz = W at *
        obtain ⟨v8, vn⟩ := w2
        have hrow : ∀ x, 110 ≤ x → x ≤ 119 → W x = M x := fun x h1 h2 => w1.2.1 x h1
        have e22 : W 102 22 = M 102 22 := vn 22 (by decide)
        have e20 : W 102 20 = M 102 20 := vn 20 (by decide)
        have e9 : W 102 9 = M 102 9 := vn 9 (by decide)
        have hrs : m_ok (m_rs M W) := m_ok_rs hok w1.1 (m_9_e e9) (by rw [e9]; exact hb.2.2.2) hrow e20 (by rw [e22]; exact h22)
        have ers : m_rs M W 102 22 = M 102 22 := by unfold m_rs; rw [wd_up_ne _ _ (by omega)]; exact e22
        refine hx (fun _ => hQ _ _ hrs ers) (fun _ _ _ => hQ _ _ hrs ers) (fun hn2 hh2 hm => hQ _ _ ?_ ?_)
        · have k8 : m_mk W 102 8 = W 102 8 := m_mk_8
          have k9 : (m_mk W 102 9).toInt = (M 102 9).toInt + 1 := by unfold m_mk; rw [wd_up_self, e9, ab_tI (by omega) (by omega)]
          have w8 : (W 102 8).toInt = (M 102 8).toInt + 1 := by rw [v8, ab_tI (by omega) (by omega)]
          have kn : ∀ j, j ≠ 9 → m_mk W 102 j = W 102 j := fun j hj => wd_up_ne _ _ (Or.inr hj)
          have hrm := hok.2.2.1
          unfold m_rm at hrm
          have hN : m_ok (m_mk W) := m_ok_of hok (by rw [k8]; exact m_T_c (fun x h1 h2 => m_mk_row (by omega)) (w3 hn2 hh2)) (by rw [k8]; omega) (by unfold m_9; omega) (by unfold m_rm; rw [k8]; omega) (fun x h1 h2 => by rw [m_mk_row (by omega)]; exact hrow x h1 h2) (by rw [kn 20 (by decide)]; exact e20) (by rw [kn 22 (by decide), e22]; exact h22)
          unfold m_sh at hs
          exact m_ok_bec hN (by omega) (by rw [m_mk_row (by decide), hrow 112 (by decide) (by decide)]; exact hc) hc10 ⟨by omega, by rw [k8]; omega⟩
        · rw [m_becomes_row (by decide) (by decide) (by decide)]
          unfold m_mk
          rw [wd_up_ne _ _ (by omega)]; exact e22
  · exact x_put_b (by omega) hpo (hQ _ _ hok rfl)
theorem m_co_ok {K : wd_I} {t p how v : Int32} (hk : m_ok K) (hcop : m_cop (K 102 8).toInt K how v) (h0 : 0 ≤ t.toInt) (h1 : t.toInt < (K 102 8).toInt) {N : wd_I} {r : Int32} (hR : (N, r) = m_co K t p how v) : m_sb (K 102 8).toInt K N ∧ m_9 K N ∧ m_rm N ∧ (∀ x, 110 ≤ x → x ≤ 119 → N x = K x) ∧ N 102 20 = K 102 20 ∧ N 102 22 = K 102 22 ∧ (0 ≤ r.toInt ∧ r.toInt < (N 102 8).toInt) ∧ (K 102 8).toInt ≤ (N 102 8).toInt ∧ ((N 102 36).toInt = 0 → (N 106 r.toInt.toNat).toInt ≤ 200 → (N 107 r.toInt.toNat).toInt ≤ 12 → m_ok N) := by
  have hb := m_ok_b hk
  have h22 := hk.2.2.2.2.2.2.1
  have hg := m_co_good (p := p) hcop h0 h1
  have h9 := m_ov_9 (p := p.toInt.toNat) 21 (m_co0 K p how v) t 0 (m_cop_op hcop) (by rw [m_co0_n (by decide)]; exact hb.2.2.1) h0 h1
  change m_9 (m_co0 K p how v) (m_co K t p how v).1 at h9
  have hT := m_co_T (p := p) hcop hk.1 h0 h1
  rw [← hR] at hg h9 hT
  obtain ⟨g1, g2, g3, g4, g5⟩ := hg
  change m_fr (K 102 8).toInt (m_co0 K p how v) N at g1
  change m_rm N at g2
  change (m_co0 K p how v 102 8).toInt ≤ (N 102 8).toInt at g3
  change 0 ≤ r.toInt at g4
  change r.toInt < (N 102 8).toInt at g5
  unfold m_9 at h9 ⊢
  rw [m_co0_n (by decide)] at g3 h9
  dsimp only at h9 hT
  have hsb : m_sb (K 102 8).toInt K N := by
    refine ⟨fun t ht => ?_, fun i hi => ?_⟩
    · have := g1.1.1 t ht
      rw [m_co0_row (by decide), m_co0_row (by decide), m_co0_row (by decide), m_co0_row (by decide), m_co0_row (by decide)] at this
      exact this
    · have := g1.1.2 i hi
      rw [m_co0_row (by decide), m_co0_row (by decide)] at this
      exact this
  have hrow : ∀ x, 110 ≤ x → x ≤ 119 → N x = K x := fun x h1 h2 => by rw [g1.2.1 x h1, m_co0_row (by omega)]
  have hnn : ∀ j, j ≠ 8 → j ≠ 9 → j < 32 → N 102 j = K 102 j := fun j j1 j2 j3 => by rw [g1.2.2 j j1 j2 (by omega) (by omega), m_co0_n j3]
  have e22 : N 102 22 = K 102 22 := hnn 22 (by decide) (by decide) (by decide)
  have e20 : N 102 20 = K 102 20 := hnn 20 (by decide) (by decide) (by decide)
  exact ⟨hsb, h9, g2, hrow, e20, e22, ⟨g4, g5⟩, g3, fun hu hn2 hh2 => m_ok_of hk (hT hu hn2 hh2) g3 h9 g2 hrow e20 (by rw [e22]; exact h22)⟩
theorem m_eqv_sb {M M' : wd_I} {n : Int} (h : m_eqv M M') : m_sb n M M' := ⟨fun t _ => ⟨by rw [h.1 103 (by decide) (by decide)], by rw [h.1 104 (by decide) (by decide)], by rw [h.1 105 (by decide) (by decide)], by rw [h.1 106 (by decide) (by decide)], by rw [h.1 107 (by decide) (by decide)]⟩, fun i _ => ⟨by rw [h.1 108 (by decide) (by decide)], by rw [h.1 109 (by decide) (by decide)]⟩⟩
theorem rr_fit (hd : 42 ≤ d) (hok : m_ok M) {s p w : Int32} (hQ : r_q I P g k z Q (M 102 22)) : ab_CT d 193 [wd_v 102, .inl s, .inl p, .inl w] (wd I P M g, k, z) Q := by
  have h22 := hok.2.2.2.2.2.2.1
  have hone : m_fok s p w → ∀ (M1 : wd_I), m_eqv M M1 → ∀ (N : wd_I) (r : Int32), (N, r) = m_co M1 (M 110 s.toInt.toNat) p (ab_ii 7) w → m_sb (M 102 8).toInt M N ∧ m_9 M N ∧ m_rm N ∧ (∀ x, 110 ≤ x → x ≤ 119 → N x = M x) ∧ N 102 20 = M 102 20 ∧ N 102 22 = M 102 22 ∧ (0 ≤ r.toInt ∧ r.toInt < (N 102 8).toInt) ∧ (M 102 8).toInt ≤ (N 102 8).toInt ∧ ((N 102 36).toInt = 0 → (N 106 r.toInt.toNat).toInt ≤ 200 → (N 107 r.toInt.toNat).toInt ≤ 12 → m_ok N) := by
    intro hfo M1 hE N r hR
    obtain ⟨hs, hp, hw⟩ := hfo
    have hk := m_ok_eqv hok hE
    have hs2 := m_ok_sh hok hs
    have hcop := m_eqv_cop hE hok.1 hok.2.2.1 hw (m_ok_sh hok hw)
    obtain ⟨c1, c2, c3, c4, c5, c6, c7, c8, c9⟩ := m_co_ok hk hcop hs2.1 (by rw [hE.2.1]; exact hs2.2) hR
    rw [hE.2.1] at c1 c8
    unfold m_9 at c2 ⊢
    rw [hE.2.2.1] at c2
    exact ⟨(m_eqv_sb hE).tr c1 (Int.le_refl _), c2, c3, fun x h1 h2 => (c4 x h1 h2).trans (hE.1 x (by omega) (by omega)), c5.trans hE.2.2.2.1, c6.trans hE.2.2.2.2, c7, c8, c9⟩
  have hrsN : ∀ N : wd_I, m_sb (M 102 8).toInt M N → m_9 M N → m_rm N → (∀ x, 110 ≤ x → x ≤ 119 → N x = M x) → N 102 20 = M 102 20 → N 102 22 = M 102 22 → m_ok (m_rs M N) ∧ m_rs M N 102 22 = M 102 22 := fun N h1 h2 h3 h4 h5 h6 => ⟨m_ok_rs hok h1 h2 h3.2.2 h4 h5 (by rw [h6]; exact h22), by unfold m_rs; rw [wd_up_ne _ _ (by omega)]; exact h6⟩
  have h1st : m_fok s p w → ∀ (M1 : wd_I), m_eqv M M1 → m_ok (m_rs M (m_co M1 (M 110 s.toInt.toNat) p (ab_ii 7) w).1) ∧ m_rs M (m_co M1 (M 110 s.toInt.toNat) p (ab_ii 7) w).1 102 22 = M 102 22 := fun hfo M1 hE => by
    obtain ⟨c1, c2, c3, c4, c5, c6, -⟩ := hone hfo M1 hE _ _ (Prod.eta _ : ((m_co M1 (M 110 s.toInt.toNat) p (ab_ii 7) w).1, (m_co M1 (M 110 s.toInt.toNat) p (ab_ii 7) w).2) = _)
    exact hrsN _ c1 c2 c3 c4 c5 c6
  refine x_fit hd hok.1 hok.lok hok.2.2.1 (fun _ => hQ _ _ hok rfl) (fun hfo M1 hE _ => hQ _ _ (h1st hfo M1 hE).1 (h1st hfo M1 hE).2) (fun hfo M1 hE _ _ => hQ _ _ (h1st hfo M1 hE).1 (h1st hfo M1 hE).2) (fun hfo M1 hE N r hR hu hn2 hh2 M2 hE2 => ?_)
  obtain ⟨c1, c2, c3, c4, c5, c6, c7, c8, c9⟩ := hone hfo M1 hE N r hR
  have hkN := c9 hu hn2 hh2
  have hk2 := m_ok_eqv hkN hE2
  have hcop2 : m_cop (M2 102 8).toInt M2 (ab_ii 7) w := m_eqv_cop hE2 hkN.1 hkN.2.2.1 hfo.2.2 (m_ok_sh hkN hfo.2.2)
  have h2nd : m_ok (m_rs M (m_co M2 r p (ab_ii 7) w).1) ∧ m_rs M (m_co M2 r p (ab_ii 7) w).1 102 22 = M 102 22 := by
    obtain ⟨e1, e2, e3, e4, e5, e6, -⟩ := m_co_ok (p := p) hk2 hcop2 c7.1 (by rw [hE2.2.1]; exact c7.2) (Prod.eta _ : ((m_co M2 r p (ab_ii 7) w).1, (m_co M2 r p (ab_ii 7) w).2) = _)
    rw [hE2.2.1] at e1
    unfold m_9 at e2 c2
    rw [hE2.2.2.1] at e2
    exact hrsN _ ((c1.tr (m_eqv_sb hE2) (Int.le_refl _)).tr e1 c8) (by unfold m_9; omega) e3 (fun x h1 h2 => ((e4 x h1 h2).trans (hE2.1 x (by omega) (by omega))).trans (c4 x h1 h2)) ((e5.trans hE2.2.2.2.1).trans c5) ((e6.trans hE2.2.2.2.2).trans c6)
  exact ⟨fun _ => hQ _ _ h2nd.1 h2nd.2, fun _ _ => hQ _ _ h2nd.1 h2nd.2, fun _ _ _ => hQ _ _ h2nd.1 h2nd.2⟩
theorem rr_path (hd : 6 ≤ d) (hok : m_ok M) {p : Int32} (hQ : r_q I P g k z Q (@ite Int32 (m_pa p) (Classical.propDecidable _) (ab_ii 0) (M 102 22))) : ab_CT d 159 [wd_v 102, .inl p] (wd I P M g, k, z) Q := by
  obtain ⟨n, hn, hn100⟩ := hok.2.2.2.2.2.2.1
  have htp : 0 ≤ (M 102 22).toInt ∧ (M 102 22).toInt ≤ 100 := by rw [hn, ab_tI (by omega) (by omega)]; omega
  obtain ⟨h2, h8, e22⟩ := m_ok_p2 hok
  refine x_path hd htp (fun h => ?_) (fun h _ => ?_) (fun h _ => ?_)
  · rw [if_neg h] at hQ
    exact hQ _ _ hok rfl
  · rw [if_pos h] at hQ
    exact hQ _ _ h2 e22
  · rw [if_pos h] at hQ
    obtain ⟨h3, e3⟩ := m_ok_p3 hok (p := p.toInt.toNat) (by unfold m_pa at h; omega)
    exact hQ _ _ h3 e3
theorem rr_join (hd : 3 ≤ d) (hok : m_ok M) {p o : Int32} (hQ : r_q I P g k z Q (M 102 22)) : ab_CT d 160 [wd_v 102, .inl p, .inl o] (wd I P M g, k, z) Q := by
  by_cases hg : 0 ≤ p.toInt ∧ p.toInt ≤ 7 ∧ 0 ≤ o.toInt ∧ o.toInt ≤ 7
  · have h5 := hok.2.2.2.2.1
    have hp := h5 p.toInt.toNat (by omega)
    have ho := h5 o.toInt.toNat (by omega)
    have e1 : M 115 p.toInt.toNat = ab_ii (((M 115 p.toInt.toNat).toInt.toNat : Nat) : Int) := by rw [Int.toNat_of_nonneg hp.1]; exact (ab_ii_toInt _).symm
    have e2 : M 115 o.toInt.toNat = ab_ii (((M 115 o.toInt.toNat).toInt.toNat : Nat) : Int) := by rw [Int.toNat_of_nonneg ho.1]; exact (ab_ii_toInt _).symm
    refine x_join hd e1 e2 (by omega) (by omega) (fun h => hQ _ _ hok rfl) (fun _ _ => hQ _ _ hok rfl) (fun _ hcn => hQ _ _ (m_ok_joins hok (by omega) e1 hcn) ?_)
    rw [m_joins_row (by decide) (by decide) (by decide)]
  · exact x_join_b hd hg (hQ _ _ hok rfl)
theorem rr_take (hd : 25 ≤ d) (hok : m_ok M) {s f p n : Int32} (hQ : r_q I P g k z Q (M 102 22)) : ab_CT d 176 [wd_v 102, .inl s, .inl f, .inl p, .inl n] (wd I P M g, k, z) Q := by
  obtain ⟨c, hc, hc10⟩ : ∃ c : Nat, (0 ≤ s.toInt → s.toInt ≤ 11 → M 112 s.toInt.toNat = ab_ii (c : Int)) ∧ c ≤ 10 := by
    by_cases hs : m_sh s
    · obtain ⟨c, c1, c2⟩ := m_ok_c hok hs
      exact ⟨c, fun _ _ => c1, c2⟩
    · exact ⟨0, fun h1 h2 => absurd ⟨h1, h2⟩ hs, by omega⟩
  refine x_take hd hok.lok hc hc10 (fun _ => hQ _ _ hok rfl) (fun _ _ M' hE => hQ _ _ (m_ok_eqv hok hE) hE.2.2.2.2) (fun hg hne M' hE => hQ _ _ ?_ ?_)
  · have hin := m_foc_in hok.lok (s := f) (p := p) (n := n)
    exact m_ok_bec (m_ok_eqv hok hE) (by omega) (by rw [hE.1 112 (by decide) (by decide)]; exact hc hg.1 hg.2.1) hc10 (by rw [hE.2.1]; exact hin.resolve_left hne)
  · rw [m_becomes_row (by decide) (by decide) (by decide)]; exact hE.2.2.2.2
theorem rr_undo (hd : 3 ≤ d) (hok : m_ok M) {s : Int32} (hQ : r_q I P g k z Q (M 102 22)) : ab_CT d 177 [wd_v 102, .inl s] (wd I P M g, k, z) Q := by
  by_cases hs : m_sh s
  · obtain ⟨c, c1, c2⟩ := m_ok_c hok hs
    have hs' := hs
    unfold m_sh at hs'
    cases c with
    | zero => exact x_undo_0 hd hs'.1 hs'.2 c1 (hQ _ _ hok rfl)
    | succ c =>
      have c1' : M 112 s.toInt.toNat = ab_ii ((c : Int) + 1) := c1
      refine x_undo hd hs'.1 hs'.2 c1' (by omega) (hQ _ _ (m_ok_undo hok (by omega) c1' (by omega)) ?_)
      unfold m_undo
      rw [wd_up_row _ _ _ (by decide), wd_up_row _ _ _ (by decide)]
  · exact x_undo_b hd (by unfold m_sh at hs; omega) (hQ _ _ hok rfl)
theorem rr_look (hd : 25 ≤ d) (hok : m_ok M) {s p n w : Int32} (hQ : r_ql I P g k z Q (M 102 22)) : ab_CT d 179 [wd_v 102, .inl s, .inl p, .inl n, .inl w] (wd I P M g, k, z) Q := x_look hd hok.lok (fun M' hE => hQ _ _ (m_ok_eqv hok hE) hE.2.2.2.2)
theorem rr_key (hd : 25 ≤ d) (hok : m_ok M) {s p n i : Int32} (hQ : r_q I P g k z Q (M 102 22)) : ab_CT d 180 [wd_v 102, .inl s, .inl p, .inl n, .inl i] (wd I P M g, k, z) Q := x_key hd hok.lok (fun M' hE => hQ _ _ (m_ok_eqv hok hE) hE.2.2.2.2)
theorem rr_fold (hd : 25 ≤ d) (hok : m_ok M) {s p c : Int32} (hQ : r_ql I P g k z Q (M 102 22)) : ab_CT d 183 [wd_v 102, .inl s, .inl p, .inl c] (wd I P M g, k, z) Q := x_fold hd hok.lok (fun M' hE => hQ _ _ (m_ok_eqv hok hE) hE.2.2.2.2)
theorem rr_best (hd : 25 ≤ d) (hok : m_ok M) {s p o n : Int32} (hQ : r_q I P g k z Q (M 102 22)) : ab_CT d 185 [wd_v 102, .inl s, .inl p, .inl o, .inl n] (wd I P M g, k, z) Q := x_best hd hok.lok (fun M' hE => hQ _ _ (m_ok_eqv hok hE) hE.2.2.2.2)
theorem rr_order (hd : 14 ≤ d) (hok : m_ok M) {a b : Int32} (hQ : r_q I P g k z Q (M 102 22)) : ab_CT d 186 [wd_v 102, .inl a, .inl b] (wd I P M g, k, z) Q := x_order hd hok.1.tb.1 hok.2.2.2.1 (fun _ => hQ _ _ hok rfl) (fun _ _ _ _ => hQ _ _ hok rfl)
theorem rr_shared (hd : 17 ≤ d) (hok : m_ok M) {a b : Int32} (hQ : r_q I P g k z Q (M 102 22)) : ab_CT d 189 [wd_v 102, .inl a, .inl b] (wd I P M g, k, z) Q := x_shared hd hok.1.tb.1 hok.2.2.2.1 (fun _ => hQ _ _ hok rfl) (fun _ M' hE => hQ _ _ (m_ok_eqv hok hE) hE.2.2.2.2)
theorem rr_differ (hd : 28 ≤ d) (hok : m_ok M) {a b w : Int32} (hQ : r_q I P g k z Q (M 102 22)) : ab_CT d 192 [wd_v 102, .inl a, .inl b, .inl w] (wd I P M g, k, z) Q := x_differ hd hok.lok (fun _ => hQ _ _ hok rfl) (fun _ M' hE => hQ _ _ (m_ok_eqv hok hE) hE.2.2.2.2)
theorem m_ok_sh3 {M : wd_I} (h : m_ok M) : ∀ j, j < 12 → 0 ≤ (M 110 j).toInt ∧ (M 110 j).toInt < 3120 := fun j hj => by have := h.2.2.2.1 j hj; have := m_ok_b h; omega
theorem rr_image (hd : 2 ≤ d) (hok : m_ok M) (hQ : r_q I P g k z Q (M 102 22)) : ab_CT d 195 [wd_v 102] (wd I P M g, k, z) Q := by
  obtain ⟨h1, h2, h3⟩ := m_ok_image hok
  exact x_image hd (m_ok_sh3 hok) (hQ _ _ h1 h2)
theorem rr_back (hd : 2 ≤ d) (hok : m_ok M) (hQ : r_q I P g k z Q (M 102 22)) : ab_CT d 196 [wd_v 102] (wd I P M g, k, z) Q :=
  x_back hd (fun _ => hQ _ _ hok rfl) (fun h => m_ok_sh3 (m_ok_back hok h).1) (fun h => hQ _ _ (m_ok_back hok h).1 (m_ok_back hok h).2)
theorem rr_count (hd : 2 ≤ d) (hok : m_ok M) {w : Int32} (hQ : r_q I P g k z Q (M 102 22)) : ab_CT d 197 [wd_v 102, .inl w] (wd I P M g, k, z) Q := x_count hd (fun _ => hQ _ _ hok rfl) (fun _ => hQ _ _ hok rfl) (fun _ _ => hQ _ _ hok rfl) (fun _ _ => hQ _ _ hok rfl) (fun _ => hQ _ _ hok rfl)
end
end
section
/-! ===== the class: its cells, moves over them (own text) ===== -/
theorem i_ialN {c : ab_C} {x : Int} {K : Int32 → Prop} {t n : Nat} {f : Nat → Int32} (h1 : c = ab_ia t n f) (h2 : t = 0 ∨ t = 9) (h3 : 0 ≤ x ∧ x < n) (h4 : ∀ v, v = f x.toNat → K v) : ∃ t n f, c = ab_ia t n f ∧ (t = 0 ∨ t = 9) ∧ (0 ≤ x ∧ x < n) ∧ ∀ v, v = f x.toNat → K v := ⟨t, n, f, h1, h2, h3, h4⟩
theorem i_aalN {c : ab_C} {x : Int} {K : Option Nat → Prop} {t n : Nat} {f : Nat → Option Nat} (h1 : c = ab_ra t n f) (h3 : 0 ≤ x ∧ x < n) (h4 : ∀ v, v = f x.toNat → K v) : ∃ t n f, c = ab_ra t n f ∧ (0 ≤ x ∧ x < n) ∧ ∀ v, v = f x.toNat → K v := ⟨t, n, f, h1, h3, h4⟩
theorem w_putI {I : wd_I} {P : wd_P} {M : wd_I} {g : Nat → ab_C} {k z a c j t : Nat} {x : Int32} {fs : List ab_V} {K : ab_H → Prop} (hm : wd_mut a = true) (h1 : wd_c a (I a) (P a) (M a) = ab_ob c fs) (hj : Nat.blt j fs.length = true) (ht : ab_fit t (.inl x)) (hc : ab_ob c (fs.set j (.inl x)) = wd_c a (ab_up (I a) j x) (P a) (M a)) (hK : K (wd (wd_up I a j x) P M g, k, z)) : ∃ fs, (wd I P M g, k, z).1 a = ab_ob c fs ∧ j < fs.length ∧ ab_fit t (.inl x) ∧ ∀ h', h' = ab_set (wd I P M g, k, z) a (ab_ob c (fs.set j (.inl x))) → K h' := by
  refine ⟨fs, (wd_at hm).trans h1, Nat.le_of_ble_eq_true hj, ht, fun h' hh => ?_⟩
  have e : h' = (wd (wd_up I a j x) P M g, k, z) := by
    rw [hh]
    exact congrArg (fun f => (f, k, z)) (wd_foldI (a := a) (j := j) (x := x) hm hc)
  rw [e]
  exact hK
theorem w_putP {I : wd_I} {P : wd_P} {M : wd_I} {g : Nat → ab_C} {k z a c j t : Nat} {x : Option Nat} {fs : List ab_V} {K : ab_H → Prop} (hm : wd_mut a = true) (h1 : wd_c a (I a) (P a) (M a) = ab_ob c fs) (hj : Nat.blt j fs.length = true) (ht : ab_fit t (.inr (.inr x))) (hc : ab_ob c (fs.set j (.inr (.inr x))) = wd_c a (I a) (ab_up (P a) j x) (M a)) (hK : K (wd I (wd_up P a j x) M g, k, z)) : ∃ fs, (wd I P M g, k, z).1 a = ab_ob c fs ∧ j < fs.length ∧ ab_fit t (.inr (.inr x)) ∧ ∀ h', h' = ab_set (wd I P M g, k, z) a (ab_ob c (fs.set j (.inr (.inr x)))) → K h' := by
  refine ⟨fs, (wd_at hm).trans h1, Nat.le_of_ble_eq_true hj, ht, fun h' hh => ?_⟩
  have e : h' = (wd I (wd_up P a j x) M g, k, z) := by
    rw [hh]
    exact congrArg (fun f => (f, k, z)) (wd_foldP (a := a) (j := j) (x := x) hm hc)
  rw [e]
  exact hK
theorem w_iasI {I : wd_I} {P : wd_P} {M : wd_I} {g : Nat → ab_C} {k z a n : Nat} {i x : Int32} {K : ab_H → Prop} (hm : wd_mut a = true) (h1 : wd_c a (I a) (P a) (M a) = ab_ia 0 n (I a)) (hi : 0 ≤ i.toInt ∧ i.toInt < n) (hc : ∀ F, ab_ia 0 n F = wd_c a F (P a) (M a)) (hK : ∀ e, e = i.toInt.toNat → K (wd (wd_up I a e x) P M g, k, z)) : ∃ n f, (wd I P M g, k, z).1 a = ab_ia 0 n f ∧ (0 ≤ i.toInt ∧ i.toInt < n) ∧ ∀ h', h' = ab_set (wd I P M g, k, z) a (ab_ia 0 n (ab_up f i.toInt.toNat x)) → K h' := by
  refine ⟨n, I a, (wd_at hm).trans h1, hi, fun h' hh => ?_⟩
  have e : h' = (wd (wd_up I a i.toInt.toNat x) P M g, k, z) := by
    rw [hh]
    exact congrArg (fun f => (f, k, z)) (wd_foldI (a := a) (j := i.toInt.toNat) (x := x) hm (hc _))
  rw [e]
  exact hK _ rfl
/-! views of a thing -/
def c_fs (c : ab_C) : List ab_V := match c with | .inr (.inr (_, fs)) => fs | _ => []
def c_vi (v : Option ab_V) : Int32 := match v with | some (.inl x) => x | _ => 0
def c_vr (v : Option ab_V) : Nat := match v with | some (.inr (.inr (some b))) => b | _ => 0
def c_ln (c : ab_C) : Nat := match c with | .inl (_, n, _) => n | .inr (.inl (_, n, _)) => n | _ => 0
def c_ai (c : ab_C) (j : Nat) : Int32 := match c with | .inl (_, _, f) => f j | _ => 0
def c_ar (c : ab_C) (j : Nat) : Nat := match c with | .inr (.inl (_, _, f)) => (f j).getD 0 | _ => 0
/-- field j of the thing at a: 0 kind, 1 word, 2 nodes, 3 height -/
def c_i (g : Nat → ab_C) (a j : Nat) : Int32 := c_vi (c_fs (g a))[j]?
def c_ka (g : Nat → ab_C) (a : Nat) : Nat := c_vr (c_fs (g a))[4]?
def c_pa (g : Nat → ab_C) (a : Nat) : Nat := c_vr (c_fs (g a))[5]?
def c_sz (g : Nat → ab_C) (a : Nat) : Nat := c_ln (g (c_pa g a))
def c_pt (g : Nat → ab_C) (a j : Nat) : Nat := c_ar (g (c_pa g a)) j
def c_ky (g : Nat → ab_C) (a j : Nat) : Int32 := if j < c_ln (g (c_ka g a)) then c_ai (g (c_ka g a)) j else ab_ii 0
/-- a thing, well made: its parts are in T -/
def c_wf (T : Nat → Prop) (g : Nat → ab_C) (k a : Nat) : Prop := (wd_mut a = false ∧ a < k) ∧ ∃ (kd wo nd ht : Int32) (ka pa nk np : Nat) (fk : Nat → Int32) (fp : Nat → Option Nat), g a = ab_ob 9 [.inl kd, .inl wo, .inl nd, .inl ht, wd_v ka, wd_v pa] ∧ ((wd_mut ka = false ∧ ka < k) ∧ g ka = ab_ia 0 nk fk ∧ nk ≤ 13) ∧ ((wd_mut pa = false ∧ pa < k) ∧ g pa = ab_ra 4 np fp ∧ np ≤ 13) ∧ ∀ j, j < np → fp j = some (c_pt g a j) ∧ T (c_pt g a j)
def c_W (T : Nat → Prop) (g : Nat → ab_C) (k : Nat) : Prop := ∀ a, T a → c_wf T g k a
/-- the cells of a thing in the world -/
def c_wc (I : wd_I) (P : wd_P) (M : wd_I) (g : Nat → ab_C) (k z a ka pa nk np : Nat) (fk : Nat → Int32) (fp : Nat → Option Nat) : Prop := (wd I P M g, k, z).1 a = ab_ob 9 [.inl (c_i g a 0), .inl (c_i g a 1), .inl (c_i g a 2), .inl (c_i g a 3), wd_v ka, wd_v pa] ∧ (wd I P M g, k, z).1 ka = ab_ia 0 nk fk ∧ (wd I P M g, k, z).1 pa = ab_ra 4 np fp
theorem c_W_get {T : Nat → Prop} {g : Nat → ab_C} {k a : Nat} (hW : c_W T g k) (ha : T a) : ∃ (ka pa nk np : Nat) (fk : Nat → Int32) (fp : Nat → Option Nat), (∀ I P M z, c_wc I P M g k z a ka pa nk np fk fp) ∧ (nk ≤ 13 ∧ np ≤ 13) ∧ c_sz g a = np ∧ (∀ j, j < np → fp j = some (c_pt g a j) ∧ T (c_pt g a j)) ∧ (∀ j, j < nk → fk j = c_ky g a j) ∧ (∀ j, nk ≤ j → c_ky g a j = ab_ii 0) ∧ (c_ka g a = ka ∧ c_pa g a = pa) ∧ (wd_mut a = false ∧ wd_mut ka = false ∧ wd_mut pa = false) ∧ (a < k ∧ ka < k ∧ pa < k) := by
  obtain ⟨⟨m1, m2⟩, kd, wo, nd, ht, ka, pa, nk, np, fk, fp, h1, ⟨⟨k1, k2⟩, k3, k4⟩, ⟨⟨p1, p2⟩, p3, p4⟩, h4⟩ := hW a ha
  have e0 : c_i g a 0 = kd := by unfold c_i; rw [h1]; rfl
  have e1 : c_i g a 1 = wo := by unfold c_i; rw [h1]; rfl
  have e2 : c_i g a 2 = nd := by unfold c_i; rw [h1]; rfl
  have e3 : c_i g a 3 = ht := by unfold c_i; rw [h1]; rfl
  have e4 : c_ka g a = ka := by unfold c_ka; rw [h1]; rfl
  have e5 : c_pa g a = pa := by unfold c_pa; rw [h1]; rfl
  refine ⟨ka, pa, nk, np, fk, fp, fun I P M z => ⟨?_, (wd_g k1).trans k3, (wd_g p1).trans p3⟩, ⟨k4, p4⟩, ?_, h4, fun j hj => ?_, fun j hj => ?_, ⟨e4, e5⟩, ⟨m1, k1, p1⟩, ⟨m2, k2, p2⟩⟩
  · rw [e0, e1, e2, e3]
    exact (wd_g m1).trans h1
  · unfold c_sz; rw [e5, p3]; rfl
  · unfold c_ky
    rw [e4, k3]
    exact (if_pos hj).symm
  · unfold c_ky
    rw [e4, k3]
    exact if_neg (by show ¬ j < nk; omega)
section
variable {d : Nat} {I : wd_I} {P : wd_P} {M : wd_I} {g : Nat → ab_C} {k z : Nat} {Q : ab_Q} {T : Nat → Prop}
set_option maxHeartbeats 4000000 in
set_option maxRecDepth 100000 in
theorem y_icmp (hd : 1 ≤ d) {a b : Int32} {h : ab_H} (hl : a.toInt < b.toInt → Q (some (.inl (ab_ii (-1)))) h) (he : a.toInt = b.toInt → Q (some (.inl (ab_ii 0))) h) (hg : b.toInt < a.toInt → Q (some (.inl (ab_ii 1))) h) : ab_CT d 198 [.inl a, .inl b] h Q := by
  refine wd_inC rfl hd rfl ?_
  intro C9 X9 hC9 hX9
  repeat' ((conv => whnf); first
    | (intro v9 hv9; (try simp (disch := omega) only [ab_tI, ab_c0, wd_ix12, wd_ix8, wd_ix10, wd_up_self, wd_up_eq, wd_up_ne, Int.toNat_natCast, Int.toNat_of_nonneg, not_true_eq_false, not_false_eq_true, Option.some.injEq] at hv9); subst hv9)
    | (apply i_get; (focus (exact rfl)); (focus (exact rfl)))
    | (refine hX9 _ _ _ _ (wd_rnC rfl ?_); clear hC9 hX9 X9 C9; intro C9 X9 hC9 hX9)
    | (apply w_ialM; (focus (exact rfl)); (focus (exact (by first | exact ⟨by decide, by decide⟩ | ((try simp (disch := omega) only [ab_tI, ab_c0, wd_ix12, wd_ix8, wd_ix10, wd_up_self, wd_up_eq, wd_up_ne, Int.toNat_natCast, Int.toNat_of_nonneg, not_true_eq_false, not_false_eq_true, Option.some.injEq, wd_l103, wd_l104, wd_l105, wd_l106, wd_l107, wd_l108, wd_l109, wd_l110, wd_l111, wd_l112, wd_l113, wd_l114, wd_l115, wd_l116, wd_l117, wd_l118, wd_l119, wd_l120, wd_l121, wd_l122, wd_l123, wd_l124]); omega)))); (intro v9 hv9; (try simp (disch := omega) only [ab_tI, ab_c0, wd_ix12, wd_ix8, wd_ix10, wd_up_self, wd_up_eq, wd_up_ne, Int.toNat_natCast, Int.toNat_of_nonneg, not_true_eq_false, not_false_eq_true, Option.some.injEq] at hv9); subst hv9))
    | (apply w_putM; (focus (exact rfl)); (focus (first | exact trivial | exact Or.inl rfl | exact Or.inr rfl)); (focus (exact rfl)))
    | (apply w_iasM; (focus (exact rfl)); (focus (exact (by first | exact ⟨by decide, by decide⟩ | ((try simp (disch := omega) only [ab_tI, ab_c0, wd_ix12, wd_ix8, wd_ix10, wd_up_self, wd_up_eq, wd_up_ne, Int.toNat_natCast, Int.toNat_of_nonneg, not_true_eq_false, not_false_eq_true, Option.some.injEq, wd_l103, wd_l104, wd_l105, wd_l106, wd_l107, wd_l108, wd_l109, wd_l110, wd_l111, wd_l112, wd_l113, wd_l114, wd_l115, wd_l116, wd_l117, wd_l118, wd_l119, wd_l120, wd_l121, wd_l122, wd_l123, wd_l124]); omega)))); (intro v9 hv9; (try simp (disch := omega) only [ab_tI, ab_c0, wd_ix12, wd_ix8, wd_ix10, wd_up_self, wd_up_eq, wd_up_ne, Int.toNat_natCast, Int.toNat_of_nonneg, not_true_eq_false, not_false_eq_true, Option.some.injEq] at hv9); subst hv9))
    | (refine i_brF (by decide) ?_)
    | (refine i_brT (by decide) ?_)
    | (refine ⟨fun hc => ?_, fun hc => ?_⟩ <;> (try simp (disch := omega) only [ab_tI, ab_c0, wd_ix12, wd_ix8, wd_ix10, wd_up_self, wd_up_eq, wd_up_ne, Int.toNat_natCast, Int.toNat_of_nonneg, not_true_eq_false, not_false_eq_true, Option.some.injEq] at hc) <;> first | (exfalso; omega) | skip)
    | (apply i_cv; (focus (exact rfl)))
    | (apply i_len; (focus (exact rfl)))
    | (apply w_putI; (focus (exact rfl)); (focus (exact rfl)); (focus (exact rfl)); (focus (first | exact trivial | exact Or.inl rfl | exact Or.inr rfl)); (focus (exact rfl)))
    | (apply w_putP; (focus (exact rfl)); (focus (exact rfl)); (focus (exact rfl)); (focus (exact trivial)); (focus (exact rfl)))
    | (apply i_ialN; (focus (exact rfl)); (focus (first | exact Or.inl rfl | exact Or.inr rfl)); (focus (exact (by first | exact ⟨by decide, by decide⟩ | ((try simp (disch := omega) only [ab_tI, ab_c0, wd_ix12, wd_ix8, wd_ix10, wd_up_self, wd_up_eq, wd_up_ne, Int.toNat_natCast, Int.toNat_of_nonneg, not_true_eq_false, not_false_eq_true, Option.some.injEq, wd_l103, wd_l104, wd_l105, wd_l106, wd_l107, wd_l108, wd_l109, wd_l110, wd_l111, wd_l112, wd_l113, wd_l114, wd_l115, wd_l116, wd_l117, wd_l118, wd_l119, wd_l120, wd_l121, wd_l122, wd_l123, wd_l124]); omega)))); (intro v9 hv9; (try simp (disch := omega) only [ab_tI, ab_c0, wd_ix12, wd_ix8, wd_ix10, wd_up_self, wd_up_eq, wd_up_ne, Int.toNat_natCast, Int.toNat_of_nonneg, not_true_eq_false, not_false_eq_true, Option.some.injEq] at hv9); subst hv9))
    | (apply i_aalN; (focus (exact rfl)); (focus (exact (by first | exact ⟨by decide, by decide⟩ | ((try simp (disch := omega) only [ab_tI, ab_c0, wd_ix12, wd_ix8, wd_ix10, wd_up_self, wd_up_eq, wd_up_ne, Int.toNat_natCast, Int.toNat_of_nonneg, not_true_eq_false, not_false_eq_true, Option.some.injEq, wd_l103, wd_l104, wd_l105, wd_l106, wd_l107, wd_l108, wd_l109, wd_l110, wd_l111, wd_l112, wd_l113, wd_l114, wd_l115, wd_l116, wd_l117, wd_l118, wd_l119, wd_l120, wd_l121, wd_l122, wd_l123, wd_l124]); omega)))); (intro v9 hv9; (try simp (disch := omega) only [ab_tI, ab_c0, wd_ix12, wd_ix8, wd_ix10, wd_up_self, wd_up_eq, wd_up_ne, Int.toNat_natCast, Int.toNat_of_nonneg, not_true_eq_false, not_false_eq_true, Option.some.injEq] at hv9); subst hv9))
    | (apply w_iasI; (focus (exact rfl)); (focus (exact rfl)); (focus (exact (by first | exact ⟨by decide, by decide⟩ | ((try simp (disch := omega) only [ab_tI, ab_c0, wd_ix12, wd_ix8, wd_ix10, wd_up_self, wd_up_eq, wd_up_ne, Int.toNat_natCast, Int.toNat_of_nonneg, not_true_eq_false, not_false_eq_true, Option.some.injEq, wd_l103, wd_l104, wd_l105, wd_l106, wd_l107, wd_l108, wd_l109, wd_l110, wd_l111, wd_l112, wd_l113, wd_l114, wd_l115, wd_l116, wd_l117, wd_l118, wd_l119, wd_l120, wd_l121, wd_l122, wd_l123, wd_l124]); omega)))); (focus (intro _; exact rfl)); (intro v9 hv9; (try simp (disch := omega) only [ab_tI, ab_c0, wd_ix12, wd_ix8, wd_ix10, wd_up_self, wd_up_eq, wd_up_ne, Int.toNat_natCast, Int.toNat_of_nonneg, not_true_eq_false, not_false_eq_true, Option.some.injEq] at hv9); subst hv9))
    | (apply w_balM; (focus (exact (by first | exact ⟨by decide, by decide⟩ | ((try simp (disch := omega) only [ab_tI, ab_c0, wd_ix12, wd_ix8, wd_ix10, wd_up_self, wd_up_eq, wd_up_ne, Int.toNat_natCast, Int.toNat_of_nonneg, not_true_eq_false, not_false_eq_true, Option.some.injEq, wd_l103, wd_l104, wd_l105, wd_l106, wd_l107, wd_l108, wd_l109, wd_l110, wd_l111, wd_l112, wd_l113, wd_l114, wd_l115, wd_l116, wd_l117, wd_l118, wd_l119, wd_l120, wd_l121, wd_l122, wd_l123, wd_l124]); omega)))); (intro v9 hv9; (try simp (disch := omega) only [ab_tI, ab_c0, wd_ix12, wd_ix8, wd_ix10, wd_up_self, wd_up_eq, wd_up_ne, Int.toNat_natCast, Int.toNat_of_nonneg, not_true_eq_false, not_false_eq_true, Option.some.injEq] at hv9); subst hv9))
    | (apply w_basM; (focus (exact (by first | exact ⟨by decide, by decide⟩ | ((try simp (disch := omega) only [ab_tI, ab_c0, wd_ix12, wd_ix8, wd_ix10, wd_up_self, wd_up_eq, wd_up_ne, Int.toNat_natCast, Int.toNat_of_nonneg, not_true_eq_false, not_false_eq_true, Option.some.injEq, wd_l103, wd_l104, wd_l105, wd_l106, wd_l107, wd_l108, wd_l109, wd_l110, wd_l111, wd_l112, wd_l113, wd_l114, wd_l115, wd_l116, wd_l117, wd_l118, wd_l119, wd_l120, wd_l121, wd_l122, wd_l123, wd_l124]); omega)))); (focus (first | exact Or.inl rfl | exact Or.inr rfl)); (intro v9 hv9; (try simp (disch := omega) only [ab_tI, ab_c0, wd_ix12, wd_ix8, wd_ix10, wd_up_self, wd_up_eq, wd_up_ne, Int.toNat_natCast, Int.toNat_of_nonneg, not_true_eq_false, not_false_eq_true, Option.some.injEq] at hv9); subst hv9))
    | (refine And.intro trivial ?_)
    | (refine And.intro (Or.inl rfl) ?_)
    | (refine And.intro (Or.inr rfl) ?_)
    | (refine And.intro (by ((try simp (disch := omega) only [ab_tI, ab_c0, wd_ix12, wd_ix8, wd_ix10, wd_up_self, wd_up_eq, wd_up_ne, Int.toNat_natCast, Int.toNat_of_nonneg, not_true_eq_false, not_false_eq_true, Option.some.injEq]); omega)) ?_)
    | fail)
  all_goals first | exact hl (by omega) | exact he (by omega) | exact hg (by omega)
set_option maxHeartbeats 4000000 in
set_option maxRecDepth 100000 in
theorem y_max (hd : 1 ≤ d) {a b : Int32} {h : ab_H} (hQ : Q (some (.inl (m_mx b a))) h) : ab_CT d 199 [.inl a, .inl b] h Q := by
  unfold m_mx at hQ
  refine wd_inC rfl hd rfl ?_
  intro C9 X9 hC9 hX9
  repeat' ((conv => whnf); first
    | (intro v9 hv9; (try simp (disch := omega) only [ab_tI, ab_c0, wd_ix12, wd_ix8, wd_ix10, wd_up_self, wd_up_eq, wd_up_ne, Int.toNat_natCast, Int.toNat_of_nonneg, not_true_eq_false, not_false_eq_true, Option.some.injEq] at hv9); subst hv9)
    | (apply i_get; (focus (exact rfl)); (focus (exact rfl)))
    | (refine hX9 _ _ _ _ (wd_rnC rfl ?_); clear hC9 hX9 X9 C9; intro C9 X9 hC9 hX9)
    | (apply w_ialM; (focus (exact rfl)); (focus (exact (by first | exact ⟨by decide, by decide⟩ | ((try simp (disch := omega) only [ab_tI, ab_c0, wd_ix12, wd_ix8, wd_ix10, wd_up_self, wd_up_eq, wd_up_ne, Int.toNat_natCast, Int.toNat_of_nonneg, not_true_eq_false, not_false_eq_true, Option.some.injEq, wd_l103, wd_l104, wd_l105, wd_l106, wd_l107, wd_l108, wd_l109, wd_l110, wd_l111, wd_l112, wd_l113, wd_l114, wd_l115, wd_l116, wd_l117, wd_l118, wd_l119, wd_l120, wd_l121, wd_l122, wd_l123, wd_l124]); omega)))); (intro v9 hv9; (try simp (disch := omega) only [ab_tI, ab_c0, wd_ix12, wd_ix8, wd_ix10, wd_up_self, wd_up_eq, wd_up_ne, Int.toNat_natCast, Int.toNat_of_nonneg, not_true_eq_false, not_false_eq_true, Option.some.injEq] at hv9); subst hv9))
    | (apply w_putM; (focus (exact rfl)); (focus (first | exact trivial | exact Or.inl rfl | exact Or.inr rfl)); (focus (exact rfl)))
    | (apply w_iasM; (focus (exact rfl)); (focus (exact (by first | exact ⟨by decide, by decide⟩ | ((try simp (disch := omega) only [ab_tI, ab_c0, wd_ix12, wd_ix8, wd_ix10, wd_up_self, wd_up_eq, wd_up_ne, Int.toNat_natCast, Int.toNat_of_nonneg, not_true_eq_false, not_false_eq_true, Option.some.injEq, wd_l103, wd_l104, wd_l105, wd_l106, wd_l107, wd_l108, wd_l109, wd_l110, wd_l111, wd_l112, wd_l113, wd_l114, wd_l115, wd_l116, wd_l117, wd_l118, wd_l119, wd_l120, wd_l121, wd_l122, wd_l123, wd_l124]); omega)))); (intro v9 hv9; (try simp (disch := omega) only [ab_tI, ab_c0, wd_ix12, wd_ix8, wd_ix10, wd_up_self, wd_up_eq, wd_up_ne, Int.toNat_natCast, Int.toNat_of_nonneg, not_true_eq_false, not_false_eq_true, Option.some.injEq] at hv9); subst hv9))
    | (refine i_brF (by decide) ?_)
    | (refine i_brT (by decide) ?_)
    | (refine ⟨fun hc => ?_, fun hc => ?_⟩ <;> (try simp (disch := omega) only [ab_tI, ab_c0, wd_ix12, wd_ix8, wd_ix10, wd_up_self, wd_up_eq, wd_up_ne, Int.toNat_natCast, Int.toNat_of_nonneg, not_true_eq_false, not_false_eq_true, Option.some.injEq] at hc) <;> first | (exfalso; omega) | skip)
    | (apply i_cv; (focus (exact rfl)))
    | (apply i_len; (focus (exact rfl)))
    | (apply w_putI; (focus (exact rfl)); (focus (exact rfl)); (focus (exact rfl)); (focus (first | exact trivial | exact Or.inl rfl | exact Or.inr rfl)); (focus (exact rfl)))
    | (apply w_putP; (focus (exact rfl)); (focus (exact rfl)); (focus (exact rfl)); (focus (exact trivial)); (focus (exact rfl)))
    | (apply i_ialN; (focus (exact rfl)); (focus (first | exact Or.inl rfl | exact Or.inr rfl)); (focus (exact (by first | exact ⟨by decide, by decide⟩ | ((try simp (disch := omega) only [ab_tI, ab_c0, wd_ix12, wd_ix8, wd_ix10, wd_up_self, wd_up_eq, wd_up_ne, Int.toNat_natCast, Int.toNat_of_nonneg, not_true_eq_false, not_false_eq_true, Option.some.injEq, wd_l103, wd_l104, wd_l105, wd_l106, wd_l107, wd_l108, wd_l109, wd_l110, wd_l111, wd_l112, wd_l113, wd_l114, wd_l115, wd_l116, wd_l117, wd_l118, wd_l119, wd_l120, wd_l121, wd_l122, wd_l123, wd_l124]); omega)))); (intro v9 hv9; (try simp (disch := omega) only [ab_tI, ab_c0, wd_ix12, wd_ix8, wd_ix10, wd_up_self, wd_up_eq, wd_up_ne, Int.toNat_natCast, Int.toNat_of_nonneg, not_true_eq_false, not_false_eq_true, Option.some.injEq] at hv9); subst hv9))
    | (apply i_aalN; (focus (exact rfl)); (focus (exact (by first | exact ⟨by decide, by decide⟩ | ((try simp (disch := omega) only [ab_tI, ab_c0, wd_ix12, wd_ix8, wd_ix10, wd_up_self, wd_up_eq, wd_up_ne, Int.toNat_natCast, Int.toNat_of_nonneg, not_true_eq_false, not_false_eq_true, Option.some.injEq, wd_l103, wd_l104, wd_l105, wd_l106, wd_l107, wd_l108, wd_l109, wd_l110, wd_l111, wd_l112, wd_l113, wd_l114, wd_l115, wd_l116, wd_l117, wd_l118, wd_l119, wd_l120, wd_l121, wd_l122, wd_l123, wd_l124]); omega)))); (intro v9 hv9; (try simp (disch := omega) only [ab_tI, ab_c0, wd_ix12, wd_ix8, wd_ix10, wd_up_self, wd_up_eq, wd_up_ne, Int.toNat_natCast, Int.toNat_of_nonneg, not_true_eq_false, not_false_eq_true, Option.some.injEq] at hv9); subst hv9))
    | (apply w_iasI; (focus (exact rfl)); (focus (exact rfl)); (focus (exact (by first | exact ⟨by decide, by decide⟩ | ((try simp (disch := omega) only [ab_tI, ab_c0, wd_ix12, wd_ix8, wd_ix10, wd_up_self, wd_up_eq, wd_up_ne, Int.toNat_natCast, Int.toNat_of_nonneg, not_true_eq_false, not_false_eq_true, Option.some.injEq, wd_l103, wd_l104, wd_l105, wd_l106, wd_l107, wd_l108, wd_l109, wd_l110, wd_l111, wd_l112, wd_l113, wd_l114, wd_l115, wd_l116, wd_l117, wd_l118, wd_l119, wd_l120, wd_l121, wd_l122, wd_l123, wd_l124]); omega)))); (focus (intro _; exact rfl)); (intro v9 hv9; (try simp (disch := omega) only [ab_tI, ab_c0, wd_ix12, wd_ix8, wd_ix10, wd_up_self, wd_up_eq, wd_up_ne, Int.toNat_natCast, Int.toNat_of_nonneg, not_true_eq_false, not_false_eq_true, Option.some.injEq] at hv9); subst hv9))
    | (apply w_balM; (focus (exact (by first | exact ⟨by decide, by decide⟩ | ((try simp (disch := omega) only [ab_tI, ab_c0, wd_ix12, wd_ix8, wd_ix10, wd_up_self, wd_up_eq, wd_up_ne, Int.toNat_natCast, Int.toNat_of_nonneg, not_true_eq_false, not_false_eq_true, Option.some.injEq, wd_l103, wd_l104, wd_l105, wd_l106, wd_l107, wd_l108, wd_l109, wd_l110, wd_l111, wd_l112, wd_l113, wd_l114, wd_l115, wd_l116, wd_l117, wd_l118, wd_l119, wd_l120, wd_l121, wd_l122, wd_l123, wd_l124]); omega)))); (intro v9 hv9; (try simp (disch := omega) only [ab_tI, ab_c0, wd_ix12, wd_ix8, wd_ix10, wd_up_self, wd_up_eq, wd_up_ne, Int.toNat_natCast, Int.toNat_of_nonneg, not_true_eq_false, not_false_eq_true, Option.some.injEq] at hv9); subst hv9))
    | (apply w_basM; (focus (exact (by first | exact ⟨by decide, by decide⟩ | ((try simp (disch := omega) only [ab_tI, ab_c0, wd_ix12, wd_ix8, wd_ix10, wd_up_self, wd_up_eq, wd_up_ne, Int.toNat_natCast, Int.toNat_of_nonneg, not_true_eq_false, not_false_eq_true, Option.some.injEq, wd_l103, wd_l104, wd_l105, wd_l106, wd_l107, wd_l108, wd_l109, wd_l110, wd_l111, wd_l112, wd_l113, wd_l114, wd_l115, wd_l116, wd_l117, wd_l118, wd_l119, wd_l120, wd_l121, wd_l122, wd_l123, wd_l124]); omega)))); (focus (first | exact Or.inl rfl | exact Or.inr rfl)); (intro v9 hv9; (try simp (disch := omega) only [ab_tI, ab_c0, wd_ix12, wd_ix8, wd_ix10, wd_up_self, wd_up_eq, wd_up_ne, Int.toNat_natCast, Int.toNat_of_nonneg, not_true_eq_false, not_false_eq_true, Option.some.injEq] at hv9); subst hv9))
    | (refine And.intro trivial ?_)
    | (refine And.intro (Or.inl rfl) ?_)
    | (refine And.intro (Or.inr rfl) ?_)
    | (refine And.intro (by ((try simp (disch := omega) only [ab_tI, ab_c0, wd_ix12, wd_ix8, wd_ix10, wd_up_self, wd_up_eq, wd_up_ne, Int.toNat_natCast, Int.toNat_of_nonneg, not_true_eq_false, not_false_eq_true, Option.some.injEq]); omega)) ?_)
    | fail)
  all_goals (split at hQ) <;> first | exact hQ | (exfalso; omega) | (rw [show a = b from Int32.toInt_inj.mp (by omega)] at *; exact hQ)
set_option maxHeartbeats 4000000 in
set_option maxRecDepth 100000 in
theorem y_min (hd : 1 ≤ d) {a b : Nat} (ha : a ≤ 100) (hb : b ≤ 100) {h : ab_H} (hQ : Q (some (.inl (ab_ii ((min a b : Nat) : Int)))) h) : ab_CT d 200 [.inl (ab_ii (a : Int)), .inl (ab_ii (b : Int))] h Q := by
  refine wd_inC rfl hd rfl ?_
  intro C9 X9 hC9 hX9
  repeat' ((conv => whnf); first
    | (intro v9 hv9; (try simp (disch := omega) only [ab_tI, ab_c0, wd_ix12, wd_ix8, wd_ix10, wd_up_self, wd_up_eq, wd_up_ne, Int.toNat_natCast, Int.toNat_of_nonneg, not_true_eq_false, not_false_eq_true, Option.some.injEq] at hv9); subst hv9)
    | (apply i_get; (focus (exact rfl)); (focus (exact rfl)))
    | (refine hX9 _ _ _ _ (wd_rnC rfl ?_); clear hC9 hX9 X9 C9; intro C9 X9 hC9 hX9)
    | (apply w_ialM; (focus (exact rfl)); (focus (exact (by first | exact ⟨by decide, by decide⟩ | ((try simp (disch := omega) only [ab_tI, ab_c0, wd_ix12, wd_ix8, wd_ix10, wd_up_self, wd_up_eq, wd_up_ne, Int.toNat_natCast, Int.toNat_of_nonneg, not_true_eq_false, not_false_eq_true, Option.some.injEq, wd_l103, wd_l104, wd_l105, wd_l106, wd_l107, wd_l108, wd_l109, wd_l110, wd_l111, wd_l112, wd_l113, wd_l114, wd_l115, wd_l116, wd_l117, wd_l118, wd_l119, wd_l120, wd_l121, wd_l122, wd_l123, wd_l124]); omega)))); (intro v9 hv9; (try simp (disch := omega) only [ab_tI, ab_c0, wd_ix12, wd_ix8, wd_ix10, wd_up_self, wd_up_eq, wd_up_ne, Int.toNat_natCast, Int.toNat_of_nonneg, not_true_eq_false, not_false_eq_true, Option.some.injEq] at hv9); subst hv9))
    | (apply w_putM; (focus (exact rfl)); (focus (first | exact trivial | exact Or.inl rfl | exact Or.inr rfl)); (focus (exact rfl)))
    | (apply w_iasM; (focus (exact rfl)); (focus (exact (by first | exact ⟨by decide, by decide⟩ | ((try simp (disch := omega) only [ab_tI, ab_c0, wd_ix12, wd_ix8, wd_ix10, wd_up_self, wd_up_eq, wd_up_ne, Int.toNat_natCast, Int.toNat_of_nonneg, not_true_eq_false, not_false_eq_true, Option.some.injEq, wd_l103, wd_l104, wd_l105, wd_l106, wd_l107, wd_l108, wd_l109, wd_l110, wd_l111, wd_l112, wd_l113, wd_l114, wd_l115, wd_l116, wd_l117, wd_l118, wd_l119, wd_l120, wd_l121, wd_l122, wd_l123, wd_l124]); omega)))); (intro v9 hv9; (try simp (disch := omega) only [ab_tI, ab_c0, wd_ix12, wd_ix8, wd_ix10, wd_up_self, wd_up_eq, wd_up_ne, Int.toNat_natCast, Int.toNat_of_nonneg, not_true_eq_false, not_false_eq_true, Option.some.injEq] at hv9); subst hv9))
    | (refine i_brF (by decide) ?_)
    | (refine i_brT (by decide) ?_)
    | (refine ⟨fun hc => ?_, fun hc => ?_⟩ <;> (try simp (disch := omega) only [ab_tI, ab_c0, wd_ix12, wd_ix8, wd_ix10, wd_up_self, wd_up_eq, wd_up_ne, Int.toNat_natCast, Int.toNat_of_nonneg, not_true_eq_false, not_false_eq_true, Option.some.injEq] at hc) <;> first | (exfalso; omega) | skip)
    | (apply i_cv; (focus (exact rfl)))
    | (apply i_len; (focus (exact rfl)))
    | (apply w_putI; (focus (exact rfl)); (focus (exact rfl)); (focus (exact rfl)); (focus (first | exact trivial | exact Or.inl rfl | exact Or.inr rfl)); (focus (exact rfl)))
    | (apply w_putP; (focus (exact rfl)); (focus (exact rfl)); (focus (exact rfl)); (focus (exact trivial)); (focus (exact rfl)))
    | (apply i_ialN; (focus (exact rfl)); (focus (first | exact Or.inl rfl | exact Or.inr rfl)); (focus (exact (by first | exact ⟨by decide, by decide⟩ | ((try simp (disch := omega) only [ab_tI, ab_c0, wd_ix12, wd_ix8, wd_ix10, wd_up_self, wd_up_eq, wd_up_ne, Int.toNat_natCast, Int.toNat_of_nonneg, not_true_eq_false, not_false_eq_true, Option.some.injEq, wd_l103, wd_l104, wd_l105, wd_l106, wd_l107, wd_l108, wd_l109, wd_l110, wd_l111, wd_l112, wd_l113, wd_l114, wd_l115, wd_l116, wd_l117, wd_l118, wd_l119, wd_l120, wd_l121, wd_l122, wd_l123, wd_l124]); omega)))); (intro v9 hv9; (try simp (disch := omega) only [ab_tI, ab_c0, wd_ix12, wd_ix8, wd_ix10, wd_up_self, wd_up_eq, wd_up_ne, Int.toNat_natCast, Int.toNat_of_nonneg, not_true_eq_false, not_false_eq_true, Option.some.injEq] at hv9); subst hv9))
    | (apply i_aalN; (focus (exact rfl)); (focus (exact (by first | exact ⟨by decide, by decide⟩ | ((try simp (disch := omega) only [ab_tI, ab_c0, wd_ix12, wd_ix8, wd_ix10, wd_up_self, wd_up_eq, wd_up_ne, Int.toNat_natCast, Int.toNat_of_nonneg, not_true_eq_false, not_false_eq_true, Option.some.injEq, wd_l103, wd_l104, wd_l105, wd_l106, wd_l107, wd_l108, wd_l109, wd_l110, wd_l111, wd_l112, wd_l113, wd_l114, wd_l115, wd_l116, wd_l117, wd_l118, wd_l119, wd_l120, wd_l121, wd_l122, wd_l123, wd_l124]); omega)))); (intro v9 hv9; (try simp (disch := omega) only [ab_tI, ab_c0, wd_ix12, wd_ix8, wd_ix10, wd_up_self, wd_up_eq, wd_up_ne, Int.toNat_natCast, Int.toNat_of_nonneg, not_true_eq_false, not_false_eq_true, Option.some.injEq] at hv9); subst hv9))
    | (apply w_iasI; (focus (exact rfl)); (focus (exact rfl)); (focus (exact (by first | exact ⟨by decide, by decide⟩ | ((try simp (disch := omega) only [ab_tI, ab_c0, wd_ix12, wd_ix8, wd_ix10, wd_up_self, wd_up_eq, wd_up_ne, Int.toNat_natCast, Int.toNat_of_nonneg, not_true_eq_false, not_false_eq_true, Option.some.injEq, wd_l103, wd_l104, wd_l105, wd_l106, wd_l107, wd_l108, wd_l109, wd_l110, wd_l111, wd_l112, wd_l113, wd_l114, wd_l115, wd_l116, wd_l117, wd_l118, wd_l119, wd_l120, wd_l121, wd_l122, wd_l123, wd_l124]); omega)))); (focus (intro _; exact rfl)); (intro v9 hv9; (try simp (disch := omega) only [ab_tI, ab_c0, wd_ix12, wd_ix8, wd_ix10, wd_up_self, wd_up_eq, wd_up_ne, Int.toNat_natCast, Int.toNat_of_nonneg, not_true_eq_false, not_false_eq_true, Option.some.injEq] at hv9); subst hv9))
    | (apply w_balM; (focus (exact (by first | exact ⟨by decide, by decide⟩ | ((try simp (disch := omega) only [ab_tI, ab_c0, wd_ix12, wd_ix8, wd_ix10, wd_up_self, wd_up_eq, wd_up_ne, Int.toNat_natCast, Int.toNat_of_nonneg, not_true_eq_false, not_false_eq_true, Option.some.injEq, wd_l103, wd_l104, wd_l105, wd_l106, wd_l107, wd_l108, wd_l109, wd_l110, wd_l111, wd_l112, wd_l113, wd_l114, wd_l115, wd_l116, wd_l117, wd_l118, wd_l119, wd_l120, wd_l121, wd_l122, wd_l123, wd_l124]); omega)))); (intro v9 hv9; (try simp (disch := omega) only [ab_tI, ab_c0, wd_ix12, wd_ix8, wd_ix10, wd_up_self, wd_up_eq, wd_up_ne, Int.toNat_natCast, Int.toNat_of_nonneg, not_true_eq_false, not_false_eq_true, Option.some.injEq] at hv9); subst hv9))
    | (apply w_basM; (focus (exact (by first | exact ⟨by decide, by decide⟩ | ((try simp (disch := omega) only [ab_tI, ab_c0, wd_ix12, wd_ix8, wd_ix10, wd_up_self, wd_up_eq, wd_up_ne, Int.toNat_natCast, Int.toNat_of_nonneg, not_true_eq_false, not_false_eq_true, Option.some.injEq, wd_l103, wd_l104, wd_l105, wd_l106, wd_l107, wd_l108, wd_l109, wd_l110, wd_l111, wd_l112, wd_l113, wd_l114, wd_l115, wd_l116, wd_l117, wd_l118, wd_l119, wd_l120, wd_l121, wd_l122, wd_l123, wd_l124]); omega)))); (focus (first | exact Or.inl rfl | exact Or.inr rfl)); (intro v9 hv9; (try simp (disch := omega) only [ab_tI, ab_c0, wd_ix12, wd_ix8, wd_ix10, wd_up_self, wd_up_eq, wd_up_ne, Int.toNat_natCast, Int.toNat_of_nonneg, not_true_eq_false, not_false_eq_true, Option.some.injEq] at hv9); subst hv9))
    | (refine And.intro trivial ?_)
    | (refine And.intro (Or.inl rfl) ?_)
    | (refine And.intro (Or.inr rfl) ?_)
    | (refine And.intro (by ((try simp (disch := omega) only [ab_tI, ab_c0, wd_ix12, wd_ix8, wd_ix10, wd_up_self, wd_up_eq, wd_up_ne, Int.toNat_natCast, Int.toNat_of_nonneg, not_true_eq_false, not_false_eq_true, Option.some.injEq]); omega)) ?_)
    | fail)
  all_goals first | (rw [show min a b = a by omega] at hQ; exact hQ) | (rw [show min a b = b by omega] at hQ; exact hQ)
set_option maxHeartbeats 4000000 in
set_option maxRecDepth 100000 in
theorem y_size (hd : 1 ≤ d) (hW : c_W T g k) {a : Nat} (ha : T a) (hQ : Q (some (.inl (ab_ii (c_sz g a : Int)))) (wd I P M g, k, z)) : ab_CT d 87 [wd_v a] (wd I P M g, k, z) Q := by
  obtain ⟨ka, pa, nk, np, fk, fp, hc, ⟨hnk, hnp⟩, hsz, hfp, hfk, hfk0, -, -, -⟩ := c_W_get hW ha
  obtain ⟨h1, h2, h3⟩ := hc I P M z
  rw [hsz] at hQ
  refine wd_inC rfl hd rfl ?_
  intro C9 X9 hC9 hX9
  repeat' ((conv => whnf); first
    | (apply i_getN; (focus (first | exact h1 | exact h2 | exact h3)); (focus (exact rfl)); (intro v9 hv9; (try simp (disch := omega) only [ab_tI, ab_c0, wd_ix12, wd_ix8, wd_ix10, wd_up_self, wd_up_eq, wd_up_ne, Int.toNat_natCast, Int.toNat_of_nonneg, not_true_eq_false, not_false_eq_true, Option.some.injEq] at hv9); subst hv9))
    | (apply i_cv; (focus (first | exact h1 | exact h2 | exact h3)))
    | (apply i_len; (focus (first | exact congrArg ab_len (h1) | exact congrArg ab_len (h2) | exact congrArg ab_len (h3))))
    | (apply i_ialN; (focus (first | exact h1 | exact h2 | exact h3)); (focus (first | exact Or.inl rfl | exact Or.inr rfl)); (focus (exact (by first | exact ⟨by decide, by decide⟩ | ((try simp (disch := omega) only [ab_tI, ab_c0, wd_ix12, wd_ix8, wd_ix10, wd_up_self, wd_up_eq, wd_up_ne, Int.toNat_natCast, Int.toNat_of_nonneg, not_true_eq_false, not_false_eq_true, Option.some.injEq, wd_l103, wd_l104, wd_l105, wd_l106, wd_l107, wd_l108, wd_l109, wd_l110, wd_l111, wd_l112, wd_l113, wd_l114, wd_l115, wd_l116, wd_l117, wd_l118, wd_l119, wd_l120, wd_l121, wd_l122, wd_l123, wd_l124]); omega)))); (intro v9 hv9; (try simp (disch := omega) only [ab_tI, ab_c0, wd_ix12, wd_ix8, wd_ix10, wd_up_self, wd_up_eq, wd_up_ne, Int.toNat_natCast, Int.toNat_of_nonneg, not_true_eq_false, not_false_eq_true, Option.some.injEq] at hv9); subst hv9))
    | (apply i_aalN; (focus (first | exact h1 | exact h2 | exact h3)); (focus (exact (by first | exact ⟨by decide, by decide⟩ | ((try simp (disch := omega) only [ab_tI, ab_c0, wd_ix12, wd_ix8, wd_ix10, wd_up_self, wd_up_eq, wd_up_ne, Int.toNat_natCast, Int.toNat_of_nonneg, not_true_eq_false, not_false_eq_true, Option.some.injEq, wd_l103, wd_l104, wd_l105, wd_l106, wd_l107, wd_l108, wd_l109, wd_l110, wd_l111, wd_l112, wd_l113, wd_l114, wd_l115, wd_l116, wd_l117, wd_l118, wd_l119, wd_l120, wd_l121, wd_l122, wd_l123, wd_l124]); omega)))); (intro v9 hv9; (try simp (disch := omega) only [ab_tI, ab_c0, wd_ix12, wd_ix8, wd_ix10, wd_up_self, wd_up_eq, wd_up_ne, Int.toNat_natCast, Int.toNat_of_nonneg, not_true_eq_false, not_false_eq_true, Option.some.injEq] at hv9); subst hv9))
    | (intro v9 hv9; (try simp (disch := omega) only [ab_tI, ab_c0, wd_ix12, wd_ix8, wd_ix10, wd_up_self, wd_up_eq, wd_up_ne, Int.toNat_natCast, Int.toNat_of_nonneg, not_true_eq_false, not_false_eq_true, Option.some.injEq] at hv9); subst hv9)
    | (apply i_get; (focus (exact rfl)); (focus (exact rfl)))
    | (refine hX9 _ _ _ _ (wd_rnC rfl ?_); clear hC9 hX9 X9 C9; intro C9 X9 hC9 hX9)
    | (apply w_ialM; (focus (exact rfl)); (focus (exact (by first | exact ⟨by decide, by decide⟩ | ((try simp (disch := omega) only [ab_tI, ab_c0, wd_ix12, wd_ix8, wd_ix10, wd_up_self, wd_up_eq, wd_up_ne, Int.toNat_natCast, Int.toNat_of_nonneg, not_true_eq_false, not_false_eq_true, Option.some.injEq, wd_l103, wd_l104, wd_l105, wd_l106, wd_l107, wd_l108, wd_l109, wd_l110, wd_l111, wd_l112, wd_l113, wd_l114, wd_l115, wd_l116, wd_l117, wd_l118, wd_l119, wd_l120, wd_l121, wd_l122, wd_l123, wd_l124]); omega)))); (intro v9 hv9; (try simp (disch := omega) only [ab_tI, ab_c0, wd_ix12, wd_ix8, wd_ix10, wd_up_self, wd_up_eq, wd_up_ne, Int.toNat_natCast, Int.toNat_of_nonneg, not_true_eq_false, not_false_eq_true, Option.some.injEq] at hv9); subst hv9))
    | (apply w_putM; (focus (exact rfl)); (focus (first | exact trivial | exact Or.inl rfl | exact Or.inr rfl)); (focus (exact rfl)))
    | (apply w_iasM; (focus (exact rfl)); (focus (exact (by first | exact ⟨by decide, by decide⟩ | ((try simp (disch := omega) only [ab_tI, ab_c0, wd_ix12, wd_ix8, wd_ix10, wd_up_self, wd_up_eq, wd_up_ne, Int.toNat_natCast, Int.toNat_of_nonneg, not_true_eq_false, not_false_eq_true, Option.some.injEq, wd_l103, wd_l104, wd_l105, wd_l106, wd_l107, wd_l108, wd_l109, wd_l110, wd_l111, wd_l112, wd_l113, wd_l114, wd_l115, wd_l116, wd_l117, wd_l118, wd_l119, wd_l120, wd_l121, wd_l122, wd_l123, wd_l124]); omega)))); (intro v9 hv9; (try simp (disch := omega) only [ab_tI, ab_c0, wd_ix12, wd_ix8, wd_ix10, wd_up_self, wd_up_eq, wd_up_ne, Int.toNat_natCast, Int.toNat_of_nonneg, not_true_eq_false, not_false_eq_true, Option.some.injEq] at hv9); subst hv9))
    | (refine i_brF (by decide) ?_)
    | (refine i_brT (by decide) ?_)
    | (refine ⟨fun hc => ?_, fun hc => ?_⟩ <;> (try simp (disch := omega) only [ab_tI, ab_c0, wd_ix12, wd_ix8, wd_ix10, wd_up_self, wd_up_eq, wd_up_ne, Int.toNat_natCast, Int.toNat_of_nonneg, not_true_eq_false, not_false_eq_true, Option.some.injEq] at hc) <;> first | (exfalso; omega) | skip)
    | (apply i_cv; (focus (exact rfl)))
    | (apply i_len; (focus (exact rfl)))
    | (apply w_putI; (focus (exact rfl)); (focus (exact rfl)); (focus (exact rfl)); (focus (first | exact trivial | exact Or.inl rfl | exact Or.inr rfl)); (focus (exact rfl)))
    | (apply w_putP; (focus (exact rfl)); (focus (exact rfl)); (focus (exact rfl)); (focus (exact trivial)); (focus (exact rfl)))
    | (apply i_ialN; (focus (exact rfl)); (focus (first | exact Or.inl rfl | exact Or.inr rfl)); (focus (exact (by first | exact ⟨by decide, by decide⟩ | ((try simp (disch := omega) only [ab_tI, ab_c0, wd_ix12, wd_ix8, wd_ix10, wd_up_self, wd_up_eq, wd_up_ne, Int.toNat_natCast, Int.toNat_of_nonneg, not_true_eq_false, not_false_eq_true, Option.some.injEq, wd_l103, wd_l104, wd_l105, wd_l106, wd_l107, wd_l108, wd_l109, wd_l110, wd_l111, wd_l112, wd_l113, wd_l114, wd_l115, wd_l116, wd_l117, wd_l118, wd_l119, wd_l120, wd_l121, wd_l122, wd_l123, wd_l124]); omega)))); (intro v9 hv9; (try simp (disch := omega) only [ab_tI, ab_c0, wd_ix12, wd_ix8, wd_ix10, wd_up_self, wd_up_eq, wd_up_ne, Int.toNat_natCast, Int.toNat_of_nonneg, not_true_eq_false, not_false_eq_true, Option.some.injEq] at hv9); subst hv9))
    | (apply i_aalN; (focus (exact rfl)); (focus (exact (by first | exact ⟨by decide, by decide⟩ | ((try simp (disch := omega) only [ab_tI, ab_c0, wd_ix12, wd_ix8, wd_ix10, wd_up_self, wd_up_eq, wd_up_ne, Int.toNat_natCast, Int.toNat_of_nonneg, not_true_eq_false, not_false_eq_true, Option.some.injEq, wd_l103, wd_l104, wd_l105, wd_l106, wd_l107, wd_l108, wd_l109, wd_l110, wd_l111, wd_l112, wd_l113, wd_l114, wd_l115, wd_l116, wd_l117, wd_l118, wd_l119, wd_l120, wd_l121, wd_l122, wd_l123, wd_l124]); omega)))); (intro v9 hv9; (try simp (disch := omega) only [ab_tI, ab_c0, wd_ix12, wd_ix8, wd_ix10, wd_up_self, wd_up_eq, wd_up_ne, Int.toNat_natCast, Int.toNat_of_nonneg, not_true_eq_false, not_false_eq_true, Option.some.injEq] at hv9); subst hv9))
    | (apply w_iasI; (focus (exact rfl)); (focus (exact rfl)); (focus (exact (by first | exact ⟨by decide, by decide⟩ | ((try simp (disch := omega) only [ab_tI, ab_c0, wd_ix12, wd_ix8, wd_ix10, wd_up_self, wd_up_eq, wd_up_ne, Int.toNat_natCast, Int.toNat_of_nonneg, not_true_eq_false, not_false_eq_true, Option.some.injEq, wd_l103, wd_l104, wd_l105, wd_l106, wd_l107, wd_l108, wd_l109, wd_l110, wd_l111, wd_l112, wd_l113, wd_l114, wd_l115, wd_l116, wd_l117, wd_l118, wd_l119, wd_l120, wd_l121, wd_l122, wd_l123, wd_l124]); omega)))); (focus (intro _; exact rfl)); (intro v9 hv9; (try simp (disch := omega) only [ab_tI, ab_c0, wd_ix12, wd_ix8, wd_ix10, wd_up_self, wd_up_eq, wd_up_ne, Int.toNat_natCast, Int.toNat_of_nonneg, not_true_eq_false, not_false_eq_true, Option.some.injEq] at hv9); subst hv9))
    | (apply w_balM; (focus (exact (by first | exact ⟨by decide, by decide⟩ | ((try simp (disch := omega) only [ab_tI, ab_c0, wd_ix12, wd_ix8, wd_ix10, wd_up_self, wd_up_eq, wd_up_ne, Int.toNat_natCast, Int.toNat_of_nonneg, not_true_eq_false, not_false_eq_true, Option.some.injEq, wd_l103, wd_l104, wd_l105, wd_l106, wd_l107, wd_l108, wd_l109, wd_l110, wd_l111, wd_l112, wd_l113, wd_l114, wd_l115, wd_l116, wd_l117, wd_l118, wd_l119, wd_l120, wd_l121, wd_l122, wd_l123, wd_l124]); omega)))); (intro v9 hv9; (try simp (disch := omega) only [ab_tI, ab_c0, wd_ix12, wd_ix8, wd_ix10, wd_up_self, wd_up_eq, wd_up_ne, Int.toNat_natCast, Int.toNat_of_nonneg, not_true_eq_false, not_false_eq_true, Option.some.injEq] at hv9); subst hv9))
    | (apply w_basM; (focus (exact (by first | exact ⟨by decide, by decide⟩ | ((try simp (disch := omega) only [ab_tI, ab_c0, wd_ix12, wd_ix8, wd_ix10, wd_up_self, wd_up_eq, wd_up_ne, Int.toNat_natCast, Int.toNat_of_nonneg, not_true_eq_false, not_false_eq_true, Option.some.injEq, wd_l103, wd_l104, wd_l105, wd_l106, wd_l107, wd_l108, wd_l109, wd_l110, wd_l111, wd_l112, wd_l113, wd_l114, wd_l115, wd_l116, wd_l117, wd_l118, wd_l119, wd_l120, wd_l121, wd_l122, wd_l123, wd_l124]); omega)))); (focus (first | exact Or.inl rfl | exact Or.inr rfl)); (intro v9 hv9; (try simp (disch := omega) only [ab_tI, ab_c0, wd_ix12, wd_ix8, wd_ix10, wd_up_self, wd_up_eq, wd_up_ne, Int.toNat_natCast, Int.toNat_of_nonneg, not_true_eq_false, not_false_eq_true, Option.some.injEq] at hv9); subst hv9))
    | (refine And.intro trivial ?_)
    | (refine And.intro (Or.inl rfl) ?_)
    | (refine And.intro (Or.inr rfl) ?_)
    | (refine And.intro (by ((try simp (disch := omega) only [ab_tI, ab_c0, wd_ix12, wd_ix8, wd_ix10, wd_up_self, wd_up_eq, wd_up_ne, Int.toNat_natCast, Int.toNat_of_nonneg, not_true_eq_false, not_false_eq_true, Option.some.injEq]); omega)) ?_)
    | fail)
  exact hQ
set_option maxHeartbeats 4000000 in
set_option maxRecDepth 100000 in
theorem y_part (hd : 1 ≤ d) (hW : c_W T g k) {a j : Nat} (ha : T a) (hj : j < c_sz g a) (hQ : Q (some (wd_v (c_pt g a j))) (wd I P M g, k, z)) : ab_CT d 88 [wd_v a, .inl (ab_ii (j : Int))] (wd I P M g, k, z) Q := by
  obtain ⟨ka, pa, nk, np, fk, fp, hc, ⟨hnk, hnp⟩, hsz, hfp, hfk, hfk0, -, -, -⟩ := c_W_get hW ha
  obtain ⟨h1, h2, h3⟩ := hc I P M z
  rw [hsz] at hj
  have hpj := (hfp j hj).1
  refine wd_inC rfl hd rfl ?_
  intro C9 X9 hC9 hX9
  (have chk9 := @hpj; clear chk9); repeat' ((conv => whnf); first
    | (apply i_getN; (focus (first | exact h1 | exact h2 | exact h3)); (focus (exact rfl)); (intro v9 hv9; (try simp (disch := omega) only [ab_tI, ab_c0, wd_ix12, wd_ix8, wd_ix10, wd_up_self, wd_up_eq, wd_up_ne, Int.toNat_natCast, Int.toNat_of_nonneg, not_true_eq_false, not_false_eq_true, Option.some.injEq, hpj] at hv9); subst hv9))
    | (apply i_cv; (focus (first | exact h1 | exact h2 | exact h3)))
    | (apply i_len; (focus (first | exact congrArg ab_len (h1) | exact congrArg ab_len (h2) | exact congrArg ab_len (h3))))
    | (apply i_ialN; (focus (first | exact h1 | exact h2 | exact h3)); (focus (first | exact Or.inl rfl | exact Or.inr rfl)); (focus (exact (by first | exact ⟨by decide, by decide⟩ | ((try simp (disch := omega) only [ab_tI, ab_c0, wd_ix12, wd_ix8, wd_ix10, wd_up_self, wd_up_eq, wd_up_ne, Int.toNat_natCast, Int.toNat_of_nonneg, not_true_eq_false, not_false_eq_true, Option.some.injEq, hpj, wd_l103, wd_l104, wd_l105, wd_l106, wd_l107, wd_l108, wd_l109, wd_l110, wd_l111, wd_l112, wd_l113, wd_l114, wd_l115, wd_l116, wd_l117, wd_l118, wd_l119, wd_l120, wd_l121, wd_l122, wd_l123, wd_l124]); omega)))); (intro v9 hv9; (try simp (disch := omega) only [ab_tI, ab_c0, wd_ix12, wd_ix8, wd_ix10, wd_up_self, wd_up_eq, wd_up_ne, Int.toNat_natCast, Int.toNat_of_nonneg, not_true_eq_false, not_false_eq_true, Option.some.injEq, hpj] at hv9); subst hv9))
    | (apply i_aalN; (focus (first | exact h1 | exact h2 | exact h3)); (focus (exact (by first | exact ⟨by decide, by decide⟩ | ((try simp (disch := omega) only [ab_tI, ab_c0, wd_ix12, wd_ix8, wd_ix10, wd_up_self, wd_up_eq, wd_up_ne, Int.toNat_natCast, Int.toNat_of_nonneg, not_true_eq_false, not_false_eq_true, Option.some.injEq, hpj, wd_l103, wd_l104, wd_l105, wd_l106, wd_l107, wd_l108, wd_l109, wd_l110, wd_l111, wd_l112, wd_l113, wd_l114, wd_l115, wd_l116, wd_l117, wd_l118, wd_l119, wd_l120, wd_l121, wd_l122, wd_l123, wd_l124]); omega)))); (intro v9 hv9; (try simp (disch := omega) only [ab_tI, ab_c0, wd_ix12, wd_ix8, wd_ix10, wd_up_self, wd_up_eq, wd_up_ne, Int.toNat_natCast, Int.toNat_of_nonneg, not_true_eq_false, not_false_eq_true, Option.some.injEq, hpj] at hv9); subst hv9))
    | (intro v9 hv9; (try simp (disch := omega) only [ab_tI, ab_c0, wd_ix12, wd_ix8, wd_ix10, wd_up_self, wd_up_eq, wd_up_ne, Int.toNat_natCast, Int.toNat_of_nonneg, not_true_eq_false, not_false_eq_true, Option.some.injEq, hpj] at hv9); subst hv9)
    | (apply i_get; (focus (exact rfl)); (focus (exact rfl)))
    | (refine hX9 _ _ _ _ (wd_rnC rfl ?_); clear hC9 hX9 X9 C9; intro C9 X9 hC9 hX9)
    | (apply w_ialM; (focus (exact rfl)); (focus (exact (by first | exact ⟨by decide, by decide⟩ | ((try simp (disch := omega) only [ab_tI, ab_c0, wd_ix12, wd_ix8, wd_ix10, wd_up_self, wd_up_eq, wd_up_ne, Int.toNat_natCast, Int.toNat_of_nonneg, not_true_eq_false, not_false_eq_true, Option.some.injEq, hpj, wd_l103, wd_l104, wd_l105, wd_l106, wd_l107, wd_l108, wd_l109, wd_l110, wd_l111, wd_l112, wd_l113, wd_l114, wd_l115, wd_l116, wd_l117, wd_l118, wd_l119, wd_l120, wd_l121, wd_l122, wd_l123, wd_l124]); omega)))); (intro v9 hv9; (try simp (disch := omega) only [ab_tI, ab_c0, wd_ix12, wd_ix8, wd_ix10, wd_up_self, wd_up_eq, wd_up_ne, Int.toNat_natCast, Int.toNat_of_nonneg, not_true_eq_false, not_false_eq_true, Option.some.injEq, hpj] at hv9); subst hv9))
    | (apply w_putM; (focus (exact rfl)); (focus (first | exact trivial | exact Or.inl rfl | exact Or.inr rfl)); (focus (exact rfl)))
    | (apply w_iasM; (focus (exact rfl)); (focus (exact (by first | exact ⟨by decide, by decide⟩ | ((try simp (disch := omega) only [ab_tI, ab_c0, wd_ix12, wd_ix8, wd_ix10, wd_up_self, wd_up_eq, wd_up_ne, Int.toNat_natCast, Int.toNat_of_nonneg, not_true_eq_false, not_false_eq_true, Option.some.injEq, hpj, wd_l103, wd_l104, wd_l105, wd_l106, wd_l107, wd_l108, wd_l109, wd_l110, wd_l111, wd_l112, wd_l113, wd_l114, wd_l115, wd_l116, wd_l117, wd_l118, wd_l119, wd_l120, wd_l121, wd_l122, wd_l123, wd_l124]); omega)))); (intro v9 hv9; (try simp (disch := omega) only [ab_tI, ab_c0, wd_ix12, wd_ix8, wd_ix10, wd_up_self, wd_up_eq, wd_up_ne, Int.toNat_natCast, Int.toNat_of_nonneg, not_true_eq_false, not_false_eq_true, Option.some.injEq, hpj] at hv9); subst hv9))
    | (refine i_brF (by decide) ?_)
    | (refine i_brT (by decide) ?_)
    | (refine ⟨fun hc => ?_, fun hc => ?_⟩ <;> (try simp (disch := omega) only [ab_tI, ab_c0, wd_ix12, wd_ix8, wd_ix10, wd_up_self, wd_up_eq, wd_up_ne, Int.toNat_natCast, Int.toNat_of_nonneg, not_true_eq_false, not_false_eq_true, Option.some.injEq, hpj] at hc) <;> first | (exfalso; omega) | skip)
    | (apply i_cv; (focus (exact rfl)))
    | (apply i_len; (focus (exact rfl)))
    | (apply w_putI; (focus (exact rfl)); (focus (exact rfl)); (focus (exact rfl)); (focus (first | exact trivial | exact Or.inl rfl | exact Or.inr rfl)); (focus (exact rfl)))
    | (apply w_putP; (focus (exact rfl)); (focus (exact rfl)); (focus (exact rfl)); (focus (exact trivial)); (focus (exact rfl)))
    | (apply i_ialN; (focus (exact rfl)); (focus (first | exact Or.inl rfl | exact Or.inr rfl)); (focus (exact (by first | exact ⟨by decide, by decide⟩ | ((try simp (disch := omega) only [ab_tI, ab_c0, wd_ix12, wd_ix8, wd_ix10, wd_up_self, wd_up_eq, wd_up_ne, Int.toNat_natCast, Int.toNat_of_nonneg, not_true_eq_false, not_false_eq_true, Option.some.injEq, hpj, wd_l103, wd_l104, wd_l105, wd_l106, wd_l107, wd_l108, wd_l109, wd_l110, wd_l111, wd_l112, wd_l113, wd_l114, wd_l115, wd_l116, wd_l117, wd_l118, wd_l119, wd_l120, wd_l121, wd_l122, wd_l123, wd_l124]); omega)))); (intro v9 hv9; (try simp (disch := omega) only [ab_tI, ab_c0, wd_ix12, wd_ix8, wd_ix10, wd_up_self, wd_up_eq, wd_up_ne, Int.toNat_natCast, Int.toNat_of_nonneg, not_true_eq_false, not_false_eq_true, Option.some.injEq, hpj] at hv9); subst hv9))
    | (apply i_aalN; (focus (exact rfl)); (focus (exact (by first | exact ⟨by decide, by decide⟩ | ((try simp (disch := omega) only [ab_tI, ab_c0, wd_ix12, wd_ix8, wd_ix10, wd_up_self, wd_up_eq, wd_up_ne, Int.toNat_natCast, Int.toNat_of_nonneg, not_true_eq_false, not_false_eq_true, Option.some.injEq, hpj, wd_l103, wd_l104, wd_l105, wd_l106, wd_l107, wd_l108, wd_l109, wd_l110, wd_l111, wd_l112, wd_l113, wd_l114, wd_l115, wd_l116, wd_l117, wd_l118, wd_l119, wd_l120, wd_l121, wd_l122, wd_l123, wd_l124]); omega)))); (intro v9 hv9; (try simp (disch := omega) only [ab_tI, ab_c0, wd_ix12, wd_ix8, wd_ix10, wd_up_self, wd_up_eq, wd_up_ne, Int.toNat_natCast, Int.toNat_of_nonneg, not_true_eq_false, not_false_eq_true, Option.some.injEq, hpj] at hv9); subst hv9))
    | (apply w_iasI; (focus (exact rfl)); (focus (exact rfl)); (focus (exact (by first | exact ⟨by decide, by decide⟩ | ((try simp (disch := omega) only [ab_tI, ab_c0, wd_ix12, wd_ix8, wd_ix10, wd_up_self, wd_up_eq, wd_up_ne, Int.toNat_natCast, Int.toNat_of_nonneg, not_true_eq_false, not_false_eq_true, Option.some.injEq, hpj, wd_l103, wd_l104, wd_l105, wd_l106, wd_l107, wd_l108, wd_l109, wd_l110, wd_l111, wd_l112, wd_l113, wd_l114, wd_l115, wd_l116, wd_l117, wd_l118, wd_l119, wd_l120, wd_l121, wd_l122, wd_l123, wd_l124]); omega)))); (focus (intro _; exact rfl)); (intro v9 hv9; (try simp (disch := omega) only [ab_tI, ab_c0, wd_ix12, wd_ix8, wd_ix10, wd_up_self, wd_up_eq, wd_up_ne, Int.toNat_natCast, Int.toNat_of_nonneg, not_true_eq_false, not_false_eq_true, Option.some.injEq, hpj] at hv9); subst hv9))
    | (apply w_balM; (focus (exact (by first | exact ⟨by decide, by decide⟩ | ((try simp (disch := omega) only [ab_tI, ab_c0, wd_ix12, wd_ix8, wd_ix10, wd_up_self, wd_up_eq, wd_up_ne, Int.toNat_natCast, Int.toNat_of_nonneg, not_true_eq_false, not_false_eq_true, Option.some.injEq, hpj, wd_l103, wd_l104, wd_l105, wd_l106, wd_l107, wd_l108, wd_l109, wd_l110, wd_l111, wd_l112, wd_l113, wd_l114, wd_l115, wd_l116, wd_l117, wd_l118, wd_l119, wd_l120, wd_l121, wd_l122, wd_l123, wd_l124]); omega)))); (intro v9 hv9; (try simp (disch := omega) only [ab_tI, ab_c0, wd_ix12, wd_ix8, wd_ix10, wd_up_self, wd_up_eq, wd_up_ne, Int.toNat_natCast, Int.toNat_of_nonneg, not_true_eq_false, not_false_eq_true, Option.some.injEq, hpj] at hv9); subst hv9))
    | (apply w_basM; (focus (exact (by first | exact ⟨by decide, by decide⟩ | ((try simp (disch := omega) only [ab_tI, ab_c0, wd_ix12, wd_ix8, wd_ix10, wd_up_self, wd_up_eq, wd_up_ne, Int.toNat_natCast, Int.toNat_of_nonneg, not_true_eq_false, not_false_eq_true, Option.some.injEq, hpj, wd_l103, wd_l104, wd_l105, wd_l106, wd_l107, wd_l108, wd_l109, wd_l110, wd_l111, wd_l112, wd_l113, wd_l114, wd_l115, wd_l116, wd_l117, wd_l118, wd_l119, wd_l120, wd_l121, wd_l122, wd_l123, wd_l124]); omega)))); (focus (first | exact Or.inl rfl | exact Or.inr rfl)); (intro v9 hv9; (try simp (disch := omega) only [ab_tI, ab_c0, wd_ix12, wd_ix8, wd_ix10, wd_up_self, wd_up_eq, wd_up_ne, Int.toNat_natCast, Int.toNat_of_nonneg, not_true_eq_false, not_false_eq_true, Option.some.injEq, hpj] at hv9); subst hv9))
    | (refine And.intro trivial ?_)
    | (refine And.intro (Or.inl rfl) ?_)
    | (refine And.intro (Or.inr rfl) ?_)
    | (refine And.intro (by ((try simp (disch := omega) only [ab_tI, ab_c0, wd_ix12, wd_ix8, wd_ix10, wd_up_self, wd_up_eq, wd_up_ne, Int.toNat_natCast, Int.toNat_of_nonneg, not_true_eq_false, not_false_eq_true, Option.some.injEq, hpj]); omega)) ?_)
    | fail)
  all_goals first | exact hQ | (exfalso; omega)
set_option maxHeartbeats 4000000 in
set_option maxRecDepth 100000 in
theorem y_letters (hd : 1 ≤ d) (hW : c_W T g k) {a j : Nat} (ha : T a) (hj : j ≤ 100) (hQ : Q (some (.inl (c_ky g a j))) (wd I P M g, k, z)) : ab_CT d 90 [wd_v a, .inl (ab_ii (j : Int))] (wd I P M g, k, z) Q := by
  obtain ⟨ka, pa, nk, np, fk, fp, hc, ⟨hnk, hnp⟩, hsz, hfp, hfk, hfk0, -, -, -⟩ := c_W_get hW ha
  obtain ⟨h1, h2, h3⟩ := hc I P M z
  by_cases hjk : j < nk
  · have hpj := hfk j hjk
    refine wd_inC rfl hd rfl ?_
    intro C9 X9 hC9 hX9
    (have chk9 := @hpj; clear chk9); repeat' ((conv => whnf); first
    | (apply i_getN; (focus (first | exact h1 | exact h2 | exact h3)); (focus (exact rfl)); (intro v9 hv9; (try simp (disch := omega) only [ab_tI, ab_c0, wd_ix12, wd_ix8, wd_ix10, wd_up_self, wd_up_eq, wd_up_ne, Int.toNat_natCast, Int.toNat_of_nonneg, not_true_eq_false, not_false_eq_true, Option.some.injEq, hpj] at hv9); subst hv9))
    | (apply i_cv; (focus (first | exact h1 | exact h2 | exact h3)))
    | (apply i_len; (focus (first | exact congrArg ab_len (h1) | exact congrArg ab_len (h2) | exact congrArg ab_len (h3))))
    | (apply i_ialN; (focus (first | exact h1 | exact h2 | exact h3)); (focus (first | exact Or.inl rfl | exact Or.inr rfl)); (focus (exact (by first | exact ⟨by decide, by decide⟩ | ((try simp (disch := omega) only [ab_tI, ab_c0, wd_ix12, wd_ix8, wd_ix10, wd_up_self, wd_up_eq, wd_up_ne, Int.toNat_natCast, Int.toNat_of_nonneg, not_true_eq_false, not_false_eq_true, Option.some.injEq, hpj, wd_l103, wd_l104, wd_l105, wd_l106, wd_l107, wd_l108, wd_l109, wd_l110, wd_l111, wd_l112, wd_l113, wd_l114, wd_l115, wd_l116, wd_l117, wd_l118, wd_l119, wd_l120, wd_l121, wd_l122, wd_l123, wd_l124]); omega)))); (intro v9 hv9; (try simp (disch := omega) only [ab_tI, ab_c0, wd_ix12, wd_ix8, wd_ix10, wd_up_self, wd_up_eq, wd_up_ne, Int.toNat_natCast, Int.toNat_of_nonneg, not_true_eq_false, not_false_eq_true, Option.some.injEq, hpj] at hv9); subst hv9))
    | (apply i_aalN; (focus (first | exact h1 | exact h2 | exact h3)); (focus (exact (by first | exact ⟨by decide, by decide⟩ | ((try simp (disch := omega) only [ab_tI, ab_c0, wd_ix12, wd_ix8, wd_ix10, wd_up_self, wd_up_eq, wd_up_ne, Int.toNat_natCast, Int.toNat_of_nonneg, not_true_eq_false, not_false_eq_true, Option.some.injEq, hpj, wd_l103, wd_l104, wd_l105, wd_l106, wd_l107, wd_l108, wd_l109, wd_l110, wd_l111, wd_l112, wd_l113, wd_l114, wd_l115, wd_l116, wd_l117, wd_l118, wd_l119, wd_l120, wd_l121, wd_l122, wd_l123, wd_l124]); omega)))); (intro v9 hv9; (try simp (disch := omega) only [ab_tI, ab_c0, wd_ix12, wd_ix8, wd_ix10, wd_up_self, wd_up_eq, wd_up_ne, Int.toNat_natCast, Int.toNat_of_nonneg, not_true_eq_false, not_false_eq_true, Option.some.injEq, hpj] at hv9); subst hv9))
    | (intro v9 hv9; (try simp (disch := omega) only [ab_tI, ab_c0, wd_ix12, wd_ix8, wd_ix10, wd_up_self, wd_up_eq, wd_up_ne, Int.toNat_natCast, Int.toNat_of_nonneg, not_true_eq_false, not_false_eq_true, Option.some.injEq, hpj] at hv9); subst hv9)
    | (apply i_get; (focus (exact rfl)); (focus (exact rfl)))
    | (refine hX9 _ _ _ _ (wd_rnC rfl ?_); clear hC9 hX9 X9 C9; intro C9 X9 hC9 hX9)
    | (apply w_ialM; (focus (exact rfl)); (focus (exact (by first | exact ⟨by decide, by decide⟩ | ((try simp (disch := omega) only [ab_tI, ab_c0, wd_ix12, wd_ix8, wd_ix10, wd_up_self, wd_up_eq, wd_up_ne, Int.toNat_natCast, Int.toNat_of_nonneg, not_true_eq_false, not_false_eq_true, Option.some.injEq, hpj, wd_l103, wd_l104, wd_l105, wd_l106, wd_l107, wd_l108, wd_l109, wd_l110, wd_l111, wd_l112, wd_l113, wd_l114, wd_l115, wd_l116, wd_l117, wd_l118, wd_l119, wd_l120, wd_l121, wd_l122, wd_l123, wd_l124]); omega)))); (intro v9 hv9; (try simp (disch := omega) only [ab_tI, ab_c0, wd_ix12, wd_ix8, wd_ix10, wd_up_self, wd_up_eq, wd_up_ne, Int.toNat_natCast, Int.toNat_of_nonneg, not_true_eq_false, not_false_eq_true, Option.some.injEq, hpj] at hv9); subst hv9))
    | (apply w_putM; (focus (exact rfl)); (focus (first | exact trivial | exact Or.inl rfl | exact Or.inr rfl)); (focus (exact rfl)))
    | (apply w_iasM; (focus (exact rfl)); (focus (exact (by first | exact ⟨by decide, by decide⟩ | ((try simp (disch := omega) only [ab_tI, ab_c0, wd_ix12, wd_ix8, wd_ix10, wd_up_self, wd_up_eq, wd_up_ne, Int.toNat_natCast, Int.toNat_of_nonneg, not_true_eq_false, not_false_eq_true, Option.some.injEq, hpj, wd_l103, wd_l104, wd_l105, wd_l106, wd_l107, wd_l108, wd_l109, wd_l110, wd_l111, wd_l112, wd_l113, wd_l114, wd_l115, wd_l116, wd_l117, wd_l118, wd_l119, wd_l120, wd_l121, wd_l122, wd_l123, wd_l124]); omega)))); (intro v9 hv9; (try simp (disch := omega) only [ab_tI, ab_c0, wd_ix12, wd_ix8, wd_ix10, wd_up_self, wd_up_eq, wd_up_ne, Int.toNat_natCast, Int.toNat_of_nonneg, not_true_eq_false, not_false_eq_true, Option.some.injEq, hpj] at hv9); subst hv9))
    | (refine i_brF (by decide) ?_)
    | (refine i_brT (by decide) ?_)
    | (refine ⟨fun hc => ?_, fun hc => ?_⟩ <;> (try simp (disch := omega) only [ab_tI, ab_c0, wd_ix12, wd_ix8, wd_ix10, wd_up_self, wd_up_eq, wd_up_ne, Int.toNat_natCast, Int.toNat_of_nonneg, not_true_eq_false, not_false_eq_true, Option.some.injEq, hpj] at hc) <;> first | (exfalso; omega) | skip)
    | (apply i_cv; (focus (exact rfl)))
    | (apply i_len; (focus (exact rfl)))
    | (apply w_putI; (focus (exact rfl)); (focus (exact rfl)); (focus (exact rfl)); (focus (first | exact trivial | exact Or.inl rfl | exact Or.inr rfl)); (focus (exact rfl)))
    | (apply w_putP; (focus (exact rfl)); (focus (exact rfl)); (focus (exact rfl)); (focus (exact trivial)); (focus (exact rfl)))
    | (apply i_ialN; (focus (exact rfl)); (focus (first | exact Or.inl rfl | exact Or.inr rfl)); (focus (exact (by first | exact ⟨by decide, by decide⟩ | ((try simp (disch := omega) only [ab_tI, ab_c0, wd_ix12, wd_ix8, wd_ix10, wd_up_self, wd_up_eq, wd_up_ne, Int.toNat_natCast, Int.toNat_of_nonneg, not_true_eq_false, not_false_eq_true, Option.some.injEq, hpj, wd_l103, wd_l104, wd_l105, wd_l106, wd_l107, wd_l108, wd_l109, wd_l110, wd_l111, wd_l112, wd_l113, wd_l114, wd_l115, wd_l116, wd_l117, wd_l118, wd_l119, wd_l120, wd_l121, wd_l122, wd_l123, wd_l124]); omega)))); (intro v9 hv9; (try simp (disch := omega) only [ab_tI, ab_c0, wd_ix12, wd_ix8, wd_ix10, wd_up_self, wd_up_eq, wd_up_ne, Int.toNat_natCast, Int.toNat_of_nonneg, not_true_eq_false, not_false_eq_true, Option.some.injEq, hpj] at hv9); subst hv9))
    | (apply i_aalN; (focus (exact rfl)); (focus (exact (by first | exact ⟨by decide, by decide⟩ | ((try simp (disch := omega) only [ab_tI, ab_c0, wd_ix12, wd_ix8, wd_ix10, wd_up_self, wd_up_eq, wd_up_ne, Int.toNat_natCast, Int.toNat_of_nonneg, not_true_eq_false, not_false_eq_true, Option.some.injEq, hpj, wd_l103, wd_l104, wd_l105, wd_l106, wd_l107, wd_l108, wd_l109, wd_l110, wd_l111, wd_l112, wd_l113, wd_l114, wd_l115, wd_l116, wd_l117, wd_l118, wd_l119, wd_l120, wd_l121, wd_l122, wd_l123, wd_l124]); omega)))); (intro v9 hv9; (try simp (disch := omega) only [ab_tI, ab_c0, wd_ix12, wd_ix8, wd_ix10, wd_up_self, wd_up_eq, wd_up_ne, Int.toNat_natCast, Int.toNat_of_nonneg, not_true_eq_false, not_false_eq_true, Option.some.injEq, hpj] at hv9); subst hv9))
    | (apply w_iasI; (focus (exact rfl)); (focus (exact rfl)); (focus (exact (by first | exact ⟨by decide, by decide⟩ | ((try simp (disch := omega) only [ab_tI, ab_c0, wd_ix12, wd_ix8, wd_ix10, wd_up_self, wd_up_eq, wd_up_ne, Int.toNat_natCast, Int.toNat_of_nonneg, not_true_eq_false, not_false_eq_true, Option.some.injEq, hpj, wd_l103, wd_l104, wd_l105, wd_l106, wd_l107, wd_l108, wd_l109, wd_l110, wd_l111, wd_l112, wd_l113, wd_l114, wd_l115, wd_l116, wd_l117, wd_l118, wd_l119, wd_l120, wd_l121, wd_l122, wd_l123, wd_l124]); omega)))); (focus (intro _; exact rfl)); (intro v9 hv9; (try simp (disch := omega) only [ab_tI, ab_c0, wd_ix12, wd_ix8, wd_ix10, wd_up_self, wd_up_eq, wd_up_ne, Int.toNat_natCast, Int.toNat_of_nonneg, not_true_eq_false, not_false_eq_true, Option.some.injEq, hpj] at hv9); subst hv9))
    | (apply w_balM; (focus (exact (by first | exact ⟨by decide, by decide⟩ | ((try simp (disch := omega) only [ab_tI, ab_c0, wd_ix12, wd_ix8, wd_ix10, wd_up_self, wd_up_eq, wd_up_ne, Int.toNat_natCast, Int.toNat_of_nonneg, not_true_eq_false, not_false_eq_true, Option.some.injEq, hpj, wd_l103, wd_l104, wd_l105, wd_l106, wd_l107, wd_l108, wd_l109, wd_l110, wd_l111, wd_l112, wd_l113, wd_l114, wd_l115, wd_l116, wd_l117, wd_l118, wd_l119, wd_l120, wd_l121, wd_l122, wd_l123, wd_l124]); omega)))); (intro v9 hv9; (try simp (disch := omega) only [ab_tI, ab_c0, wd_ix12, wd_ix8, wd_ix10, wd_up_self, wd_up_eq, wd_up_ne, Int.toNat_natCast, Int.toNat_of_nonneg, not_true_eq_false, not_false_eq_true, Option.some.injEq, hpj] at hv9); subst hv9))
    | (apply w_basM; (focus (exact (by first | exact ⟨by decide, by decide⟩ | ((try simp (disch := omega) only [ab_tI, ab_c0, wd_ix12, wd_ix8, wd_ix10, wd_up_self, wd_up_eq, wd_up_ne, Int.toNat_natCast, Int.toNat_of_nonneg, not_true_eq_false, not_false_eq_true, Option.some.injEq, hpj, wd_l103, wd_l104, wd_l105, wd_l106, wd_l107, wd_l108, wd_l109, wd_l110, wd_l111, wd_l112, wd_l113, wd_l114, wd_l115, wd_l116, wd_l117, wd_l118, wd_l119, wd_l120, wd_l121, wd_l122, wd_l123, wd_l124]); omega)))); (focus (first | exact Or.inl rfl | exact Or.inr rfl)); (intro v9 hv9; (try simp (disch := omega) only [ab_tI, ab_c0, wd_ix12, wd_ix8, wd_ix10, wd_up_self, wd_up_eq, wd_up_ne, Int.toNat_natCast, Int.toNat_of_nonneg, not_true_eq_false, not_false_eq_true, Option.some.injEq, hpj] at hv9); subst hv9))
    | (refine And.intro trivial ?_)
    | (refine And.intro (Or.inl rfl) ?_)
    | (refine And.intro (Or.inr rfl) ?_)
    | (refine And.intro (by ((try simp (disch := omega) only [ab_tI, ab_c0, wd_ix12, wd_ix8, wd_ix10, wd_up_self, wd_up_eq, wd_up_ne, Int.toNat_natCast, Int.toNat_of_nonneg, not_true_eq_false, not_false_eq_true, Option.some.injEq, hpj]); omega)) ?_)
    | fail)
    all_goals first | exact hQ | (exfalso; omega)
  · rw [hfk0 j (by omega)] at hQ
    refine wd_inC rfl hd rfl ?_
    intro C9 X9 hC9 hX9
    repeat' ((conv => whnf); first
    | (apply i_getN; (focus (first | exact h1 | exact h2 | exact h3)); (focus (exact rfl)); (intro v9 hv9; (try simp (disch := omega) only [ab_tI, ab_c0, wd_ix12, wd_ix8, wd_ix10, wd_up_self, wd_up_eq, wd_up_ne, Int.toNat_natCast, Int.toNat_of_nonneg, not_true_eq_false, not_false_eq_true, Option.some.injEq] at hv9); subst hv9))
    | (apply i_cv; (focus (first | exact h1 | exact h2 | exact h3)))
    | (apply i_len; (focus (first | exact congrArg ab_len (h1) | exact congrArg ab_len (h2) | exact congrArg ab_len (h3))))
    | (apply i_ialN; (focus (first | exact h1 | exact h2 | exact h3)); (focus (first | exact Or.inl rfl | exact Or.inr rfl)); (focus (exact (by first | exact ⟨by decide, by decide⟩ | ((try simp (disch := omega) only [ab_tI, ab_c0, wd_ix12, wd_ix8, wd_ix10, wd_up_self, wd_up_eq, wd_up_ne, Int.toNat_natCast, Int.toNat_of_nonneg, not_true_eq_false, not_false_eq_true, Option.some.injEq, wd_l103, wd_l104, wd_l105, wd_l106, wd_l107, wd_l108, wd_l109, wd_l110, wd_l111, wd_l112, wd_l113, wd_l114, wd_l115, wd_l116, wd_l117, wd_l118, wd_l119, wd_l120, wd_l121, wd_l122, wd_l123, wd_l124]); omega)))); (intro v9 hv9; (try simp (disch := omega) only [ab_tI, ab_c0, wd_ix12, wd_ix8, wd_ix10, wd_up_self, wd_up_eq, wd_up_ne, Int.toNat_natCast, Int.toNat_of_nonneg, not_true_eq_false, not_false_eq_true, Option.some.injEq] at hv9); subst hv9))
    | (apply i_aalN; (focus (first | exact h1 | exact h2 | exact h3)); (focus (exact (by first | exact ⟨by decide, by decide⟩ | ((try simp (disch := omega) only [ab_tI, ab_c0, wd_ix12, wd_ix8, wd_ix10, wd_up_self, wd_up_eq, wd_up_ne, Int.toNat_natCast, Int.toNat_of_nonneg, not_true_eq_false, not_false_eq_true, Option.some.injEq, wd_l103, wd_l104, wd_l105, wd_l106, wd_l107, wd_l108, wd_l109, wd_l110, wd_l111, wd_l112, wd_l113, wd_l114, wd_l115, wd_l116, wd_l117, wd_l118, wd_l119, wd_l120, wd_l121, wd_l122, wd_l123, wd_l124]); omega)))); (intro v9 hv9; (try simp (disch := omega) only [ab_tI, ab_c0, wd_ix12, wd_ix8, wd_ix10, wd_up_self, wd_up_eq, wd_up_ne, Int.toNat_natCast, Int.toNat_of_nonneg, not_true_eq_false, not_false_eq_true, Option.some.injEq] at hv9); subst hv9))
    | (intro v9 hv9; (try simp (disch := omega) only [ab_tI, ab_c0, wd_ix12, wd_ix8, wd_ix10, wd_up_self, wd_up_eq, wd_up_ne, Int.toNat_natCast, Int.toNat_of_nonneg, not_true_eq_false, not_false_eq_true, Option.some.injEq] at hv9); subst hv9)
    | (apply i_get; (focus (exact rfl)); (focus (exact rfl)))
    | (refine hX9 _ _ _ _ (wd_rnC rfl ?_); clear hC9 hX9 X9 C9; intro C9 X9 hC9 hX9)
    | (apply w_ialM; (focus (exact rfl)); (focus (exact (by first | exact ⟨by decide, by decide⟩ | ((try simp (disch := omega) only [ab_tI, ab_c0, wd_ix12, wd_ix8, wd_ix10, wd_up_self, wd_up_eq, wd_up_ne, Int.toNat_natCast, Int.toNat_of_nonneg, not_true_eq_false, not_false_eq_true, Option.some.injEq, wd_l103, wd_l104, wd_l105, wd_l106, wd_l107, wd_l108, wd_l109, wd_l110, wd_l111, wd_l112, wd_l113, wd_l114, wd_l115, wd_l116, wd_l117, wd_l118, wd_l119, wd_l120, wd_l121, wd_l122, wd_l123, wd_l124]); omega)))); (intro v9 hv9; (try simp (disch := omega) only [ab_tI, ab_c0, wd_ix12, wd_ix8, wd_ix10, wd_up_self, wd_up_eq, wd_up_ne, Int.toNat_natCast, Int.toNat_of_nonneg, not_true_eq_false, not_false_eq_true, Option.some.injEq] at hv9); subst hv9))
    | (apply w_putM; (focus (exact rfl)); (focus (first | exact trivial | exact Or.inl rfl | exact Or.inr rfl)); (focus (exact rfl)))
    | (apply w_iasM; (focus (exact rfl)); (focus (exact (by first | exact ⟨by decide, by decide⟩ | ((try simp (disch := omega) only [ab_tI, ab_c0, wd_ix12, wd_ix8, wd_ix10, wd_up_self, wd_up_eq, wd_up_ne, Int.toNat_natCast, Int.toNat_of_nonneg, not_true_eq_false, not_false_eq_true, Option.some.injEq, wd_l103, wd_l104, wd_l105, wd_l106, wd_l107, wd_l108, wd_l109, wd_l110, wd_l111, wd_l112, wd_l113, wd_l114, wd_l115, wd_l116, wd_l117, wd_l118, wd_l119, wd_l120, wd_l121, wd_l122, wd_l123, wd_l124]); omega)))); (intro v9 hv9; (try simp (disch := omega) only [ab_tI, ab_c0, wd_ix12, wd_ix8, wd_ix10, wd_up_self, wd_up_eq, wd_up_ne, Int.toNat_natCast, Int.toNat_of_nonneg, not_true_eq_false, not_false_eq_true, Option.some.injEq] at hv9); subst hv9))
    | (refine i_brF (by decide) ?_)
    | (refine i_brT (by decide) ?_)
    | (refine ⟨fun hc => ?_, fun hc => ?_⟩ <;> (try simp (disch := omega) only [ab_tI, ab_c0, wd_ix12, wd_ix8, wd_ix10, wd_up_self, wd_up_eq, wd_up_ne, Int.toNat_natCast, Int.toNat_of_nonneg, not_true_eq_false, not_false_eq_true, Option.some.injEq] at hc) <;> first | (exfalso; omega) | skip)
    | (apply i_cv; (focus (exact rfl)))
    | (apply i_len; (focus (exact rfl)))
    | (apply w_putI; (focus (exact rfl)); (focus (exact rfl)); (focus (exact rfl)); (focus (first | exact trivial | exact Or.inl rfl | exact Or.inr rfl)); (focus (exact rfl)))
    | (apply w_putP; (focus (exact rfl)); (focus (exact rfl)); (focus (exact rfl)); (focus (exact trivial)); (focus (exact rfl)))
    | (apply i_ialN; (focus (exact rfl)); (focus (first | exact Or.inl rfl | exact Or.inr rfl)); (focus (exact (by first | exact ⟨by decide, by decide⟩ | ((try simp (disch := omega) only [ab_tI, ab_c0, wd_ix12, wd_ix8, wd_ix10, wd_up_self, wd_up_eq, wd_up_ne, Int.toNat_natCast, Int.toNat_of_nonneg, not_true_eq_false, not_false_eq_true, Option.some.injEq, wd_l103, wd_l104, wd_l105, wd_l106, wd_l107, wd_l108, wd_l109, wd_l110, wd_l111, wd_l112, wd_l113, wd_l114, wd_l115, wd_l116, wd_l117, wd_l118, wd_l119, wd_l120, wd_l121, wd_l122, wd_l123, wd_l124]); omega)))); (intro v9 hv9; (try simp (disch := omega) only [ab_tI, ab_c0, wd_ix12, wd_ix8, wd_ix10, wd_up_self, wd_up_eq, wd_up_ne, Int.toNat_natCast, Int.toNat_of_nonneg, not_true_eq_false, not_false_eq_true, Option.some.injEq] at hv9); subst hv9))
    | (apply i_aalN; (focus (exact rfl)); (focus (exact (by first | exact ⟨by decide, by decide⟩ | ((try simp (disch := omega) only [ab_tI, ab_c0, wd_ix12, wd_ix8, wd_ix10, wd_up_self, wd_up_eq, wd_up_ne, Int.toNat_natCast, Int.toNat_of_nonneg, not_true_eq_false, not_false_eq_true, Option.some.injEq, wd_l103, wd_l104, wd_l105, wd_l106, wd_l107, wd_l108, wd_l109, wd_l110, wd_l111, wd_l112, wd_l113, wd_l114, wd_l115, wd_l116, wd_l117, wd_l118, wd_l119, wd_l120, wd_l121, wd_l122, wd_l123, wd_l124]); omega)))); (intro v9 hv9; (try simp (disch := omega) only [ab_tI, ab_c0, wd_ix12, wd_ix8, wd_ix10, wd_up_self, wd_up_eq, wd_up_ne, Int.toNat_natCast, Int.toNat_of_nonneg, not_true_eq_false, not_false_eq_true, Option.some.injEq] at hv9); subst hv9))
    | (apply w_iasI; (focus (exact rfl)); (focus (exact rfl)); (focus (exact (by first | exact ⟨by decide, by decide⟩ | ((try simp (disch := omega) only [ab_tI, ab_c0, wd_ix12, wd_ix8, wd_ix10, wd_up_self, wd_up_eq, wd_up_ne, Int.toNat_natCast, Int.toNat_of_nonneg, not_true_eq_false, not_false_eq_true, Option.some.injEq, wd_l103, wd_l104, wd_l105, wd_l106, wd_l107, wd_l108, wd_l109, wd_l110, wd_l111, wd_l112, wd_l113, wd_l114, wd_l115, wd_l116, wd_l117, wd_l118, wd_l119, wd_l120, wd_l121, wd_l122, wd_l123, wd_l124]); omega)))); (focus (intro _; exact rfl)); (intro v9 hv9; (try simp (disch := omega) only [ab_tI, ab_c0, wd_ix12, wd_ix8, wd_ix10, wd_up_self, wd_up_eq, wd_up_ne, Int.toNat_natCast, Int.toNat_of_nonneg, not_true_eq_false, not_false_eq_true, Option.some.injEq] at hv9); subst hv9))
    | (apply w_balM; (focus (exact (by first | exact ⟨by decide, by decide⟩ | ((try simp (disch := omega) only [ab_tI, ab_c0, wd_ix12, wd_ix8, wd_ix10, wd_up_self, wd_up_eq, wd_up_ne, Int.toNat_natCast, Int.toNat_of_nonneg, not_true_eq_false, not_false_eq_true, Option.some.injEq, wd_l103, wd_l104, wd_l105, wd_l106, wd_l107, wd_l108, wd_l109, wd_l110, wd_l111, wd_l112, wd_l113, wd_l114, wd_l115, wd_l116, wd_l117, wd_l118, wd_l119, wd_l120, wd_l121, wd_l122, wd_l123, wd_l124]); omega)))); (intro v9 hv9; (try simp (disch := omega) only [ab_tI, ab_c0, wd_ix12, wd_ix8, wd_ix10, wd_up_self, wd_up_eq, wd_up_ne, Int.toNat_natCast, Int.toNat_of_nonneg, not_true_eq_false, not_false_eq_true, Option.some.injEq] at hv9); subst hv9))
    | (apply w_basM; (focus (exact (by first | exact ⟨by decide, by decide⟩ | ((try simp (disch := omega) only [ab_tI, ab_c0, wd_ix12, wd_ix8, wd_ix10, wd_up_self, wd_up_eq, wd_up_ne, Int.toNat_natCast, Int.toNat_of_nonneg, not_true_eq_false, not_false_eq_true, Option.some.injEq, wd_l103, wd_l104, wd_l105, wd_l106, wd_l107, wd_l108, wd_l109, wd_l110, wd_l111, wd_l112, wd_l113, wd_l114, wd_l115, wd_l116, wd_l117, wd_l118, wd_l119, wd_l120, wd_l121, wd_l122, wd_l123, wd_l124]); omega)))); (focus (first | exact Or.inl rfl | exact Or.inr rfl)); (intro v9 hv9; (try simp (disch := omega) only [ab_tI, ab_c0, wd_ix12, wd_ix8, wd_ix10, wd_up_self, wd_up_eq, wd_up_ne, Int.toNat_natCast, Int.toNat_of_nonneg, not_true_eq_false, not_false_eq_true, Option.some.injEq] at hv9); subst hv9))
    | (refine And.intro trivial ?_)
    | (refine And.intro (Or.inl rfl) ?_)
    | (refine And.intro (Or.inr rfl) ?_)
    | (refine And.intro (by ((try simp (disch := omega) only [ab_tI, ab_c0, wd_ix12, wd_ix8, wd_ix10, wd_up_self, wd_up_eq, wd_up_ne, Int.toNat_natCast, Int.toNat_of_nonneg, not_true_eq_false, not_false_eq_true, Option.some.injEq]); omega)) ?_)
    | fail)
    all_goals first | exact hQ | (exfalso; omega)
set_option maxHeartbeats 4000000 in
set_option maxRecDepth 100000 in
theorem y_isTooMuch (hd : 1 ≤ d) (hW : c_W T g k) {a : Nat} (ha : T a) (hy : (12 < (c_i g a 3).toInt ∨ 200 < (c_i g a 2).toInt ∨ 12 < c_sz g a) → Q (some (.inl (ab_ii 1))) (wd I P M g, k, z)) (hn : (c_i g a 3).toInt ≤ 12 → (c_i g a 2).toInt ≤ 200 → c_sz g a ≤ 12 → Q (some (.inl (ab_ii 0))) (wd I P M g, k, z)) : ab_CT d 91 [wd_v a] (wd I P M g, k, z) Q := by
  obtain ⟨ka, pa, nk, np, fk, fp, hc, ⟨hnk, hnp⟩, hsz, hfp, hfk, hfk0, -, -, -⟩ := c_W_get hW ha
  obtain ⟨h1, h2, h3⟩ := hc I P M z
  rw [hsz] at hy hn
  refine wd_inC rfl hd rfl ?_
  intro C9 X9 hC9 hX9
  repeat' ((conv => whnf); first
    | (apply i_getN; (focus (first | exact h1 | exact h2 | exact h3)); (focus (exact rfl)); (intro v9 hv9; (try simp (disch := omega) only [ab_tI, ab_c0, wd_ix12, wd_ix8, wd_ix10, wd_up_self, wd_up_eq, wd_up_ne, Int.toNat_natCast, Int.toNat_of_nonneg, not_true_eq_false, not_false_eq_true, Option.some.injEq] at hv9); subst hv9))
    | (apply i_cv; (focus (first | exact h1 | exact h2 | exact h3)))
    | (apply i_len; (focus (first | exact congrArg ab_len (h1) | exact congrArg ab_len (h2) | exact congrArg ab_len (h3))))
    | (apply i_ialN; (focus (first | exact h1 | exact h2 | exact h3)); (focus (first | exact Or.inl rfl | exact Or.inr rfl)); (focus (exact (by first | exact ⟨by decide, by decide⟩ | ((try simp (disch := omega) only [ab_tI, ab_c0, wd_ix12, wd_ix8, wd_ix10, wd_up_self, wd_up_eq, wd_up_ne, Int.toNat_natCast, Int.toNat_of_nonneg, not_true_eq_false, not_false_eq_true, Option.some.injEq, wd_l103, wd_l104, wd_l105, wd_l106, wd_l107, wd_l108, wd_l109, wd_l110, wd_l111, wd_l112, wd_l113, wd_l114, wd_l115, wd_l116, wd_l117, wd_l118, wd_l119, wd_l120, wd_l121, wd_l122, wd_l123, wd_l124]); omega)))); (intro v9 hv9; (try simp (disch := omega) only [ab_tI, ab_c0, wd_ix12, wd_ix8, wd_ix10, wd_up_self, wd_up_eq, wd_up_ne, Int.toNat_natCast, Int.toNat_of_nonneg, not_true_eq_false, not_false_eq_true, Option.some.injEq] at hv9); subst hv9))
    | (apply i_aalN; (focus (first | exact h1 | exact h2 | exact h3)); (focus (exact (by first | exact ⟨by decide, by decide⟩ | ((try simp (disch := omega) only [ab_tI, ab_c0, wd_ix12, wd_ix8, wd_ix10, wd_up_self, wd_up_eq, wd_up_ne, Int.toNat_natCast, Int.toNat_of_nonneg, not_true_eq_false, not_false_eq_true, Option.some.injEq, wd_l103, wd_l104, wd_l105, wd_l106, wd_l107, wd_l108, wd_l109, wd_l110, wd_l111, wd_l112, wd_l113, wd_l114, wd_l115, wd_l116, wd_l117, wd_l118, wd_l119, wd_l120, wd_l121, wd_l122, wd_l123, wd_l124]); omega)))); (intro v9 hv9; (try simp (disch := omega) only [ab_tI, ab_c0, wd_ix12, wd_ix8, wd_ix10, wd_up_self, wd_up_eq, wd_up_ne, Int.toNat_natCast, Int.toNat_of_nonneg, not_true_eq_false, not_false_eq_true, Option.some.injEq] at hv9); subst hv9))
    | (intro v9 hv9; (try simp (disch := omega) only [ab_tI, ab_c0, wd_ix12, wd_ix8, wd_ix10, wd_up_self, wd_up_eq, wd_up_ne, Int.toNat_natCast, Int.toNat_of_nonneg, not_true_eq_false, not_false_eq_true, Option.some.injEq] at hv9); subst hv9)
    | (apply i_get; (focus (exact rfl)); (focus (exact rfl)))
    | (refine hX9 _ _ _ _ (wd_rnC rfl ?_); clear hC9 hX9 X9 C9; intro C9 X9 hC9 hX9)
    | (apply w_ialM; (focus (exact rfl)); (focus (exact (by first | exact ⟨by decide, by decide⟩ | ((try simp (disch := omega) only [ab_tI, ab_c0, wd_ix12, wd_ix8, wd_ix10, wd_up_self, wd_up_eq, wd_up_ne, Int.toNat_natCast, Int.toNat_of_nonneg, not_true_eq_false, not_false_eq_true, Option.some.injEq, wd_l103, wd_l104, wd_l105, wd_l106, wd_l107, wd_l108, wd_l109, wd_l110, wd_l111, wd_l112, wd_l113, wd_l114, wd_l115, wd_l116, wd_l117, wd_l118, wd_l119, wd_l120, wd_l121, wd_l122, wd_l123, wd_l124]); omega)))); (intro v9 hv9; (try simp (disch := omega) only [ab_tI, ab_c0, wd_ix12, wd_ix8, wd_ix10, wd_up_self, wd_up_eq, wd_up_ne, Int.toNat_natCast, Int.toNat_of_nonneg, not_true_eq_false, not_false_eq_true, Option.some.injEq] at hv9); subst hv9))
    | (apply w_putM; (focus (exact rfl)); (focus (first | exact trivial | exact Or.inl rfl | exact Or.inr rfl)); (focus (exact rfl)))
    | (apply w_iasM; (focus (exact rfl)); (focus (exact (by first | exact ⟨by decide, by decide⟩ | ((try simp (disch := omega) only [ab_tI, ab_c0, wd_ix12, wd_ix8, wd_ix10, wd_up_self, wd_up_eq, wd_up_ne, Int.toNat_natCast, Int.toNat_of_nonneg, not_true_eq_false, not_false_eq_true, Option.some.injEq, wd_l103, wd_l104, wd_l105, wd_l106, wd_l107, wd_l108, wd_l109, wd_l110, wd_l111, wd_l112, wd_l113, wd_l114, wd_l115, wd_l116, wd_l117, wd_l118, wd_l119, wd_l120, wd_l121, wd_l122, wd_l123, wd_l124]); omega)))); (intro v9 hv9; (try simp (disch := omega) only [ab_tI, ab_c0, wd_ix12, wd_ix8, wd_ix10, wd_up_self, wd_up_eq, wd_up_ne, Int.toNat_natCast, Int.toNat_of_nonneg, not_true_eq_false, not_false_eq_true, Option.some.injEq] at hv9); subst hv9))
    | (refine i_brF (by decide) ?_)
    | (refine i_brT (by decide) ?_)
    | (refine ⟨fun hc => ?_, fun hc => ?_⟩ <;> (try simp (disch := omega) only [ab_tI, ab_c0, wd_ix12, wd_ix8, wd_ix10, wd_up_self, wd_up_eq, wd_up_ne, Int.toNat_natCast, Int.toNat_of_nonneg, not_true_eq_false, not_false_eq_true, Option.some.injEq] at hc) <;> first | (exfalso; omega) | skip)
    | (apply i_cv; (focus (exact rfl)))
    | (apply i_len; (focus (exact rfl)))
    | (apply w_putI; (focus (exact rfl)); (focus (exact rfl)); (focus (exact rfl)); (focus (first | exact trivial | exact Or.inl rfl | exact Or.inr rfl)); (focus (exact rfl)))
    | (apply w_putP; (focus (exact rfl)); (focus (exact rfl)); (focus (exact rfl)); (focus (exact trivial)); (focus (exact rfl)))
    | (apply i_ialN; (focus (exact rfl)); (focus (first | exact Or.inl rfl | exact Or.inr rfl)); (focus (exact (by first | exact ⟨by decide, by decide⟩ | ((try simp (disch := omega) only [ab_tI, ab_c0, wd_ix12, wd_ix8, wd_ix10, wd_up_self, wd_up_eq, wd_up_ne, Int.toNat_natCast, Int.toNat_of_nonneg, not_true_eq_false, not_false_eq_true, Option.some.injEq, wd_l103, wd_l104, wd_l105, wd_l106, wd_l107, wd_l108, wd_l109, wd_l110, wd_l111, wd_l112, wd_l113, wd_l114, wd_l115, wd_l116, wd_l117, wd_l118, wd_l119, wd_l120, wd_l121, wd_l122, wd_l123, wd_l124]); omega)))); (intro v9 hv9; (try simp (disch := omega) only [ab_tI, ab_c0, wd_ix12, wd_ix8, wd_ix10, wd_up_self, wd_up_eq, wd_up_ne, Int.toNat_natCast, Int.toNat_of_nonneg, not_true_eq_false, not_false_eq_true, Option.some.injEq] at hv9); subst hv9))
    | (apply i_aalN; (focus (exact rfl)); (focus (exact (by first | exact ⟨by decide, by decide⟩ | ((try simp (disch := omega) only [ab_tI, ab_c0, wd_ix12, wd_ix8, wd_ix10, wd_up_self, wd_up_eq, wd_up_ne, Int.toNat_natCast, Int.toNat_of_nonneg, not_true_eq_false, not_false_eq_true, Option.some.injEq, wd_l103, wd_l104, wd_l105, wd_l106, wd_l107, wd_l108, wd_l109, wd_l110, wd_l111, wd_l112, wd_l113, wd_l114, wd_l115, wd_l116, wd_l117, wd_l118, wd_l119, wd_l120, wd_l121, wd_l122, wd_l123, wd_l124]); omega)))); (intro v9 hv9; (try simp (disch := omega) only [ab_tI, ab_c0, wd_ix12, wd_ix8, wd_ix10, wd_up_self, wd_up_eq, wd_up_ne, Int.toNat_natCast, Int.toNat_of_nonneg, not_true_eq_false, not_false_eq_true, Option.some.injEq] at hv9); subst hv9))
    | (apply w_iasI; (focus (exact rfl)); (focus (exact rfl)); (focus (exact (by first | exact ⟨by decide, by decide⟩ | ((try simp (disch := omega) only [ab_tI, ab_c0, wd_ix12, wd_ix8, wd_ix10, wd_up_self, wd_up_eq, wd_up_ne, Int.toNat_natCast, Int.toNat_of_nonneg, not_true_eq_false, not_false_eq_true, Option.some.injEq, wd_l103, wd_l104, wd_l105, wd_l106, wd_l107, wd_l108, wd_l109, wd_l110, wd_l111, wd_l112, wd_l113, wd_l114, wd_l115, wd_l116, wd_l117, wd_l118, wd_l119, wd_l120, wd_l121, wd_l122, wd_l123, wd_l124]); omega)))); (focus (intro _; exact rfl)); (intro v9 hv9; (try simp (disch := omega) only [ab_tI, ab_c0, wd_ix12, wd_ix8, wd_ix10, wd_up_self, wd_up_eq, wd_up_ne, Int.toNat_natCast, Int.toNat_of_nonneg, not_true_eq_false, not_false_eq_true, Option.some.injEq] at hv9); subst hv9))
    | (apply w_balM; (focus (exact (by first | exact ⟨by decide, by decide⟩ | ((try simp (disch := omega) only [ab_tI, ab_c0, wd_ix12, wd_ix8, wd_ix10, wd_up_self, wd_up_eq, wd_up_ne, Int.toNat_natCast, Int.toNat_of_nonneg, not_true_eq_false, not_false_eq_true, Option.some.injEq, wd_l103, wd_l104, wd_l105, wd_l106, wd_l107, wd_l108, wd_l109, wd_l110, wd_l111, wd_l112, wd_l113, wd_l114, wd_l115, wd_l116, wd_l117, wd_l118, wd_l119, wd_l120, wd_l121, wd_l122, wd_l123, wd_l124]); omega)))); (intro v9 hv9; (try simp (disch := omega) only [ab_tI, ab_c0, wd_ix12, wd_ix8, wd_ix10, wd_up_self, wd_up_eq, wd_up_ne, Int.toNat_natCast, Int.toNat_of_nonneg, not_true_eq_false, not_false_eq_true, Option.some.injEq] at hv9); subst hv9))
    | (apply w_basM; (focus (exact (by first | exact ⟨by decide, by decide⟩ | ((try simp (disch := omega) only [ab_tI, ab_c0, wd_ix12, wd_ix8, wd_ix10, wd_up_self, wd_up_eq, wd_up_ne, Int.toNat_natCast, Int.toNat_of_nonneg, not_true_eq_false, not_false_eq_true, Option.some.injEq, wd_l103, wd_l104, wd_l105, wd_l106, wd_l107, wd_l108, wd_l109, wd_l110, wd_l111, wd_l112, wd_l113, wd_l114, wd_l115, wd_l116, wd_l117, wd_l118, wd_l119, wd_l120, wd_l121, wd_l122, wd_l123, wd_l124]); omega)))); (focus (first | exact Or.inl rfl | exact Or.inr rfl)); (intro v9 hv9; (try simp (disch := omega) only [ab_tI, ab_c0, wd_ix12, wd_ix8, wd_ix10, wd_up_self, wd_up_eq, wd_up_ne, Int.toNat_natCast, Int.toNat_of_nonneg, not_true_eq_false, not_false_eq_true, Option.some.injEq] at hv9); subst hv9))
    | (refine And.intro trivial ?_)
    | (refine And.intro (Or.inl rfl) ?_)
    | (refine And.intro (Or.inr rfl) ?_)
    | (refine And.intro (by ((try simp (disch := omega) only [ab_tI, ab_c0, wd_ix12, wd_ix8, wd_ix10, wd_up_self, wd_up_eq, wd_up_ne, Int.toNat_natCast, Int.toNat_of_nonneg, not_true_eq_false, not_false_eq_true, Option.some.injEq]); omega)) ?_)
    | fail)
  all_goals first | exact hy (by omega) | exact hn (by omega) (by omega) (by omega) | (exfalso; omega)
end
end
section
/-! ===== the class: compare, alike, framed like, holds (own text) ===== -/
def c_lex (F : Nat → Nat → Int) (g : Nat → ab_C) (a b : Nat) : Nat → Nat → Int
  | 0, _ => if c_sz g a < c_sz g b then -1 else if c_sz g b < c_sz g a then 1 else 0
  | n + 1, j => if (c_ky g a j).toInt = (c_ky g b j).toInt then (if F (c_pt g a j) (c_pt g b j) = 0 then c_lex F g a b n (j + 1) else F (c_pt g a j) (c_pt g b j)) else if (c_ky g a j).toInt < (c_ky g b j).toInt then -1 else 1
def c_cmp (g : Nat → ab_C) : Nat → Nat → Nat → Int
  | 0, _, _ => 0
  | f + 1, a, b => if a = b then 0 else if (c_i g a 0).toInt = (c_i g b 0).toInt then (if (c_i g a 1).toInt = (c_i g b 1).toInt then c_lex (c_cmp g f) g a b (min (c_sz g a) (c_sz g b)) 0 else if (c_i g a 1).toInt < (c_i g b 1).toInt then -1 else 1) else if (c_i g a 0).toInt < (c_i g b 0).toInt then -1 else 1
theorem c_lex_b {F : Nat → Nat → Int} {g : Nat → ab_C} {a b : Nat} (hF : ∀ x y, -1 ≤ F x y ∧ F x y ≤ 1) : ∀ n j, -1 ≤ c_lex F g a b n j ∧ c_lex F g a b n j ≤ 1
  | 0, j => by unfold c_lex; split <;> (try split) <;> omega
  | n + 1, j => by
    have ih := c_lex_b hF n (j + 1) (g := g) (a := a) (b := b)
    have h2 := hF (c_pt g a j) (c_pt g b j)
    unfold c_lex
    split
    · split <;> omega
    · split <;> omega
theorem c_cmp_b {g : Nat → ab_C} : ∀ f x y, -1 ≤ c_cmp g f x y ∧ c_cmp g f x y ≤ 1
  | 0, _, _ => by unfold c_cmp; omega
  | f + 1, x, y => by
    have h2 := c_lex_b (F := c_cmp g f) (g := g) (a := x) (b := y) (fun x y => c_cmp_b f x y) (min (c_sz g x) (c_sz g y)) 0
    unfold c_cmp
    repeat' split
    all_goals omega
theorem c_W_sz {T : Nat → Prop} {g : Nat → ab_C} {k a : Nat} (hW : c_W T g k) (ha : T a) : c_sz g a ≤ 13 := by
  obtain ⟨ka, pa, nk, np, fk, fp, hc, ⟨hnk, hnp⟩, hsz, -⟩ := c_W_get hW ha
  omega
theorem c_W_pt {T : Nat → Prop} {g : Nat → ab_C} {k a j : Nat} (hW : c_W T g k) (ha : T a) (hj : j < c_sz g a) : T (c_pt g a j) := by
  obtain ⟨ka, pa, nk, np, fk, fp, hc, ⟨hnk, hnp⟩, hsz, hfp, -⟩ := c_W_get hW ha
  exact (hfp j (by omega)).2
section
variable {d : Nat} {I : wd_I} {P : wd_P} {M : wd_I} {g : Nat → ab_C} {k z : Nat} {Q : ab_Q} {T : Nat → Prop}
set_option maxHeartbeats 4000000 in
set_option maxRecDepth 100000 in
theorem y_compare_l (hd : 2 ≤ d) (hW : c_W T g k) {a b dp : Nat} (ha : T a) (hb : T b) (hdp : dp ≤ 40) {F : Nat → Nat → Int} (hF : ∀ j, j < c_sz g a → j < c_sz g b → ∀ Q : ab_Q, Q (some (.inl (ab_ii (F (c_pt g a j) (c_pt g b j))))) (wd I P M g, k, z) → ab_CT (d - 1) 94 [wd_v (c_pt g a j), wd_v (c_pt g b j), .inl (ab_ii ((dp : Int) + 1))] (wd I P M g, k, z) Q) (hFb : ∀ x y, -1 ≤ F x y ∧ F x y ≤ 1) : ∀ n j, j + n = min (c_sz g a) (c_sz g b) → Q (some (.inl (ab_ii (c_lex F g a b n j)))) (wd I P M g, k, z) → ab_WB d 94 Q 95 [(0, wd_v a), (1, wd_v b), (2, .inl (ab_ii (dp : Int))), (3, .inl (ab_ii ((min (c_sz g a) (c_sz g b) : Nat) : Int))), (4, .inl (ab_ii (j : Int)))] [] (wd I P M g, k, z)
  | 0, j, hj, hQ => by
    have s1 := c_W_sz hW ha
    have s2 := c_W_sz hW hb
    unfold c_lex at hQ
    obtain ⟨mn, hmn⟩ : ∃ mn, mn = min (c_sz g a) (c_sz g b) := ⟨_, rfl⟩
    rw [← hmn] at hj ⊢
    obtain ⟨ka, pa, nk, np, fk, fp, hc, -⟩ := c_W_get hW ha
    obtain ⟨h1, h2, h3⟩ := hc I P M z
    obtain ⟨kb, pb, nkb, npb, fkb, fpb, hcb, -⟩ := c_W_get hW hb
    obtain ⟨b1, b2, b3⟩ := hcb I P M z
    refine wd_rnC rfl ?_
    intro C9 X9 hC9 hX9
    repeat' ((conv => whnf); first
    | (apply i_getN; (focus (first | exact h1 | exact b1)); (focus (exact rfl)); (intro v9 hv9; (try simp (disch := omega) only [ab_tI, ab_c0, wd_ix12, wd_ix8, wd_ix10, wd_up_self, wd_up_eq, wd_up_ne, Int.toNat_natCast, Int.toNat_of_nonneg, not_true_eq_false, not_false_eq_true, Option.some.injEq] at hv9); subst hv9))
    | (apply i_cv; (focus (first | exact h1 | exact b1)))
    | (apply i_len; (focus (first | exact congrArg ab_len (h1) | exact congrArg ab_len (b1))))
    | (apply i_ialN; (focus (first | exact h1 | exact b1)); (focus (first | exact Or.inl rfl | exact Or.inr rfl)); (focus (exact (by first | exact ⟨by decide, by decide⟩ | ((try simp (disch := omega) only [ab_tI, ab_c0, wd_ix12, wd_ix8, wd_ix10, wd_up_self, wd_up_eq, wd_up_ne, Int.toNat_natCast, Int.toNat_of_nonneg, not_true_eq_false, not_false_eq_true, Option.some.injEq, wd_l103, wd_l104, wd_l105, wd_l106, wd_l107, wd_l108, wd_l109, wd_l110, wd_l111, wd_l112, wd_l113, wd_l114, wd_l115, wd_l116, wd_l117, wd_l118, wd_l119, wd_l120, wd_l121, wd_l122, wd_l123, wd_l124]); omega)))); (intro v9 hv9; (try simp (disch := omega) only [ab_tI, ab_c0, wd_ix12, wd_ix8, wd_ix10, wd_up_self, wd_up_eq, wd_up_ne, Int.toNat_natCast, Int.toNat_of_nonneg, not_true_eq_false, not_false_eq_true, Option.some.injEq] at hv9); subst hv9))
    | (apply i_aalN; (focus (first | exact h1 | exact b1)); (focus (exact (by first | exact ⟨by decide, by decide⟩ | ((try simp (disch := omega) only [ab_tI, ab_c0, wd_ix12, wd_ix8, wd_ix10, wd_up_self, wd_up_eq, wd_up_ne, Int.toNat_natCast, Int.toNat_of_nonneg, not_true_eq_false, not_false_eq_true, Option.some.injEq, wd_l103, wd_l104, wd_l105, wd_l106, wd_l107, wd_l108, wd_l109, wd_l110, wd_l111, wd_l112, wd_l113, wd_l114, wd_l115, wd_l116, wd_l117, wd_l118, wd_l119, wd_l120, wd_l121, wd_l122, wd_l123, wd_l124]); omega)))); (intro v9 hv9; (try simp (disch := omega) only [ab_tI, ab_c0, wd_ix12, wd_ix8, wd_ix10, wd_up_self, wd_up_eq, wd_up_ne, Int.toNat_natCast, Int.toNat_of_nonneg, not_true_eq_false, not_false_eq_true, Option.some.injEq] at hv9); subst hv9))
    | (refine hC9 87 _ _ _ (y_size (by omega) hW ha ?_))
    | (refine hC9 87 _ _ _ (y_size (by omega) hW hb ?_))
    | (refine hC9 198 _ _ _ (y_icmp (by omega) (fun hc => ?_) (fun hc => ?_) (fun hc => ?_))) <;> (try simp (disch := omega) only [ab_tI, ab_c0, wd_ix12, wd_ix8, wd_ix10, wd_up_self, wd_up_eq, wd_up_ne, Int.toNat_natCast, Int.toNat_of_nonneg, not_true_eq_false, not_false_eq_true, Option.some.injEq] at hc)
    | (intro v9 hv9; (try simp (disch := omega) only [ab_tI, ab_c0, wd_ix12, wd_ix8, wd_ix10, wd_up_self, wd_up_eq, wd_up_ne, Int.toNat_natCast, Int.toNat_of_nonneg, not_true_eq_false, not_false_eq_true, Option.some.injEq] at hv9); subst hv9)
    | (apply i_get; (focus (exact rfl)); (focus (exact rfl)))
    | (refine hX9 _ _ _ _ (wd_rnC rfl ?_); clear hC9 hX9 X9 C9; intro C9 X9 hC9 hX9)
    | (apply w_ialM; (focus (exact rfl)); (focus (exact (by first | exact ⟨by decide, by decide⟩ | ((try simp (disch := omega) only [ab_tI, ab_c0, wd_ix12, wd_ix8, wd_ix10, wd_up_self, wd_up_eq, wd_up_ne, Int.toNat_natCast, Int.toNat_of_nonneg, not_true_eq_false, not_false_eq_true, Option.some.injEq, wd_l103, wd_l104, wd_l105, wd_l106, wd_l107, wd_l108, wd_l109, wd_l110, wd_l111, wd_l112, wd_l113, wd_l114, wd_l115, wd_l116, wd_l117, wd_l118, wd_l119, wd_l120, wd_l121, wd_l122, wd_l123, wd_l124]); omega)))); (intro v9 hv9; (try simp (disch := omega) only [ab_tI, ab_c0, wd_ix12, wd_ix8, wd_ix10, wd_up_self, wd_up_eq, wd_up_ne, Int.toNat_natCast, Int.toNat_of_nonneg, not_true_eq_false, not_false_eq_true, Option.some.injEq] at hv9); subst hv9))
    | (apply w_putM; (focus (exact rfl)); (focus (first | exact trivial | exact Or.inl rfl | exact Or.inr rfl)); (focus (exact rfl)))
    | (apply w_iasM; (focus (exact rfl)); (focus (exact (by first | exact ⟨by decide, by decide⟩ | ((try simp (disch := omega) only [ab_tI, ab_c0, wd_ix12, wd_ix8, wd_ix10, wd_up_self, wd_up_eq, wd_up_ne, Int.toNat_natCast, Int.toNat_of_nonneg, not_true_eq_false, not_false_eq_true, Option.some.injEq, wd_l103, wd_l104, wd_l105, wd_l106, wd_l107, wd_l108, wd_l109, wd_l110, wd_l111, wd_l112, wd_l113, wd_l114, wd_l115, wd_l116, wd_l117, wd_l118, wd_l119, wd_l120, wd_l121, wd_l122, wd_l123, wd_l124]); omega)))); (intro v9 hv9; (try simp (disch := omega) only [ab_tI, ab_c0, wd_ix12, wd_ix8, wd_ix10, wd_up_self, wd_up_eq, wd_up_ne, Int.toNat_natCast, Int.toNat_of_nonneg, not_true_eq_false, not_false_eq_true, Option.some.injEq] at hv9); subst hv9))
    | (refine i_brF (by decide) ?_)
    | (refine i_brT (by decide) ?_)
    | (refine ⟨fun hc => ?_, fun hc => ?_⟩ <;> (try simp (disch := omega) only [ab_tI, ab_c0, wd_ix12, wd_ix8, wd_ix10, wd_up_self, wd_up_eq, wd_up_ne, Int.toNat_natCast, Int.toNat_of_nonneg, not_true_eq_false, not_false_eq_true, Option.some.injEq] at hc) <;> first | (exfalso; omega) | skip)
    | (apply i_cv; (focus (exact rfl)))
    | (apply i_len; (focus (exact rfl)))
    | (apply w_putI; (focus (exact rfl)); (focus (exact rfl)); (focus (exact rfl)); (focus (first | exact trivial | exact Or.inl rfl | exact Or.inr rfl)); (focus (exact rfl)))
    | (apply w_putP; (focus (exact rfl)); (focus (exact rfl)); (focus (exact rfl)); (focus (exact trivial)); (focus (exact rfl)))
    | (apply i_ialN; (focus (exact rfl)); (focus (first | exact Or.inl rfl | exact Or.inr rfl)); (focus (exact (by first | exact ⟨by decide, by decide⟩ | ((try simp (disch := omega) only [ab_tI, ab_c0, wd_ix12, wd_ix8, wd_ix10, wd_up_self, wd_up_eq, wd_up_ne, Int.toNat_natCast, Int.toNat_of_nonneg, not_true_eq_false, not_false_eq_true, Option.some.injEq, wd_l103, wd_l104, wd_l105, wd_l106, wd_l107, wd_l108, wd_l109, wd_l110, wd_l111, wd_l112, wd_l113, wd_l114, wd_l115, wd_l116, wd_l117, wd_l118, wd_l119, wd_l120, wd_l121, wd_l122, wd_l123, wd_l124]); omega)))); (intro v9 hv9; (try simp (disch := omega) only [ab_tI, ab_c0, wd_ix12, wd_ix8, wd_ix10, wd_up_self, wd_up_eq, wd_up_ne, Int.toNat_natCast, Int.toNat_of_nonneg, not_true_eq_false, not_false_eq_true, Option.some.injEq] at hv9); subst hv9))
    | (apply i_aalN; (focus (exact rfl)); (focus (exact (by first | exact ⟨by decide, by decide⟩ | ((try simp (disch := omega) only [ab_tI, ab_c0, wd_ix12, wd_ix8, wd_ix10, wd_up_self, wd_up_eq, wd_up_ne, Int.toNat_natCast, Int.toNat_of_nonneg, not_true_eq_false, not_false_eq_true, Option.some.injEq, wd_l103, wd_l104, wd_l105, wd_l106, wd_l107, wd_l108, wd_l109, wd_l110, wd_l111, wd_l112, wd_l113, wd_l114, wd_l115, wd_l116, wd_l117, wd_l118, wd_l119, wd_l120, wd_l121, wd_l122, wd_l123, wd_l124]); omega)))); (intro v9 hv9; (try simp (disch := omega) only [ab_tI, ab_c0, wd_ix12, wd_ix8, wd_ix10, wd_up_self, wd_up_eq, wd_up_ne, Int.toNat_natCast, Int.toNat_of_nonneg, not_true_eq_false, not_false_eq_true, Option.some.injEq] at hv9); subst hv9))
    | (apply w_iasI; (focus (exact rfl)); (focus (exact rfl)); (focus (exact (by first | exact ⟨by decide, by decide⟩ | ((try simp (disch := omega) only [ab_tI, ab_c0, wd_ix12, wd_ix8, wd_ix10, wd_up_self, wd_up_eq, wd_up_ne, Int.toNat_natCast, Int.toNat_of_nonneg, not_true_eq_false, not_false_eq_true, Option.some.injEq, wd_l103, wd_l104, wd_l105, wd_l106, wd_l107, wd_l108, wd_l109, wd_l110, wd_l111, wd_l112, wd_l113, wd_l114, wd_l115, wd_l116, wd_l117, wd_l118, wd_l119, wd_l120, wd_l121, wd_l122, wd_l123, wd_l124]); omega)))); (focus (intro _; exact rfl)); (intro v9 hv9; (try simp (disch := omega) only [ab_tI, ab_c0, wd_ix12, wd_ix8, wd_ix10, wd_up_self, wd_up_eq, wd_up_ne, Int.toNat_natCast, Int.toNat_of_nonneg, not_true_eq_false, not_false_eq_true, Option.some.injEq] at hv9); subst hv9))
    | (apply w_balM; (focus (exact (by first | exact ⟨by decide, by decide⟩ | ((try simp (disch := omega) only [ab_tI, ab_c0, wd_ix12, wd_ix8, wd_ix10, wd_up_self, wd_up_eq, wd_up_ne, Int.toNat_natCast, Int.toNat_of_nonneg, not_true_eq_false, not_false_eq_true, Option.some.injEq, wd_l103, wd_l104, wd_l105, wd_l106, wd_l107, wd_l108, wd_l109, wd_l110, wd_l111, wd_l112, wd_l113, wd_l114, wd_l115, wd_l116, wd_l117, wd_l118, wd_l119, wd_l120, wd_l121, wd_l122, wd_l123, wd_l124]); omega)))); (intro v9 hv9; (try simp (disch := omega) only [ab_tI, ab_c0, wd_ix12, wd_ix8, wd_ix10, wd_up_self, wd_up_eq, wd_up_ne, Int.toNat_natCast, Int.toNat_of_nonneg, not_true_eq_false, not_false_eq_true, Option.some.injEq] at hv9); subst hv9))
    | (apply w_basM; (focus (exact (by first | exact ⟨by decide, by decide⟩ | ((try simp (disch := omega) only [ab_tI, ab_c0, wd_ix12, wd_ix8, wd_ix10, wd_up_self, wd_up_eq, wd_up_ne, Int.toNat_natCast, Int.toNat_of_nonneg, not_true_eq_false, not_false_eq_true, Option.some.injEq, wd_l103, wd_l104, wd_l105, wd_l106, wd_l107, wd_l108, wd_l109, wd_l110, wd_l111, wd_l112, wd_l113, wd_l114, wd_l115, wd_l116, wd_l117, wd_l118, wd_l119, wd_l120, wd_l121, wd_l122, wd_l123, wd_l124]); omega)))); (focus (first | exact Or.inl rfl | exact Or.inr rfl)); (intro v9 hv9; (try simp (disch := omega) only [ab_tI, ab_c0, wd_ix12, wd_ix8, wd_ix10, wd_up_self, wd_up_eq, wd_up_ne, Int.toNat_natCast, Int.toNat_of_nonneg, not_true_eq_false, not_false_eq_true, Option.some.injEq] at hv9); subst hv9))
    | (refine And.intro trivial ?_)
    | (refine And.intro (Or.inl rfl) ?_)
    | (refine And.intro (Or.inr rfl) ?_)
    | (refine And.intro (by ((try simp (disch := omega) only [ab_tI, ab_c0, wd_ix12, wd_ix8, wd_ix10, wd_up_self, wd_up_eq, wd_up_ne, Int.toNat_natCast, Int.toNat_of_nonneg, not_true_eq_false, not_false_eq_true, Option.some.injEq]); omega)) ?_)
    | fail)
    all_goals (repeat' (split at hQ)) <;> first | exact hQ | (exfalso; omega)
  | n + 1, j, hj, hQ => by
    have ih := y_compare_l hd hW ha hb hdp hF hFb n (j + 1) (by omega)
    have s1 := c_W_sz hW ha
    have s2 := c_W_sz hW hb
    have hFj := hF j (by omega) (by omega)
    have hFk := hFb (c_pt g a j) (c_pt g b j)
    unfold c_lex at hQ
    have j1 : j < c_sz g a := by omega
    have j2 : j < c_sz g b := by omega
    obtain ⟨mn, hmn⟩ : ∃ mn, mn = min (c_sz g a) (c_sz g b) := ⟨_, rfl⟩
    rw [← hmn] at hj ih ⊢
    obtain ⟨ka, pa, nk, np, fk, fp, hc, -⟩ := c_W_get hW ha
    obtain ⟨h1, h2, h3⟩ := hc I P M z
    obtain ⟨kb, pb, nkb, npb, fkb, fpb, hcb, -⟩ := c_W_get hW hb
    obtain ⟨b1, b2, b3⟩ := hcb I P M z
    refine wd_rnC rfl ?_
    intro C9 X9 hC9 hX9
    repeat' ((conv => whnf); first
    | (apply i_getN; (focus (first | exact h1 | exact b1)); (focus (exact rfl)); (intro v9 hv9; (try simp (disch := omega) only [ab_tI, ab_c0, wd_ix12, wd_ix8, wd_ix10, wd_up_self, wd_up_eq, wd_up_ne, Int.toNat_natCast, Int.toNat_of_nonneg, not_true_eq_false, not_false_eq_true, Option.some.injEq] at hv9); subst hv9))
    | (apply i_cv; (focus (first | exact h1 | exact b1)))
    | (apply i_len; (focus (first | exact congrArg ab_len (h1) | exact congrArg ab_len (b1))))
    | (apply i_ialN; (focus (first | exact h1 | exact b1)); (focus (first | exact Or.inl rfl | exact Or.inr rfl)); (focus (exact (by first | exact ⟨by decide, by decide⟩ | ((try simp (disch := omega) only [ab_tI, ab_c0, wd_ix12, wd_ix8, wd_ix10, wd_up_self, wd_up_eq, wd_up_ne, Int.toNat_natCast, Int.toNat_of_nonneg, not_true_eq_false, not_false_eq_true, Option.some.injEq, wd_l103, wd_l104, wd_l105, wd_l106, wd_l107, wd_l108, wd_l109, wd_l110, wd_l111, wd_l112, wd_l113, wd_l114, wd_l115, wd_l116, wd_l117, wd_l118, wd_l119, wd_l120, wd_l121, wd_l122, wd_l123, wd_l124]); omega)))); (intro v9 hv9; (try simp (disch := omega) only [ab_tI, ab_c0, wd_ix12, wd_ix8, wd_ix10, wd_up_self, wd_up_eq, wd_up_ne, Int.toNat_natCast, Int.toNat_of_nonneg, not_true_eq_false, not_false_eq_true, Option.some.injEq] at hv9); subst hv9))
    | (apply i_aalN; (focus (first | exact h1 | exact b1)); (focus (exact (by first | exact ⟨by decide, by decide⟩ | ((try simp (disch := omega) only [ab_tI, ab_c0, wd_ix12, wd_ix8, wd_ix10, wd_up_self, wd_up_eq, wd_up_ne, Int.toNat_natCast, Int.toNat_of_nonneg, not_true_eq_false, not_false_eq_true, Option.some.injEq, wd_l103, wd_l104, wd_l105, wd_l106, wd_l107, wd_l108, wd_l109, wd_l110, wd_l111, wd_l112, wd_l113, wd_l114, wd_l115, wd_l116, wd_l117, wd_l118, wd_l119, wd_l120, wd_l121, wd_l122, wd_l123, wd_l124]); omega)))); (intro v9 hv9; (try simp (disch := omega) only [ab_tI, ab_c0, wd_ix12, wd_ix8, wd_ix10, wd_up_self, wd_up_eq, wd_up_ne, Int.toNat_natCast, Int.toNat_of_nonneg, not_true_eq_false, not_false_eq_true, Option.some.injEq] at hv9); subst hv9))
    | (refine hC9 90 _ _ _ (y_letters (by omega) hW ha (by omega) ?_))
    | (refine hC9 90 _ _ _ (y_letters (by omega) hW hb (by omega) ?_))
    | (refine hC9 198 _ _ _ (y_icmp (by omega) (fun hc => ?_) (fun hc => ?_) (fun hc => ?_)))
    | (refine hC9 88 _ _ _ (y_part (by omega) hW ha j1 ?_))
    | (refine hC9 88 _ _ _ (y_part (by omega) hW hb j2 ?_))
    | (refine hC9 94 _ _ _ (hFj _ ?_))
    | (refine hX9 95 _ _ _ (ab_WB_sub ?_ (ih ?_)); (focus ((repeat (first | exact ab_sub0 | (refine ab_sub1 ?_ ?_; (focus ((repeat (refine ab_skip rfl ?_)); first | exact List.mem_cons_self))))))))
    | (intro v9 hv9; (try simp (disch := omega) only [ab_tI, ab_c0, wd_ix12, wd_ix8, wd_ix10, wd_up_self, wd_up_eq, wd_up_ne, Int.toNat_natCast, Int.toNat_of_nonneg, not_true_eq_false, not_false_eq_true, Option.some.injEq] at hv9); subst hv9)
    | (apply i_get; (focus (exact rfl)); (focus (exact rfl)))
    | (refine hX9 _ _ _ _ (wd_rnC rfl ?_); clear hC9 hX9 X9 C9; intro C9 X9 hC9 hX9)
    | (apply w_ialM; (focus (exact rfl)); (focus (exact (by first | exact ⟨by decide, by decide⟩ | ((try simp (disch := omega) only [ab_tI, ab_c0, wd_ix12, wd_ix8, wd_ix10, wd_up_self, wd_up_eq, wd_up_ne, Int.toNat_natCast, Int.toNat_of_nonneg, not_true_eq_false, not_false_eq_true, Option.some.injEq, wd_l103, wd_l104, wd_l105, wd_l106, wd_l107, wd_l108, wd_l109, wd_l110, wd_l111, wd_l112, wd_l113, wd_l114, wd_l115, wd_l116, wd_l117, wd_l118, wd_l119, wd_l120, wd_l121, wd_l122, wd_l123, wd_l124]); omega)))); (intro v9 hv9; (try simp (disch := omega) only [ab_tI, ab_c0, wd_ix12, wd_ix8, wd_ix10, wd_up_self, wd_up_eq, wd_up_ne, Int.toNat_natCast, Int.toNat_of_nonneg, not_true_eq_false, not_false_eq_true, Option.some.injEq] at hv9); subst hv9))
    | (apply w_putM; (focus (exact rfl)); (focus (first | exact trivial | exact Or.inl rfl | exact Or.inr rfl)); (focus (exact rfl)))
    | (apply w_iasM; (focus (exact rfl)); (focus (exact (by first | exact ⟨by decide, by decide⟩ | ((try simp (disch := omega) only [ab_tI, ab_c0, wd_ix12, wd_ix8, wd_ix10, wd_up_self, wd_up_eq, wd_up_ne, Int.toNat_natCast, Int.toNat_of_nonneg, not_true_eq_false, not_false_eq_true, Option.some.injEq, wd_l103, wd_l104, wd_l105, wd_l106, wd_l107, wd_l108, wd_l109, wd_l110, wd_l111, wd_l112, wd_l113, wd_l114, wd_l115, wd_l116, wd_l117, wd_l118, wd_l119, wd_l120, wd_l121, wd_l122, wd_l123, wd_l124]); omega)))); (intro v9 hv9; (try simp (disch := omega) only [ab_tI, ab_c0, wd_ix12, wd_ix8, wd_ix10, wd_up_self, wd_up_eq, wd_up_ne, Int.toNat_natCast, Int.toNat_of_nonneg, not_true_eq_false, not_false_eq_true, Option.some.injEq] at hv9); subst hv9))
    | (refine i_brF (by decide) ?_)
    | (refine i_brT (by decide) ?_)
    | (refine ⟨fun hc => ?_, fun hc => ?_⟩ <;> (try simp (disch := omega) only [ab_tI, ab_c0, wd_ix12, wd_ix8, wd_ix10, wd_up_self, wd_up_eq, wd_up_ne, Int.toNat_natCast, Int.toNat_of_nonneg, not_true_eq_false, not_false_eq_true, Option.some.injEq] at hc) <;> first | (exfalso; omega) | skip)
    | (apply i_cv; (focus (exact rfl)))
    | (apply i_len; (focus (exact rfl)))
    | (apply w_putI; (focus (exact rfl)); (focus (exact rfl)); (focus (exact rfl)); (focus (first | exact trivial | exact Or.inl rfl | exact Or.inr rfl)); (focus (exact rfl)))
    | (apply w_putP; (focus (exact rfl)); (focus (exact rfl)); (focus (exact rfl)); (focus (exact trivial)); (focus (exact rfl)))
    | (apply i_ialN; (focus (exact rfl)); (focus (first | exact Or.inl rfl | exact Or.inr rfl)); (focus (exact (by first | exact ⟨by decide, by decide⟩ | ((try simp (disch := omega) only [ab_tI, ab_c0, wd_ix12, wd_ix8, wd_ix10, wd_up_self, wd_up_eq, wd_up_ne, Int.toNat_natCast, Int.toNat_of_nonneg, not_true_eq_false, not_false_eq_true, Option.some.injEq, wd_l103, wd_l104, wd_l105, wd_l106, wd_l107, wd_l108, wd_l109, wd_l110, wd_l111, wd_l112, wd_l113, wd_l114, wd_l115, wd_l116, wd_l117, wd_l118, wd_l119, wd_l120, wd_l121, wd_l122, wd_l123, wd_l124]); omega)))); (intro v9 hv9; (try simp (disch := omega) only [ab_tI, ab_c0, wd_ix12, wd_ix8, wd_ix10, wd_up_self, wd_up_eq, wd_up_ne, Int.toNat_natCast, Int.toNat_of_nonneg, not_true_eq_false, not_false_eq_true, Option.some.injEq] at hv9); subst hv9))
    | (apply i_aalN; (focus (exact rfl)); (focus (exact (by first | exact ⟨by decide, by decide⟩ | ((try simp (disch := omega) only [ab_tI, ab_c0, wd_ix12, wd_ix8, wd_ix10, wd_up_self, wd_up_eq, wd_up_ne, Int.toNat_natCast, Int.toNat_of_nonneg, not_true_eq_false, not_false_eq_true, Option.some.injEq, wd_l103, wd_l104, wd_l105, wd_l106, wd_l107, wd_l108, wd_l109, wd_l110, wd_l111, wd_l112, wd_l113, wd_l114, wd_l115, wd_l116, wd_l117, wd_l118, wd_l119, wd_l120, wd_l121, wd_l122, wd_l123, wd_l124]); omega)))); (intro v9 hv9; (try simp (disch := omega) only [ab_tI, ab_c0, wd_ix12, wd_ix8, wd_ix10, wd_up_self, wd_up_eq, wd_up_ne, Int.toNat_natCast, Int.toNat_of_nonneg, not_true_eq_false, not_false_eq_true, Option.some.injEq] at hv9); subst hv9))
    | (apply w_iasI; (focus (exact rfl)); (focus (exact rfl)); (focus (exact (by first | exact ⟨by decide, by decide⟩ | ((try simp (disch := omega) only [ab_tI, ab_c0, wd_ix12, wd_ix8, wd_ix10, wd_up_self, wd_up_eq, wd_up_ne, Int.toNat_natCast, Int.toNat_of_nonneg, not_true_eq_false, not_false_eq_true, Option.some.injEq, wd_l103, wd_l104, wd_l105, wd_l106, wd_l107, wd_l108, wd_l109, wd_l110, wd_l111, wd_l112, wd_l113, wd_l114, wd_l115, wd_l116, wd_l117, wd_l118, wd_l119, wd_l120, wd_l121, wd_l122, wd_l123, wd_l124]); omega)))); (focus (intro _; exact rfl)); (intro v9 hv9; (try simp (disch := omega) only [ab_tI, ab_c0, wd_ix12, wd_ix8, wd_ix10, wd_up_self, wd_up_eq, wd_up_ne, Int.toNat_natCast, Int.toNat_of_nonneg, not_true_eq_false, not_false_eq_true, Option.some.injEq] at hv9); subst hv9))
    | (apply w_balM; (focus (exact (by first | exact ⟨by decide, by decide⟩ | ((try simp (disch := omega) only [ab_tI, ab_c0, wd_ix12, wd_ix8, wd_ix10, wd_up_self, wd_up_eq, wd_up_ne, Int.toNat_natCast, Int.toNat_of_nonneg, not_true_eq_false, not_false_eq_true, Option.some.injEq, wd_l103, wd_l104, wd_l105, wd_l106, wd_l107, wd_l108, wd_l109, wd_l110, wd_l111, wd_l112, wd_l113, wd_l114, wd_l115, wd_l116, wd_l117, wd_l118, wd_l119, wd_l120, wd_l121, wd_l122, wd_l123, wd_l124]); omega)))); (intro v9 hv9; (try simp (disch := omega) only [ab_tI, ab_c0, wd_ix12, wd_ix8, wd_ix10, wd_up_self, wd_up_eq, wd_up_ne, Int.toNat_natCast, Int.toNat_of_nonneg, not_true_eq_false, not_false_eq_true, Option.some.injEq] at hv9); subst hv9))
    | (apply w_basM; (focus (exact (by first | exact ⟨by decide, by decide⟩ | ((try simp (disch := omega) only [ab_tI, ab_c0, wd_ix12, wd_ix8, wd_ix10, wd_up_self, wd_up_eq, wd_up_ne, Int.toNat_natCast, Int.toNat_of_nonneg, not_true_eq_false, not_false_eq_true, Option.some.injEq, wd_l103, wd_l104, wd_l105, wd_l106, wd_l107, wd_l108, wd_l109, wd_l110, wd_l111, wd_l112, wd_l113, wd_l114, wd_l115, wd_l116, wd_l117, wd_l118, wd_l119, wd_l120, wd_l121, wd_l122, wd_l123, wd_l124]); omega)))); (focus (first | exact Or.inl rfl | exact Or.inr rfl)); (intro v9 hv9; (try simp (disch := omega) only [ab_tI, ab_c0, wd_ix12, wd_ix8, wd_ix10, wd_up_self, wd_up_eq, wd_up_ne, Int.toNat_natCast, Int.toNat_of_nonneg, not_true_eq_false, not_false_eq_true, Option.some.injEq] at hv9); subst hv9))
    | (refine And.intro trivial ?_)
    | (refine And.intro (Or.inl rfl) ?_)
    | (refine And.intro (Or.inr rfl) ?_)
    | (refine And.intro (by ((try simp (disch := omega) only [ab_tI, ab_c0, wd_ix12, wd_ix8, wd_ix10, wd_up_self, wd_up_eq, wd_up_ne, Int.toNat_natCast, Int.toNat_of_nonneg, not_true_eq_false, not_false_eq_true, Option.some.injEq]); omega)) ?_)
    | fail)
    all_goals (repeat' (split at hQ)) <;> first | exact hQ | (exfalso; omega)
set_option maxHeartbeats 4000000 in
set_option maxRecDepth 100000 in
theorem y_compare (hW : c_W T g k) : ∀ (f d dp : Nat), f + 2 ≤ d → dp + f = 41 → ∀ (a b : Nat) (Q : ab_Q), T a → T b → Q (some (.inl (ab_ii (c_cmp g f a b)))) (wd I P M g, k, z) → ab_CT d 94 [wd_v a, wd_v b, .inl (ab_ii (dp : Int))] (wd I P M g, k, z) Q
  | 0, d, dp, hd, hdp, a, b, Q, ha, hb, hQ => by
    unfold c_cmp at hQ
    refine wd_inC rfl (by omega) rfl ?_
    intro C9 X9 hC9 hX9
    repeat' ((conv => whnf); first
    | (intro v9 hv9; (try simp (disch := omega) only [ab_tI, ab_c0, wd_ix12, wd_ix8, wd_ix10, wd_up_self, wd_up_eq, wd_up_ne, Int.toNat_natCast, Int.toNat_of_nonneg, not_true_eq_false, not_false_eq_true, Option.some.injEq] at hv9); subst hv9)
    | (apply i_get; (focus (exact rfl)); (focus (exact rfl)))
    | (refine hX9 _ _ _ _ (wd_rnC rfl ?_); clear hC9 hX9 X9 C9; intro C9 X9 hC9 hX9)
    | (apply w_ialM; (focus (exact rfl)); (focus (exact (by first | exact ⟨by decide, by decide⟩ | ((try simp (disch := omega) only [ab_tI, ab_c0, wd_ix12, wd_ix8, wd_ix10, wd_up_self, wd_up_eq, wd_up_ne, Int.toNat_natCast, Int.toNat_of_nonneg, not_true_eq_false, not_false_eq_true, Option.some.injEq, wd_l103, wd_l104, wd_l105, wd_l106, wd_l107, wd_l108, wd_l109, wd_l110, wd_l111, wd_l112, wd_l113, wd_l114, wd_l115, wd_l116, wd_l117, wd_l118, wd_l119, wd_l120, wd_l121, wd_l122, wd_l123, wd_l124]); omega)))); (intro v9 hv9; (try simp (disch := omega) only [ab_tI, ab_c0, wd_ix12, wd_ix8, wd_ix10, wd_up_self, wd_up_eq, wd_up_ne, Int.toNat_natCast, Int.toNat_of_nonneg, not_true_eq_false, not_false_eq_true, Option.some.injEq] at hv9); subst hv9))
    | (apply w_putM; (focus (exact rfl)); (focus (first | exact trivial | exact Or.inl rfl | exact Or.inr rfl)); (focus (exact rfl)))
    | (apply w_iasM; (focus (exact rfl)); (focus (exact (by first | exact ⟨by decide, by decide⟩ | ((try simp (disch := omega) only [ab_tI, ab_c0, wd_ix12, wd_ix8, wd_ix10, wd_up_self, wd_up_eq, wd_up_ne, Int.toNat_natCast, Int.toNat_of_nonneg, not_true_eq_false, not_false_eq_true, Option.some.injEq, wd_l103, wd_l104, wd_l105, wd_l106, wd_l107, wd_l108, wd_l109, wd_l110, wd_l111, wd_l112, wd_l113, wd_l114, wd_l115, wd_l116, wd_l117, wd_l118, wd_l119, wd_l120, wd_l121, wd_l122, wd_l123, wd_l124]); omega)))); (intro v9 hv9; (try simp (disch := omega) only [ab_tI, ab_c0, wd_ix12, wd_ix8, wd_ix10, wd_up_self, wd_up_eq, wd_up_ne, Int.toNat_natCast, Int.toNat_of_nonneg, not_true_eq_false, not_false_eq_true, Option.some.injEq] at hv9); subst hv9))
    | (refine i_brF (by decide) ?_)
    | (refine i_brT (by decide) ?_)
    | (refine ⟨fun hc => ?_, fun hc => ?_⟩ <;> (try simp (disch := omega) only [ab_tI, ab_c0, wd_ix12, wd_ix8, wd_ix10, wd_up_self, wd_up_eq, wd_up_ne, Int.toNat_natCast, Int.toNat_of_nonneg, not_true_eq_false, not_false_eq_true, Option.some.injEq] at hc) <;> first | (exfalso; omega) | skip)
    | (apply i_cv; (focus (exact rfl)))
    | (apply i_len; (focus (exact rfl)))
    | (apply w_putI; (focus (exact rfl)); (focus (exact rfl)); (focus (exact rfl)); (focus (first | exact trivial | exact Or.inl rfl | exact Or.inr rfl)); (focus (exact rfl)))
    | (apply w_putP; (focus (exact rfl)); (focus (exact rfl)); (focus (exact rfl)); (focus (exact trivial)); (focus (exact rfl)))
    | (apply i_ialN; (focus (exact rfl)); (focus (first | exact Or.inl rfl | exact Or.inr rfl)); (focus (exact (by first | exact ⟨by decide, by decide⟩ | ((try simp (disch := omega) only [ab_tI, ab_c0, wd_ix12, wd_ix8, wd_ix10, wd_up_self, wd_up_eq, wd_up_ne, Int.toNat_natCast, Int.toNat_of_nonneg, not_true_eq_false, not_false_eq_true, Option.some.injEq, wd_l103, wd_l104, wd_l105, wd_l106, wd_l107, wd_l108, wd_l109, wd_l110, wd_l111, wd_l112, wd_l113, wd_l114, wd_l115, wd_l116, wd_l117, wd_l118, wd_l119, wd_l120, wd_l121, wd_l122, wd_l123, wd_l124]); omega)))); (intro v9 hv9; (try simp (disch := omega) only [ab_tI, ab_c0, wd_ix12, wd_ix8, wd_ix10, wd_up_self, wd_up_eq, wd_up_ne, Int.toNat_natCast, Int.toNat_of_nonneg, not_true_eq_false, not_false_eq_true, Option.some.injEq] at hv9); subst hv9))
    | (apply i_aalN; (focus (exact rfl)); (focus (exact (by first | exact ⟨by decide, by decide⟩ | ((try simp (disch := omega) only [ab_tI, ab_c0, wd_ix12, wd_ix8, wd_ix10, wd_up_self, wd_up_eq, wd_up_ne, Int.toNat_natCast, Int.toNat_of_nonneg, not_true_eq_false, not_false_eq_true, Option.some.injEq, wd_l103, wd_l104, wd_l105, wd_l106, wd_l107, wd_l108, wd_l109, wd_l110, wd_l111, wd_l112, wd_l113, wd_l114, wd_l115, wd_l116, wd_l117, wd_l118, wd_l119, wd_l120, wd_l121, wd_l122, wd_l123, wd_l124]); omega)))); (intro v9 hv9; (try simp (disch := omega) only [ab_tI, ab_c0, wd_ix12, wd_ix8, wd_ix10, wd_up_self, wd_up_eq, wd_up_ne, Int.toNat_natCast, Int.toNat_of_nonneg, not_true_eq_false, not_false_eq_true, Option.some.injEq] at hv9); subst hv9))
    | (apply w_iasI; (focus (exact rfl)); (focus (exact rfl)); (focus (exact (by first | exact ⟨by decide, by decide⟩ | ((try simp (disch := omega) only [ab_tI, ab_c0, wd_ix12, wd_ix8, wd_ix10, wd_up_self, wd_up_eq, wd_up_ne, Int.toNat_natCast, Int.toNat_of_nonneg, not_true_eq_false, not_false_eq_true, Option.some.injEq, wd_l103, wd_l104, wd_l105, wd_l106, wd_l107, wd_l108, wd_l109, wd_l110, wd_l111, wd_l112, wd_l113, wd_l114, wd_l115, wd_l116, wd_l117, wd_l118, wd_l119, wd_l120, wd_l121, wd_l122, wd_l123, wd_l124]); omega)))); (focus (intro _; exact rfl)); (intro v9 hv9; (try simp (disch := omega) only [ab_tI, ab_c0, wd_ix12, wd_ix8, wd_ix10, wd_up_self, wd_up_eq, wd_up_ne, Int.toNat_natCast, Int.toNat_of_nonneg, not_true_eq_false, not_false_eq_true, Option.some.injEq] at hv9); subst hv9))
    | (apply w_balM; (focus (exact (by first | exact ⟨by decide, by decide⟩ | ((try simp (disch := omega) only [ab_tI, ab_c0, wd_ix12, wd_ix8, wd_ix10, wd_up_self, wd_up_eq, wd_up_ne, Int.toNat_natCast, Int.toNat_of_nonneg, not_true_eq_false, not_false_eq_true, Option.some.injEq, wd_l103, wd_l104, wd_l105, wd_l106, wd_l107, wd_l108, wd_l109, wd_l110, wd_l111, wd_l112, wd_l113, wd_l114, wd_l115, wd_l116, wd_l117, wd_l118, wd_l119, wd_l120, wd_l121, wd_l122, wd_l123, wd_l124]); omega)))); (intro v9 hv9; (try simp (disch := omega) only [ab_tI, ab_c0, wd_ix12, wd_ix8, wd_ix10, wd_up_self, wd_up_eq, wd_up_ne, Int.toNat_natCast, Int.toNat_of_nonneg, not_true_eq_false, not_false_eq_true, Option.some.injEq] at hv9); subst hv9))
    | (apply w_basM; (focus (exact (by first | exact ⟨by decide, by decide⟩ | ((try simp (disch := omega) only [ab_tI, ab_c0, wd_ix12, wd_ix8, wd_ix10, wd_up_self, wd_up_eq, wd_up_ne, Int.toNat_natCast, Int.toNat_of_nonneg, not_true_eq_false, not_false_eq_true, Option.some.injEq, wd_l103, wd_l104, wd_l105, wd_l106, wd_l107, wd_l108, wd_l109, wd_l110, wd_l111, wd_l112, wd_l113, wd_l114, wd_l115, wd_l116, wd_l117, wd_l118, wd_l119, wd_l120, wd_l121, wd_l122, wd_l123, wd_l124]); omega)))); (focus (first | exact Or.inl rfl | exact Or.inr rfl)); (intro v9 hv9; (try simp (disch := omega) only [ab_tI, ab_c0, wd_ix12, wd_ix8, wd_ix10, wd_up_self, wd_up_eq, wd_up_ne, Int.toNat_natCast, Int.toNat_of_nonneg, not_true_eq_false, not_false_eq_true, Option.some.injEq] at hv9); subst hv9))
    | (refine And.intro trivial ?_)
    | (refine And.intro (Or.inl rfl) ?_)
    | (refine And.intro (Or.inr rfl) ?_)
    | (refine And.intro (by ((try simp (disch := omega) only [ab_tI, ab_c0, wd_ix12, wd_ix8, wd_ix10, wd_up_self, wd_up_eq, wd_up_ne, Int.toNat_natCast, Int.toNat_of_nonneg, not_true_eq_false, not_false_eq_true, Option.some.injEq]); omega)) ?_)
    | fail)
    all_goals first | exact hQ | (exfalso; omega)
  | f + 1, d, dp, hd, hdp, a, b, Q, ha, hb, hQ => by
    have hl := y_compare_l (d := d) (by omega) (I := I) (P := P) (M := M) (z := z) (Q := Q) hW ha hb (show dp ≤ 40 by omega) (F := c_cmp g f) (fun j h1 h2 Q hq => y_compare hW f (d - 1) (dp + 1) (by omega) (by omega) _ _ Q (c_W_pt hW ha h1) (c_W_pt hW hb h2) hq) (c_cmp_b f) (min (c_sz g a) (c_sz g b)) 0 (by omega)
    have s1 := c_W_sz hW ha
    have s2 := c_W_sz hW hb
    unfold c_cmp at hQ
    obtain ⟨ka, pa, nk, np, fk, fp, hc, -⟩ := c_W_get hW ha
    obtain ⟨h1, h2, h3⟩ := hc I P M z
    obtain ⟨kb, pb, nkb, npb, fkb, fpb, hcb, -⟩ := c_W_get hW hb
    obtain ⟨b1, b2, b3⟩ := hcb I P M z
    have inj : (some a = some b) ↔ a = b := ⟨fun q => Option.some.inj q, fun q => by rw [q]⟩
    by_cases hab : a = b
    · rw [if_pos hab] at hQ
      subst hab
      refine wd_inC rfl (by omega) rfl ?_
      intro C9 X9 hC9 hX9
      repeat' ((conv => whnf); first
    | (intro v9 hv9; (try simp (disch := omega) only [ab_tI, ab_c0, wd_ix12, wd_ix8, wd_ix10, wd_up_self, wd_up_eq, wd_up_ne, Int.toNat_natCast, Int.toNat_of_nonneg, not_true_eq_false, not_false_eq_true, Option.some.injEq] at hv9); subst hv9)
    | (apply i_get; (focus (exact rfl)); (focus (exact rfl)))
    | (refine hX9 _ _ _ _ (wd_rnC rfl ?_); clear hC9 hX9 X9 C9; intro C9 X9 hC9 hX9)
    | (apply w_ialM; (focus (exact rfl)); (focus (exact (by first | exact ⟨by decide, by decide⟩ | ((try simp (disch := omega) only [ab_tI, ab_c0, wd_ix12, wd_ix8, wd_ix10, wd_up_self, wd_up_eq, wd_up_ne, Int.toNat_natCast, Int.toNat_of_nonneg, not_true_eq_false, not_false_eq_true, Option.some.injEq, wd_l103, wd_l104, wd_l105, wd_l106, wd_l107, wd_l108, wd_l109, wd_l110, wd_l111, wd_l112, wd_l113, wd_l114, wd_l115, wd_l116, wd_l117, wd_l118, wd_l119, wd_l120, wd_l121, wd_l122, wd_l123, wd_l124]); omega)))); (intro v9 hv9; (try simp (disch := omega) only [ab_tI, ab_c0, wd_ix12, wd_ix8, wd_ix10, wd_up_self, wd_up_eq, wd_up_ne, Int.toNat_natCast, Int.toNat_of_nonneg, not_true_eq_false, not_false_eq_true, Option.some.injEq] at hv9); subst hv9))
    | (apply w_putM; (focus (exact rfl)); (focus (first | exact trivial | exact Or.inl rfl | exact Or.inr rfl)); (focus (exact rfl)))
    | (apply w_iasM; (focus (exact rfl)); (focus (exact (by first | exact ⟨by decide, by decide⟩ | ((try simp (disch := omega) only [ab_tI, ab_c0, wd_ix12, wd_ix8, wd_ix10, wd_up_self, wd_up_eq, wd_up_ne, Int.toNat_natCast, Int.toNat_of_nonneg, not_true_eq_false, not_false_eq_true, Option.some.injEq, wd_l103, wd_l104, wd_l105, wd_l106, wd_l107, wd_l108, wd_l109, wd_l110, wd_l111, wd_l112, wd_l113, wd_l114, wd_l115, wd_l116, wd_l117, wd_l118, wd_l119, wd_l120, wd_l121, wd_l122, wd_l123, wd_l124]); omega)))); (intro v9 hv9; (try simp (disch := omega) only [ab_tI, ab_c0, wd_ix12, wd_ix8, wd_ix10, wd_up_self, wd_up_eq, wd_up_ne, Int.toNat_natCast, Int.toNat_of_nonneg, not_true_eq_false, not_false_eq_true, Option.some.injEq] at hv9); subst hv9))
    | (refine i_brF (by decide) ?_)
    | (refine i_brT (by decide) ?_)
    | (refine ⟨fun hc => ?_, fun hc => ?_⟩ <;> (try simp (disch := omega) only [ab_tI, ab_c0, wd_ix12, wd_ix8, wd_ix10, wd_up_self, wd_up_eq, wd_up_ne, Int.toNat_natCast, Int.toNat_of_nonneg, not_true_eq_false, not_false_eq_true, Option.some.injEq] at hc) <;> first | (exfalso; omega) | skip)
    | (apply i_cv; (focus (exact rfl)))
    | (apply i_len; (focus (exact rfl)))
    | (apply w_putI; (focus (exact rfl)); (focus (exact rfl)); (focus (exact rfl)); (focus (first | exact trivial | exact Or.inl rfl | exact Or.inr rfl)); (focus (exact rfl)))
    | (apply w_putP; (focus (exact rfl)); (focus (exact rfl)); (focus (exact rfl)); (focus (exact trivial)); (focus (exact rfl)))
    | (apply i_ialN; (focus (exact rfl)); (focus (first | exact Or.inl rfl | exact Or.inr rfl)); (focus (exact (by first | exact ⟨by decide, by decide⟩ | ((try simp (disch := omega) only [ab_tI, ab_c0, wd_ix12, wd_ix8, wd_ix10, wd_up_self, wd_up_eq, wd_up_ne, Int.toNat_natCast, Int.toNat_of_nonneg, not_true_eq_false, not_false_eq_true, Option.some.injEq, wd_l103, wd_l104, wd_l105, wd_l106, wd_l107, wd_l108, wd_l109, wd_l110, wd_l111, wd_l112, wd_l113, wd_l114, wd_l115, wd_l116, wd_l117, wd_l118, wd_l119, wd_l120, wd_l121, wd_l122, wd_l123, wd_l124]); omega)))); (intro v9 hv9; (try simp (disch := omega) only [ab_tI, ab_c0, wd_ix12, wd_ix8, wd_ix10, wd_up_self, wd_up_eq, wd_up_ne, Int.toNat_natCast, Int.toNat_of_nonneg, not_true_eq_false, not_false_eq_true, Option.some.injEq] at hv9); subst hv9))
    | (apply i_aalN; (focus (exact rfl)); (focus (exact (by first | exact ⟨by decide, by decide⟩ | ((try simp (disch := omega) only [ab_tI, ab_c0, wd_ix12, wd_ix8, wd_ix10, wd_up_self, wd_up_eq, wd_up_ne, Int.toNat_natCast, Int.toNat_of_nonneg, not_true_eq_false, not_false_eq_true, Option.some.injEq, wd_l103, wd_l104, wd_l105, wd_l106, wd_l107, wd_l108, wd_l109, wd_l110, wd_l111, wd_l112, wd_l113, wd_l114, wd_l115, wd_l116, wd_l117, wd_l118, wd_l119, wd_l120, wd_l121, wd_l122, wd_l123, wd_l124]); omega)))); (intro v9 hv9; (try simp (disch := omega) only [ab_tI, ab_c0, wd_ix12, wd_ix8, wd_ix10, wd_up_self, wd_up_eq, wd_up_ne, Int.toNat_natCast, Int.toNat_of_nonneg, not_true_eq_false, not_false_eq_true, Option.some.injEq] at hv9); subst hv9))
    | (apply w_iasI; (focus (exact rfl)); (focus (exact rfl)); (focus (exact (by first | exact ⟨by decide, by decide⟩ | ((try simp (disch := omega) only [ab_tI, ab_c0, wd_ix12, wd_ix8, wd_ix10, wd_up_self, wd_up_eq, wd_up_ne, Int.toNat_natCast, Int.toNat_of_nonneg, not_true_eq_false, not_false_eq_true, Option.some.injEq, wd_l103, wd_l104, wd_l105, wd_l106, wd_l107, wd_l108, wd_l109, wd_l110, wd_l111, wd_l112, wd_l113, wd_l114, wd_l115, wd_l116, wd_l117, wd_l118, wd_l119, wd_l120, wd_l121, wd_l122, wd_l123, wd_l124]); omega)))); (focus (intro _; exact rfl)); (intro v9 hv9; (try simp (disch := omega) only [ab_tI, ab_c0, wd_ix12, wd_ix8, wd_ix10, wd_up_self, wd_up_eq, wd_up_ne, Int.toNat_natCast, Int.toNat_of_nonneg, not_true_eq_false, not_false_eq_true, Option.some.injEq] at hv9); subst hv9))
    | (apply w_balM; (focus (exact (by first | exact ⟨by decide, by decide⟩ | ((try simp (disch := omega) only [ab_tI, ab_c0, wd_ix12, wd_ix8, wd_ix10, wd_up_self, wd_up_eq, wd_up_ne, Int.toNat_natCast, Int.toNat_of_nonneg, not_true_eq_false, not_false_eq_true, Option.some.injEq, wd_l103, wd_l104, wd_l105, wd_l106, wd_l107, wd_l108, wd_l109, wd_l110, wd_l111, wd_l112, wd_l113, wd_l114, wd_l115, wd_l116, wd_l117, wd_l118, wd_l119, wd_l120, wd_l121, wd_l122, wd_l123, wd_l124]); omega)))); (intro v9 hv9; (try simp (disch := omega) only [ab_tI, ab_c0, wd_ix12, wd_ix8, wd_ix10, wd_up_self, wd_up_eq, wd_up_ne, Int.toNat_natCast, Int.toNat_of_nonneg, not_true_eq_false, not_false_eq_true, Option.some.injEq] at hv9); subst hv9))
    | (apply w_basM; (focus (exact (by first | exact ⟨by decide, by decide⟩ | ((try simp (disch := omega) only [ab_tI, ab_c0, wd_ix12, wd_ix8, wd_ix10, wd_up_self, wd_up_eq, wd_up_ne, Int.toNat_natCast, Int.toNat_of_nonneg, not_true_eq_false, not_false_eq_true, Option.some.injEq, wd_l103, wd_l104, wd_l105, wd_l106, wd_l107, wd_l108, wd_l109, wd_l110, wd_l111, wd_l112, wd_l113, wd_l114, wd_l115, wd_l116, wd_l117, wd_l118, wd_l119, wd_l120, wd_l121, wd_l122, wd_l123, wd_l124]); omega)))); (focus (first | exact Or.inl rfl | exact Or.inr rfl)); (intro v9 hv9; (try simp (disch := omega) only [ab_tI, ab_c0, wd_ix12, wd_ix8, wd_ix10, wd_up_self, wd_up_eq, wd_up_ne, Int.toNat_natCast, Int.toNat_of_nonneg, not_true_eq_false, not_false_eq_true, Option.some.injEq] at hv9); subst hv9))
    | (refine And.intro trivial ?_)
    | (refine And.intro (Or.inl rfl) ?_)
    | (refine And.intro (Or.inr rfl) ?_)
    | (refine And.intro (by ((try simp (disch := omega) only [ab_tI, ab_c0, wd_ix12, wd_ix8, wd_ix10, wd_up_self, wd_up_eq, wd_up_ne, Int.toNat_natCast, Int.toNat_of_nonneg, not_true_eq_false, not_false_eq_true, Option.some.injEq]); omega)) ?_)
    | fail)
      all_goals first | exact hQ | (exfalso; omega)
    · rw [if_neg hab] at hQ
      have hne : ¬ (some a = some b) := fun q => hab (Option.some.inj q)
      refine wd_inC rfl (by omega) rfl ?_
      intro C9 X9 hC9 hX9
      repeat' ((conv => whnf); first
    | (refine ⟨fun q9 => absurd q9 hne, fun _ => ?_⟩)
    | (apply i_getN; (focus (first | exact h1 | exact b1)); (focus (exact rfl)); (intro v9 hv9; (try simp (disch := omega) only [ab_tI, ab_c0, wd_ix12, wd_ix8, wd_ix10, wd_up_self, wd_up_eq, wd_up_ne, Int.toNat_natCast, Int.toNat_of_nonneg, not_true_eq_false, not_false_eq_true, Option.some.injEq] at hv9); subst hv9))
    | (apply i_cv; (focus (first | exact h1 | exact b1)))
    | (apply i_len; (focus (first | exact congrArg ab_len (h1) | exact congrArg ab_len (b1))))
    | (apply i_ialN; (focus (first | exact h1 | exact b1)); (focus (first | exact Or.inl rfl | exact Or.inr rfl)); (focus (exact (by first | exact ⟨by decide, by decide⟩ | ((try simp (disch := omega) only [ab_tI, ab_c0, wd_ix12, wd_ix8, wd_ix10, wd_up_self, wd_up_eq, wd_up_ne, Int.toNat_natCast, Int.toNat_of_nonneg, not_true_eq_false, not_false_eq_true, Option.some.injEq, wd_l103, wd_l104, wd_l105, wd_l106, wd_l107, wd_l108, wd_l109, wd_l110, wd_l111, wd_l112, wd_l113, wd_l114, wd_l115, wd_l116, wd_l117, wd_l118, wd_l119, wd_l120, wd_l121, wd_l122, wd_l123, wd_l124]); omega)))); (intro v9 hv9; (try simp (disch := omega) only [ab_tI, ab_c0, wd_ix12, wd_ix8, wd_ix10, wd_up_self, wd_up_eq, wd_up_ne, Int.toNat_natCast, Int.toNat_of_nonneg, not_true_eq_false, not_false_eq_true, Option.some.injEq] at hv9); subst hv9))
    | (apply i_aalN; (focus (first | exact h1 | exact b1)); (focus (exact (by first | exact ⟨by decide, by decide⟩ | ((try simp (disch := omega) only [ab_tI, ab_c0, wd_ix12, wd_ix8, wd_ix10, wd_up_self, wd_up_eq, wd_up_ne, Int.toNat_natCast, Int.toNat_of_nonneg, not_true_eq_false, not_false_eq_true, Option.some.injEq, wd_l103, wd_l104, wd_l105, wd_l106, wd_l107, wd_l108, wd_l109, wd_l110, wd_l111, wd_l112, wd_l113, wd_l114, wd_l115, wd_l116, wd_l117, wd_l118, wd_l119, wd_l120, wd_l121, wd_l122, wd_l123, wd_l124]); omega)))); (intro v9 hv9; (try simp (disch := omega) only [ab_tI, ab_c0, wd_ix12, wd_ix8, wd_ix10, wd_up_self, wd_up_eq, wd_up_ne, Int.toNat_natCast, Int.toNat_of_nonneg, not_true_eq_false, not_false_eq_true, Option.some.injEq] at hv9); subst hv9))
    | (refine hC9 87 _ _ _ (y_size (by omega) hW ha ?_))
    | (refine hC9 87 _ _ _ (y_size (by omega) hW hb ?_))
    | (refine hC9 200 _ _ _ (y_min (by omega) (by omega) (by omega) ?_))
    | (refine hC9 198 _ _ _ (y_icmp (by omega) (fun hc => ?_) (fun hc => ?_) (fun hc => ?_)))
    | (refine hX9 95 _ _ _ (ab_WB_sub ?_ (hl ?_)); (focus ((repeat (first | exact ab_sub0 | (refine ab_sub1 ?_ ?_; (focus ((repeat (refine ab_skip rfl ?_)); first | exact List.mem_cons_self))))))))
    | (intro v9 hv9; (try simp (disch := omega) only [ab_tI, ab_c0, wd_ix12, wd_ix8, wd_ix10, wd_up_self, wd_up_eq, wd_up_ne, Int.toNat_natCast, Int.toNat_of_nonneg, not_true_eq_false, not_false_eq_true, Option.some.injEq] at hv9); subst hv9)
    | (apply i_get; (focus (exact rfl)); (focus (exact rfl)))
    | (refine hX9 _ _ _ _ (wd_rnC rfl ?_); clear hC9 hX9 X9 C9; intro C9 X9 hC9 hX9)
    | (apply w_ialM; (focus (exact rfl)); (focus (exact (by first | exact ⟨by decide, by decide⟩ | ((try simp (disch := omega) only [ab_tI, ab_c0, wd_ix12, wd_ix8, wd_ix10, wd_up_self, wd_up_eq, wd_up_ne, Int.toNat_natCast, Int.toNat_of_nonneg, not_true_eq_false, not_false_eq_true, Option.some.injEq, wd_l103, wd_l104, wd_l105, wd_l106, wd_l107, wd_l108, wd_l109, wd_l110, wd_l111, wd_l112, wd_l113, wd_l114, wd_l115, wd_l116, wd_l117, wd_l118, wd_l119, wd_l120, wd_l121, wd_l122, wd_l123, wd_l124]); omega)))); (intro v9 hv9; (try simp (disch := omega) only [ab_tI, ab_c0, wd_ix12, wd_ix8, wd_ix10, wd_up_self, wd_up_eq, wd_up_ne, Int.toNat_natCast, Int.toNat_of_nonneg, not_true_eq_false, not_false_eq_true, Option.some.injEq] at hv9); subst hv9))
    | (apply w_putM; (focus (exact rfl)); (focus (first | exact trivial | exact Or.inl rfl | exact Or.inr rfl)); (focus (exact rfl)))
    | (apply w_iasM; (focus (exact rfl)); (focus (exact (by first | exact ⟨by decide, by decide⟩ | ((try simp (disch := omega) only [ab_tI, ab_c0, wd_ix12, wd_ix8, wd_ix10, wd_up_self, wd_up_eq, wd_up_ne, Int.toNat_natCast, Int.toNat_of_nonneg, not_true_eq_false, not_false_eq_true, Option.some.injEq, wd_l103, wd_l104, wd_l105, wd_l106, wd_l107, wd_l108, wd_l109, wd_l110, wd_l111, wd_l112, wd_l113, wd_l114, wd_l115, wd_l116, wd_l117, wd_l118, wd_l119, wd_l120, wd_l121, wd_l122, wd_l123, wd_l124]); omega)))); (intro v9 hv9; (try simp (disch := omega) only [ab_tI, ab_c0, wd_ix12, wd_ix8, wd_ix10, wd_up_self, wd_up_eq, wd_up_ne, Int.toNat_natCast, Int.toNat_of_nonneg, not_true_eq_false, not_false_eq_true, Option.some.injEq] at hv9); subst hv9))
    | (refine i_brF (by decide) ?_)
    | (refine i_brT (by decide) ?_)
    | (refine ⟨fun hc => ?_, fun hc => ?_⟩ <;> (try simp (disch := omega) only [ab_tI, ab_c0, wd_ix12, wd_ix8, wd_ix10, wd_up_self, wd_up_eq, wd_up_ne, Int.toNat_natCast, Int.toNat_of_nonneg, not_true_eq_false, not_false_eq_true, Option.some.injEq] at hc) <;> first | (exfalso; omega) | skip)
    | (apply i_cv; (focus (exact rfl)))
    | (apply i_len; (focus (exact rfl)))
    | (apply w_putI; (focus (exact rfl)); (focus (exact rfl)); (focus (exact rfl)); (focus (first | exact trivial | exact Or.inl rfl | exact Or.inr rfl)); (focus (exact rfl)))
    | (apply w_putP; (focus (exact rfl)); (focus (exact rfl)); (focus (exact rfl)); (focus (exact trivial)); (focus (exact rfl)))
    | (apply i_ialN; (focus (exact rfl)); (focus (first | exact Or.inl rfl | exact Or.inr rfl)); (focus (exact (by first | exact ⟨by decide, by decide⟩ | ((try simp (disch := omega) only [ab_tI, ab_c0, wd_ix12, wd_ix8, wd_ix10, wd_up_self, wd_up_eq, wd_up_ne, Int.toNat_natCast, Int.toNat_of_nonneg, not_true_eq_false, not_false_eq_true, Option.some.injEq, wd_l103, wd_l104, wd_l105, wd_l106, wd_l107, wd_l108, wd_l109, wd_l110, wd_l111, wd_l112, wd_l113, wd_l114, wd_l115, wd_l116, wd_l117, wd_l118, wd_l119, wd_l120, wd_l121, wd_l122, wd_l123, wd_l124]); omega)))); (intro v9 hv9; (try simp (disch := omega) only [ab_tI, ab_c0, wd_ix12, wd_ix8, wd_ix10, wd_up_self, wd_up_eq, wd_up_ne, Int.toNat_natCast, Int.toNat_of_nonneg, not_true_eq_false, not_false_eq_true, Option.some.injEq] at hv9); subst hv9))
    | (apply i_aalN; (focus (exact rfl)); (focus (exact (by first | exact ⟨by decide, by decide⟩ | ((try simp (disch := omega) only [ab_tI, ab_c0, wd_ix12, wd_ix8, wd_ix10, wd_up_self, wd_up_eq, wd_up_ne, Int.toNat_natCast, Int.toNat_of_nonneg, not_true_eq_false, not_false_eq_true, Option.some.injEq, wd_l103, wd_l104, wd_l105, wd_l106, wd_l107, wd_l108, wd_l109, wd_l110, wd_l111, wd_l112, wd_l113, wd_l114, wd_l115, wd_l116, wd_l117, wd_l118, wd_l119, wd_l120, wd_l121, wd_l122, wd_l123, wd_l124]); omega)))); (intro v9 hv9; (try simp (disch := omega) only [ab_tI, ab_c0, wd_ix12, wd_ix8, wd_ix10, wd_up_self, wd_up_eq, wd_up_ne, Int.toNat_natCast, Int.toNat_of_nonneg, not_true_eq_false, not_false_eq_true, Option.some.injEq] at hv9); subst hv9))
    | (apply w_iasI; (focus (exact rfl)); (focus (exact rfl)); (focus (exact (by first | exact ⟨by decide, by decide⟩ | ((try simp (disch := omega) only [ab_tI, ab_c0, wd_ix12, wd_ix8, wd_ix10, wd_up_self, wd_up_eq, wd_up_ne, Int.toNat_natCast, Int.toNat_of_nonneg, not_true_eq_false, not_false_eq_true, Option.some.injEq, wd_l103, wd_l104, wd_l105, wd_l106, wd_l107, wd_l108, wd_l109, wd_l110, wd_l111, wd_l112, wd_l113, wd_l114, wd_l115, wd_l116, wd_l117, wd_l118, wd_l119, wd_l120, wd_l121, wd_l122, wd_l123, wd_l124]); omega)))); (focus (intro _; exact rfl)); (intro v9 hv9; (try simp (disch := omega) only [ab_tI, ab_c0, wd_ix12, wd_ix8, wd_ix10, wd_up_self, wd_up_eq, wd_up_ne, Int.toNat_natCast, Int.toNat_of_nonneg, not_true_eq_false, not_false_eq_true, Option.some.injEq] at hv9); subst hv9))
    | (apply w_balM; (focus (exact (by first | exact ⟨by decide, by decide⟩ | ((try simp (disch := omega) only [ab_tI, ab_c0, wd_ix12, wd_ix8, wd_ix10, wd_up_self, wd_up_eq, wd_up_ne, Int.toNat_natCast, Int.toNat_of_nonneg, not_true_eq_false, not_false_eq_true, Option.some.injEq, wd_l103, wd_l104, wd_l105, wd_l106, wd_l107, wd_l108, wd_l109, wd_l110, wd_l111, wd_l112, wd_l113, wd_l114, wd_l115, wd_l116, wd_l117, wd_l118, wd_l119, wd_l120, wd_l121, wd_l122, wd_l123, wd_l124]); omega)))); (intro v9 hv9; (try simp (disch := omega) only [ab_tI, ab_c0, wd_ix12, wd_ix8, wd_ix10, wd_up_self, wd_up_eq, wd_up_ne, Int.toNat_natCast, Int.toNat_of_nonneg, not_true_eq_false, not_false_eq_true, Option.some.injEq] at hv9); subst hv9))
    | (apply w_basM; (focus (exact (by first | exact ⟨by decide, by decide⟩ | ((try simp (disch := omega) only [ab_tI, ab_c0, wd_ix12, wd_ix8, wd_ix10, wd_up_self, wd_up_eq, wd_up_ne, Int.toNat_natCast, Int.toNat_of_nonneg, not_true_eq_false, not_false_eq_true, Option.some.injEq, wd_l103, wd_l104, wd_l105, wd_l106, wd_l107, wd_l108, wd_l109, wd_l110, wd_l111, wd_l112, wd_l113, wd_l114, wd_l115, wd_l116, wd_l117, wd_l118, wd_l119, wd_l120, wd_l121, wd_l122, wd_l123, wd_l124]); omega)))); (focus (first | exact Or.inl rfl | exact Or.inr rfl)); (intro v9 hv9; (try simp (disch := omega) only [ab_tI, ab_c0, wd_ix12, wd_ix8, wd_ix10, wd_up_self, wd_up_eq, wd_up_ne, Int.toNat_natCast, Int.toNat_of_nonneg, not_true_eq_false, not_false_eq_true, Option.some.injEq] at hv9); subst hv9))
    | (refine And.intro trivial ?_)
    | (refine And.intro (Or.inl rfl) ?_)
    | (refine And.intro (Or.inr rfl) ?_)
    | (refine And.intro (by ((try simp (disch := omega) only [ab_tI, ab_c0, wd_ix12, wd_ix8, wd_ix10, wd_up_self, wd_up_eq, wd_up_ne, Int.toNat_natCast, Int.toNat_of_nonneg, not_true_eq_false, not_false_eq_true, Option.some.injEq]); omega)) ?_)
    | fail)
      all_goals (repeat' (split at hQ)) <;> first | exact hQ | (exfalso; omega)
end
end
