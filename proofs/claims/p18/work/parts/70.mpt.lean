/-! ===== the reference: what put makes is a good row (own text) ===== -/
/-- puts over a row in order: still in order, its parts the old ones and the new one -/
theorem m_puts_row {C : wd_I} {c key y : Int32} {s : Nat} (hs : (C 105 c.toInt.toNat).toInt = (s : Int)) (h12 : s ≤ 12) (hsr : ∀ j, j + 1 < s → (C 109 (12 * c.toInt.toNat + j)).toInt < (C 109 (12 * c.toInt.toNat + (j + 1))).toInt) (hfit : s ≤ 11 ∨ ∃ j, j < s ∧ (C 109 (12 * c.toInt.toNat + j)).toInt = key.toInt) : ∃ S : Nat, (m_puts C c key y s 105 c.toInt.toNat).toInt = (S : Int) ∧ S ≤ 12 ∧ (∀ j, j + 1 < S → (m_puts C c key y s 109 (12 * c.toInt.toNat + j)).toInt < (m_puts C c key y s 109 (12 * c.toInt.toNat + (j + 1))).toInt) ∧ ∀ j, j < S → m_puts C c key y s 108 (12 * c.toInt.toNat + j) = y ∨ ∃ i, i < s ∧ m_puts C c key y s 108 (12 * c.toInt.toNat + j) = C 108 (12 * c.toInt.toNat + i) := by
  have hle := m_pk_le (M := C) (t := c) (key := key) (s := s)
  by_cases hpn : m_pn C c key s
  · have hno : ∀ j, j < s → ¬ (C 109 (12 * c.toInt.toNat + j)).toInt = key.toInt := fun j hj e => m_pn_has hsr ⟨j, hj, e⟩ hpn
    have h11 : s ≤ 11 := by
      rcases hfit with h | ⟨j, hj, e⟩
      · exact h
      · exact absurd e (hno j hj)
    refine ⟨s + 1, by rw [m_puts_5, if_pos hpn, ab_tI (by omega) (by omega)]; omega, by omega, (m_puts_sorted hsr hno).2, fun j hj => ?_⟩
    rw [m_puts_8]
    by_cases e : j = m_pk C c key s
    · rw [if_pos e]; exact Or.inl rfl
    · rw [if_neg e]
      by_cases e2 : m_pk C c key s < j
      · rw [if_pos ⟨hpn, e2, by omega⟩]
        exact Or.inr ⟨j - 1, by omega, rfl⟩
      · rw [if_neg (fun q => e2 q.2.1)]
        exact Or.inr ⟨j, by omega, rfl⟩
  · have hk : m_pk C c key s < s ∧ (C 109 (12 * c.toInt.toNat + m_pk C c key s)).toInt = key.toInt := by
      unfold m_pn at hpn
      omega
    refine ⟨s, by rw [m_puts_5, if_neg hpn]; exact hs, h12, fun j hj => ?_, fun j hj => ?_⟩
    · have e9 : ∀ i, (m_puts C c key y s 109 (12 * c.toInt.toNat + i)).toInt = (C 109 (12 * c.toInt.toNat + i)).toInt := fun i => by
        rw [m_puts_9, if_neg (fun q => hpn q.1 : ¬ (m_pn C c key s ∧ m_pk C c key s < i ∧ i ≤ s))]
        split
        · next e => rw [e]; exact hk.2.symm
        · rfl
      rw [e9, e9]
      exact hsr j hj
    · rw [m_puts_8, if_neg (fun q => hpn q.1 : ¬ (m_pn C c key s ∧ m_pk C c key s < j ∧ j ≤ s))]
      split
      · exact Or.inl rfl
      · exact Or.inr ⟨j, hj, rfl⟩
theorem m_pW_T {M : wd_I} {what : Int} {map y n : Int32} {s : Nat} (hT : m_T M (M 102 8).toInt) (h8 : (M 102 8).toInt ≤ 3012) (hma : 0 ≤ map.toInt ∧ map.toInt < (M 102 8).toInt) (hmb : 0 ≤ y.toInt ∧ y.toInt < (M 102 8).toInt) (hsz : (M 105 map.toInt.toNat).toInt = (s : Int)) (hk : what = 2 → (M 103 map.toInt.toNat).toInt = 3) (h12 : what = 2 → (s ≤ 11 ∨ ¬ (m_hk M map.toInt.toNat (ab_ii (n.toInt + 1)) s).toInt = 0)) : m_fr (M 102 8).toInt M (m_pW M what map y n s) ∧ m_s1 M (m_pW M what map y n s) ∧ ((m_pW M what map y n s 106 (M 102 8).toInt.toNat).toInt ≤ 200 → (m_pW M what map y n s 107 (M 102 8).toInt.toNat).toInt ≤ 12 → m_T (m_pW M what map y n s) (m_pW M what map y n s 102 8).toInt) := by
  have h0 : 0 ≤ (M 102 8).toInt := by omega
  obtain ⟨s', a1, a2, a3, a4, a5, a6, a7, a8, a9, a10, a11⟩ := m_T_row hT (t := map.toInt.toNat) (by omega)
  have es : s' = s := by omega
  subst es
  have hA : ∃ S : Nat, (m_pA M what map y n s' 105 (M 102 8).toInt.toNat).toInt = (S : Int) ∧ S ≤ 12 ∧ m_fr (M 102 8).toInt M (m_pA M what map y n s') ∧ m_s1 M (m_pA M what map y n s') ∧ (1 ≤ (m_pA M what map y n s' 103 (M 102 8).toInt.toNat).toInt ∧ (m_pA M what map y n s' 103 (M 102 8).toInt.toNat).toInt ≤ 3) ∧ (∀ j, j < S → 0 ≤ (m_pA M what map y n s' 108 (12 * (M 102 8).toInt.toNat + j)).toInt ∧ (m_pA M what map y n s' 108 (12 * (M 102 8).toInt.toNat + j)).toInt < (M 102 8).toInt) ∧ (¬ (m_pA M what map y n s' 103 (M 102 8).toInt.toNat).toInt = 3 → ∀ j, j < S → (m_pA M what map y n s' 109 (12 * (M 102 8).toInt.toNat + j)).toInt = 0) ∧ ((m_pA M what map y n s' 103 (M 102 8).toInt.toNat).toInt = 3 → ∀ j, j + 1 < S → (m_pA M what map y n s' 109 (12 * (M 102 8).toInt.toNat + j)).toInt < (m_pA M what map y n s' 109 (12 * (M 102 8).toInt.toNat + (j + 1))).toInt) := by
    unfold m_pA
    by_cases h2 : what = 2
    · rw [if_pos h2]
      have hCf : m_fr (M 102 8).toInt M (m_copyOf M map s') := m_copyOf_fr m_fr.rf (Int.le_refl _)
      have hCk : ∀ j, j < s' → m_copyOf M map s' 109 (12 * (M 102 8).toInt.toNat + j) = M 109 (12 * map.toInt.toNat + j) := fun j hj => m_copyOf_ky hma.1 hma.2 a2 hj
      have hCp : ∀ j, j < s' → m_copyOf M map s' 108 (12 * (M 102 8).toInt.toNat + j) = M 108 (12 * map.toInt.toNat + j) := fun j hj => m_copyOf_pt hma.1 hma.2 a2 hj
      obtain ⟨S, q1, q2, q3, q4⟩ := m_puts_row (C := m_copyOf M map s') (c := M 102 8) (key := ab_ii (n.toInt + 1)) (y := y) (s := s') (by rw [m_copyOf_sz]; exact a1) a2 (fun j hj => by rw [hCk j (by omega), hCk (j + 1) hj]; exact a11 (hk h2) j hj) (by
        rcases h12 h2 with h | h
        · exact Or.inl h
        · obtain ⟨j, hj, e⟩ := m_hk_ex s' h
          exact Or.inr ⟨j, hj, by rw [hCk j hj]; exact e⟩)
      have hrw : m_rw (M 102 8).toInt (m_copyOf M map s') (m_puts (m_copyOf M map s') (M 102 8) (ab_ii (n.toInt + 1)) y s') := m_puts_rw h0 (Int.le_refl _)
      have e103 : m_puts (m_copyOf M map s') (M 102 8) (ab_ii (n.toInt + 1)) y s' 103 (M 102 8).toInt.toNat = M 103 map.toInt.toNat := by
        unfold m_puts m_puts1
        rw [wd_up_row _ _ _ (by decide), wd_up_row _ _ _ (by decide)]
        split
        · rw [wd_up_row _ _ _ (by decide), m_psh_row (by decide) (by decide), m_copyOf_kd]
        · rw [m_copyOf_kd]
      refine ⟨S, q1, q2, ⟨hCf.1.tr hrw.1 (Int.le_refl _), fun a ha => (hrw.2.1 a ha).trans (hCf.2.1 a ha), fun j j1 j2 j3 j4 => by rw [hrw.2.2]; exact hCf.2.2 j j1 j2 j3 j4⟩, ⟨by rw [hrw.2.2]; exact m_copyOf_8, fun j hj => by rw [hrw.2.2]; unfold m_copyOf; rw [m_cpl_row (by decide) (by decide), m_begins_n hj]⟩, by rw [e103, hk h2]; omega, fun j hj => ?_, fun h3 => by rw [e103] at h3; exact absurd (hk h2) h3, fun _ => q3⟩
      rcases q4 j hj with e | ⟨i, hi, e⟩
      · rw [e]; exact hmb
      · rw [e, hCp i hi]
        exact ⟨(a6 i hi).1, (a6 i hi).2.1⟩
    · rw [if_neg h2]
      obtain ⟨sort, hsort⟩ : ∃ sort, sort = ab_ii (if what = 0 then 1 else 2) := ⟨_, rfl⟩
      have hso : sort.toInt = 1 ∨ sort.toInt = 2 := by
        rw [hsort]
        split
        · left; decide
        · right; decide
      rw [← hsort]
      have e103 : m_adds (m_adds (m_begins M sort (ab_ii 0) (ab_ii 0)) (M 102 8) (ab_ii 0) map 0) (M 102 8) (ab_ii 0) y 1 103 (M 102 8).toInt.toNat = sort := by rw [m_adds_kd, m_adds_kd, m_begins_kd]
      refine ⟨2, by rw [m_adds_sz]; decide, by omega, m_adds_fr (m_adds_fr (m_begins_fr m_fr.rf (Int.le_refl _)) h0 (Int.le_refl _)) h0 (Int.le_refl _), ⟨by rw [m_adds_102, m_adds_102, m_begins_8], fun j hj => by rw [m_adds_102, m_adds_102, m_begins_n hj]⟩, by rw [e103]; omega, fun j hj => ?_, fun _ j hj => ?_, fun h3 => by rw [e103] at h3; omega⟩
      · by_cases e : j = 1
        · subst e; rw [m_adds_pt]; exact hmb
        · have e0 : j = 0 := by omega
          subst e0
          rw [m_adds_pn (by omega), m_adds_pt]; exact hma
      · rw [m_adds_ky]
        split
        · decide
        · rw [m_adds_ky, if_pos (by omega)]; decide
  obtain ⟨S, q1, q2, q3, q4, q5, q6, q7, q8⟩ := hA
  have hszz : m_sz (m_pA M what map y n s') (M 102 8) = S := by unfold m_sz; rw [q1]; omega
  unfold m_pW
  rw [hszz]
  generalize m_pA M what map y n s' = A at *
  have hfE : m_fr (M 102 8).toInt M (m_ends A (M 102 8) S) := m_ends_fr q3 (Int.le_refl _)
  have e102 : m_ends A (M 102 8) S 102 = A 102 := m_ends_row (by decide) (by decide)
  refine ⟨hfE, ⟨by rw [e102]; exact q4.1, fun j hj => by rw [e102]; exact q4.2 j hj⟩, fun hn hh => ?_⟩
  have hpart : ∀ j, j < S → (1 ≤ (A 106 (A 108 (12 * (M 102 8).toInt.toNat + j)).toInt.toNat).toInt ∧ (A 106 (A 108 (12 * (M 102 8).toInt.toNat + j)).toInt.toNat).toInt ≤ 200) ∧ (0 ≤ (A 107 (A 108 (12 * (M 102 8).toInt.toNat + j)).toInt.toNat).toInt ∧ (A 107 (A 108 (12 * (M 102 8).toInt.toNat + j)).toInt.toNat).toInt ≤ 12) := fun j hj => by
    obtain ⟨p1, p2⟩ := q6 j hj
    obtain ⟨-, -, -, e6, e7⟩ := q3.1.1 (A 108 (12 * (M 102 8).toInt.toNat + j)).toInt.toNat (by omega)
    obtain ⟨s2, b1, b2, b3, b4, b5, -⟩ := m_T_row hT (t := (A 108 (12 * (M 102 8).toInt.toNat + j)).toInt.toNat) (by omega)
    rw [e6, e7]
    exact ⟨b5, b4⟩
  obtain ⟨g1, g2, g3, g4, g5⟩ := m_ends_gr (D := fun x => x < (M 102 8).toInt) (N := A) (t := M 102 8) q1 q2 (by omega) (fun j hj => ⟨(q6 j hj).1, (q6 j hj).2, by have := q6 j hj; omega⟩) (fun j hj => by have := hpart j hj; omega) (fun j hj => by have := hpart j hj; omega) (fun h => by omega) q7 q8
  have e8 : (m_ends A (M 102 8) S 102 8).toInt = (M 102 8).toInt + 1 := by rw [e102, q4.1, ab_tI (by omega) (by omega)]
  rw [e8]
  refine ⟨by omega, fun q hq => ?_⟩
  by_cases hc : (q : Int) < (M 102 8).toInt
  · obtain ⟨b1, b2, b3⟩ := hT.2 q hc
    have hr := hfE.1.ra hc
    exact ⟨m_gr_ra b1 hr (fun x hx hxD => hfE.1.ra (by omega)) (fun x _ hx => by omega), by rw [hr.2.2.2.1]; exact b2, by rw [hr.2.2.2.2.1]; exact b3⟩
  · have eq : q = (M 102 8).toInt.toNat := by omega
    subst eq
    exact ⟨m_gr_ra g1 m_ra.rf (fun _ _ _ => m_ra.rf) (fun x _ hx => by omega), hn, hh⟩
