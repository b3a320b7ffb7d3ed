/-! ===== the reference: what OVER makes are good rows (own text) ===== -/
def m_dm (n a b : Int) (x : Int) : Prop := x < n ∨ (a ≤ x ∧ x < b)
/-- behind a step of OVER that was not cut short -/
def m_oq (n : Int) (M : wd_I) (t : Nat) (R : wd_I × Int32) : Prop := (R.1 102 36).toInt = 0 →
  ((R.1 102 8).toInt = (M 102 8).toInt ∨ (M 102 8).toInt ≤ R.2.toInt) ∧
  (∀ q : Nat, (M 102 8).toInt ≤ (q : Int) → (q : Int) < (R.1 102 8).toInt → m_gr (m_dm n (M 102 8).toInt (R.1 102 8).toInt) R.1 q ∧ (R.1 106 q).toInt ≤ (R.1 106 R.2.toInt.toNat).toInt ∧ (R.1 107 q).toInt ≤ (R.1 107 R.2.toInt.toNat).toInt) ∧
  m_dm n (M 102 8).toInt (R.1 102 8).toInt R.2.toInt ∧
  (1 ≤ (R.1 106 R.2.toInt.toNat).toInt ∧ (R.1 106 R.2.toInt.toNat).toInt ≤ 202 * (M 106 t).toInt) ∧ (0 ≤ (R.1 107 R.2.toInt.toNat).toInt ∧ (R.1 107 R.2.toInt.toNat).toInt ≤ (M 107 t).toInt + 14)
theorem m_T_row {M : wd_I} {n : Int} (h : m_T M n) {t : Nat} (ht : (t : Int) < n) : ∃ s : Nat, (M 105 t).toInt = (s : Int) ∧ s ≤ 12 ∧ (0 ≤ (M 103 t).toInt ∧ (M 103 t).toInt ≤ 4) ∧ (0 ≤ (M 107 t).toInt ∧ (M 107 t).toInt ≤ 12) ∧ (1 ≤ (M 106 t).toInt ∧ (M 106 t).toInt ≤ 200) ∧ (∀ j, j < s → 0 ≤ (M 108 (12 * t + j)).toInt ∧ (M 108 (12 * t + j)).toInt < n ∧ (M 107 (M 108 (12 * t + j)).toInt.toNat).toInt < (M 107 t).toInt ∧ 1 ≤ (M 106 (M 108 (12 * t + j)).toInt.toNat).toInt) ∧ (M 106 t).toInt = m_nds M t s ∧ (s : Int) + 1 ≤ (M 106 t).toInt ∧ ((M 103 t).toInt = 0 → s = 0) ∧ (¬ (M 103 t).toInt = 3 → ∀ j, j < s → (M 109 (12 * t + j)).toInt = 0) ∧ ((M 103 t).toInt = 3 → ∀ j, j + 1 < s → (M 109 (12 * t + j)).toInt < (M 109 (12 * t + (j + 1))).toInt) := by
  obtain ⟨⟨s, a1, a2, a3, a4, a5, a6, a7, a8, a9⟩, b1, b2⟩ := h.2 t ht
  have hp : ∀ j, j < s → 0 ≤ (M 108 (12 * t + j)).toInt ∧ (M 108 (12 * t + j)).toInt < n ∧ (M 107 (M 108 (12 * t + j)).toInt.toNat).toInt < (M 107 t).toInt ∧ 1 ≤ (M 106 (M 108 (12 * t + j)).toInt.toNat).toInt := fun j hj => by
    obtain ⟨c1, c2, c3⟩ := a5 j hj
    exact ⟨c1, c2, c3, by
      obtain ⟨⟨_, _, _, _, _, _, d6, _⟩, _⟩ := h.2 (M 108 (12 * t + j)).toInt.toNat (by omega)
      exact d6.1⟩
  have hs : ∀ j, j ≤ s → (j : Int) + 1 ≤ m_nds M t j := by
    intro j
    induction j with
    | zero => intro _; unfold m_nds; omega
    | succ j ih =>
      intro hj
      have := ih (by omega)
      have := (hp j (by omega)).2.2.2
      unfold m_nds
      omega
  exact ⟨s, a1, a2, a3, ⟨a4, b2⟩, ⟨a6.1, b1⟩, hp, a6.2, by rw [a6.2]; exact hs s (Nat.le_refl _), a7, a8, a9⟩
theorem m_nds_200 {N : wd_I} {q s : Nat} (h : ∀ j, j < s → 0 ≤ (N 106 (N 108 (12 * q + j)).toInt.toNat).toInt ∧ (N 106 (N 108 (12 * q + j)).toInt.toNat).toInt ≤ 200) : ∀ j, j ≤ s → m_nds N q j ≤ 1 + 200 * (j : Int)
  | 0, _ => by unfold m_nds; omega
  | j + 1, hj => by
    have := m_nds_200 h j (by omega)
    have := h j (by omega)
    unfold m_nds
    omega
theorem m_oq_same {n : Int} {M N : wd_I} {t : Int32} {x : Int32} (hT : m_T M n) (h0 : 0 ≤ t.toInt) (h1 : t.toInt < n) (hx0 : 0 ≤ x.toInt) (hx1 : x.toInt < n) (hf : m_sb n M N) (h8 : N 102 8 = M 102 8) : m_oq n M t.toInt.toNat (N, x) := by
  intro _
  obtain ⟨s, a1, a2, a3, a4, a5, -⟩ := m_T_row hT (t := t.toInt.toNat) (by omega)
  obtain ⟨s', b1, b2, b3, b4, b5, -⟩ := m_T_row hT (t := x.toInt.toNat) (by omega)
  obtain ⟨-, -, -, e6, e7⟩ := hf.1 x.toInt.toNat (by omega)
  refine ⟨Or.inl (congrArg Int32.toInt h8), fun q hq1 hq2 => ?_, Or.inl hx1, ?_, ?_⟩
  · have hq3 : (q : Int) < (N 102 8).toInt := hq2
    rw [h8] at hq3
    omega
  · show 1 ≤ (N 106 x.toInt.toNat).toInt ∧ (N 106 x.toInt.toNat).toInt ≤ _
    rw [e6]
    omega
  · show 0 ≤ (N 107 x.toInt.toNat).toInt ∧ (N 107 x.toInt.toNat).toInt ≤ _
    rw [e7]
    omega
theorem m_oq_one {n : Int} {M N : wd_I} {t c : Int32} {s : Nat} (hT : m_T M n) (h0 : 0 ≤ t.toInt) (h1 : t.toInt < n) (hn : n ≤ (M 102 8).toInt) (hc : c = M 102 8) (h8 : (N 102 8).toInt = c.toInt + 1) (hf : m_sb n M N)
    (hs : (N 105 c.toInt.toNat).toInt = (s : Int)) (h12 : s ≤ 12) (hk : 0 ≤ (N 103 c.toInt.toNat).toInt ∧ (N 103 c.toInt.toNat).toInt ≤ 4) (hp : ∀ j, j < s → 0 ≤ (N 108 (12 * c.toInt.toNat + j)).toInt ∧ (N 108 (12 * c.toInt.toNat + j)).toInt < n)
    (hk0 : (N 103 c.toInt.toNat).toInt = 0 → s = 0) (hk1 : ¬ (N 103 c.toInt.toNat).toInt = 3 → ∀ j, j < s → (N 109 (12 * c.toInt.toNat + j)).toInt = 0) (hk3 : (N 103 c.toInt.toNat).toInt = 3 → ∀ j, j + 1 < s → (N 109 (12 * c.toInt.toNat + j)).toInt < (N 109 (12 * c.toInt.toNat + (j + 1))).toInt) (hb : 1 + 200 * (s : Int) ≤ 202 * (M 106 t.toInt.toNat).toInt) : m_oq n M t.toInt.toNat (m_ends N c s, c) := by
  intro _
  have hcn : n ≤ c.toInt := by rw [hc]; exact hn
  have hold : ∀ j, j < s → (1 ≤ (N 106 (N 108 (12 * c.toInt.toNat + j)).toInt.toNat).toInt ∧ (N 106 (N 108 (12 * c.toInt.toNat + j)).toInt.toNat).toInt ≤ 200) ∧ (0 ≤ (N 107 (N 108 (12 * c.toInt.toNat + j)).toInt.toNat).toInt ∧ (N 107 (N 108 (12 * c.toInt.toNat + j)).toInt.toNat).toInt ≤ 12) := fun j hj => by
    obtain ⟨p0, p1⟩ := hp j hj
    obtain ⟨-, -, -, e6, e7⟩ := hf.1 (N 108 (12 * c.toInt.toNat + j)).toInt.toNat (by omega)
    obtain ⟨s', b1, b2, b3, b4, b5, -⟩ := m_T_row hT (t := (N 108 (12 * c.toInt.toNat + j)).toInt.toNat) (by omega)
    rw [e6, e7]
    exact ⟨b5, b4⟩
  obtain ⟨s', b1, b2, b3, b4, b5, -⟩ := m_T_row hT (t := t.toInt.toNat) (by omega)
  obtain ⟨g1, g2, g3, g4, g5⟩ := m_ends_gr (D := fun x => x < n) (N := N) (t := c) hs h12 hk (fun j hj => ⟨(hp j hj).1, (hp j hj).2, by have := hp j hj; omega⟩) (fun j hj => by have := hold j hj; omega) (fun j hj => by have := hold j hj; omega) hk0 hk1 hk3
  have hle := m_nds_200 (N := N) (q := c.toInt.toNat) (s := s) (fun j hj => by have := hold j hj; omega) s (Nat.le_refl _)
  have e8 : (m_ends N c s 102 8).toInt = c.toInt + 1 := by rw [m_ends_row (by decide) (by decide)]; exact h8
  have hge : 1 ≤ m_nds N c.toInt.toNat s := m_nds_mono (N := N) (q := c.toInt.toNat) (s := s) (fun j hj => by have := hold j hj; omega) 0 s (by omega) (Nat.le_refl _)
  refine ⟨Or.inr (by rw [hc]; exact Int.le_refl _), fun q hq1 hq2 => ?_, Or.inr ⟨by rw [hc]; exact Int.le_refl _, by show c.toInt < (m_ends N c s 102 8).toInt; omega⟩, ?_, ?_⟩
  · change (q : Int) < (m_ends N c s 102 8).toInt at hq2
    have eq : q = c.toInt.toNat := by rw [← hc] at hq1; omega
    subst eq
    exact ⟨m_gr_ra g1 m_ra.rf (fun _ _ _ => m_ra.rf) (fun x _ hx => Or.inl hx), Int.le_refl _, Int.le_refl _⟩
  · show 1 ≤ (m_ends N c s 106 c.toInt.toNat).toInt ∧ (m_ends N c s 106 c.toInt.toNat).toInt ≤ _
    rw [g2]
    omega
  · show 0 ≤ (m_ends N c s 107 c.toInt.toNat).toInt ∧ (m_ends N c s 107 c.toInt.toNat).toInt ≤ _
    refine ⟨g4, ?_⟩
    rcases g5 with e | ⟨i, hi, e⟩
    · omega
    · have := hold i hi
      omega
theorem m_begins_kd {M : wd_I} {s v m : Int32} : m_begins M s v m 103 (M 102 8).toInt.toNat = s := by
  unfold m_begins
  rw [wd_up_row _ _ _ (by decide), wd_up_row _ _ _ (by decide), wd_up_row _ _ _ (by decide), wd_up_self]
theorem m_begins_wo {M : wd_I} {s v m : Int32} : m_begins M s v m 104 (M 102 8).toInt.toNat = v := by
  unfold m_begins
  rw [wd_up_row _ _ _ (by decide), wd_up_row _ _ _ (by decide), wd_up_self]
theorem m_begins_ky {M : wd_I} {s v m : Int32} : m_begins M s v m 109 = M 109 := by
  unfold m_begins
  rw [wd_up_row _ _ _ (by decide), wd_up_row _ _ _ (by decide), wd_up_row _ _ _ (by decide), wd_up_row _ _ _ (by decide)]
theorem m_adds_kd {M : wd_I} {t key p : Int32} {s : Nat} : m_adds M t key p s 103 = M 103 := by unfold m_adds; rw [wd_up_row _ _ _ (by decide), wd_up_row _ _ _ (by decide), wd_up_row _ _ _ (by decide)]
theorem m_adds_wo {M : wd_I} {t key p : Int32} {s : Nat} : m_adds M t key p s 104 = M 104 := by unfold m_adds; rw [wd_up_row _ _ _ (by decide), wd_up_row _ _ _ (by decide), wd_up_row _ _ _ (by decide)]
theorem m_adds_ky {M : wd_I} {t key p : Int32} {s j : Nat} : m_adds M t key p s 109 (12 * t.toInt.toNat + j) = if j = s then key else M 109 (12 * t.toInt.toNat + j) := by
  unfold m_adds
  rw [wd_up_row _ _ _ (by decide)]
  split
  next e => rw [e, wd_up_self]
  next e => rw [wd_up_ne _ _ (Or.inr (by omega)), wd_up_row _ _ _ (by decide)]
theorem m_copyOf_kd {M : wd_I} {t : Int32} {s : Nat} : m_copyOf M t s 103 (M 102 8).toInt.toNat = M 103 t.toInt.toNat := by
  unfold m_copyOf
  rw [m_cpl_row (by decide) (by decide), m_begins_kd]
theorem m_copyOf_wo {M : wd_I} {t : Int32} {s : Nat} : m_copyOf M t s 104 (M 102 8).toInt.toNat = M 104 t.toInt.toNat := by
  unfold m_copyOf
  rw [m_cpl_row (by decide) (by decide), m_begins_wo]
theorem m_copyOf_ky {M : wd_I} {t : Int32} {s : Nat} (h0 : 0 ≤ t.toInt) (h1 : t.toInt < (M 102 8).toInt) (h12 : s ≤ 12) {j : Nat} (hj : j < s) : m_copyOf M t s 109 (12 * (M 102 8).toInt.toNat + j) = M 109 (12 * t.toInt.toNat + j) := by
  unfold m_copyOf
  rw [m_cpl_109 (by omega) s h12, if_pos (by omega), m_begins_ky, show 12 * (M 102 8).toInt.toNat + j - 12 * (M 102 8).toInt.toNat = j by omega]
theorem m_mk_row {M : wd_I} {a : Nat} (h : a ≠ 102) : m_mk M a = M a := wd_up_row _ _ _ h
theorem m_fr_sb8 {n : Int} {M N : wd_I} (h : m_fr n M N) : m_sb n M N := h.1
