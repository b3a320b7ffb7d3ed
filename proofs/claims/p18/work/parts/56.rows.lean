/-! ===== the table: good rows (own text) ===== -/
/-- a row that is finished: its parts lie in D, nodes and height are those of its parts, keys in order -/
def m_gr (D : Int → Prop) (N : wd_I) (q : Nat) : Prop := ∃ s : Nat, (N 105 q).toInt = (s : Int) ∧ s ≤ 12 ∧ (0 ≤ (N 103 q).toInt ∧ (N 103 q).toInt ≤ 4) ∧ 0 ≤ (N 107 q).toInt ∧ (∀ j, j < s → 0 ≤ (N 108 (12 * q + j)).toInt ∧ D (N 108 (12 * q + j)).toInt ∧ (N 107 (N 108 (12 * q + j)).toInt.toNat).toInt < (N 107 q).toInt) ∧ (1 ≤ (N 106 q).toInt ∧ (N 106 q).toInt = m_nds N q s) ∧ ((N 103 q).toInt = 0 → s = 0) ∧ (¬ (N 103 q).toInt = 3 → ∀ j, j < s → (N 109 (12 * q + j)).toInt = 0) ∧ ((N 103 q).toInt = 3 → ∀ j, j + 1 < s → (N 109 (12 * q + j)).toInt < (N 109 (12 * q + (j + 1))).toInt)
/-- two tables alike at a row -/
def m_ra (N N' : wd_I) (q : Nat) : Prop := N' 103 q = N 103 q ∧ N' 104 q = N 104 q ∧ N' 105 q = N 105 q ∧ N' 106 q = N 106 q ∧ N' 107 q = N 107 q ∧ ∀ j, j < 12 → N' 108 (12 * q + j) = N 108 (12 * q + j) ∧ N' 109 (12 * q + j) = N 109 (12 * q + j)
theorem m_ra.rf {N : wd_I} {q : Nat} : m_ra N N q := ⟨rfl, rfl, rfl, rfl, rfl, fun _ _ => ⟨rfl, rfl⟩⟩
theorem m_ra.tr {N N' N'' : wd_I} {q : Nat} (h : m_ra N N' q) (h' : m_ra N' N'' q) : m_ra N N'' q := ⟨h'.1.trans h.1, h'.2.1.trans h.2.1, h'.2.2.1.trans h.2.2.1, h'.2.2.2.1.trans h.2.2.2.1, h'.2.2.2.2.1.trans h.2.2.2.2.1, fun j hj => ⟨(h'.2.2.2.2.2 j hj).1.trans (h.2.2.2.2.2 j hj).1, (h'.2.2.2.2.2 j hj).2.trans (h.2.2.2.2.2 j hj).2⟩⟩
theorem m_sb.ra {n : Int} {M N : wd_I} (h : m_sb n M N) {q : Nat} (hq : (q : Int) < n) : m_ra M N q := by
  obtain ⟨a1, a2, a3, a4, a5⟩ := h.1 q hq
  exact ⟨a1, a2, a3, a4, a5, fun j hj => h.2 (12 * q + j) (by omega)⟩
theorem m_nds_ra {N N' : wd_I} {q : Nat} : ∀ s, (∀ j, j < s → N' 108 (12 * q + j) = N 108 (12 * q + j) ∧ N' 106 (N 108 (12 * q + j)).toInt.toNat = N 106 (N 108 (12 * q + j)).toInt.toNat) → m_nds N' q s = m_nds N q s
  | 0, _ => rfl
  | s + 1, h => by
    unfold m_nds
    rw [m_nds_ra s (fun j hj => h j (by omega)), (h s (by omega)).1, (h s (by omega)).2]
theorem m_gr_ra {D D' : Int → Prop} {N N' : wd_I} {q : Nat} (h : m_gr D N q) (hq : m_ra N N' q) (hD : ∀ x : Int, 0 ≤ x → D x → m_ra N N' x.toNat) (hDD : ∀ x : Int, 0 ≤ x → D x → D' x) : m_gr D' N' q := by
  obtain ⟨s, a1, a2, a3, a4, a5, a6, a7, a8, a9⟩ := h
  obtain ⟨e3, e4, e5, e6, e7, e8⟩ := hq
  refine ⟨s, by rw [e5]; exact a1, a2, by rw [e3]; exact a3, by rw [e7]; exact a4, fun j hj => ?_, ?_, by rw [e3]; exact a7, fun h3 j hj => ?_, fun h3 j hj => ?_⟩
  · obtain ⟨b1, b2, b3⟩ := a5 j hj
    rw [(e8 j (by omega)).1, (hD _ b1 b2).2.2.2.2.1, e7]
    exact ⟨b1, hDD _ b1 b2, b3⟩
  · rw [e6, m_nds_ra s (fun j hj => ⟨(e8 j (by omega)).1, (hD _ (a5 j hj).1 (a5 j hj).2.1).2.2.2.1⟩)]
    exact a6
  · rw [(e8 j (by omega)).2]
    rw [e3] at h3
    exact a8 h3 j hj
  · rw [(e8 j (by omega)).2, (e8 (j + 1) (by omega)).2]
    rw [e3] at h3
    exact a9 h3 j hj
/-- the table up to n: all rows finished, within the bounds -/
def m_T (M : wd_I) (n : Int) : Prop := n ≤ 3120 ∧ ∀ t : Nat, (t : Int) < n → m_gr (fun x => x < n) M t ∧ (M 106 t).toInt ≤ 200 ∧ (M 107 t).toInt ≤ 12
theorem m_T.tb {M : wd_I} {n : Int} (h : m_T M n) : m_tb M n := by
  refine ⟨⟨h.1, fun t ht => ?_⟩, fun t ht => ?_⟩
  · obtain ⟨⟨s, a1, a2, a3, a4, a5, a6, a7, a8, a9⟩, b1, b2⟩ := h.2 t ht
    exact ⟨s, a1, a2, a3, ⟨a4, b2⟩, a5⟩
  · obtain ⟨⟨s, a1, a2, a3, a4, a5, a6, a7, a8, a9⟩, b1, b2⟩ := h.2 t ht
    refine ⟨a6.1, b1, ?_, fun h0 => by rw [a1]; have := a7 h0; omega⟩
    rw [a1, Int.toNat_natCast]
    exact a6.2
theorem m_T_sb {M N : wd_I} {n : Int} (h : m_T M n) (hs : m_sb n M N) : m_T N n := by
  refine ⟨h.1, fun t ht => ?_⟩
  obtain ⟨a1, a2, a3⟩ := h.2 t ht
  have hr := hs.ra ht
  exact ⟨m_gr_ra a1 hr (fun x hx hxn => hs.ra (by omega)) (fun x _ hx => hx), by rw [hr.2.2.2.1]; exact a2, by rw [hr.2.2.2.2.1]; exact a3⟩
theorem m_T_c {M M' : wd_I} (h : m_same M M') {n : Int} (hr : m_T M n) : m_T M' n := m_T_sb hr ⟨fun t _ => ⟨by rw [h 103 (by decide) (by decide)], by rw [h 104 (by decide) (by decide)], by rw [h 105 (by decide) (by decide)], by rw [h 106 (by decide) (by decide)], by rw [h 107 (by decide) (by decide)]⟩, fun i _ => ⟨by rw [h 108 (by decide) (by decide)], by rw [h 109 (by decide) (by decide)]⟩⟩
theorem m_many_nds {N : wd_I} {t : Int32} {s : Nat} (h : ∀ j, j < s → 0 ≤ (N 106 (N 108 (12 * t.toInt.toNat + j)).toInt.toNat).toInt ∧ (N 106 (N 108 (12 * t.toInt.toNat + j)).toInt.toNat).toInt ≤ 100000) (h12 : s ≤ 12) : ∀ j, j ≤ s → (m_many N t j).toInt = m_nds N t.toInt.toNat j ∧ 1 ≤ m_nds N t.toInt.toNat j ∧ m_nds N t.toInt.toNat j ≤ 1 + 100000 * (j : Int)
  | 0, _ => ⟨by unfold m_many m_nds; decide, by unfold m_nds; omega, by unfold m_nds; omega⟩
  | j + 1, hj => by
    obtain ⟨a1, a2, a3⟩ := m_many_nds h h12 j (by omega)
    have hb := h j (by omega)
    unfold m_many m_nds
    rw [a1, ab_tI (by omega) (by omega)]
    omega
theorem m_nds_mono {N : wd_I} {q : Nat} {s : Nat} (h : ∀ j, j < s → 0 ≤ (N 106 (N 108 (12 * q + j)).toInt.toNat).toInt) : ∀ i j, i ≤ j → j ≤ s → m_nds N q i ≤ m_nds N q j
  | i, 0, hi, _ => by rw [show i = 0 by omega]; exact Int.le_refl _
  | i, j + 1, hi, hj => by
    by_cases e : i = j + 1
    · rw [e]; exact Int.le_refl _
    · have := m_nds_mono h i j (by omega) (by omega)
      have hb := h j (by omega)
      show _ ≤ m_nds N q j + _
      omega
theorem m_nds_one {N : wd_I} {q : Nat} {s : Nat} (h : ∀ j, j < s → 0 ≤ (N 106 (N 108 (12 * q + j)).toInt.toNat).toInt) {j : Nat} (hj : j < s) : (N 106 (N 108 (12 * q + j)).toInt.toNat).toInt + 1 ≤ m_nds N q s := by
  have h1 := m_nds_mono h 0 j (by omega) (by omega)
  have h2 := m_nds_mono h (j + 1) s (by omega) (by omega)
  have e0 : m_nds N q 0 = 1 := rfl
  have e : m_nds N q (j + 1) = m_nds N q j + (N 106 (N 108 (12 * q + j)).toInt.toNat).toInt := rfl
  omega
theorem m_high_b {N : wd_I} {t : Int32} {s : Nat} (h : ∀ j, j < s → 0 ≤ (N 107 (N 108 (12 * t.toInt.toNat + j)).toInt.toNat).toInt ∧ (N 107 (N 108 (12 * t.toInt.toNat + j)).toInt.toNat).toInt ≤ 1000) : ∀ j, j ≤ s → 0 ≤ (m_high N t j).toInt ∧ (∀ i, i < j → (N 107 (N 108 (12 * t.toInt.toNat + i)).toInt.toNat).toInt + 1 ≤ (m_high N t j).toInt) ∧ ((m_high N t j).toInt = 0 ∨ ∃ i, i < j ∧ (m_high N t j).toInt = (N 107 (N 108 (12 * t.toInt.toNat + i)).toInt.toNat).toInt + 1)
  | 0, _ => ⟨by unfold m_high; decide, fun i hi => absurd hi (Nat.not_lt_zero _), Or.inl (by unfold m_high; decide)⟩
  | j + 1, hj => by
    obtain ⟨a1, a2, a3⟩ := m_high_b h j (by omega)
    have hb := h j (by omega)
    have e : (ab_ii ((N 107 (N 108 (12 * t.toInt.toNat + j)).toInt.toNat).toInt + 1)).toInt = (N 107 (N 108 (12 * t.toInt.toNat + j)).toInt.toNat).toInt + 1 := ab_tI (by omega) (by omega)
    unfold m_high
    by_cases hc : (m_high N t j).toInt < (ab_ii ((N 107 (N 108 (12 * t.toInt.toNat + j)).toInt.toNat).toInt + 1)).toInt
    · rw [m_mx_t hc, e]
      rw [e] at hc
      refine ⟨by omega, fun i hi => ?_, Or.inr ⟨j, by omega, rfl⟩⟩
      by_cases ei : i = j
      · subst ei; omega
      · have := a2 i (by omega); omega
    · rw [m_mx_f hc]
      rw [e] at hc
      refine ⟨a1, fun i hi => ?_, ?_⟩
      · by_cases ei : i = j
        · subst ei; omega
        · exact a2 i (by omega)
      · rcases a3 with h0 | ⟨i, hi, hi2⟩
        · exact Or.inl h0
        · exact Or.inr ⟨i, by omega, hi2⟩
/-- a row that has been told whole is finished by ends -/
theorem m_ends_gr {D : Int → Prop} {N : wd_I} {t : Int32} {s : Nat} (hs : (N 105 t.toInt.toNat).toInt = (s : Int)) (h12 : s ≤ 12) (hk : 0 ≤ (N 103 t.toInt.toNat).toInt ∧ (N 103 t.toInt.toNat).toInt ≤ 4)
    (hp : ∀ j, j < s → 0 ≤ (N 108 (12 * t.toInt.toNat + j)).toInt ∧ D (N 108 (12 * t.toInt.toNat + j)).toInt ∧ (N 108 (12 * t.toInt.toNat + j)).toInt.toNat ≠ t.toInt.toNat)
    (hn : ∀ j, j < s → 0 ≤ (N 106 (N 108 (12 * t.toInt.toNat + j)).toInt.toNat).toInt ∧ (N 106 (N 108 (12 * t.toInt.toNat + j)).toInt.toNat).toInt ≤ 100000)
    (hh : ∀ j, j < s → 0 ≤ (N 107 (N 108 (12 * t.toInt.toNat + j)).toInt.toNat).toInt ∧ (N 107 (N 108 (12 * t.toInt.toNat + j)).toInt.toNat).toInt ≤ 1000)
    (h0 : (N 103 t.toInt.toNat).toInt = 0 → s = 0) (hk0 : ¬ (N 103 t.toInt.toNat).toInt = 3 → ∀ j, j < s → (N 109 (12 * t.toInt.toNat + j)).toInt = 0) (hk3 : (N 103 t.toInt.toNat).toInt = 3 → ∀ j, j + 1 < s → (N 109 (12 * t.toInt.toNat + j)).toInt < (N 109 (12 * t.toInt.toNat + (j + 1))).toInt) :
    m_gr D (m_ends N t s) t.toInt.toNat ∧ (m_ends N t s 106 t.toInt.toNat).toInt = m_nds N t.toInt.toNat s ∧ (∀ j, j < s → (N 107 (N 108 (12 * t.toInt.toNat + j)).toInt.toNat).toInt + 1 ≤ (m_ends N t s 107 t.toInt.toNat).toInt) ∧ 0 ≤ (m_ends N t s 107 t.toInt.toNat).toInt ∧ ((m_ends N t s 107 t.toInt.toNat).toInt = 0 ∨ ∃ i, i < s ∧ (m_ends N t s 107 t.toInt.toNat).toInt = (N 107 (N 108 (12 * t.toInt.toNat + i)).toInt.toNat).toInt + 1) := by
  obtain ⟨a1, a2, a3⟩ := m_many_nds hn h12 s (Nat.le_refl _)
  obtain ⟨b1, b2, b3⟩ := m_high_b hh s (Nat.le_refl _)
  have e6 : m_ends N t s 106 t.toInt.toNat = m_many N t s := by unfold m_ends; rw [wd_up_row _ _ _ (by decide), wd_up_self]
  have e7 : m_ends N t s 107 t.toInt.toNat = m_high N t s := by unfold m_ends; rw [wd_up_self]
  have er : ∀ a, a ≠ 106 → a ≠ 107 → m_ends N t s a = N a := fun a h1 h2 => m_ends_row h1 h2
  have e6n : ∀ x, x ≠ t.toInt.toNat → m_ends N t s 106 x = N 106 x := fun x hx => by unfold m_ends; rw [wd_up_row _ _ _ (by decide), wd_up_ne _ _ (Or.inr hx)]
  have e7n : ∀ x, x ≠ t.toInt.toNat → m_ends N t s 107 x = N 107 x := fun x hx => by unfold m_ends; rw [wd_up_ne _ _ (Or.inr hx), wd_up_row _ _ _ (by decide)]
  have enD : m_nds (m_ends N t s) t.toInt.toNat s = m_nds N t.toInt.toNat s := m_nds_ra s (fun j hj => ⟨by rw [er 108 (by decide) (by decide)], e6n _ (hp j hj).2.2⟩)
  refine ⟨⟨s, by rw [er 105 (by decide) (by decide)]; exact hs, h12, by rw [er 103 (by decide) (by decide)]; exact hk, by rw [e7]; exact b1, fun j hj => ?_, ?_, by rw [er 103 (by decide) (by decide)]; exact h0, ?_, ?_⟩, by rw [e6]; exact a1, by rw [e7]; exact b2, by rw [e7]; exact b1, by rw [e7]; exact b3⟩
  · rw [er 108 (by decide) (by decide), e7, e7n _ (hp j hj).2.2]
    exact ⟨(hp j hj).1, (hp j hj).2.1, by have := b2 j hj; omega⟩
  · rw [e6, enD, a1]
    exact ⟨a2, rfl⟩
  · rw [er 103 (by decide) (by decide), er 109 (by decide) (by decide)]
    exact hk0
  · rw [er 103 (by decide) (by decide), er 109 (by decide) (by decide)]
    exact hk3
/-- ends writes nothing of another row -/
theorem m_ends_ra {N : wd_I} {t : Int32} {s q : Nat} (h : q ≠ t.toInt.toNat) : m_ra N (m_ends N t s) q := by
  have er : ∀ a, a ≠ 106 → a ≠ 107 → m_ends N t s a = N a := fun a h1 h2 => m_ends_row h1 h2
  refine ⟨by rw [er 103 (by decide) (by decide)], by rw [er 104 (by decide) (by decide)], by rw [er 105 (by decide) (by decide)], ?_, ?_, fun j _ => ⟨by rw [er 108 (by decide) (by decide)], by rw [er 109 (by decide) (by decide)]⟩⟩
  · unfold m_ends; rw [wd_up_row _ _ _ (by decide), wd_up_ne _ _ (Or.inr h)]
  · unfold m_ends; rw [wd_up_ne _ _ (Or.inr h), wd_up_row _ _ _ (by decide)]
