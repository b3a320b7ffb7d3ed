/-! ===== the reference: OVER makes good rows (own text) ===== -/
def m_lq (n : Int) (M : wd_I) (t : Int32) (s j : Nat) (r : wd_I × Int32) : Prop :=
  (r.2.toInt = -1 ∧ (r.1 102 8).toInt = (M 102 8).toInt) ∨
  (¬ r.2.toInt = -1 ∧ r.1 103 r.2.toInt.toNat = M 103 t.toInt.toNat ∧ r.1 104 r.2.toInt.toNat = M 104 t.toInt.toNat ∧ (∀ i, i < s → r.1 109 (12 * r.2.toInt.toNat + i) = M 109 (12 * t.toInt.toNat + i)) ∧
    (∀ i, i < s → j ≤ i → r.1 108 (12 * r.2.toInt.toNat + i) = M 108 (12 * t.toInt.toNat + i)) ∧
    (∀ i, i < j → (m_dm n (M 102 8).toInt (r.1 102 8).toInt (r.1 108 (12 * r.2.toInt.toNat + i)).toInt ∧ 0 ≤ (r.1 108 (12 * r.2.toInt.toNat + i)).toInt ∧ (r.1 108 (12 * r.2.toInt.toNat + i)).toInt ≠ r.2.toInt) ∧
      (1 ≤ (r.1 106 (r.1 108 (12 * r.2.toInt.toNat + i)).toInt.toNat).toInt ∧ (r.1 106 (r.1 108 (12 * r.2.toInt.toNat + i)).toInt.toNat).toInt ≤ 202 * (M 106 (M 108 (12 * t.toInt.toNat + i)).toInt.toNat).toInt) ∧
      (0 ≤ (r.1 107 (r.1 108 (12 * r.2.toInt.toNat + i)).toInt.toNat).toInt ∧ (r.1 107 (r.1 108 (12 * r.2.toInt.toNat + i)).toInt.toNat).toInt ≤ (M 107 (M 108 (12 * t.toInt.toNat + i)).toInt.toNat).toInt + 14)) ∧
    (∀ q : Nat, (M 102 8).toInt ≤ (q : Int) → (q : Int) < (r.1 102 8).toInt → (q : Int) ≠ r.2.toInt → m_gr (fun x => m_dm n (M 102 8).toInt (r.1 102 8).toInt x ∧ x ≠ r.2.toInt) r.1 q ∧ ∃ i, i < j ∧ (r.1 106 q).toInt ≤ (r.1 106 (r.1 108 (12 * r.2.toInt.toNat + i)).toInt.toNat).toInt ∧ (r.1 107 q).toInt ≤ (r.1 107 (r.1 108 (12 * r.2.toInt.toNat + i)).toInt.toNat).toInt))
/-- the facts of a part of t that stays -/
theorem m_lq_old {n : Int} {M : wd_I} {t : Int32} {s j : Nat} (hT : m_T M n) (h0 : 0 ≤ t.toInt) (h1 : t.toInt < n) (hs : (M 105 t.toInt.toNat).toInt = (s : Int)) (hj : j < s) : 0 ≤ (M 108 (12 * t.toInt.toNat + j)).toInt ∧ (M 108 (12 * t.toInt.toNat + j)).toInt < n ∧ 1 ≤ (M 106 (M 108 (12 * t.toInt.toNat + j)).toInt.toNat).toInt ∧ 0 ≤ (M 107 (M 108 (12 * t.toInt.toNat + j)).toInt.toNat).toInt := by
  obtain ⟨s', a1, a2, a3, a4, a5, a6, -⟩ := m_T_row hT (t := t.toInt.toNat) (by omega)
  obtain ⟨b1, b2, b3, b4⟩ := a6 j (by omega)
  obtain ⟨s2, c1, c2, c3, c4, -⟩ := m_T_row hT (t := (M 108 (12 * t.toInt.toNat + j)).toInt.toNat) (by omega)
  exact ⟨b1, b2, b4, c4.1⟩
/-- nothing is written below the things there are -/
theorem m_lq_keep {n : Int} {M : wd_I} {t a : Int32} {s j : Nat} {N N' : wd_I} (hT : m_T M n) (h0 : 0 ≤ t.toInt) (h1 : t.toInt < n) (hn : n ≤ (M 102 8).toInt) (hs : (M 105 t.toInt.toNat).toInt = (s : Int)) (h12 : s ≤ 12) (hj : j < s) (hfr : m_sb n M N) (ha : a.toInt = -1 ∨ ((M 102 8).toInt ≤ a.toInt ∧ a.toInt < (N 102 8).toInt)) (h : m_lq n M t s j (N, a)) (hf : m_sb (N 102 8).toInt N N') (h8 : (N' 102 8).toInt = (N 102 8).toInt) (hmn : (M 102 8).toInt ≤ (N 102 8).toInt) : m_lq n M t s (j + 1) (N', a) := by
  obtain ⟨p0, p1, p2, p3⟩ := m_lq_old hT h0 h1 hs hj
  rcases h with ⟨b1, b2⟩ | ⟨b1, b2, b3, b4, b5, b6, b7⟩
  · exact Or.inl ⟨b1, by show (N' 102 8).toInt = _; rw [h8]; exact b2⟩
  · change ¬ a.toInt = -1 at b1
    change N 103 a.toInt.toNat = _ at b2
    change N 104 a.toInt.toNat = _ at b3
    dsimp only at b4 b5 b6 b7
    have ha2 := ha.resolve_left b1
    have hr := hf.ra (q := a.toInt.toNat) (by omega)
    obtain ⟨e3, e4, e5, e6, e7, e8⟩ := hr
    have hpart : ∀ i, i < s → N' 108 (12 * a.toInt.toNat + i) = N 108 (12 * a.toInt.toNat + i) := fun i hi => (e8 i (by omega)).1
    have hD : ∀ x : Int, 0 ≤ x → m_dm n (M 102 8).toInt (N 102 8).toInt x → m_ra N N' x.toNat := fun x hx hxD => hf.ra (by unfold m_dm at hxD; omega)
    refine Or.inr ⟨b1, by show N' 103 a.toInt.toNat = _; rw [e3]; exact b2, by show N' 104 a.toInt.toNat = _; rw [e4]; exact b3, fun i hi => by show N' 109 (12 * a.toInt.toNat + i) = _; rw [(e8 i (by omega)).2]; exact b4 i hi, fun i hi hji => by show N' 108 (12 * a.toInt.toNat + i) = _; rw [hpart i hi]; exact b5 i hi (by omega), fun i hi => ?_, fun q hq1 hq2 hq3 => ?_⟩
    · dsimp only
      rw [hpart i (by omega), h8]
      by_cases e : i = j
      · subst e
        rw [b5 i hj (Nat.le_refl _)]
        have hrp := hfr.ra (q := (M 108 (12 * t.toInt.toNat + i)).toInt.toNat) (by omega)
        have hrq := hf.ra (q := (M 108 (12 * t.toInt.toNat + i)).toInt.toNat) (by omega)
        rw [hrq.2.2.2.1, hrq.2.2.2.2.1, hrp.2.2.2.1, hrp.2.2.2.2.1]
        exact ⟨⟨Or.inl p1, p0, by omega⟩, ⟨p2, by omega⟩, ⟨p3, by omega⟩⟩
      · obtain ⟨c1, c2, c3⟩ := b6 i (by omega)
        have hrq := hD _ c1.2.1 c1.1
        rw [hrq.2.2.2.1, hrq.2.2.2.2.1]
        exact ⟨c1, c2, c3⟩
    · dsimp only at hq2 hq3 ⊢
      rw [h8] at hq2 ⊢
      obtain ⟨d1, i, hi, d2, d3⟩ := b7 q hq1 hq2 hq3
      have hrq := hf.ra (q := q) hq2
      have hrx := hD _ (b6 i hi).1.2.1 (b6 i hi).1.1
      refine ⟨m_gr_ra d1 hrq (fun x hx hxD => hD x hx hxD.1) (fun x _ hx => hx), i, by omega, ?_, ?_⟩
      · rw [hpart i (by omega), hrq.2.2.2.1, hrx.2.2.2.1]; exact d2
      · rw [hpart i (by omega), hrq.2.2.2.2.1, hrx.2.2.2.2.1]; exact d3
/-- the first part that is another: the thing is copied -/
theorem m_lq_new {n : Int} {M : wd_I} {t x : Int32} {s j : Nat} {N : wd_I} (hT : m_T M n) (h0 : 0 ≤ t.toInt) (h1 : t.toInt < n) (hn : n ≤ (M 102 8).toInt) (hs : (M 105 t.toInt.toNat).toInt = (s : Int)) (h12 : s ≤ 12) (hj : j < s) (hfr : m_sb n M N) (hmn : (M 102 8).toInt ≤ (N 102 8).toInt) (hlt : (N 102 8).toInt < 3012)
    (hx : m_dm n (M 102 8).toInt (N 102 8).toInt x.toInt ∧ 0 ≤ x.toInt) (hxn : 1 ≤ (N 106 x.toInt.toNat).toInt ∧ (N 106 x.toInt.toNat).toInt ≤ 202 * (M 106 (M 108 (12 * t.toInt.toNat + j)).toInt.toNat).toInt) (hxh : 0 ≤ (N 107 x.toInt.toNat).toInt ∧ (N 107 x.toInt.toNat).toInt ≤ (M 107 (M 108 (12 * t.toInt.toNat + j)).toInt.toNat).toInt + 14)
    (hrow : ∀ q : Nat, (M 102 8).toInt ≤ (q : Int) → (q : Int) < (N 102 8).toInt → m_gr (m_dm n (M 102 8).toInt (N 102 8).toInt) N q ∧ (N 106 q).toInt ≤ (N 106 x.toInt.toNat).toInt ∧ (N 107 q).toInt ≤ (N 107 x.toInt.toNat).toInt) : m_lq n M t s (j + 1) (wd_up (m_copyOf (m_mk N) t s) 108 (12 * (N 102 8).toInt.toNat + j) x, N 102 8) := by
  have eK8 := m_mk_8 (M := N)
  have hM0 : 0 ≤ (M 102 8).toInt := by omega
  have hf : m_fr (N 102 8).toInt N (wd_up (m_copyOf (m_mk N) t s) 108 (12 * (N 102 8).toInt.toNat + j) x) := m_fr_up (m_copyOf_fr (m_mk_fr m_fr.rf) (by rw [eK8]; exact Int.le_refl _)) (by unfold m_wr; omega)
  have e8 : (wd_up (m_copyOf (m_mk N) t s) 108 (12 * (N 102 8).toInt.toNat + j) x 102 8).toInt = (N 102 8).toInt + 1 := by
    rw [wd_up_row _ _ _ (by decide), m_copyOf_8, eK8, ab_tI (by omega) (by omega)]
  have eK : ∀ a, a ≠ 102 → m_mk N a = N a := fun a ha => m_mk_row ha
  have hrt := hfr.ra (q := t.toInt.toNat) (by omega)
  have e3 : wd_up (m_copyOf (m_mk N) t s) 108 (12 * (N 102 8).toInt.toNat + j) x 103 (N 102 8).toInt.toNat = M 103 t.toInt.toNat := by rw [wd_up_row _ _ _ (by decide), ← eK8, m_copyOf_kd, eK 103 (by decide)]; exact hrt.1
  have e4 : wd_up (m_copyOf (m_mk N) t s) 108 (12 * (N 102 8).toInt.toNat + j) x 104 (N 102 8).toInt.toNat = M 104 t.toInt.toNat := by rw [wd_up_row _ _ _ (by decide), ← eK8, m_copyOf_wo, eK 104 (by decide)]; exact hrt.2.1
  have e9 : ∀ i, i < s → wd_up (m_copyOf (m_mk N) t s) 108 (12 * (N 102 8).toInt.toNat + j) x 109 (12 * (N 102 8).toInt.toNat + i) = M 109 (12 * t.toInt.toNat + i) := fun i hi => by
    have := m_copyOf_ky (M := m_mk N) (t := t) (s := s) h0 (by rw [eK8]; omega) h12 hi
    rw [eK8, eK 109 (by decide)] at this
    rw [wd_up_row _ _ _ (by decide), this]
    exact (hrt.2.2.2.2.2 i (by omega)).2
  have ep : ∀ i, i < s → wd_up (m_copyOf (m_mk N) t s) 108 (12 * (N 102 8).toInt.toNat + j) x 108 (12 * (N 102 8).toInt.toNat + i) = if i = j then x else M 108 (12 * t.toInt.toNat + i) := fun i hi => by
    by_cases e : i = j
    · subst e; rw [wd_up_self, if_pos rfl]
    · have := m_copyOf_pt (M := m_mk N) (t := t) (s := s) h0 (by rw [eK8]; omega) h12 hi
      rw [eK8, eK 108 (by decide)] at this
      rw [wd_up_ne _ _ (Or.inr (by omega)), this, if_neg e]
      exact (hrt.2.2.2.2.2 i (by omega)).1
  generalize wd_up (m_copyOf (m_mk N) t s) 108 (12 * (N 102 8).toInt.toNat + j) x = A at *
  have hD : ∀ y : Int, 0 ≤ y → m_dm n (M 102 8).toInt (N 102 8).toInt y → m_ra N A y.toNat := fun y hy hyD => hf.1.ra (by unfold m_dm at hyD; omega)
  refine Or.inr ⟨by show ¬ (N 102 8).toInt = -1; omega, e3, e4, e9, fun i hi hji => by show A 108 (12 * (N 102 8).toInt.toNat + i) = _; rw [ep i hi, if_neg (by omega)], fun i hi => ?_, fun q hq1 hq2 hq3 => ?_⟩
  · dsimp only
    rw [ep i (by omega)]
    by_cases e : i = j
    · subst e
      rw [if_pos rfl, (hD _ hx.2 hx.1).2.2.2.1, (hD _ hx.2 hx.1).2.2.2.2.1]
      refine ⟨⟨?_, hx.2, ?_⟩, hxn, hxh⟩
      · have := hx.1; unfold m_dm at this ⊢; omega
      · have := hx.1; unfold m_dm at this; omega
    · obtain ⟨p0, p1, p2, p3⟩ := m_lq_old hT h0 h1 hs (show i < s by omega)
      have hr1 := hfr.ra (q := (M 108 (12 * t.toInt.toNat + i)).toInt.toNat) (by omega)
      have hr2 := hf.1.ra (q := (M 108 (12 * t.toInt.toNat + i)).toInt.toNat) (by omega)
      rw [if_neg e, hr2.2.2.2.1, hr2.2.2.2.2.1, hr1.2.2.2.1, hr1.2.2.2.2.1]
      exact ⟨⟨Or.inl p1, p0, by omega⟩, ⟨p2, by omega⟩, ⟨p3, by omega⟩⟩
  · dsimp only at hq2 hq3 ⊢
    obtain ⟨d1, d2, d3⟩ := hrow q hq1 (by omega)
    have hrq := hf.1.ra (q := q) (by omega)
    have hrx := hD _ hx.2 hx.1
    refine ⟨m_gr_ra d1 hrq hD (fun y _ hy => ⟨by unfold m_dm at hy ⊢; omega, by unfold m_dm at hy; omega⟩), j, by omega, ?_, ?_⟩
    · rw [ep j hj, if_pos rfl, hrq.2.2.2.1, hrx.2.2.2.1]; exact d2
    · rw [ep j hj, if_pos rfl, hrq.2.2.2.2.1, hrx.2.2.2.2.1]; exact d3
