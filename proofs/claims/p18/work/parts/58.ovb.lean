/-! ===== the reference: became makes good rows (own text) ===== -/
theorem m_s1_8 {M N : wd_I} (h : m_rm M) (hc : m_can M) (h1 : m_s1 (m_mk M) N) : (N 102 8).toInt = (M 102 8).toInt + 1 := (m_rm_s1 h hc h1).2
theorem m_nomk_36 {M : wd_I} : (m_nomk M 102 36).toInt = 1 := by unfold m_nomk; rw [wd_up_self]; decide
theorem m_oq_spent {n : Int} {M N : wd_I} {t : Nat} {x : Int32} (h : (N 102 36).toInt = 1) : m_oq n M t (N, x) := fun h0 => by
  change (N 102 36).toInt = 0 at h0
  omega
theorem m_oq_M {n : Int} {M M' : wd_I} {t : Nat} {R : wd_I × Int32} (h : m_oq n M' t R) (h8 : M' 102 8 = M 102 8) (h6 : M' 106 t = M 106 t) (h7 : M' 107 t = M 107 t) : m_oq n M t R := by
  unfold m_oq at h ⊢
  rw [h8, h6, h7] at h
  exact h
theorem m_mk_sb {n : Int} {M : wd_I} : m_sb n M (m_mk M) := ⟨fun t _ => ⟨by rw [m_mk_row (by decide)], by rw [m_mk_row (by decide)], by rw [m_mk_row (by decide)], by rw [m_mk_row (by decide)], by rw [m_mk_row (by decide)]⟩, fun i _ => ⟨by rw [m_mk_row (by decide)], by rw [m_mk_row (by decide)]⟩⟩
theorem m_bec_oq {n : Int} {M : wd_I} {how : Int} {hw f t : Int32} {s : Nat} (hT : m_T M n) (hn0 : 0 ≤ n) (hn : n ≤ (M 102 8).toInt) (hrm : m_rm M) (h0 : 0 ≤ t.toInt) (h1 : t.toInt < n) (hs : (M 105 t.toInt.toNat).toInt = (s : Int)) (h7 : how = 7 → 0 ≤ (M 110 hw.toInt.toNat).toInt ∧ (M 110 hw.toInt.toNat).toInt < n) : m_oq n M t.toInt.toNat (m_bec M how hw f t s) := by
  obtain ⟨s', a1, a2, a3, a4, a5, a6, a7, a8, a9, a10, a11⟩ := m_T_row hT (t := t.toInt.toNat) (by omega)
  have es : s' = s := by omega
  subst es
  have hsame : m_oq n M t.toInt.toNat (M, t) := m_oq_same hT h0 h1 h0 h1 m_sb.rf rfl
  have e8K := m_mk_8 (M := M)
  -- a number made anew
  have hnum : ∀ v, m_can M → m_oq n M t.toInt.toNat (m_number (m_mk M) v, M 102 8) := fun v hc => by
    have h8 := m_s1_8 hrm hc (m_number_s1 (v := v))
    have hfb : m_fr n M (m_begins (m_mk M) (ab_ii 0) v (ab_ii 0)) := m_begins_fr (m_mk_fr m_fr.rf) (by rw [e8K]; exact hn)
    have hB8 : (m_begins (m_mk M) (ab_ii 0) v (ab_ii 0) 102 8).toInt = (M 102 8).toInt + 1 := by
      have e : m_number (m_mk M) v 102 8 = m_begins (m_mk M) (ab_ii 0) v (ab_ii 0) 102 8 := by unfold m_number; rw [m_ends_row (by decide) (by decide)]
      rw [← e]; exact h8
    unfold m_number
    rw [e8K]
    refine m_oq_one (s := 0) hT h0 h1 hn rfl hB8 hfb.1 ?_ (by omega) ?_ (fun j hj => absurd hj (Nat.not_lt_zero _)) (fun _ => rfl) (fun _ j hj => absurd hj (Nat.not_lt_zero _)) (fun _ j hj => absurd hj (Nat.not_lt_zero _)) (by omega)
    · rw [← e8K, m_begins_sz]; rfl
    · rw [← e8K, m_begins_kd]; decide
  unfold m_bec
  split
  · split
    · unfold m_numb
      by_cases hc : m_can M
      · rw [m_cani_t hc]; exact hnum _ hc
      · rw [m_cani_f hc]; exact m_oq_spent m_nomk_36
    · exact hsame
  split
  next h =>
    obtain ⟨b1, b2⟩ := h7 h
    exact m_oq_same hT h0 h1 b1 b2 m_sb.rf rfl
  split
  · -- a pair of it and a number
    unfold m_numb
    by_cases hc : m_can M
    · rw [m_cani_t hc]
      have hnm := hnum hw hc
      have vnum : (m_number (m_mk M) hw 106 (M 102 8).toInt.toNat).toInt = 1 ∧ (m_number (m_mk M) hw 107 (M 102 8).toInt.toNat).toInt = 0 := by
        unfold m_number m_ends
        rw [e8K]
        refine ⟨?_, ?_⟩
        · rw [wd_up_row _ _ _ (by decide), wd_up_self]; unfold m_many; decide
        · rw [wd_up_self]; unfold m_high; decide
      have hfN : m_fr n M (m_number (m_mk M) hw) := m_number_fr (m_mk_fr m_fr.rf) (by rw [e8K]; exact hn)
      have hfNc : m_fr (M 102 8).toInt M (m_number (m_mk M) hw) := m_number_fr (m_mk_fr m_fr.rf) (by rw [e8K]; exact Int.le_refl _)
      obtain ⟨hrN, h8N⟩ := m_rm_s1 hrm hc (m_number_s1 (v := hw))
      generalize m_number (m_mk M) hw = N at *
      by_cases hc2 : m_can N
      · show m_oq n M t.toInt.toNat (m_cani N _ _)
        rw [m_cani_t hc2]
        have hN0 : (N 102 36).toInt = 0 := hc2.1
        have hlt := m_can_lt hrN hc2
        obtain ⟨-, q2, q3, q4, q5⟩ := hnm hN0
        change 1 ≤ (N 106 (M 102 8).toInt.toNat).toInt ∧ (N 106 (M 102 8).toInt.toNat).toInt ≤ _ at q4
        change 0 ≤ (N 107 (M 102 8).toInt.toNat).toInt ∧ (N 107 (M 102 8).toInt.toNat).toInt ≤ _ at q5
        change ∀ q : Nat, (M 102 8).toInt ≤ (q : Int) → (q : Int) < (N 102 8).toInt → m_gr (m_dm n (M 102 8).toInt (N 102 8).toInt) N q ∧ (N 106 q).toInt ≤ (N 106 (M 102 8).toInt.toNat).toInt ∧ (N 107 q).toInt ≤ (N 107 (M 102 8).toInt.toNat).toInt at q2
        have eK8 := m_mk_8 (M := N)
        have hrK : m_sb (N 102 8).toInt N (m_mk N) := m_mk_sb
        have hfp : m_fr (N 102 8).toInt N (m_pair (m_mk N) t (M 102 8)) := m_pair_fr (m_mk_fr m_fr.rf) (by omega) (by rw [eK8]; exact Int.le_refl _)
        have h8P := m_s1_8 hrN hc2 (m_pair_s1 (t := t) (n := M 102 8))
        have hfa : m_fr (N 102 8).toInt N (m_adds (m_adds (m_begins (m_mk N) (ab_ii 1) (ab_ii 0) (ab_ii 0)) (m_mk N 102 8) (ab_ii 0) t 0) (m_mk N 102 8) (ab_ii 0) (M 102 8) 1) := m_adds_fr (m_adds_fr (m_begins_fr (m_mk_fr m_fr.rf) (by rw [eK8]; exact Int.le_refl _)) (by omega) (by rw [eK8]; exact Int.le_refl _)) (by omega) (by rw [eK8]; exact Int.le_refl _)
        have hA0 : m_adds (m_adds (m_begins (m_mk N) (ab_ii 1) (ab_ii 0) (ab_ii 0)) (m_mk N 102 8) (ab_ii 0) t 0) (m_mk N 102 8) (ab_ii 0) (M 102 8) 1 108 (12 * (m_mk N 102 8).toInt.toNat + 0) = t := by rw [m_adds_pn (by omega), m_adds_pt]
        have hA1 : m_adds (m_adds (m_begins (m_mk N) (ab_ii 1) (ab_ii 0) (ab_ii 0)) (m_mk N 102 8) (ab_ii 0) t 0) (m_mk N 102 8) (ab_ii 0) (M 102 8) 1 108 (12 * (m_mk N 102 8).toInt.toNat + 1) = M 102 8 := m_adds_pt
        have hAk : ∀ j, j < 2 → (m_adds (m_adds (m_begins (m_mk N) (ab_ii 1) (ab_ii 0) (ab_ii 0)) (m_mk N 102 8) (ab_ii 0) t 0) (m_mk N 102 8) (ab_ii 0) (M 102 8) 1 109 (12 * (m_mk N 102 8).toInt.toNat + j)).toInt = 0 := fun j hj => by
          rw [m_adds_ky]
          split
          · decide
          · rw [m_adds_ky, if_pos (by omega)]; decide
        have hAd : m_adds (m_adds (m_begins (m_mk N) (ab_ii 1) (ab_ii 0) (ab_ii 0)) (m_mk N 102 8) (ab_ii 0) t 0) (m_mk N 102 8) (ab_ii 0) (M 102 8) 1 103 (m_mk N 102 8).toInt.toNat = ab_ii 1 := by rw [m_adds_kd, m_adds_kd, m_begins_kd]
        have hAs : (m_adds (m_adds (m_begins (m_mk N) (ab_ii 1) (ab_ii 0) (ab_ii 0)) (m_mk N 102 8) (ab_ii 0) t 0) (m_mk N 102 8) (ab_ii 0) (M 102 8) 1 105 (m_mk N 102 8).toInt.toNat).toInt = ((2 : Nat) : Int) := by rw [m_adds_sz]; decide
        have eP : m_pair (m_mk N) t (M 102 8) = m_ends (m_adds (m_adds (m_begins (m_mk N) (ab_ii 1) (ab_ii 0) (ab_ii 0)) (m_mk N 102 8) (ab_ii 0) t 0) (m_mk N 102 8) (ab_ii 0) (M 102 8) 1) (m_mk N 102 8) 2 := rfl
        rw [eK8] at hA0 hA1 hAk hAd hAs eP hfa
        generalize m_adds (m_adds (m_begins (m_mk N) (ab_ii 1) (ab_ii 0) (ab_ii 0)) (N 102 8) (ab_ii 0) t 0) (N 102 8) (ab_ii 0) (M 102 8) 1 = A at *
        have hpt : ∀ j, j < 2 → (A 108 (12 * (N 102 8).toInt.toNat + j) = t ∨ A 108 (12 * (N 102 8).toInt.toNat + j) = M 102 8) := fun j hj => by
          by_cases e : j = 0
          · subst e; exact Or.inl hA0
          · have e1 : j = 1 := by omega
            subst e1; exact Or.inr hA1
        have eAt : ∀ x : Nat, (x : Int) < (N 102 8).toInt → A 106 x = N 106 x ∧ A 107 x = N 107 x := fun x hx => ⟨(hfa.1.1 x hx).2.2.2.1, (hfa.1.1 x hx).2.2.2.2⟩
        have eNt : N 106 t.toInt.toNat = M 106 t.toInt.toNat ∧ N 107 t.toInt.toNat = M 107 t.toInt.toNat := ⟨(hfN.1.1 t.toInt.toNat (by omega)).2.2.2.1, (hfN.1.1 t.toInt.toNat (by omega)).2.2.2.2⟩
        have hM8 : 0 ≤ (M 102 8).toInt := by omega
        have q41 : (N 106 (M 102 8).toInt.toNat).toInt ≤ 40400 := by omega
        have vt := eAt t.toInt.toNat (by omega)
        have vc := eAt (M 102 8).toInt.toNat (by omega)
        have hnd : ∀ j, j < 2 → (0 ≤ (A 106 (A 108 (12 * (N 102 8).toInt.toNat + j)).toInt.toNat).toInt ∧ (A 106 (A 108 (12 * (N 102 8).toInt.toNat + j)).toInt.toNat).toInt ≤ 100000) ∧ (0 ≤ (A 107 (A 108 (12 * (N 102 8).toInt.toNat + j)).toInt.toNat).toInt ∧ (A 107 (A 108 (12 * (N 102 8).toInt.toNat + j)).toInt.toNat).toInt ≤ 1000) := fun j hj => by
          rcases hpt j hj with e | e
          · rw [e, vt.1, vt.2, eNt.1, eNt.2]; omega
          · rw [e, vc.1, vc.2]; omega
        obtain ⟨g1, g2, g3, g4, g5⟩ := m_ends_gr (D := m_dm n (M 102 8).toInt (N 102 8).toInt) (N := A) (t := N 102 8) hAs (by omega) (by rw [hAd]; decide) (fun j hj => by
          rcases hpt j hj with e | e
          · rw [e]; exact ⟨h0, Or.inl h1, by omega⟩
          · rw [e]; exact ⟨hM8, Or.inr ⟨Int.le_refl _, by omega⟩, by omega⟩) (fun j hj => (hnd j hj).1) (fun j hj => (hnd j hj).2) (fun h => by rw [hAd] at h; exact absurd h (by decide)) (fun _ => hAk) (fun h => by rw [hAd] at h; exact absurd h (by decide))
        rw [← eP] at g1 g2 g3 g4 g5
        have gn : m_nds A (N 102 8).toInt.toNat 2 = 1 + (M 106 t.toInt.toNat).toInt + (N 106 (M 102 8).toInt.toNat).toInt := by
          show 1 + (A 106 (A 108 (12 * (N 102 8).toInt.toNat + 0)).toInt.toNat).toInt + (A 106 (A 108 (12 * (N 102 8).toInt.toNat + 1)).toInt.toNat).toInt = _
          rw [hA0, hA1, vt.1, vc.1, eNt.1]
        have g31 := g3 1 (by omega)
        rw [hA1, vc.2] at g31
        have hcr := q2 (M 102 8).toInt.toNat (by omega) (by omega)
        have hPc := hfp.1.1 (M 102 8).toInt.toNat (by omega)
        intro _
        refine ⟨Or.inr (by show (M 102 8).toInt ≤ (N 102 8).toInt; omega), fun q hq1 hq2 => ?_, Or.inr ⟨by show (M 102 8).toInt ≤ (N 102 8).toInt; omega, by show (N 102 8).toInt < (m_pair (m_mk N) t (M 102 8) 102 8).toInt; omega⟩, ?_, ?_⟩
        · change (q : Int) < (m_pair (m_mk N) t (M 102 8) 102 8).toInt at hq2
          show m_gr (m_dm n (M 102 8).toInt (m_pair (m_mk N) t (M 102 8) 102 8).toInt) (m_pair (m_mk N) t (M 102 8)) q ∧ (m_pair (m_mk N) t (M 102 8) 106 q).toInt ≤ (m_pair (m_mk N) t (M 102 8) 106 (N 102 8).toInt.toNat).toInt ∧ (m_pair (m_mk N) t (M 102 8) 107 q).toInt ≤ (m_pair (m_mk N) t (M 102 8) 107 (N 102 8).toInt.toNat).toInt
          by_cases eq : q = (M 102 8).toInt.toNat
          · subst eq
            rw [hPc.2.2.2.1, hPc.2.2.2.2]
            exact ⟨m_gr_ra hcr.1 (hfp.1.ra (by omega)) (fun x hx hxD => hfp.1.ra (by unfold m_dm at hxD; omega)) (fun x _ hxD => by unfold m_dm at hxD ⊢; omega), by omega, by omega⟩
          · have eq2 : q = (N 102 8).toInt.toNat := by omega
            subst eq2
            exact ⟨m_gr_ra g1 m_ra.rf (fun _ _ _ => m_ra.rf) (fun x _ hxD => by unfold m_dm at hxD ⊢; omega), Int.le_refl _, Int.le_refl _⟩
        · show 1 ≤ (m_pair (m_mk N) t (M 102 8) 106 (N 102 8).toInt.toNat).toInt ∧ (m_pair (m_mk N) t (M 102 8) 106 (N 102 8).toInt.toNat).toInt ≤ _
          omega
        · show 0 ≤ (m_pair (m_mk N) t (M 102 8) 107 (N 102 8).toInt.toNat).toInt ∧ (m_pair (m_mk N) t (M 102 8) 107 (N 102 8).toInt.toNat).toInt ≤ _
          refine ⟨g4, ?_⟩
          rcases g5 with e | ⟨i, hi, e⟩
          · omega
          · rcases hpt i hi with e2 | e2
            · rw [e2, vt.2, eNt.2] at e; omega
            · rw [e2, vc.2] at e; omega
      · show m_oq n M t.toInt.toNat (m_cani N _ _)
        rw [m_cani_f hc2]
        exact m_oq_spent m_nomk_36
    · rw [m_cani_f hc]
      show m_oq n M t.toInt.toNat (m_cani (m_nomk M) _ _)
      rw [m_cani_f m_nomk_can]
      exact m_oq_spent m_nomk_36
  split
  next his =>
    by_cases hc : m_can M
    · rw [m_cani_t hc]
      have hK8 : (m_mk M 102 8).toInt = (M 102 8).toInt := by rw [e8K]
      have hlt := m_can_lt hrm hc
      have har : ∀ sort v : Int32, 1 ≤ sort.toInt → sort.toInt ≤ 4 → ¬ sort.toInt = 3 → m_oq n M t.toInt.toNat (m_around (m_mk M) sort v t, M 102 8) := fun sort v k1 k2 k3 => by
        have h8 := m_s1_8 hrm hc (m_around_s1 (sort := sort) (v := v) (t := t))
        have hfb : m_fr n M (m_begins (m_mk M) sort v (ab_ii 0)) := m_begins_fr (m_mk_fr m_fr.rf) (by rw [e8K]; exact hn)
        have hfa : m_fr n M (m_adds (m_begins (m_mk M) sort v (ab_ii 0)) (m_mk M 102 8) (ab_ii 0) t 0) := m_adds_fr hfb hn0 (by rw [e8K]; exact hn)
        have hB8 : (m_adds (m_begins (m_mk M) sort v (ab_ii 0)) (m_mk M 102 8) (ab_ii 0) t 0 102 8).toInt = (M 102 8).toInt + 1 := by
          have e : m_around (m_mk M) sort v t 102 8 = m_adds (m_begins (m_mk M) sort v (ab_ii 0)) (m_mk M 102 8) (ab_ii 0) t 0 102 8 := by unfold m_around; rw [m_ends_row (by decide) (by decide)]
          rw [← e]; exact h8
        have ekd : m_adds (m_begins (m_mk M) sort v (ab_ii 0)) (m_mk M 102 8) (ab_ii 0) t 0 103 (m_mk M 102 8).toInt.toNat = sort := by rw [m_adds_kd, m_begins_kd]
        unfold m_around
        rw [e8K] at hB8 hfa ekd ⊢
        refine m_oq_one (s := 1) hT h0 h1 hn rfl hB8 hfa.1 ?_ (by omega) (by rw [ekd]; omega) (fun j hj => ?_) (fun h => by rw [ekd] at h; omega) (fun _ j hj => ?_) (fun h => by rw [ekd] at h; omega) (by omega)
        · rw [m_adds_sz]; decide
        · have e : j = 0 := by omega
          subst e
          rw [m_adds_pt]
          exact ⟨h0, h1⟩
        · have e : j = 0 := by omega
          subst e
          rw [m_adds_ky, if_pos rfl]
          decide
      split
      · exact har (ab_ii 4) hw (by decide) (by decide) (by decide)
      split
      · exact har (ab_ii 2) (ab_ii 0) (by decide) (by decide) (by decide)
      · -- changed
        have hTK : m_T (m_mk M) n := m_T_sb hT m_mk_sb
        have h8 := m_s1_8 hrm hc (m_changed_s1 (t := t) (s := s'))
        have hfc : m_fr n M (m_copyOf (m_mk M) t s') := m_copyOf_fr (m_mk_fr m_fr.rf) (by rw [e8K]; exact hn)
        have hfl : m_fr n M (m_chl (m_mk M 102 33).toInt s' (m_mk M 102 8).toInt.toNat t.toInt.toNat (m_copyOf (m_mk M) t s') s') := m_chl_fr (by omega) hfc s'
        have eK : ∀ a, a ≠ 102 → m_mk M a = M a := fun a ha => m_mk_row ha
        have hpr : m_pr n (m_mk M 102 8).toInt.toNat s' (m_copyOf (m_mk M) t s') := fun j hj => by
          rw [m_copyOf_pt h0 (by omega) a2 hj, eK 108 (by decide)]
          exact ⟨(a6 j hj).1, (a6 j hj).2.1⟩
        have hptc : ∀ j, j < s' → 0 ≤ (m_copyOf (m_mk M) t s' 108 (12 * t.toInt.toNat + j)).toInt ∧ (m_copyOf (m_mk M) t s' 108 (12 * t.toInt.toNat + j)).toInt < n := fun j hj => by
          rw [(hfc.1.2 (12 * t.toInt.toNat + j) (by omega)).1]
          exact ⟨(a6 j hj).1, (a6 j hj).2.1⟩
        have hprN := m_chl_pr (how := (m_mk M 102 33).toInt) (c := (m_mk M 102 8).toInt.toNat) (t := t.toInt.toNat) (by omega) (by omega) a2 hpr hptc s' (Nat.le_refl _)
        have hB8 : (m_chl (m_mk M 102 33).toInt s' (m_mk M 102 8).toInt.toNat t.toInt.toNat (m_copyOf (m_mk M) t s') s' 102 8).toInt = (M 102 8).toInt + 1 := by
          have e : m_changed (m_mk M) t s' 102 8 = m_chl (m_mk M 102 33).toInt s' (m_mk M 102 8).toInt.toNat t.toInt.toNat (m_copyOf (m_mk M) t s') s' 102 8 := by unfold m_changed; rw [m_ends_row (by decide) (by decide)]
          rw [← e]; exact h8
        have ekd : m_chl (m_mk M 102 33).toInt s' (m_mk M 102 8).toInt.toNat t.toInt.toNat (m_copyOf (m_mk M) t s') s' 103 (m_mk M 102 8).toInt.toNat = M 103 t.toInt.toNat := by rw [m_chl_row (by decide), m_copyOf_kd, eK 103 (by decide)]
        have eky : ∀ j, j < s' → m_chl (m_mk M 102 33).toInt s' (m_mk M 102 8).toInt.toNat t.toInt.toNat (m_copyOf (m_mk M) t s') s' 109 (12 * (m_mk M 102 8).toInt.toNat + j) = M 109 (12 * t.toInt.toNat + j) := fun j hj => by rw [m_chl_row (by decide), m_copyOf_ky h0 (by omega) a2 hj, eK 109 (by decide)]
        have esz : m_chl (m_mk M 102 33).toInt s' (m_mk M 102 8).toInt.toNat t.toInt.toNat (m_copyOf (m_mk M) t s') s' 105 (m_mk M 102 8).toInt.toNat = M 105 t.toInt.toNat := by rw [m_chl_row (by decide), m_copyOf_sz, eK 105 (by decide)]
        unfold m_changed
        generalize m_chl (m_mk M 102 33).toInt s' (m_mk M 102 8).toInt.toNat t.toInt.toNat (m_copyOf (m_mk M) t s') s' = N at *
        rw [e8K] at hprN ekd eky esz ⊢
        refine m_oq_one (s := s') hT h0 h1 hn rfl hB8 hfl.1 (by rw [esz]; exact a1) a2 (by rw [ekd]; exact a3) hprN (by rw [ekd]; exact a9) (fun h j hj => ?_) (fun h j hj => ?_) (by omega)
        · rw [ekd] at h
          rw [eky j hj]
          exact a10 h j hj
        · rw [ekd] at h
          rw [eky j (by omega), eky (j + 1) hj]
          exact a11 h j hj
    · rw [m_cani_f hc]
      exact m_oq_spent m_nomk_36
  next => exact hsame
