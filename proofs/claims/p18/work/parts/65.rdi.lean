/-! ===== the reference: a part comes to what is read (own text) ===== -/
theorem m_nds_ins {A B : wd_I} {q s k : Nat} {v : Int} (h1 : ∀ j, j < k → (B 106 (B 108 (12 * q + j)).toInt.toNat).toInt = (A 106 (A 108 (12 * q + j)).toInt.toNat).toInt) (h2 : (B 106 (B 108 (12 * q + k)).toInt.toNat).toInt = v) (h3 : ∀ j, k ≤ j → j < s → (B 106 (B 108 (12 * q + (j + 1))).toInt.toNat).toInt = (A 106 (A 108 (12 * q + j)).toInt.toNat).toInt) : (∀ i, i ≤ k → m_nds B q i = m_nds A q i) ∧ ∀ i, k ≤ i → i ≤ s → m_nds B q (i + 1) = m_nds A q i + v := by
  have hlo : ∀ i, i ≤ k → m_nds B q i = m_nds A q i := by
    intro i
    induction i with
    | zero => intro _; rfl
    | succ i ih =>
      intro hi
      have := ih (by omega)
      have := h1 i (by omega)
      unfold m_nds
      omega
  refine ⟨hlo, fun i => ?_⟩
  induction i with
  | zero =>
    intro hk _
    have e : k = 0 := by omega
    subst e
    show m_nds B q 0 + _ = m_nds A q 0 + v
    rw [hlo 0 (by omega), h2]
  | succ i ih =>
    intro hk hs
    by_cases e : k = i + 1
    · subst e
      show m_nds B q (i + 1) + _ = m_nds A q (i + 1) + v
      rw [hlo (i + 1) (by omega), h2]
    · have h4 := ih (by omega) (by omega)
      have h5 := h3 i (by omega) (by omega)
      show m_nds B q (i + 1) + (B 106 (B 108 (12 * q + (i + 1))).toInt.toNat).toInt = m_nds A q i + (A 106 (A 108 (12 * q + i)).toInt.toNat).toInt + v
      omega
theorem m_ip_ins {hb : Int} {M0 N N1 X : wd_I} {t sort p : Int32} {s k : Nat} (h : m_ip hb M0 N t sort s) (h11 : s ≤ 11) (h0 : 0 ≤ t.toInt) (ht : t.toInt < (N 102 8).toInt) (g : m_rg N N1)
    (w : m_rq (N 102 8).toInt hb N1 ∧ (N 102 8).toInt ≤ p.toInt ∧ (1 ≤ (N1 106 p.toInt.toNat).toInt ∧ (N1 106 p.toInt.toNat).toInt ≤ m_pt N - m_pt N1) ∧ (0 ≤ (N1 107 p.toInt.toNat).toInt ∧ (N1 107 p.toInt.toNat).toInt ≤ hb) ∧ (N1 102 25).toInt = (N 102 25).toInt + (N1 106 p.toInt.toNat).toInt ∧ (N1 102 8).toInt = (N 102 8).toInt + (N1 106 p.toInt.toNat).toInt) (hp : p.toInt < (N1 102 8).toInt)
    (hk : k ≤ s) (x102 : X 102 = N1 102) (xra : ∀ q : Nat, q ≠ t.toInt.toNat → m_ra N1 X q) (x103 : X 103 t.toInt.toNat = N1 103 t.toInt.toNat) (x105 : (X 105 t.toInt.toNat).toInt = ((s + 1 : Nat) : Int)) (x108 : ∀ j, j ≤ s → X 108 (12 * t.toInt.toNat + j) = if j = k then p else if k < j then N1 108 (12 * t.toInt.toNat + (j - 1)) else N1 108 (12 * t.toInt.toNat + j))
    (hk0 : ¬ sort.toInt = 3 → ∀ j, j < s + 1 → (X 109 (12 * t.toInt.toNat + j)).toInt = 0) (hk3 : sort.toInt = 3 → ∀ j, j + 1 < s + 1 → (X 109 (12 * t.toInt.toNat + j)).toInt < (X 109 (12 * t.toInt.toNat + (j + 1))).toInt) : m_ip hb M0 X t sort (s + 1) := by
  obtain ⟨a1, a2, a3, a4, a5, a6, a7, a8, a9⟩ := h
  obtain ⟨w1, w2, w3, w4, w5, w6⟩ := w
  have hsb := g.1.1
  have hrt := hsb.ra (q := t.toInt.toNat) (by omega)
  have g8 := g.2.2.1
  have e8 : X 102 8 = N1 102 8 := by rw [x102]
  have ept : m_pt X = m_pt N1 := by unfold m_pt; rw [x102]
  -- the old parts
  have hold : ∀ j, j < s → N1 108 (12 * t.toInt.toNat + j) = N 108 (12 * t.toInt.toNat + j) ∧ X 106 (N1 108 (12 * t.toInt.toNat + j)).toInt.toNat = N 106 (N 108 (12 * t.toInt.toNat + j)).toInt.toNat ∧ X 107 (N1 108 (12 * t.toInt.toNat + j)).toInt.toNat = N 107 (N 108 (12 * t.toInt.toNat + j)).toInt.toNat := fun j hj => by
    obtain ⟨b1, b2, b3⟩ := a4 j hj
    have e := (hrt.2.2.2.2.2 j (by omega)).1
    have r1 := hsb.ra (q := (N 108 (12 * t.toInt.toNat + j)).toInt.toNat) (by omega)
    have r2 := xra (N 108 (12 * t.toInt.toNat + j)).toInt.toNat (by omega)
    rw [e]
    exact ⟨rfl, r2.2.2.2.1.trans r1.2.2.2.1, r2.2.2.2.2.1.trans r1.2.2.2.2.1⟩
  have rp := xra p.toInt.toNat (by omega)
  have hlo : ∀ j, j < k → X 108 (12 * t.toInt.toNat + j) = N1 108 (12 * t.toInt.toNat + j) := fun j hj => by rw [x108 j (by omega), if_neg (by omega), if_neg (by omega)]
  have hat : X 108 (12 * t.toInt.toNat + k) = p := by rw [x108 k hk, if_pos rfl]
  have hhi : ∀ j, k ≤ j → j < s → X 108 (12 * t.toInt.toNat + (j + 1)) = N1 108 (12 * t.toInt.toNat + j) := fun j hj hj2 => by rw [x108 (j + 1) (by omega), if_neg (by omega), if_pos (by omega)]; rfl
  have hins := m_nds_ins (A := N) (B := X) (q := t.toInt.toNat) (s := s) (k := k) (v := (N1 106 p.toInt.toNat).toInt) (fun j hj => by rw [hlo j hj, (hold j (by omega)).2.1]) (by rw [hat, rp.2.2.2.1]) (fun j hj hj2 => by rw [hhi j hj hj2, (hold j hj2).2.1])
  have hsum := hins.2 s hk (Nat.le_refl _)
  refine ⟨by rw [x103, hrt.1]; exact a1, x105, fun q hq1 hq2 => ?_, fun j hj => ?_, by rw [hsum, ept]; omega, by rw [hsum, x102, w5, a6]; omega, hk0, hk3, by rw [hsum, e8]; omega⟩
  · rw [e8] at hq2 ⊢
    have rq := xra q (by omega)
    by_cases hqN : (q : Int) < (N 102 8).toInt
    · obtain ⟨b1, b2, b3⟩ := a3 q hq1 hqN
      have r1 := (hsb.ra hqN).tr rq
      exact ⟨m_gr_ra b1 r1 (fun x hx hxD => (hsb.ra (by omega)).tr (xra _ (by omega))) (fun x _ hx => by omega), by rw [r1.2.2.2.1]; exact b2, by rw [r1.2.2.2.2.1]; exact b3⟩
    · obtain ⟨b1, b2, b3⟩ := w1 q (by omega) hq2
      exact ⟨m_gr_ra b1 rq (fun x hx hxD => xra _ (by omega)) (fun x _ hx => by omega), by rw [rq.2.2.2.1]; exact b2, by rw [rq.2.2.2.2.1]; exact b3⟩
  · rw [e8]
    by_cases e : j = k
    · subst e
      rw [hat, rp.2.2.2.1, rp.2.2.2.2.1]
      exact ⟨⟨by omega, hp⟩, w3.1, w4⟩
    · by_cases e2 : j < k
      · obtain ⟨b1, b2, b3⟩ := a4 j (by omega)
        rw [hlo j e2, (hold j (by omega)).2.1, (hold j (by omega)).2.2, (hold j (by omega)).1]
        exact ⟨⟨b1.1, by omega⟩, b2, b3⟩
      · obtain ⟨j', rfl⟩ : ∃ j', j = j' + 1 := ⟨j - 1, by omega⟩
        obtain ⟨b1, b2, b3⟩ := a4 j' (by omega)
        rw [hhi j' (by omega) (by omega), (hold j' (by omega)).2.1, (hold j' (by omega)).2.2, (hold j' (by omega)).1]
        exact ⟨⟨b1.1, by omega⟩, b2, b3⟩
theorem m_adds_ra {M : wd_I} {t key p : Int32} {s q : Nat} (h11 : s ≤ 11) (hq : q ≠ t.toInt.toNat) : m_ra M (m_adds M t key p s) q := by
  refine ⟨by rw [m_adds_kd], by rw [m_adds_wo], ?_, ?_, ?_, fun j hj => ⟨?_, ?_⟩⟩
  · unfold m_adds; rw [wd_up_ne _ _ (Or.inr hq), wd_up_row _ _ _ (by decide), wd_up_row _ _ _ (by decide)]
  · unfold m_adds; rw [wd_up_row _ _ _ (by decide), wd_up_row _ _ _ (by decide), wd_up_row _ _ _ (by decide)]
  · unfold m_adds; rw [wd_up_row _ _ _ (by decide), wd_up_row _ _ _ (by decide), wd_up_row _ _ _ (by decide)]
  · rw [m_adds_pn (by omega)]
  · unfold m_adds; rw [wd_up_row _ _ _ (by decide), wd_up_ne _ _ (Or.inr (by omega)), wd_up_row _ _ _ (by decide)]
theorem m_puts_ra {M : wd_I} {t key p : Int32} {s q : Nat} (h11 : s ≤ 11) (hq : q ≠ t.toInt.toNat) : m_ra M (m_puts M t key p s) q := by
  have hle := m_pk_le (M := M) (t := t) (key := key) (s := s)
  have e1 : ∀ a, a ≠ 108 → a ≠ 109 → a ≠ 105 → m_puts M t key p s a = M a := fun a h1 h2 h3 => by
    unfold m_puts m_puts1
    rw [wd_up_row _ _ _ h2, wd_up_row _ _ _ h1]
    split
    · rw [wd_up_row _ _ _ h3, m_psh_row h1 h2]
    · rfl
  have e5 : m_puts M t key p s 105 q = M 105 q := by
    unfold m_puts m_puts1
    rw [wd_up_row _ _ _ (by decide), wd_up_row _ _ _ (by decide)]
    split
    · rw [wd_up_ne _ _ (Or.inr hq), m_psh_row (by decide) (by decide)]
    · rfl
  refine ⟨by rw [e1 103 (by decide) (by decide) (by decide)], by rw [e1 104 (by decide) (by decide) (by decide)], e5, by rw [e1 106 (by decide) (by decide) (by decide)], by rw [e1 107 (by decide) (by decide) (by decide)], fun j hj => ⟨?_, ?_⟩⟩
  · unfold m_puts
    change (wd_up (wd_up (m_puts1 M t.toInt.toNat key s (m_pk M t key s)) 108 (12 * t.toInt.toNat + m_pk M t key s) p) 109 (12 * t.toInt.toNat + m_pk M t key s) key) 108 (12 * q + j) = _
    rw [wd_up_row _ _ _ (by decide), wd_up_ne _ _ (Or.inr (by omega))]
    unfold m_puts1
    split
    · rw [wd_up_row _ _ _ (by decide), m_psh_8 _ _ _ (by omega), if_neg (by omega)]
    · rfl
  · unfold m_puts
    change (wd_up (wd_up (m_puts1 M t.toInt.toNat key s (m_pk M t key s)) 108 (12 * t.toInt.toNat + m_pk M t key s) p) 109 (12 * t.toInt.toNat + m_pk M t key s) key) 109 (12 * q + j) = _
    rw [wd_up_ne _ _ (Or.inr (by omega)), wd_up_row _ _ _ (by decide)]
    unfold m_puts1
    split
    · rw [wd_up_row _ _ _ (by decide), m_psh_9 _ _ _ (by omega), if_neg (by omega)]
    · rfl
/-- where a key goes: behind the lesser ones -/
theorem m_ppos_lt {M : wd_I} {t : Nat} {key : Int32} : ∀ n i j, i ≤ j → j < m_ppos M t key n i → (M 109 (12 * t + j)).toInt < key.toInt
  | 0, i, j, hij, hj => by
    change j < i at hj
    omega
  | n + 1, i, j, hij, hj => by
    unfold m_ppos at hj
    split at hj
    next hc =>
      by_cases e : i = j
      · subst e; exact hc
      · exact m_ppos_lt n (i + 1) j (by omega) hj
    next hc => omega
theorem m_ppos_ge {M : wd_I} {t : Nat} {key : Int32} : ∀ n i, m_ppos M t key n i < i + n → key.toInt ≤ (M 109 (12 * t + m_ppos M t key n i)).toInt
  | 0, i, h => by
    change i < i + 0 at h
    omega
  | n + 1, i, h => by
    unfold m_ppos at h ⊢
    split at h
    next hc => rw [if_pos hc]; exact m_ppos_ge n (i + 1) (by omega)
    next hc => rw [if_neg hc]; omega
theorem m_hk_no {M : wd_I} {t : Nat} {key : Int32} : ∀ s, (m_hk M t key s).toInt = 0 → ∀ j, j < s → ¬ (M 109 (12 * t + j)).toInt = key.toInt
  | 0, _, j, hj => absurd hj (Nat.not_lt_zero _)
  | s + 1, h, j, hj => by
    unfold m_hk at h
    split at h
    next hc =>
      by_cases e : j = s
      · subst e; exact hc.2
      · exact m_hk_no s hc.1 j (by omega)
    next hc => exact absurd h (by decide)
/-- a new key in its place: still in order -/
theorem m_puts_sorted {M : wd_I} {t key p : Int32} {s : Nat} (hs : ∀ j, j + 1 < s → (M 109 (12 * t.toInt.toNat + j)).toInt < (M 109 (12 * t.toInt.toNat + (j + 1))).toInt) (hno : ∀ j, j < s → ¬ (M 109 (12 * t.toInt.toNat + j)).toInt = key.toInt) : m_pn M t key s ∧ ∀ j, j + 1 < s + 1 → (m_puts M t key p s 109 (12 * t.toInt.toNat + j)).toInt < (m_puts M t key p s 109 (12 * t.toInt.toNat + (j + 1))).toInt := by
  have hle := m_pk_le (M := M) (t := t) (key := key) (s := s)
  have hlt : ∀ j, j < m_pk M t key s → (M 109 (12 * t.toInt.toNat + j)).toInt < key.toInt := fun j hj => m_ppos_lt s 0 j (by omega) hj
  have hge : m_pk M t key s < s → key.toInt < (M 109 (12 * t.toInt.toNat + m_pk M t key s)).toInt := fun h => by
    have h1 : key.toInt ≤ (M 109 (12 * t.toInt.toNat + m_pk M t key s)).toInt := m_ppos_ge s 0 (by have : m_pk M t key s = m_ppos M t.toInt.toNat key s 0 := rfl; omega)
    have := hno _ h
    omega
  have hpn : m_pn M t key s := by
    unfold m_pn
    by_cases e : m_pk M t key s = s
    · exact Or.inl e
    · exact Or.inr (hno _ (by omega))
  refine ⟨hpn, fun j hj => ?_⟩
  rw [m_puts_9, m_puts_9]
  generalize m_pk M t key s = kk at *
  by_cases e1 : j = kk
  · subst e1
    rw [if_pos rfl, if_neg (by omega), if_pos ⟨hpn, by omega, by omega⟩]
    exact hge (by omega)
  · rw [if_neg e1]
    by_cases e2 : j + 1 = kk
    · rw [if_pos e2, if_neg (by omega)]
      exact hlt j (by omega)
    · rw [if_neg e2]
      by_cases e3 : kk < j
      · obtain ⟨j', rfl⟩ : ∃ j', j = j' + 1 := ⟨j - 1, by omega⟩
        rw [if_pos ⟨hpn, by omega, by omega⟩, if_pos ⟨hpn, by omega, by omega⟩]
        exact hs j' (by omega)
      · rw [if_neg (by omega), if_neg (by omega)]
        exact hs j (by omega)
