/-! ===== the reference: what holds between calls (own text) ===== -/
def m_9 (M N : wd_I) : Prop := (M 102 9).toInt ≤ (N 102 9).toInt
theorem m_9.tr {M N K : wd_I} (h : m_9 M N) (h' : m_9 N K) : m_9 M K := Int.le_trans h h'
theorem m_9_e {M N : wd_I} (h : N 102 9 = M 102 9) : m_9 M N := by unfold m_9; rw [h]; exact Int.le_refl _
theorem m_mk_9 {M : wd_I} (hr : m_rm M) (hc : m_can M) (h0 : 0 ≤ (M 102 9).toInt) : m_9 M (m_mk M) := by
  have := m_can_lt hr hc
  unfold m_9 m_mk
  rw [wd_up_self, ab_tI (by omega) (by omega)]
  omega
theorem m_s1_9 {M N : wd_I} (hr : m_rm M) (hc : m_can M) (h0 : 0 ≤ (M 102 9).toInt) (h : m_s1 (m_mk M) N) : m_9 M N := (m_mk_9 hr hc h0).tr (m_9_e (h.2 9 (by decide)))
theorem m_numb_9 {M : wd_I} {v : Int32} (hr : m_rm M) (h0 : 0 ≤ (M 102 9).toInt) : m_9 M (m_numb M v).1 := by
  unfold m_numb
  by_cases hc : m_can M
  · rw [m_cani_t hc]; exact m_s1_9 hr hc h0 m_number_s1
  · rw [m_cani_f hc]; exact m_9_e m_nomk_9
theorem m_bec_9 {M : wd_I} {how : Int} {hw f t : Int32} {s : Nat} {n : Int} (hn : 0 ≤ n) (hn8 : n ≤ (M 102 8).toInt) (hp : 0 < (M 102 8).toInt) (hr : m_rm M) (h0 : 0 ≤ (M 102 9).toInt) : m_9 M (m_bec M how hw f t s).1 := by
  unfold m_bec
  split
  · split
    · exact m_numb_9 hr h0
    · exact m_9_e rfl
  split
  · exact m_9_e rfl
  split
  · have h1 := m_numb_9 (v := hw) hr h0
    have hg := m_numb_good (n := n) (v := hw) hn hn8 hp hr
    have hr1 := hg.2.1
    have h01 : 0 ≤ ((m_numb M hw).1 102 9).toInt := Int.le_trans h0 h1
    generalize m_numb M hw = R at *
    by_cases hc : m_can R.1
    · rw [m_cani_t hc]; exact h1.tr (m_s1_9 hr1 hc h01 m_pair_s1)
    · rw [m_cani_f hc]; exact h1.tr (m_9_e m_nomk_9)
  split
  · by_cases hc : m_can M
    · rw [m_cani_t hc]
      split
      · exact m_s1_9 hr hc h0 m_around_s1
      split
      · exact m_s1_9 hr hc h0 m_around_s1
      · exact m_s1_9 hr hc h0 m_changed_s1
    · rw [m_cani_f hc]; exact m_9_e m_nomk_9
  · exact m_9_e rfl
theorem m_ovs_9 {n : Int} {G : wd_I → Int32 → wd_I × Int32} (hGg : ∀ N q, m_op n N → 0 ≤ q.toInt → q.toInt < n → m_good (N 102 8).toInt N (G N q)) (hG9 : ∀ N q, m_op n N → 0 ≤ (N 102 9).toInt → 0 ≤ q.toInt → q.toInt < n → m_9 N (G N q).1) {p i s j : Nat} {t : Int32} {r : wd_I × Int32} (hop : m_op n r.1) (h0 : 0 ≤ (r.1 102 9).toInt) (hq : 0 ≤ (r.1 108 (12 * t.toInt.toNat + j)).toInt ∧ (r.1 108 (12 * t.toInt.toNat + j)).toInt < n) : m_9 r.1 (m_ovs G p i s t j r).1 := by
  unfold m_ovs
  split
  · have h1 := hG9 r.1 _ hop h0 hq.1 hq.2
    have hg := hGg r.1 _ hop hq.1 hq.2
    generalize G r.1 (r.1 108 (12 * t.toInt.toNat + j)) = R at *
    have hr1 := hg.2.1
    have h01 : 0 ≤ (R.1 102 9).toInt := Int.le_trans h0 h1
    split
    · exact h1
    split
    · by_cases hc : m_can R.1
      · rw [m_cani_t hc]
        refine (h1.tr (m_mk_9 hr1 hc h01)).tr (m_9_e ?_)
        dsimp only
        rw [wd_up_row _ _ _ (by decide)]
        unfold m_copyOf
        rw [m_cpl_row (by decide) (by decide), m_begins_n (by decide)]
      · rw [m_cani_f hc]; exact h1.tr (m_9_e m_nomk_9)
    · exact h1.tr (m_9_e (by dsimp only; rw [wd_up_row _ _ _ (by decide)]))
  · exact m_9_e rfl
theorem m_ovl_9 {n : Int} {G : wd_I → Int32 → wd_I × Int32} (hGg : ∀ N q, m_op n N → 0 ≤ q.toInt → q.toInt < n → m_good (N 102 8).toInt N (G N q)) (hG9 : ∀ N q, m_op n N → 0 ≤ (N 102 9).toInt → 0 ≤ q.toInt → q.toInt < n → m_9 N (G N q).1) {p i s : Nat} {M : wd_I} {t : Int32} (hop : m_op n M) (ht0 : 0 ≤ t.toInt) (ht1 : t.toInt < n) (hs : (M 105 t.toInt.toNat).toInt = (s : Int)) (h12 : s ≤ 12) (hpt : ∀ j, j < s → 0 ≤ (M 108 (12 * t.toInt.toNat + j)).toInt ∧ (M 108 (12 * t.toInt.toNat + j)).toInt < n) : ∀ (m j : Nat) (r : wd_I × Int32), j + m = s → m_li s M r → 0 ≤ (r.1 102 9).toInt → m_9 r.1 (m_ovl G p i s t m j r).1
  | 0, _, _, _, _, _ => m_9_e rfl
  | m + 1, j, (N, a), hj, h, h0 => by
    unfold m_ovl
    obtain ⟨hf, hr, h8, hA⟩ := id h
    have hopN : m_op n N := m_op_fr hop hf hop.2.2.1 hr h8
    have hq : N 108 (12 * t.toInt.toNat + j) = M 108 (12 * t.toInt.toNat + j) := (hf.1.2 _ (by have := hop.2.2.1; omega)).1
    have h1 := m_ovs_9 hGg hG9 (p := p) (i := i) (s := s) (j := j) (t := t) (r := (N, a)) hopN h0 (by dsimp only; rw [hq]; exact hpt j (by omega))
    exact h1.tr (m_ovl_9 hGg hG9 hop ht0 ht1 hs h12 hpt m (j + 1) _ (by omega) (m_ovs_li hop ht0 ht1 hs h12 hpt (by omega) hGg h) (Int.le_trans h0 h1))
theorem m_ov_9 {n : Int} {p : Nat} : ∀ (f : Nat) (M : wd_I) (t : Int32) (i : Nat), m_op n M → 0 ≤ (M 102 9).toInt → 0 ≤ t.toInt → t.toInt < n → m_9 M (m_ov p f M t i).1
  | 0, M, t, i, hop, h9, h0, h1 => m_9_e rfl
  | f + 1, M, t, i, hop, h9, h0, h1 => by
    obtain ⟨o1, o2, o3, o4, o5, o6⟩ := id hop
    obtain ⟨s, hs, a2, a3, a4, a5⟩ := o1.2 t.toInt.toNat (by omega)
    unfold m_ov
    split
    · split
      · unfold m_became
        have e : m_ov1 M 102 9 = M 102 9 := wd_up_ne _ _ (Or.inr (by decide))
        exact (m_9_e (N := m_ov1 M) e).tr (m_bec_9 (n := n) o2 (by rw [m_ov1_8]; exact o3) (by rw [m_ov1_8]; omega) (m_ov1_rm o4) (by rw [e]; exact h9))
      · split
        · exact m_ov_9 f M t (i + 1) hop h9 h0 h1
        · rw [hs, Int.toNat_natCast]
          have hl := m_ovl_9 (n := n) (G := fun N q => m_ov p f N q (m_nxt M p i)) (fun N q hN hq0 hq1 => m_ov_good f N q _ hN hq0 hq1) (fun N q hN hN9 hq0 hq1 => m_ov_9 f N q _ hN hN9 hq0 hq1) (p := p) (i := i) hop h0 h1 hs a2 (fun j hj => ⟨(a5 j hj).1, (a5 j hj).2.1⟩) s 0 (M, ab_ii (-1)) (by omega) ⟨m_fr.rf, o4, Int.le_refl _, Or.inl rfl⟩ h9
          unfold m_fin
          split
          · exact hl
          · exact hl.tr (m_9_e (by dsimp only; rw [m_ends_row (by decide) (by decide)]))
    · exact m_9_e rfl
/-- what holds of the reference between two calls -/
def m_ok (M : wd_I) : Prop := m_T M (M 102 8).toInt ∧ (12 ≤ (M 102 8).toInt ∧ 0 ≤ (M 102 9).toInt) ∧ m_rm M ∧ (∀ j, j < 12 → 0 ≤ (M 110 j).toInt ∧ (M 110 j).toInt < (M 102 8).toInt) ∧ (∀ p, p < 8 → 0 ≤ (M 115 p).toInt ∧ (M 115 p).toInt ≤ 8) ∧ (∀ j, j < 12 → ∃ c : Nat, M 112 j = ab_ii (c : Int) ∧ c ≤ 10 ∧ ∀ i, i < c → 0 ≤ (M 111 (10 * j + i)).toInt ∧ (M 111 (10 * j + i)).toInt < (M 102 8).toInt) ∧ (∃ n : Nat, M 102 22 = ab_ii (n : Int) ∧ n ≤ 100) ∧ (∀ p, p < 8 → 0 ≤ (M 119 p).toInt ∧ (M 119 p).toInt ≤ 8) ∧ (¬ (M 102 20).toInt = 0 → ∀ j, j < 12 → 0 ≤ (M 116 j).toInt ∧ (M 116 j).toInt < (M 102 8).toInt)
theorem m_ok.lok {M : wd_I} (h : m_ok M) : m_lok M := by
  obtain ⟨a1, a2, a3, a4, a5, -⟩ := h
  exact ⟨a1.tb, a4, fun p h0 h7 => ⟨h0, h7, a5 p.toInt.toNat (by omega)⟩⟩
theorem m_ok_of {M N : wd_I} (h : m_ok M) (hT : m_T N (N 102 8).toInt) (h8 : (M 102 8).toInt ≤ (N 102 8).toInt) (h9 : m_9 M N) (hr : m_rm N) (hrow : ∀ a, 110 ≤ a → a ≤ 119 → N a = M a) (h20 : N 102 20 = M 102 20) (h22 : ∃ n : Nat, N 102 22 = ab_ii (n : Int) ∧ n ≤ 100) : m_ok N := by
  obtain ⟨a1, a2, a3, a4, a5, a6, a7, a8, a9⟩ := h
  unfold m_9 at h9
  refine ⟨hT, ⟨by omega, by omega⟩, hr, fun j hj => ?_, fun p hp => by rw [hrow 115 (by decide) (by decide)]; exact a5 p hp, fun j hj => ?_, h22, fun p hp => by rw [hrow 119 (by decide) (by decide)]; exact a8 p hp, fun hne j hj => ?_⟩
  · rw [hrow 110 (by decide) (by decide)]; have := a4 j hj; omega
  · obtain ⟨c, c1, c2, c3⟩ := a6 j hj
    rw [hrow 112 (by decide) (by decide), hrow 111 (by decide) (by decide)]
    exact ⟨c, c1, c2, fun i hi => by have := c3 i hi; omega⟩
  · rw [h20] at hne
    rw [hrow 116 (by decide) (by decide)]
    have := a9 hne j hj
    omega
theorem m_ok_eqv {M M' : wd_I} (h : m_ok M) (he : m_eqv M M') : m_ok M' := by
  have h7 := h.2.2.2.2.2.2.1
  exact m_ok_of h (m_eqv_lok he h.1) (by rw [he.2.1]; exact Int.le_refl _) (m_9_e he.2.2.1) (m_eqv_rm he h.2.2.1) (fun a h1 h2 => he.1 a (by omega) (by omega)) he.2.2.2.1 (by rw [he.2.2.2.2]; exact h7)
theorem m_rs_T {M N : wd_I} (hT : m_T M (M 102 8).toInt) (hs : m_sb (M 102 8).toInt M N) : m_T (m_rs M N) (m_rs M N 102 8).toInt := by
  have e8 : m_rs M N 102 8 = M 102 8 := wd_up_self _ _ _ _
  have er : ∀ a, a ≠ 102 → m_rs M N a = N a := fun a ha => wd_up_row _ _ _ ha
  rw [e8]
  refine m_T_sb hT ⟨fun t ht => ?_, fun i hi => ?_⟩
  · rw [er 103 (by decide), er 104 (by decide), er 105 (by decide), er 106 (by decide), er 107 (by decide)]; exact hs.1 t ht
  · rw [er 108 (by decide), er 109 (by decide)]; exact hs.2 i hi
/-- a call that makes nothing in the end -/
theorem m_ok_rs {M N : wd_I} (h : m_ok M) (hs : m_sb (M 102 8).toInt M N) (h9 : m_9 M N) (h93 : (N 102 9).toInt ≤ 3000) (hrow : ∀ a, 110 ≤ a → a ≤ 119 → N a = M a) (h20 : N 102 20 = M 102 20) (h22 : ∃ n : Nat, N 102 22 = ab_ii (n : Int) ∧ n ≤ 100) : m_ok (m_rs M N) := by
  have e8 : m_rs M N 102 8 = M 102 8 := wd_up_self _ _ _ _
  have en : ∀ j, j ≠ 8 → m_rs M N 102 j = N 102 j := fun j hj => wd_up_ne _ _ (Or.inr hj)
  have er : ∀ a, a ≠ 102 → m_rs M N a = N a := fun a ha => wd_up_row _ _ _ ha
  refine m_ok_of h (m_rs_T h.1 hs) (by rw [e8]; exact Int.le_refl _) ((m_9_e (M := N) (N := m_rs M N) (en 9 (by decide))).tr (m_9_e rfl) |> fun q => h9.tr q) ?_ (fun a h1 h2 => by rw [er a (by omega)]; exact hrow a h1 h2) (by rw [en 20 (by decide)]; exact h20) (by rw [en 22 (by decide)]; exact h22)
  have hr := h.2.2.1
  unfold m_rm m_9 at *
  rw [e8, en 9 (by decide)]
  omega
