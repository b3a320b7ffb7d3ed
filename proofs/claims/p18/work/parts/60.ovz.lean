/-! ===== the reference: OVER makes good rows, whole (own text) ===== -/
/-- a further part that is another -/
theorem m_lq_add {n : Int} {M : wd_I} {t a x : Int32} {s j : Nat} {N N1 : wd_I} (hT : m_T M n) (h0 : 0 ≤ t.toInt) (h1 : t.toInt < n) (hn : n ≤ (M 102 8).toInt) (hs : (M 105 t.toInt.toNat).toInt = (s : Int)) (h12 : s ≤ 12) (hj : j < s) (ha1 : ¬ a.toInt = -1) (ha : (M 102 8).toInt ≤ a.toInt ∧ a.toInt < (N 102 8).toInt) (h : m_lq n M t s j (N, a)) (hf1 : m_sb (N 102 8).toInt N N1) (h81 : (N 102 8).toInt ≤ (N1 102 8).toInt)
    (hx : m_dm n (N 102 8).toInt (N1 102 8).toInt x.toInt ∧ 0 ≤ x.toInt) (hxn : 1 ≤ (N1 106 x.toInt.toNat).toInt ∧ (N1 106 x.toInt.toNat).toInt ≤ 202 * (M 106 (M 108 (12 * t.toInt.toNat + j)).toInt.toNat).toInt) (hxh : 0 ≤ (N1 107 x.toInt.toNat).toInt ∧ (N1 107 x.toInt.toNat).toInt ≤ (M 107 (M 108 (12 * t.toInt.toNat + j)).toInt.toNat).toInt + 14)
    (hrow : ∀ q : Nat, (N 102 8).toInt ≤ (q : Int) → (q : Int) < (N1 102 8).toInt → m_gr (m_dm n (N 102 8).toInt (N1 102 8).toInt) N1 q ∧ (N1 106 q).toInt ≤ (N1 106 x.toInt.toNat).toInt ∧ (N1 107 q).toInt ≤ (N1 107 x.toInt.toNat).toInt) : m_lq n M t s (j + 1) (wd_up N1 108 (12 * a.toInt.toNat + j) x, a) := by
  rcases h with ⟨b1, -⟩ | ⟨b1, b2, b3, b4, b5, b6, b7⟩
  · exact absurd b1 ha1
  · change N 103 a.toInt.toNat = _ at b2
    change N 104 a.toInt.toNat = _ at b3
    dsimp only at b4 b5 b6 b7
    have hM0 : 0 ≤ (M 102 8).toInt := by omega
    have hua : ∀ q : Nat, q ≠ a.toInt.toNat → m_ra N1 (wd_up N1 108 (12 * a.toInt.toNat + j) x) q := fun q hq => by
      refine ⟨by rw [wd_up_row _ _ _ (by decide)], by rw [wd_up_row _ _ _ (by decide)], by rw [wd_up_row _ _ _ (by decide)], by rw [wd_up_row _ _ _ (by decide)], by rw [wd_up_row _ _ _ (by decide)], fun i hi => ⟨?_, by rw [wd_up_row _ _ _ (by decide)]⟩⟩
      rw [wd_up_ne _ _ (Or.inr (by omega))]
    have e8 : wd_up N1 108 (12 * a.toInt.toNat + j) x 102 8 = N1 102 8 := by rw [wd_up_row _ _ _ (by decide)]
    have ea := hf1.ra (q := a.toInt.toNat) (by omega)
    have ep : ∀ i, i < s → wd_up N1 108 (12 * a.toInt.toNat + j) x 108 (12 * a.toInt.toNat + i) = if i = j then x else N 108 (12 * a.toInt.toNat + i) := fun i hi => by
      by_cases e : i = j
      · subst e; rw [wd_up_self, if_pos rfl]
      · rw [wd_up_ne _ _ (Or.inr (by omega)), if_neg e]; exact (ea.2.2.2.2.2 i (by omega)).1
    have e3 : wd_up N1 108 (12 * a.toInt.toNat + j) x 103 a.toInt.toNat = N 103 a.toInt.toNat := by rw [wd_up_row _ _ _ (by decide)]; exact ea.1
    have e4 : wd_up N1 108 (12 * a.toInt.toNat + j) x 104 a.toInt.toNat = N 104 a.toInt.toNat := by rw [wd_up_row _ _ _ (by decide)]; exact ea.2.1
    have e9 : ∀ i, i < s → wd_up N1 108 (12 * a.toInt.toNat + j) x 109 (12 * a.toInt.toNat + i) = N 109 (12 * a.toInt.toNat + i) := fun i hi => by rw [wd_up_row _ _ _ (by decide)]; exact (ea.2.2.2.2.2 i (by omega)).2
    generalize wd_up N1 108 (12 * a.toInt.toNat + j) x = A at *
    have hold : ∀ y : Int, 0 ≤ y → y ≠ a.toInt → m_dm n (M 102 8).toInt (N 102 8).toInt y → m_ra N A y.toNat := fun y hy hya hyD => (hf1.ra (by unfold m_dm at hyD; omega)).tr (hua _ (by omega))
    have hnew : ∀ y : Int, 0 ≤ y → m_dm n (N 102 8).toInt (N1 102 8).toInt y → m_ra N1 A y.toNat := fun y hy hyD => hua _ (by unfold m_dm at hyD; omega)
    refine Or.inr ⟨b1, by show A 103 a.toInt.toNat = _; rw [e3]; exact b2, by show A 104 a.toInt.toNat = _; rw [e4]; exact b3, fun i hi => by show A 109 (12 * a.toInt.toNat + i) = _; rw [e9 i hi]; exact b4 i hi, fun i hi hji => by show A 108 (12 * a.toInt.toNat + i) = _; rw [ep i hi, if_neg (by omega)]; exact b5 i hi (by omega), fun i hi => ?_, fun q hq1 hq2 hq3 => ?_⟩
    · dsimp only
      rw [ep i (by omega), e8]
      by_cases e : i = j
      · subst e
        have hr := hnew _ hx.2 hx.1
        rw [if_pos rfl, hr.2.2.2.1, hr.2.2.2.2.1]
        have := hx.1
        unfold m_dm at this ⊢
        exact ⟨⟨by omega, hx.2, by omega⟩, hxn, hxh⟩
      · rw [if_neg e]
        obtain ⟨c1, c2, c3⟩ := b6 i (by omega)
        have hr := hold _ c1.2.1 c1.2.2 c1.1
        rw [hr.2.2.2.1, hr.2.2.2.2.1]
        have := c1.1
        unfold m_dm at this ⊢
        exact ⟨⟨by omega, c1.2.1, c1.2.2⟩, c2, c3⟩
    · dsimp only at hq2 hq3 ⊢
      rw [e8] at hq2 ⊢
      by_cases hqN : (q : Int) < (N 102 8).toInt
      · obtain ⟨d1, i, hi, d2, d3⟩ := b7 q hq1 hqN hq3
        have hrq : m_ra N A q := (hf1.ra hqN).tr (hua _ (by omega))
        have hrx := hold _ (b6 i hi).1.2.1 (b6 i hi).1.2.2 (b6 i hi).1.1
        refine ⟨m_gr_ra d1 hrq (fun y hy hyD => hold y hy hyD.2 hyD.1) (fun y _ hy => ⟨by have := hy.1; unfold m_dm at this ⊢; omega, hy.2⟩), i, by omega, ?_, ?_⟩
        · rw [ep i (by omega), if_neg (by omega), hrq.2.2.2.1, hrx.2.2.2.1]; exact d2
        · rw [ep i (by omega), if_neg (by omega), hrq.2.2.2.2.1, hrx.2.2.2.2.1]; exact d3
      · obtain ⟨d1, d2, d3⟩ := hrow q (by omega) hq2
        have hrq : m_ra N1 A q := hua _ (by omega)
        have hrx := hnew _ hx.2 hx.1
        refine ⟨m_gr_ra d1 hrq hnew (fun y _ hy => ⟨by unfold m_dm at hy ⊢; omega, by unfold m_dm at hy; omega⟩), j, by omega, ?_, ?_⟩
        · rw [ep j hj, if_pos rfl, hrq.2.2.2.1, hrx.2.2.2.1]; exact d2
        · rw [ep j hj, if_pos rfl, hrq.2.2.2.2.1, hrx.2.2.2.2.1]; exact d3
/-- what is asked of the step within -/
def m_Gq (n : Int) (G : wd_I → Int32 → wd_I × Int32) : Prop := (∀ N q, ¬ (N 102 36).toInt = 0 → G N q = (N, q)) ∧ (∀ N q, m_op n N → 0 ≤ q.toInt → q.toInt < n → m_good (N 102 8).toInt N (G N q)) ∧ ∀ N q, m_op n N → m_T N n → 0 ≤ q.toInt → q.toInt < n → m_oq n N q.toInt.toNat (G N q)
theorem m_ovs_fl {n : Int} {G : wd_I → Int32 → wd_I × Int32} (hG : m_Gq n G) {p i s j : Nat} {t : Int32} {r : wd_I × Int32} (h : ¬ (r.1 102 36).toInt = 0) : m_ovs G p i s t j r = r := by
  unfold m_ovs
  split
  · rw [hG.1 _ _ h]
    show (if (r.1 108 (12 * t.toInt.toNat + j)).toInt = (r.1 108 (12 * t.toInt.toNat + j)).toInt then (r.1, r.2) else _) = r
    rw [if_pos rfl]
  · rfl
theorem m_ovl_fl {n : Int} {G : wd_I → Int32 → wd_I × Int32} (hG : m_Gq n G) {p i s : Nat} {t : Int32} : ∀ (m j : Nat) (r : wd_I × Int32), ¬ (r.1 102 36).toInt = 0 → m_ovl G p i s t m j r = r
  | 0, _, _, _ => rfl
  | m + 1, j, r, h => by
    unfold m_ovl
    rw [m_ovs_fl hG h]
    exact m_ovl_fl hG m (j + 1) r h
theorem m_ovs_lq {n : Int} {G : wd_I → Int32 → wd_I × Int32} (hG : m_Gq n G) {p i s j : Nat} {M : wd_I} {t : Int32} (hop : m_op n M) (hT : m_T M n) (h0 : 0 ≤ t.toInt) (h1 : t.toInt < n) (hs : (M 105 t.toInt.toNat).toInt = (s : Int)) (h12 : s ≤ 12) (hj : j < s) {r : wd_I × Int32} (hli : m_li s M r) (h : m_lq n M t s j r) (hu : ((m_ovs G p i s t j r).1 102 36).toInt = 0) : m_lq n M t s (j + 1) (m_ovs G p i s t j r) := by
  obtain ⟨N, a⟩ := r
  obtain ⟨hf, hr, h8, hA⟩ := hli
  change m_fr (M 102 8).toInt M N at hf
  change m_rm N at hr
  change (M 102 8).toInt ≤ (N 102 8).toInt at h8
  obtain ⟨o1, o2, o3, o4, o5, o6⟩ := id hop
  have hsbn : m_sb n M N := (hf.le o3).1
  have hTN : m_T N n := m_T_sb hT hsbn
  have hopN : m_op n N := m_op_fr hop hf o3 hr h8
  obtain ⟨p0, p1, p2, p3⟩ := m_lq_old hT h0 h1 hs hj
  have hq : N 108 (12 * t.toInt.toNat + j) = M 108 (12 * t.toInt.toNat + j) := (hsbn.2 _ (by omega)).1
  have hAN : a.toInt = -1 ∨ ((M 102 8).toInt ≤ a.toInt ∧ a.toInt < (N 102 8).toInt) := by
    rcases hA with hA | ⟨b1, b2, -⟩
    · exact Or.inl hA
    · exact Or.inr ⟨b1, b2⟩
  unfold m_ovs at hu ⊢
  simp only [hq] at hu ⊢
  by_cases hpa : m_part N p t.toInt.toNat i j
  · rw [if_pos hpa] at hu ⊢
    have g1 := hG.2.1 N (M 108 (12 * t.toInt.toNat + j)) hopN p0 p1
    have g2 := hG.2.2 N (M 108 (12 * t.toInt.toNat + j)) hopN hTN p0 p1
    have hqr := hsbn.ra (q := (M 108 (12 * t.toInt.toNat + j)).toInt.toNat) (by omega)
    generalize G N (M 108 (12 * t.toInt.toNat + j)) = R at *
    obtain ⟨N1, x⟩ := R
    obtain ⟨gf, gr, g8, gx0, gx1⟩ := g1
    change m_fr (N 102 8).toInt N N1 at gf
    change m_rm N1 at gr
    change (N 102 8).toInt ≤ (N1 102 8).toInt at g8
    change 0 ≤ x.toInt at gx0
    unfold m_oq at g2
    dsimp only at hu g2 ⊢
    rw [hqr.2.2.2.1, hqr.2.2.2.2.1] at g2
    by_cases hex : x.toInt = (M 108 (12 * t.toInt.toNat + j)).toInt
    · rw [if_pos hex] at hu ⊢
      have hu2 : (N1 102 36).toInt = 0 := hu
      obtain ⟨q1, -⟩ := g2 hu2
      exact m_lq_keep hT h0 h1 o3 hs h12 hj hsbn hAN h gf.1 (by omega) h8
    · rw [if_neg hex] at hu ⊢
      by_cases ha : a.toInt = -1
      · rw [if_pos ha] at hu ⊢
        by_cases hc : m_can N1
        · rw [m_cani_t hc] at hu ⊢
          obtain ⟨q1, q2, q3, q4, q5⟩ := g2 hc.1
          have hlt := m_can_lt gr hc
          have eN : (N 102 8).toInt = (M 102 8).toInt := by
            rcases h with ⟨-, b2⟩ | ⟨b1, -⟩
            · exact b2
            · exact absurd ha b1
          rw [eN] at q2 q3
          exact m_lq_new hT h0 h1 o3 hs h12 hj (hsbn.tr gf.1 (by omega)) (by omega) (by omega) ⟨q3, gx0⟩ q4 q5 q2
        · rw [m_cani_f hc] at hu
          have := m_nomk_36 (M := N1)
          change (m_nomk N1 102 36).toInt = 0 at hu
          omega
      · rw [if_neg ha] at hu ⊢
        have hu2 : (N1 102 36).toInt = 0 := by
          change (wd_up N1 108 (12 * a.toInt.toNat + j) x 102 36).toInt = 0 at hu
          rw [wd_up_row _ _ _ (by decide)] at hu
          exact hu
        obtain ⟨q1, q2, q3, q4, q5⟩ := g2 hu2
        exact m_lq_add hT h0 h1 o3 hs h12 hj ha (hAN.resolve_left ha) h gf.1 g8 ⟨q3, gx0⟩ q4 q5 q2
  · rw [if_neg hpa] at hu ⊢
    exact m_lq_keep hT h0 h1 o3 hs h12 hj hsbn hAN h m_sb.rf rfl h8
theorem m_ovl_lq {n : Int} {G : wd_I → Int32 → wd_I × Int32} (hG : m_Gq n G) {p i s : Nat} {M : wd_I} {t : Int32} (hop : m_op n M) (hT : m_T M n) (h0 : 0 ≤ t.toInt) (h1 : t.toInt < n) (hs : (M 105 t.toInt.toNat).toInt = (s : Int)) (h12 : s ≤ 12) (hpt : ∀ j, j < s → 0 ≤ (M 108 (12 * t.toInt.toNat + j)).toInt ∧ (M 108 (12 * t.toInt.toNat + j)).toInt < n) : ∀ (m j : Nat) (r : wd_I × Int32), j + m = s → m_li s M r → m_lq n M t s j r → ((m_ovl G p i s t m j r).1 102 36).toInt = 0 → m_lq n M t s s (m_ovl G p i s t m j r) ∧ m_li s M (m_ovl G p i s t m j r)
  | 0, j, r, hj, hli, h, _ => by
    have e : j = s := by omega
    subst e
    exact ⟨h, hli⟩
  | m + 1, j, (N, a), hj, hli, h, hu => by
    unfold m_ovl at hu ⊢
    have hu1 : ((m_ovs G p i s t j (N, a)).1 102 36).toInt = 0 := by
      by_cases hc : ((m_ovs G p i s t j (N, a)).1 102 36).toInt = 0
      · exact hc
      · rw [m_ovl_fl hG m (j + 1) _ hc] at hu
        exact absurd hu hc
    have hli2 := m_ovs_li (p := p) (i := i) hop h0 h1 hs h12 hpt (show j < s by omega) hG.2.1 hli
    exact m_ovl_lq hG hop hT h0 h1 hs h12 hpt m (j + 1) _ (by omega) hli2 (m_ovs_lq hG hop hT h0 h1 hs h12 (by omega) hli h hu1) hu
theorem m_fin_oq {n : Int} {M : wd_I} {t : Int32} {s : Nat} {r : wd_I × Int32} (hop : m_op n M) (hT : m_T M n) (h0 : 0 ≤ t.toInt) (h1 : t.toInt < n) (hs : (M 105 t.toInt.toNat).toInt = (s : Int)) (hli : m_li s M r) (h : m_lq n M t s s r) : m_oq n M t.toInt.toNat (m_fin s t r) := by
  obtain ⟨N, a⟩ := r
  obtain ⟨hf, hr, h8, hA⟩ := hli
  change m_fr (M 102 8).toInt M N at hf
  change (M 102 8).toInt ≤ (N 102 8).toInt at h8
  obtain ⟨o1, o2, o3, o4, o5, o6⟩ := id hop
  have hsbn : m_sb n M N := (hf.le o3).1
  unfold m_fin
  dsimp only
  by_cases ha : a.toInt = -1
  · rw [if_pos ha]
    rcases h with ⟨-, b2⟩ | ⟨b1, -⟩
    · exact m_oq_same hT h0 h1 h0 h1 hsbn (Int32.toInt_inj.mp b2)
    · exact absurd ha b1
  · rw [if_neg ha]
    rcases h with ⟨b1, -⟩ | ⟨b1, b2, b3, b4, b5, b6, b7⟩
    · exact absurd b1 ha
    · change N 103 a.toInt.toNat = _ at b2
      dsimp only at b4 b5 b6 b7
      obtain ⟨c1, c2, c3, c4⟩ := hA.resolve_left ha
      change (M 102 8).toInt ≤ a.toInt at c1
      change a.toInt < (N 102 8).toInt at c2
      change (N 105 a.toInt.toNat).toInt = (s : Int) at c3
      obtain ⟨s', a1, a2, a3, a4, a5, a6, a7, a8, a9, a10, a11⟩ := m_T_row hT (t := t.toInt.toNat) (by omega)
      have es : s' = s := by omega
      subst es
      have hht : ∀ i, i < s' → 1 ≤ (M 106 (M 108 (12 * t.toInt.toNat + i)).toInt.toNat).toInt ∧ (M 106 (M 108 (12 * t.toInt.toNat + i)).toInt.toNat).toInt ≤ 200 ∧ 0 ≤ (M 107 (M 108 (12 * t.toInt.toNat + i)).toInt.toNat).toInt ∧ (M 107 (M 108 (12 * t.toInt.toNat + i)).toInt.toNat).toInt < (M 107 t.toInt.toNat).toInt := fun i hi => by
        obtain ⟨d1, d2, d3, d4⟩ := a6 i hi
        obtain ⟨s2, e1, e2, e3, e4, e5, -⟩ := m_T_row hT (t := (M 108 (12 * t.toInt.toNat + i)).toInt.toNat) (by omega)
        exact ⟨d4, e5.2, e4.1, d3⟩
      obtain ⟨g1, g2, g3, g4, g5⟩ := m_ends_gr (D := m_dm n (M 102 8).toInt (N 102 8).toInt) (N := N) (t := a) c3 a2 (by rw [b2]; exact a3) (fun i hi => by
        obtain ⟨d1, d2, d3⟩ := b6 i hi
        exact ⟨d1.2.1, d1.1, by omega⟩) (fun i hi => by have := (b6 i hi).2.1; have := hht i hi; omega) (fun i hi => by have := (b6 i hi).2.2; have := hht i hi; omega) (by rw [b2]; exact a9) (fun h3 i hi => by rw [b2] at h3; rw [b4 i hi]; exact a10 h3 i hi) (fun h3 i hi => by rw [b2] at h3; rw [b4 i (by omega), b4 (i + 1) hi]; exact a11 h3 i hi)
      have hnd : ∀ i, i ≤ s' → m_nds N a.toInt.toNat i ≤ 1 + 202 * (m_nds M t.toInt.toNat i - 1) := by
        intro i
        induction i with
        | zero => intro _; unfold m_nds; omega
        | succ i ih =>
          intro hi
          have := ih (by omega)
          have := (b6 i (by omega)).2.1.2
          unfold m_nds
          omega
      have hnds := hnd s' (Nat.le_refl _)
      have hone : ∀ i, i < s' → (N 106 (N 108 (12 * a.toInt.toNat + i)).toInt.toNat).toInt + 1 ≤ m_nds N a.toInt.toNat s' := fun i hi => m_nds_one (s := s') (fun l hl => by have := (b6 l hl).2.1; omega) hi
      have hge : 1 ≤ m_nds N a.toInt.toNat s' := m_nds_mono (N := N) (q := a.toInt.toNat) (s := s') (fun j hj => by have := (b6 j hj).2.1; omega) 0 s' (by omega) (Nat.le_refl _)
      have e8 : m_ends N a s' 102 8 = N 102 8 := by rw [m_ends_row (by decide) (by decide)]
      intro _
      dsimp only
      rw [e8]
      refine ⟨Or.inr c1, fun q hq1 hq2 => ?_, Or.inr ⟨c1, c2⟩, by omega, g4, ?_⟩
      · by_cases eq : q = a.toInt.toNat
        · subst eq
          exact ⟨g1, Int.le_refl _, Int.le_refl _⟩
        · obtain ⟨d1, i, hi, d2, d3⟩ := b7 q hq1 hq2 (by omega)
          have hra : ∀ y : Nat, y ≠ a.toInt.toNat → m_ra N (m_ends N a s') y := fun y hy => m_ends_ra hy
          have hrq := hra q eq
          refine ⟨m_gr_ra d1 hrq (fun y hy hyD => hra _ (by have := hyD.2; omega)) (fun y _ hy => hy.1), ?_, ?_⟩
          · rw [hrq.2.2.2.1]
            have := hone i hi
            omega
          · rw [hrq.2.2.2.2.1]
            have := g3 i hi
            omega
      · rcases g5 with e | ⟨i, hi, e⟩
        · omega
        · have := (b6 i hi).2.2
          have := hht i hi
          omega
theorem m_ov_oq {n : Int} {p : Nat} : ∀ (f : Nat) (M : wd_I) (t : Int32) (i : Nat), m_op n M → m_T M n → 0 ≤ t.toInt → t.toInt < n → m_oq n M t.toInt.toNat (m_ov p f M t i)
  | 0, M, t, i, hop, hT, h0, h1 => m_oq_same hT h0 h1 h0 h1 m_sb.rf rfl
  | f + 1, M, t, i, hop, hT, h0, h1 => by
    obtain ⟨o1, o2, o3, o4, o5, o6⟩ := id hop
    obtain ⟨s, a1, a2, a3, a4, a5, a6, -⟩ := m_T_row hT (t := t.toInt.toNat) (by omega)
    have hs : (M 105 t.toInt.toNat).toInt.toNat = s := by omega
    unfold m_ov
    rw [hs]
    split
    · split
      · have hb := m_bec_oq (M := m_ov1 M) (how := (M 102 33).toInt) (hw := M 102 34) (f := M 102 35) (t := t) (s := s) (m_T_sb hT (m_ov1_fr (n := n)).1) o2 (by rw [m_ov1_8]; exact o3) (m_ov1_rm o4) h0 h1 (by rw [m_ov1_row (by decide)]; exact a1) (fun h7 => by rw [m_ov1_row (by decide)]; exact (o6 h7).2)
        exact m_oq_M hb m_ov1_8 (by rw [m_ov1_row (by decide)]) (by rw [m_ov1_row (by decide)])
      · split
        · exact m_ov_oq f M t (i + 1) hop hT h0 h1
        · have hG : m_Gq n (fun N q => m_ov p f N q (m_nxt M p i)) := ⟨fun N q hf => by
            show m_ov p f N q (m_nxt M p i) = (N, q)
            cases f with
            | zero => rfl
            | succ f => unfold m_ov; rw [if_neg hf], fun N q hN hq0 hq1 => m_ov_good f N q _ hN hq0 hq1, fun N q hN hTN hq0 hq1 => m_ov_oq f N q _ hN hTN hq0 hq1⟩
          have hpt : ∀ j, j < s → 0 ≤ (M 108 (12 * t.toInt.toNat + j)).toInt ∧ (M 108 (12 * t.toInt.toNat + j)).toInt < n := fun j hj => ⟨(a6 j hj).1, (a6 j hj).2.1⟩
          intro hu
          have hu2 : ((m_ovl (fun N q => m_ov p f N q (m_nxt M p i)) p i s t s 0 (M, ab_ii (-1))).1 102 36).toInt = 0 := by
            unfold m_fin at hu
            split at hu
            · exact hu
            · dsimp only at hu
              rw [m_ends_row (by decide) (by decide)] at hu
              exact hu
          have hl := m_ovl_lq hG (p := p) (i := i) hop hT h0 h1 a1 a2 hpt s 0 (M, ab_ii (-1)) (by omega) ⟨m_fr.rf, o4, Int.le_refl _, Or.inl rfl⟩ (Or.inl ⟨rfl, rfl⟩) hu2
          exact m_fin_oq hop hT h0 h1 a1 hl.2 hl.1 hu
    · exact m_oq_same hT h0 h1 h0 h1 m_sb.rf rfl
/-- behind an OVER that did not fail the table is whole -/
theorem m_co_T {M : wd_I} {t p how v : Int32} (hcop : m_cop (M 102 8).toInt M how v) (hT : m_T M (M 102 8).toInt) (h0 : 0 ≤ t.toInt) (h1 : t.toInt < (M 102 8).toInt) (hu : ((m_co M t p how v).1 102 36).toInt = 0) (hn : ((m_co M t p how v).1 106 (m_co M t p how v).2.toInt.toNat).toInt ≤ 200) (hh : ((m_co M t p how v).1 107 (m_co M t p how v).2.toInt.toNat).toInt ≤ 12) : m_T (m_co M t p how v).1 ((m_co M t p how v).1 102 8).toInt := by
  have hop := m_cop_op (p := p) hcop
  have hs0 : m_sb (M 102 8).toInt M (m_co0 M p how v) := ⟨fun q _ => ⟨by rw [m_co0_row (by decide)], by rw [m_co0_row (by decide)], by rw [m_co0_row (by decide)], by rw [m_co0_row (by decide)], by rw [m_co0_row (by decide)]⟩, fun i _ => ⟨by rw [m_co0_row (by decide)], by rw [m_co0_row (by decide)]⟩⟩
  have hT0 := m_T_sb hT hs0
  have hg := m_co_good (p := p) hcop h0 h1
  have hq := m_ov_oq (p := p.toInt.toNat) 21 (m_co0 M p how v) t 0 hop hT0 h0 h1
  change m_oq (M 102 8).toInt (m_co0 M p how v) t.toInt.toNat (m_co M t p how v) at hq
  unfold m_oq at hq
  rw [m_co0_n (by decide)] at hq
  generalize m_co M t p how v = R at *
  obtain ⟨N, r⟩ := R
  obtain ⟨gf, gr, g8, gx0, gx1⟩ := hg
  obtain ⟨q1, q2, q3, q4, q5⟩ := hq hu
  dsimp only at *
  obtain ⟨m1, m2, m3⟩ := gr
  refine ⟨by omega, fun q hq => ?_⟩
  by_cases hc : (q : Int) < (M 102 8).toInt
  · obtain ⟨b1, b2, b3⟩ := hT0.2 q hc
    have hr := gf.1.ra hc
    refine ⟨m_gr_ra b1 hr (fun x hx hxD => gf.1.ra (by omega)) (fun x _ hx => by rw [m_co0_n (by decide)] at g8; omega), by rw [hr.2.2.2.1]; exact b2, by rw [hr.2.2.2.2.1]; exact b3⟩
  · obtain ⟨b1, b2, b3⟩ := q2 q (by omega) hq
    exact ⟨m_gr_ra b1 m_ra.rf (fun _ _ _ => m_ra.rf) (fun x _ hx => by unfold m_dm at hx; rw [m_co0_n (by decide)] at g8; omega), by omega, by omega⟩
