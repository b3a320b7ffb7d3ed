section
/-! ===== the reference: its calls, with what they leave of paths and tape (own text; by frames.py) ===== -/
def r_fp (M M' : wd_I) : Prop := (∀ a, 113 ≤ a → a ≤ 120 → a ≠ 116 → M' a = M a) ∧ M' 102 20 = M 102 20
theorem r_fp.rf {M : wd_I} : r_fp M M := ⟨fun _ _ _ _ => rfl, rfl⟩
theorem r_fp.tr {M N K : wd_I} (h : r_fp M N) (h' : r_fp N K) : r_fp M K := ⟨fun a a1 a2 a3 => (h'.1 a a1 a2 a3).trans (h.1 a a1 a2 a3), h'.2.trans h.2⟩
theorem r_fp.rs {M N : wd_I} (h : ∀ a, 110 ≤ a → a ≤ 120 → N a = M a) (e : N 102 20 = M 102 20) : r_fp M (m_rs M N) := by
  unfold m_rs
  exact ⟨fun a a1 a2 _ => (wd_up_row _ _ _ (by omega)).trans (h a (by omega) a2), (wd_up_ne _ _ (by omega)).trans e⟩
theorem r_fp.of {M N : wd_I} (h : ∀ a, 110 ≤ a → a ≤ 120 → N a = M a) (e : N 102 20 = M 102 20) : r_fp M N := ⟨fun a a1 a2 _ => h a (by omega) a2, e⟩
theorem r_fp.bec {M N : wd_I} (h : r_fp M N) {s c : Nat} {t : Int32} : r_fp M (m_becomes N s t c) := ⟨fun a a1 a2 a3 => by rw [m_becomes_row (by omega) (by omega) (by omega)]; exact h.1 a a1 a2 a3, by rw [m_becomes_row (by decide) (by decide) (by decide)]; exact h.2⟩
theorem r_fp.up {M N : wd_I} (h : r_fp M N) {j : Nat} {v : Int32} (hj : j ≠ 20) : r_fp M (wd_up N 102 j v) := ⟨fun a a1 a2 a3 => (wd_up_row _ _ _ (by omega)).trans (h.1 a a1 a2 a3), (wd_up_ne _ _ (Or.inr (Ne.symm hj))).trans h.2⟩
theorem r_fp.eqv {M N : wd_I} (h : m_eqv M N) : r_fp M N := ⟨fun a a1 a2 _ => h.1 a (by omega) a2, h.2.2.2.1⟩
theorem r_fp.mk {M N : wd_I} (h : r_fp M N) : r_fp M (m_mk N) := by
  unfold m_mk
  exact h.up (by decide)
def rf_q (M : wd_I) (I : wd_I) (P : wd_P) (g : Nat → ab_C) (k z : Nat) (Q : ab_Q) (T : Int32) : Prop := ∀ (r : Int32) (M' : wd_I), m_ok M' → r_fp M M' → M' 102 22 = T → Q (some (.inl r)) (wd I P M' g, k, z)
def rf_ql (M : wd_I) (I : wd_I) (P : wd_P) (g : Nat → ab_C) (k z : Nat) (Q : ab_Q) (T : Int32) : Prop := ∀ (r : Int64) (M' : wd_I), m_ok M' → r_fp M M' → M' 102 22 = T → Q (some (.inr (.inl r))) (wd I P M' g, k, z)
section
variable {d : Nat} {I : wd_I} {P : wd_P} {M : wd_I} {g : Nat → ab_C} {k z : Nat} {Q : ab_Q}
theorem rf_thing (hd : 46 ≤ d) (hok : m_ok M) {s : Int32} (hQ : rf_q M I P g k z Q (@ite Int32 (m_sh s) (Classical.propDecidable _) (ab_ii 0) (M 102 22))) : ab_CT d 157 [wd_v 102, .inl s] (wd I P M g, k, z) Q := by
  have hb := m_ok_b hok
  obtain ⟨n, hn, hn100⟩ := hok.2.2.2.2.2.2.1
  have htp : 0 ≤ (M 102 22).toInt ∧ (M 102 22).toInt ≤ 100 := by rw [hn, ab_tI (by omega) (by omega)]; omega
  by_cases hs : m_sh s
  · rw [if_pos hs] at hQ
    obtain ⟨c, hc, hc10⟩ := m_ok_c hok hs
    have hp := m_th0_rp (M := M) (by omega) hb.2.1 htp
    have hrr := m_rd_rr 13 (m_th0 M) hp
    have hfr := hrr.1.1
    rw [m_th0_n (by decide)] at hfr
    have hsb : m_sb (M 102 8).toInt M (m_th2 M) := by
      refine ⟨fun t ht => ?_, fun i hi => ?_⟩
      · rw [m_th2_row (by decide), m_th2_row (by decide), m_th2_row (by decide), m_th2_row (by decide), m_th2_row (by decide)]
        have := hfr.1.1 t ht
        rw [m_th0_row (by decide), m_th0_row (by decide), m_th0_row (by decide), m_th0_row (by decide), m_th0_row (by decide)] at this
        exact this
      · rw [m_th2_row (by decide), m_th2_row (by decide)]
        have := hfr.1.2 i hi
        rw [m_th0_row (by decide), m_th0_row (by decide)] at this
        exact this
    have hrow : ∀ a, 110 ≤ a → a ≤ 119 → m_th2 M a = M a := fun a h1 h2 => by
      rw [m_th2_row (by omega), show (m_th1 M).1 a = m_th0 M a from hfr.2.1 a h1, m_th0_row (by omega)]
    have hnn : ∀ j, j ≠ 8 → j ≠ 22 → j ≠ 23 → j ≠ 24 → j ≠ 25 → m_th2 M 102 j = M 102 j := fun j j1 j2 j3 j4 j5 => by
      rw [m_th2_n ⟨j2, j4⟩, show (m_th1 M).1 102 j = m_th0 M 102 j from hfr.2.2 j j1 j3 j4 j5, m_th0_n ⟨j3, j4, j5⟩]
    have hro2 : ∀ a, 110 ≤ a → a ≤ 120 → m_th2 M a = M a := fun a h1 h2 => by
      rw [m_th2_row (by omega), show (m_th1 M).1 a = m_th0 M a from hfr.2.1 a h1, m_th0_row (by omega)]
    have e9 := hnn 9 (by decide) (by decide) (by decide) (by decide) (by decide)
    have e20 := hnn 20 (by decide) (by decide) (by decide) (by decide) (by decide)
    have e22 : m_th2 M 102 22 = ab_ii 0 := by unfold m_th2; rw [wd_up_self]
    have hrs : m_ok (m_rs M (m_th2 M)) := m_ok_rs hok hsb (m_9_e e9) (by rw [e9]; exact hb.2.2.2) hrow e20 ⟨0, e22, by omega⟩
    have ers : m_rs M (m_th2 M) 102 22 = ab_ii 0 := by unfold m_rs; rw [wd_up_ne _ _ (by omega)]; exact e22
    refine x_thing hd (by omega) hb.2.1 htp hc hc10 (fun h => absurd hs h) (fun _ _ => hQ _ _ hrs (.rs hro2 e20) ers) (fun _ _ _ => hQ _ _ hrs (.rs hro2 e20) ers) (fun _ hu h3 => ?_)
    obtain ⟨t1, t2, t3, t4, t5, t6, t7⟩ := m_th_T hok.1 (by omega) hb.2.1 htp hu
    have e3 : (m_th3 M).toInt = (M 102 9).toInt + (m_th2 M 102 25).toInt := by unfold m_th3; rw [e9, ab_tI (by omega) (by omega)]
    have hrm := hok.2.2.1
    unfold m_rm at hrm
    have u8 : ∀ j, j ≠ 9 → wd_up (m_th2 M) 102 9 (m_th3 M) 102 j = m_th2 M 102 j := fun j hj => wd_up_ne _ _ (Or.inr hj)
    have u9 : wd_up (m_th2 M) 102 9 (m_th3 M) 102 9 = m_th3 M := wd_up_self _ _ _ _
    have ur : ∀ a, a ≠ 102 → wd_up (m_th2 M) 102 9 (m_th3 M) a = m_th2 M a := fun a ha => wd_up_row _ _ _ ha
    have hN : m_ok (wd_up (m_th2 M) 102 9 (m_th3 M)) := by
      refine m_ok_of hok ?_ (by rw [u8 8 (by decide)]; omega) (by unfold m_9; rw [u9]; omega) ?_ (fun a h1 h2 => by rw [ur a (by omega)]; exact hrow a h1 h2) (by rw [u8 20 (by decide)]; exact e20) ⟨0, by rw [u8 22 (by decide)]; exact e22, by omega⟩
      · rw [u8 8 (by decide)]
        exact m_T_c (fun a h1 h2 => ur a (by omega)) t1
      · unfold m_rm
        rw [u8 8 (by decide), u9]
        omega
    have hsr := hs
    unfold m_sh at hsr
    refine hQ _ _ (m_ok_bec hN (by omega) (by rw [ur 112 (by decide), hrow 112 (by decide) (by decide)]; exact hc) hc10 (by rw [u8 8 (by decide)]; omega)) ((r_fp.of hro2 e20).up (by decide)).bec ?_
    rw [m_becomes_row (by decide) (by decide) (by decide), u8 22 (by decide)]
    exact e22
  · rw [if_neg hs] at hQ
    exact x_thing_b hd hs (hQ _ _ hok .rf rfl)
theorem rf_over (hd : 41 ≤ d) (hok : m_ok M) {s a p how n : Int32} (hQ : rf_q M I P g k z Q (M 102 22)) : ab_CT d 174 [wd_v 102, .inl s, .inl a, .inl p, .inl how, .inl n] (wd I P M g, k, z) Q := by
  by_cases hall : m_sh s ∧ m_sh a ∧ m_pa p ∧ m_how how.toInt n.toInt
  · have hb := m_ok_b hok
    obtain ⟨hs, ha, hp, hh⟩ := id hall
    obtain ⟨c, hc, hc10⟩ := m_ok_c hok hs
    have hsa := m_ok_sh hok ha
    have hcop : m_cop (M 102 8).toInt M how n := ⟨hok.1.tb.1, by omega, Int.le_refl _, hok.2.2.1, hh.1, fun h7 => ⟨hh.2.2 h7, m_ok_sh hok (hh.2.2 h7)⟩⟩
    have hg := m_co_good (p := p) hcop hsa.1 hsa.2
    have h9 := m_ov_9 (p := p.toInt.toNat) 21 (m_co0 M p how n) (M 110 a.toInt.toNat) 0 (m_cop_op hcop) (by rw [m_co0_n (by decide)]; exact hb.2.2.1) hsa.1 hsa.2
    change m_9 (m_co0 M p how n) (m_co M (M 110 a.toInt.toNat) p how n).1 at h9
    have hT := m_co_T (p := p) hcop hok.1 hsa.1 hsa.2
    have hx := x_over (d := d) (I := I) (P := P) (g := g) (k := k) (z := z) (Q := Q) hd hok.lok hok.2.2.1 hc hc10 (fun h => absurd hall h)
    have h22 := hok.2.2.2.2.2.2.1
    generalize m_co M (M 110 a.toInt.toNat) p how n = R at *
    obtain ⟨N, r⟩ := R
    obtain ⟨g1, g2, g3, g4, g5⟩ := hg
    change m_fr (M 102 8).toInt (m_co0 M p how n) N at g1
    change m_rm N at g2
    change (m_co0 M p how n 102 8).toInt ≤ (N 102 8).toInt at g3
    change 0 ≤ r.toInt at g4
    change r.toInt < (N 102 8).toInt at g5
    unfold m_9 at h9
    rw [m_co0_n (by decide)] at g3 h9
    dsimp only at h9 hT hx
    have hsb : m_sb (M 102 8).toInt M N := by
      refine ⟨fun t ht => ?_, fun i hi => ?_⟩
      · have := g1.1.1 t ht
        rw [m_co0_row (by decide), m_co0_row (by decide), m_co0_row (by decide), m_co0_row (by decide), m_co0_row (by decide)] at this
        exact this
      · have := g1.1.2 i hi
        rw [m_co0_row (by decide), m_co0_row (by decide)] at this
        exact this
    have hrow : ∀ x, 110 ≤ x → x ≤ 119 → N x = M x := fun x h1 h2 => by rw [g1.2.1 x h1, m_co0_row (by omega)]
    have hro2 : ∀ x, 110 ≤ x → x ≤ 120 → N x = M x := fun x h1 h2 => by rw [g1.2.1 x h1, m_co0_row (by omega)]
    have hnn : ∀ j, j ≠ 8 → j ≠ 9 → j < 32 → N 102 j = M 102 j := fun j j1 j2 j3 => by rw [g1.2.2 j j1 j2 (by omega) (by omega), m_co0_n j3]
    have e22 : N 102 22 = M 102 22 := hnn 22 (by decide) (by decide) (by decide)
    have e20 : N 102 20 = M 102 20 := hnn 20 (by decide) (by decide) (by decide)
    have hrs : m_ok (m_rs M N) := m_ok_rs hok hsb h9 g2.2.2 hrow e20 (by rw [e22]; exact h22)
    have ers : m_rs M N 102 22 = M 102 22 := by unfold m_rs; rw [wd_up_ne _ _ (by omega)]; exact e22
    refine hx (fun _ _ => hQ _ _ hrs (.rs hro2 e20) ers) (fun _ _ _ => hQ _ _ hrs (.rs hro2 e20) ers) (fun _ hu hn2 hh2 => hQ _ _ ?_ (r_fp.of hro2 e20).bec ?_)
    · have hN : m_ok N := m_ok_of hok (hT hu hn2 hh2) g3 h9 g2 hrow e20 (by rw [e22]; exact h22)
      unfold m_sh at hs
      exact m_ok_bec hN (by omega) (by rw [hrow 112 (by decide) (by decide)]; exact hc) hc10 ⟨g4, g5⟩
    · rw [m_becomes_row (by decide) (by decide) (by decide)]; exact e22
  · exact x_over_b hd hall (hQ _ _ hok .rf rfl)
theorem rf_put (hd : 41 ≤ d) (hok : m_ok M) {s what a b n : Int32} (hQ : rf_q M I P g k z Q (M 102 22)) : ab_CT d 175 [wd_v 102, .inl s, .inl what, .inl a, .inl b, .inl n] (wd I P M g, k, z) Q := by
  by_cases hpo : m_pok s what a b n
  · have hb := m_ok_b hok
    obtain ⟨hs, hw, ha, hbb, hn⟩ := id hpo
    obtain ⟨c, hc, hc10⟩ := m_ok_c hok hs
    have hsa := m_ok_sh hok ha
    have hsb := m_ok_sh hok hbb
    obtain ⟨sz, a1, a2, a3, -⟩ := m_T_row hok.1 (t := (M 110 a.toInt.toNat).toInt.toNat) (by omega)
    have h22 := hok.2.2.2.2.2.2.1
    by_cases hS : what.toInt = 2 ∧ ¬ (M 103 (M 110 a.toInt.toNat).toInt.toNat).toInt = 3
    · exact x_put_S (by omega) hpo hS.1 ⟨hsa.1, by omega⟩ hS.2 (hQ _ _ hok .rf rfl)
    · by_cases hF : what.toInt = 2 ∧ sz = 12 ∧ (m_hk M (M 110 a.toInt.toNat).toInt.toNat (ab_ii (n.toInt + 1)) 12).toInt = 0
      · obtain ⟨f1, rfl, f3⟩ := hF
        exact x_put_F (by omega) hpo f1 ⟨hsa.1, by omega⟩ (by omega) a1 f3 (hQ _ _ hok .rf rfl)
      · have hk : what.toInt = 2 → (M 103 (M 110 a.toInt.toNat).toInt.toNat).toInt = 3 := fun h => by omega
        have h12 : what.toInt = 2 → (sz ≤ 11 ∨ ¬ (m_hk M (M 110 a.toInt.toNat).toInt.toNat (ab_ii (n.toInt + 1)) sz).toInt = 0) := fun h => by
          by_cases e : sz ≤ 11
          · exact Or.inl e
          · have e12 : sz = 12 := by omega
            subst e12
            exact Or.inr (fun q => hF ⟨h, rfl, q⟩)
        obtain ⟨w1, w2, w3⟩ := m_pW_T (what := what.toInt) (n := n) hok.1 hb.2.1 hsa hsb a1 hk h12
        have hx := x_put_ok (d := d) (I := I) (P := P) (g := g) (k := k) (z := z) (Q := Q) (by omega) hok.1 hb.2.1 hc hc10 hpo hsa hsb a1 hk h12
        generalize m_pW M what.toInt (M 110 a.toInt.toNat) (M 110 b.toInt.toNat) n sz = W at *
        obtain ⟨v8, vn⟩ := w2
        have hrow : ∀ x, 110 ≤ x → x ≤ 119 → W x = M x := fun x h1 h2 => w1.2.1 x h1
        have hro2 : ∀ x, 110 ≤ x → x ≤ 120 → W x = M x := fun x h1 h2 => w1.2.1 x h1
        have e22 : W 102 22 = M 102 22 := vn 22 (by decide)
        have e20 : W 102 20 = M 102 20 := vn 20 (by decide)
        have e9 : W 102 9 = M 102 9 := vn 9 (by decide)
        have hrs : m_ok (m_rs M W) := m_ok_rs hok w1.1 (m_9_e e9) (by rw [e9]; exact hb.2.2.2) hrow e20 (by rw [e22]; exact h22)
        have ers : m_rs M W 102 22 = M 102 22 := by unfold m_rs; rw [wd_up_ne _ _ (by omega)]; exact e22
        refine hx (fun _ => hQ _ _ hrs (.rs hro2 e20) ers) (fun _ _ _ => hQ _ _ hrs (.rs hro2 e20) ers) (fun hn2 hh2 hm => hQ _ _ ?_ (r_fp.of hro2 e20).mk.bec ?_)
        · have k8 : m_mk W 102 8 = W 102 8 := m_mk_8
          have k9 : (m_mk W 102 9).toInt = (M 102 9).toInt + 1 := by unfold m_mk; rw [wd_up_self, e9, ab_tI (by omega) (by omega)]
          have w8 : (W 102 8).toInt = (M 102 8).toInt + 1 := by rw [v8, ab_tI (by omega) (by omega)]
          have kn : ∀ j, j ≠ 9 → m_mk W 102 j = W 102 j := fun j hj => wd_up_ne _ _ (Or.inr hj)
          have hrm := hok.2.2.1
          unfold m_rm at hrm
          have hN : m_ok (m_mk W) := m_ok_of hok (by rw [k8]; exact m_T_c (fun x h1 h2 => m_mk_row (by omega)) (w3 hn2 hh2)) (by rw [k8]; omega) (by unfold m_9; omega) (by unfold m_rm; rw [k8]; omega) (fun x h1 h2 => by rw [m_mk_row (by omega)]; exact hrow x h1 h2) (by rw [kn 20 (by decide)]; exact e20) (by rw [kn 22 (by decide), e22]; exact h22)
          unfold m_sh at hs
          exact m_ok_bec hN (by omega) (by rw [m_mk_row (by decide), hrow 112 (by decide) (by decide)]; exact hc) hc10 ⟨by omega, by rw [k8]; omega⟩
        · rw [m_becomes_row (by decide) (by decide) (by decide)]
          unfold m_mk
          rw [wd_up_ne _ _ (by omega)]; exact e22
  · exact x_put_b (by omega) hpo (hQ _ _ hok .rf rfl)
theorem m_co_ok2 {K : wd_I} {t p how v : Int32} (hk : m_ok K) (hcop : m_cop (K 102 8).toInt K how v) (h0 : 0 ≤ t.toInt) (h1 : t.toInt < (K 102 8).toInt) {N : wd_I} {r : Int32} (hR : (N, r) = m_co K t p how v) : m_sb (K 102 8).toInt K N ∧ m_9 K N ∧ m_rm N ∧ (∀ x, 110 ≤ x → x ≤ 120 → N x = K x) ∧ N 102 20 = K 102 20 ∧ N 102 22 = K 102 22 ∧ (0 ≤ r.toInt ∧ r.toInt < (N 102 8).toInt) ∧ (K 102 8).toInt ≤ (N 102 8).toInt ∧ ((N 102 36).toInt = 0 → (N 106 r.toInt.toNat).toInt ≤ 200 → (N 107 r.toInt.toNat).toInt ≤ 12 → m_ok N) := by
  have hb := m_ok_b hk
  have h22 := hk.2.2.2.2.2.2.1
  have hg := m_co_good (p := p) hcop h0 h1
  have h9 := m_ov_9 (p := p.toInt.toNat) 21 (m_co0 K p how v) t 0 (m_cop_op hcop) (by rw [m_co0_n (by decide)]; exact hb.2.2.1) h0 h1
  change m_9 (m_co0 K p how v) (m_co K t p how v).1 at h9
  have hT := m_co_T (p := p) hcop hk.1 h0 h1
  rw [← hR] at hg h9 hT
  obtain ⟨g1, g2, g3, g4, g5⟩ := hg
  change m_fr (K 102 8).toInt (m_co0 K p how v) N at g1
  change m_rm N at g2
  change (m_co0 K p how v 102 8).toInt ≤ (N 102 8).toInt at g3
  change 0 ≤ r.toInt at g4
  change r.toInt < (N 102 8).toInt at g5
  unfold m_9 at h9 ⊢
  rw [m_co0_n (by decide)] at g3 h9
  dsimp only at h9 hT
  have hsb : m_sb (K 102 8).toInt K N := by
    refine ⟨fun t ht => ?_, fun i hi => ?_⟩
    · have := g1.1.1 t ht
      rw [m_co0_row (by decide), m_co0_row (by decide), m_co0_row (by decide), m_co0_row (by decide), m_co0_row (by decide)] at this
      exact this
    · have := g1.1.2 i hi
      rw [m_co0_row (by decide), m_co0_row (by decide)] at this
      exact this
  have hrow : ∀ x, 110 ≤ x → x ≤ 120 → N x = K x := fun x h1 h2 => by rw [g1.2.1 x h1, m_co0_row (by omega)]
  have hnn : ∀ j, j ≠ 8 → j ≠ 9 → j < 32 → N 102 j = K 102 j := fun j j1 j2 j3 => by rw [g1.2.2 j j1 j2 (by omega) (by omega), m_co0_n j3]
  have e22 : N 102 22 = K 102 22 := hnn 22 (by decide) (by decide) (by decide)
  have e20 : N 102 20 = K 102 20 := hnn 20 (by decide) (by decide) (by decide)
  exact ⟨hsb, h9, g2, hrow, e20, e22, ⟨g4, g5⟩, g3, fun hu hn2 hh2 => m_ok_of hk (hT hu hn2 hh2) g3 h9 g2 (fun x q1 q2 => hrow x q1 (by omega)) e20 (by rw [e22]; exact h22)⟩
theorem rf_fit (hd : 42 ≤ d) (hok : m_ok M) {s p w : Int32} (hQ : rf_q M I P g k z Q (M 102 22)) : ab_CT d 193 [wd_v 102, .inl s, .inl p, .inl w] (wd I P M g, k, z) Q := by
  have h22 := hok.2.2.2.2.2.2.1
  have hone : m_fok s p w → ∀ (M1 : wd_I), m_eqv M M1 → ∀ (N : wd_I) (r : Int32), (N, r) = m_co M1 (M 110 s.toInt.toNat) p (ab_ii 7) w → m_sb (M 102 8).toInt M N ∧ m_9 M N ∧ m_rm N ∧ (∀ x, 110 ≤ x → x ≤ 120 → N x = M x) ∧ N 102 20 = M 102 20 ∧ N 102 22 = M 102 22 ∧ (0 ≤ r.toInt ∧ r.toInt < (N 102 8).toInt) ∧ (M 102 8).toInt ≤ (N 102 8).toInt ∧ ((N 102 36).toInt = 0 → (N 106 r.toInt.toNat).toInt ≤ 200 → (N 107 r.toInt.toNat).toInt ≤ 12 → m_ok N) := by
    intro hfo M1 hE N r hR
    obtain ⟨hs, hp, hw⟩ := hfo
    have hk := m_ok_eqv hok hE
    have hs2 := m_ok_sh hok hs
    have hcop := m_eqv_cop hE hok.1 hok.2.2.1 hw (m_ok_sh hok hw)
    obtain ⟨c1, c2, c3, c4, c5, c6, c7, c8, c9⟩ := m_co_ok2 hk hcop hs2.1 (by rw [hE.2.1]; exact hs2.2) hR
    rw [hE.2.1] at c1 c8
    unfold m_9 at c2 ⊢
    rw [hE.2.2.1] at c2
    exact ⟨(m_eqv_sb hE).tr c1 (Int.le_refl _), c2, c3, fun x h1 h2 => (c4 x h1 h2).trans (hE.1 x (by omega) (by omega)), c5.trans hE.2.2.2.1, c6.trans hE.2.2.2.2, c7, c8, c9⟩
  have hrsN : ∀ N : wd_I, m_sb (M 102 8).toInt M N → m_9 M N → m_rm N → (∀ x, 110 ≤ x → x ≤ 120 → N x = M x) → N 102 20 = M 102 20 → N 102 22 = M 102 22 → m_ok (m_rs M N) ∧ r_fp M (m_rs M N) ∧ m_rs M N 102 22 = M 102 22 := fun N h1 h2 h3 h4 h5 h6 => ⟨m_ok_rs hok h1 h2 h3.2.2 (fun x q1 q2 => h4 x q1 (by omega)) h5 (by rw [h6]; exact h22), .rs h4 h5, by unfold m_rs; rw [wd_up_ne _ _ (by omega)]; exact h6⟩
  have h1st : m_fok s p w → ∀ (M1 : wd_I), m_eqv M M1 → m_ok (m_rs M (m_co M1 (M 110 s.toInt.toNat) p (ab_ii 7) w).1) ∧ r_fp M (m_rs M (m_co M1 (M 110 s.toInt.toNat) p (ab_ii 7) w).1) ∧ m_rs M (m_co M1 (M 110 s.toInt.toNat) p (ab_ii 7) w).1 102 22 = M 102 22 := fun hfo M1 hE => by
    obtain ⟨c1, c2, c3, c4, c5, c6, -⟩ := hone hfo M1 hE _ _ (Prod.eta _ : ((m_co M1 (M 110 s.toInt.toNat) p (ab_ii 7) w).1, (m_co M1 (M 110 s.toInt.toNat) p (ab_ii 7) w).2) = _)
    exact hrsN _ c1 c2 c3 c4 c5 c6
  refine x_fit hd hok.1 hok.lok hok.2.2.1 (fun _ => hQ _ _ hok .rf rfl) (fun hfo M1 hE _ => hQ _ _ (h1st hfo M1 hE).1 (h1st hfo M1 hE).2.1 (h1st hfo M1 hE).2.2) (fun hfo M1 hE _ _ => hQ _ _ (h1st hfo M1 hE).1 (h1st hfo M1 hE).2.1 (h1st hfo M1 hE).2.2) (fun hfo M1 hE N r hR hu hn2 hh2 M2 hE2 => ?_)
  obtain ⟨c1, c2, c3, c4, c5, c6, c7, c8, c9⟩ := hone hfo M1 hE N r hR
  have hkN := c9 hu hn2 hh2
  have hk2 := m_ok_eqv hkN hE2
  have hcop2 : m_cop (M2 102 8).toInt M2 (ab_ii 7) w := m_eqv_cop hE2 hkN.1 hkN.2.2.1 hfo.2.2 (m_ok_sh hkN hfo.2.2)
  have h2nd : m_ok (m_rs M (m_co M2 r p (ab_ii 7) w).1) ∧ r_fp M (m_rs M (m_co M2 r p (ab_ii 7) w).1) ∧ m_rs M (m_co M2 r p (ab_ii 7) w).1 102 22 = M 102 22 := by
    obtain ⟨e1, e2, e3, e4, e5, e6, -⟩ := m_co_ok2 (p := p) hk2 hcop2 c7.1 (by rw [hE2.2.1]; exact c7.2) (Prod.eta _ : ((m_co M2 r p (ab_ii 7) w).1, (m_co M2 r p (ab_ii 7) w).2) = _)
    rw [hE2.2.1] at e1
    unfold m_9 at e2 c2
    rw [hE2.2.2.1] at e2
    exact hrsN _ ((c1.tr (m_eqv_sb hE2) (Int.le_refl _)).tr e1 c8) (by unfold m_9; omega) e3 (fun x h1 h2 => ((e4 x h1 h2).trans (hE2.1 x (by omega) (by omega))).trans (c4 x h1 h2)) ((e5.trans hE2.2.2.2.1).trans c5) ((e6.trans hE2.2.2.2.2).trans c6)
  exact ⟨fun _ => hQ _ _ h2nd.1 h2nd.2.1 h2nd.2.2, fun _ _ => hQ _ _ h2nd.1 h2nd.2.1 h2nd.2.2, fun _ _ _ => hQ _ _ h2nd.1 h2nd.2.1 h2nd.2.2⟩
theorem rf_take (hd : 25 ≤ d) (hok : m_ok M) {s f p n : Int32} (hQ : rf_q M I P g k z Q (M 102 22)) : ab_CT d 176 [wd_v 102, .inl s, .inl f, .inl p, .inl n] (wd I P M g, k, z) Q := by
  obtain ⟨c, hc, hc10⟩ : ∃ c : Nat, (0 ≤ s.toInt → s.toInt ≤ 11 → M 112 s.toInt.toNat = ab_ii (c : Int)) ∧ c ≤ 10 := by
    by_cases hs : m_sh s
    · obtain ⟨c, c1, c2⟩ := m_ok_c hok hs
      exact ⟨c, fun _ _ => c1, c2⟩
    · exact ⟨0, fun h1 h2 => absurd ⟨h1, h2⟩ hs, by omega⟩
  refine x_take hd hok.lok hc hc10 (fun _ => hQ _ _ hok .rf rfl) (fun _ _ M' hE => hQ _ _ (m_ok_eqv hok hE) (.eqv hE) hE.2.2.2.2) (fun hg hne M' hE => hQ _ _ ?_ (r_fp.eqv hE).bec ?_)
  · have hin := m_foc_in hok.lok (s := f) (p := p) (n := n)
    exact m_ok_bec (m_ok_eqv hok hE) (by omega) (by rw [hE.1 112 (by decide) (by decide)]; exact hc hg.1 hg.2.1) hc10 (by rw [hE.2.1]; exact hin.resolve_left hne)
  · rw [m_becomes_row (by decide) (by decide) (by decide)]; exact hE.2.2.2.2
theorem rf_undo (hd : 3 ≤ d) (hok : m_ok M) {s : Int32} (hQ : rf_q M I P g k z Q (M 102 22)) : ab_CT d 177 [wd_v 102, .inl s] (wd I P M g, k, z) Q := by
  by_cases hs : m_sh s
  · obtain ⟨c, c1, c2⟩ := m_ok_c hok hs
    have hs' := hs
    unfold m_sh at hs'
    cases c with
    | zero => exact x_undo_0 hd hs'.1 hs'.2 c1 (hQ _ _ hok .rf rfl)
    | succ c =>
      have c1' : M 112 s.toInt.toNat = ab_ii ((c : Int) + 1) := c1
      refine x_undo hd hs'.1 hs'.2 c1' (by omega) (hQ _ _ (m_ok_undo hok (by omega) c1' (by omega)) ⟨fun a a1 a2 _ => (by unfold m_undo; rw [wd_up_row _ _ _ (by omega), wd_up_row _ _ _ (by omega)]), (by unfold m_undo; rw [wd_up_row _ _ _ (by decide), wd_up_row _ _ _ (by decide)])⟩ ?_)
      unfold m_undo
      rw [wd_up_row _ _ _ (by decide), wd_up_row _ _ _ (by decide)]
  · exact x_undo_b hd (by unfold m_sh at hs; omega) (hQ _ _ hok .rf rfl)
theorem rf_look (hd : 25 ≤ d) (hok : m_ok M) {s p n w : Int32} (hQ : rf_ql M I P g k z Q (M 102 22)) : ab_CT d 179 [wd_v 102, .inl s, .inl p, .inl n, .inl w] (wd I P M g, k, z) Q := x_look hd hok.lok (fun M' hE => hQ _ _ (m_ok_eqv hok hE) (.eqv hE) hE.2.2.2.2)
theorem rf_key (hd : 25 ≤ d) (hok : m_ok M) {s p n i : Int32} (hQ : rf_q M I P g k z Q (M 102 22)) : ab_CT d 180 [wd_v 102, .inl s, .inl p, .inl n, .inl i] (wd I P M g, k, z) Q := x_key hd hok.lok (fun M' hE => hQ _ _ (m_ok_eqv hok hE) (.eqv hE) hE.2.2.2.2)
theorem rf_fold (hd : 25 ≤ d) (hok : m_ok M) {s p c : Int32} (hQ : rf_ql M I P g k z Q (M 102 22)) : ab_CT d 183 [wd_v 102, .inl s, .inl p, .inl c] (wd I P M g, k, z) Q := x_fold hd hok.lok (fun M' hE => hQ _ _ (m_ok_eqv hok hE) (.eqv hE) hE.2.2.2.2)
theorem rf_best (hd : 25 ≤ d) (hok : m_ok M) {s p o n : Int32} (hQ : rf_q M I P g k z Q (M 102 22)) : ab_CT d 185 [wd_v 102, .inl s, .inl p, .inl o, .inl n] (wd I P M g, k, z) Q := x_best hd hok.lok (fun M' hE => hQ _ _ (m_ok_eqv hok hE) (.eqv hE) hE.2.2.2.2)
theorem rf_order (hd : 14 ≤ d) (hok : m_ok M) {a b : Int32} (hQ : rf_q M I P g k z Q (M 102 22)) : ab_CT d 186 [wd_v 102, .inl a, .inl b] (wd I P M g, k, z) Q := x_order hd hok.1.tb.1 hok.2.2.2.1 (fun _ => hQ _ _ hok .rf rfl) (fun _ _ _ _ => hQ _ _ hok .rf rfl)
theorem rf_shared (hd : 17 ≤ d) (hok : m_ok M) {a b : Int32} (hQ : rf_q M I P g k z Q (M 102 22)) : ab_CT d 189 [wd_v 102, .inl a, .inl b] (wd I P M g, k, z) Q := x_shared hd hok.1.tb.1 hok.2.2.2.1 (fun _ => hQ _ _ hok .rf rfl) (fun _ M' hE => hQ _ _ (m_ok_eqv hok hE) (.eqv hE) hE.2.2.2.2)
theorem rf_differ (hd : 28 ≤ d) (hok : m_ok M) {a b w : Int32} (hQ : rf_q M I P g k z Q (M 102 22)) : ab_CT d 192 [wd_v 102, .inl a, .inl b, .inl w] (wd I P M g, k, z) Q := x_differ hd hok.lok (fun _ => hQ _ _ hok .rf rfl) (fun _ M' hE => hQ _ _ (m_ok_eqv hok hE) (.eqv hE) hE.2.2.2.2)
theorem rf_count (hd : 2 ≤ d) (hok : m_ok M) {w : Int32} (hQ : rf_q M I P g k z Q (M 102 22)) : ab_CT d 197 [wd_v 102, .inl w] (wd I P M g, k, z) Q := x_count hd (fun _ => hQ _ _ hok .rf rfl) (fun _ => hQ _ _ hok .rf rfl) (fun _ _ => hQ _ _ hok .rf rfl) (fun _ _ => hQ _ _ hok .rf rfl) (fun _ => hQ _ _ hok .rf rfl)
end
end
section
/-! ===== the class: its calls, with what they leave of paths and tape (own text; by frames.py) ===== -/
def k_fp (I : wd_I) (P : wd_P) (g : Nat → ab_C) (k : Nat) (I' : wd_I) (P' : wd_P) (g' : Nat → ab_C) : Prop := (∀ j, I' 2 j = I 2 j) ∧ c_ofr k g g' ∧ (∀ i, P' 8 i = P 8 i) ∧ (∀ i, P' 17 i = P 17 i) ∧ I' 0 11 = I 0 11
theorem k_fp.rf {I : wd_I} {P : wd_P} {g : Nat → ab_C} {k : Nat} : k_fp I P g k I P g := ⟨fun _ => rfl, c_ofr.rf, fun _ => rfl, fun _ => rfl, rfl⟩
theorem k_fp.of {I I' : wd_I} {P P' : wd_P} {g g' : Nat → ab_C} {k : Nat} (hI : ∀ a j, (a = 2 ∨ (a = 0 ∧ j = 11)) → I' a j = I a j) (hx : c_ofr k g g') (hP : ∀ a j, (a = 8 ∨ a = 17) → P' a j = P a j) : k_fp I P g k I' P' g' := ⟨fun j => hI _ _ (by omega), hx, fun i => hP _ _ (by omega), fun i => hP _ _ (by omega), hI _ _ (by omega)⟩
theorem k_fp.to {I I' I'' : wd_I} {P P' P'' : wd_P} {g g' : Nat → ab_C} {k : Nat} (h : k_fp I P g k I' P' g') (hI : ∀ a j, (a = 2 ∨ (a = 0 ∧ j = 11)) → I'' a j = I' a j) (hP : ∀ a j, (a = 8 ∨ a = 17) → P'' a j = P' a j) : k_fp I P g k I'' P'' g' := ⟨fun j => (hI _ _ (by omega)).trans (h.1 j), h.2.1, fun i => (hP _ _ (by omega)).trans (h.2.2.1 i), fun i => (hP _ _ (by omega)).trans (h.2.2.2.1 i), (hI _ _ (by omega)).trans h.2.2.2.2⟩
def kf_q (I0 : wd_I) (P0 : wd_P) (g0 : Nat → ab_C) (k0 : Nat) (M : wd_I) (Q : ab_Q) (n : Nat) (t : Int32) : Prop := ∀ (r : Int32) (T' : Nat → Prop) (I' : wd_I) (P' : wd_P) (g' : Nat → ab_C) (k' z' : Nat), k_ok T' I' P' g' k' → k_fp I0 P0 g0 k0 I' P' g' → I' 1 1 = t → k_rm n I' k' z' → Q (some (.inl r)) (wd I' P' M g', k', z')
def kf_ql (I0 : wd_I) (P0 : wd_P) (g0 : Nat → ab_C) (k0 : Nat) (M : wd_I) (Q : ab_Q) (n : Nat) (t : Int32) : Prop := ∀ (r : Int64) (T' : Nat → Prop) (I' : wd_I) (P' : wd_P) (g' : Nat → ab_C) (k' z' : Nat), k_ok T' I' P' g' k' → k_fp I0 P0 g0 k0 I' P' g' → I' 1 1 = t → k_rm n I' k' z' → Q (some (.inr (.inl r))) (wd I' P' M g', k', z')
theorem s_becI_fp {I : wd_I} {s c a j : Nat} (h : a = 2 ∨ (a = 0 ∧ j = 11)) : s_becI I s c a j = I a j := s_becI_ne (by omega)
theorem s_becP_fp {P : wd_P} {s c x a j : Nat} (h : a = 8 ∨ a = 17) : s_becP P s c x a j = P a j := s_becP_ne (by omega) (by omega)
theorem f_fnd_fp {I : wd_I} {P : wd_P} {g : Nat → ab_C} {k p a : Nat} : k_fp I P g k (f_fnd I P g p a).1 (f_fnd I P g p a).2 g := .of (fun _ _ q => f_fnd_ne.1 _ _ (by omega)) c_ofr.rf (fun _ _ q => f_fnd_ne.2 _ _ (by omega))
section
variable {d : Nat} {T : Nat → Prop} {I : wd_I} {P : wd_P} {M : wd_I} {g : Nat → ab_C} {k z n : Nat} {Q : ab_Q}
theorem kf_undo (hd : 3 ≤ d) (h : k_ok T I P g k) (hr : k_rm (n + 1) I k z) {s : Int32} (hQ : kf_q I P g k M Q n (I 1 1)) : ab_CT d 111 [wd_v 0, .inl s] (wd I P M g, k, z) Q := by
  by_cases hs : c_sh s
  · obtain ⟨c, hc⟩ := h.sok hs
    have hs' : s.toInt.toNat < 12 := by unfold c_sh at hs; omega
    refine y_undo hd (c := c) (fun q => absurd hs q) (fun _ => hc.1) hc.2.1 (fun _ _ => hQ _ _ _ _ _ _ _ h .rf rfl (hr.le (Int.le_refl _) (by omega) (by omega))) (fun _ c' hcc => ?_)
    obtain ⟨b, hb, hTb⟩ := hc.2.2.2 c' (by omega)
    refine ⟨b, hb, hQ _ T _ _ _ _ _ ?_ (.of (fun _ _ q => wd_up_ne _ _ (by omega)) c_ofr.rf (fun _ _ q => wd_up_ne _ _ (by omega))) (wd_up_ne _ _ (by omega)) (hr.le (by rw [wd_up_ne _ _ (by omega)]; exact Int.le_refl _) (by omega) (by omega))⟩
    obtain ⟨h1, h2, h3, h4, h5, h6, h7⟩ := h
    refine ⟨h1, h2, by rw [wd_up_ne _ _ (by omega)]; exact h3, fun j hj => ?_, fun p hp => ?_, by rw [wd_up_ne _ _ (by omega)]; exact h6, fun q => ?_⟩
    · by_cases e : j = s.toInt.toNat
      · subst e
        refine ⟨c', wd_up_self _ _ _ _, by have := hc.2.1; omega, ⟨b, wd_up_self _ _ _ _, hTb⟩, fun i hi => ?_⟩
        rw [wd_up_ne _ _ (by omega)]
        exact hc.2.2.2 i (by omega)
      · obtain ⟨c2, hc2⟩ := h4 j hj
        exact ⟨c2, s_ok_eq hc2 (wd_up_ne _ _ (by omega)) (wd_up_ne _ _ (by omega)) (fun i => wd_up_ne _ _ (by omega))⟩
    · rw [wd_up_ne _ _ (by omega)]; exact h5 p hp
    · rw [wd_up_ne _ _ (by omega)] at q
      obtain ⟨q1, q2⟩ := h7 q
      exact ⟨fun p hp => by rw [wd_up_ne _ _ (by omega)]; exact q1 p hp, fun p hp => by rw [wd_up_ne _ _ (by omega)]; exact q2 p hp⟩
  · exact y_undo hd (c := 0) (fun _ => hQ _ _ _ _ _ _ _ h .rf rfl (hr.le (Int.le_refl _) (by omega) (by omega))) (fun q => absurd q hs) (by omega) (fun q => absurd q hs) (fun q => absurd q hs)
theorem kf_order (hd : 46 ≤ d) (h : k_ok T I P g k) (hr : k_rm (n + 1) I k z) {s t : Int32} (hQ : kf_q I P g k M Q n (I 1 1)) : ab_CT d 116 [wd_v 0, .inl s, .inl t] (wd I P M g, k, z) Q := by
  have hq := fun r => hQ r _ _ _ _ _ _ h .rf rfl (hr.le (Int.le_refl _) (Nat.le_add_right _ _) (Nat.le_add_right _ _))
  obtain ⟨a, ha⟩ : ∃ a, c_sh s → P (18 + 5 * s.toInt.toNat) 2 = some a ∧ T a := by
    by_cases hs : c_sh s
    · obtain ⟨a, ha⟩ := h.held hs; exact ⟨a, fun _ => ha⟩
    · exact ⟨0, fun q => absurd q hs⟩
  obtain ⟨b, hb⟩ : ∃ b, c_sh t → P (18 + 5 * t.toInt.toNat) 2 = some b ∧ T b := by
    by_cases hs : c_sh t
    · obtain ⟨a, ha⟩ := h.held hs; exact ⟨a, fun _ => ha⟩
    · exact ⟨0, fun q => absurd q hs⟩
  exact y_order2 hd h.1 (fun _ => hq _) ha hb (fun _ _ => hq _)
theorem kf_shared (hd : 88 ≤ d) (h : k_ok T I P g k) (hr : k_rm (n + 1) I k z) {s t : Int32} (hQ : kf_q I P g k M Q n (I 1 1)) : ab_CT d 117 [wd_v 0, .inl s, .inl t] (wd I P M g, k, z) Q := by
  have hq := fun r => hQ r _ _ _ _ _ _ h .rf rfl (hr.le (Int.le_refl _) (Nat.le_add_right _ _) (Nat.le_add_right _ _))
  obtain ⟨a, ha⟩ : ∃ a, c_sh s → P (18 + 5 * s.toInt.toNat) 2 = some a ∧ T a := by
    by_cases hs : c_sh s
    · obtain ⟨a, ha⟩ := h.held hs; exact ⟨a, fun _ => ha⟩
    · exact ⟨0, fun q => absurd q hs⟩
  obtain ⟨b, hb⟩ : ∃ b, c_sh t → P (18 + 5 * t.toInt.toNat) 2 = some b ∧ T b := by
    by_cases hs : c_sh t
    · obtain ⟨a, ha⟩ := h.held hs; exact ⟨a, fun _ => ha⟩
    · exact ⟨0, fun q => absurd q hs⟩
  exact y_shared hd h.1 (fun _ => hq _) ha hb (fun _ _ => hq _)
theorem kf_differ (hd : 92 ≤ d) (h : k_ok T I P g k) (hr : k_rm (n + 1) I k z) {s t w : Int32} (hQ : kf_q I P g k M Q n (I 1 1)) : ab_CT d 118 [wd_v 0, .inl s, .inl t, .inl w] (wd I P M g, k, z) Q := by
  obtain ⟨a, ha⟩ : ∃ a, c_sh s → P (18 + 5 * s.toInt.toNat) 2 = some a ∧ T a := by
    by_cases hs : c_sh s
    · obtain ⟨a, ha⟩ := h.held hs; exact ⟨a, fun _ => ha⟩
    · exact ⟨0, fun q => absurd q hs⟩
  obtain ⟨b, hb⟩ : ∃ b, c_sh t → P (18 + 5 * t.toInt.toNat) 2 = some b ∧ T b := by
    by_cases hs : c_sh t
    · obtain ⟨a, ha⟩ := h.held hs; exact ⟨a, fun _ => ha⟩
    · exact ⟨0, fun q => absurd q hs⟩
  refine y_differ hd h.1 (fun _ => hQ _ _ _ _ _ _ _ h .rf rfl (hr.le (Int.le_refl _) (by omega) (by omega))) ha hb (fun _ _ => hQ _ T _ _ _ _ _ (h.ix (fun x j hx => d_fnd_ne (by omega) (by omega)) (fun _ _ _ => rfl)) (.of (fun _ _ q => d_fnd_ne (by omega) (by omega)) c_ofr.rf (fun _ _ _ => rfl)) (d_fnd_ne (by omega) (by omega)) (hr.le (by rw [d_fnd_ne (by omega) (by omega)]; exact Int.le_refl _) (by omega) (by omega)))
theorem kf_count (hd : 3 ≤ d) (h : k_ok T I P g k) (hr : k_rm (n + 1) I k z) {w : Int32} (hQ : kf_q I P g k M Q n (I 1 1)) : ab_CT d 122 [wd_v 0, .inl w] (wd I P M g, k, z) Q := by
  have hq := fun r => hQ r _ _ _ _ _ _ h .rf rfl (hr.le (Int.le_refl _) (Nat.le_add_right _ _) (Nat.le_add_right _ _))
  refine y_count hd (fun _ => hq _) (fun _ _ => hq _) (fun h1 h2 => ?_) (fun _ => hq _) (fun _ => hq _)
  obtain ⟨b, hb, hw⟩ := h.2.2.2.2.1 (w.toInt - 12).toNat (by omega)
  exact ⟨b, hb, hw, hq _⟩
theorem kf_look (hd : 50 ≤ d) (h : k_ok T I P g k) (hr : k_rm (n + 1) I k z) {s p q w : Int32} (hQ : kf_ql I P g k M Q n (I 1 1)) : ab_CT d 112 [wd_v 0, .inl s, .inl p, .inl q, .inl w] (wd I P M g, k, z) Q := by
  obtain ⟨a, c, ha⟩ := k_oks h s
  obtain ⟨b, hb⟩ := k_okp h p
  have hq := fun r => hQ r _ _ _ _ _ _ (h.fnd (p := b) (a := a)) f_fnd_fp (f_fnd_ne.1 _ _ (by omega)) (hr.le (by rw [f_fnd_ne.1 _ _ (by omega)]; exact Int.le_refl _) (Nat.le_add_right _ _) (Nat.le_add_right _ _))
  exact y_look hd h.1 (fun _ => hQ _ _ _ _ _ _ _ h .rf rfl (hr.le (Int.le_refl _) (by omega) (by omega))) (fun hs => (ha hs).1) hb (fun _ _ => hq _) (fun _ _ _ => hq _)
theorem kf_key (hd : 50 ≤ d) (h : k_ok T I P g k) (hr : k_rm (n + 1) I k z) {s p q w : Int32} (hQ : kf_q I P g k M Q n (I 1 1)) : ab_CT d 113 [wd_v 0, .inl s, .inl p, .inl q, .inl w] (wd I P M g, k, z) Q := by
  obtain ⟨a, c, ha⟩ := k_oks h s
  obtain ⟨b, hb⟩ := k_okp h p
  have hq := fun r => hQ r _ _ _ _ _ _ (h.fnd (p := b) (a := a)) f_fnd_fp (f_fnd_ne.1 _ _ (by omega)) (hr.le (by rw [f_fnd_ne.1 _ _ (by omega)]; exact Int.le_refl _) (Nat.le_add_right _ _) (Nat.le_add_right _ _))
  exact y_key hd h.1 (fun _ => hQ _ _ _ _ _ _ _ h .rf rfl (hr.le (Int.le_refl _) (by omega) (by omega))) (fun hs => (ha hs).1) hb (fun _ _ => hq _) (fun _ _ _ => hq _)
theorem kf_fold (hd : 50 ≤ d) (h : k_ok T I P g k) (hr : k_rm (n + 1) I k z) {s p q : Int32} (hQ : kf_ql I P g k M Q n (I 1 1)) : ab_CT d 114 [wd_v 0, .inl s, .inl p, .inl q] (wd I P M g, k, z) Q := by
  obtain ⟨a, c, ha⟩ := k_oks h s
  obtain ⟨b, hb⟩ := k_okp h p
  have hq := fun r => hQ r _ _ _ _ _ _ (h.fnd (p := b) (a := a)) f_fnd_fp (f_fnd_ne.1 _ _ (by omega)) (hr.le (by rw [f_fnd_ne.1 _ _ (by omega)]; exact Int.le_refl _) (Nat.le_add_right _ _) (Nat.le_add_right _ _))
  exact y_fold hd h.1 (fun _ => hQ _ _ _ _ _ _ _ h .rf rfl (hr.le (Int.le_refl _) (by omega) (by omega))) (fun hs => (ha hs).1) hb (fun _ => hq _)
theorem kf_best (hd : 50 ≤ d) (h : k_ok T I P g k) (hr : k_rm (n + 1) I k z) {s p o q : Int32} (hQ : kf_q I P g k M Q n (I 1 1)) : ab_CT d 115 [wd_v 0, .inl s, .inl p, .inl o, .inl q] (wd I P M g, k, z) Q := by
  obtain ⟨a, c, ha⟩ := k_oks h s
  obtain ⟨b, hb⟩ := k_okp h p
  have hq := fun r => hQ r _ _ _ _ _ _ (h.fnd (p := b) (a := a)) f_fnd_fp (f_fnd_ne.1 _ _ (by omega)) (hr.le (by rw [f_fnd_ne.1 _ _ (by omega)]; exact Int.le_refl _) (Nat.le_add_right _ _) (Nat.le_add_right _ _))
  refine y_best hd h.1 (fun _ => hQ _ _ _ _ _ _ _ h .rf rfl (hr.le (Int.le_refl _) (by omega) (by omega))) (fun hs => (ha hs).1) hb (fun _ _ => hq _) (fun _ _ _ => hQ _ T _ _ _ _ _ ((h.fnd (p := b) (a := a)).ix (fun x j hx => c_srt_ne (by omega)) (fun _ _ _ => rfl)) (f_fnd_fp.to (fun _ _ q => c_srt_ne (by omega)) (fun _ _ _ => rfl)) ((c_srt_ne (by omega)).trans (f_fnd_ne.1 _ _ (by omega))) (hr.le (by rw [c_srt_ne (by omega), f_fnd_ne.1 _ _ (by omega)]; exact Int.le_refl _) (by omega) (by omega)))
theorem kf_take (hd : 50 ≤ d) (h : k_ok T I P g k) (hr : k_rm (n + 1) I k z) {s f p q : Int32} (hQ : kf_q I P g k M Q n (I 1 1)) : ab_CT d 110 [wd_v 0, .inl s, .inl f, .inl p, .inl q] (wd I P M g, k, z) Q := by
  obtain ⟨a0, c, hs⟩ := k_oks h s
  obtain ⟨a, c0, ha⟩ := k_oks h f
  obtain ⟨b, hb⟩ := k_okp h p
  have hq := fun r => hQ r _ _ _ _ _ _ (h.fnd (p := b) (a := a)) f_fnd_fp (f_fnd_ne.1 _ _ (by omega)) (hr.le (by rw [f_fnd_ne.1 _ _ (by omega)]; exact Int.le_refl _) (Nat.le_add_right _ _) (Nat.le_add_right _ _))
  refine y_take hd h.1 (fun _ => hQ _ _ _ _ _ _ _ h .rf rfl (hr.le (Int.le_refl _) (by omega) (by omega))) (fun q => (hs q).2) (fun q => (ha q).1) hb (fun _ _ => hq _) (fun hall h1 h2 => ?_)
  have hs9 : s.toInt.toNat < 12 := by have := hall.1; unfold c_sh at this; omega
  refine hQ _ T _ _ _ _ _ (k_ok.bec (h.fnd (p := b) (a := a)) hs9 (s_ok_fnd (hs hall.1).2) (c_fs41_T h.1 (ha hall.2.1).1.2 (by omega))) (f_fnd_fp.to (fun _ _ q => s_becI_fp q) (fun _ _ q => s_becP_fp q)) ?_ ?_
  · rw [s_becI_ne (by omega)]; exact f_fnd_ne.1 _ _ (by omega)
  · exact hr.le (by rw [s_becI_ne (by omega), f_fnd_ne.1 _ _ (by omega)]; exact Int.le_refl _) (by omega) (by omega)
theorem kf_thing (hd : 60 ≤ d) (h : k_ok T I P g k) (hr : k_rm (n + 1) I k z) {s : Int32} (hb : ¬ c_sh s → kf_q I P g k M Q n (I 1 1)) (hg : c_sh s → kf_q I P g k M Q n (ab_ii 0)) : ab_CT d 105 [wd_v 0, .inl s] (wd I P M g, k, z) Q := by
  have hrb := hr.b h.2.2.1.2
  obtain ⟨a0, c, hs⟩ := k_oks h s
  obtain ⟨T', g1, g2, g3, g4, g5, g6⟩ := r_R_gd (z := z) h.1 h.2.1 h.tp
  have hkk : k ≤ (r_R (I, g, k, z)).2.2.2.1 := g1.kk
  have hJ : ∀ a j, ¬ (a = 1) → r_RJ (I, g, k, z) a j = I a j := fun a j q => (wd_up_ne _ _ (by omega)).trans (g3 a j (by omega))
  have hJ1 : r_RJ (I, g, k, z) 1 1 = ab_ii 0 := wd_up_self _ _ _ _
  have hkJ : ∀ (I' : wd_I), (∀ a j, a ≠ 9 → I' a j = r_RJ (I, g, k, z) a j) → (0 ≤ (I' 9 0).toInt ∧ (I' 9 0).toInt ≤ 3000) → k_ok T' I' P (r_R (I, g, k, z)).2.2.1 (r_R (I, g, k, z)).2.2.2.1 := fun I' hI h9 => h.fr g1.wf g1.inc g1.ofr hkk (k_sm_of (fun a j q => (hI a j (by omega)).trans (hJ a j (by omega))) (fun _ _ _ => rfl)) h9 ⟨0, (hI 1 1 (by omega)).trans hJ1, by omega⟩
  have e9 : r_RJ (I, g, k, z) 9 0 = I 9 0 := hJ 9 0 (by omega)
  have hk0 := hkJ _ (fun _ _ _ => rfl) (by rw [e9]; exact h.2.2.1)
  have hn := fun q r => hg q r T' _ _ _ _ (r_R (I, g, k, z)).2.2.2.2 hk0 (.of (fun a j q => hJ a j (by omega)) g1.ofr (fun _ _ _ => rfl)) hJ1 (hr.le (by rw [e9]; exact Int.le_refl _) (by omega) (by omega))
  have hnd := fun a ha => r_R_nb (z := z) (a := a) h.1 h.2.1 h.tp ha
  refine y_thing hd h.1 h.2.1 h.tp h.2.2.1 ⟨by omega, by omega⟩ (fun q => (hs q).2) (fun q => hb q _ _ _ _ _ _ _ h .rf rfl (hr.le (Int.le_refl _) (by omega) (by omega))) (fun q _ => hn q _) (fun _ a ha _ => ⟨by have := hnd a ha; omega, by have := hnd a ha; omega⟩) (fun q a ha _ _ => hn q _) (fun q a ha hf hle => ?_)
  have hnda := hnd a ha
  have h9 := h.2.2.1
  have e9b : (wd_up (r_RJ (I, g, k, z)) 9 0 (ab_ii ((I 9 0).toInt + (c_i (r_R (I, g, k, z)).2.2.1 a 2).toInt)) 9 0).toInt = (I 9 0).toInt + (c_i (r_R (I, g, k, z)).2.2.1 a 2).toInt := by rw [wd_up_self, ab_tI (by omega) (by omega)]
  have hk1 := hkJ (wd_up (r_RJ (I, g, k, z)) 9 0 (ab_ii ((I 9 0).toInt + (c_i (r_R (I, g, k, z)).2.2.1 a 2).toInt))) (fun a j q => wd_up_ne _ _ (by omega)) (by rw [e9b]; omega)
  have hs9 : s.toInt.toNat < 12 := by unfold c_sh at q; omega
  have hsok : s_ok T' (wd_up (r_RJ (I, g, k, z)) 9 0 (ab_ii ((I 9 0).toInt + (c_i (r_R (I, g, k, z)).2.2.1 a 2).toInt))) P s.toInt.toNat c := s_ok_eq (s_ok_mo (hs q).2 g1.inc) ((wd_up_ne _ _ (by omega)).trans (hJ _ _ (by omega))) rfl (fun _ => rfl)
  refine hg q _ T' _ _ _ _ _ (hk1.bec hs9 hsok (g2 a ha)) ((k_fp.of (fun a j q => (wd_up_ne _ _ (by omega)).trans (hJ a j (by omega))) g1.ofr (fun _ _ _ => rfl)).to (fun _ _ q => s_becI_fp q) (fun _ _ q => s_becP_fp q)) ?_ (hr.le ?_ (by dsimp only; omega) (by dsimp only; omega))
  · dsimp only
    rw [s_becI_ne (by omega), wd_up_ne _ _ (by omega)]; exact hJ1
  · dsimp only
    rw [s_becI_ne (by omega), e9b]; omega
theorem kf_ok_R {gv p a : Nat} {how v : Int32} {P' : wd_P} (h : k_ok T I P g k) (ha : T a) (hgv : how.toInt = 7 → T gv) (hP : ∀ x j, x ≠ 10 → P' x j = P x j) : ∃ T', k_ok T' (c_R gv p a how v (I, g, k, z)).2.1 P' (c_R gv p a how v (I, g, k, z)).2.2.1 (c_R gv p a how v (I, g, k, z)).2.2.2.1 ∧ T' (c_R gv p a how v (I, g, k, z)).1 ∧ k_fp I P g k (c_R gv p a how v (I, g, k, z)).2.1 P' (c_R gv p a how v (I, g, k, z)).2.2.1 ∧ (c_R gv p a how v (I, g, k, z)).2.1 1 1 = I 1 1 ∧ (∀ b, T b → T' b) ∧ ∀ s c, s < 12 → s_ok T I P s c → s_ok T' (c_R gv p a how v (I, g, k, z)).2.1 P' s c := by
  have hgd := c_R_gd (z := z) (n := v) (p := p) h.1 h.2.1 ha h.2.2.1 hgv
  obtain ⟨b1, -, -, -, b5⟩ := k_rm_R (m := 0) h.2.2.1 hgd
  have hfr := c_R_fr hgd
  obtain ⟨T', g1, g2, g3⟩ := hgd
  refine ⟨T', h.fr g1.wf g1.inc g1.ofr b5 (k_sm_of (fun a j q => hfr a j (by omega) (by omega)) (fun a j q => hP a j (by omega))) b1 (by rw [hfr 1 1 (by omega) (by omega)]; exact h.2.2.2.2.2.1), g2, .of (fun a j q => hfr a j (by omega) (by omega)) g1.ofr (fun a j q => hP a j (by omega)), hfr 1 1 (by omega) (by omega), g1.inc, fun s c hs hc => s_ok_eq (s_ok_mo hc g1.inc) (hfr _ _ (by omega) (by omega)) (hP _ _ (by omega)) (fun i => hP _ _ (by omega))⟩
theorem kf_over (hd : 96 ≤ d) (h : k_ok T I P g k) (hr : k_rm (n + 1) I k z) {s f p how v : Int32} (hQ : kf_q I P g k M Q n (I 1 1)) : ab_CT d 108 [wd_v 0, .inl s, .inl f, .inl p, .inl how, .inl v] (wd I P M g, k, z) Q := by
  obtain ⟨a0, c, hs⟩ := k_oks h s
  obtain ⟨a, c0, ha⟩ := k_oks h f
  obtain ⟨b, hb⟩ := k_okp h p
  obtain ⟨gv, c1, hgv⟩ := k_oks h v
  obtain ⟨o, ho7, hon⟩ : ∃ o : Option Nat, (how.toInt = 7 → o = some gv) ∧ (¬ how.toInt = 7 → o = none) := by
    by_cases h7 : how.toInt = 7
    · exact ⟨some gv, fun _ => rfl, fun q => absurd h7 q⟩
    · exact ⟨none, fun q => absurd q h7, fun _ => rfl⟩
  have hall : ∀ hx : (c_sh s ∧ c_sh f ∧ c_pp p ∧ c_isHow how v), (c_gd T 82 (c_cI I how v, g, k, z) (c_R gv b a how v (I, g, k, z))) ∧ ∃ T', k_ok T' (c_R gv b a how v (I, g, k, z)).2.1 (c_cP P b o) (c_R gv b a how v (I, g, k, z)).2.2.1 (c_R gv b a how v (I, g, k, z)).2.2.2.1 ∧ T' (c_R gv b a how v (I, g, k, z)).1 ∧ k_fp I P g k (c_R gv b a how v (I, g, k, z)).2.1 (c_cP P b o) (c_R gv b a how v (I, g, k, z)).2.2.1 ∧ (c_R gv b a how v (I, g, k, z)).2.1 1 1 = I 1 1 ∧ (∀ b, T b → T' b) ∧ ∀ s c, s < 12 → s_ok T I P s c → s_ok T' (c_R gv b a how v (I, g, k, z)).2.1 (c_cP P b o) s c := fun hx => by
    have h7 : how.toInt = 7 → T gv := fun q => (hgv (by have := hx.2.2.2; unfold c_isHow at this; rw [if_neg (by omega), if_pos q] at this; exact this)).1.2
    exact ⟨c_R_gd (z := z) (n := v) (p := b) h.1 h.2.1 (ha hx.2.1).1.2 h.2.2.1 h7, kf_ok_R h (ha hx.2.1).1.2 h7 (fun x j q => c_cP_ne q)⟩
  have hrm : ∀ hx : (c_sh s ∧ c_sh f ∧ c_pp p ∧ c_isHow how v), k_rm n (c_R gv b a how v (I, g, k, z)).2.1 (c_R gv b a how v (I, g, k, z)).2.2.2.1 (c_R gv b a how v (I, g, k, z)).2.2.2.2 := fun hx => by
    obtain ⟨r1, r2, r3, r4, -⟩ := k_rm_R (m := 0) h.2.2.1 (hall hx).1
    unfold k_rm at *
    omega
  have hpl : (c_sh s ∧ c_sh f ∧ c_pp p ∧ c_isHow how v) → ∀ r, Q (some (.inl r)) (c_S (c_cP P b o) M (c_R gv b a how v (I, g, k, z)).2) := fun hx r => by
    obtain ⟨-, T', k1, k2, kf, k3, -⟩ := hall hx
    exact hQ r T' _ _ _ _ _ k1 kf k3 (hrm hx)
  refine y_over hd h.1 h.2.1 h.2.2.1 hr.ro (o := o) (fun _ => hQ _ _ _ _ _ _ _ h .rf rfl (hr.le (Int.le_refl _) (by omega) (by omega))) (fun q => (hs q).2) (fun q => (ha q).1) hb (fun h7 q => ⟨(hgv q).1.1, (hgv q).1.2, ho7 h7⟩) hon (fun hx _ => hpl hx _) (fun hx _ _ => hpl hx _) (fun hx _ _ => ?_)
  obtain ⟨-, T', k1, k2, kf, k3, k4, k5⟩ := hall hx
  have hs9 : s.toInt.toNat < 12 := by have := hx.1; unfold c_sh at this; omega
  refine hQ _ T' _ _ _ _ _ (k1.bec hs9 (k5 _ _ hs9 (hs hx.1).2) k2) (kf.to (fun _ _ q => s_becI_fp q) (fun _ _ q => s_becP_fp q)) ?_ ?_
  · show s_becI _ _ _ 1 1 = _
    rw [s_becI_ne (by omega)]; exact k3
  · have := hrm hx
    unfold k_rm at *
    dsimp only
    rw [s_becI_ne (by omega)]
    exact this
theorem kf_put (hd : 10 ≤ d) (h : k_ok T I P g k) (hr : k_rm (n + 1) I k z) {s what a b v : Int32} (hQ : kf_q I P g k M Q n (I 1 1)) : ab_CT d 109 [wd_v 0, .inl s, .inl what, .inl a, .inl b, .inl v] (wd I P M g, k, z) Q := by
  have hrb := hr.b h.2.2.1.2
  obtain ⟨a0, c, hs⟩ := k_oks h s
  obtain ⟨x, c0, ha⟩ := k_oks h a
  obtain ⟨y, c1, hb⟩ := k_oks h b
  have hq := fun r => hQ r _ _ _ _ _ _ h .rf rfl (hr.le (Int.le_refl _) (Nat.le_add_right _ _) (Nat.le_add_right _ _))
  have hst : ∀ hx : c_pt1 s what a b v, c_st T (c_J, g, k, z) (fun w => T w ∨ w = k + 1 + 1 + 1 + 1 + 1) (c_J, c_ptg g k x y what v, k + 1 + 1 + 1 + 1 + 1 + 1, 0) ∧ c_ptz g z x y what v ≤ z + 61 := fun hx => c_ptg_st h.1 h.2.1 (ha hx.2.1).1.2 (hb hx.2.2.1).1.2
  have hk1 : ∀ hx : c_pt1 s what a b v, ∀ I', (∀ a j, a ≠ 9 → I' a j = I a j) → (0 ≤ (I' 9 0).toInt ∧ (I' 9 0).toInt ≤ 3000) → k_ok (fun w => T w ∨ w = k + 1 + 1 + 1 + 1 + 1) I' P (c_ptg g k x y what v) (k + 1 + 1 + 1 + 1 + 1 + 1) := fun hx I' hI h9 => by
    obtain ⟨g1, -⟩ := hst hx
    exact h.fr g1.wf g1.inc g1.ofr g1.kk (k_sm_of (fun a j q => hI a j (by omega)) (fun _ _ _ => rfl)) h9 (by rw [hI 1 1 (by omega)]; exact h.2.2.2.2.2.1)
  refine y_put hd h.1 h.2.1 h.2.2.1 ⟨by omega, by omega⟩ (fun _ => hq _) (fun q => (hs q).2) (fun q => (ha q).1) (fun q => (hb q).1) (fun _ _ _ => hq _) (fun _ _ _ => hq _) (fun hx _ _ _ => ?_) (fun hx _ hlt _ => ?_)
  · exact hQ _ _ _ _ _ _ _ (hk1 hx I (fun _ _ _ => rfl) h.2.2.1) (.of (fun _ _ _ => rfl) (hst hx).1.ofr (fun _ _ _ => rfl)) rfl (hr.le (Int.le_refl _) (by omega) (by have := (hst hx).2; omega))
  · have hs9 : s.toInt.toNat < 12 := by have := hx.1; unfold c_sh at this; omega
    obtain ⟨e1, -⟩ := c_I1_9 (I := I) ⟨h.2.2.1.1, hlt⟩
    have h9 := h.2.2.1
    refine hQ _ _ _ _ _ _ _ ((hk1 hx (c_I1 I) (fun a j q => wd_up_ne _ _ (by omega)) (by rw [e1]; omega)).bec hs9 (s_ok_eq (s_ok_mo (hs hx.1).2 (fun _ q => Or.inl q)) (wd_up_ne _ _ (by omega)) rfl (fun _ => rfl)) (Or.inr rfl)) ((k_fp.of (I' := c_I1 I) (fun _ _ q => wd_up_ne _ _ (by omega)) (hst hx).1.ofr (fun _ _ _ => rfl)).to (fun _ _ q => s_becI_fp q) (fun _ _ q => s_becP_fp q)) ?_ (hr.le ?_ (by omega) (by have := (hst hx).2; omega))
    · rw [s_becI_ne (by omega)]; exact wd_up_ne _ _ (by omega)
    · rw [s_becI_ne (by omega), e1]; omega
theorem kf_fit (hd : 98 ≤ d) (h : k_ok T I P g k) (hr : k_rm (n + 1) I k z) {s p w : Int32} (hQ : kf_q I P g k M Q n (I 1 1)) : ab_CT d 119 [wd_v 0, .inl s, .inl p, .inl w] (wd I P M g, k, z) Q := by
  obtain ⟨a, c, ha⟩ := k_oks h s
  obtain ⟨b, hb⟩ := k_okp h p
  obtain ⟨gv, c1, hgv⟩ := k_oks h w
  have hfP : ∀ x j, x ≠ 10 → c_fP P b gv x j = P x j := fun x j q => c_cP_ne q
  have h1 : ∀ hx : (c_sh s ∧ c_pp p ∧ c_sh w), ∃ T1, k_ok T1 (c_F1 gv b a (I, g, k, z)).2.1 (c_fP P b gv) (c_F1 gv b a (I, g, k, z)).2.2.1 (c_F1 gv b a (I, g, k, z)).2.2.2.1 ∧ T1 (c_F1 gv b a (I, g, k, z)).1 ∧ k_fp I P g k (c_F1 gv b a (I, g, k, z)).2.1 (c_fP P b gv) (c_F1 gv b a (I, g, k, z)).2.2.1 ∧ (c_F1 gv b a (I, g, k, z)).2.1 1 1 = I 1 1 ∧ k ≤ (c_F1 gv b a (I, g, k, z)).2.2.2.1 ∧ T1 gv := fun hx => by
    obtain ⟨T1, k1, k2, kf, k3, k4, -⟩ := kf_ok_R (gv := gv) (p := b) (a := a) (how := ab_ii 7) (v := ab_ii 0) (z := z) h (ha hx.1).1.2 (fun _ => (hgv hx.2.2).1.2) hfP
    exact ⟨T1, k1, k2, kf, k3, (k_rm_R (m := 0) h.2.2.1 (c_R_gd (z := z) (how := ab_ii 7) (n := ab_ii 0) (p := b) h.1 h.2.1 (ha hx.1).1.2 h.2.2.1 (fun _ => (hgv hx.2.2).1.2))).2.2.2.2, k4 _ (hgv hx.2.2).1.2⟩
  have r1 : ∀ hx : (c_sh s ∧ c_pp p ∧ c_sh w), _ := fun hx => k_rm_R (m := 0) h.2.2.1 (c_R_gd (z := z) (how := ab_ii 7) (n := ab_ii 0) (p := b) h.1 h.2.1 (ha hx.1).1.2 h.2.2.1 (fun _ => (hgv hx.2.2).1.2))
  have hp1 : (c_sh s ∧ c_pp p ∧ c_sh w) → ∀ r, Q (some (.inl r)) (c_S (c_fP P b gv) M (c_F1 gv b a (I, g, k, z)).2) := fun hx r => by
    obtain ⟨T1, k1, k2, kf, k3, -⟩ := h1 hx
    refine hQ r T1 _ _ _ _ _ k1 kf k3 ?_
    obtain ⟨q1, q2, q3, q4, -⟩ := r1 hx
    unfold c_F1
    unfold k_rm at *
    omega
  have h2 : ∀ hx : (c_sh s ∧ c_pp p ∧ c_sh w), ∃ T2, k_ok T2 (c_F2 gv b a (I, g, k, z)).2.1 (c_fP P b gv) (c_F2 gv b a (I, g, k, z)).2.2.1 (c_F2 gv b a (I, g, k, z)).2.2.2.1 ∧ k_fp I P g k (c_F2 gv b a (I, g, k, z)).2.1 (c_fP P b gv) (c_F2 gv b a (I, g, k, z)).2.2.1 ∧ (c_F2 gv b a (I, g, k, z)).2.1 1 1 = I 1 1 ∧ k_rm n (c_F2 gv b a (I, g, k, z)).2.1 (c_F2 gv b a (I, g, k, z)).2.2.2.1 (c_F2 gv b a (I, g, k, z)).2.2.2.2 := fun hx => by
    obtain ⟨T1, k1, k2, kf, k3, kkx, kg⟩ := h1 hx
    obtain ⟨q1, q2, q3, q4, -⟩ := r1 hx
    unfold c_F2
    change (0 ≤ ((c_F1 gv b a (I, g, k, z)).2.1 9 0).toInt ∧ ((c_F1 gv b a (I, g, k, z)).2.1 9 0).toInt ≤ 3000) at q1
    change (I 9 0).toInt ≤ ((c_F1 gv b a (I, g, k, z)).2.1 9 0).toInt at q2
    change ((c_F1 gv b a (I, g, k, z)).2.2.2.1 : Int) + 8 * (3001 - ((c_F1 gv b a (I, g, k, z)).2.1 9 0).toInt) ≤ _ at q3
    change ((c_F1 gv b a (I, g, k, z)).2.2.2.2 : Int) + 170 * (3001 - ((c_F1 gv b a (I, g, k, z)).2.1 9 0).toInt) ≤ _ at q4
    generalize c_F1 gv b a (I, g, k, z) = R at *
    obtain ⟨x1, I1, g1, k1', z1⟩ := R
    dsimp only at *
    obtain ⟨T2, m1, m2, mf, m3, m4, -⟩ := kf_ok_R (gv := gv) (p := b) (a := x1) (how := ab_ii 7) (v := ab_ii 0) (z := z1) (P' := c_fP P b gv) k1 k2 (fun _ => kg) (fun _ _ _ => rfl)
    obtain ⟨u1, u2, u3, u4, -⟩ := k_rm_R (m := 0) k1.2.2.1 (c_R_gd (z := z1) (how := ab_ii 7) (n := ab_ii 0) (p := b) (gv := gv) k1.1 k1.2.1 k2 k1.2.2.1 (fun _ => kg))
    refine ⟨T2, m1, ⟨fun j => (mf.1 j).trans (kf.1 j), kf.2.1.tr mf.2.1 kkx, fun i => (mf.2.2.1 i).trans (kf.2.2.1 i), fun i => (mf.2.2.2.1 i).trans (kf.2.2.2.1 i), mf.2.2.2.2.trans kf.2.2.2.2⟩, m3.trans k3, ?_⟩
    unfold k_rm at *
    omega
  have hp2 : (c_sh s ∧ c_pp p ∧ c_sh w) → ∀ r, Q (some (.inl r)) (c_S (c_fP P b gv) M (c_F2 gv b a (I, g, k, z)).2) := fun hx r => by
    obtain ⟨T2, k1, kf, k3, k5⟩ := h2 hx
    exact hQ r T2 _ _ _ _ _ k1 kf k3 k5
  refine y_fit hd h.1 h.2.1 h.2.2.1 hr.ro (fun _ => hQ _ _ _ _ _ _ _ h .rf rfl (hr.le (Int.le_refl _) (by omega) (by omega))) (fun q => (ha q).1) hb (fun q => (hgv q).1) (fun hx _ => hp1 hx _) (fun hx _ _ => hp1 hx _) (fun hx _ _ _ => hp2 hx _) (fun hx _ _ _ _ => hp2 hx _) (fun hx _ _ _ _ => ?_)
  obtain ⟨T2, k1, kf, k3, k5⟩ := h2 hx
  refine hQ _ T2 _ _ _ _ _ k1.fnd (kf.to (fun _ _ q => f_fnd_ne.1 _ _ (by omega)) (fun _ _ q => f_fnd_ne.2 _ _ (by omega))) ((f_fnd_ne.1 _ _ (by omega)).trans k3) ?_
  unfold k_rm at *
  rw [f_fnd_ne.1 _ _ (by omega)]
  exact k5
end
end
section
/-! ===== both objects: a byte of a word (own text) ===== -/
theorem h_byb (x : BitVec 32) (s i : Nat) (hs : s + i < 32) : (x.sshiftRight s).getLsbD i = (x >>> s).getLsbD i := by
  rw [BitVec.getLsbD_sshiftRight, BitVec.getLsbD_ushiftRight]
  rw [if_pos hs]
  have : ¬ 32 ≤ i := by omega
  simp [this]
theorem h_byc (x : BitVec 32) (s : Nat) (hs : s ≤ 24) : (x >>> s) &&& 255#32 = (x.sshiftRight s) &&& 255#32 := by
  apply BitVec.eq_of_getLsbD_eq
  intro i hi
  rw [BitVec.getLsbD_and, BitVec.getLsbD_and]
  by_cases h8 : i < 8
  · rw [h_byb x s i (by omega)]
  · have : (255#32).getLsbD i = false := by
      have h : ∀ k : Fin 32, ¬ k.val < 8 → (255#32).getLsbD k.val = false := by decide
      exact h ⟨i, hi⟩ h8
    rw [this, Bool.and_false, Bool.and_false]
theorem h_byte (w : Int32) {j : Nat} (hj : j < 4) : c_byte w j = m_byte w j := by
  unfold c_byte m_byte
  apply Int32.toBitVec_inj.mp
  have e : ∀ s : Nat, s ≤ 24 → (w.toBitVec >>> s) &&& 255#32 = (w.toBitVec.sshiftRight s) &&& 255#32 := fun s hs => h_byc _ _ hs
  match j, hj with
  | 0, _ => exact e 0 (by omega)
  | 1, _ => exact e 8 (by omega)
  | 2, _ => exact e 16 (by omega)
  | 3, _ => exact e 24 (by omega)
end
section
/-! ===== both objects: the tape between calls (own text) ===== -/
def v_tb (I M : wd_I) : Prop := ∀ j : Nat, (j : Int) < (M 102 22).toInt → I 2 j = M 120 j
section
variable {I I' M M' : wd_I}
theorem v_tb.fr (h : v_tb I M) (hI : ∀ j, I' 2 j = I 2 j) (hM : r_fp M M') (h22 : M' 102 22 = M 102 22) : v_tb I' M' := fun j hj => by
  rw [hI j, hM.1 120 (by decide) (by decide) (by decide)]
  exact h j (by rw [← h22]; exact hj)
theorem v_tb_0 (h : M' 102 22 = ab_ii 0) : v_tb I' M' := fun j hj => by
  rw [h, show (ab_ii 0).toInt = 0 from rfl] at hj
  omega
theorem v_tb.thg (h : v_tb I M) (hI : ∀ j, I' 2 j = I 2 j) (hM : r_fp M M') {s : Int32} (h22 : M' 102 22 = @ite Int32 (m_sh s) (Classical.propDecidable _) (ab_ii 0) (M 102 22)) : v_tb I' M' := by
  by_cases q : m_sh s
  · rw [if_pos q] at h22
    exact v_tb_0 h22
  · rw [if_neg q] at h22
    exact h.fr hI hM h22
theorem v_fed {w : Int32} {c : Nat} (h : ∀ i, i < c → I 2 i = M 120 i) : ∀ j, j ≤ 4 → ∀ i, i < c + j → c_fed I w c j 2 i = m_fed M w c j 120 i
  | 0, _, i, hi => h i hi
  | j + 1, hj, i, hi => by
    unfold c_fed m_fed
    rw [wd_up_row _ _ _ (show 2 ≠ 1 by decide), wd_up_row _ _ _ (show 120 ≠ 102 by decide)]
    by_cases e : i = c + j
    · subst e
      rw [wd_up_self, wd_up_self]
      exact h_byte w (by omega)
    · rw [wd_up_ne _ _ (Or.inr e), wd_up_ne _ _ (Or.inr e)]
      exact v_fed h j (by omega) i (by omega)
theorem v_tb.fed (h : v_tb I M) {w : Int32} {c j : Nat} (hm : M 102 22 = ab_ii (c : Int)) (hc : c + j ≤ 100) (hj : j ≤ 4) : v_tb (c_fed I w c j) (m_fed M w c j) := fun i hi => by
  rw [m_fed_n hm, ab_tI (by omega) (by omega)] at hi
  exact v_fed (fun i hi => h i (by rw [hm, ab_tI (by omega) (by omega)]; omega)) j hj i (by omega)
end
section
variable {d : Nat} {I0 I : wd_I} {P : wd_P} {M : wd_I} {g : Nat → ab_C} {k z : Nat} {Q : ab_Q}
/-- the reference's path, in the class's words -/
theorem x_pathS (hd : 6 ≤ d) {p : Int32} (ht : h_tp I0 M) (hb0 : 0 ≤ (I0 1 1).toInt ∧ (I0 1 1).toInt ≤ 100) (hb : ¬ c_pp p → Q (some (.inl (ab_ii (-2)))) (wd I P M g, k, z)) (hF : c_pp p → 0 ≤ (r_who I0 1 3).toInt → Q (some (.inl (ab_ii (-100 - (r_who I0 1 3).toInt)))) (wd I P (m_p2 M) g, k, z)) (hD : c_pp p → (r_who I0 1 3).toInt < 0 → Q (some (.inl (ab_ii (r_len I0 : Int)))) (wd I P (m_p3 M p.toInt.toNat) g, k, z)) : ab_CT d 159 [wd_v 102, .inl p] (wd I P M g, k, z) Q := by
  obtain ⟨w1, w2⟩ := h_who ht hb0
  have e24 : m_p2 M 102 24 = r_who I0 1 3 := by
    rw [w1.2.2.2.1]
    unfold m_p2
    exact wd_up_ne _ _ (Or.inr (by decide))
  have f0 := w1.f0
  rw [← w1.2.2.2.1] at f0 w2
  have ep : c_pp p ↔ m_pa p := by unfold c_pp m_pa; omega
  refine x_path hd (by rw [← ht.1]; exact hb0) (fun q => hb (fun e => q (ep.mp e))) (fun q1 q2 => ?_) (fun q1 q2 => ?_)
  · rw [e24] at q2 ⊢
    exact hF (ep.mpr q1) (by omega)
  · rw [e24] at q2
    rw [(w2 q2).1]
    exact hD (ep.mpr q1) (by omega)
end
end
section
/-! ===== both objects: the paths between calls (own text) ===== -/
def v_pr (g : Nat → ab_C) (M : wd_I) (rs rw rn : Nat) (F : Nat → Option Nat) : Prop := ∀ q, q < 8 → ∃ b, F q = some b ∧ h_pt g M rs rw rn b q
def v_pa (I : wd_I) (P : wd_P) (M : wd_I) (g : Nat → ab_C) : Prop := v_pr g M 113 114 115 (P 8) ∧ ((I 0 11).toInt = 0 ↔ (M 102 20).toInt = 0) ∧ (¬ (I 0 11).toInt = 0 → v_pr g M 117 118 119 (P 17))
section
variable {T : Nat → Prop} {I I' : wd_I} {P P' : wd_P} {M M' : wd_I} {g g' : Nat → ab_C} {k : Nat}
theorem h_pt.fr {rs rw rn rs' rw' rn' p q : Nat} (h : h_pt g M rs rw rn p q) (hw : p_wf g k p) (hx : c_ofr k g g') (hq : q < 8) (e1 : ∀ i, i < 64 → M' rs' i = M rs i) (e2 : ∀ i, i < 64 → M' rw' i = M rw i) (e3 : M' rn' q = M rn q) : h_pt g' M' rs' rw' rn' p q := by
  obtain ⟨-, w1, w2, w3⟩ := p_wf_xt hw hx (Nat.le_refl _)
  obtain ⟨h1, h2, h3⟩ := h
  refine ⟨by rw [w1, e3]; exact h1, by rw [w1]; exact h2, fun i hi => ?_⟩
  rw [w1] at hi
  rw [w2, w3, e1 _ (by omega), e2 _ (by omega)]
  exact h3 i hi
theorem v_pr.fr {rs rw rn rs' rw' rn' : Nat} {F F' : Nat → Option Nat} (h : v_pr g M rs rw rn F) (hw : c_paT g k F) (hx : c_ofr k g g') (hF : ∀ q, q < 8 → F' q = F q) (e1 : ∀ i, i < 64 → M' rs' i = M rs i) (e2 : ∀ i, i < 64 → M' rw' i = M rw i) (e3 : ∀ i, i < 8 → M' rn' i = M rn i) : v_pr g' M' rs' rw' rn' F' := fun q hq => by
  obtain ⟨b, hb, hp⟩ := h q hq
  obtain ⟨b', hb', hw'⟩ := hw q hq
  rw [hb] at hb'
  cases hb'
  exact ⟨b, (hF q hq).trans hb, hp.fr hw' hx hq e1 e2 (e3 q hq)⟩
theorem v_pa.fr (h : v_pa I P M g) (hk : k_ok T I P g k) (hc : k_fp I P g k I' P' g') (hm : r_fp M M') : v_pa I' P' M' g' := by
  obtain ⟨h1, h2, h3⟩ := h
  have e : ∀ a, 113 ≤ a → a ≤ 119 → a ≠ 116 → M' a = M a := fun a a1 a2 a3 => hm.1 a a1 (by omega) a3
  refine ⟨h1.fr hk.2.2.2.2.1 hc.2.1 (fun q _ => hc.2.2.1 q) (fun i _ => by rw [e 113 (by decide) (by decide) (by decide)]) (fun i _ => by rw [e 114 (by decide) (by decide) (by decide)]) (fun i _ => by rw [e 115 (by decide) (by decide) (by decide)]), by rw [hc.2.2.2.2, hm.2]; exact h2, fun q => ?_⟩
  rw [hc.2.2.2.2] at q
  exact (h3 q).fr (hk.2.2.2.2.2.2 q).2 hc.2.1 (fun q _ => hc.2.2.2.1 q) (fun i _ => by rw [e 117 (by decide) (by decide) (by decide)]) (fun i _ => by rw [e 118 (by decide) (by decide) (by decide)]) (fun i _ => by rw [e 119 (by decide) (by decide) (by decide)])
/-- one path set -/
theorem v_pa.st (h : v_pa I P M g) (hk : k_ok T I P g k) (hx : c_ofr k g g') {p b : Nat} (hp : p < 8) (hb : h_pt g' M' 113 114 115 b p) (hI : I' 0 11 = I 0 11) (e0 : M' 102 20 = M 102 20) (e1 : ∀ q i, q < 8 → q ≠ p → i < 8 → M' 113 (8 * q + i) = M 113 (8 * q + i) ∧ M' 114 (8 * q + i) = M 114 (8 * q + i)) (e2 : ∀ q, q ≠ p → M' 115 q = M 115 q) (e3 : ∀ a, 117 ≤ a → a ≤ 119 → M' a = M a) : v_pa I' (wd_up P 8 p (some b)) M' g' := by
  obtain ⟨h1, h2, h3⟩ := h
  refine ⟨fun q hq => ?_, by rw [hI, e0]; exact h2, fun q => ?_⟩
  · by_cases e : q = p
    · subst e
      exact ⟨b, wd_up_self _ _ _ _, hb⟩
    · obtain ⟨c, hc, hpt⟩ := h1 q hq
      obtain ⟨c', hc', hw⟩ := hk.2.2.2.2.1 q hq
      rw [hc] at hc'
      cases hc'
      refine ⟨c, (wd_up_ne _ _ (Or.inr e)).trans hc, ?_⟩
      obtain ⟨-, w1, w2, w3⟩ := p_wf_xt hw hx (Nat.le_refl _)
      obtain ⟨p1, p2, p3⟩ := hpt
      refine ⟨by rw [w1, e2 q e]; exact p1, by rw [w1]; exact p2, fun i hi => ?_⟩
      rw [w1] at hi
      obtain ⟨e4, e5⟩ := e1 q i hq e (by omega)
      rw [w2, w3, e4, e5]
      exact p3 i hi
  · rw [hI] at q
    exact (h3 q).fr (hk.2.2.2.2.2.2 q).2 hx (fun q _ => wd_up_ne _ _ (by omega)) (fun i _ => by rw [e3 117 (by decide) (by decide)]) (fun i _ => by rw [e3 118 (by decide) (by decide)]) (fun i _ => by rw [e3 119 (by decide) (by decide)])
theorem m_p2_r (hb : 0 ≤ (M 102 22).toInt ∧ (M 102 22).toInt ≤ 100) : (∀ a, a ≠ 102 → a ≠ 121 → a ≠ 122 → m_p2 M a = M a) ∧ m_p2 M 102 20 = M 102 20 := by
  have ht : m_tp (m_p0 M) := by
    have e1 : m_p0 M 102 23 = ab_ii 0 := by unfold m_p0; rw [wd_up_ne _ _ (by omega), wd_up_self]
    have e3 : m_p0 M 102 22 = M 102 22 := by unfold m_p0; rw [wd_up_ne _ _ (by omega), wd_up_ne _ _ (by omega)]
    unfold m_tp
    rw [e1, e3]
    exact ⟨by decide, hb.1, hb.2⟩
  obtain ⟨g1, g2, -⟩ := (m_pl_pg 102 0 (m_p0 M) ht (by omega)).1
  refine ⟨fun a a1 a2 a3 => ?_, ?_⟩
  · unfold m_p2
    rw [wd_up_row _ _ _ a1]
    show (m_pl 102 0 (m_p0 M)).1 a = _
    rw [g1 a a1 a2 a3]
    unfold m_p0
    rw [wd_up_row _ _ _ a1, wd_up_row _ _ _ a1]
  · unfold m_p2
    rw [wd_up_ne _ _ (by omega)]
    show (m_pl 102 0 (m_p0 M)).1 102 20 = _
    rw [g2 20 (by decide) (by decide) (by decide) (by decide)]
    unfold m_p0
    rw [wd_up_ne _ _ (by omega), wd_up_ne _ _ (by omega)]
theorem m_pcp_at {p : Nat} {i : Nat} : ∀ n, i < n → m_pcp M p n 113 (8 * p + i) = M 121 i ∧ m_pcp M p n 114 (8 * p + i) = M 122 i
  | 0, h => absurd h (Nat.not_lt_zero _)
  | n + 1, h => by
    unfold m_pcp
    by_cases e : i = n
    · subst e
      rw [wd_up_row _ _ _ (show 113 ≠ 114 by decide), wd_up_self, wd_up_self]
      exact ⟨rfl, rfl⟩
    · rw [wd_up_row _ _ _ (show 113 ≠ 114 by decide), wd_up_ne _ _ (Or.inr (by omega)), wd_up_ne _ _ (Or.inr (by omega)), wd_up_row _ _ _ (show 114 ≠ 113 by decide)]
      exact m_pcp_at n (by omega)
theorem m_pcp_x {p x : Nat} : ∀ n, ¬ (8 * p ≤ x ∧ x < 8 * p + n) → m_pcp M p n 113 x = M 113 x ∧ m_pcp M p n 114 x = M 114 x
  | 0, _ => ⟨rfl, rfl⟩
  | n + 1, h => by
    unfold m_pcp
    rw [wd_up_row _ _ _ (show 113 ≠ 114 by decide), wd_up_ne _ _ (Or.inr (by omega)), wd_up_ne _ _ (Or.inr (by omega)), wd_up_row _ _ _ (show 114 ≠ 113 by decide)]
    exact m_pcp_x n (by omega)
/-- a path read -/
theorem v_pa.ptf (h : v_pa I P M g) (hk : k_ok T I P g k) (hb : 0 ≤ (M 102 22).toInt ∧ (M 102 22).toInt ≤ 100) (hI : I' 0 11 = I 0 11) : v_pa I' P (m_p2 M) g := by
  obtain ⟨r1, r2⟩ := m_p2_r hb
  obtain ⟨h1, h2, h3⟩ := h
  have e : ∀ a, 113 ≤ a → a ≤ 119 → m_p2 M a = M a := fun a a1 a2 => r1 a (by omega) (by omega) (by omega)
  refine ⟨h1.fr hk.2.2.2.2.1 c_ofr.rf (fun q _ => rfl) (fun i _ => by rw [e 113 (by decide) (by decide)]) (fun i _ => by rw [e 114 (by decide) (by decide)]) (fun i _ => by rw [e 115 (by decide) (by decide)]), by rw [hI, r2]; exact h2, fun q => ?_⟩
  rw [hI] at q
  exact (h3 q).fr (hk.2.2.2.2.2.2 q).2 c_ofr.rf (fun q _ => rfl) (fun i _ => by rw [e 117 (by decide) (by decide)]) (fun i _ => by rw [e 118 (by decide) (by decide)]) (fun i _ => by rw [e 119 (by decide) (by decide)])
theorem v_pa.pth (h : v_pa I P M g) (hk : k_ok T I P g k) (ht : h_tp I M) (hb : 0 ≤ (I 1 1).toInt ∧ (I 1 1).toInt ≤ 100) {p : Nat} (hp : p < 8) (hu : (m_p2 M 102 24).toInt = -1) (hI : I' 0 11 = I 0 11) : v_pa I' (wd_up P 8 p (some k)) (m_p3 M p) (c_mkr g k (r_len I) (r_who I)) := by
  have hb2 : 0 ≤ (M 102 22).toInt ∧ (M 102 22).toInt ≤ 100 := by rw [← ht.1]; exact hb
  obtain ⟨r1, r2⟩ := m_p2_r hb2
  obtain ⟨w1, w2⟩ := h_who ht hb
  have hu1 : ((m_p1 M).1 102 24).toInt = -1 := by
    unfold m_p2 at hu
    rw [wd_up_ne _ _ (by omega)] at hu
    exact hu
  obtain ⟨w3, w4⟩ := w2 hu1
  have h8 : r_len I ≤ 8 := by have := r_loop_le 8 (r_new I) 0; unfold r_len; omega
  obtain ⟨-, c1, c2, c3⟩ := c_mkr_wf (g := g) (I := r_who I) hk.2.1 h8
  have e13 : ∀ x, m_p3 M p 113 x = m_pcp (m_p2 M) p (m_p1 M).2 113 x := fun x => by unfold m_p3; rw [wd_up_row _ _ _ (by decide)]
  have e14 : ∀ x, m_p3 M p 114 x = m_pcp (m_p2 M) p (m_p1 M).2 114 x := fun x => by unfold m_p3; rw [wd_up_row _ _ _ (by decide)]
  have er : ∀ a, a ≠ 113 → a ≠ 114 → a ≠ 115 → m_p3 M p a = m_p2 M a := fun a a1 a2 a3 => by unfold m_p3; rw [wd_up_row _ _ _ a3, m_pcp_row a1 a2]
  have e21 : ∀ i, m_p2 M 121 i = (m_p1 M).1 121 i ∧ m_p2 M 122 i = (m_p1 M).1 122 i := fun i => by
    unfold m_p2
    rw [wd_up_row _ _ _ (by decide), wd_up_row _ _ _ (by decide)]
    exact ⟨rfl, rfl⟩
  refine h.st hk c_mkr_of hp ⟨?_, by rw [c1]; exact h8, fun i hi => ?_⟩ hI (by rw [er 102 (by decide) (by decide) (by decide)]; exact r2) (fun q i hq hne hi => ?_) (fun q hq => ?_) (fun a a1 a2 => by rw [er a (by omega) (by omega) (by omega)]; exact r1 a (by omega) (by omega) (by omega))
  · rw [c1]
    unfold m_p3
    rw [wd_up_self, w3, ab_tI (by omega) (by omega)]
  · rw [c1] at hi
    obtain ⟨a1, a2⟩ := m_pcp_at (M := m_p2 M) (p := p) (i := i) (m_p1 M).2 (by omega)
    obtain ⟨b1, b2⟩ := w4 i hi
    rw [c2, c3, e13, e14, a1, a2, (e21 i).1, (e21 i).2]
    unfold c_rwi
    rw [if_pos hi, if_pos hi]
    exact ⟨b1, b2⟩
  · rw [e13, e14]
    obtain ⟨a1, a2⟩ := m_pcp_x (M := m_p2 M) (p := p) (x := 8 * q + i) (m_p1 M).2 (by omega)
    rw [a1, a2, r1 113 (by decide) (by decide) (by decide), r1 114 (by decide) (by decide) (by decide)]
    exact ⟨rfl, rfl⟩
  · unfold m_p3
    rw [wd_up_ne _ _ (Or.inr hq), m_pcp_row (by decide) (by decide), r1 115 (by decide) (by decide) (by decide)]
theorem m_joins_at {p o c n : Nat} (hp : p < 8) (ho : o < 8) (hcn : c + n ≤ 8) (hpo : o = p → n ≤ c) : ∀ j, j ≤ n → (∀ x, m_joins M p o c j 113 x = if 8 * p + c ≤ x ∧ x < 8 * p + c + j then M 113 (8 * o + (x - (8 * p + c))) else M 113 x) ∧ (∀ x, m_joins M p o c j 114 x = if 8 * p + c ≤ x ∧ x < 8 * p + c + j then M 114 (8 * o + (x - (8 * p + c))) else M 114 x) ∧ ∀ x, x ≠ p → m_joins M p o c j 115 x = M 115 x
  | 0, _ => ⟨fun x => by rw [if_neg (by omega)]; rfl, fun x => by rw [if_neg (by omega)]; rfl, fun _ _ => rfl⟩
  | j + 1, hj => by
    obtain ⟨i1, i2, i3⟩ := m_joins_at hp ho hcn hpo j (by omega)
    have hne : ¬ (8 * p + c ≤ 8 * o + j ∧ 8 * o + j < 8 * p + c + j) := by
      by_cases e : o = p
      · have := hpo e; omega
      · omega
    have s1 : m_joins M p o c j 113 (8 * o + j) = M 113 (8 * o + j) := by rw [i1, if_neg hne]
    have s2 : m_joins M p o c j 114 (8 * o + j) = M 114 (8 * o + j) := by rw [i2, if_neg hne]
    refine ⟨fun x => ?_, fun x => ?_, fun x hx => ?_⟩
    · unfold m_joins
      rw [s1, s2, wd_up_row _ _ _ (show 113 ≠ 115 by decide), wd_up_row _ _ _ (show 113 ≠ 114 by decide)]
      by_cases e : x = 8 * p + (c + j)
      · subst e
        rw [wd_up_self, if_pos (by omega)]
        congr 1
        omega
      · rw [wd_up_ne _ _ (Or.inr e), i1]
        by_cases e2 : 8 * p + c ≤ x ∧ x < 8 * p + c + j
        · rw [if_pos e2, if_pos (by omega)]
        · rw [if_neg e2, if_neg (by omega)]
    · unfold m_joins
      rw [s1, s2, wd_up_row _ _ _ (show 114 ≠ 115 by decide)]
      by_cases e : x = 8 * p + (c + j)
      · subst e
        rw [wd_up_self, if_pos (by omega)]
        congr 1
        omega
      · rw [wd_up_ne _ _ (Or.inr e), wd_up_row _ _ _ (show 114 ≠ 113 by decide), i2]
        by_cases e2 : 8 * p + c ≤ x ∧ x < 8 * p + c + j
        · rw [if_pos e2, if_pos (by omega)]
        · rw [if_neg e2, if_neg (by omega)]
    · unfold m_joins
      rw [wd_up_ne _ _ (Or.inr hx), wd_up_row _ _ _ (show 115 ≠ 114 by decide), wd_up_row _ _ _ (show 115 ≠ 113 by decide)]
      exact i3 x hx
/-- two paths joined -/
theorem v_pa.jn (h : v_pa I P M g) (hk : k_ok T I P g k) {p o a b : Nat} (hp : p < 8) (ho : o < 8) (ha : P 8 p = some a) (hb : P 8 o = some b) (h8 : p_n g a + p_n g b ≤ 8) : v_pa I (wd_up P 8 p (some (k + 2))) (m_joins M p o (p_n g a) (p_n g b)) (c_jng g k a b) := by
  obtain ⟨a', ha', hpa⟩ := h.1 p hp
  rw [ha] at ha'
  cases ha'
  obtain ⟨b', hb', hpb⟩ := h.1 o ho
  rw [hb] at hb'
  cases hb'
  have hpo : o = p → p_n g b ≤ p_n g a := fun e => by
    subst e
    rw [ha] at hb
    cases hb
    exact Nat.le_refl _
  have hn : M 115 p = ab_ii (p_n g a : Int) := by rw [hpa.1]; exact (ab_ii_toInt _).symm
  obtain ⟨j1, j2, j3⟩ := m_joins_at (M := M) hp ho h8 hpo (p_n g b) (Nat.le_refl _)
  obtain ⟨-, c1, c2, c3⟩ := c_mkp_wf (g := g) (k := k) (f1 := c_rwi (c_jn (p_sg g a) (p_sg g b) (p_n g a)) (p_n g a + p_n g b)) (f2 := c_rwi (c_jn (p_wd g a) (p_wd g b) (p_n g a)) (p_n g a + p_n g b)) hk.2.1 h8
  change p_n (c_jng g k a b) (k + 2) = _ at c1
  change ∀ i, p_sg (c_jng g k a b) (k + 2) i = _ at c2
  change ∀ i, p_wd (c_jng g k a b) (k + 2) i = _ at c3
  refine v_pa.st (g' := c_jng g k a b) h hk c_mkp_of hp ⟨?_, by rw [c1]; exact h8, fun i hi => ?_⟩ rfl (by rw [m_joins_row (by decide) (by decide) (by decide)]) (fun q i hq hne hi => ?_) (fun q hq => j3 q hq) (fun x x1 x2 => m_joins_row (by omega) (by omega) (by omega) _)
  · rw [c1, m_joins_n hn, ab_tI (by omega) (by omega)]
    omega
  · rw [c1] at hi
    rw [c2, c3, j1, j2]
    unfold c_rwi c_jn
    rw [if_pos hi, if_pos hi]
    by_cases e : i < p_n g a
    · rw [if_pos e, if_pos e, if_neg (by omega), if_neg (by omega)]
      exact hpa.2.2 i e
    · rw [if_neg e, if_neg e, if_pos (by omega), if_pos (by omega)]
      have := hpb.2.2 (i - p_n g a) (by omega)
      rw [show 8 * p + i - (8 * p + p_n g a) = i - p_n g a by omega]
      exact this
  · rw [j1, j2, if_neg (by omega), if_neg (by omega)]
    exact ⟨rfl, rfl⟩
end
section
variable {T : Nat → Prop} {I I' : wd_I} {P P' : wd_P} {M M' : wd_I} {g g' : Nat → ab_C} {k : Nat}
theorem v_pa.im (h : v_pa I P M g) (hk : k_ok T I P g k) : v_pa (c_imI I) (c_imP P) (m_image M) g := by
  obtain ⟨h1, h2, h3⟩ := h
  have er : ∀ a j, a ≠ 102 → a ≠ 116 → a ≠ 117 → a ≠ 118 → a ≠ 119 → m_image M a j = M a j := fun a j a1 a2 a3 a4 a5 => by
    unfold m_image
    rw [wd_up_row _ _ _ a1, m_cp_ne a5, m_cq_ne ⟨a3, a4⟩, m_cp_ne a2]
  have e20 : m_image M 102 20 = ab_ii 1 := wd_up_self _ _ _ _
  have eI : c_imI I 0 11 = ab_ii 1 := wd_up_self _ _ _ _
  have e17 : ∀ i, i < 64 → m_image M 117 i = M 113 i := fun i hi => by
    unfold m_image
    rw [wd_up_row _ _ _ (by decide), m_cp_ne (by decide), m_cq_at (by decide), if_pos hi, m_cp_ne (by decide)]
  have e18 : ∀ i, i < 64 → m_image M 118 i = M 114 i := fun i hi => by
    unfold m_image
    rw [wd_up_row _ _ _ (by decide), m_cp_ne (by decide), m_cq_bt (by decide), if_pos hi, m_cp_ne (by decide)]
  have e19 : ∀ i, i < 8 → m_image M 119 i = M 115 i := fun i hi => by
    unfold m_image
    rw [wd_up_row _ _ _ (by decide), m_cp_at, if_pos hi, m_cq_ne ⟨by decide, by decide⟩, m_cp_ne (by decide)]
  refine ⟨h1.fr hk.2.2.2.2.1 c_ofr.rf (fun q _ => by unfold c_imP; rw [c_iP_ne (by omega), c_iT_ne (by omega)]) (fun i _ => er 113 i (by decide) (by decide) (by decide) (by decide) (by decide)) (fun i _ => er 114 i (by decide) (by decide) (by decide) (by decide) (by decide)) (fun i _ => er 115 i (by decide) (by decide) (by decide) (by decide) (by decide)), by rw [e20, eI], fun _ => h1.fr hk.2.2.2.2.1 c_ofr.rf (fun q hq => by unfold c_imP; rw [c_iP_at 8 hq, c_iT_ne (by omega)]) e17 e18 e19⟩
theorem v_pa.bk (h : v_pa I P M g) (hk : k_ok T I P g k) (hf : ¬ (I 0 11).toInt = 0) : v_pa (c_bI I 12) (c_baP P) (m_back M) g := by
  obtain ⟨h1, h2, h3⟩ := h
  have er : ∀ a j, a ≠ 110 → a ≠ 112 → a ≠ 113 → a ≠ 114 → a ≠ 115 → m_back M a j = M a j := fun a j a1 a2 a3 a4 a5 => by
    unfold m_back
    rw [m_cp_ne a5, m_cq_ne ⟨a3, a4⟩, m_cz_ne ⟨a1, a2⟩]
  have e13 : ∀ i, i < 64 → m_back M 113 i = M 117 i := fun i hi => by
    unfold m_back
    rw [m_cp_ne (by decide), m_cq_at (by decide), if_pos hi, m_cz_ne ⟨by decide, by decide⟩]
  have e14 : ∀ i, i < 64 → m_back M 114 i = M 118 i := fun i hi => by
    unfold m_back
    rw [m_cp_ne (by decide), m_cq_bt (by decide), if_pos hi, m_cz_ne ⟨by decide, by decide⟩]
  have e15 : ∀ i, i < 8 → m_back M 115 i = M 119 i := fun i hi => by
    unfold m_back
    rw [m_cp_at, if_pos hi, m_cq_ne ⟨by decide, by decide⟩, m_cz_ne ⟨by decide, by decide⟩]
  have eI : c_bI I 12 0 11 = I 0 11 := by rw [c_bI_ne (fun j hj => by omega) 12 (by omega)]
  have h3' := h3 hf
  have hw := (hk.2.2.2.2.2.2 hf).2
  refine ⟨h3'.fr hw c_ofr.rf (fun q hq => by unfold c_baP; rw [c_bP_at 8 hq, c_bT_ne (fun j hj => by omega) 12 (by omega)]) e13 e14 e15, by rw [eI, er 102 20 (by decide) (by decide) (by decide) (by decide) (by decide)]; exact h2, fun _ => h3'.fr hw c_ofr.rf (fun q hq => by unfold c_baP; rw [c_bP_ne (by omega), c_bT_ne (fun j hj => by omega) 12 (by omega)]) (fun i _ => er 117 i (by decide) (by decide) (by decide) (by decide) (by decide)) (fun i _ => er 118 i (by decide) (by decide) (by decide) (by decide) (by decide)) (fun i _ => er 119 i (by decide) (by decide) (by decide) (by decide) (by decide))⟩
end
end
section
/-! ===== both objects: things made alike (own text) ===== -/
/-- paired, with bounds of sizes and heights -/
def h_k (F : Nat → Int32 → Prop) (T : Nat → Prop) (g : Nat → ab_C) (M : wd_I) (n : Int) : Prop := h_ok F T g M n ∧ ∀ a t, F a t → c_sz g a ≤ 12 ∧ 0 ≤ (M 107 t.toInt.toNat).toInt ∧ (M 107 t.toInt.toNat).toInt ≤ 13 ∧ ((M 103 t.toInt.toNat).toInt = 3 → M 104 t.toInt.toNat = ab_ii 0)
/-- one thing looks the same in two heaps -/
def h_sm (g g' : Nat → ab_C) (a : Nat) : Prop := c_sz g' a = c_sz g a ∧ (∀ j, c_pt g' a j = c_pt g a j) ∧ (∀ j, c_ky g' a j = c_ky g a j) ∧ (∀ j, c_i g' a j = c_i g a j)
theorem h_sm_wf {T : Nat → Prop} {g g' : Nat → ab_C} {k' a : Nat} (h : c_wf T g' k' a ∧ c_sz g' a = c_sz g a ∧ (∀ j, c_pt g' a j = c_pt g a j) ∧ (∀ j, c_ky g' a j = c_ky g a j) ∧ (∀ j, c_i g' a j = c_i g a j) ∧ c_ka g' a = c_ka g a ∧ c_pa g' a = c_pa g a) : h_sm g g' a := ⟨h.2.1, h.2.2.1, h.2.2.2.1, h.2.2.2.2.1⟩
section
variable {F F' : Nat → Int32 → Prop} {T T' : Nat → Prop} {g g' : Nat → ab_C} {M N : wd_I} {n n' : Int} {k : Nat}
theorem h_k.mv (h : h_k F T g M n) (hT : ∀ b, T b → T' b) (hg : ∀ a, T a → h_sm g g' a) (hs : ∀ b u, F b u → m_ra M N u.toInt.toNat) (hn : n ≤ n') : h_k F T' g' N n' := by
  obtain ⟨⟨h1, h2, h3⟩, h4⟩ := h
  refine ⟨⟨fun a t ha => ?_, h2, h3⟩, fun a t ha => ?_⟩
  · obtain ⟨⟨b1, b2, b3⟩, p0, p1, p2, p3, p4, p5⟩ := h1 a t ha
    obtain ⟨g1, g2, g3, g4⟩ := hg a b1
    obtain ⟨s3, s4, s5, s6, s7, s8⟩ := hs a t ha
    have s12 := (h4 a t ha).1
    refine ⟨⟨hT a b1, b2, by omega⟩, by rw [g4, s3]; exact p0, by rw [g4, s4]; exact p1, by rw [g4, s6]; exact p2, by rw [g4, s7]; exact p3, by rw [g1, s5]; exact p4, fun j hj => ?_⟩
    rw [g1] at hj
    obtain ⟨q8, q9⟩ := s8 j (by omega)
    rw [g2, g3, q8, q9]
    exact p5 j hj
  · obtain ⟨⟨b1, b2, b3⟩, -⟩ := h1 a t ha
    obtain ⟨g1, -⟩ := hg a b1
    obtain ⟨s3, s4, -, -, s7, -⟩ := hs a t ha
    rw [g1, s7, s3, s4]
    exact h4 a t ha
theorem h_k.in (h : h_k F T g M n) {a : Nat} {t : Int32} (ha : F a t) : T a ∧ 0 ≤ t.toInt ∧ t.toInt < n := (h.1.1 a t ha).1
theorem h_k.sb (h : h_k F T g M n) {n0 : Int} (hs : m_sb n0 M N) (hn : n ≤ n0) : ∀ b u, F b u → m_ra M N u.toInt.toNat := fun b u q => by
  have := h.in q
  exact hs.ra (by omega)
theorem c_hs_ofr {S S' : c_St} (h : c_hs T S T' S') : c_ofr S.2.2.1 S.2.1 S'.2.1 := c_st.ofr (S0 := (c_J, S.2)) (S := (c_J, S'.2)) h
theorem c_hs_kk {S S' : c_St} (h : c_hs T S T' S') : S.2.2.1 ≤ S'.2.2.1 := c_st.kk (S0 := (c_J, S.2)) (S := (c_J, S'.2)) h
theorem c_hs_wf {S S' : c_St} (h : c_hs T S T' S') : c_W T' S'.2.1 S'.2.2.1 := c_st.wf (S0 := (c_J, S.2)) (S := (c_J, S'.2)) h
theorem c_hs_nq {S S' : c_St} (h : c_hs T S T' S') : ∀ q, q < S.2.2.1 → c_nq T S.2.1 q → c_nq T' S'.2.1 q := c_st.nq (S0 := (c_J, S.2)) (S := (c_J, S'.2)) h
theorem c_hs_tr {T2 : Nat → Prop} {S S' S2 : c_St} (h : c_hs T S T' S') (h' : c_hs T' S' T2 S2) : c_hs T S T2 S2 := c_st.tr (S0 := (c_J, S.2)) (S1 := (c_J, S'.2)) (S2 := (c_J, S2.2)) h h'
theorem h_sm_st {S S' : c_St} (hW : c_W T S.2.1 S.2.2.1) (hc : c_hs T S T' S') : ∀ a, T a → h_sm S.2.1 S'.2.1 a := fun a ha => h_sm_wf (c_wf_xt (hW a ha) (c_hs_ofr hc) (c_hs_kk hc))
theorem h_sm_pu {x m : Nat} {fk : Nat → Int32} {fp : Nat → Option Nat} (hW : c_W T g k) (hn : c_nq3 T g x) : ∀ a, T a → h_sm g (c_pu g x fk fp m) a := fun a ha => by
  obtain ⟨n0, n1, n2⟩ := hn
  obtain ⟨a0, a1, a2⟩ := n0 a ha
  obtain ⟨b0, b1, b2⟩ := n1 a ha
  obtain ⟨c0, c1, c2⟩ := n2 a ha
  have e : ∀ q, q ≠ x → q ≠ x + 1 → q ≠ x + 2 → c_pu g x fk fp m q = g q := fun q q0 q1 q2 => by
    unfold c_pu
    rw [ab_up_ne _ _ q2, ab_up_ne _ _ q1, ab_up_ne _ _ q0]
  exact h_sm_wf (c_wf_eq (hW a ha) (e _ a0 b0 c0) (e _ a1 b1 c1) (e _ a2 b2 c2) (Nat.le_refl _))
/-- one pair more -/
def h_and (F : Nat → Int32 → Prop) (a : Nat) (t : Int32) : Nat → Int32 → Prop := fun b u => F b u ∨ (b = a ∧ u = t)
theorem h_k.add (h : h_k F T g M n) {a : Nat} {t : Int32} (ha : T a) (ht : 0 ≤ t.toInt ∧ t.toInt < n) (hr : h_pr F g M a t) (hs : c_sz g a ≤ 12) (hh : 0 ≤ (M 107 t.toInt.toNat).toInt ∧ (M 107 t.toInt.toNat).toInt ≤ 13) (hna : ∀ u, ¬ F a u) (hnt : ∀ b, ¬ F b t) (hz : (M 103 t.toInt.toNat).toInt = 3 → M 104 t.toInt.toNat = ab_ii 0) : h_k (h_and F a t) T g M n := by
  obtain ⟨⟨h1, h2, h3⟩, h4⟩ := h
  have hm : ∀ b u, h_pr F g M b u → h_pr (h_and F a t) g M b u := fun b u q => ⟨q.1, q.2.1, q.2.2.1, q.2.2.2.1, q.2.2.2.2.1, fun j hj => ⟨(q.2.2.2.2.2 j hj).1, Or.inl (q.2.2.2.2.2 j hj).2⟩⟩
  refine ⟨⟨fun b u q => ?_, fun b u u' q q' => ?_, fun b b' u q q' => ?_⟩, fun b u q => ?_⟩
  · rcases q with q | ⟨q1, q2⟩
    · exact ⟨(h1 b u q).1, hm _ _ (h1 b u q).2⟩
    · rw [q1, q2]; exact ⟨⟨ha, ht⟩, hm _ _ hr⟩
  · rcases q with q | ⟨q1, q2⟩ <;> rcases q' with q' | ⟨q1', q2'⟩
    · exact h2 b u u' q q'
    · rw [q1'] at q; exact absurd q (hna u)
    · rw [q1] at q'; exact absurd q' (hna u')
    · rw [q2, q2']
  · rcases q with q | ⟨q1, q2⟩ <;> rcases q' with q' | ⟨q1', q2'⟩
    · exact h3 b b' u q q'
    · rw [q2'] at q; exact absurd q (hnt b)
    · rw [q2] at q'; exact absurd q' (hnt b')
    · rw [q1, q1']
  · rcases q with q | ⟨q1, q2⟩
    · exact h4 b u q
    · rw [q1, q2]; exact ⟨hs, hh.1, hh.2, hz⟩
/-- how a thing made looks -/
theorem h_vw {a ka pa nk np : Nat} {kd wo nd ht : Int32} {fk : Nat → Int32} {fp : Nat → Option Nat} (h1 : g a = ab_ob 9 [.inl kd, .inl wo, .inl nd, .inl ht, wd_v ka, wd_v pa]) (h2 : g ka = ab_ia 0 nk fk) (h3 : g pa = ab_ra 4 np fp) : (c_i g a 0 = kd ∧ c_i g a 1 = wo ∧ c_i g a 2 = nd ∧ c_i g a 3 = ht) ∧ c_sz g a = np ∧ (∀ j, c_pt g a j = (fp j).getD 0) ∧ ∀ j, c_ky g a j = if j < nk then fk j else ab_ii 0 := by
  have e4 : c_ka g a = ka := by unfold c_ka; rw [h1]; rfl
  have e5 : c_pa g a = pa := by unfold c_pa; rw [h1]; rfl
  refine ⟨⟨by unfold c_i; rw [h1]; rfl, by unfold c_i; rw [h1]; rfl, by unfold c_i; rw [h1]; rfl, by unfold c_i; rw [h1]; rfl⟩, by unfold c_sz; rw [e5, h3]; rfl, fun j => by unfold c_pt; rw [e5, h3]; rfl, fun j => by unfold c_ky; rw [e4, h2]; rfl⟩
theorem h_nods {fp : Nat → Option Nat} {t : Int32} : ∀ s, (∀ j, j < s → c_i g ((fp j).getD 0) 2 = M 106 (M 108 (12 * t.toInt.toNat + j)).toInt.toNat) → c_nods g fp s = m_many M t s
  | 0, _ => rfl
  | s + 1, h => by
    unfold c_nods m_many
    rw [h_nods s (fun j hj => h j (by omega)), h s (by omega)]
theorem h_hts {fp : Nat → Option Nat} {t : Int32} {hb : Int} (hb0 : 0 ≤ hb ∧ hb ≤ 13) : ∀ s, (∀ j, j < s → c_i g ((fp j).getD 0) 3 = M 107 (M 108 (12 * t.toInt.toNat + j)).toInt.toNat ∧ 0 ≤ (M 107 (M 108 (12 * t.toInt.toNat + j)).toInt.toNat).toInt ∧ (M 107 (M 108 (12 * t.toInt.toNat + j)).toInt.toNat).toInt ≤ hb) → (c_hts g fp s).toInt + 1 = (m_high M t s).toInt ∧ -1 ≤ (c_hts g fp s).toInt ∧ (c_hts g fp s).toInt ≤ hb
  | 0, _ => ⟨by show (ab_ii (-1)).toInt + 1 = (ab_ii 0).toInt; decide, by show -1 ≤ (ab_ii (-1)).toInt; decide, by show (ab_ii (-1)).toInt ≤ hb; rw [show (ab_ii (-1)).toInt = -1 from rfl]; omega⟩
  | s + 1, h => by
    obtain ⟨i1, i2, i3⟩ := h_hts hb0 s (fun j hj => h j (by omega))
    obtain ⟨j1, j2, j3⟩ := h s (by omega)
    unfold c_hts m_high
    rw [j1]
    have e := ab_tI (z := (M 107 (M 108 (12 * t.toInt.toNat + s)).toInt.toNat).toInt + 1) (by omega) (by omega)
    by_cases c : (c_hts g fp s).toInt < (M 107 (M 108 (12 * t.toInt.toNat + s)).toInt.toNat).toInt
    · rw [m_mx_t c, m_mx_t (by omega), e]
      omega
    · rw [m_mx_f c, m_mx_f (by omega)]
      omega
/-- a thing in the making -/
def h_ip (F : Nat → Int32 → Prop) (M : wd_I) (t : Int32) (s : Nat) (fk : Nat → Int32) (fp : Nat → Option Nat) (hb : Int) : Prop := (M 105 t.toInt.toNat).toInt = (s : Int) ∧ ∀ j, j < s → ∃ b, fp j = some b ∧ F b (M 108 (12 * t.toInt.toNat + j)) ∧ M 109 (12 * t.toInt.toNat + j) = fk j ∧ (M 107 (M 108 (12 * t.toInt.toNat + j)).toInt.toNat).toInt ≤ hb
theorem h_ip.mv {t : Int32} {s : Nat} {fk : Nat → Int32} {fp : Nat → Option Nat} {hb : Int} (h : h_ip F M t s fk fp hb) (h12 : s ≤ 12) (hF : ∀ b u, F b u → F' b u) (ht : m_ra M N t.toInt.toNat) (hs : ∀ b u, F b u → m_ra M N u.toInt.toNat) : h_ip F' N t s fk fp hb := by
  obtain ⟨h1, h2⟩ := h
  obtain ⟨-, -, e5, -, -, e8⟩ := ht
  refine ⟨by rw [e5]; exact h1, fun j hj => ?_⟩
  obtain ⟨b, b1, b2, b3, b4⟩ := h2 j hj
  obtain ⟨q8, q9⟩ := e8 j (by omega)
  obtain ⟨-, -, -, -, s7, -⟩ := hs b _ b2
  exact ⟨b, b1, by rw [q8]; exact hF _ _ b2, by rw [q9]; exact b3, by rw [q8, s7]; exact b4⟩
/-- it is ended, and the class's object made -/
theorem h_fin (h : h_k F T g M n) {t : Int32} {s a ka pa nk : Nat} {fk fk2 : Nat → Int32} {fp fp2 : Nat → Option Nat} {kd wo : Int32} {hb : Int} {g2 : Nat → ab_C} (hip : h_ip F M t s fk fp hb) (h12 : s ≤ 12) (ht : 0 ≤ t.toInt ∧ t.toInt < n) (hnt : ∀ b, ¬ F b t) (hna : ∀ u, ¬ F a u) (hb0 : 0 ≤ hb ∧ hb ≤ 12) (hT : ∀ b, T b → T' b) (hTa : T' a) (hsm : ∀ b, T b → h_sm g g' b) (hv : g' a = ab_ob 9 [.inl kd, .inl wo, .inl (c_nods g2 fp2 s), .inl (ab_ii ((c_hts g2 fp2 s).toInt + 1)), wd_v ka, wd_v pa]) (h2 : g' ka = ab_ia 0 nk fk2) (h3 : g' pa = ab_ra 4 s fp2) (hfp : ∀ j, j < s → fp2 j = fp j) (hfk : ∀ j, j < s → (if j < nk then fk2 j else ab_ii 0) = fk j) (hg2 : ∀ b, T b → ∀ j, c_i g2 b j = c_i g b j) (hkd : M 103 t.toInt.toNat = kd) (hwo : M 104 t.toInt.toNat = wo) (hz : kd.toInt = 3 → wo = ab_ii 0) : h_k (h_and F a t) T' g' (m_ends M t s) n ∧ (m_ends M t s 107 t.toInt.toNat).toInt ≤ hb + 1 := by
  have er : ∀ x, x ≠ 106 → x ≠ 107 → m_ends M t s x = M x := fun x h1 h2 => m_ends_row h1 h2
  have e6 : m_ends M t s 106 t.toInt.toNat = m_many M t s := by unfold m_ends; rw [wd_up_row _ _ _ (by decide), wd_up_self]
  have e7 : m_ends M t s 107 t.toInt.toNat = m_high M t s := by unfold m_ends; rw [wd_up_self]
  have hp : ∀ j, j < s → ∃ b, fp2 j = some b ∧ F b (M 108 (12 * t.toInt.toNat + j)) ∧ M 109 (12 * t.toInt.toNat + j) = fk j ∧ (M 107 (M 108 (12 * t.toInt.toNat + j)).toInt.toNat).toInt ≤ hb := fun j hj => by
    rw [hfp j hj]
    exact hip.2 j hj
  have hci : ∀ j, j < s → ∀ i, c_i g2 ((fp2 j).getD 0) i = c_i g ((fp2 j).getD 0) i ∧ F ((fp2 j).getD 0) (M 108 (12 * t.toInt.toNat + j)) := fun j hj i => by
    obtain ⟨b, b1, b2, -⟩ := hp j hj
    rw [b1]
    exact ⟨hg2 b (h.in b2).1 i, b2⟩
  have hn := h_nods (g := g2) (M := M) (fp := fp2) (t := t) s (fun j hj => by
    obtain ⟨c1, c2⟩ := hci j hj 2
    rw [c1]
    exact (h.1.1 _ _ c2).2.2.2.1)
  have hh := h_hts (g := g2) (M := M) (fp := fp2) (t := t) (hb := hb) ⟨hb0.1, by omega⟩ s (fun j hj => by
    obtain ⟨c1, c2⟩ := hci j hj 3
    obtain ⟨b, b1, b2, b3, b4⟩ := hp j hj
    rw [c1]
    exact ⟨(h.1.1 _ _ c2).2.2.2.2.1, (h.2 _ _ c2).2.1, b4⟩)
  obtain ⟨v0, v1, v2, v3⟩ := h_vw hv h2 h3
  have hM := h.mv hT hsm (N := m_ends M t s) (n' := n) (fun b u q => m_ends_ra (fun e => by
    have e1 := (h.in q).2.1
    have e2 : u = t := Int32.toInt_inj.mp (by omega)
    rw [e2] at q
    exact hnt b q)) (Int.le_refl _)
  have h7 : 0 ≤ (m_ends M t s 107 t.toInt.toNat).toInt ∧ (m_ends M t s 107 t.toInt.toNat).toInt ≤ hb + 1 := by rw [e7]; omega
  refine ⟨hM.add hTa ht ⟨?_, ?_, ?_, ?_, ?_, fun j hj => ?_⟩ (by rw [v1]; exact h12) ⟨h7.1, by omega⟩ hna hnt (by rw [er 103 (by decide) (by decide), er 104 (by decide) (by decide), hkd, hwo]; exact hz), h7.2⟩
  · rw [v0.1, er 103 (by decide) (by decide)]; exact hkd.symm
  · rw [v0.2.1, er 104 (by decide) (by decide)]; exact hwo.symm
  · rw [v0.2.2.1, e6]; exact hn
  · rw [v0.2.2.2, e7, hh.1]; exact ab_ii_toInt _
  · rw [v1, er 105 (by decide) (by decide)]; exact hip.1.symm
  · rw [v1] at hj
    obtain ⟨b, b1, b2, b3, -⟩ := hp j hj
    rw [v2, v3, er 108 (by decide) (by decide), er 109 (by decide) (by decide), hfk j hj, b3, b1]
    exact ⟨rfl, b2⟩
end
end
section
/-! ===== both objects: a thing read, step by step (own text) ===== -/
theorem h_rd.cg {I M N : wd_I} (h : h_rd I M) (e : ∀ j, j = 22 ∨ j = 23 ∨ j = 24 → N 102 j = M 102 j) (e0 : N 120 = M 120) : h_rd I N := by
  obtain ⟨h1, h2, h3, h4, h5⟩ := h
  exact ⟨h1.fr (fun _ => ⟨rfl, rfl⟩) ⟨e 22 (by omega), e0⟩, h2, by unfold m_tp at *; rw [e 22 (by omega), e 23 (by omega)]; exact h3, by rw [e 24 (by omega)]; exact h4, by rw [e 24 (by omega), e 23 (by omega)]; exact h5⟩
/-- the result of a reading -/
def h_res (F : Nat → Int32 → Prop) (T : Nat → Prop) (S : c_St) (M : wd_I) (R : r_O) (N : wd_I × Int32) (f : Int) : Prop := h_rd R.2.1 N.1 ∧ (¬ (N.1 102 24).toInt = -1 → R.1 = none) ∧ ((N.1 102 24).toInt = -1 → ∃ (T' : Nat → Prop) (F' : Nat → Int32 → Prop) (a : Nat), R.1 = some a ∧ c_hs T S T' R.2 ∧ (∀ b u, F b u → F' b u) ∧ (∀ b u, F' b u → F b u ∨ (M 102 8).toInt ≤ u.toInt) ∧ h_k F' T' R.2.2.1 N.1 (N.1 102 8).toInt ∧ F' a N.2 ∧ (N.1 107 N.2.toInt.toNat).toInt ≤ f)
def h_G (G : c_St → r_O) (G' : wd_I → wd_I × Int32) (f : Int) : Prop := ∀ (F : Nat → Int32 → Prop) (T : Nat → Prop) (S : c_St) (M : wd_I), r_pr T S → m_rp M → h_rd S.1 M → (M 102 24).toInt = -1 → h_k F T S.2.1 M (M 102 8).toInt → h_res F T S M (G S) (G' M) f
/-- on the way: thing t in the making, s parts read -/
def h_at (F0 : Nat → Int32 → Prop) (T0 : Nat → Prop) (S0 : c_St) (M0 : wd_I) (t sort wo : Int32) (hb : Int) (F : Nat → Int32 → Prop) (T : Nat → Prop) (S : c_St) (M : wd_I) (s : Nat) (fk : Nat → Int32) (fp : Nat → Option Nat) : Prop := (m_rp M0 ∧ (M0 102 8).toInt ≤ t.toInt ∧ 0 ≤ t.toInt ∧ s ≤ 12 ∧ ∀ b u, F0 b u → u.toInt < t.toInt) ∧ m_pd M0 M t s ∧ (c_hs T0 S0 T S ∧ r_pr T S) ∧ (h_rd S.1 M ∧ (M 102 24).toInt = -1) ∧ ((∀ b u, F0 b u → F b u) ∧ ∀ b u, F b u → F0 b u ∨ t.toInt < u.toInt) ∧ h_k F T S.2.1 M (M 102 8).toInt ∧ h_ip F M t s fk fp hb ∧ M 103 t.toInt.toNat = sort ∧ M 104 t.toInt.toNat = wo
section
variable {F0 F : Nat → Int32 → Prop} {T0 T : Nat → Prop} {S0 S : c_St} {M0 M : wd_I} {t sort wo : Int32} {hb : Int} {s : Nat} {fk : Nat → Int32} {fp : Nat → Option Nat}
theorem h_at.nt (h : h_at F0 T0 S0 M0 t sort wo hb F T S M s fk fp) : ∀ b u, F b u → ¬ u.toInt = t.toInt := fun b u q e => by
  obtain ⟨⟨-, -, -, -, h0⟩, -, -, -, ⟨-, h1⟩, -⟩ := h
  rcases h1 b u q with q1 | q1
  · have := h0 b u q1; omega
  · omega
theorem h_sm.rf {g : Nat → ab_C} {a : Nat} : h_sm g g a := ⟨rfl, fun _ => rfl, fun _ => rfl, fun _ => rfl⟩
/-- something scanned -/
theorem h_at.sc (h : h_at F0 T0 S0 M0 t sort wo hb F T S M s fk fp) {I' N : wd_I} (hr : h_rd I' N) (hs : m_sc M N) (hf : (N 102 24).toInt = -1) : h_at F0 T0 S0 M0 t sort wo hb F T (I', S.2) N s fk fp := by
  obtain ⟨⟨a1, a2, a3, a4, a5⟩, b, ⟨c1, c2⟩, -, e, f, i, k1, k2⟩ := h
  have hsb := hs.rg.1.1
  have hra := f.sb hsb (Int.le_refl _)
  refine ⟨⟨a1, a2, a3, a4, a5⟩, m_pd_rg b a4 a3 hs.rg, ⟨c1, c2.1, c2.2.1, hr.2.1⟩, ⟨hr, hf⟩, e, f.mv (fun _ q => q) (fun _ _ => h_sm.rf) hra (by rw [hs.2.1 8 (by decide) (by decide)]; exact Int.le_refl _), i.mv a4 (fun _ _ q => q) (hsb.ra (by have := b.2.1; omega)) hra, by rw [hs.1 103 (by decide)]; exact k1, by rw [hs.1 104 (by decide)]; exact k2⟩
/-- a part added at the end -/
theorem h_at.adds (h : h_at F0 T0 S0 M0 t sort wo hb F T S M s fk fp) (h11 : s ≤ 11) {a : Nat} {u : Int32} (ha : F a u) (hh : (M 107 u.toInt.toNat).toInt ≤ hb) {fk' : Nat → Int32} {fp' : Nat → Option Nat} (hfk : ∀ j, j < s → fk' j = fk j) (hfk' : fk' s = ab_ii 0) (hfp : ∀ j, j < s → fp' j = fp j) (hfp' : fp' s = some a) : h_at F0 T0 S0 M0 t sort wo hb F T S (m_adds M t (ab_ii 0) u s) (s + 1) fk' fp' := by
  have hnt := h.nt
  obtain ⟨⟨a1, a2, a3, a4, a5⟩, b, c, ⟨d1, d2⟩, e, f, i, k1, k2⟩ := h
  have hu := f.in ha
  have hl := m_rp_lt (b.1.rp a1)
  have e2 : m_adds M t (ab_ii 0) u s 102 = M 102 := m_adds_102
  have er : ∀ x, x ≠ 105 → x ≠ 108 → x ≠ 109 → m_adds M t (ab_ii 0) u s x = M x := fun x q1 q2 q3 => by unfold m_adds; rw [wd_up_row _ _ _ q1, wd_up_row _ _ _ q3, wd_up_row _ _ _ q2]
  have hra : ∀ b v, F b v → m_ra M (m_adds M t (ab_ii 0) u s) v.toInt.toNat := fun b v q => m_adds_ra h11 (by have := hnt b v q; have := (f.in q).2.1; omega)
  refine ⟨⟨a1, a2, a3, by omega, a5⟩, m_pd_adds b a3 (by have := a1.2.1; omega) a2 h11 ⟨hu.2.1, by omega⟩, c, ⟨d1.cg (fun j _ => by rw [e2]) (er 120 (by decide) (by decide) (by decide)), by rw [e2]; exact d2⟩, e, f.mv (fun _ q => q) (fun _ _ => h_sm.rf) hra (by rw [e2]; exact Int.le_refl _), ⟨by rw [m_adds_sz, ab_tI (by omega) (by omega)]; omega, fun j hj => ?_⟩, by rw [er 103 (by decide) (by decide) (by decide)]; exact k1, by rw [er 104 (by decide) (by decide) (by decide)]; exact k2⟩
  by_cases ej : j = s
  · subst ej
    exact ⟨a, hfp', by rw [m_adds_pt]; exact ha, by rw [m_adds_ky, if_pos rfl]; exact hfk'.symm, by rw [m_adds_pt, er 107 (by decide) (by decide) (by decide)]; exact hh⟩
  · obtain ⟨b', b1, b2, b3, b4⟩ := i.2 j (by omega)
    exact ⟨b', by rw [hfp j (by omega)]; exact b1, by rw [m_adds_pn (by omega)]; exact b2, by rw [m_adds_ky, if_neg ej, hfk j (by omega)]; exact b3, by rw [m_adds_pn (by omega), er 107 (by decide) (by decide) (by decide)]; exact b4⟩
/-- a part read -/
theorem h_at.go (h : h_at F0 T0 S0 M0 t sort wo hb F T S M s fk fp) {G : c_St → r_O} {G' : wd_I → wd_I × Int32} (hG : h_G G G' hb) (hGr : m_rG G') : h_rd (G S).2.1 (G' M).1 ∧ m_rg M (G' M).1 ∧ (¬ ((G' M).1 102 24).toInt = -1 → (G S).1 = none) ∧ (((G' M).1 102 24).toInt = -1 → ∃ (T' : Nat → Prop) (F' : Nat → Int32 → Prop) (a : Nat), (G S).1 = some a ∧ h_at F0 T0 S0 M0 t sort wo hb F' T' (G S).2 (G' M).1 s fk fp ∧ F' a (G' M).2 ∧ ((G' M).1 107 (G' M).2.toInt.toNat).toInt ≤ hb ∧ c_hs T S T' (G S).2) := by
  obtain ⟨⟨a1, a2, a3, a4, a5⟩, b, ⟨c1, c2⟩, ⟨d1, d2⟩, ⟨e1, e2⟩, f, i, k1, k2⟩ := h
  have hp := b.1.rp a1
  obtain ⟨r1, r2, r3⟩ := hG F T S M c2 hp d1 d2 f
  have hrg := (hGr M hp).1
  refine ⟨r1, hrg, r2, fun q => ?_⟩
  obtain ⟨T', F', a, s1, s2, s3, s4, s5, s6, s7⟩ := r3 q
  have hsb := hrg.1.1
  have htl := b.2.1
  have hrt := hsb.ra (q := t.toInt.toNat) (by omega)
  refine ⟨T', F', a, s1, ⟨⟨a1, a2, a3, a4, a5⟩, m_pd_rg b a4 a3 hrg, ⟨c_hs_tr c1 s2, c_hs_wf s2, Nat.le_trans c2.2.1 (c_hs_kk s2), r1.2.1⟩, ⟨r1, q⟩, ⟨fun b u q => s3 b u (e1 b u q), fun b u q => ?_⟩, s5, i.mv a4 s3 hrt (f.sb hsb (Int.le_refl _)), by rw [hrt.1]; exact k1, by rw [hrt.2.1]; exact k2⟩, s6, s7, s2⟩
  rcases s4 b u q with q1 | q1
  · exact e2 b u q1
  · exact Or.inr (by omega)
/-- cells for gathered parts -/
theorem h_at.pu (h : h_at F0 T0 S0 M0 t sort wo hb F T S M s fk fp) {fk' : Nat → Int32} {fp' : Nat → Option Nat} {m z' : Nat} : h_at F0 T0 S0 M0 t sort wo hb F T (S.1, c_pu S.2.1 S.2.2.1 fk' fp' m, S.2.2.1 + 1 + 1 + 1, z') M s fk fp ∧ c_nq3 T (c_pu S.2.1 S.2.2.1 fk' fp' m) S.2.2.1 := by
  obtain ⟨a, b, ⟨c1, c2⟩, d, e, f, i, k⟩ := h
  have h1 := c_pu_st (fk := fk') (fp := fp') (n := m) (z' := z') (T0 := T0) (S0 := (c_J, S0.2)) (J := c_J) (g := S.2.1) (k := S.2.2.1) (z := S.2.2.2) (T := T) c1
  exact ⟨⟨a, b, ⟨h1, h1.wf, by have := c2.2.1; show 125 ≤ S.2.2.1 + 1 + 1 + 1; omega, c2.2.2⟩, d, e, f.mv (fun _ q => q) (h_sm_pu c2.1 (c_nq3_fr c2.1 (Nat.le_refl _))) (fun _ _ _ => m_ra.rf) (Int.le_refl _), i, k⟩, c_nq3_pu c2.1⟩
theorem h_at.rows (h : h_at F0 T0 S0 M0 t sort wo hb F T S M s fk fp) {x m : Nat} (hx : S0.2.2.1 ≤ x) (hn : c_nq3 T S.2.1 x) {fk' : Nat → Int32} {fp' : Nat → Option Nat} : h_at F0 T0 S0 M0 t sort wo hb F T (S.1, c_pu S.2.1 x fk' fp' m, S.2.2) M s fk fp ∧ c_nq3 T (c_pu S.2.1 x fk' fp' m) x := by
  obtain ⟨a, b, ⟨c1, c2⟩, d, e, f, i, k⟩ := h
  obtain ⟨h1, h2⟩ := c_pu_rows (fk := fk') (fp := fp') (n := m) (T0 := T0) (S0 := (c_J, S0.2)) (J := c_J) (g := S.2.1) (k := S.2.2.1) (z := S.2.2.2) (T := T) c1 hx hn
  exact ⟨⟨a, b, ⟨h1, h1.wf, c2.2⟩, d, e, f.mv (fun _ q => q) (h_sm_pu c2.1 hn) (fun _ _ _ => m_ra.rf) (Int.le_refl _), i, k⟩, h2⟩
theorem h_at.rT (h : h_at F0 T0 S0 M0 t sort wo hb F T S M s fk fp) : c_rT T s fp := fun j hj => by
  obtain ⟨a, b, c, d, e, f, i, k⟩ := h
  obtain ⟨b', b1, b2, -⟩ := i.2 j hj
  exact ⟨b', b1, (f.in b2).1⟩
/-- all parts are there -/
theorem h_at.tog (h : h_at F0 T0 S0 M0 t sort (ab_ii 0) hb F T S M s fk fp) (hb0 : 0 ≤ hb ∧ hb ≤ 12) (hky : ¬ sort.toInt = 3 → ∀ j, j < s → fk j = ab_ii 0) : h_res F0 T0 S0 M0 (r_tog s sort fk fp S) (m_ends M t s, t) (hb + 1) := by
  have hf := h.rT
  have hnt := h.nt
  obtain ⟨⟨a1, a2, a3, a4, a5⟩, b, ⟨c1, c2⟩, ⟨d1, d2⟩, ⟨e1, e2⟩, f, i, k1, k2⟩ := h
  obtain ⟨I, g, k, z⟩ := S
  have er : ∀ x, x ≠ 106 → x ≠ 107 → m_ends M t s x = M x := fun x h1 h2 => m_ends_row h1 h2
  have e102 := er 102 (by decide) (by decide)
  have hm : c_tm sort s ≤ 12 := by unfold c_tm; split <;> omega
  have h125 : 125 ≤ k := c2.2.1
  have hW : c_W T g k := c2.1
  have h3 := c_tog_st (m := c_tm sort s) (kd := sort) (fk := fk) (z' := z + s + c_tm sort s + 6) (T0 := T0) (S0 := (c_J, S0.2)) (J := c_J) (g := g) (k := k) (z := z) (T := T) c1 h125 (by omega) (by omega) hf
  have h3' := c_tog_st (m := c_tm sort s) (kd := sort) (fk := fk) (z' := z + s + c_tm sort s + 6) (T0 := T) (S0 := (c_J, g, k, z)) (J := c_J) (g := g) (k := k) (z := z) (T := T) (c_st.rf hW) h125 (by omega) (by omega) hf
  have hfin := h_fin (M := M) (g' := c_tog g k s (c_tm sort s) sort fk fp) (T' := fun b => T b ∨ b = k + 1 + 1) (a := k + 1 + 1) (ka := k + 1) (pa := k) (nk := c_tm sort s) (fk2 := c_rwi fk (c_tm sort s)) (fp2 := c_row fp s) (kd := sort) (wo := ab_ii 0) (g2 := c_tg2 g k s (c_tm sort s) fk fp) f i a4 ⟨a3, b.2.1⟩ (fun b q => hnt b t q rfl) (fun u q => by have := (hW _ (f.in q).1).1.2; omega) hb0 (fun _ q => Or.inl q) (Or.inr rfl) (fun b' hb' => h_sm_wf (c_wf_xt (hW b' hb') h3'.ofr h3'.kk)) (ab_up_self _ _ _) ((ab_up_ne _ _ (by omega)).trans (ab_up_self _ _ _)) ((ab_up_ne _ _ (by omega)).trans ((ab_up_ne _ _ (by omega)).trans (ab_up_self _ _ _))) (fun j hj => if_pos hj) (fun j hj => ?_) (fun b' hb' => (h_sm_wf (c_wf_xt (g' := c_tg2 g k s (c_tm sort s) fk fp) (k' := k) (hW b' hb') (c_ofr_up (c_ofr_up c_ofr.rf (Nat.le_refl _)) (by omega)) (Nat.le_refl _))).2.2.2) k1 k2 (fun _ => rfl)
  · obtain ⟨f1, f2⟩ := hfin
    refine ⟨d1.cg (fun j _ => by show m_ends M t s 102 j = _; rw [e102]) (er 120 (by decide) (by decide)), fun q => absurd (by show (m_ends M t s 102 24).toInt = -1; rw [e102]; exact d2) q, fun _ => ⟨_, h_and F (k + 1 + 1) t, k + 1 + 1, rfl, h3, fun b u q => Or.inl (e1 b u q), fun b u q => ?_, ?_, Or.inr ⟨rfl, rfl⟩, f2⟩⟩
    · rcases q with q | ⟨-, q⟩
      · rcases e2 b u q with q1 | q1
        · exact Or.inl q1
        · exact Or.inr (by omega)
      · rw [q]; exact Or.inr a2
    · show h_k (h_and F (k + 1 + 1) t) _ (c_tog g k s (c_tm sort s) sort fk fp) (m_ends M t s) (m_ends M t s 102 8).toInt
      rw [e102]
      exact f1
  · by_cases e3 : sort.toInt = 3
    · have : c_tm sort s = s := if_pos e3
      rw [this, if_pos hj]
      exact if_pos hj
    · have : c_tm sort s = 0 := if_neg e3
      rw [this, if_neg (by omega)]
      exact (hky e3 j hj).symm
/-- a thing begun -/
theorem h_at_begin (hp : m_rp M0) {N : wd_I} (hrg : m_rg M0 N) (hlt : (N 102 8).toInt + m_pt N + 1 ≤ (M0 102 8).toInt + m_pt M0) (hpr : r_pr T0 S0) (hr : h_rd S0.1 N) (hf : (N 102 24).toInt = -1) (hk : h_k F0 T0 S0.2.1 M0 (M0 102 8).toInt) {fk : Nat → Int32} {fp : Nat → Option Nat} : h_at F0 T0 S0 M0 (N 102 8) sort wo hb F0 T0 S0 (m_begins N sort wo (ab_ii 0)) 0 fk fp := by
  have b := m_pd_begins (sort := sort) (v := wo) hp hrg hlt
  have h1 := hp.2.1
  have h2 := hrg.2.2.1
  have hl := m_rp_lt (hrg.rp hp)
  have hl2 := b.2.1
  have hsb := b.1.1.1
  refine ⟨⟨hp, h2, by omega, by omega, fun b u q => by have := (hk.in q).2.2; omega⟩, b, ⟨c_st.rf hpr.1, hpr⟩, ⟨hr.cg (fun j hj => m_begins_n (by omega)) ?_, by rw [m_begins_n (by decide)]; exact hf⟩, ⟨fun _ _ q => q, fun _ _ q => Or.inl q⟩, hk.mv (fun _ q => q) (fun _ _ => h_sm.rf) (hk.sb hsb (Int.le_refl _)) (by omega), ⟨b.2.2.1, fun j hj => absurd hj (Nat.not_lt_zero _)⟩, m_begins_kd, m_begins_wo⟩
  unfold m_begins
  rw [wd_up_row _ _ _ (by decide), wd_up_row _ _ _ (by decide), wd_up_row _ _ _ (by decide), wd_up_row _ _ _ (by decide)]
end
end
section
/-! ===== both objects: pairs, tags and numbers read (own text) ===== -/
theorem m_kf_e {M N : wd_I} (h : N 102 24 = M 102 24) : m_kf M N := fun _ => h
theorem m_adds_kf {M : wd_I} {t key p : Int32} {s : Nat} : m_kf M (m_adds M t key p s) := m_kf_e (by rw [m_adds_102])
theorem m_ends_kf {M : wd_I} {t : Int32} {s : Nat} : m_kf M (m_ends M t s) := m_kf_e (by rw [m_ends_row (by decide) (by decide)])
theorem m_begins_kf {M : wd_I} {a b c : Int32} : m_kf M (m_begins M a b c) := m_kf_e (m_begins_n (by decide))
theorem m_rd_kf : ∀ f M, m_kf M (m_rd f M).1
  | 0, M => m_fails_kf
  | f + 1, M => fun q => by
    unfold m_rd
    rw [if_pos q]
    exact m_fails_kf q
section
variable {F F0 : Nat → Int32 → Prop} {T T0 : Nat → Prop} {S S0 : c_St} {M M0 N : wd_I} {hb : Int} {G : c_St → r_O} {G' : wd_I → wd_I × Int32}
/-- failed on the way -/
theorem h_res_no {J : c_St} {X : wd_I} {Y : wd_I × Int32} {f : Int} (h : h_rd J.1 X) (hx : m_rg M X) (hn : m_rg M Y.1) (hk : m_kf X Y.1) (hf : ¬ (X 102 24).toInt = -1) : h_res F T S M (none, J) Y f := by
  have h0 : 0 ≤ (X 102 24).toInt := by
    rcases h.f0 with q | q
    · exact absurd q hf
    · exact q
  have hr := h.flt h0 (r_tf.rf h.2.1) (fun _ => rfl) ⟨(hn.1.2.2 22 (by decide) (by decide) (by decide) (by decide)).trans (hx.1.2.2 22 (by decide) (by decide) (by decide) (by decide)).symm, (hn.1.2.1 120 (by decide)).trans (hx.1.2.1 120 (by decide)).symm⟩ hn.2.1 hk
  exact ⟨hr, fun _ => rfl, fun q => by rw [hk hf] at q; exact absurd q hf⟩
theorem h_rd.un (h : h_rd S.1 M) (hf : (M 102 24).toInt = -1) : ¬ 0 ≤ (S.1 1 3).toInt := by rw [h.2.2.2.1]; omega
theorem h_rd.ft (h : h_rd S.1 M) (hf : ¬ (M 102 24).toInt = -1) : 0 ≤ (S.1 1 3).toInt := by
  rw [h.2.2.2.1]
  rcases h.f0 with q | q
  · exact absurd q hf
  · exact q
theorem c_k2_0 : ∀ j, j < 2 → c_k2 j = ab_ii 0 := fun j hj => by
  by_cases e : j = 1
  · subst e; exact c_ins_at
  · have e : j = 0 := by omega
    subst e
    exact (c_ins_lt (by omega)).trans c_ins_at
theorem h_rpair (hG : h_G G G' hb) (hGr : m_rG G') (hGk : ∀ M, m_kf M (G' M).1) (hb0 : 0 ≤ hb ∧ hb ≤ 12) (hp : m_rp M0) (hrg : m_rg M0 N) (hlt : (N 102 8).toInt + m_pt N + 1 ≤ (M0 102 8).toInt + m_pt M0) (hpr : r_pr T0 S0) (hr : h_rd S0.1 N) (hf : (N 102 24).toInt = -1) (hk : h_k F0 T0 S0.2.1 M0 (M0 102 8).toInt) (hfin : m_rg M0 (m_rpair G' N).1) : h_res F0 T0 S0 M0 (r_pair1 G (G S0)) (m_rpair G' N) (hb + 1) := by
  have h0 := h_at_begin (sort := ab_ii 1) (wo := ab_ii 0) (hb := hb) (fk := c_k2) (fp := fun _ => none) hp hrg hlt hpr hr hf hk
  obtain ⟨g1, g2, g3, g4⟩ := h0.go hG hGr
  unfold m_rpair at hfin ⊢
  dsimp only at hfin ⊢
  have rg1 := h0.2.1.1.tr g2
  generalize G' (m_begins N (ab_ii 1) (ab_ii 0) (ab_ii 0)) = R1 at *
  obtain ⟨N1, p⟩ := R1
  dsimp only at *
  by_cases f1 : (N1 102 24).toInt = -1
  · obtain ⟨T1, F1, a, s1, h1, s6, s7, -⟩ := g4 f1
    have eG : G S0 = (some a, (G S0).2) := Prod.ext s1 rfl
    rw [eG]
    generalize (G S0).2 = S1 at *
    have h2 := h1.adds (by omega) s6 s7 (fk' := c_k2) (fp' := c_p1 a) (fun j hj => absurd hj (Nat.not_lt_zero _)) (c_k2_0 0 (by omega)) (fun j hj => absurd hj (Nat.not_lt_zero _)) c_ins_at
    have n1 := h_needs h2.2.2.2.1.1 (b := ab_ii 44) (by decide)
    have n2 := (m_one_sc (lo := ab_ii 44) (hi := ab_ii 44) h2.2.2.2.1.1.2.2.1 (by decide)).1
    have rg2 := h2.2.1.1.tr n2.rg
    unfold r_pair1
    dsimp only
    generalize m_one (m_adds N1 (N 102 8) (ab_ii 0) p 0) (ab_ii 44) (ab_ii 44) = O1 at *
    obtain ⟨N2, v1⟩ := O1
    dsimp only at *
    by_cases f2 : (N2 102 24).toInt = -1
    · have h3 := h2.sc n1 n2 f2
      obtain ⟨q1, q2, q3, q4⟩ := h3.go hG hGr
      have rg3 := h3.2.1.1.tr q2
      rw [if_neg (h3.2.2.2.1.1.un f2)]
      generalize G' N2 = R2 at *
      obtain ⟨N3, r⟩ := R2
      dsimp only at *
      by_cases f3 : (N3 102 24).toInt = -1
      · obtain ⟨T2, F2, b, s1', h4, s6', s7', -⟩ := q4 f3
        have eG2 : G (t_needs S1.1 (ab_ii 44), S1.2) = (some b, (G (t_needs S1.1 (ab_ii 44), S1.2)).2) := Prod.ext s1' rfl
        rw [eG2]
        generalize (G (t_needs S1.1 (ab_ii 44), S1.2)).2 = S2 at *
        have h5 := h4.adds (by omega) s6' s7' (fk' := c_k2) (fp' := c_p2 a b) (fun _ _ => rfl) (c_k2_0 1 (by omega)) (fun j hj => c_ins_lt (by omega)) c_ins_at
        have n3 := h_needs h5.2.2.2.1.1 (b := ab_ii 41) (by decide)
        have n4 := (m_one_sc (lo := ab_ii 41) (hi := ab_ii 41) h5.2.2.2.1.1.2.2.1 (by decide)).1
        have rg4 := h5.2.1.1.tr n4.rg
        unfold r_pair2
        dsimp only
        generalize m_one (m_adds N3 (N 102 8) (ab_ii 0) r 1) (ab_ii 41) (ab_ii 41) = O2 at *
        obtain ⟨N4, v2⟩ := O2
        dsimp only at *
        by_cases f4 : (N4 102 24).toInt = -1
        · have h6 := h5.sc n3 n4 f4
          rw [if_neg (h6.2.2.2.1.1.un f4)]
          have h7 := (h6.pu (fk' := c_k2) (fp' := c_p2 a b) (m := 2) (z' := S2.2.2.2 + 3 + 13 + 13)).1
          exact h7.tog hb0 (fun _ j hj => c_k2_0 j (by omega))
        · rw [if_pos (h_rd.ft (S := (t_needs S2.1 (ab_ii 41), S2.2)) n3 f4)]
          exact h_res_no (J := (t_needs S2.1 (ab_ii 41), S2.2)) n3 rg4 hfin m_ends_kf f4
      · have e3 := q3 f3
        have eG2 : G (t_needs S1.1 (ab_ii 44), S1.2) = (none, (G (t_needs S1.1 (ab_ii 44), S1.2)).2) := Prod.ext e3 rfl
        rw [eG2]
        unfold r_pair2
        dsimp only
        exact h_res_no q1 rg3 hfin ((m_adds_kf.tr m_one_kf).tr m_ends_kf) f3
    · rw [if_pos (h_rd.ft (S := (t_needs S1.1 (ab_ii 44), S1.2)) n1 f2)]
      exact h_res_no (J := (t_needs S1.1 (ab_ii 44), S1.2)) n1 rg2 hfin ((((hGk _).tr m_adds_kf).tr m_one_kf).tr m_ends_kf) f2
  · have e1 := g3 f1
    have eG : G S0 = (none, (G S0).2) := Prod.ext e1 rfl
    rw [eG]
    unfold r_pair1
    dsimp only
    exact h_res_no g1 rg1 hfin ((((((m_adds_kf).tr m_one_kf).tr (hGk _)).tr m_adds_kf).tr m_one_kf).tr m_ends_kf) f1
/-- a number -/
theorem h_rnum (hp : m_rp M0) (hrg : m_rg M0 N) (hpt : (N 102 24).toInt = -1 → (N 102 8).toInt + m_pt N + 1 ≤ (M0 102 8).toInt + m_pt M0) {v v' : Int32} {I' : wd_I} (hpr : r_pr T0 (I', S0.2)) (hr : h_rd I' N) (hv : (N 102 24).toInt = -1 → v' = v) (hk : h_k F0 T0 S0.2.1 M0 (M0 102 8).toInt) (hb0 : 0 ≤ hb ∧ hb ≤ 12) (hfin : m_rg M0 (m_number N v')) : h_res F0 T0 S0 M0 (if 0 ≤ (I' 1 3).toInt then (none, (I', S0.2)) else (some S0.2.2.1, (I', r_numg S0.2.1 S0.2.2.1 v, S0.2.2.1 + 1 + 1 + 1, S0.2.2.2 + 6))) (m_number N v', N 102 8) (hb + 1) := by
  by_cases f1 : (N 102 24).toInt = -1
  · rw [if_neg (h_rd.un (S := (I', S0.2)) hr f1), hv f1]
    have h0 := h_at_begin (S0 := (I', S0.2)) (sort := ab_ii 0) (wo := v) (hb := hb) (fk := fun _ => 0) (fp := fun _ => none) hp hrg (hpt f1) hpr hr f1 hk
    obtain ⟨J, g, k, z⟩ := S0
    dsimp only at *
    have hnt := h0.nt
    obtain ⟨⟨a1, a2, a3, a4, a5⟩, b, ⟨c1, c2⟩, ⟨d1, d2⟩, ⟨e1, e2⟩, f, i, k1, k2⟩ := h0
    have h125 : 125 ≤ k := c2.2.1
    have hW : c_W T0 g k := c2.1
    have er : ∀ x, x ≠ 106 → x ≠ 107 → m_number N v x = m_begins N (ab_ii 0) v (ab_ii 0) x := fun x h1 h2 => m_ends_row h1 h2
    have e102 := er 102 (by decide) (by decide)
    have h3 : c_st T0 (c_J, g, k, z) T0 (c_J, g, k, z) := c_st.rf hW
    have h4 := c_st.cell h3 (x := k + 1) (k' := k) (c := ab_ia 0 0 (fun _ => 0)) (z' := z) (I' := c_J) (by show k ≤ k + 1; omega) (Nat.le_refl _) c_Ifr.rf
    have h5 := c_st.cell h4 (x := k + 1 + 1) (k' := k) (c := ab_ra 4 0 (fun _ => none)) (z' := z) (I' := c_J) (by show k ≤ k + 1 + 1; omega) (Nat.le_refl _) c_Ifr.rf
    have h6 := c_st.thg h5 (x := k) (k' := k + 1 + 1 + 1) (z' := z + 6) (kd := ab_ii 0) (wo := v) (ka := k + 1) (pa := k + 1 + 1) (nk := 0) (np := 0) (fk := fun _ => 0) (fp := fun _ => none) (I' := c_J) (Nat.le_refl _) (by show k < k + 1 + 1 + 1; omega) (wd_mut_new h125) ⟨⟨wd_mut_new (by omega), by omega⟩, (ab_up_ne _ _ (by omega)).trans (ab_up_self _ _ _), by omega⟩ ⟨⟨wd_mut_new (by omega), by omega⟩, ab_up_self _ _ _, by omega⟩ ⟨by omega, by omega⟩ (fun j hj => absurd hj (Nat.not_lt_zero _)) (Or.inl (by show k ≤ k + 1; omega)) (by show k ≤ k + 1 + 1; omega) c_Ifr.rf
    have hfin2 := h_fin (M := m_begins N (ab_ii 0) v (ab_ii 0)) (g' := r_numg g k v) (T' := fun b => T0 b ∨ b = k) (a := k) (ka := k + 1) (pa := k + 1 + 1) (nk := 0) (fk2 := fun _ => 0) (fp2 := fun _ => none) (kd := ab_ii 0) (wo := v) (g2 := g) f i a4 ⟨a3, b.2.1⟩ (fun b q => hnt b _ q rfl) (fun u q => by have := (hW _ (f.in q).1).1.2; omega) hb0 (fun _ q => Or.inl q) (Or.inr rfl) (fun b' hb' => h_sm_wf (c_wf_xt (hW b' hb') h6.ofr h6.kk)) (ab_up_self _ _ _) ((ab_up_ne _ _ (by omega)).trans ((ab_up_ne _ _ (by omega)).trans (ab_up_self _ _ _))) ((ab_up_ne _ _ (by omega)).trans (ab_up_self _ _ _)) (fun j hj => absurd hj (Nat.not_lt_zero _)) (fun j hj => absurd hj (Nat.not_lt_zero _)) (fun b' hb' j => rfl) k1 k2 (fun e => absurd e (by decide))
    obtain ⟨f2, f3⟩ := hfin2
    refine ⟨d1.cg (fun j _ => by show m_number N v 102 j = _; rw [e102]) (er 120 (by decide) (by decide)), fun q => absurd (by show (m_number N v 102 24).toInt = -1; rw [e102]; exact d2) q, fun _ => ⟨_, h_and F0 k (N 102 8), k, rfl, h6, fun b u q => Or.inl q, fun b u q => ?_, ?_, Or.inr ⟨rfl, rfl⟩, f3⟩⟩
    · rcases q with q | ⟨-, q⟩
      · exact Or.inl q
      · rw [q]; exact Or.inr a2
    · show h_k (h_and F0 k (N 102 8)) _ (r_numg g k v) (m_number N v) (m_number N v 102 8).toInt
      rw [e102]
      exact f2
  · rw [if_pos (h_rd.ft (S := (I', S0.2)) hr f1)]
    exact h_res_no (J := (I', S0.2)) hr hrg hfin (m_begins_kf.tr m_ends_kf) f1
end
end
section
/-! ===== both objects: rows and maps read (own text) ===== -/
theorem h_ppos {M : wd_I} {t : Nat} {key : Int32} {fk : Nat → Int32} {s : Nat} (h : ∀ j, j < s → M 109 (12 * t + j) = fk j) : ∀ r j, j + r = s → c_plc fk key r j = m_ppos M t key r j
  | 0, j, _ => rfl
  | r + 1, j, hj => by
    unfold c_plc m_ppos
    rw [h j (by omega), h_ppos h r (j + 1) (by omega)]
theorem c_plc_lt {fk : Nat → Int32} {l : Int32} : ∀ r i j, i ≤ j → j < c_plc fk l r i → (fk j).toInt < l.toInt
  | 0, i, j, hij, hj => by
    change j < i at hj
    omega
  | r + 1, i, j, hij, hj => by
    unfold c_plc at hj
    split at hj
    next hc =>
      by_cases e : i = j
      · subst e; exact hc
      · exact c_plc_lt r (i + 1) j (by omega) hj
    next hc => omega
theorem c_plc_ge {fk : Nat → Int32} {l : Int32} : ∀ r i, c_plc fk l r i < i + r → l.toInt ≤ (fk (c_plc fk l r i)).toInt
  | 0, i, h => by
    change i < i + 0 at h
    omega
  | r + 1, i, h => by
    unfold c_plc at h ⊢
    split
    next hc =>
      rw [if_pos hc] at h
      exact c_plc_ge r (i + 1) (by omega)
    next hc => omega
/-- keys in their order -/
def h_so (fk : Nat → Int32) (s : Nat) : Prop := ∀ j, j + 1 < s → (fk j).toInt < (fk (j + 1)).toInt
theorem h_so.lt {fk : Nat → Int32} {s : Nat} (h : h_so fk s) : ∀ i j, i < j → j < s → (fk i).toInt < (fk j).toInt
  | i, 0, hi, _ => absurd hi (Nat.not_lt_zero _)
  | i, j + 1, hi, hj => by
    have h1 := h j hj
    by_cases e : i = j
    · subst e; exact h1
    · have := h_so.lt h i j (by omega) (by omega)
      omega
theorem h_has {M : wd_I} {t : Nat} {key : Int32} {fk : Nat → Int32} {s : Nat} (h : ∀ j, j < s → M 109 (12 * t + j) = fk j) (hs : h_so fk s) : c_has fk s key ↔ ¬ (m_hk M t key s).toInt = 0 := by
  have hp := c_plc_le (fk := fk) (l := key) s 0
  constructor
  · rintro ⟨h1, h2⟩ q
    exact m_hk_no s q _ h1 (by rw [h _ h1]; exact h2)
  · intro q
    obtain ⟨j, hj, e⟩ := m_hk_ex s q
    rw [h j hj] at e
    have h1 : ¬ j < c_plc fk key s 0 := fun q => by have := c_plc_lt s 0 j (by omega) q; omega
    have h2 := c_plc_ge (fk := fk) (l := key) s 0 (by omega)
    have h3 : ¬ c_plc fk key s 0 < j := fun q => by have := hs.lt _ j q hj; omega
    have h4 : c_plc fk key s 0 = j := by omega
    exact ⟨by omega, by rw [h4]; exact e⟩
section
variable {F0 F : Nat → Int32 → Prop} {T0 T : Nat → Prop} {S0 S : c_St} {M0 M : wd_I} {t sort wo : Int32} {hb : Int} {s : Nat} {fk : Nat → Int32} {fp : Nat → Option Nat} {G : c_St → r_O} {G' : wd_I → wd_I × Int32}
/-- a key read -/
theorem h_nk {I : wd_I} (h : h_rd I M) (hf : (M 102 24).toInt = -1) (hk : ∀ j, j < s → M 109 (12 * t.toInt.toNat + j) = fk j) (hs : h_so fk s) : h_rd (r_nk I fk s).1 (m_e2 M t s) ∧ ((m_e2 M t s 102 24).toInt = -1 → (r_nk I fk s).2 = (m_letters M).2 ∧ ¬ c_has fk s (m_letters M).2) := by
  obtain ⟨h1, h2⟩ := h_letters h
  have hsc := m_letters_sc h.2.2.1
  have e9 : (m_letters M).1 109 = M 109 := hsc.1 109 (by decide)
  have ek : m_hk (m_letters M).1 t.toInt.toNat (m_letters M).2 s = m_hk M t.toInt.toNat (m_letters M).2 s := by
    have : ∀ s, m_hk (m_letters M).1 t.toInt.toNat (m_letters M).2 s = m_hk M t.toInt.toNat (m_letters M).2 s := by
      intro s
      induction s with
      | zero => rfl
      | succ s ih => unfold m_hk; rw [ih, e9]
    exact this s
  unfold r_nk m_e2 m_e1
  rw [ek]
  by_cases f1 : ((m_letters M).1 102 24).toInt = -1
  · have ev := h2 f1
    have hh := h_has (key := (m_letters M).2) hk hs
    rw [← ev]
    by_cases c : c_has fk s (m_letters M).2
    · rw [if_pos c, if_pos ⟨f1, hh.mp c⟩]
      have h3 := h_fail h1 (p := I 1 2) (p' := M 102 23) (fun _ => ⟨h.at hf, h.2.2.1.1⟩)
      dsimp only
      refine ⟨h_needs (b := ab_ii 58) h3 (by decide), fun q => ?_⟩
      have q2 := m_one_uf q
      unfold m_fails at q2
      rw [wd_up_self, if_pos f1] at q2
      have := h.2.2.1.1
      omega
    · rw [if_neg c, if_neg (fun q => c (hh.mpr q.2))]
      dsimp only
      exact ⟨h_needs (b := ab_ii 58) h1 (by decide), fun _ => ⟨rfl, c⟩⟩
  · have hnf : ¬ (((m_letters M).1 102 24).toInt = -1 ∧ ¬ (m_hk M t.toInt.toNat (m_letters M).2 s).toInt = 0) := fun q => f1 q.1
    rw [if_neg hnf]
    have h3 : h_rd (@ite (wd_I × Int32) (c_has fk s (t_letters I).2) (Classical.propDecidable _) (t_needs (t_fail (t_letters I).1 (I 1 2)) (ab_ii 58), (t_letters I).2) (t_needs (t_letters I).1 (ab_ii 58), (t_letters I).2)).1 (m_one (m_letters M).1 (ab_ii 58) (ab_ii 58)).1 := by
      by_cases c : c_has fk s (t_letters I).2
      · rw [if_pos c]
        have f0 : 0 ≤ ((m_letters M).1 102 24).toInt := by
          rcases h1.f0 with q | q
          · exact absurd q f1
          · exact q
        have e : t_fail (t_letters I).1 (I 1 2) = (t_letters I).1 := by
          unfold t_fail
          rw [if_neg (by rw [h1.2.2.2.1]; omega)]
        dsimp only
        rw [e]
        exact h_needs (b := ab_ii 58) h1 (by decide)
      · rw [if_neg c]
        dsimp only
        exact h_needs (b := ab_ii 58) h1 (by decide)
    exact ⟨h3, fun q => absurd (m_one_uf q) f1⟩
theorem c_ins_v {α : Type} {f : Nat → α} {n p j : Nat} {v : α} : c_ins f n p v j = @ite α (j = p) (Classical.propDecidable _) v (@ite α (p < j ∧ j ≤ n) (Classical.propDecidable _) (f (j - 1)) (f j)) := by
  unfold c_ins c_shf
  by_cases e : j = p
  · subst e
    rw [if_pos rfl, ab_up_self]
  · rw [if_neg e, ab_up_ne _ _ e]
    by_cases c : p < j ∧ j ≤ n
    · rw [if_pos c, if_pos c]
    · rw [if_neg c, if_neg c]
/-- a part put under its key -/
theorem h_at.puts (h : h_at F0 T0 S0 M0 t sort wo hb F T S M s fk fp) (h11 : s ≤ 11) {a : Nat} {u key : Int32} (ha : F a u) (hh : (M 107 u.toInt.toNat).toInt ≤ hb) (hs : h_so fk s) (hno0 : ¬ c_has fk s key) : h_at F0 T0 S0 M0 t sort wo hb F T S (m_puts M t key u s) (s + 1) (c_ins fk s (c_plc fk key s 0) key) (c_ins fp s (c_plc fk key s 0) (some a)) ∧ h_so (c_ins fk s (c_plc fk key s 0) key) (s + 1) := by
  have hnt := h.nt
  obtain ⟨⟨a1, a2, a3, a4, a5⟩, b, c, ⟨d1, d2⟩, e, f, i, k1, k2⟩ := h
  have hu := f.in ha
  have hl := m_rp_lt (b.1.rp a1)
  have e2 : m_puts M t key u s 102 = M 102 := m_puts_102
  have hky : ∀ j, j < s → M 109 (12 * t.toInt.toNat + j) = fk j := fun j hj => by
    obtain ⟨b', b1, b2, b3, b4⟩ := i.2 j hj
    exact b3
  have hno : (m_hk M t.toInt.toNat key s).toInt = 0 := by
    by_cases q : (m_hk M t.toInt.toNat key s).toInt = 0
    · exact q
    · exact absurd ((h_has hky hs).mpr q) hno0
  have epk : m_pk M t key s = c_plc fk key s 0 := (h_ppos hky s 0 (Nat.zero_add _)).symm
  have hle := c_plc_le (fk := fk) (l := key) s 0
  obtain ⟨hpn, hsort⟩ := m_puts_sorted (M := M) (t := t) (key := key) (p := u) (s := s) (fun j hj => by rw [hky j (by omega), hky (j + 1) hj]; exact hs j hj) (fun j hj => m_hk_no s hno j hj)
  have er : ∀ x, x ≠ 105 → x ≠ 108 → x ≠ 109 → m_puts M t key u s x = M x := fun x q1 q2 q3 => by
    unfold m_puts m_puts1
    rw [wd_up_row _ _ _ q3, wd_up_row _ _ _ q2]
    split
    · rw [wd_up_row _ _ _ q1, m_psh_row q2 q3]
    · rfl
  have e5 : m_puts M t key u s 105 t.toInt.toNat = ab_ii ((s : Int) + 1) := by rw [m_puts_5, if_pos hpn]
  have e8 : ∀ j, m_puts M t key u s 108 (12 * t.toInt.toNat + j) = @ite Int32 (j = c_plc fk key s 0) (Classical.propDecidable _) u (@ite Int32 (c_plc fk key s 0 < j ∧ j ≤ s) (Classical.propDecidable _) (M 108 (12 * t.toInt.toNat + (j - 1))) (M 108 (12 * t.toInt.toNat + j))) := fun j => by
    rw [m_puts_8, epk]
    by_cases q : j = c_plc fk key s 0
    · rw [if_pos q, if_pos q]
    · rw [if_neg q, if_neg q]
      by_cases q2 : c_plc fk key s 0 < j ∧ j ≤ s
      · rw [if_pos ⟨hpn, q2⟩, if_pos q2]
      · rw [if_neg (fun q => q2 q.2), if_neg q2]
  have e9 : ∀ j, m_puts M t key u s 109 (12 * t.toInt.toNat + j) = @ite Int32 (j = c_plc fk key s 0) (Classical.propDecidable _) key (@ite Int32 (c_plc fk key s 0 < j ∧ j ≤ s) (Classical.propDecidable _) (M 109 (12 * t.toInt.toNat + (j - 1))) (M 109 (12 * t.toInt.toNat + j))) := fun j => by
    rw [m_puts_9, epk]
    by_cases q : j = c_plc fk key s 0
    · rw [if_pos q, if_pos q]
    · rw [if_neg q, if_neg q]
      by_cases q2 : c_plc fk key s 0 < j ∧ j ≤ s
      · rw [if_pos ⟨hpn, q2⟩, if_pos q2]
      · rw [if_neg (fun q => q2 q.2), if_neg q2]
  have h9 : ∀ j, j < s + 1 → m_puts M t key u s 109 (12 * t.toInt.toNat + j) = c_ins fk s (c_plc fk key s 0) key j := fun j hj => by
    rw [e9, c_ins_v]
    by_cases q : j = c_plc fk key s 0
    · rw [if_pos q, if_pos q]
    · rw [if_neg q, if_neg q]
      by_cases q2 : c_plc fk key s 0 < j ∧ j ≤ s
      · rw [if_pos q2, if_pos q2]; exact hky _ (by omega)
      · rw [if_neg q2, if_neg q2]; exact hky _ (by omega)
  obtain ⟨s', p1, p2, p3⟩ := m_pd_puts (key := key) (p := u) b a3 (by have := a1.2.1; omega) a2 a4 ⟨hu.2.1, by omega⟩
  have hs' : s' = s + 1 := by
    have := p1.2.2.1
    rw [e5, ab_tI (by omega) (by omega)] at this
    omega
  subst hs'
  have hra : ∀ b v, F b v → m_ra M (m_puts M t key u s) v.toInt.toNat := fun b v q => m_puts_ra h11 (by have := hnt b v q; have := (f.in q).2.1; omega)
  refine ⟨⟨⟨a1, a2, a3, by omega, a5⟩, p1, c, ⟨d1.cg (fun j _ => by rw [e2]) (er 120 (by decide) (by decide) (by decide)), by rw [e2]; exact d2⟩, e, f.mv (fun _ q => q) (fun _ _ => h_sm.rf) hra (by rw [e2]; exact Int.le_refl _), ⟨by rw [e5, ab_tI (by omega) (by omega)]; omega, fun j hj => ?_⟩, by rw [er 103 (by decide) (by decide) (by decide)]; exact k1, by rw [er 104 (by decide) (by decide) (by decide)]; exact k2⟩, fun j hj => by rw [← h9 j (by omega), ← h9 (j + 1) hj]; exact hsort j hj⟩
  have h7 : ∀ v : Int32, m_puts M t key u s 107 v.toInt.toNat = M 107 v.toInt.toNat := fun v => by rw [er 107 (by decide) (by decide) (by decide)]
  have h10 := h9 j hj
  rw [c_ins_v (f := fp), h7]
  rw [e8]
  by_cases q : j = c_plc fk key s 0
  · rw [if_pos q, if_pos q]
    exact ⟨a, rfl, ha, h10, hh⟩
  · rw [if_neg q, if_neg q]
    by_cases q2 : c_plc fk key s 0 < j ∧ j ≤ s
    · rw [if_pos q2, if_pos q2]
      obtain ⟨b', b1, b2, b3, b4⟩ := i.2 (j - 1) (by omega)
      exact ⟨b', b1, b2, h10, b4⟩
    · rw [if_neg q2, if_neg q2]
      obtain ⟨b', b1, b2, b3, b4⟩ := i.2 j (by omega)
      exact ⟨b', b1, b2, h10, b4⟩
end
end
section
/-! ===== both objects: a thing read (own text) ===== -/
theorem m_e3_kf {R : wd_I × Int32} {t key : Int32} {s : Nat} : m_kf R.1 (m_e3 R t key s) := by
  unfold m_e3
  split
  · exact m_kf_e (by rw [m_puts_102])
  · exact fun _ => rfl
theorem m_itl_kf {G' : wd_I → wd_I × Int32} {mp : Int} {t : Int32} : ∀ f M, m_kf M (m_itl G' mp t f M)
  | 0, M => fun _ => rfl
  | f + 1, M => fun q => by
    unfold m_itl
    rw [if_neg (fun c => q c.1)]
section
variable {F0 F : Nat → Int32 → Prop} {T0 T : Nat → Prop} {S0 S : c_St} {M0 M N : wd_I} {t sort wo : Int32} {hb : Int} {G : c_St → r_O} {G' : wd_I → wd_I × Int32} {n x : Nat} {fk : Nat → Int32} {fp : Nat → Option Nat}
theorem h_ft {J X Y : wd_I} (h : h_rd J X) (hx : m_rg M X) (hn : m_rg M Y) (hk : m_kf X Y) (hf : ¬ (X 102 24).toInt = -1) : h_rd J Y ∧ ¬ (Y 102 24).toInt = -1 := by
  have h0 : 0 ≤ (X 102 24).toInt := by
    rcases h.f0 with q | q
    · exact absurd q hf
    · exact q
  exact ⟨h.flt h0 (r_tf.rf h.2.1) (fun _ => rfl) ⟨(hn.1.2.2 22 (by decide) (by decide) (by decide) (by decide)).trans (hx.1.2.2 22 (by decide) (by decide) (by decide) (by decide)).symm, (hn.1.2.1 120 (by decide)).trans (hx.1.2.1 120 (by decide)).symm⟩ hn.2.1 hk, by rw [hk hf]; exact hf⟩
/-- one item of a row or map -/
theorem h_item (h : h_at F0 T0 S0 M0 t sort wo hb F T S M n fk fp) (h11 : n ≤ 11) (hG : h_G G G' hb) (hGr : m_rG G') (hGk : ∀ M, m_kf M (G' M).1) (hs : sort.toInt = 3 → h_so fk n) (hz : ¬ sort.toInt = 3 → ∀ j, j < n → fk j = ab_ii 0) (hx : S0.2.2.1 ≤ x) (hn3 : c_nq3 T S.2.1 x) (hxk : x + 3 ≤ S.2.2.1) (hNr : m_rg M0 (m_item G' sort.toInt M t n)) :
    (¬ (m_item G' sort.toInt M t n 102 24).toInt = -1 → ∃ J : c_St, h_rd J.1 (m_item G' sort.toInt M t n) ∧ ((0 ≤ ((r_key sort S.1 fk n).1 1 3).toInt ∧ J = ((r_key sort S.1 fk n).1, S.2)) ∨ (¬ 0 ≤ ((r_key sort S.1 fk n).1 1 3).toInt ∧ G ((r_key sort S.1 fk n).1, S.2) = (none, J)))) ∧
    ((m_item G' sort.toInt M t n 102 24).toInt = -1 → ¬ 0 ≤ ((r_key sort S.1 fk n).1 1 3).toInt ∧ ∃ (T' : Nat → Prop) (F' : Nat → Int32 → Prop) (b : Nat) (S2 : c_St), G ((r_key sort S.1 fk n).1, S.2) = (some b, S2) ∧ h_at F0 T0 S0 M0 t sort wo hb F' T' (r_S3 x (r_pp sort (r_key sort S.1 fk n).2 fk n) n (r_key sort S.1 fk n).2 fk fp b S2) (m_item G' sort.toInt M t n) (n + 1) (c_ins fk n (r_pp sort (r_key sort S.1 fk n).2 fk n) (r_key sort S.1 fk n).2) (c_ins fp n (r_pp sort (r_key sort S.1 fk n).2 fk n) (some b)) ∧ c_nq3 T' (r_S3 x (r_pp sort (r_key sort S.1 fk n).2 fk n) n (r_key sort S.1 fk n).2 fk fp b S2).2.1 x ∧ (sort.toInt = 3 → h_so (c_ins fk n (r_pp sort (r_key sort S.1 fk n).2 fk n) (r_key sort S.1 fk n).2) (n + 1)) ∧ (¬ sort.toInt = 3 → ∀ j, j < n + 1 → c_ins fk n (r_pp sort (r_key sort S.1 fk n).2 fk n) (r_key sort S.1 fk n).2 j = ab_ii 0) ∧ x + 3 ≤ S2.2.2.1) := by
  have hrd := h.2.2.2.1.1
  have hf := h.2.2.2.1.2
  have hpd := h.2.1
  have hmp := h.1.1
  have hky : ∀ j, j < n → M 109 (12 * t.toInt.toNat + j) = fk j := fun j hj => by
    obtain ⟨b', b1, b2, b3, b4⟩ := h.2.2.2.2.2.2.1.2 j hj
    exact b3
  by_cases e3 : sort.toInt = 3
  · have eK : r_key sort S.1 fk n = r_nk S.1 fk n := if_pos e3
    have eP : ∀ l, r_pp sort l fk n = c_plc fk l n 0 := fun l => if_pos e3
    have eN : m_item G' sort.toInt M t n = m_e3 (G' (m_e2 M t n)) t (m_letters M).2 n := if_pos e3
    rw [eK]
    rw [eP]
    rw [eN] at hNr ⊢
    obtain ⟨k1, k2⟩ := h_nk (t := t) hrd hf hky (hs e3)
    have ksc := m_e2_sc (t := t) (s := n) hrd.2.2.1
    generalize r_nk S.1 fk n = K at *
    obtain ⟨I', l⟩ := K
    dsimp only at *
    by_cases fe : (m_e2 M t n 102 24).toInt = -1
    · obtain ⟨k3, k4⟩ := k2 fe
      have h1 := h.sc k1 ksc fe
      have hun : ¬ 0 ≤ (I' 1 3).toInt := k1.un (S := (I', S.2)) fe
      obtain ⟨r1, r2, r3, r4⟩ := h1.go hG hGr
      generalize G' (m_e2 M t n) = R at *
      obtain ⟨X, u⟩ := R
      dsimp only at *
      by_cases fg : (X 102 24).toInt = -1
      · obtain ⟨T', F', b, s1, h2, s6, s7, s8⟩ := r4 fg
        have eE : m_e3 (X, u) t (m_letters M).2 n = m_puts X t (m_letters M).2 u n := if_pos fg
        rw [eE] at hNr ⊢
        have e102 : m_puts X t (m_letters M).2 u n 102 = X 102 := m_puts_102
        refine ⟨fun q => absurd (by rw [e102]; exact fg) q, fun _ => ⟨hun, T', F', b, (G (I', S.2)).2, Prod.ext s1 rfl, ?_⟩⟩
        obtain ⟨p1, p2⟩ := h2.puts h11 s6 s7 (hs e3) k4
        have n0 := (c_hs_nq s8) x (by show x < S.2.2.1; omega) hn3.1
        have n1 := (c_hs_nq s8) (x + 1) (by show x + 1 < S.2.2.1; omega) hn3.2.1
        have n2 := (c_hs_nq s8) (x + 2) (by show x + 2 < S.2.2.1; omega) hn3.2.2
        have p3 := p1.rows hx ⟨n0, n1, n2⟩ (m := n + 1) (fk' := c_ins fk n (c_plc fk l n 0) l) (fp' := c_ins fp n (c_plc fk l n 0) (some b))
        rw [← k3] at p2 p3 ⊢
        exact ⟨p3.1, p3.2, fun _ => p2, fun q => absurd e3 q, Nat.le_trans hxk (c_hs_kk s8)⟩
      · have eE : m_e3 (X, u) t (m_letters M).2 n = X := if_neg fg
        rw [eE] at hNr ⊢
        exact ⟨fun _ => ⟨(G (I', S.2)).2, r1, Or.inr ⟨hun, Prod.ext (r3 fg) rfl⟩⟩, fun q => absurd q fg⟩
    · have hx := hpd.1.tr ksc.rg
      obtain ⟨q1, q2⟩ := h_ft k1 hx hNr ((hGk _).tr m_e3_kf) fe
      exact ⟨fun _ => ⟨(I', S.2), q1, Or.inl ⟨h_rd.ft (S := (I', S.2)) k1 fe, rfl⟩⟩, fun q => absurd q q2⟩
  · have eK : r_key sort S.1 fk n = (S.1, ab_ii 0) := if_neg e3
    have eP : ∀ l, r_pp sort l fk n = n := fun l => if_neg e3
    have eN : m_item G' sort.toInt M t n = m_adds (G' M).1 t (ab_ii 0) (G' M).2 n := if_neg e3
    rw [eK]
    rw [eP]
    rw [eN] at hNr ⊢
    dsimp only
    have hun : ¬ 0 ≤ (S.1 1 3).toInt := hrd.un hf
    obtain ⟨r1, r2, r3, r4⟩ := h.go hG hGr
    generalize G' M = R at *
    obtain ⟨X, u⟩ := R
    dsimp only at *
    have e102 : m_adds X t (ab_ii 0) u n 102 = X 102 := m_adds_102
    have e120 : m_adds X t (ab_ii 0) u n 120 = X 120 := by unfold m_adds; rw [wd_up_row _ _ _ (by decide), wd_up_row _ _ _ (by decide), wd_up_row _ _ _ (by decide)]
    by_cases fg : (X 102 24).toInt = -1
    · obtain ⟨T', F', b, s1, h2, s6, s7, s8⟩ := r4 fg
      refine ⟨fun q => absurd (by rw [e102]; exact fg) q, fun _ => ⟨hun, T', F', b, (G (S.1, S.2)).2, Prod.ext s1 rfl, ?_⟩⟩
      have hfk : ∀ j, j < n → c_ins fk n n (ab_ii 0) j = fk j := fun j hj => c_ins_lt hj
      have p1 := h2.adds h11 s6 s7 (fk' := c_ins fk n n (ab_ii 0)) (fp' := c_ins fp n n (some b)) hfk c_ins_at (fun j hj => c_ins_lt hj) c_ins_at
      have n0 := (c_hs_nq s8) x (by show x < S.2.2.1; omega) hn3.1
      have n1 := (c_hs_nq s8) (x + 1) (by show x + 1 < S.2.2.1; omega) hn3.2.1
      have n2 := (c_hs_nq s8) (x + 2) (by show x + 2 < S.2.2.1; omega) hn3.2.2
      have p3 := p1.rows hx ⟨n0, n1, n2⟩ (m := n + 1) (fk' := c_ins fk n n (ab_ii 0)) (fp' := c_ins fp n n (some b))
      refine ⟨p3.1, p3.2, fun q => absurd q e3, fun _ j hj => ?_, Nat.le_trans hxk (c_hs_kk s8)⟩
      by_cases e : j = n
      · subst e; exact c_ins_at
      · rw [hfk j (by omega)]; exact hz e3 j (by omega)
    · exact ⟨fun _ => ⟨(G (S.1, S.2)).2, r1.cg (fun j _ => by rw [e102]) e120, Or.inr ⟨hun, Prod.ext (r3 fg) rfl⟩⟩, fun q => absurd (by rw [e102] at q; exact q) fg⟩
theorem h_rgf {close : Int32} {s : Nat} (hcl : 0 ≤ close.toInt) (hp0 : m_rp M0) (h : m_pd M0 N t s) (h12 : s ≤ 12) (h0 : 0 ≤ t.toInt) (ht : (M0 102 8).toInt ≤ t.toInt) : m_rg M0 (m_one N close close).1 ∧ m_rg M0 (m_ends (m_one N close close).1 t (m_sz (m_one N close close).1 t)) := by
  have h1 := m_pd_rg h h12 h0 (m_one_sc (lo := close) (hi := close) (h.1.rp hp0).1 hcl).1.rg
  refine ⟨h1.1, ?_⟩
  rw [m_pd_sz h1]
  exact (m_pd_ends hp0 h1 h0 ht).1
theorem h_mnl (hG : h_G G G' hb) (hGr : m_rG G') (hGk : ∀ M, m_kf M (G' M).1) (hb0 : 0 ≤ hb ∧ hb ≤ 12) {close : Int32} (hcl : close.toInt = 93 ∨ close.toInt = 125) (hx : S0.2.2.1 ≤ x) : ∀ (r n f : Nat) (fk : Nat → Int32) (fp : Nat → Option Nat) (F : Nat → Int32 → Prop) (T : Nat → Prop) (S : c_St) (M : wd_I), r + n = 12 → 1 ≤ r → r ≤ f → h_at F0 T0 S0 M0 t sort (ab_ii 0) hb F T S M n fk fp → (sort.toInt = 3 → h_so fk n) → (¬ sort.toInt = 3 → ∀ j, j < n → fk j = ab_ii 0) → c_nq3 T S.2.1 x → x + 3 ≤ S.2.2.1 → h_res F0 T0 S0 M0 (r_mnl G sort close x r n fk fp S) (m_ends (m_one (m_itl G' sort.toInt t f (m_item G' sort.toInt M t n)) close close).1 t (m_sz (m_one (m_itl G' sort.toInt t f (m_item G' sort.toInt M t n)) close close).1 t), t) (hb + 1)
  | 0, n, f, fk, fp, F, T, S, M, hr, h1, hf, h, hs, hz, hn3, hxk => by omega
  | r + 1, n, 0, fk, fp, F, T, S, M, hr, h1, hf, h, hs, hz, hn3, hxk => by omega
  | r + 1, n, f + 1, fk, fp, F, T, S, M, hr, h1, hf, h, hs, hz, hn3, hxk => by
    obtain ⟨a1, a2, a3, a4, a5⟩ := h.1
    have hc0 : 0 ≤ close.toInt := by omega
    obtain ⟨s', p1, p2⟩ := m_pd_item hGr (mp := sort.toInt) a1 h.2.1 a3 a2 (by omega)
    obtain ⟨i1, i2⟩ := h_item h (by omega) hG hGr hGk hs hz hx hn3 hxk p1.1
    have hitl := fun f => m_pd_itl hGr (mp := sort.toInt) a1 a3 a2 f _ s' p1 (by omega)
    unfold r_mnl
    by_cases fN : (m_item G' sort.toInt M t n 102 24).toInt = -1
    · obtain ⟨u1, T', F', b, S2, u2, u3, u4, u5, u6, u7⟩ := i2 fN
      rw [if_neg u1, u2]
      dsimp only
      have hsz : m_sz (m_item G' sort.toInt M t n) t = n + 1 := m_pd_sz u3.2.1
      have hrd := u3.2.2.2.1.1
      change h_rd S2.1 _ at hrd
      have hnx := hrd.nx fN
      have ih := fun Q hQ1 hQ2 => h_mnl hG hGr hGk hb0 hcl hx r (n + 1) f (c_ins fk n (r_pp sort (r_key sort S.1 fk n).2 fk n) (r_key sort S.1 fk n).2) (c_ins fp n (r_pp sort (r_key sort S.1 fk n).2 fk n) (some b)) F' T' (t_step S2.1, (r_S3 x (r_pp sort (r_key sort S.1 fk n).2 fk n) n (r_key sort S.1 fk n).2 fk fp b S2).2) Q (by omega) hQ1 (by omega) hQ2 u5 u6 u4 u7
      generalize m_item G' sort.toInt M t n = N at *
      by_cases c1 : (t_next S2.1).toInt = close.toInt
      · rw [if_pos c1]
        have e1 : m_itl G' sort.toInt t (f + 1) N = N := by
          unfold m_itl
          rw [if_neg (fun q => by have := q.2.1; rw [← hnx] at this; omega)]
        rw [e1]
        have n1 := h_needs hrd (b := close) hc0
        have n2 := (m_one_sc (lo := close) (hi := close) hrd.2.2.1 hc0).1
        have e2 : t_needs S2.1 close = t_step S2.1 := by unfold t_needs; rw [if_pos c1]
        have e3 : ((m_one N close close).1 102 24).toInt = -1 := by
          unfold m_one
          rw [if_pos ⟨fN, by rw [← hnx]; omega, by rw [← hnx]; omega⟩]
          show (m_stp N 102 24).toInt = -1
          rw [show m_stp N 102 24 = N 102 24 from wd_up_ne _ _ (Or.inr (by decide))]
          exact fN
        rw [e2] at n1
        have h4 := u3.sc n1 n2 e3
        have hsz2 : m_sz (m_one N close close).1 t = n + 1 := m_pd_sz h4.2.1
        rw [hsz2]
        exact h4.tog hb0 u6
      · rw [if_neg c1]
        by_cases c2 : r = 0 ∨ ¬ (t_next S2.1).toInt = 44
        · rw [if_pos c2]
          have e1 : m_itl G' sort.toInt t (f + 1) N = N := by
            unfold m_itl
            rw [if_neg (fun q => by have q1 := q.2.1; have q2 := q.2.2; rw [← hnx] at q1; rw [hsz] at q2; omega)]
          rw [e1]
          obtain ⟨w1, w2⟩ := h_rgf (t := t) hc0 a1 u3.2.1 (by omega) a3 a2
          have e2 : (m_one N close close).1 = m_fails N (N 102 23) := by
            unfold m_one
            rw [if_neg (fun q => by have q1 := q.2; rw [← hnx] at q1; omega)]
          rw [e2] at w1 w2 ⊢
          have n1 := h_failat hrd
          refine h_res_no (J := (t_fail S2.1 (S2.1 1 2), (r_S3 x (r_pp sort (r_key sort S.1 fk n).2 fk n) n (r_key sort S.1 fk n).2 fk fp b S2).2)) n1 w1 w2 m_ends_kf ?_
          unfold m_fails
          rw [wd_up_self, if_pos fN]
          have := hrd.2.2.1.1
          omega
        · rw [if_neg c2]
          have c3 : (t_next S2.1).toInt = 44 := by
            by_cases q : (t_next S2.1).toInt = 44
            · exact q
            · exact absurd (Or.inr q) c2
          have c4 : 1 ≤ r := by
            by_cases q : r = 0
            · exact absurd (Or.inl q) c2
            · omega
          have e1 : m_itl G' sort.toInt t (f + 1) N = m_itl G' sort.toInt t f (m_item G' sort.toInt (m_stp N) t (n + 1)) := by
            show (if _ then _ else _) = _
            rw [if_pos ⟨fN, by rw [← hnx]; exact c3, by rw [hsz]; omega⟩, hsz]
          rw [e1]
          have hlt := (m_here_lt (M := N) (by rw [← hnx]; omega)).1
          have n1 := h_step hrd fN hlt
          have n2 := (m_stp_sc hrd.2.2.1 hlt).1
          have n3 : (m_stp N 102 24).toInt = -1 := by
            rw [show m_stp N 102 24 = N 102 24 from wd_up_ne _ _ (Or.inr (by decide))]
            exact fN
          exact ih (m_stp N) c4 (u3.sc n1 n2 n3)
    · obtain ⟨J, j1, j2⟩ := i1 fN
      obtain ⟨s2, q1, q2⟩ := hitl (f + 1)
      obtain ⟨w1, w2⟩ := h_rgf (t := t) hc0 a1 q1 q2 a3 a2
      rcases j2 with ⟨j2, j3⟩ | ⟨j2, j3⟩
      · rw [if_pos j2, ← j3]
        exact h_res_no j1 p1.1 w2 (((m_itl_kf _ _).tr m_one_kf).tr m_ends_kf) fN
      · rw [if_neg j2, j3]
        exact h_res_no j1 p1.1 w2 (((m_itl_kf _ _).tr m_one_kf).tr m_ends_kf) fN
end
end
section
/-! ===== both objects: a thing read, whole (own text) ===== -/
section
variable {F0 F : Nat → Int32 → Prop} {T0 T : Nat → Prop} {S0 S : c_St} {M0 M N : wd_I} {t sort wo : Int32} {hb : Int} {G : c_St → r_O} {G' : wd_I → wd_I × Int32} {n x : Nat} {fk : Nat → Int32} {fp : Nat → Option Nat}
theorem m_begins_120 {a b c : Int32} : m_begins N a b c 120 = N 120 := by
  unfold m_begins
  rw [wd_up_row _ _ _ (by decide), wd_up_row _ _ _ (by decide), wd_up_row _ _ _ (by decide), wd_up_row _ _ _ (by decide)]
theorem h_rmany (hG : h_G G G' hb) (hGr : m_rG G') (hGk : ∀ M, m_kf M (G' M).1) (hb0 : 0 ≤ hb ∧ hb ≤ 12) {close : Int32} (hcl : close.toInt = 93 ∨ close.toInt = 125) (hp : m_rp M0) (hrg : m_rg M0 N) (hlt : (N 102 8).toInt + m_pt N + 1 ≤ (M0 102 8).toInt + m_pt M0) (hpr : r_pr T0 S0) (hr : h_rd S0.1 N) (hf : (N 102 24).toInt = -1) (hk : h_k F0 T0 S0.2.1 M0 (M0 102 8).toInt) : h_res F0 T0 S0 M0 (r_many G sort close S0) (m_rmany G' N sort close) (hb + 1) := by
  have h0 := h_at_begin (sort := sort) (wo := ab_ii 0) (hb := hb) (fk := fun _ => 0) (fp := fun _ => none) hp hrg hlt hpr hr hf hk
  have hc0 : 0 ≤ close.toInt := by omega
  obtain ⟨a1, a2, a3, a4, a5⟩ := h0.1
  have hrd := h0.2.2.2.1.1
  have hfb := h0.2.2.2.1.2
  have hnx := hrd.nx hfb
  have hsz : m_sz (m_begins N sort (ab_ii 0) (ab_ii 0)) (N 102 8) = 0 := m_pd_sz h0.2.1
  have hW := hpr.1
  unfold m_rmany m_all r_many
  dsimp only
  by_cases c1 : (t_next S0.1).toInt = close.toInt
  · rw [if_pos c1, if_pos ⟨hfb, by rw [← hnx]; exact c1⟩]
    have hl := (m_here_lt (M := m_begins N sort (ab_ii 0) (ab_ii 0)) (by rw [← hnx]; omega)).1
    have n1 := h_step hrd hfb hl
    have n2 := (m_stp_sc hrd.2.2.1 hl).1
    have n3 : (m_stp (m_begins N sort (ab_ii 0) (ab_ii 0)) 102 24).toInt = -1 := by
      rw [show m_stp (m_begins N sort (ab_ii 0) (ab_ii 0)) 102 24 = m_begins N sort (ab_ii 0) (ab_ii 0) 102 24 from wd_up_ne _ _ (Or.inr (by decide))]
      exact hfb
    have h1 := ((h0.sc n1 n2 n3).pu (fk' := fun _ => 0) (fp' := fun _ => none) (m := 0) (z' := S0.2.2.2 + 3 + 13 + 13)).1
    have hsz2 : m_sz (m_stp (m_begins N sort (ab_ii 0) (ab_ii 0))) (N 102 8) = 0 := m_pd_sz h1.2.1
    rw [hsz2]
    exact h1.tog hb0 (fun _ j hj => absurd hj (Nat.not_lt_zero _))
  · rw [if_neg c1, if_neg (fun q => c1 (by rw [hnx]; exact q.2)), hsz]
    obtain ⟨h1, h2⟩ := h0.pu (fk' := fun _ => 0) (fp' := fun _ => none) (m := 0) (z' := S0.2.2.2 + 3 + 13 + 13)
    exact h_mnl hG hGr hGk hb0 hcl (Nat.le_refl _) 12 0 102 (fun _ => 0) (fun _ => none) F0 T0 (r_S0 S0) _ rfl (by omega) (by omega) h1 (fun _ j hj => absurd hj (Nat.not_lt_zero _)) (fun _ j hj => absurd hj (Nat.not_lt_zero _)) h2 (by show S0.2.2.1 + 3 ≤ S0.2.2.1 + 1 + 1 + 1; omega)
/-- behind a tag -/
theorem h_at.tag (h : h_at F0 T0 S0 M0 t (ab_ii 4) wo hb F T S M 1 fk fp) (hb0 : 0 ≤ hb ∧ hb ≤ 12) {b : Nat} (hfp : fp 0 = some b) (hfk : fk 0 = ab_ii 0) : h_res F0 T0 S0 M0 (r_tag2 wo (some b, S)) (m_ends M t 1, t) (hb + 1) := by
  have hf := h.rT
  have hnt := h.nt
  obtain ⟨⟨a1, a2, a3, a4, a5⟩, b', ⟨c1, c2⟩, ⟨d1, d2⟩, ⟨e1, e2⟩, f, i, k1, k2⟩ := h
  obtain ⟨I, g, k, z⟩ := S
  have hTb : T b := by
    obtain ⟨b1, b2, b3⟩ := hf 0 (by omega)
    rw [hfp] at b2
    cases b2
    exact b3
  have er : ∀ x, x ≠ 106 → x ≠ 107 → m_ends M t 1 x = M x := fun x h1 h2 => m_ends_row h1 h2
  have e102 := er 102 (by decide) (by decide)
  have h125 : 125 ≤ k := c2.2.1
  have hW : c_W T g k := c2.1
  have hkk : S0.2.2.1 ≤ k := c_hs_kk c1
  have hmk := fun (T1 : Nat → Prop) (S1 : c_St) (hc : c_st T1 S1 T (c_J, g, k, z)) (hq : S1.2.2.1 ≤ k) => c_mkg_st (kd := ab_ii 4) (wo := wo) (z' := z + 1 + 6) (c_st.cell hc (x := k) (k' := k + 1) (c := ab_ra 4 1 (ab_up (fun _ => none) 0 (some b))) (z' := z + 1) (I' := c_J) (Nat.le_refl _) (Nat.le_succ _) c_Ifr.rf) (by omega) (q := k) (np := 1) (fq := ab_up (fun _ => none) 0 (some b)) hq ⟨⟨wd_mut_new h125, by omega⟩, ab_up_self _ _ _, by omega⟩ (c_one_T hTb) c_Ifr.rf
  have h3 := hmk T0 (c_J, S0.2) c1 hkk
  have h3' := hmk T (c_J, g, k, z) (c_st.rf hW) (Nat.le_refl _)
  have hfin := h_fin (M := M) (g' := c_mkg (ab_up g k (ab_ra 4 1 (ab_up (fun _ => none) 0 (some b)))) (k + 1) (ab_ii 4) wo k 1 (ab_up (fun _ => none) 0 (some b))) (T' := fun c => T c ∨ c = k + 1) (a := k + 1) (ka := k + 1 + 1) (pa := k) (nk := 0) (fk2 := fun _ => 0) (fp2 := ab_up (fun _ => none) 0 (some b)) (kd := ab_ii 4) (wo := wo) (g2 := ab_up (ab_up g k (ab_ra 4 1 (ab_up (fun _ => none) 0 (some b)))) (k + 1 + 1) (ab_ia 0 0 (fun _ => 0))) f i a4 ⟨a3, b'.2.1⟩ (fun b q => hnt b t q rfl) (fun u q => by have := (hW _ (f.in q).1).1.2; omega) hb0 (fun _ q => Or.inl q) (Or.inr rfl) (fun c hc => h_sm_wf (c_wf_xt (hW c hc) h3'.ofr h3'.kk)) (ab_up_self _ _ _) ((ab_up_ne _ _ (by omega)).trans (ab_up_self _ _ _)) ((ab_up_ne _ _ (by omega)).trans ((ab_up_ne _ _ (by omega)).trans (ab_up_self _ _ _))) (fun j hj => by rw [show j = 0 by omega, ab_up_self, hfp]) (fun j hj => by rw [if_neg (by omega), show j = 0 by omega, hfk]) (fun c hc => (h_sm_wf (c_wf_xt (k' := k) (hW c hc) (c_ofr_up (c_ofr_up c_ofr.rf (Nat.le_refl _)) (by omega)) (Nat.le_refl _))).2.2.2) k1 k2 (fun e => absurd e (by decide))
  obtain ⟨f1, f2⟩ := hfin
  refine ⟨d1.cg (fun j _ => by show m_ends M t 1 102 j = _; rw [e102]) (er 120 (by decide) (by decide)), fun q => absurd (by show (m_ends M t 1 102 24).toInt = -1; rw [e102]; exact d2) q, fun _ => ⟨_, h_and F (k + 1) t, k + 1, rfl, h3, fun b u q => Or.inl (e1 b u q), fun b u q => ?_, ?_, Or.inr ⟨rfl, rfl⟩, f2⟩⟩
  · rcases q with q | ⟨-, q⟩
    · rcases e2 b u q with q1 | q1
      · exact Or.inl q1
      · exact Or.inr (by omega)
    · rw [q]; exact Or.inr a2
  · show h_k (h_and F (k + 1) t) _ (c_mkg (ab_up g k (ab_ra 4 1 (ab_up (fun _ => none) 0 (some b)))) (k + 1) (ab_ii 4) wo k 1 (ab_up (fun _ => none) 0 (some b))) (m_ends M t 1) (m_ends M t 1 102 8).toInt
    rw [e102]
    exact f1
theorem h_rtag (hG : h_G G G' hb) (hGr : m_rG G') (hGk : ∀ M, m_kf M (G' M).1) (hb0 : 0 ≤ hb ∧ hb ≤ 12) (hp : m_rp M0) (hrg : m_rg M0 N) (hpt : (N 102 24).toInt = -1 → (N 102 8).toInt + m_pt N + 1 ≤ (M0 102 8).toInt + m_pt M0) {v v' : Int32} {I' : wd_I} (hpr : r_pr T0 (I', S0.2)) (hr : h_rd I' N) (hv : (N 102 24).toInt = -1 → v' = v) (hk : h_k F0 T0 S0.2.1 M0 (M0 102 8).toInt) (hfin : m_rg M0 (m_ends (m_adds (G' (m_begins N (ab_ii 4) v' (ab_ii 0))).1 (N 102 8) (ab_ii 0) (G' (m_begins N (ab_ii 4) v' (ab_ii 0))).2 0) (N 102 8) 1)) : h_res F0 T0 S0 M0 (if 0 ≤ (I' 1 3).toInt then (none, (I', S0.2)) else r_tag2 v (G (I', S0.2))) (m_ends (m_adds (G' (m_begins N (ab_ii 4) v' (ab_ii 0))).1 (N 102 8) (ab_ii 0) (G' (m_begins N (ab_ii 4) v' (ab_ii 0))).2 0) (N 102 8) 1, N 102 8) (hb + 1) := by
  by_cases f1 : (N 102 24).toInt = -1
  · rw [if_neg (h_rd.un (S := (I', S0.2)) hr f1)]
    rw [hv f1] at hfin ⊢
    have h0 := h_at_begin (S0 := (I', S0.2)) (sort := ab_ii 4) (wo := v) (hb := hb) (fk := fun _ => ab_ii 0) (fp := fun _ => none) hp hrg (hpt f1) hpr hr f1 hk
    obtain ⟨g1, g2, g3, g4⟩ := h0.go hG hGr
    have rg1 := h0.2.1.1.tr g2
    generalize G' (m_begins N (ab_ii 4) v (ab_ii 0)) = R1 at *
    obtain ⟨N1, p⟩ := R1
    dsimp only at *
    by_cases f2 : (N1 102 24).toInt = -1
    · obtain ⟨T1, F1, a, s1, h1, s6, s7, -⟩ := g4 f2
      have eG : G (I', S0.2) = (some a, (G (I', S0.2)).2) := Prod.ext s1 rfl
      rw [eG]
      exact (h1.adds (by omega) s6 s7 (fk' := fun _ => ab_ii 0) (fp' := fun _ => some a) (fun _ _ => rfl) rfl (fun j hj => absurd hj (Nat.not_lt_zero _)) rfl).tag hb0 rfl rfl
    · have eG : G (I', S0.2) = (none, (G (I', S0.2)).2) := Prod.ext (g3 f2) rfl
      rw [eG]
      exact h_res_no g1 rg1 hfin (m_adds_kf.tr m_ends_kf) f2
  · rw [if_pos (h_rd.ft (S := (I', S0.2)) hr f1)]
    exact h_res_no (J := (I', S0.2)) hr hrg hfin (((m_begins_kf.tr (hGk _)).tr m_adds_kf).tr m_ends_kf) f1
theorem m_rd_eq {f : Nat} (hf : (M 102 24).toInt = -1) : m_rd (f + 1) M = m_rd1 (m_rd f) (m_rm1 M) := by
  show (if _ then _ else _) = _
  rw [if_neg (fun q => q hf)]
theorem h_rm1 {I : wd_I} (h : h_rd I M) : h_rd I (m_rm1 M) := h.cg (fun j hj => m_rm1_n (by omega)) (wd_up_row _ _ _ (by decide))
theorem h_rd1 {f : Nat} (hG : h_G (r_rd f) (m_rd f) (f : Int)) (hf12 : f ≤ 12) : h_G (r_rd (f + 1)) (m_rd (f + 1)) ((f + 1 : Nat) : Int) := by
  intro F T S M hpr hp hr hf hk
  have hGr := m_rd_rr f
  have hGk := m_rd_kf f
  have hb0 : 0 ≤ (f : Int) ∧ (f : Int) ≤ 12 := by omega
  have hfin := (m_rd_rr (f + 1) M hp).1
  rw [m_rd_eq hf] at hfin ⊢
  have hnx := hr.nx hf
  have hr1 := h_rm1 hr
  have hf1 : (m_rm1 M 102 24).toInt = -1 := by rw [m_rm1_n (by decide)]; exact hf
  have hst : 0 ≤ (m_here M).toInt → h_rd (t_step S.1) (m_stp (m_rm1 M)) ∧ (m_stp (m_rm1 M) 102 24).toInt = -1 ∧ r_pr T (t_step S.1, S.2) := fun q => by
    have e : m_here (m_rm1 M) = m_here M := m_here_rm1
    refine ⟨h_step hr1 hf1 (m_here_lt (M := m_rm1 M) (by rw [e]; exact q)).1, ?_, ⟨hpr.1, hpr.2.1, t_step_tp hpr.2.2⟩⟩
    rw [show m_stp (m_rm1 M) 102 24 = m_rm1 M 102 24 from wd_up_ne _ _ (Or.inr (by decide))]
    exact hf1
  unfold m_rd1 at hfin ⊢
  rw [m_here_rm1, ← hnx] at hfin ⊢
  show h_res F T S M (r_rd1 (r_rd f) S) _ _
  unfold r_rd1
  by_cases c1 : (t_next S.1).toInt = 40
  · rw [if_pos c1] at hfin ⊢
    rw [if_pos c1]
    obtain ⟨s1, s2, s3⟩ := hst (by rw [← hnx]; omega)
    obtain ⟨rg, pS, lt⟩ := m_stp1_f hp (by rw [← hnx]; omega)
    exact h_rpair (S0 := (t_step S.1, S.2)) hG hGr hGk hb0 hp rg lt s3 s1 s2 hk hfin
  rw [if_neg c1] at hfin ⊢
  rw [if_neg c1]
  by_cases c2 : (t_next S.1).toInt = 91
  · rw [if_pos c2] at hfin ⊢
    rw [if_pos c2]
    obtain ⟨s1, s2, s3⟩ := hst (by rw [← hnx]; omega)
    obtain ⟨rg, pS, lt⟩ := m_stp1_f hp (by rw [← hnx]; omega)
    exact h_rmany (S0 := (t_step S.1, S.2)) hG hGr hGk hb0 (Or.inl rfl) hp rg lt s3 s1 s2 hk
  rw [if_neg c2] at hfin ⊢
  rw [if_neg c2]
  by_cases c3 : (t_next S.1).toInt = 123
  · rw [if_pos c3] at hfin ⊢
    rw [if_pos c3]
    obtain ⟨s1, s2, s3⟩ := hst (by rw [← hnx]; omega)
    obtain ⟨rg, pS, lt⟩ := m_stp1_f hp (by rw [← hnx]; omega)
    exact h_rmany (S0 := (t_step S.1, S.2)) hG hGr hGk hb0 (Or.inr rfl) hp rg lt s3 s1 s2 hk
  rw [if_neg c3] at hfin ⊢
  rw [if_neg c3]
  by_cases c4 : (t_next S.1).toInt = 35
  · rw [if_pos c4] at hfin ⊢
    rw [if_pos c4]
    obtain ⟨s1, s2, s3⟩ := hst (by rw [← hnx]; omega)
    obtain ⟨rg, pS, lt⟩ := m_stp1_f hp (by rw [← hnx]; omega)
    have d1 := h_digits s1 (m := 1) (by omega)
    have d2 := m_one_sc (lo := ab_ii 48) (hi := ab_ii 57) s1.2.2.1 (by decide)
    have d3 := (t_digits_tf (most := 1) s3.2.2 (by omega)).1
    have e8 := d2.1.2.1 8 (by decide) (by decide)
    exact h_rtag (S0 := S) (N := (m_one (m_stp (m_rm1 M)) (ab_ii 48) (ab_ii 57)).1) (v := (t_digits (t_step S.1) 1).2) (v' := ab_ii ((m_one (m_stp (m_rm1 M)) (ab_ii 48) (ab_ii 57)).2.toInt - 48)) (I' := (t_digits (t_step S.1) 1).1) hG hGr hGk hb0 hp (rg.tr d2.1.rg) (fun _ => by have := d2.2 s2; rw [e8]; omega) ⟨hpr.1, hpr.2.1, d3.2.1⟩ d1.1 d1.2 hk hfin
  rw [if_neg c4] at hfin ⊢
  rw [if_neg c4]
  have d1 := h_signed hr1
  have d2 := m_signed_sc (M := m_rm1 M) hr1.2.2.1
  have d3 := (t_signed_tf hpr.2.2).1
  have e8 := d2.1.2.1 8 (by decide) (by decide)
  have rg1 : m_rg M (m_rm1 M) := m_many1_rg hp.1
  exact h_rnum (S0 := S) (hb := (f : Int)) hp (rg1.tr d2.1.rg) (fun _ => by
    have h1 := d2.2 hf1
    have h2 := m_rm1_pt (M := M)
    rw [e8, m_rm1_n (by decide)]
    omega) ⟨hpr.1, hpr.2.1, d3.2.1⟩ d1.1 d1.2 hk hb0 hfin
theorem h_rdG : ∀ f : Nat, f ≤ 13 → h_G (r_rd f) (m_rd f) (f : Int)
  | 0, _ => fun F T S M hpr hp hr hf hk => by
    have n1 := h_failat hr
    have n2 := (m_fails_sc (p := M 102 23) hr.2.2.1 hr.2.2.1.1).1
    refine h_res_no (J := (t_fail S.1 (S.1 1 2), S.2)) (X := m_fails M (M 102 23)) n1 n2.rg n2.rg (fun _ => rfl) ?_
    unfold m_fails
    rw [wd_up_self, if_pos hf]
    have := hr.2.2.1.1
    omega
  | f + 1, h => h_rd1 (h_rdG f (by omega)) (by omega)
end
end
section
/-! ===== both objects: a whole THING read (own text) ===== -/
section
variable {F : Nat → Int32 → Prop} {T : Nat → Prop} {I J : wd_I} {M N : wd_I} {g : Nat → ab_C} {k z : Nat}
theorem h_rend (h : h_rd J N) : h_rd (r_end J) (m_thf N) := by
  rcases h.f0 with f0 | f0
  · have ha := h.at f0
    unfold r_end m_thf
    by_cases c : (N 102 23).toInt < (N 102 22).toInt
    · rw [if_neg (by rw [ha, h.1.1]; omega), if_pos ⟨f0, c⟩]
      exact h_failat h
    · rw [if_pos (by rw [ha, h.1.1]; omega), if_neg (fun q => c q.2)]
      exact h
  · have fJ : 0 ≤ (J 1 3).toInt := by rw [h.2.2.2.1]; exact f0
    rw [r_end_flt fJ]
    unfold m_thf
    rw [if_neg (fun q => by have := q.1; omega)]
    exact h
theorem h_Rd (h : h_tp I M) (hb : 0 ≤ (I 1 1).toInt ∧ (I 1 1).toInt ≤ 100) (hW : c_W T g k) (h125 : 125 ≤ k) (h1 : 1 ≤ (M 102 8).toInt) (h2 : (M 102 8).toInt ≤ 3012) (hk : h_k F T g M (M 102 8).toInt) : r_RI (I, g, k, z) 1 3 = m_th2 M 102 24 ∧ ((m_th2 M 102 24).toInt = -1 ∨ 0 ≤ (m_th2 M 102 24).toInt) ∧ (¬ (m_th2 M 102 24).toInt = -1 → 0 ≤ (r_RI (I, g, k, z) 1 3).toInt) ∧ ((m_th2 M 102 24).toInt = -1 → ∃ (T' : Nat → Prop) (F' : Nat → Int32 → Prop) (a : Nat), (r_R (I, g, k, z)).1 = some a ∧ c_hs T (I, g, k, z) T' (r_R (I, g, k, z)).2 ∧ (∀ b u, F b u → F' b u) ∧ (∀ b u, F' b u → F b u ∨ (M 102 8).toInt ≤ u.toInt) ∧ h_k F' T' (r_R (I, g, k, z)).2.2.1 (m_th2 M) (m_th2 M 102 8).toInt ∧ F' a (m_th1 M).2) := by
  have htp : 0 ≤ (M 102 22).toInt ∧ (M 102 22).toInt ≤ 100 := by rw [← h.1]; exact hb
  have e22 : m_th0 M 102 22 = M 102 22 := m_th0_n ⟨by decide, by decide, by decide⟩
  have e8 : m_th0 M 102 8 = M 102 8 := m_th0_n ⟨by decide, by decide, by decide⟩
  have e23 : m_th0 M 102 23 = ab_ii 0 := by unfold m_th0; rw [wd_up_ne _ _ (by omega), wd_up_ne _ _ (by omega), wd_up_self]
  have e24 : m_th0 M 102 24 = ab_ii (-1) := by unfold m_th0; rw [wd_up_ne _ _ (by omega), wd_up_self]
  have f12 : r_new I 1 2 = ab_ii 0 := by unfold r_new; rw [wd_up_ne _ _ (by omega), wd_up_self]
  have f13 : r_new I 1 3 = ab_ii (-1) := by unfold r_new; rw [wd_up_self]
  have h0 : h_rd (r_new I) (m_th0 M) := by
    refine ⟨h.fr (fun j => ⟨?_, ?_⟩) ⟨e22, m_th0_row (by decide)⟩, r_new_tp hb, ?_, f13.trans e24.symm, Or.inl ⟨by rw [e24]; rfl, f12.trans e23.symm⟩⟩
    · unfold r_new; rw [wd_up_ne _ _ (by omega), wd_up_ne _ _ (by omega)]
    · unfold r_new; rw [wd_up_ne _ _ (by omega), wd_up_ne _ _ (by omega)]
    · unfold m_tp
      rw [e22, e23]
      exact ⟨by decide, htp.1, htp.2⟩
  have hra : ∀ b u, F b u → m_ra M (m_th0 M) u.toInt.toNat := fun b u _ => ⟨by rw [m_th0_row (by decide)], by rw [m_th0_row (by decide)], by rw [m_th0_row (by decide)], by rw [m_th0_row (by decide)], by rw [m_th0_row (by decide)], fun j _ => ⟨by rw [m_th0_row (by decide)], by rw [m_th0_row (by decide)]⟩⟩
  obtain ⟨r1, r2, r3⟩ := h_rdG 13 (by omega) F T (r_new I, g, k, z) (m_th0 M) ⟨hW, h125, r_new_tp hb⟩ (m_th0_rp h1 h2 htp) h0 (by rw [e24]; rfl) (hk.mv (fun _ q => q) (fun _ _ => h_sm.rf) hra (by rw [e8]; exact Int.le_refl _))
  have r4 : h_rd (r_RI (I, g, k, z)) (m_thf (m_th1 M).1) := h_rend r1
  have e2 : m_th2 M 102 24 = m_thf (m_th1 M).1 102 24 := wd_up_ne _ _ (by omega)
  refine ⟨by rw [e2]; exact r4.2.2.2.1, by rw [e2]; exact r4.f0, fun q => ?_, fun q => ?_⟩
  · rw [e2] at q
    rw [r4.2.2.2.1]
    rcases r4.f0 with q1 | q1
    · exact absurd q1 q
    · exact q1
  · have q1 : ((m_th1 M).1 102 24).toInt = -1 := by
      rw [e2] at q
      unfold m_thf at q
      split at q
      next hc => exact hc.1
      next hc => exact q
    obtain ⟨T', F', a, s1, s2, s3, s4, s5, s6, s7⟩ := r3 q1
    rw [e8] at s4
    have hr2 : ∀ b u, F' b u → m_ra (m_rd 13 (m_th0 M)).1 (m_th2 M) u.toInt.toNat := fun b u _ => ⟨by rw [m_th2_row (by decide)]; rfl, by rw [m_th2_row (by decide)]; rfl, by rw [m_th2_row (by decide)]; rfl, by rw [m_th2_row (by decide)]; rfl, by rw [m_th2_row (by decide)]; rfl, fun j _ => ⟨by rw [m_th2_row (by decide)]; rfl, by rw [m_th2_row (by decide)]; rfl⟩⟩
    exact ⟨T', F', a, s1, s2, s3, s4, s5.mv (fun _ q => q) (fun _ _ => h_sm.rf) hr2 (by rw [m_th2_n ⟨by decide, by decide⟩]; exact Int.le_refl _), s6⟩
end
end
