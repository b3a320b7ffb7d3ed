/-! ===== the reference: its calls, with what they leave of paths and tape (own text; by frames.py) ===== -/
def r_fp (M M' : wd_I) : Prop := (∀ a, 113 ≤ a → a ≤ 120 → a ≠ 116 → M' a = M a) ∧ M' 102 20 = M 102 20
theorem r_fp.rf {M : wd_I} : r_fp M M := ⟨fun _ _ _ _ => rfl, rfl⟩
theorem r_fp.tr {M N K : wd_I} (h : r_fp M N) (h' : r_fp N K) : r_fp M K := ⟨fun a a1 a2 a3 => (h'.1 a a1 a2 a3).trans (h.1 a a1 a2 a3), h'.2.trans h.2⟩
theorem r_fp.rs {M N : wd_I} (h : ∀ a, 110 ≤ a → a ≤ 120 → N a = M a) (e : N 102 20 = M 102 20) : r_fp M (m_rs M N) := by
  unfold m_rs
  exact ⟨fun a a1 a2 _ => (wd_up_row _ _ _ (by omega)).trans (h a (by omega) a2), (wd_up_ne _ _ (by omega)).trans e⟩
theorem r_fp.of {M N : wd_I} (h : ∀ a, 110 ≤ a → a ≤ 120 → N a = M a) (e : N 102 20 = M 102 20) : r_fp M N := ⟨fun a a1 a2 _ => h a (by omega) a2, e⟩
theorem r_fp.bec {M N : wd_I} (h : r_fp M N) {s c : Nat} {t : Int32} : r_fp M (m_becomes N s t c) := ⟨fun a a1 a2 a3 => by rw [m_becomes_row (by omega) (by omega) (by omega)]; exact h.1 a a1 a2 a3, by rw [m_becomes_row (by decide) (by decide) (by decide)]; exact h.2⟩
theorem r_fp.up {M N : wd_I} (h : r_fp M N) {j : Nat} {v : Int32} (hj : j ≠ 20) : r_fp M (wd_up N 102 j v) := ⟨fun a a1 a2 a3 => (wd_up_row _ _ _ (by omega)).trans (h.1 a a1 a2 a3), (wd_up_ne _ _ (Or.inr (Ne.symm hj))).trans h.2⟩
theorem r_fp.eqv {M N : wd_I} (h : m_eqv M N) : r_fp M N := ⟨fun a a1 a2 _ => h.1 a (by omega) a2, h.2.2.2.1⟩
theorem r_fp.mk {M N : wd_I} (h : r_fp M N) : r_fp M (m_mk N) := by
  unfold m_mk
  exact h.up (by decide)
def rf_q (M : wd_I) (I : wd_I) (P : wd_P) (g : Nat → ab_C) (k z : Nat) (Q : ab_Q) (T : Int32) : Prop := ∀ (r : Int32) (M' : wd_I), m_ok M' → r_fp M M' → M' 102 22 = T → Q (some (.inl r)) (wd I P M' g, k, z)
def rf_ql (M : wd_I) (I : wd_I) (P : wd_P) (g : Nat → ab_C) (k z : Nat) (Q : ab_Q) (T : Int32) : Prop := ∀ (r : Int64) (M' : wd_I), m_ok M' → r_fp M M' → M' 102 22 = T → Q (some (.inr (.inl r))) (wd I P M' g, k, z)
section
variable {d : Nat} {I : wd_I} {P : wd_P} {M : wd_I} {g : Nat → ab_C} {k z : Nat} {Q : ab_Q}
theorem rf_thing (hd : 46 ≤ d) (hok : m_ok M) {s : Int32} (hQ : rf_q M I P g k z Q (@ite Int32 (m_sh s) (Classical.propDecidable _) (ab_ii 0) (M 102 22))) : ab_CT d 157 [wd_v 102, .inl s] (wd I P M g, k, z) Q := by
  have hb := m_ok_b hok
  obtain ⟨n, hn, hn100⟩ := hok.2.2.2.2.2.2.1
  have htp : 0 ≤ (M 102 22).toInt ∧ (M 102 22).toInt ≤ 100 := by rw [hn, ab_tI (by omega) (by omega)]; omega
  by_cases hs : m_sh s
  · rw [if_pos hs] at hQ
    obtain ⟨c, hc, hc10⟩ := m_ok_c hok hs
    have hp := m_th0_rp (M := M) (by omega) hb.2.1 htp
    have hrr := m_rd_rr 13 (m_th0 M) hp
    have hfr := hrr.1.1
    rw [m_th0_n (by decide)] at hfr
    have hsb : m_sb (M 102 8).toInt M (m_th2 M) := by
      refine ⟨fun t ht => ?_, fun i hi => ?_⟩
      · rw [m_th2_row (by decide), m_th2_row (by decide), m_th2_row (by decide), m_th2_row (by decide), m_th2_row (by decide)]
        have := hfr.1.1 t ht
        rw [m_th0_row (by decide), m_th0_row (by decide), m_th0_row (by decide), m_th0_row (by decide), m_th0_row (by decide)] at this
        exact this
      · rw [m_th2_row (by decide), m_th2_row (by decide)]
        have := hfr.1.2 i hi
        rw [m_th0_row (by decide), m_th0_row (by decide)] at this
        exact this
    have hrow : ∀ a, 110 ≤ a → a ≤ 119 → m_th2 M a = M a := fun a h1 h2 => by
      rw [m_th2_row (by omega), show (m_th1 M).1 a = m_th0 M a from hfr.2.1 a h1, m_th0_row (by omega)]
    have hnn : ∀ j, j ≠ 8 → j ≠ 22 → j ≠ 23 → j ≠ 24 → j ≠ 25 → m_th2 M 102 j = M 102 j := fun j j1 j2 j3 j4 j5 => by
      rw [m_th2_n ⟨j2, j4⟩, show (m_th1 M).1 102 j = m_th0 M 102 j from hfr.2.2 j j1 j3 j4 j5, m_th0_n ⟨j3, j4, j5⟩]
    have hro2 : ∀ a, 110 ≤ a → a ≤ 120 → m_th2 M a = M a := fun a h1 h2 => by
      rw [m_th2_row (by omega), show (m_th1 M).1 a = m_th0 M a from hfr.2.1 a h1, m_th0_row (by omega)]
    have e9 := hnn 9 (by decide) (by decide) (by decide) (by decide) (by decide)
    have e20 := hnn 20 (by decide) (by decide) (by decide) (by decide) (by decide)
    have e22 : m_th2 M 102 22 = ab_ii 0 := by unfold m_th2; rw [wd_up_self]
    have hrs : m_ok (m_rs M (m_th2 M)) := m_ok_rs hok hsb (m_9_e e9) (by rw [e9]; exact hb.2.2.2) hrow e20 ⟨0, e22, by omega⟩
    have ers : m_rs M (m_th2 M) 102 22 = ab_ii 0 := by unfold m_rs; rw [wd_up_ne _ _ (by omega)]; exact e22
    refine x_thing hd (by omega) hb.2.1 htp hc hc10 (fun h => absurd hs h) (fun _ _ => hQ _ _ hrs (.rs hro2 e20) ers) (fun _ _ _ => hQ _ _ hrs (.rs hro2 e20) ers) (fun _ hu h3 => ?_)
    obtain ⟨t1, t2, t3, t4, t5, t6, t7⟩ := m_th_T hok.1 (by omega) hb.2.1 htp hu
    have e3 : (m_th3 M).toInt = (M 102 9).toInt + (m_th2 M 102 25).toInt := by unfold m_th3; rw [e9, ab_tI (by omega) (by omega)]
    have hrm := hok.2.2.1
    unfold m_rm at hrm
    have u8 : ∀ j, j ≠ 9 → wd_up (m_th2 M) 102 9 (m_th3 M) 102 j = m_th2 M 102 j := fun j hj => wd_up_ne _ _ (Or.inr hj)
    have u9 : wd_up (m_th2 M) 102 9 (m_th3 M) 102 9 = m_th3 M := wd_up_self _ _ _ _
    have ur : ∀ a, a ≠ 102 → wd_up (m_th2 M) 102 9 (m_th3 M) a = m_th2 M a := fun a ha => wd_up_row _ _ _ ha
    have hN : m_ok (wd_up (m_th2 M) 102 9 (m_th3 M)) := by
      refine m_ok_of hok ?_ (by rw [u8 8 (by decide)]; omega) (by unfold m_9; rw [u9]; omega) ?_ (fun a h1 h2 => by rw [ur a (by omega)]; exact hrow a h1 h2) (by rw [u8 20 (by decide)]; exact e20) ⟨0, by rw [u8 22 (by decide)]; exact e22, by omega⟩
      · rw [u8 8 (by decide)]
        exact m_T_c (fun a h1 h2 => ur a (by omega)) t1
      · unfold m_rm
        rw [u8 8 (by decide), u9]
        omega
    have hsr := hs
    unfold m_sh at hsr
    refine hQ _ _ (m_ok_bec hN (by omega) (by rw [ur 112 (by decide), hrow 112 (by decide) (by decide)]; exact hc) hc10 (by rw [u8 8 (by decide)]; omega)) ((r_fp.of hro2 e20).up (by decide)).bec ?_
    rw [m_becomes_row (by decide) (by decide) (by decide), u8 22 (by decide)]
    exact e22
  · rw [if_neg hs] at hQ
    exact x_thing_b hd hs (hQ _ _ hok .rf rfl)
theorem rf_over (hd : 41 ≤ d) (hok : m_ok M) {s a p how n : Int32} (hQ : rf_q M I P g k z Q (M 102 22)) : ab_CT d 174 [wd_v 102, .inl s, .inl a, .inl p, .inl how, .inl n] (wd I P M g, k, z) Q := by
  by_cases hall : m_sh s ∧ m_sh a ∧ m_pa p ∧ m_how how.toInt n.toInt
  · have hb := m_ok_b hok
    obtain ⟨hs, ha, hp, hh⟩ := id hall
    obtain ⟨c, hc, hc10⟩ := m_ok_c hok hs
    have hsa := m_ok_sh hok ha
    have hcop : m_cop (M 102 8).toInt M how n := ⟨hok.1.tb.1, by omega, Int.le_refl _, hok.2.2.1, hh.1, fun h7 => ⟨hh.2.2 h7, m_ok_sh hok (hh.2.2 h7)⟩⟩
    have hg := m_co_good (p := p) hcop hsa.1 hsa.2
    have h9 := m_ov_9 (p := p.toInt.toNat) 21 (m_co0 M p how n) (M 110 a.toInt.toNat) 0 (m_cop_op hcop) (by rw [m_co0_n (by decide)]; exact hb.2.2.1) hsa.1 hsa.2
    change m_9 (m_co0 M p how n) (m_co M (M 110 a.toInt.toNat) p how n).1 at h9
    have hT := m_co_T (p := p) hcop hok.1 hsa.1 hsa.2
    have hx := x_over (d := d) (I := I) (P := P) (g := g) (k := k) (z := z) (Q := Q) hd hok.lok hok.2.2.1 hc hc10 (fun h => absurd hall h)
    have h22 := hok.2.2.2.2.2.2.1
    generalize m_co M (M 110 a.toInt.toNat) p how n = R at *
    obtain ⟨N, r⟩ := R
    obtain ⟨g1, g2, g3, g4, g5⟩ := hg
    change m_fr (M 102 8).toInt (m_co0 M p how n) N at g1
    change m_rm N at g2
    change (m_co0 M p how n 102 8).toInt ≤ (N 102 8).toInt at g3
    change 0 ≤ r.toInt at g4
    change r.toInt < (N 102 8).toInt at g5
    unfold m_9 at h9
    rw [m_co0_n (by decide)] at g3 h9
    dsimp only at h9 hT hx
    have hsb : m_sb (M 102 8).toInt M N := by
      refine ⟨fun t ht => ?_, fun i hi => ?_⟩
      · have := g1.1.1 t ht
        rw [m_co0_row (by decide), m_co0_row (by decide), m_co0_row (by decide), m_co0_row (by decide), m_co0_row (by decide)] at this
        exact this
      · have := g1.1.2 i hi
        rw [m_co0_row (by decide), m_co0_row (by decide)] at this
        exact this
    have hrow : ∀ x, 110 ≤ x → x ≤ 119 → N x = M x := fun x h1 h2 => by rw [g1.2.1 x h1, m_co0_row (by omega)]
    have hro2 : ∀ x, 110 ≤ x → x ≤ 120 → N x = M x := fun x h1 h2 => by rw [g1.2.1 x h1, m_co0_row (by omega)]
    have hnn : ∀ j, j ≠ 8 → j ≠ 9 → j < 32 → N 102 j = M 102 j := fun j j1 j2 j3 => by rw [g1.2.2 j j1 j2 (by omega) (by omega), m_co0_n j3]
    have e22 : N 102 22 = M 102 22 := hnn 22 (by decide) (by decide) (by decide)
    have e20 : N 102 20 = M 102 20 := hnn 20 (by decide) (by decide) (by decide)
    have hrs : m_ok (m_rs M N) := m_ok_rs hok hsb h9 g2.2.2 hrow e20 (by rw [e22]; exact h22)
    have ers : m_rs M N 102 22 = M 102 22 := by unfold m_rs; rw [wd_up_ne _ _ (by omega)]; exact e22
    refine hx (fun _ _ => hQ _ _ hrs (.rs hro2 e20) ers) (fun _ _ _ => hQ _ _ hrs (.rs hro2 e20) ers) (fun _ hu hn2 hh2 => hQ _ _ ?_ (r_fp.of hro2 e20).bec ?_)
    · have hN : m_ok N := m_ok_of hok (hT hu hn2 hh2) g3 h9 g2 hrow e20 (by rw [e22]; exact h22)
      unfold m_sh at hs
      exact m_ok_bec hN (by omega) (by rw [hrow 112 (by decide) (by decide)]; exact hc) hc10 ⟨g4, g5⟩
    · rw [m_becomes_row (by decide) (by decide) (by decide)]; exact e22
  · exact x_over_b hd hall (hQ _ _ hok .rf rfl)
theorem rf_put (hd : 41 ≤ d) (hok : m_ok M) {s what a b n : Int32} (hQ : rf_q M I P g k z Q (M 102 22)) : ab_CT d 175 [wd_v 102, .inl s, .inl what, .inl a, .inl b, .inl n] (wd I P M g, k, z) Q := by
  by_cases hpo : m_pok s what a b n
  · have hb := m_ok_b hok
    obtain ⟨hs, hw, ha, hbb, hn⟩ := id hpo
    obtain ⟨c, hc, hc10⟩ := m_ok_c hok hs
    have hsa := m_ok_sh hok ha
    have hsb := m_ok_sh hok hbb
    obtain ⟨sz, a1, a2, a3, -⟩ := m_T_row hok.1 (t := (M 110 a.toInt.toNat).toInt.toNat) (by omega)
    have h22 := hok.2.2.2.2.2.2.1
    by_cases hS : what.toInt = 2 ∧ ¬ (M 103 (M 110 a.toInt.toNat).toInt.toNat).toInt = 3
    · exact x_put_S (by omega) hpo hS.1 ⟨hsa.1, by omega⟩ hS.2 (hQ _ _ hok .rf rfl)
    · by_cases hF : what.toInt = 2 ∧ sz = 12 ∧ (m_hk M (M 110 a.toInt.toNat).toInt.toNat (ab_ii (n.toInt + 1)) 12).toInt = 0
      · obtain ⟨f1, rfl, f3⟩ := hF
        exact x_put_F (by omega) hpo f1 ⟨hsa.1, by omega⟩ (by omega) a1 f3 (hQ _ _ hok .rf rfl)
      · have hk : what.toInt = 2 → (M 103 (M 110 a.toInt.toNat).toInt.toNat).toInt = 3 := fun h => by omega
        have h12 : what.toInt = 2 → (sz ≤ 11 ∨ ¬ (m_hk M (M 110 a.toInt.toNat).toInt.toNat (ab_ii (n.toInt + 1)) sz).toInt = 0) := fun h => by
          by_cases e : sz ≤ 11
          · exact Or.inl e
          · have e12 : sz = 12 := by omega
            subst e12
            exact Or.inr (fun q => hF ⟨h, rfl, q⟩)
        obtain ⟨w1, w2, w3⟩ := m_pW_T (what := what.toInt) (n := n) hok.1 hb.2.1 hsa hsb a1 hk h12
        have hx := x_put_ok (d := d) (I := I) (P := P) (g := g) (k := k) (z := z) (Q := Q) (by omega) hok.1 hb.2.1 hc hc10 hpo hsa hsb a1 hk h12
        generalize m_pW M what.toInt (M 110 a.toInt.toNat) (M 110 b.toInt.toNat) n sz = W at *
        obtain ⟨v8, vn⟩ := w2
        have hrow : ∀ x, 110 ≤ x → x ≤ 119 → W x = M x := fun x h1 h2 => w1.2.1 x h1
        have hro2 : ∀ x, 110 ≤ x → x ≤ 120 → W x = M x := fun x h1 h2 => w1.2.1 x h1
        have e22 : W 102 22 = M 102 22 := vn 22 (by decide)
        have e20 : W 102 20 = M 102 20 := vn 20 (by decide)
        have e9 : W 102 9 = M 102 9 := vn 9 (by decide)
        have hrs : m_ok (m_rs M W) := m_ok_rs hok w1.1 (m_9_e e9) (by rw [e9]; exact hb.2.2.2) hrow e20 (by rw [e22]; exact h22)
        have ers : m_rs M W 102 22 = M 102 22 := by unfold m_rs; rw [wd_up_ne _ _ (by omega)]; exact e22
        refine hx (fun _ => hQ _ _ hrs (.rs hro2 e20) ers) (fun _ _ _ => hQ _ _ hrs (.rs hro2 e20) ers) (fun hn2 hh2 hm => hQ _ _ ?_ (r_fp.of hro2 e20).mk.bec ?_)
        · have k8 : m_mk W 102 8 = W 102 8 := m_mk_8
          have k9 : (m_mk W 102 9).toInt = (M 102 9).toInt + 1 := by unfold m_mk; rw [wd_up_self, e9, ab_tI (by omega) (by omega)]
          have w8 : (W 102 8).toInt = (M 102 8).toInt + 1 := by rw [v8, ab_tI (by omega) (by omega)]
          have kn : ∀ j, j ≠ 9 → m_mk W 102 j = W 102 j := fun j hj => wd_up_ne _ _ (Or.inr hj)
          have hrm := hok.2.2.1
          unfold m_rm at hrm
          have hN : m_ok (m_mk W) := m_ok_of hok (by rw [k8]; exact m_T_c (fun x h1 h2 => m_mk_row (by omega)) (w3 hn2 hh2)) (by rw [k8]; omega) (by unfold m_9; omega) (by unfold m_rm; rw [k8]; omega) (fun x h1 h2 => by rw [m_mk_row (by omega)]; exact hrow x h1 h2) (by rw [kn 20 (by decide)]; exact e20) (by rw [kn 22 (by decide), e22]; exact h22)
          unfold m_sh at hs
          exact m_ok_bec hN (by omega) (by rw [m_mk_row (by decide), hrow 112 (by decide) (by decide)]; exact hc) hc10 ⟨by omega, by rw [k8]; omega⟩
        · rw [m_becomes_row (by decide) (by decide) (by decide)]
          unfold m_mk
          rw [wd_up_ne _ _ (by omega)]; exact e22
  · exact x_put_b (by omega) hpo (hQ _ _ hok .rf rfl)
theorem m_co_ok2 {K : wd_I} {t p how v : Int32} (hk : m_ok K) (hcop : m_cop (K 102 8).toInt K how v) (h0 : 0 ≤ t.toInt) (h1 : t.toInt < (K 102 8).toInt) {N : wd_I} {r : Int32} (hR : (N, r) = m_co K t p how v) : m_sb (K 102 8).toInt K N ∧ m_9 K N ∧ m_rm N ∧ (∀ x, 110 ≤ x → x ≤ 120 → N x = K x) ∧ N 102 20 = K 102 20 ∧ N 102 22 = K 102 22 ∧ (0 ≤ r.toInt ∧ r.toInt < (N 102 8).toInt) ∧ (K 102 8).toInt ≤ (N 102 8).toInt ∧ ((N 102 36).toInt = 0 → (N 106 r.toInt.toNat).toInt ≤ 200 → (N 107 r.toInt.toNat).toInt ≤ 12 → m_ok N) := by
  have hb := m_ok_b hk
  have h22 := hk.2.2.2.2.2.2.1
  have hg := m_co_good (p := p) hcop h0 h1
  have h9 := m_ov_9 (p := p.toInt.toNat) 21 (m_co0 K p how v) t 0 (m_cop_op hcop) (by rw [m_co0_n (by decide)]; exact hb.2.2.1) h0 h1
  change m_9 (m_co0 K p how v) (m_co K t p how v).1 at h9
  have hT := m_co_T (p := p) hcop hk.1 h0 h1
  rw [← hR] at hg h9 hT
  obtain ⟨g1, g2, g3, g4, g5⟩ := hg
  change m_fr (K 102 8).toInt (m_co0 K p how v) N at g1
  change m_rm N at g2
  change (m_co0 K p how v 102 8).toInt ≤ (N 102 8).toInt at g3
  change 0 ≤ r.toInt at g4
  change r.toInt < (N 102 8).toInt at g5
  unfold m_9 at h9 ⊢
  rw [m_co0_n (by decide)] at g3 h9
  dsimp only at h9 hT
  have hsb : m_sb (K 102 8).toInt K N := by
    refine ⟨fun t ht => ?_, fun i hi => ?_⟩
    · have := g1.1.1 t ht
      rw [m_co0_row (by decide), m_co0_row (by decide), m_co0_row (by decide), m_co0_row (by decide), m_co0_row (by decide)] at this
      exact this
    · have := g1.1.2 i hi
      rw [m_co0_row (by decide), m_co0_row (by decide)] at this
      exact this
  have hrow : ∀ x, 110 ≤ x → x ≤ 120 → N x = K x := fun x h1 h2 => by rw [g1.2.1 x h1, m_co0_row (by omega)]
  have hnn : ∀ j, j ≠ 8 → j ≠ 9 → j < 32 → N 102 j = K 102 j := fun j j1 j2 j3 => by rw [g1.2.2 j j1 j2 (by omega) (by omega), m_co0_n j3]
  have e22 : N 102 22 = K 102 22 := hnn 22 (by decide) (by decide) (by decide)
  have e20 : N 102 20 = K 102 20 := hnn 20 (by decide) (by decide) (by decide)
  exact ⟨hsb, h9, g2, hrow, e20, e22, ⟨g4, g5⟩, g3, fun hu hn2 hh2 => m_ok_of hk (hT hu hn2 hh2) g3 h9 g2 (fun x q1 q2 => hrow x q1 (by omega)) e20 (by rw [e22]; exact h22)⟩
theorem rf_fit (hd : 42 ≤ d) (hok : m_ok M) {s p w : Int32} (hQ : rf_q M I P g k z Q (M 102 22)) : ab_CT d 193 [wd_v 102, .inl s, .inl p, .inl w] (wd I P M g, k, z) Q := by
  have h22 := hok.2.2.2.2.2.2.1
  have hone : m_fok s p w → ∀ (M1 : wd_I), m_eqv M M1 → ∀ (N : wd_I) (r : Int32), (N, r) = m_co M1 (M 110 s.toInt.toNat) p (ab_ii 7) w → m_sb (M 102 8).toInt M N ∧ m_9 M N ∧ m_rm N ∧ (∀ x, 110 ≤ x → x ≤ 120 → N x = M x) ∧ N 102 20 = M 102 20 ∧ N 102 22 = M 102 22 ∧ (0 ≤ r.toInt ∧ r.toInt < (N 102 8).toInt) ∧ (M 102 8).toInt ≤ (N 102 8).toInt ∧ ((N 102 36).toInt = 0 → (N 106 r.toInt.toNat).toInt ≤ 200 → (N 107 r.toInt.toNat).toInt ≤ 12 → m_ok N) := by
    intro hfo M1 hE N r hR
    obtain ⟨hs, hp, hw⟩ := hfo
    have hk := m_ok_eqv hok hE
    have hs2 := m_ok_sh hok hs
    have hcop := m_eqv_cop hE hok.1 hok.2.2.1 hw (m_ok_sh hok hw)
    obtain ⟨c1, c2, c3, c4, c5, c6, c7, c8, c9⟩ := m_co_ok2 hk hcop hs2.1 (by rw [hE.2.1]; exact hs2.2) hR
    rw [hE.2.1] at c1 c8
    unfold m_9 at c2 ⊢
    rw [hE.2.2.1] at c2
    exact ⟨(m_eqv_sb hE).tr c1 (Int.le_refl _), c2, c3, fun x h1 h2 => (c4 x h1 h2).trans (hE.1 x (by omega) (by omega)), c5.trans hE.2.2.2.1, c6.trans hE.2.2.2.2, c7, c8, c9⟩
  have hrsN : ∀ N : wd_I, m_sb (M 102 8).toInt M N → m_9 M N → m_rm N → (∀ x, 110 ≤ x → x ≤ 120 → N x = M x) → N 102 20 = M 102 20 → N 102 22 = M 102 22 → m_ok (m_rs M N) ∧ r_fp M (m_rs M N) ∧ m_rs M N 102 22 = M 102 22 := fun N h1 h2 h3 h4 h5 h6 => ⟨m_ok_rs hok h1 h2 h3.2.2 (fun x q1 q2 => h4 x q1 (by omega)) h5 (by rw [h6]; exact h22), .rs h4 h5, by unfold m_rs; rw [wd_up_ne _ _ (by omega)]; exact h6⟩
  have h1st : m_fok s p w → ∀ (M1 : wd_I), m_eqv M M1 → m_ok (m_rs M (m_co M1 (M 110 s.toInt.toNat) p (ab_ii 7) w).1) ∧ r_fp M (m_rs M (m_co M1 (M 110 s.toInt.toNat) p (ab_ii 7) w).1) ∧ m_rs M (m_co M1 (M 110 s.toInt.toNat) p (ab_ii 7) w).1 102 22 = M 102 22 := fun hfo M1 hE => by
    obtain ⟨c1, c2, c3, c4, c5, c6, -⟩ := hone hfo M1 hE _ _ (Prod.eta _ : ((m_co M1 (M 110 s.toInt.toNat) p (ab_ii 7) w).1, (m_co M1 (M 110 s.toInt.toNat) p (ab_ii 7) w).2) = _)
    exact hrsN _ c1 c2 c3 c4 c5 c6
  refine x_fit hd hok.1 hok.lok hok.2.2.1 (fun _ => hQ _ _ hok .rf rfl) (fun hfo M1 hE _ => hQ _ _ (h1st hfo M1 hE).1 (h1st hfo M1 hE).2.1 (h1st hfo M1 hE).2.2) (fun hfo M1 hE _ _ => hQ _ _ (h1st hfo M1 hE).1 (h1st hfo M1 hE).2.1 (h1st hfo M1 hE).2.2) (fun hfo M1 hE N r hR hu hn2 hh2 M2 hE2 => ?_)
  obtain ⟨c1, c2, c3, c4, c5, c6, c7, c8, c9⟩ := hone hfo M1 hE N r hR
  have hkN := c9 hu hn2 hh2
  have hk2 := m_ok_eqv hkN hE2
  have hcop2 : m_cop (M2 102 8).toInt M2 (ab_ii 7) w := m_eqv_cop hE2 hkN.1 hkN.2.2.1 hfo.2.2 (m_ok_sh hkN hfo.2.2)
  have h2nd : m_ok (m_rs M (m_co M2 r p (ab_ii 7) w).1) ∧ r_fp M (m_rs M (m_co M2 r p (ab_ii 7) w).1) ∧ m_rs M (m_co M2 r p (ab_ii 7) w).1 102 22 = M 102 22 := by
    obtain ⟨e1, e2, e3, e4, e5, e6, -⟩ := m_co_ok2 (p := p) hk2 hcop2 c7.1 (by rw [hE2.2.1]; exact c7.2) (Prod.eta _ : ((m_co M2 r p (ab_ii 7) w).1, (m_co M2 r p (ab_ii 7) w).2) = _)
    rw [hE2.2.1] at e1
    unfold m_9 at e2 c2
    rw [hE2.2.2.1] at e2
    exact hrsN _ ((c1.tr (m_eqv_sb hE2) (Int.le_refl _)).tr e1 c8) (by unfold m_9; omega) e3 (fun x h1 h2 => ((e4 x h1 h2).trans (hE2.1 x (by omega) (by omega))).trans (c4 x h1 h2)) ((e5.trans hE2.2.2.2.1).trans c5) ((e6.trans hE2.2.2.2.2).trans c6)
  exact ⟨fun _ => hQ _ _ h2nd.1 h2nd.2.1 h2nd.2.2, fun _ _ => hQ _ _ h2nd.1 h2nd.2.1 h2nd.2.2, fun _ _ _ => hQ _ _ h2nd.1 h2nd.2.1 h2nd.2.2⟩
theorem rf_take (hd : 25 ≤ d) (hok : m_ok M) {s f p n : Int32} (hQ : rf_q M I P g k z Q (M 102 22)) : ab_CT d 176 [wd_v 102, .inl s, .inl f, .inl p, .inl n] (wd I P M g, k, z) Q := by
  obtain ⟨c, hc, hc10⟩ : ∃ c : Nat, (0 ≤ s.toInt → s.toInt ≤ 11 → M 112 s.toInt.toNat = ab_ii (c : Int)) ∧ c ≤ 10 := by
    by_cases hs : m_sh s
    · obtain ⟨c, c1, c2⟩ := m_ok_c hok hs
      exact ⟨c, fun _ _ => c1, c2⟩
    · exact ⟨0, fun h1 h2 => absurd ⟨h1, h2⟩ hs, by omega⟩
  refine x_take hd hok.lok hc hc10 (fun _ => hQ _ _ hok .rf rfl) (fun _ _ M' hE => hQ _ _ (m_ok_eqv hok hE) (.eqv hE) hE.2.2.2.2) (fun hg hne M' hE => hQ _ _ ?_ (r_fp.eqv hE).bec ?_)
  · have hin := m_foc_in hok.lok (s := f) (p := p) (n := n)
    exact m_ok_bec (m_ok_eqv hok hE) (by omega) (by rw [hE.1 112 (by decide) (by decide)]; exact hc hg.1 hg.2.1) hc10 (by rw [hE.2.1]; exact hin.resolve_left hne)
  · rw [m_becomes_row (by decide) (by decide) (by decide)]; exact hE.2.2.2.2
theorem rf_undo (hd : 3 ≤ d) (hok : m_ok M) {s : Int32} (hQ : rf_q M I P g k z Q (M 102 22)) : ab_CT d 177 [wd_v 102, .inl s] (wd I P M g, k, z) Q := by
  by_cases hs : m_sh s
  · obtain ⟨c, c1, c2⟩ := m_ok_c hok hs
    have hs' := hs
    unfold m_sh at hs'
    cases c with
    | zero => exact x_undo_0 hd hs'.1 hs'.2 c1 (hQ _ _ hok .rf rfl)
    | succ c =>
      have c1' : M 112 s.toInt.toNat = ab_ii ((c : Int) + 1) := c1
      refine x_undo hd hs'.1 hs'.2 c1' (by omega) (hQ _ _ (m_ok_undo hok (by omega) c1' (by omega)) ⟨fun a a1 a2 _ => (by unfold m_undo; rw [wd_up_row _ _ _ (by omega), wd_up_row _ _ _ (by omega)]), (by unfold m_undo; rw [wd_up_row _ _ _ (by decide), wd_up_row _ _ _ (by decide)])⟩ ?_)
      unfold m_undo
      rw [wd_up_row _ _ _ (by decide), wd_up_row _ _ _ (by decide)]
  · exact x_undo_b hd (by unfold m_sh at hs; omega) (hQ _ _ hok .rf rfl)
theorem rf_look (hd : 25 ≤ d) (hok : m_ok M) {s p n w : Int32} (hQ : rf_ql M I P g k z Q (M 102 22)) : ab_CT d 179 [wd_v 102, .inl s, .inl p, .inl n, .inl w] (wd I P M g, k, z) Q := x_look hd hok.lok (fun M' hE => hQ _ _ (m_ok_eqv hok hE) (.eqv hE) hE.2.2.2.2)
theorem rf_key (hd : 25 ≤ d) (hok : m_ok M) {s p n i : Int32} (hQ : rf_q M I P g k z Q (M 102 22)) : ab_CT d 180 [wd_v 102, .inl s, .inl p, .inl n, .inl i] (wd I P M g, k, z) Q := x_key hd hok.lok (fun M' hE => hQ _ _ (m_ok_eqv hok hE) (.eqv hE) hE.2.2.2.2)
theorem rf_fold (hd : 25 ≤ d) (hok : m_ok M) {s p c : Int32} (hQ : rf_ql M I P g k z Q (M 102 22)) : ab_CT d 183 [wd_v 102, .inl s, .inl p, .inl c] (wd I P M g, k, z) Q := x_fold hd hok.lok (fun M' hE => hQ _ _ (m_ok_eqv hok hE) (.eqv hE) hE.2.2.2.2)
theorem rf_best (hd : 25 ≤ d) (hok : m_ok M) {s p o n : Int32} (hQ : rf_q M I P g k z Q (M 102 22)) : ab_CT d 185 [wd_v 102, .inl s, .inl p, .inl o, .inl n] (wd I P M g, k, z) Q := x_best hd hok.lok (fun M' hE => hQ _ _ (m_ok_eqv hok hE) (.eqv hE) hE.2.2.2.2)
theorem rf_order (hd : 14 ≤ d) (hok : m_ok M) {a b : Int32} (hQ : rf_q M I P g k z Q (M 102 22)) : ab_CT d 186 [wd_v 102, .inl a, .inl b] (wd I P M g, k, z) Q := x_order hd hok.1.tb.1 hok.2.2.2.1 (fun _ => hQ _ _ hok .rf rfl) (fun _ _ _ _ => hQ _ _ hok .rf rfl)
theorem rf_shared (hd : 17 ≤ d) (hok : m_ok M) {a b : Int32} (hQ : rf_q M I P g k z Q (M 102 22)) : ab_CT d 189 [wd_v 102, .inl a, .inl b] (wd I P M g, k, z) Q := x_shared hd hok.1.tb.1 hok.2.2.2.1 (fun _ => hQ _ _ hok .rf rfl) (fun _ M' hE => hQ _ _ (m_ok_eqv hok hE) (.eqv hE) hE.2.2.2.2)
theorem rf_differ (hd : 28 ≤ d) (hok : m_ok M) {a b w : Int32} (hQ : rf_q M I P g k z Q (M 102 22)) : ab_CT d 192 [wd_v 102, .inl a, .inl b, .inl w] (wd I P M g, k, z) Q := x_differ hd hok.lok (fun _ => hQ _ _ hok .rf rfl) (fun _ M' hE => hQ _ _ (m_ok_eqv hok hE) (.eqv hE) hE.2.2.2.2)
theorem rf_count (hd : 2 ≤ d) (hok : m_ok M) {w : Int32} (hQ : rf_q M I P g k z Q (M 102 22)) : ab_CT d 197 [wd_v 102, .inl w] (wd I P M g, k, z) Q := x_count hd (fun _ => hQ _ _ hok .rf rfl) (fun _ => hQ _ _ hok .rf rfl) (fun _ _ => hQ _ _ hok .rf rfl) (fun _ _ => hQ _ _ hok .rf rfl) (fun _ => hQ _ _ hok .rf rfl)
end
