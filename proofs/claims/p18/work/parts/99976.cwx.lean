/-! ===== both objects: over answers alike (own text) ===== -/
section
variable {F : Nat → Int32 → Prop} {T : Nat → Prop} {I : wd_I} {P : wd_P} {M : wd_I} {g : Nat → ab_C} {k z d m : Nat} {Q : ab_Q}
theorem w_In.bec (h : w_In F T I P M g k) {s c a : Nat} {t : Int32} (hs : s < 12) (hc : v_s1 F I P M s c) (ha : F a t) : w_In F T (s_becI I s c) (s_becP P s c a) (m_becomes M s t c) g k := by
  obtain ⟨h1, h2, h3, h4, h5, h6, h7, h8⟩ := h
  have er : ∀ x, x ≠ 110 → x ≠ 111 → x ≠ 112 → m_becomes M s t c x = M x := fun x x1 x2 x3 => m_becomes_row x1 x2 x3
  have e102 := er 102 (by decide) (by decide) (by decide)
  exact ⟨m_ok_bec h1 hs hc.2.1 hc.2.2.1 (h3.in ha).2, h2.bec hs (hc.ok h3) (h3.in ha).1, h3.mv (fun _ q => q) (fun _ _ => h_sm.rf) (fun _ _ _ => m_ra_of (fun a a1 a2 => er a (by omega) (by omega) (by omega))) (by rw [e102]; exact Int.le_refl _), h4.fr (fun j => ⟨(s_becI_ne (by omega)).symm, s_becI_ne (by omega)⟩) ⟨by rw [e102], er 120 (by decide) (by decide) (by decide)⟩, by rw [s_becI_ne (by omega), e102]; exact h5, h6.bec hs hc ha, h7.mv (fun _ _ q => q) (s_becI_ne (by omega)) (fun i => s_becP_ne (by omega) (by omega)) (er 116 (by decide) (by decide) (by decide)), h8.fr h2 (.of (fun _ _ q => s_becI_fp q) c_ofr.rf (fun _ _ q => s_becP_fp q)) (r_fp.rf.bec)⟩
/-- a shelf becomes what came of OVER -/
theorem w_ovy (h : w_In F T I P M g k) {how n v p t : Int32} {a b gv s c : Nat} (hbg : o_bg F T I M g k a b gv how n v p t) {P' : wd_P} (hP : ∀ x j, x ≠ 10 → P' x j = P x j) (hs : s < 12) (hc : v_s1 F I P M s c) (hu : ((m_co M t p how v).1 102 36).toInt = 0) (hn2 : ((m_co M t p how v).1 106 (m_co M t p how v).2.toInt.toNat).toInt ≤ 200) (hh2 : ((m_co M t p how v).1 107 (m_co M t p how v).2.toInt.toNat).toInt ≤ 12) : ∃ F' T', w_In F' T' (s_becI (c_R gv b a how n (I, g, k, z)).2.1 s c) (s_becP P' s c (c_R gv b a how n (I, g, k, z)).1) (m_becomes (m_co M t p how v).1 s (m_co M t p how v).2 c) (c_R gv b a how n (I, g, k, z)).2.2.1 (c_R gv b a how n (I, g, k, z)).2.2.2.1 := by
  obtain ⟨F', T', w0, w1, w2⟩ := w_ovk (z := z) h hbg hP hu hn2 hh2
  obtain ⟨⟨hW, h125, h9⟩, ⟨hk, hT, e9⟩, ⟨hp, hpw, hpt⟩, ha, hcop, hn, h7⟩ := hbg
  obtain ⟨r1, r2, -⟩ := o_rf (p := p) h.1 hcop (hk.in ha).2
  have hfr := c_R_fr (c_R_gd (z := z) (n := n) (p := b) hW h125 (hk.in ha).1 h9 (fun e => (hk.in (h7 e)).1))
  exact ⟨F', T', w0.bec hs (hc.mv w1 (hfr _ _ (by omega) (by omega)) (hP _ _ (by omega)) (fun i _ => hP _ _ (by omega)) (by rw [r2 110 (by decide)]) (fun i _ => by rw [r2 111 (by decide)]) (by rw [r2 112 (by decide)])) w2⟩
theorem hc_over (hd : 96 ≤ d) (h : w_In F T I P M g k) (hr : k_rm (m + 1) I k z) {s f p how v : Int32} (hQ : w_res 174 41 [wd_v 102, .inl s, .inl f, .inl p, .inl how, .inl v] m M Q) : ab_CT d 108 [wd_v 0, .inl s, .inl f, .inl p, .inl how, .inl v] (wd I P M g, k, z) Q := by
  have hr0 : k_rm m I k z := hr.le (Int.le_refl _) (Nat.le_add_right _ _) (Nat.le_add_right _ _)
  obtain ⟨a, ha⟩ := h.sh f
  obtain ⟨gv, hgv⟩ := h.sh v
  obtain ⟨b, hb⟩ := h.pa p
  obtain ⟨c, hc⟩ : ∃ c, c_sh s → v_s1 F I P M s.toInt.toNat c := by
    by_cases hs : c_sh s
    · obtain ⟨c, hc⟩ := h.2.2.2.2.2.1 s.toInt.toNat (by unfold c_sh at hs; omega)
      exact ⟨c, fun _ => hc⟩
    · exact ⟨0, fun q => absurd q hs⟩
  obtain ⟨o, ho7, hon⟩ : ∃ o : Option Nat, (how.toInt = 7 → o = some gv) ∧ (¬ how.toInt = 7 → o = none) := by
    by_cases h7 : how.toInt = 7
    · exact ⟨some gv, fun _ => rfl, fun q => absurd h7 q⟩
    · exact ⟨none, fun q => absurd q h7, fun _ => rfl⟩
  have hiff : (c_sh s ∧ c_sh f ∧ c_pp p ∧ c_isHow how v) ↔ (m_sh s ∧ m_sh f ∧ m_pa p ∧ m_how how.toInt v.toInt) := by
    unfold c_sh c_pp c_isHow m_sh m_pa m_how
    split
    · omega
    · split <;> omega
  have hsv : (c_sh s ∧ c_sh f ∧ c_pp p ∧ c_isHow how v) → how.toInt = 7 → c_sh v := fun hx q => by
    have := hx.2.2.2
    unfold c_isHow at this
    rw [if_neg (by omega), if_pos q] at this
    exact this
  have hbg : ∀ hx : (c_sh s ∧ c_sh f ∧ c_pp p ∧ c_isHow how v), o_bg F T I M g k a b gv how v v p (M 110 f.toInt.toNat) := fun hx => h.bg (ha hx.2.1).2 hx.2.2.1 (hb hx.2.2.1) (hiff.mp hx).2.2.2 (fun e => (hgv (hsv hx e)).2) (Or.inr rfl)
  have hgd := fun (hx : c_sh s ∧ c_sh f ∧ c_pp p ∧ c_isHow how v) => c_R_gd (z := z) (n := v) (p := b) h.2.1.1 h.2.1.2.1 (ha hx.2.1).1.2 h.2.1.2.2.1 (fun e => (hgv (hsv hx e)).1.2)
  have hrm : ∀ hx : (c_sh s ∧ c_sh f ∧ c_pp p ∧ c_isHow how v), k_rm m (c_R gv b a how v (I, g, k, z)).2.1 (c_R gv b a how v (I, g, k, z)).2.2.2.1 (c_R gv b a how v (I, g, k, z)).2.2.2.2 := fun hx => by
    have hgd := c_R_gd (z := z) (n := v) (p := b) h.2.1.1 h.2.1.2.1 (ha hx.2.1).1.2 h.2.1.2.2.1 (fun e => (hgv (hsv hx e)).1.2)
    obtain ⟨r1, r2, r3, r4, -⟩ := k_rm_R (m := 0) h.2.1.2.2.1 hgd
    unfold k_rm at *
    omega
  have hP : ∀ x j, x ≠ 10 → c_cP P b o x j = P x j := fun x j q => c_cP_ne q
  refine y_over hd h.2.1.1 h.2.1.2.1 h.2.1.2.2.1 hr.ro (o := o) (c := c) (fun e => ?_) (fun q => (hc q).ok h.2.2.1) (fun q => (ha q).1) (fun q => (hb q).1) (fun h7 q => ⟨(hgv q).1.1, (hgv q).1.2, ho7 h7⟩) hon (fun hx e => ?_) (fun hx e1 e2 => ?_) (fun hx e1 e2 => ?_)
  · exact hQ _ F T _ _ _ _ _ (w_ref_bad h (fun d Q hd hq => x_over_b hd (fun q => e (hiff.mpr q)) hq)) hr0
  · obtain ⟨w1, w2, -⟩ := o_end (z := z) (hbg hx)
    obtain ⟨T', g1, -⟩ := hgd hx
    have w0 := w_ovn (z := z) h (hbg hx) g1 hP
    have hN : ¬ ((m_co M (M 110 f.toInt.toNat) p how v).1 102 36).toInt = 0 := fun q => e (w1.mpr q)
    exact hQ _ F T' _ _ _ _ _ (fun d Q hd hq => x_over hd h.1.lok h.1.2.2.1 (hc hx.1).2.1 (hc hx.1).2.2.1 (fun q => absurd (hiff.mp hx) q) (fun _ _ => hq _ w0) (fun _ q => absurd q hN) (fun _ q => absurd q hN)) (hrm hx)
  · obtain ⟨w1, w2, w3⟩ := o_end (z := z) (hbg hx)
    obtain ⟨T', g1, -⟩ := hgd hx
    have w0 := w_ovn (z := z) h (hbg hx) g1 hP
    have hN := w1.mp e1
    obtain ⟨-, -, -, -, -, -, -, w4⟩ := w3 hN
    have w5 := w4.mp e2
    exact hQ _ F T' _ _ _ _ _ (fun d Q hd hq => x_over hd h.1.lok h.1.2.2.1 (hc hx.1).2.1 (hc hx.1).2.2.1 (fun q => absurd (hiff.mp hx) q) (fun _ q => absurd hN q) (fun _ _ _ => hq _ w0) (fun _ _ q1 q2 => by exfalso; omega)) (hrm hx)
  · obtain ⟨w1, w2, w3⟩ := o_end (z := z) (hbg hx)
    have hN := w1.mp e1
    obtain ⟨-, -, -, -, -, -, e35, w4⟩ := w3 hN
    have w5 : ¬ (200 < ((m_co M (M 110 f.toInt.toNat) p how v).1 106 (m_co M (M 110 f.toInt.toNat) p how v).2.toInt.toNat).toInt ∨ 12 < ((m_co M (M 110 f.toInt.toNat) p how v).1 107 (m_co M (M 110 f.toInt.toNat) p how v).2.toInt.toNat).toInt) := fun q => e2 (w4.mpr q)
    obtain ⟨F', T', w0⟩ := w_ovy (z := z) h (hbg hx) hP (s := s.toInt.toNat) (by have := hx.1; unfold c_sh at this; omega) (hc hx.1) hN (by omega) (by omega)
    rw [e35]
    have hrm' := hrm hx
    refine hQ _ F' T' _ _ _ _ _ (fun d Q hd hq => x_over hd h.1.lok h.1.2.2.1 (hc hx.1).2.1 (hc hx.1).2.2.1 (fun q => absurd (hiff.mp hx) q) (fun _ q => absurd hN q) (fun _ _ q => absurd q w5) (fun _ _ _ _ => hq _ w0)) ?_
    unfold k_rm at *
    dsimp only
    rw [s_becI_ne (by omega)]
    exact hrm'
end
