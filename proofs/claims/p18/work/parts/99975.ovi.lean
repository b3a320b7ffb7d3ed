/-! ===== OVER on both sides: how it ends (own text) ===== -/
section
variable {F : Nat → Int32 → Prop} {T : Nat → Prop} {I : wd_I} {P : wd_P} {M : wd_I} {g : Nat → ab_C} {k z a b gv : Nat} {how n v p t : Int32}
/-- what OVER asks on both sides -/
def o_bg (F : Nat → Int32 → Prop) (T : Nat → Prop) (I : wd_I) (M : wd_I) (g : Nat → ab_C) (k a b gv : Nat) (how n v p t : Int32) : Prop := (c_W T g k ∧ 125 ≤ k ∧ (0 ≤ (I 9 0).toInt ∧ (I 9 0).toInt ≤ 3000)) ∧ (h_k F T g M (M 102 8).toInt ∧ m_T M (M 102 8).toInt ∧ I 9 0 = M 102 9) ∧ (m_ph M p ∧ p_wf g k b ∧ h_pt g M 113 114 115 b p.toInt.toNat) ∧ F a t ∧ m_cop (M 102 8).toInt M how v ∧ (how.toInt = 7 ∨ n = v) ∧ (how.toInt = 7 → F gv (M 110 v.toInt.toNat))
theorem o_go (h : o_bg F T I M g k a b gv how n v p t) : o_res F (m_co0 M p how v) (M 102 8).toInt b p.toInt.toNat gv 0 F T (c_cI I how n, g, k, z) (m_co0 M p how v) (c_R gv b a how n (I, g, k, z)) (m_co M t p how v) := by
  obtain ⟨⟨hW, h125, h9⟩, ⟨hk, hT, e9⟩, ⟨hp, hpw, hpt⟩, ha, hcop, hn, h7⟩ := h
  have hop := m_cop_op (p := p) hcop
  obtain ⟨q1, q2, q3, q4, q5⟩ := m_co0_33 (M := M) (p := p) (how := how) (n := v)
  obtain ⟨c1, c2, c3, c4⟩ := c_cI_e (I := I) (how := how) (n := n)
  have er : ∀ x, x ≠ 102 → m_co0 M p how v x = M x := fun x hx => m_co0_row hx
  have hra : ∀ q, m_ra M (m_co0 M p how v) q := fun q => m_ra_of (fun x x1 x2 => er x (by omega))
  have hs0 : m_sb (M 102 8).toInt M (m_co0 M p how v) := ⟨fun q _ => ⟨by rw [er 103 (by decide)], by rw [er 104 (by decide)], by rw [er 105 (by decide)], by rw [er 106 (by decide)], by rw [er 107 (by decide)]⟩, fun i _ => ⟨by rw [er 108 (by decide)], by rw [er 109 (by decide)]⟩⟩
  have e8 : m_co0 M p how v 102 8 = M 102 8 := m_co0_n (by decide)
  have e09 : m_co0 M p how v 102 9 = M 102 9 := m_co0_n (by decide)
  have hk0 : h_k F T g (m_co0 M p how v) (M 102 8).toInt := hk.mv (fun _ e => e) (fun _ _ => h_sm.rf) (fun _ _ _ => hra _) (Int.le_refl _)
  have hpt0 : h_pt g (m_co0 M p how v) 113 114 115 b p.toInt.toNat := by
    unfold h_pt at *
    rw [er 113 (by decide), er 114 (by decide), er 115 (by decide)]
    exact hpt
  have hgv : how.toInt = 7 → T gv := fun e => (hk.in (h7 e)).1
  have hin : o_in F (m_co0 M p how v) (M 102 8).toInt b p.toInt.toNat gv 0 F T (c_cI I how n, g, k, z) (m_co0 M p how v) := by
    refine ⟨⟨⟨hW, h125, ?_, fun e => hgv ?_⟩, hk0, hpw, hpt0⟩, ⟨m_fr.rf, hop.2.2.2.1, by rw [e8]; exact Int.le_refl _⟩, ⟨?_, fun _ _ e => e⟩, ?_, ?_, ?_, ?_, ?_, ?_⟩
    · show 0 ≤ (c_cI I how n 9 0).toInt ∧ (c_cI I how n 9 0).toInt ≤ 3000
      rw [c1]; exact h9
    · change (c_cI I how n 10 2).toInt = 7 at e
      rw [c2] at e; exact e
    · rw [e8]; exact hk0.o
    · show (c_cI I how n 10 6).toInt = 0
      rw [c3]; decide
    · rw [q5]; decide
    · rw [q4]
      show c_cI I how n 10 5 = _
      unfold c_cI
      rw [wd_up_ne _ _ (by omega), wd_up_self]
    · show (c_cI I how n 9 0).toInt + ((0 : Nat) : Int) = _
      rw [c1, e09, e9]
      omega
    · rw [q2]; exact c2
    · rw [q2, q3]
      rcases hn with e | e
      · exact Or.inl e
      · right
        show c_cI I how n 10 3 = v
        unfold c_cI
        rw [wd_up_ne _ _ (by omega), wd_up_ne _ _ (by omega), wd_up_self]
        exact e
  have hr := hk.1.row hT ha
  obtain ⟨p1, p2, p3, p4⟩ := id hp
  exact o_ovw (gv := gv) ⟨hop, m_T_sb hT hs0, fun e => by rw [q2] at e; rw [q3, er 110 (by decide)]; exact h7 e⟩ 41 21 a 0 t 0 F T _ _ hin ha (by rw [er 115 (by decide)]; exact p3) (by rw [er 115 (by decide), er 107 (by decide)]; omega) (by rw [er 115 (by decide), er 107 (by decide)]; omega)
theorem o_end (h : o_bg F T I M g k a b gv how n v p t) : (((c_R gv b a how n (I, g, k, z)).2.1 10 6).toInt = 0 ↔ ((m_co M t p how v).1 102 36).toInt = 0) ∧ (c_R gv b a how n (I, g, k, z)).2.1 9 0 = (m_co M t p how v).1 102 9 ∧ (((m_co M t p how v).1 102 36).toInt = 0 → ∃ (F' : Nat → Int32 → Prop) (T' : Nat → Prop), c_st T (c_cI I how n, g, k, z) T' (c_R gv b a how n (I, g, k, z)).2 ∧ (∀ b t, F b t → F' b t) ∧ F' (c_R gv b a how n (I, g, k, z)).1 (m_co M t p how v).2 ∧ o_k F' T' (c_R gv b a how n (I, g, k, z)).2.2.1 (m_co M t p how v).1 ((m_co M t p how v).1 102 8).toInt ∧ (c_R gv b a how n (I, g, k, z)).2.1 10 5 = (m_co M t p how v).1 102 35 ∧ (c_tooM (c_R gv b a how n (I, g, k, z)).2.2.1 (c_R gv b a how n (I, g, k, z)).1 ↔ (200 < ((m_co M t p how v).1 106 (m_co M t p how v).2.toInt.toNat).toInt ∨ 12 < ((m_co M t p how v).1 107 (m_co M t p how v).2.toInt.toNat).toInt))) := by
  have hgo := o_go (z := z) h
  have hsp := c_R_sp (gv := gv) (p := b) (a := a) (how := how) (n := n) (S := (I, g, k, z)) h.1.2.2
  have hrs : o_rs (m_co M t p how v).1 := o_rs_ov 21 (m_co0 M p how v) t 0 (fun e => by
    rw [(m_co0_33 (M := M) (p := p) (how := how) (n := v)).2.2.2.2] at e
    exact absurd (by decide) e)
  generalize c_R gv b a how n (I, g, k, z) = R at *
  generalize m_co M t p how v = N at *
  obtain ⟨ca, I1, g1, k1, z1⟩ := R
  obtain ⟨N1, r⟩ := N
  unfold c_sp at hsp
  dsimp only at *
  by_cases hN : (N1 102 36).toInt = 0
  · obtain ⟨F', T', r1, r2, r3, r4, r5⟩ := hgo.1 hN
    dsimp only at r1 r2 r5
    obtain ⟨-, -, ⟨d1, d2⟩, e1, e2, e3, e4, -⟩ := id r2
    change (I1 10 6).toInt = 0 at e1
    change I1 10 5 = N1 102 35 at e3
    change (I1 9 0).toInt + ((0 : Nat) : Int) = (N1 102 9).toInt at e4
    refine ⟨⟨fun _ => hN, fun _ => e1⟩, Int32.toInt_inj.mp (by omega), fun _ => ⟨F', T', r1, r3, r5, d1, e3, ?_⟩⟩
    obtain ⟨-, -, v2, v3, -⟩ := d1.1.p r5
    have v4 := (d1.2 _ _ r5).1
    change c_i g1 ca 2 = _ at v2
    change c_i g1 ca 3 = _ at v3
    change c_sz g1 ca ≤ 12 at v4
    unfold c_tooM
    rw [v2, v3]
    omega
  · have h2 := hgo.2 hN
    dsimp only at h2
    have h3 : ¬ (I1 10 6).toInt = 0 := by
      rcases h2 with e | e
      · exact e
      · omega
    have h4 := hrs hN
    exact ⟨⟨fun e => absurd e h3, fun e => absurd e hN⟩, Int32.toInt_inj.mp (by omega), fun e => absurd e hN⟩
end
section
variable {F : Nat → Int32 → Prop} {T : Nat → Prop} {I : wd_I} {P : wd_P} {M : wd_I} {g : Nat → ab_C} {k z d m : Nat} {Q : ab_Q}
/-- rows and numbers behind OVER on the reference's side -/
theorem o_rf {how v p t : Int32} (hok : m_ok M) (hcop : m_cop (M 102 8).toInt M how v) (ht : 0 ≤ t.toInt ∧ t.toInt < (M 102 8).toInt) : m_sb (M 102 8).toInt M (m_co M t p how v).1 ∧ (∀ x, 110 ≤ x → (m_co M t p how v).1 x = M x) ∧ (∀ j, j ≠ 8 → j ≠ 9 → j < 32 → (m_co M t p how v).1 102 j = M 102 j) ∧ m_9 M (m_co M t p how v).1 ∧ m_rm (m_co M t p how v).1 ∧ (M 102 8).toInt ≤ ((m_co M t p how v).1 102 8).toInt ∧ (0 ≤ (m_co M t p how v).2.toInt ∧ (m_co M t p how v).2.toInt < ((m_co M t p how v).1 102 8).toInt) ∧ m_ok (m_rs M (m_co M t p how v).1) := by
  have hb := m_ok_b hok
  have hg := m_co_good (p := p) hcop ht.1 ht.2
  have h9 := m_ov_9 (p := p.toInt.toNat) 21 (m_co0 M p how v) t 0 (m_cop_op hcop) (by rw [m_co0_n (by decide)]; exact hb.2.2.1) ht.1 ht.2
  change m_9 (m_co0 M p how v) (m_co M t p how v).1 at h9
  have h22 := hok.2.2.2.2.2.2.1
  generalize m_co M t p how v = R at *
  obtain ⟨N, r⟩ := R
  obtain ⟨g1, g2, g3, g4, g5⟩ := hg
  change m_fr (M 102 8).toInt (m_co0 M p how v) N at g1
  change m_rm N at g2
  change (m_co0 M p how v 102 8).toInt ≤ (N 102 8).toInt at g3
  change 0 ≤ r.toInt at g4
  change r.toInt < (N 102 8).toInt at g5
  unfold m_9 at h9
  rw [m_co0_n (by decide)] at g3 h9
  have hsb : m_sb (M 102 8).toInt M N := by
    refine ⟨fun t ht => ?_, fun i hi => ?_⟩
    · have := g1.1.1 t ht
      rw [m_co0_row (by decide), m_co0_row (by decide), m_co0_row (by decide), m_co0_row (by decide), m_co0_row (by decide)] at this
      exact this
    · have := g1.1.2 i hi
      rw [m_co0_row (by decide), m_co0_row (by decide)] at this
      exact this
  have hrow : ∀ x, 110 ≤ x → N x = M x := fun x h1 => by rw [g1.2.1 x h1, m_co0_row (by omega)]
  have hnn : ∀ j, j ≠ 8 → j ≠ 9 → j < 32 → N 102 j = M 102 j := fun j j1 j2 j3 => by rw [g1.2.2 j j1 j2 (by omega) (by omega), m_co0_n j3]
  exact ⟨hsb, hrow, hnn, h9, g2, g3, ⟨g4, g5⟩, m_ok_rs (N := N) hok hsb h9 g2.2.2 (fun x h1 _ => hrow x h1) (hnn 20 (by decide) (by decide) (by decide)) (by rw [hnn 22 (by decide) (by decide) (by decide)]; exact h22)⟩
theorem w_In.bg (h : w_In F T I P M g k) {t p how v : Int32} {a b gv : Nat} (ha : F a t) (hp : c_pp p) (hb : (P 8 p.toInt.toNat = some b ∧ p_wf g k b) ∧ h_pt g M 113 114 115 b p.toInt.toNat) (hh : m_how how.toInt v.toInt) (h7 : how.toInt = 7 → F gv (M 110 v.toInt.toNat)) {n : Int32} (hn : how.toInt = 7 ∨ n = v) : o_bg F T I M g k a b gv how n v p t := by
  obtain ⟨h1, h2, h3, h4, h5, h6, h7', h8⟩ := h
  have hb' := m_ok_b h1
  refine ⟨⟨h2.1, h2.2.1, h2.2.2.1⟩, ⟨h3, h1.1, h5⟩, ⟨h1.lok.2.2 p hp.1 (by unfold c_pp at hp; omega), hb.1.2, hb.2⟩, ha, ⟨h1.1.tb.1, by omega, Int.le_refl _, h1.2.2.1, hh.1, fun e => ⟨hh.2.2 e, (h3.in (h7 e)).2⟩⟩, hn, h7⟩
/-- nothing kept of what was done -/
theorem w_In.lv (h : w_In F T I P M g k) {T' : Nat → Prop} {I' : wd_I} {P' : wd_P} {N : wd_I} {g' : Nat → ab_C} {k' : Nat} (hW : c_W T' g' k') (hT : ∀ b, T b → T' b) (hx : c_ofr k g g') (hk : k ≤ k') (hI : ∀ x j, x ≠ 9 → x ≠ 10 → x ≠ 11 → I' x j = I x j) (hP : ∀ x j, x ≠ 10 → x ≠ 12 → P' x j = P x j) (h9 : 0 ≤ (I' 9 0).toInt ∧ (I' 9 0).toInt ≤ 3000) (e9 : I' 9 0 = N 102 9) (hsb : m_sb (M 102 8).toInt M N) (hrow : ∀ x, 110 ≤ x → x ≤ 120 → N x = M x) (hnn : ∀ j, j = 20 ∨ j = 22 → N 102 j = M 102 j) (h9N : m_9 M N) : w_In F T' I' P' (m_rs M N) g' k' := by
  obtain ⟨h1, h2, h3, h4, h5, h6, h7', h8⟩ := h
  have h22 := h1.2.2.2.2.2.2.1
  have er : ∀ x, x ≠ 102 → m_rs M N x = N x := fun x hx => by unfold m_rs; rw [wd_up_row _ _ _ hx]
  have en : ∀ j, j ≠ 8 → m_rs M N 102 j = N 102 j := fun j hj => by unfold m_rs; rw [wd_up_ne _ _ (Or.inr hj)]
  have en8 : m_rs M N 102 8 = M 102 8 := by unfold m_rs; rw [wd_up_self]
  have hrs := m_ok_rs (N := N) h1 hsb h9N (by rw [← e9]; exact h9.2) (fun x x1 x2 => hrow x x1 (by omega)) (hnn 20 (by omega)) (by rw [hnn 22 (by omega)]; exact h22)
  exact ⟨hrs, h2.fr hW hT hx hk (k_sm_of (fun x j q => hI x j (by omega) (by omega) (by omega)) (fun x j q => hP x j (by omega) (by omega))) h9 (by rw [hI 1 1 (by omega) (by omega) (by omega)]; exact h2.2.2.2.2.2.1), h3.mv hT (fun x hx' => h_sm_wf (c_wf_xt (h2.1 x hx') hx hk)) (fun x u q => (hsb.ra (by have := h3.in q; omega)).tr (m_ra_of (fun y y1 y2 => er y (by omega)))) (by rw [en8]; exact Int.le_refl _), h4.fr (fun j => ⟨(hI 1 1 (by omega) (by omega) (by omega)).symm, hI 2 j (by omega) (by omega) (by omega)⟩) ⟨(en 22 (by decide)).trans (hnn 22 (by omega)), (er 120 (by decide)).trans (hrow 120 (by decide) (by decide))⟩, by rw [en 9 (by decide)]; exact e9, h6.mv (fun _ _ q => q) (fun s hs => ⟨hI _ _ (by omega) (by omega) (by omega), hP _ _ (by omega) (by omega), fun i => hP _ _ (by omega) (by omega)⟩) (fun x x1 x2 => (er x (by omega)).trans (hrow x x1 (by omega))), h7'.mv (fun _ _ q => q) (hI 0 11 (by omega) (by omega) (by omega)) (fun i => hP _ _ (by omega) (by omega)) ((er 116 (by decide)).trans (hrow 116 (by decide) (by decide))), h8.fr h2 (.of (fun x j q => hI x j (by omega) (by omega) (by omega)) hx (fun x j q => hP x j (by omega) (by omega))) (.rs hrow (hnn 20 (by omega)))⟩
/-- nothing kept of OVER -/
theorem w_ovn (h : w_In F T I P M g k) {how n v p t : Int32} {a b gv : Nat} {T' : Nat → Prop} (hbg : o_bg F T I M g k a b gv how n v p t) (hst : c_st T (c_cI I how n, g, k, z) T' (c_R gv b a how n (I, g, k, z)).2) {P' : wd_P} (hP : ∀ x j, x ≠ 10 → P' x j = P x j) : w_In F T' (c_R gv b a how n (I, g, k, z)).2.1 P' (m_rs M (m_co M t p how v).1) (c_R gv b a how n (I, g, k, z)).2.2.1 (c_R gv b a how n (I, g, k, z)).2.2.2.1 := by
  obtain ⟨e1, e2, -⟩ := o_end (z := z) hbg
  obtain ⟨⟨hW, h125, h9⟩, ⟨hk, hT, e9⟩, ⟨hp, hpw, hpt⟩, ha, hcop, hn, h7⟩ := hbg
  obtain ⟨r1, r2, r3, r4, r5, r6, r7, r8⟩ := o_rf (p := p) h.1 hcop (hk.in ha).2
  have hgd := c_R_gd (z := z) (n := n) (p := b) hW h125 (hk.in ha).1 h9 (fun e => (hk.in (h7 e)).1)
  have hfr := c_R_fr hgd
  obtain ⟨b1, -, -, -, b5⟩ := k_rm_R (m := 0) h9 hgd
  have hwf := hst.wf
  have hofr := hst.ofr
  exact h.lv hwf hst.inc hofr b5 (fun x j x1 x2 _ => hfr x j x1 x2) (fun x j x1 _ => hP x j x1) b1 e2 r1 (fun x x1 _ => r2 x x1) (fun j hj => r3 j (by omega) (by omega) (by omega)) r4
/-- the table kept as OVER left it, no shelf changed -/
theorem w_ovk (h : w_In F T I P M g k) {how n v p t : Int32} {a b gv : Nat} (hbg : o_bg F T I M g k a b gv how n v p t) {P' : wd_P} (hP : ∀ x j, x ≠ 10 → P' x j = P x j) (hu : ((m_co M t p how v).1 102 36).toInt = 0) (hn2 : ((m_co M t p how v).1 106 (m_co M t p how v).2.toInt.toNat).toInt ≤ 200) (hh2 : ((m_co M t p how v).1 107 (m_co M t p how v).2.toInt.toNat).toInt ≤ 12) : ∃ F' T', w_In F' T' (c_R gv b a how n (I, g, k, z)).2.1 P' (m_co M t p how v).1 (c_R gv b a how n (I, g, k, z)).2.2.1 (c_R gv b a how n (I, g, k, z)).2.2.2.1 ∧ (∀ x u, F x u → F' x u) ∧ F' (c_R gv b a how n (I, g, k, z)).1 (m_co M t p how v).2 := by
  obtain ⟨e1, e2, e3⟩ := o_end (z := z) hbg
  obtain ⟨F', T', g1, q1, q2, q3, q4, q5⟩ := e3 hu
  obtain ⟨⟨hW, h125, h9⟩, ⟨hk, hT, e9⟩, ⟨hp, hpw, hpt⟩, ha, hcop, hn, h7⟩ := hbg
  obtain ⟨h1, h2, h3, h4, h5, h6, h7', h8⟩ := h
  have hta := (h3.in ha).2
  obtain ⟨r1, r2, r3, r4, r5, r6, r7, r8⟩ := o_rf (p := p) h1 hcop hta
  have hTN := m_co_T (p := p) hcop hT hta.1 hta.2 hu hn2 hh2
  have hgd := c_R_gd (z := z) (n := n) (p := b) h2.1 h2.2.1 (h3.in ha).1 h2.2.2.1 (fun e => (h3.in (h7 e)).1)
  have hfr := c_R_fr hgd
  obtain ⟨b1, -, -, -, b5⟩ := k_rm_R (m := 0) h2.2.2.1 hgd
  have h22 := h1.2.2.2.2.2.2.1
  generalize c_R gv b a how n (I, g, k, z) = R at *
  generalize m_co M t p how v = N at *
  obtain ⟨ca, I1, g', k', z'⟩ := R
  obtain ⟨N1, r⟩ := N
  dsimp only at *
  have hinc := g1.inc
  have hwf : c_W T' g' k' := g1.wf
  have hofr : c_ofr k g g' := g1.ofr
  have e22 := r3 22 (by decide) (by decide) (by decide)
  have e20 := r3 20 (by decide) (by decide) (by decide)
  have hN : m_ok N1 := m_ok_of h1 hTN r6 r4 r5 (fun x x1 _ => r2 x x1) e20 (by rw [e22]; exact h22)
  have hk2 : h_k F' T' g' N1 (N1 102 8).toInt := ⟨q3.1, fun x u hx => by
    have := q3.1.row hTN hx
    exact ⟨this.2.1, this.2.2.1.1, by omega, (q3.2 x u hx).2.2.2⟩⟩
  have hk0 : k_ok T' I1 P' g' k' := h2.fr hwf hinc hofr b5 (k_sm_of (fun x j q => hfr x j (by omega) (by omega)) (fun x j q => hP x j (by omega))) b1 (by rw [hfr 1 1 (by omega) (by omega)]; exact h2.2.2.2.2.2.1)
  exact ⟨F', T', ⟨hN, hk0, hk2, h4.fr (fun j => ⟨(hfr 1 1 (by omega) (by omega)).symm, hfr 2 j (by omega) (by omega)⟩) ⟨e22, r2 120 (by decide)⟩, e2, h6.mv q1 (fun s hs => ⟨hfr _ _ (by omega) (by omega), hP _ _ (by omega), fun i => hP _ _ (by omega)⟩) (fun x x1 x2 => r2 x x1), h7'.mv q1 (hfr 0 11 (by omega) (by omega)) (fun i => hP _ _ (by omega)) (r2 116 (by decide)), h8.fr h2 (k_fp.of (fun x j q => hfr x j (by omega) (by omega)) hofr (fun x j q => hP x j (by omega))) (r_fp.of (fun x x1 _ => r2 x x1) e20)⟩, q1, q2⟩
end
