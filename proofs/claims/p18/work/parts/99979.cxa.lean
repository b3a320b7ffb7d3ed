/-! ===== both objects: best and fit leave both alike (own text) ===== -/
section
variable {F : Nat → Int32 → Prop} {T : Nat → Prop} {I : wd_I} {P : wd_P} {M : wd_I} {g : Nat → ab_C} {k z d m : Nat} {Q : ab_Q}
theorem hs_best (hd : 50 ≤ d) (h : w_In F T I P M g k) (hr : k_rm (m + 1) I k z) {s p o q : Int32} (hQ : w_res2 185 25 [wd_v 102, .inl s, .inl p, .inl o, .inl q] m M Q) : ab_CT d 115 [wd_v 0, .inl s, .inl p, .inl o, .inl q] (wd I P M g, k, z) Q := by
  have hr0 : k_rm m I k z := hr.le (Int.le_refl _) (Nat.le_add_right _ _) (Nat.le_add_right _ _)
  obtain ⟨a, ha⟩ := h.sh s
  obtain ⟨b, hb⟩ := h.pa p
  have hx := fun (I' : wd_I) (P' : wd_P) (h' : w_In F T I' P' M g k) (k' z' d : Nat) (Q : ab_Q) (hd : 25 ≤ d) (hq : ∀ (r : Int32) (M' : wd_I), w_In F T I' P' M' g k → Q (some (.inl r)) (wd I' P' M' g, k', z')) => x_best (d := d) (I := I') (P := P') (g := g) (k := k') (z := z') (Q := Q) (s := s) (p := p) (o := o) (n := q) hd h.1.lok (fun M' hE => hq _ M' (h'.eqv hE))
  have hf := h.fnd (p := b) (a := a)
  refine y_best hd h.2.1.1 (fun _ => ?_) (fun q => (ha q).1) (fun q => (hb q).1) (fun _ _ => ?_) (fun _ _ _ => ?_)
  · exact hQ _ F T _ _ _ _ _ (hx _ _ h _ _) hr0
  · exact hQ _ F T _ _ _ _ _ (hx _ _ hf _ _) (hr.le (by rw [f_fnd_ne.1 _ _ (by omega)]; exact Int.le_refl _) (Nat.le_add_right _ _) (Nat.le_add_right _ _))
  · exact hQ _ F T _ _ _ _ _ (hx _ _ (hf.ix (fun x j hx => c_srt_ne (by omega)) (fun _ _ _ => rfl)) _ _) (hr.le (by rw [c_srt_ne (by omega), f_fnd_ne.1 _ _ (by omega)]; exact Int.le_refl _) (Nat.le_add_right _ _) (Nat.le_add_right _ _))
theorem m_rs_eqv {M1 N : wd_I} (hE : m_eqv M M1) : m_rs M1 N = m_rs M N := by
  unfold m_rs
  rw [hE.2.1]
theorem c_7i : (ab_ii 7).toInt = 7 := rfl
/-- what the first OVER of fit asks -/
theorem w_In.f1 (h : w_In F T I P M g k) {s p w : Int32} {a b gv : Nat} (ha : F a (M 110 s.toInt.toNat)) (hp : c_pp p) (hb : (P 8 p.toInt.toNat = some b ∧ p_wf g k b) ∧ h_pt g M 113 114 115 b p.toInt.toNat) (hw : m_sh w) (hgv : F gv (M 110 w.toInt.toNat)) {M1 : wd_I} (hE : m_eqv M M1) : o_bg F T I M1 g k a b gv (ab_ii 7) (ab_ii 0) w p (M 110 s.toInt.toNat) := by
  have hb1 : h_pt g M1 113 114 115 b p.toInt.toNat := by
    have := hb.2
    unfold h_pt at *
    rw [hE.1 113 (by decide) (by decide), hE.1 114 (by decide) (by decide), hE.1 115 (by decide) (by decide)]
    exact this
  refine (h.eqv hE).bg ha hp ⟨hb.1, hb1⟩ ?_ (fun _ => by rw [hE.1 110 (by decide) (by decide)]; exact hgv) (Or.inl c_7i)
  unfold m_how
  rw [c_7i]
  exact ⟨⟨by omega, by omega⟩, fun e => by omega, fun _ => hw⟩
/-- behind both OVERS of fit -/
theorem w_fit2 (h : w_In F T I P M g k) {s p w : Int32} {a b gv : Nat} {T2 : Nat → Prop} (ha : F a (M 110 s.toInt.toNat)) (hp : c_pp p) (hb : (P 8 p.toInt.toNat = some b ∧ p_wf g k b) ∧ h_pt g M 113 114 115 b p.toInt.toNat) (hw : m_sh w) (hgv : F gv (M 110 w.toInt.toNat)) {M1 N M2 : wd_I} {r : Int32} (hE : m_eqv M M1) (hR : (N, r) = m_co M1 (M 110 s.toInt.toNat) p (ab_ii 7) w) (hu : (N 102 36).toInt = 0) (hn2 : (N 106 r.toInt.toNat).toInt ≤ 200) (hh2 : (N 107 r.toInt.toNat).toInt ≤ 12) (hE2 : m_eqv N M2)
    (hW2 : c_W T2 (c_F2 gv b a (I, g, k, z)).2.2.1 (c_F2 gv b a (I, g, k, z)).2.2.2.1) (hT2 : ∀ x, T x → T2 x) (hx2 : c_ofr k g (c_F2 gv b a (I, g, k, z)).2.2.1) (hk2 : k ≤ (c_F2 gv b a (I, g, k, z)).2.2.2.1) (hI2 : ∀ x j, x ≠ 9 → x ≠ 10 → (c_F2 gv b a (I, g, k, z)).2.1 x j = I x j) (h92 : 0 ≤ ((c_F2 gv b a (I, g, k, z)).2.1 9 0).toInt ∧ ((c_F2 gv b a (I, g, k, z)).2.1 9 0).toInt ≤ 3000) :
    w_In F T2 (c_F2 gv b a (I, g, k, z)).2.1 (c_fP P b gv) (m_rs M (m_co M2 r p (ab_ii 7) w).1) (c_F2 gv b a (I, g, k, z)).2.2.1 (c_F2 gv b a (I, g, k, z)).2.2.2.1 ∧ ∃ F1 T1, (∀ x u, F x u → F1 x u) ∧ w_In F1 T1 (c_F1 gv b a (I, g, k, z)).2.1 (c_fP P b gv) N (c_F1 gv b a (I, g, k, z)).2.2.1 (c_F1 gv b a (I, g, k, z)).2.2.2.1 ∧ F1 (c_F1 gv b a (I, g, k, z)).1 r ∧ o_bg F1 T1 (c_F1 gv b a (I, g, k, z)).2.1 M2 (c_F1 gv b a (I, g, k, z)).2.2.1 (c_F1 gv b a (I, g, k, z)).2.2.2.1 (c_F1 gv b a (I, g, k, z)).1 b gv (ab_ii 7) (ab_ii 0) w p r := by
  have hbg := h.f1 ha hp hb hw hgv hE
  have hP : ∀ x j, x ≠ 10 → c_fP P b gv x j = P x j := fun x j q => c_cP_ne q
  have h1 := h.eqv hE
  have hta := (h.2.2.1.in ha).2
  obtain ⟨r1, r2, r3, r4, r5, r6, r7, -⟩ := o_rf (p := p) h1.1 hbg.2.2.2.2.1 (by rw [hE.2.1]; exact hta)
  have hN1 : (m_co M1 (M 110 s.toInt.toNat) p (ab_ii 7) w).1 = N := by rw [← hR]
  have hr1 : (m_co M1 (M 110 s.toInt.toNat) p (ab_ii 7) w).2 = r := by rw [← hR]
  obtain ⟨F1, T1, w0, w1, w2⟩ := w_ovk (z := z) h1 hbg hP (by rw [hN1]; exact hu) (by rw [hN1, hr1]; exact hn2) (by rw [hN1, hr1]; exact hh2)
  rw [hN1] at r1 r2 r3 r4 w0
  rw [hr1] at w2
  have hofr1 : c_ofr k g (c_R gv b a (ab_ii 7) (ab_ii 0) (I, g, k, z)).2.2.1 ∧ k ≤ (c_R gv b a (ab_ii 7) (ab_ii 0) (I, g, k, z)).2.2.2.1 := by
    obtain ⟨T', g1, -⟩ := c_R_gd (z := z) (n := ab_ii 0) (p := b) h.2.1.1 h.2.1.2.1 (h.2.2.1.in ha).1 h.2.1.2.2.1 (fun _ => (h.2.2.1.in hgv).1) (how := ab_ii 7)
    exact ⟨g1.ofr, g1.kk⟩
  have hpt2 : p_wf (c_R gv b a (ab_ii 7) (ab_ii 0) (I, g, k, z)).2.2.1 (c_R gv b a (ab_ii 7) (ab_ii 0) (I, g, k, z)).2.2.2.1 b ∧ h_pt (c_R gv b a (ab_ii 7) (ab_ii 0) (I, g, k, z)).2.2.1 M2 113 114 115 b p.toInt.toNat := by
    obtain ⟨p1, p2, p3, p4⟩ := p_wf_xt hb.1.2 hofr1.1 hofr1.2
    refine ⟨p1, ?_⟩
    have := o_pt hb.2 p2 p3 p4
    unfold h_pt at *
    rw [hE2.1 113 (by decide) (by decide), hE2.1 114 (by decide) (by decide), hE2.1 115 (by decide) (by decide), r2 113 (by decide), r2 114 (by decide), r2 115 (by decide), hE.1 113 (by decide) (by decide), hE.1 114 (by decide) (by decide), hE.1 115 (by decide) (by decide)]
    exact this
  have hw2 := w0.eqv hE2
  have e110 : M2 110 = M 110 := (hE2.1 110 (by decide) (by decide)).trans ((r2 110 (by decide)).trans (hE.1 110 (by decide) (by decide)))
  have hbg2 := hw2.bg (p := p) (how := ab_ii 7) (v := w) (gv := gv) (b := b) (n := ab_ii 0) w2 hp ⟨⟨(hP 8 _ (by omega)).trans hb.1.1, hpt2.1⟩, hpt2.2⟩ (by unfold m_how; rw [c_7i]; exact ⟨⟨by omega, by omega⟩, fun e => by omega, fun _ => hw⟩) (fun _ => by rw [e110]; exact w1 _ _ hgv) (Or.inl c_7i)
  obtain ⟨q1, q2, q3, q4, q5, q6, q7, -⟩ := o_rf (p := p) hw2.1 hbg2.2.2.2.2.1 (by rw [hE2.2.1]; exact (w0.2.2.1.in w2).2)
  have e2 := (o_end (z := (c_R gv b a (ab_ii 7) (ab_ii 0) (I, g, k, z)).2.2.2.2) hbg2).2.1
  refine ⟨h.lv hW2 hT2 hx2 hk2 (fun x j x1 x2 _ => hI2 x j x1 x2) (fun x j x1 _ => hP x j x1) h92 e2 ?_ (fun x x1 x2 => ?_) (fun j hj => ?_) ?_, F1, T1, w1, w0, w2, hbg2⟩
  · have s1 := m_eqv_sb (n := (M 102 8).toInt) hE
    rw [hE.2.1] at r1 r6
    rw [hN1] at r6
    rw [hE2.2.1] at q1
    exact ((s1.tr r1 (Int.le_refl _)).tr (m_eqv_sb hE2) (Int.le_refl _)).tr q1 r6
  · rw [q2 x x1, hE2.1 x (by omega) x2, r2 x x1, hE.1 x (by omega) x2]
  · rw [q3 j (by omega) (by omega) (by omega)]
    rcases hj with e | e
    · rw [e, hE2.2.2.2.1, r3 20 (by decide) (by decide) (by decide), hE.2.2.2.1]
    · rw [e, hE2.2.2.2.2, r3 22 (by decide) (by decide) (by decide), hE.2.2.2.2]
  · unfold m_9 at *
    rw [hE2.2.2.1] at q4
    rw [hE.2.2.1] at r4
    exact Int.le_trans r4 q4
/-- the class's side of fit -/
theorem k_fit2 (h : w_In F T I P M g k) {a b gv : Nat} (ha : T a) (hgv : T gv) : ∃ T1 T2, c_st T (c_cI I (ab_ii 7) (ab_ii 0), g, k, z) T1 (c_F1 gv b a (I, g, k, z)).2 ∧ (c_W T2 (c_F2 gv b a (I, g, k, z)).2.2.1 (c_F2 gv b a (I, g, k, z)).2.2.2.1 ∧ (∀ x, T x → T2 x) ∧ c_ofr k g (c_F2 gv b a (I, g, k, z)).2.2.1 ∧ k ≤ (c_F2 gv b a (I, g, k, z)).2.2.2.1 ∧ (∀ x j, x ≠ 9 → x ≠ 10 → (c_F2 gv b a (I, g, k, z)).2.1 x j = I x j) ∧ (0 ≤ ((c_F2 gv b a (I, g, k, z)).2.1 9 0).toInt ∧ ((c_F2 gv b a (I, g, k, z)).2.1 9 0).toInt ≤ 3000)) ∧ (k_rm (m + 1) I k z → k_rm m (c_F1 gv b a (I, g, k, z)).2.1 (c_F1 gv b a (I, g, k, z)).2.2.2.1 (c_F1 gv b a (I, g, k, z)).2.2.2.2 ∧ k_rm m (c_F2 gv b a (I, g, k, z)).2.1 (c_F2 gv b a (I, g, k, z)).2.2.2.1 (c_F2 gv b a (I, g, k, z)).2.2.2.2) := by
  have hgd := c_R_gd (z := z) (how := ab_ii 7) (n := ab_ii 0) (p := b) h.2.1.1 h.2.1.2.1 ha h.2.1.2.2.1 (fun _ => hgv)
  have hfr := c_R_fr hgd
  obtain ⟨q1, q2, q3, q4, q5⟩ := k_rm_R (m := 0) h.2.1.2.2.1 hgd
  obtain ⟨T1, g1, g2, g3⟩ := hgd
  have h125 := h.2.1.2.1
  unfold c_F2
  change c_st T (c_cI I (ab_ii 7) (ab_ii 0), g, k, z) T1 (c_F1 gv b a (I, g, k, z)).2 at g1
  change T1 (c_F1 gv b a (I, g, k, z)).1 at g2
  change ∀ x j, x ≠ 9 → x ≠ 10 → (c_F1 gv b a (I, g, k, z)).2.1 x j = I x j at hfr
  change (0 ≤ ((c_F1 gv b a (I, g, k, z)).2.1 9 0).toInt ∧ ((c_F1 gv b a (I, g, k, z)).2.1 9 0).toInt ≤ 3000) at q1
  change (I 9 0).toInt ≤ ((c_F1 gv b a (I, g, k, z)).2.1 9 0).toInt at q2
  change ((c_F1 gv b a (I, g, k, z)).2.2.2.1 : Int) + 8 * (3001 - ((c_F1 gv b a (I, g, k, z)).2.1 9 0).toInt) ≤ _ at q3
  change ((c_F1 gv b a (I, g, k, z)).2.2.2.2 : Int) + 170 * (3001 - ((c_F1 gv b a (I, g, k, z)).2.1 9 0).toInt) ≤ _ at q4
  change k ≤ (c_F1 gv b a (I, g, k, z)).2.2.2.1 at q5
  generalize c_F1 gv b a (I, g, k, z) = R at *
  obtain ⟨x1, I1, g1', k1', z1⟩ := R
  dsimp only at *
  have hwf : c_W T1 g1' k1' := g1.wf
  have hofr : c_ofr k g g1' := g1.ofr
  have hgd2 := c_R_gd (z := z1) (how := ab_ii 7) (n := ab_ii 0) (p := b) (gv := gv) hwf (show 125 ≤ k1' by omega) g2 q1 (fun _ => g1.inc _ hgv)
  have hfr2 := c_R_fr hgd2
  obtain ⟨u1, u2, u3, u4, u5⟩ := k_rm_R (m := 0) q1 hgd2
  obtain ⟨T2, g4, g5, g6⟩ := hgd2
  have hofr2 : c_ofr k1' g1' _ := g4.ofr
  refine ⟨T1, T2, g1, ⟨g4.wf, fun x hx => g4.inc _ (g1.inc _ hx), hofr.tr hofr2 q5, Nat.le_trans q5 u5, fun x j h1 h2 => (hfr2 x j h1 h2).trans (hfr x j h1 h2), u1⟩, fun hr => ?_⟩
  unfold k_rm at *
  refine ⟨by omega, by omega⟩
theorem hs_fit (hd : 98 ≤ d) (h : w_In F T I P M g k) (hr : k_rm (m + 1) I k z) {s p w : Int32} (hQ : w_res2 193 42 [wd_v 102, .inl s, .inl p, .inl w] m M Q) : ab_CT d 119 [wd_v 0, .inl s, .inl p, .inl w] (wd I P M g, k, z) Q := by
  have hr0 : k_rm m I k z := hr.le (Int.le_refl _) (Nat.le_add_right _ _) (Nat.le_add_right _ _)
  obtain ⟨a, ha⟩ := h.sh s
  obtain ⟨b, hb⟩ := h.pa p
  obtain ⟨gv, hgv⟩ := h.sh w
  have hiff : (c_sh s ∧ c_pp p ∧ c_sh w) ↔ m_fok s p w := by
    unfold m_fok c_sh c_pp m_sh m_pa
    omega
  have hP : ∀ x j, x ≠ 10 → c_fP P b gv x j = P x j := fun x j q => c_cP_ne q
  by_cases hall : c_sh s ∧ c_pp p ∧ c_sh w
  · obtain ⟨hs9, hp9, hw9⟩ := id hall
    have hfo := hiff.mp hall
    obtain ⟨T1, T2, g1, g2, g3⟩ := k_fit2 (m := m) (z := z) (b := b) h (ha hs9).1.2 (hgv hw9).1.2
    obtain ⟨rm1, rm2⟩ := g3 hr
    have hbg := fun (M1 : wd_I) (hE : m_eqv M M1) => h.f1 (ha hs9).2 hp9 (hb hp9) hfo.2.2 (hgv hw9).2 hE
    have hw1 : ∀ (M1 : wd_I), m_eqv M M1 → w_In F T1 (c_F1 gv b a (I, g, k, z)).2.1 (c_fP P b gv) (m_rs M (m_co M1 (M 110 s.toInt.toNat) p (ab_ii 7) w).1) (c_F1 gv b a (I, g, k, z)).2.2.1 (c_F1 gv b a (I, g, k, z)).2.2.2.1 := fun M1 hE => by
      rw [← m_rs_eqv hE]
      exact w_ovn (z := z) (h.eqv hE) (hbg M1 hE) g1 hP
    have hw2 := fun (M1 N M2 : wd_I) (r : Int32) (hE : m_eqv M M1) (hR : (N, r) = m_co M1 (M 110 s.toInt.toNat) p (ab_ii 7) w) hu hn2 hh2 (hE2 : m_eqv N M2) => (w_fit2 (z := z) (T2 := T2) h (ha hs9).2 hp9 (hb hp9) hfo.2.2 (hgv hw9).2 hE hR hu hn2 hh2 hE2 g2.1 g2.2.1 g2.2.2.1 g2.2.2.2.1 g2.2.2.2.2.1 g2.2.2.2.2.2).1
    have hen := fun (M1 : wd_I) (hE : m_eqv M M1) => o_end (z := z) (hbg M1 hE)
    -- what the reference does behind a first OVER that ended
    have hx2 : ((c_F1 gv b a (I, g, k, z)).2.1 10 6).toInt = 0 → ¬ c_tooM (c_F1 gv b a (I, g, k, z)).2.2.1 (c_F1 gv b a (I, g, k, z)).1 → ∀ (I' : wd_I) (P' : wd_P) (k' z' : Nat), (∀ M', w_In F T2 (c_F2 gv b a (I, g, k, z)).2.1 (c_fP P b gv) M' (c_F2 gv b a (I, g, k, z)).2.2.1 (c_F2 gv b a (I, g, k, z)).2.2.2.1 → w_In F T2 I' P' M' (c_F2 gv b a (I, g, k, z)).2.2.1 k') → w_ref2 193 42 [wd_v 102, .inl s, .inl p, .inl w] F T2 I' P' M (c_F2 gv b a (I, g, k, z)).2.2.1 k' z' := fun c1 c2 I' P' k' z' hmv d Q hd hq => by
      refine x_fit hd h.1.1 h.1.lok h.1.2.2.1 (fun e => absurd hfo e) (fun _ M1 hE e => ?_) (fun _ M1 hE e1 e2 => ?_) (fun _ M1 hE N r hR hu hn2 hh2 M2 hE2 => ?_)
      · exact absurd ((hen M1 hE).1.mp c1) e
      · exact absurd (((hen M1 hE).2.2 e1).elim (fun F' q => q.elim (fun T' q => q.2.2.2.2.2.mpr e2))) c2
      · have hfin := hmv _ (hw2 M1 N M2 r hE hR hu hn2 hh2 hE2)
        exact ⟨fun _ => hq _ _ hfin, fun _ _ => hq _ _ hfin, fun _ _ _ => hq _ _ hfin⟩
    refine y_fit hd h.2.1.1 h.2.1.2.1 h.2.1.2.2.1 hr.ro (fun e => absurd hall e) (fun q => (ha q).1) (fun q => (hb q).1) (fun q => (hgv q).1) (fun _ c1 => ?_) (fun _ c1 c2 => ?_) (fun _ c1 c2 _ => ?_) (fun _ c1 c2 _ _ => ?_) (fun _ c1 c2 _ _ => ?_)
    · refine hQ _ F T1 _ _ _ _ _ (fun d Q hd hq => x_fit hd h.1.1 h.1.lok h.1.2.2.1 (fun e => absurd hfo e) (fun _ M1 hE e => hq _ _ (hw1 M1 hE)) (fun _ M1 hE e1 e2 => absurd ((hen M1 hE).1.mpr e1) c1) (fun _ M1 hE N r hR hu hn2 hh2 M2 hE2 => ?_)) rm1
      have : ((m_co M1 (M 110 s.toInt.toNat) p (ab_ii 7) w).1 102 36).toInt = 0 := by rw [← hR]; exact hu
      exact absurd ((hen M1 hE).1.mpr this) c1
    · refine hQ _ F T1 _ _ _ _ _ (fun d Q hd hq => x_fit hd h.1.1 h.1.lok h.1.2.2.1 (fun e => absurd hfo e) (fun _ M1 hE e => hq _ _ (hw1 M1 hE)) (fun _ M1 hE e1 e2 => hq _ _ (hw1 M1 hE)) (fun _ M1 hE N r hR hu hn2 hh2 M2 hE2 => ?_)) rm1
      exfalso
      have hu' : ((m_co M1 (M 110 s.toInt.toNat) p (ab_ii 7) w).1 102 36).toInt = 0 := by rw [← hR]; exact hu
      obtain ⟨F', T', -, -, -, -, -, q⟩ := (hen M1 hE).2.2 hu'
      have := q.mp c2
      rw [← hR] at this
      dsimp only at this
      omega
    · exact hQ _ F T2 _ _ _ _ _ (hx2 c1 c2 _ _ _ _ (fun _ q => q)) rm2
    · exact hQ _ F T2 _ _ _ _ _ (hx2 c1 c2 _ _ _ _ (fun _ q => q)) rm2
    · exact hQ _ F T2 _ _ _ _ _ (hx2 c1 c2 _ _ _ _ (fun _ q => q.fnd)) (by unfold k_rm at *; rw [f_fnd_ne.1 _ _ (by omega)]; exact rm2)
  · refine y_fit hd h.2.1.1 h.2.1.2.1 h.2.1.2.2.1 hr.ro (fun e => ?_) (fun q => (ha q).1) (fun q => (hb q).1) (fun q => (hgv q).1) (fun e => absurd e hall) (fun e => absurd e hall) (fun e => absurd e hall) (fun e => absurd e hall) (fun e => absurd e hall)
    exact hQ _ F T _ _ _ _ _ (fun d Q hd hq => x_fit hd h.1.1 h.1.lok h.1.2.2.1 (fun _ => hq _ _ h) (fun e => absurd (hiff.mpr e) hall) (fun e => absurd (hiff.mpr e) hall) (fun e => absurd (hiff.mpr e) hall)) hr0
end
