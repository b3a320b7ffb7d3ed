/-! ===== both objects: fit answers alike (own text) ===== -/
theorem m_eqv_co0 {M : wd_I} {p how v : Int32} : m_eqv M (m_co0 M p how v) := ⟨fun a h1 h2 => m_co0_row (by omega), m_co0_n (by decide), m_co0_n (by decide), m_co0_n (by decide), m_co0_n (by decide)⟩
theorem w_all {g : Nat → ab_C} {l : List Nat} {v : Nat} : ∀ n j, (c_all g l v n j = true ↔ ∀ i, j ≤ i → i < j + n → c_cmp g 41 (l.getD i 0) v = 0)
  | 0, j => ⟨fun _ i h1 h2 => by omega, fun _ => rfl⟩
  | n + 1, j => by
    have ih := w_all (g := g) (l := l) (v := v) n (j + 1)
    unfold c_all
    by_cases e : c_cmp g 41 (l.getD j 0) v = 0
    · rw [if_pos e, ih]
      constructor
      · intro h i h1 h2
        by_cases ei : i = j
        · rw [ei]; exact e
        · exact h i (by omega) (by omega)
      · intro h i h1 h2
        exact h i (by omega) (by omega)
    · rw [if_neg e]
      constructor
      · intro h
        cases h
      · intro h
        exact absurd (h j (Nat.le_refl _) (by omega)) e
theorem w_alk {M : wd_I} {l : List Int32} {v : Int32} : ∀ n, (¬ (m_alk M l v n).toInt = 0 ↔ ∀ i, i < n → m_cmp M 13 (l.getD i 0) v = 0)
  | 0 => ⟨fun _ i hi => absurd hi (Nat.not_lt_zero _), fun _ => by show ¬ (ab_ii 1).toInt = 0; decide⟩
  | n + 1 => by
    have ih := w_alk (M := M) (l := l) (v := v) n
    unfold m_alk
    by_cases e : ¬ (m_alk M l v n).toInt = 0 ∧ m_cmp M 13 (l.getD n 0) v = 0
    · rw [if_pos e]
      constructor
      · intro _ i hi
        by_cases ei : i = n
        · rw [ei]; exact e.2
        · exact ih.mp e.1 i (by omega)
      · intro _
        decide
    · rw [if_neg e]
      constructor
      · intro h
        exact absurd (by decide) h
      · intro h
        exact absurd ⟨ih.mpr (fun i hi => h i (by omega)), h n (by omega)⟩ e
section
variable {F : Nat → Int32 → Prop} {T : Nat → Prop} {I : wd_I} {P : wd_P} {M : wd_I} {g : Nat → ab_C} {k z d m : Nat} {Q : ab_Q}
/-- the answer, where both OVERS came to their ends -/
theorem w_fitA {F1 : Nat → Int32 → Prop} {T1 : Nat → Prop} {I1 : wd_I} {P1 : wd_P} {N M2 : wd_I} {g1 : Nat → ab_C} {k1 z1 x1 b gv : Nat} {p r w : Int32} {many : Nat} {nI : Int32} (h1 : w_In F1 T1 I1 P1 N g1 k1) (hE2 : m_eqv N M2) (hx : F1 x1 r) (hgv : F1 gv (N 110 w.toInt.toNat)) (hbg : o_bg F1 T1 I1 M2 g1 k1 x1 b gv (ab_ii 7) (ab_ii 0) w p r) (hn : nI.toInt = (many : Int)) (hu : ((m_co M2 r p (ab_ii 7) w).1 102 36).toInt = 0) (hn2 : ((m_co M2 r p (ab_ii 7) w).1 106 (m_co M2 r p (ab_ii 7) w).2.toInt.toNat).toInt ≤ 200) (hh2 : ((m_co M2 r p (ab_ii 7) w).1 107 (m_co M2 r p (ab_ii 7) w).2.toInt.toNat).toInt ≤ 12) :
    c_fA (c_R gv b x1 (ab_ii 7) (ab_ii 0) (I1, g1, k1, z1)).2.2.1 (c_fs41 (c_R gv b x1 (ab_ii 7) (ab_ii 0) (I1, g1, k1, z1)).2.2.1 b x1) gv x1 (c_R gv b x1 (ab_ii 7) (ab_ii 0) (I1, g1, k1, z1)).1 nI.toInt = m_fitv (if (m_fs N p r).length = many then ab_ii 1 else ab_ii 0) (m_alk M2 (m_fs N p r) (N 110 w.toInt.toNat) (m_fs N p r).length) (m_cmp (m_co M2 r p (ab_ii 7) w).1 13 r (m_co M2 r p (ab_ii 7) w).2) := by
  have hgo := o_go (z := z1) hbg
  obtain ⟨F', T', r1, r2, r3, r4, r5⟩ := hgo.1 hu
  obtain ⟨-, ⟨-, hTM2, -⟩, -, hxF, hcop, -, -⟩ := hbg
  have hxb := (h1.2.2.1.in hx).2
  have hTN2 := m_co_T (p := p) hcop hTM2 hxb.1 (by rw [hE2.2.1]; exact hxb.2) hu hn2 hh2
  obtain ⟨⟨-, a2, a3, a4⟩, -, ⟨d1, d2⟩, -⟩ := r2
  have hTc : m_T (m_co0 M2 p (ab_ii 7) w) (M2 102 8).toInt := m_T_c (m_eqv_co0 (M := M2)).sa hTM2
  have hls := h_fs a2.1 hTc a4 hx
  rw [m_fs_c (m_eqv_co0 (M := M2)), m_fs_c hE2] at hls
  have hlen := hls.len
  have hal : c_all (c_R gv b x1 (ab_ii 7) (ab_ii 0) (I1, g1, k1, z1)).2.2.1 (c_fs41 (c_R gv b x1 (ab_ii 7) (ab_ii 0) (I1, g1, k1, z1)).2.2.1 b x1) gv (c_fs41 (c_R gv b x1 (ab_ii 7) (ab_ii 0) (I1, g1, k1, z1)).2.2.1 b x1).length 0 = true ↔ ¬ (m_alk M2 (m_fs N p r) (N 110 w.toInt.toNat) (m_fs N p r).length).toInt = 0 := by
    rw [w_all, w_alk]
    have hone : ∀ i, i < (m_fs N p r).length → (c_cmp (c_R gv b x1 (ab_ii 7) (ab_ii 0) (I1, g1, k1, z1)).2.2.1 41 ((c_fs41 (c_R gv b x1 (ab_ii 7) (ab_ii 0) (I1, g1, k1, z1)).2.2.1 b x1).getD i 0) gv = m_cmp M2 13 ((m_fs N p r).getD i 0) (N 110 w.toInt.toNat)) := fun i hi => by
      rw [← m_cmp_c (m_eqv_co0 (M := M2) (p := p) (how := ab_ii 7) (v := w)).sa 13]
      exact h_cmp41 (f' := 13) a2.1 hTc (by omega) (hls.at i (by omega)) hgv
    constructor
    · intro h i hi
      rw [← hone i hi]
      exact h i (Nat.zero_le _) (by omega)
    · intro h i _ hi
      rw [hone i (by omega)]
      exact h i (by omega)
  have hcm := h_cmp41 (f' := 13) d1.1 hTN2 (by omega) (r3 _ _ hx) r5
  unfold c_fA m_fitv
  rw [hcm, hlen, hn]
  have e1 : (if ((m_fs N p r).length : Int) = (many : Int) then (1 : Int) else 0) = (if (m_fs N p r).length = many then ab_ii 1 else ab_ii 0).toInt := by
    by_cases e : (m_fs N p r).length = many
    · rw [if_pos e, if_pos (by omega)]; rfl
    · rw [if_neg e, if_neg (by omega)]; rfl
  rw [hlen] at hal
  have e2 : (if c_all (c_R gv b x1 (ab_ii 7) (ab_ii 0) (I1, g1, k1, z1)).2.2.1 (c_fs41 (c_R gv b x1 (ab_ii 7) (ab_ii 0) (I1, g1, k1, z1)).2.2.1 b x1) gv (m_fs N p r).length 0 = true then (2 : Int) else 0) = (if (m_alk M2 (m_fs N p r) (N 110 w.toInt.toNat) (m_fs N p r).length).toInt = 0 then 0 else 2) := by
    by_cases e : (m_alk M2 (m_fs N p r) (N 110 w.toInt.toNat) (m_fs N p r).length).toInt = 0
    · rw [if_pos e, if_neg (fun q => hal.mp q e)]
    · rw [if_neg e, if_pos (hal.mpr e)]
  rw [e1, e2]
theorem hc_fit (hd : 98 ≤ d) (h : w_In F T I P M g k) (hr : k_rm (m + 1) I k z) {s p w : Int32} (hQ : w_res 193 42 [wd_v 102, .inl s, .inl p, .inl w] m M Q) : ab_CT d 119 [wd_v 0, .inl s, .inl p, .inl w] (wd I P M g, k, z) Q := by
  have hr0 : k_rm m I k z := hr.le (Int.le_refl _) (Nat.le_add_right _ _) (Nat.le_add_right _ _)
  obtain ⟨a, ha⟩ := h.sh s
  obtain ⟨b, hb⟩ := h.pa p
  obtain ⟨gv, hgv⟩ := h.sh w
  have hiff : (c_sh s ∧ c_pp p ∧ c_sh w) ↔ m_fok s p w := by
    unfold m_fok c_sh c_pp m_sh m_pa
    omega
  have hP : ∀ x j, x ≠ 10 → c_fP P b gv x j = P x j := fun x j q => c_cP_ne q
  by_cases hall : c_sh s ∧ c_pp p ∧ c_sh w
  · obtain ⟨hs9, hp9, hw9⟩ := id hall
    have hfo := hiff.mp hall
    obtain ⟨T1, T2, g1, g2, g3⟩ := k_fit2 (m := m) (z := z) (b := b) h (ha hs9).1.2 (hgv hw9).1.2
    obtain ⟨rm1, rm2⟩ := g3 hr
    have hbg := fun (M1 : wd_I) (hE : m_eqv M M1) => h.f1 (ha hs9).2 hp9 (hb hp9) hfo.2.2 (hgv hw9).2 hE
    have hw1 : ∀ (M1 : wd_I), m_eqv M M1 → w_In F T1 (c_F1 gv b a (I, g, k, z)).2.1 (c_fP P b gv) (m_rs M (m_co M1 (M 110 s.toInt.toNat) p (ab_ii 7) w).1) (c_F1 gv b a (I, g, k, z)).2.2.1 (c_F1 gv b a (I, g, k, z)).2.2.2.1 := fun M1 hE => by
      rw [← m_rs_eqv hE]
      exact w_ovn (z := z) (h.eqv hE) (hbg M1 hE) g1 hP
    have hw2 := fun (M1 N M2 : wd_I) (r : Int32) (hE : m_eqv M M1) (hR : (N, r) = m_co M1 (M 110 s.toInt.toNat) p (ab_ii 7) w) hu hn2 hh2 (hE2 : m_eqv N M2) => w_fit2 (z := z) (T2 := T2) h (ha hs9).2 hp9 (hb hp9) hfo.2.2 (hgv hw9).2 hE hR hu hn2 hh2 hE2 g2.1 g2.2.1 g2.2.2.1 g2.2.2.2.1 g2.2.2.2.2.1 g2.2.2.2.2.2
    have hen := fun (M1 : wd_I) (hE : m_eqv M M1) => o_end (z := z) (hbg M1 hE)
    have hta := (h.2.2.1.in (ha hs9).2).2
    -- what the second OVER comes to
    have hen2 : ∀ (M1 N M2 : wd_I) (r : Int32) (hE : m_eqv M M1) (hR : (N, r) = m_co M1 (M 110 s.toInt.toNat) p (ab_ii 7) w) (hu : (N 102 36).toInt = 0) (hn2 : (N 106 r.toInt.toNat).toInt ≤ 200) (hh2 : (N 107 r.toInt.toNat).toInt ≤ 12) (hE2 : m_eqv N M2), (((c_F2 gv b a (I, g, k, z)).2.1 10 6).toInt = 0 ↔ ((m_co M2 r p (ab_ii 7) w).1 102 36).toInt = 0) ∧ (((m_co M2 r p (ab_ii 7) w).1 102 36).toInt = 0 → (c_tooM (c_F2 gv b a (I, g, k, z)).2.2.1 (c_F2 gv b a (I, g, k, z)).1 ↔ (200 < ((m_co M2 r p (ab_ii 7) w).1 106 (m_co M2 r p (ab_ii 7) w).2.toInt.toNat).toInt ∨ 12 < ((m_co M2 r p (ab_ii 7) w).1 107 (m_co M2 r p (ab_ii 7) w).2.toInt.toNat).toInt))) := fun M1 N M2 r hE hR hu hn2 hh2 hE2 => by
      obtain ⟨-, F1, T1', w1, w2, w3, w4⟩ := hw2 M1 N M2 r hE hR hu hn2 hh2 hE2
      obtain ⟨e1, e2, e3⟩ := o_end (z := (c_F1 gv b a (I, g, k, z)).2.2.2.2) w4
      refine ⟨e1, fun q => ?_⟩
      obtain ⟨F', T', -, -, -, -, -, e4⟩ := e3 q
      exact e4
    have hN36 : ∀ (M1 N : wd_I) (r : Int32), (N, r) = m_co M1 (M 110 s.toInt.toNat) p (ab_ii 7) w → (N 102 36).toInt = 0 → ((m_co M1 (M 110 s.toInt.toNat) p (ab_ii 7) w).1 102 36).toInt = 0 := fun M1 N r hR hu => by rw [← hR]; exact hu
    have hcl1 : ((c_F1 gv b a (I, g, k, z)).2.1 10 6).toInt = 0 → ¬ c_tooM (c_F1 gv b a (I, g, k, z)).2.2.1 (c_F1 gv b a (I, g, k, z)).1 → ∀ (M1 : wd_I), m_eqv M M1 → ((m_co M1 (M 110 s.toInt.toNat) p (ab_ii 7) w).1 102 36).toInt = 0 ∧ ¬ (200 < ((m_co M1 (M 110 s.toInt.toNat) p (ab_ii 7) w).1 106 (m_co M1 (M 110 s.toInt.toNat) p (ab_ii 7) w).2.toInt.toNat).toInt ∨ 12 < ((m_co M1 (M 110 s.toInt.toNat) p (ab_ii 7) w).1 107 (m_co M1 (M 110 s.toInt.toNat) p (ab_ii 7) w).2.toInt.toNat).toInt) := fun c1 c2 M1 hE => by
      have h36 := (hen M1 hE).1.mp c1
      obtain ⟨F', T', -, -, -, -, -, q⟩ := (hen M1 hE).2.2 h36
      exact ⟨h36, fun e => c2 (q.mpr e)⟩
    refine y_fit hd h.2.1.1 h.2.1.2.1 h.2.1.2.2.1 hr.ro (fun e => absurd hall e) (fun q => (ha q).1) (fun q => (hb q).1) (fun q => (hgv q).1) (fun _ c1 => ?_) (fun _ c1 c2 => ?_) (fun _ c1 c2 c3 => ?_) (fun _ c1 c2 c3 c4 => ?_) (fun _ c1 c2 c3 c4 => ?_)
    · exact hQ _ F T1 _ _ _ _ _ (fun d Q hd hq => x_fit hd h.1.1 h.1.lok h.1.2.2.1 (fun e => absurd hfo e) (fun _ M1 hE e => hq _ (hw1 M1 hE)) (fun _ M1 hE e1 e2 => absurd ((hen M1 hE).1.mpr e1) c1) (fun _ M1 hE N r hR hu hn2 hh2 M2 hE2 => absurd ((hen M1 hE).1.mpr (hN36 M1 N r hR hu)) c1)) rm1
    · refine hQ _ F T1 _ _ _ _ _ (fun d Q hd hq => x_fit hd h.1.1 h.1.lok h.1.2.2.1 (fun e => absurd hfo e) (fun _ M1 hE e => absurd ((hen M1 hE).1.mp c1) e) (fun _ M1 hE e1 e2 => hq _ (hw1 M1 hE)) (fun _ M1 hE N r hR hu hn2 hh2 M2 hE2 => ?_)) rm1
      exfalso
      obtain ⟨F', T', -, -, -, -, -, q⟩ := (hen M1 hE).2.2 (hN36 M1 N r hR hu)
      have := q.mp c2
      rw [← hR] at this
      dsimp only at this
      omega
    · refine hQ _ F T2 _ _ _ _ _ (fun d Q hd hq => x_fit hd h.1.1 h.1.lok h.1.2.2.1 (fun e => absurd hfo e) (fun _ M1 hE e => absurd (hcl1 c1 c2 M1 hE).1 e) (fun _ M1 hE e1 e2 => absurd e2 (hcl1 c1 c2 M1 hE).2) (fun _ M1 hE N r hR hu hn2 hh2 M2 hE2 => ?_)) rm2
      have hfin := (hw2 M1 N M2 r hE hR hu hn2 hh2 hE2).1
      have h2 := hen2 M1 N M2 r hE hR hu hn2 hh2 hE2
      exact ⟨fun _ => hq _ hfin, fun q => absurd (h2.1.mpr q) c3, fun q => absurd (h2.1.mpr q) c3⟩
    · refine hQ _ F T2 _ _ _ _ _ (fun d Q hd hq => x_fit hd h.1.1 h.1.lok h.1.2.2.1 (fun e => absurd hfo e) (fun _ M1 hE e => absurd (hcl1 c1 c2 M1 hE).1 e) (fun _ M1 hE e1 e2 => absurd e2 (hcl1 c1 c2 M1 hE).2) (fun _ M1 hE N r hR hu hn2 hh2 M2 hE2 => ?_)) rm2
      have hfin := (hw2 M1 N M2 r hE hR hu hn2 hh2 hE2).1
      have h2 := hen2 M1 N M2 r hE hR hu hn2 hh2 hE2
      exact ⟨fun q => absurd (h2.1.mp c3) q, fun _ _ => hq _ hfin, fun q q1 q2 => by
        have := (h2.2 q).mp c4
        omega⟩
    · refine hQ _ F T2 _ _ _ _ _ (fun d Q hd hq => x_fit hd h.1.1 h.1.lok h.1.2.2.1 (fun e => absurd hfo e) (fun _ M1 hE e => absurd (hcl1 c1 c2 M1 hE).1 e) (fun _ M1 hE e1 e2 => absurd e2 (hcl1 c1 c2 M1 hE).2) (fun _ M1 hE N r hR hu hn2 hh2 M2 hE2 => ?_)) (by unfold k_rm at *; rw [f_fnd_ne.1 _ _ (by omega)]; exact rm2)
      obtain ⟨hfin, F1, T1', w1, w2, w3, w4⟩ := hw2 M1 N M2 r hE hR hu hn2 hh2 hE2
      have h2 := hen2 M1 N M2 r hE hR hu hn2 hh2 hE2
      refine ⟨fun q => absurd (h2.1.mp c3) q, fun q q1 => absurd ((h2.2 q).mpr q1) c4, fun q q1 q2 => ?_⟩
      -- how many foci the first OVER counted
      have hcop1 := (hbg M1 hE).2.2.2.2.1
      have hTM1 := (hbg M1 hE).2.1.2.1
      have hlb := m_fs_len h.tab.tb hta.1 hta.2 (p := p)
      have hcnt := o_cnt (M0 := m_co0 M1 p (ab_ii 7) w) (n0 := (M1 102 8).toInt) (p := p.toInt.toNat) (m_T_c (m_eqv_co0 (M := M1)).sa hTM1) 21 (m_co0 M1 p (ab_ii 7) w) (M 110 s.toInt.toNat) 0 (m_cop_op hcop1) m_fr.rf hta.1 (by rw [hE.2.1]; exact hta.2) (hN36 M1 N r hR hu)
      have e350 : (m_co0 M1 p (ab_ii 7) w 102 35).toInt = 0 := by
        rw [(m_co0_33 (M := M1) (p := p) (how := ab_ii 7) (n := w)).2.2.2.1]
        rfl
      have efs : m_fo (m_co0 M1 p (ab_ii 7) w) p.toInt.toNat 21 (M 110 s.toInt.toNat) 0 = m_fs M p (M 110 s.toInt.toNat) := (m_fs_c (m_eqv_co0 (M := M1))).trans (m_fs_c hE)
      rw [e350, efs] at hcnt
      have hcnt := hcnt (by omega) (by omega)
      obtain ⟨F', T', -, -, -, -, e5, -⟩ := (hen M1 hE).2.2 (hN36 M1 N r hR hu)
      have hnI : ((c_F1 gv b a (I, g, k, z)).2.1 10 5).toInt = ((m_fs M p (M 110 s.toInt.toNat)).length : Int) := by
        change (c_F1 gv b a (I, g, k, z)).2.1 10 5 = _ at e5
        rw [e5]
        have : ((m_co M1 (M 110 s.toInt.toNat) p (ab_ii 7) w).1 102 35).toInt = 0 + ((m_fs M p (M 110 s.toInt.toNat)).length : Int) := hcnt
        omega
      have eN110 : N 110 = M 110 := by
        obtain ⟨-, r2, -⟩ := o_rf (p := p) (h.eqv hE).1 hcop1 (by rw [hE.2.1]; exact hta)
        rw [← hR] at r2
        exact (r2 110 (by decide)).trans (hE.1 110 (by decide) (by decide))
      have hA := w_fitA (z1 := (c_F1 gv b a (I, g, k, z)).2.2.2.2) (many := (m_fs M p (M 110 s.toInt.toNat)).length) (nI := (c_F1 gv b a (I, g, k, z)).2.1 10 5) w2 hE2 w3 (by rw [eN110]; exact w1 _ _ (hgv hw9).2) w4 hnI q q1 q2
      rw [eN110] at hA
      rw [← hA]
      exact hq _ hfin.fnd
  · refine y_fit hd h.2.1.1 h.2.1.2.1 h.2.1.2.2.1 hr.ro (fun e => ?_) (fun q => (ha q).1) (fun q => (hb q).1) (fun q => (hgv q).1) (fun e => absurd e hall) (fun e => absurd e hall) (fun e => absurd e hall) (fun e => absurd e hall) (fun e => absurd e hall)
    exact hQ _ F T _ _ _ _ _ (w_ref_bad h (fun d Q hd hq => x_fit hd h.1.1 h.1.lok h.1.2.2.1 (fun _ => hq) (fun e => absurd (hiff.mpr e) hall) (fun e => absurd (hiff.mpr e) hall) (fun e => absurd (hiff.mpr e) hall))) hr0
end
