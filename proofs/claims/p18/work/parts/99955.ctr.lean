/-! ===== both objects: a thing read, whole (own text) ===== -/
section
variable {F0 F : Nat → Int32 → Prop} {T0 T : Nat → Prop} {S0 S : c_St} {M0 M N : wd_I} {t sort wo : Int32} {hb : Int} {G : c_St → r_O} {G' : wd_I → wd_I × Int32} {n x : Nat} {fk : Nat → Int32} {fp : Nat → Option Nat}
theorem m_begins_120 {a b c : Int32} : m_begins N a b c 120 = N 120 := by
  unfold m_begins
  rw [wd_up_row _ _ _ (by decide), wd_up_row _ _ _ (by decide), wd_up_row _ _ _ (by decide), wd_up_row _ _ _ (by decide)]
theorem h_rmany (hG : h_G G G' hb) (hGr : m_rG G') (hGk : ∀ M, m_kf M (G' M).1) (hb0 : 0 ≤ hb ∧ hb ≤ 12) {close : Int32} (hcl : close.toInt = 93 ∨ close.toInt = 125) (hp : m_rp M0) (hrg : m_rg M0 N) (hlt : (N 102 8).toInt + m_pt N + 1 ≤ (M0 102 8).toInt + m_pt M0) (hpr : r_pr T0 S0) (hr : h_rd S0.1 N) (hf : (N 102 24).toInt = -1) (hk : h_k F0 T0 S0.2.1 M0 (M0 102 8).toInt) : h_res F0 T0 S0 M0 (r_many G sort close S0) (m_rmany G' N sort close) (hb + 1) := by
  have h0 := h_at_begin (sort := sort) (wo := ab_ii 0) (hb := hb) (fk := fun _ => 0) (fp := fun _ => none) hp hrg hlt hpr hr hf hk
  have hc0 : 0 ≤ close.toInt := by omega
  obtain ⟨a1, a2, a3, a4, a5⟩ := h0.1
  have hrd := h0.2.2.2.1.1
  have hfb := h0.2.2.2.1.2
  have hnx := hrd.nx hfb
  have hsz : m_sz (m_begins N sort (ab_ii 0) (ab_ii 0)) (N 102 8) = 0 := m_pd_sz h0.2.1
  have hW := hpr.1
  unfold m_rmany m_all r_many
  dsimp only
  by_cases c1 : (t_next S0.1).toInt = close.toInt
  · rw [if_pos c1, if_pos ⟨hfb, by rw [← hnx]; exact c1⟩]
    have hl := (m_here_lt (M := m_begins N sort (ab_ii 0) (ab_ii 0)) (by rw [← hnx]; omega)).1
    have n1 := h_step hrd hfb hl
    have n2 := (m_stp_sc hrd.2.2.1 hl).1
    have n3 : (m_stp (m_begins N sort (ab_ii 0) (ab_ii 0)) 102 24).toInt = -1 := by
      rw [show m_stp (m_begins N sort (ab_ii 0) (ab_ii 0)) 102 24 = m_begins N sort (ab_ii 0) (ab_ii 0) 102 24 from wd_up_ne _ _ (Or.inr (by decide))]
      exact hfb
    have h1 := ((h0.sc n1 n2 n3).pu (fk' := fun _ => 0) (fp' := fun _ => none) (m := 0) (z' := S0.2.2.2 + 3 + 13 + 13)).1
    have hsz2 : m_sz (m_stp (m_begins N sort (ab_ii 0) (ab_ii 0))) (N 102 8) = 0 := m_pd_sz h1.2.1
    rw [hsz2]
    exact h1.tog hb0 (fun _ j hj => absurd hj (Nat.not_lt_zero _))
  · rw [if_neg c1, if_neg (fun q => c1 (by rw [hnx]; exact q.2)), hsz]
    obtain ⟨h1, h2⟩ := h0.pu (fk' := fun _ => 0) (fp' := fun _ => none) (m := 0) (z' := S0.2.2.2 + 3 + 13 + 13)
    exact h_mnl hG hGr hGk hb0 hcl (Nat.le_refl _) 12 0 102 (fun _ => 0) (fun _ => none) F0 T0 (r_S0 S0) _ rfl (by omega) (by omega) h1 (fun _ j hj => absurd hj (Nat.not_lt_zero _)) (fun _ j hj => absurd hj (Nat.not_lt_zero _)) h2 (by show S0.2.2.1 + 3 ≤ S0.2.2.1 + 1 + 1 + 1; omega)
/-- behind a tag -/
theorem h_at.tag (h : h_at F0 T0 S0 M0 t (ab_ii 4) wo hb F T S M 1 fk fp) (hb0 : 0 ≤ hb ∧ hb ≤ 12) {b : Nat} (hfp : fp 0 = some b) (hfk : fk 0 = ab_ii 0) : h_res F0 T0 S0 M0 (r_tag2 wo (some b, S)) (m_ends M t 1, t) (hb + 1) := by
  have hf := h.rT
  have hnt := h.nt
  obtain ⟨⟨a1, a2, a3, a4, a5⟩, b', ⟨c1, c2⟩, ⟨d1, d2⟩, ⟨e1, e2⟩, f, i, k1, k2⟩ := h
  obtain ⟨I, g, k, z⟩ := S
  have hTb : T b := by
    obtain ⟨b1, b2, b3⟩ := hf 0 (by omega)
    rw [hfp] at b2
    cases b2
    exact b3
  have er : ∀ x, x ≠ 106 → x ≠ 107 → m_ends M t 1 x = M x := fun x h1 h2 => m_ends_row h1 h2
  have e102 := er 102 (by decide) (by decide)
  have h125 : 125 ≤ k := c2.2.1
  have hW : c_W T g k := c2.1
  have hkk : S0.2.2.1 ≤ k := c_hs_kk c1
  have hmk := fun (T1 : Nat → Prop) (S1 : c_St) (hc : c_st T1 S1 T (c_J, g, k, z)) (hq : S1.2.2.1 ≤ k) => c_mkg_st (kd := ab_ii 4) (wo := wo) (z' := z + 1 + 6) (c_st.cell hc (x := k) (k' := k + 1) (c := ab_ra 4 1 (ab_up (fun _ => none) 0 (some b))) (z' := z + 1) (I' := c_J) (Nat.le_refl _) (Nat.le_succ _) c_Ifr.rf) (by omega) (q := k) (np := 1) (fq := ab_up (fun _ => none) 0 (some b)) hq ⟨⟨wd_mut_new h125, by omega⟩, ab_up_self _ _ _, by omega⟩ (c_one_T hTb) c_Ifr.rf
  have h3 := hmk T0 (c_J, S0.2) c1 hkk
  have h3' := hmk T (c_J, g, k, z) (c_st.rf hW) (Nat.le_refl _)
  have hfin := h_fin (M := M) (g' := c_mkg (ab_up g k (ab_ra 4 1 (ab_up (fun _ => none) 0 (some b)))) (k + 1) (ab_ii 4) wo k 1 (ab_up (fun _ => none) 0 (some b))) (T' := fun c => T c ∨ c = k + 1) (a := k + 1) (ka := k + 1 + 1) (pa := k) (nk := 0) (fk2 := fun _ => 0) (fp2 := ab_up (fun _ => none) 0 (some b)) (kd := ab_ii 4) (wo := wo) (g2 := ab_up (ab_up g k (ab_ra 4 1 (ab_up (fun _ => none) 0 (some b)))) (k + 1 + 1) (ab_ia 0 0 (fun _ => 0))) f i a4 ⟨a3, b'.2.1⟩ (fun b q => hnt b t q rfl) (fun u q => by have := (hW _ (f.in q).1).1.2; omega) hb0 (fun _ q => Or.inl q) (Or.inr rfl) (fun c hc => h_sm_wf (c_wf_xt (hW c hc) h3'.ofr h3'.kk)) (ab_up_self _ _ _) ((ab_up_ne _ _ (by omega)).trans (ab_up_self _ _ _)) ((ab_up_ne _ _ (by omega)).trans ((ab_up_ne _ _ (by omega)).trans (ab_up_self _ _ _))) (fun j hj => by rw [show j = 0 by omega, ab_up_self, hfp]) (fun j hj => by rw [if_neg (by omega), show j = 0 by omega, hfk]) (fun c hc => (h_sm_wf (c_wf_xt (k' := k) (hW c hc) (c_ofr_up (c_ofr_up c_ofr.rf (Nat.le_refl _)) (by omega)) (Nat.le_refl _))).2.2.2) k1 k2 (fun e => absurd e (by decide))
  obtain ⟨f1, f2⟩ := hfin
  refine ⟨d1.cg (fun j _ => by show m_ends M t 1 102 j = _; rw [e102]) (er 120 (by decide) (by decide)), fun q => absurd (by show (m_ends M t 1 102 24).toInt = -1; rw [e102]; exact d2) q, fun _ => ⟨_, h_and F (k + 1) t, k + 1, rfl, h3, fun b u q => Or.inl (e1 b u q), fun b u q => ?_, ?_, Or.inr ⟨rfl, rfl⟩, f2⟩⟩
  · rcases q with q | ⟨-, q⟩
    · rcases e2 b u q with q1 | q1
      · exact Or.inl q1
      · exact Or.inr (by omega)
    · rw [q]; exact Or.inr a2
  · show h_k (h_and F (k + 1) t) _ (c_mkg (ab_up g k (ab_ra 4 1 (ab_up (fun _ => none) 0 (some b)))) (k + 1) (ab_ii 4) wo k 1 (ab_up (fun _ => none) 0 (some b))) (m_ends M t 1) (m_ends M t 1 102 8).toInt
    rw [e102]
    exact f1
theorem h_rtag (hG : h_G G G' hb) (hGr : m_rG G') (hGk : ∀ M, m_kf M (G' M).1) (hb0 : 0 ≤ hb ∧ hb ≤ 12) (hp : m_rp M0) (hrg : m_rg M0 N) (hpt : (N 102 24).toInt = -1 → (N 102 8).toInt + m_pt N + 1 ≤ (M0 102 8).toInt + m_pt M0) {v v' : Int32} {I' : wd_I} (hpr : r_pr T0 (I', S0.2)) (hr : h_rd I' N) (hv : (N 102 24).toInt = -1 → v' = v) (hk : h_k F0 T0 S0.2.1 M0 (M0 102 8).toInt) (hfin : m_rg M0 (m_ends (m_adds (G' (m_begins N (ab_ii 4) v' (ab_ii 0))).1 (N 102 8) (ab_ii 0) (G' (m_begins N (ab_ii 4) v' (ab_ii 0))).2 0) (N 102 8) 1)) : h_res F0 T0 S0 M0 (if 0 ≤ (I' 1 3).toInt then (none, (I', S0.2)) else r_tag2 v (G (I', S0.2))) (m_ends (m_adds (G' (m_begins N (ab_ii 4) v' (ab_ii 0))).1 (N 102 8) (ab_ii 0) (G' (m_begins N (ab_ii 4) v' (ab_ii 0))).2 0) (N 102 8) 1, N 102 8) (hb + 1) := by
  by_cases f1 : (N 102 24).toInt = -1
  · rw [if_neg (h_rd.un (S := (I', S0.2)) hr f1)]
    rw [hv f1] at hfin ⊢
    have h0 := h_at_begin (S0 := (I', S0.2)) (sort := ab_ii 4) (wo := v) (hb := hb) (fk := fun _ => ab_ii 0) (fp := fun _ => none) hp hrg (hpt f1) hpr hr f1 hk
    obtain ⟨g1, g2, g3, g4⟩ := h0.go hG hGr
    have rg1 := h0.2.1.1.tr g2
    generalize G' (m_begins N (ab_ii 4) v (ab_ii 0)) = R1 at *
    obtain ⟨N1, p⟩ := R1
    dsimp only at *
    by_cases f2 : (N1 102 24).toInt = -1
    · obtain ⟨T1, F1, a, s1, h1, s6, s7, -⟩ := g4 f2
      have eG : G (I', S0.2) = (some a, (G (I', S0.2)).2) := Prod.ext s1 rfl
      rw [eG]
      exact (h1.adds (by omega) s6 s7 (fk' := fun _ => ab_ii 0) (fp' := fun _ => some a) (fun _ _ => rfl) rfl (fun j hj => absurd hj (Nat.not_lt_zero _)) rfl).tag hb0 rfl rfl
    · have eG : G (I', S0.2) = (none, (G (I', S0.2)).2) := Prod.ext (g3 f2) rfl
      rw [eG]
      exact h_res_no g1 rg1 hfin (m_adds_kf.tr m_ends_kf) f2
  · rw [if_pos (h_rd.ft (S := (I', S0.2)) hr f1)]
    exact h_res_no (J := (I', S0.2)) hr hrg hfin (((m_begins_kf.tr (hGk _)).tr m_adds_kf).tr m_ends_kf) f1
theorem m_rd_eq {f : Nat} (hf : (M 102 24).toInt = -1) : m_rd (f + 1) M = m_rd1 (m_rd f) (m_rm1 M) := by
  show (if _ then _ else _) = _
  rw [if_neg (fun q => q hf)]
theorem h_rm1 {I : wd_I} (h : h_rd I M) : h_rd I (m_rm1 M) := h.cg (fun j hj => m_rm1_n (by omega)) (wd_up_row _ _ _ (by decide))
theorem h_rd1 {f : Nat} (hG : h_G (r_rd f) (m_rd f) (f : Int)) (hf12 : f ≤ 12) : h_G (r_rd (f + 1)) (m_rd (f + 1)) ((f + 1 : Nat) : Int) := by
  intro F T S M hpr hp hr hf hk
  have hGr := m_rd_rr f
  have hGk := m_rd_kf f
  have hb0 : 0 ≤ (f : Int) ∧ (f : Int) ≤ 12 := by omega
  have hfin := (m_rd_rr (f + 1) M hp).1
  rw [m_rd_eq hf] at hfin ⊢
  have hnx := hr.nx hf
  have hr1 := h_rm1 hr
  have hf1 : (m_rm1 M 102 24).toInt = -1 := by rw [m_rm1_n (by decide)]; exact hf
  have hst : 0 ≤ (m_here M).toInt → h_rd (t_step S.1) (m_stp (m_rm1 M)) ∧ (m_stp (m_rm1 M) 102 24).toInt = -1 ∧ r_pr T (t_step S.1, S.2) := fun q => by
    have e : m_here (m_rm1 M) = m_here M := m_here_rm1
    refine ⟨h_step hr1 hf1 (m_here_lt (M := m_rm1 M) (by rw [e]; exact q)).1, ?_, ⟨hpr.1, hpr.2.1, t_step_tp hpr.2.2⟩⟩
    rw [show m_stp (m_rm1 M) 102 24 = m_rm1 M 102 24 from wd_up_ne _ _ (Or.inr (by decide))]
    exact hf1
  unfold m_rd1 at hfin ⊢
  rw [m_here_rm1, ← hnx] at hfin ⊢
  show h_res F T S M (r_rd1 (r_rd f) S) _ _
  unfold r_rd1
  by_cases c1 : (t_next S.1).toInt = 40
  · rw [if_pos c1] at hfin ⊢
    rw [if_pos c1]
    obtain ⟨s1, s2, s3⟩ := hst (by rw [← hnx]; omega)
    obtain ⟨rg, pS, lt⟩ := m_stp1_f hp (by rw [← hnx]; omega)
    exact h_rpair (S0 := (t_step S.1, S.2)) hG hGr hGk hb0 hp rg lt s3 s1 s2 hk hfin
  rw [if_neg c1] at hfin ⊢
  rw [if_neg c1]
  by_cases c2 : (t_next S.1).toInt = 91
  · rw [if_pos c2] at hfin ⊢
    rw [if_pos c2]
    obtain ⟨s1, s2, s3⟩ := hst (by rw [← hnx]; omega)
    obtain ⟨rg, pS, lt⟩ := m_stp1_f hp (by rw [← hnx]; omega)
    exact h_rmany (S0 := (t_step S.1, S.2)) hG hGr hGk hb0 (Or.inl rfl) hp rg lt s3 s1 s2 hk
  rw [if_neg c2] at hfin ⊢
  rw [if_neg c2]
  by_cases c3 : (t_next S.1).toInt = 123
  · rw [if_pos c3] at hfin ⊢
    rw [if_pos c3]
    obtain ⟨s1, s2, s3⟩ := hst (by rw [← hnx]; omega)
    obtain ⟨rg, pS, lt⟩ := m_stp1_f hp (by rw [← hnx]; omega)
    exact h_rmany (S0 := (t_step S.1, S.2)) hG hGr hGk hb0 (Or.inr rfl) hp rg lt s3 s1 s2 hk
  rw [if_neg c3] at hfin ⊢
  rw [if_neg c3]
  by_cases c4 : (t_next S.1).toInt = 35
  · rw [if_pos c4] at hfin ⊢
    rw [if_pos c4]
    obtain ⟨s1, s2, s3⟩ := hst (by rw [← hnx]; omega)
    obtain ⟨rg, pS, lt⟩ := m_stp1_f hp (by rw [← hnx]; omega)
    have d1 := h_digits s1 (m := 1) (by omega)
    have d2 := m_one_sc (lo := ab_ii 48) (hi := ab_ii 57) s1.2.2.1 (by decide)
    have d3 := (t_digits_tf (most := 1) s3.2.2 (by omega)).1
    have e8 := d2.1.2.1 8 (by decide) (by decide)
    exact h_rtag (S0 := S) (N := (m_one (m_stp (m_rm1 M)) (ab_ii 48) (ab_ii 57)).1) (v := (t_digits (t_step S.1) 1).2) (v' := ab_ii ((m_one (m_stp (m_rm1 M)) (ab_ii 48) (ab_ii 57)).2.toInt - 48)) (I' := (t_digits (t_step S.1) 1).1) hG hGr hGk hb0 hp (rg.tr d2.1.rg) (fun _ => by have := d2.2 s2; rw [e8]; omega) ⟨hpr.1, hpr.2.1, d3.2.1⟩ d1.1 d1.2 hk hfin
  rw [if_neg c4] at hfin ⊢
  rw [if_neg c4]
  have d1 := h_signed hr1
  have d2 := m_signed_sc (M := m_rm1 M) hr1.2.2.1
  have d3 := (t_signed_tf hpr.2.2).1
  have e8 := d2.1.2.1 8 (by decide) (by decide)
  have rg1 : m_rg M (m_rm1 M) := m_many1_rg hp.1
  exact h_rnum (S0 := S) (hb := (f : Int)) hp (rg1.tr d2.1.rg) (fun _ => by
    have h1 := d2.2 hf1
    have h2 := m_rm1_pt (M := M)
    rw [e8, m_rm1_n (by decide)]
    omega) ⟨hpr.1, hpr.2.1, d3.2.1⟩ d1.1 d1.2 hk hb0 hfin
theorem h_rdG : ∀ f : Nat, f ≤ 13 → h_G (r_rd f) (m_rd f) (f : Int)
  | 0, _ => fun F T S M hpr hp hr hf hk => by
    have n1 := h_failat hr
    have n2 := (m_fails_sc (p := M 102 23) hr.2.2.1 hr.2.2.1.1).1
    refine h_res_no (J := (t_fail S.1 (S.1 1 2), S.2)) (X := m_fails M (M 102 23)) n1 n2.rg n2.rg (fun _ => rfl) ?_
    unfold m_fails
    rw [wd_up_self, if_pos hf]
    have := hr.2.2.1.1
    omega
  | f + 1, h => h_rd1 (h_rdG f (by omega)) (by omega)
end
