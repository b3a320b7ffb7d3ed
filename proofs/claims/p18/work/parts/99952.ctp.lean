/-! ===== both objects: pairs, tags and numbers read (own text) ===== -/
theorem m_kf_e {M N : wd_I} (h : N 102 24 = M 102 24) : m_kf M N := fun _ => h
theorem m_adds_kf {M : wd_I} {t key p : Int32} {s : Nat} : m_kf M (m_adds M t key p s) := m_kf_e (by rw [m_adds_102])
theorem m_ends_kf {M : wd_I} {t : Int32} {s : Nat} : m_kf M (m_ends M t s) := m_kf_e (by rw [m_ends_row (by decide) (by decide)])
theorem m_begins_kf {M : wd_I} {a b c : Int32} : m_kf M (m_begins M a b c) := m_kf_e (m_begins_n (by decide))
theorem m_rd_kf : ∀ f M, m_kf M (m_rd f M).1
  | 0, M => m_fails_kf
  | f + 1, M => fun q => by
    unfold m_rd
    rw [if_pos q]
    exact m_fails_kf q
section
variable {F F0 : Nat → Int32 → Prop} {T T0 : Nat → Prop} {S S0 : c_St} {M M0 N : wd_I} {hb : Int} {G : c_St → r_O} {G' : wd_I → wd_I × Int32}
/-- failed on the way -/
theorem h_res_no {J : c_St} {X : wd_I} {Y : wd_I × Int32} {f : Int} (h : h_rd J.1 X) (hx : m_rg M X) (hn : m_rg M Y.1) (hk : m_kf X Y.1) (hf : ¬ (X 102 24).toInt = -1) : h_res F T S M (none, J) Y f := by
  have h0 : 0 ≤ (X 102 24).toInt := by
    rcases h.f0 with q | q
    · exact absurd q hf
    · exact q
  have hr := h.flt h0 (r_tf.rf h.2.1) (fun _ => rfl) ⟨(hn.1.2.2 22 (by decide) (by decide) (by decide) (by decide)).trans (hx.1.2.2 22 (by decide) (by decide) (by decide) (by decide)).symm, (hn.1.2.1 120 (by decide)).trans (hx.1.2.1 120 (by decide)).symm⟩ hn.2.1 hk
  exact ⟨hr, fun _ => rfl, fun q => by rw [hk hf] at q; exact absurd q hf⟩
theorem h_rd.un (h : h_rd S.1 M) (hf : (M 102 24).toInt = -1) : ¬ 0 ≤ (S.1 1 3).toInt := by rw [h.2.2.2.1]; omega
theorem h_rd.ft (h : h_rd S.1 M) (hf : ¬ (M 102 24).toInt = -1) : 0 ≤ (S.1 1 3).toInt := by
  rw [h.2.2.2.1]
  rcases h.f0 with q | q
  · exact absurd q hf
  · exact q
theorem c_k2_0 : ∀ j, j < 2 → c_k2 j = ab_ii 0 := fun j hj => by
  by_cases e : j = 1
  · subst e; exact c_ins_at
  · have e : j = 0 := by omega
    subst e
    exact (c_ins_lt (by omega)).trans c_ins_at
theorem h_rpair (hG : h_G G G' hb) (hGr : m_rG G') (hGk : ∀ M, m_kf M (G' M).1) (hb0 : 0 ≤ hb ∧ hb ≤ 12) (hp : m_rp M0) (hrg : m_rg M0 N) (hlt : (N 102 8).toInt + m_pt N + 1 ≤ (M0 102 8).toInt + m_pt M0) (hpr : r_pr T0 S0) (hr : h_rd S0.1 N) (hf : (N 102 24).toInt = -1) (hk : h_k F0 T0 S0.2.1 M0 (M0 102 8).toInt) (hfin : m_rg M0 (m_rpair G' N).1) : h_res F0 T0 S0 M0 (r_pair1 G (G S0)) (m_rpair G' N) (hb + 1) := by
  have h0 := h_at_begin (sort := ab_ii 1) (wo := ab_ii 0) (hb := hb) (fk := c_k2) (fp := fun _ => none) hp hrg hlt hpr hr hf hk
  obtain ⟨g1, g2, g3, g4⟩ := h0.go hG hGr
  unfold m_rpair at hfin ⊢
  dsimp only at hfin ⊢
  have rg1 := h0.2.1.1.tr g2
  generalize G' (m_begins N (ab_ii 1) (ab_ii 0) (ab_ii 0)) = R1 at *
  obtain ⟨N1, p⟩ := R1
  dsimp only at *
  by_cases f1 : (N1 102 24).toInt = -1
  · obtain ⟨T1, F1, a, s1, h1, s6, s7, -⟩ := g4 f1
    have eG : G S0 = (some a, (G S0).2) := Prod.ext s1 rfl
    rw [eG]
    generalize (G S0).2 = S1 at *
    have h2 := h1.adds (by omega) s6 s7 (fk' := c_k2) (fp' := c_p1 a) (fun j hj => absurd hj (Nat.not_lt_zero _)) (c_k2_0 0 (by omega)) (fun j hj => absurd hj (Nat.not_lt_zero _)) c_ins_at
    have n1 := h_needs h2.2.2.2.1.1 (b := ab_ii 44) (by decide)
    have n2 := (m_one_sc (lo := ab_ii 44) (hi := ab_ii 44) h2.2.2.2.1.1.2.2.1 (by decide)).1
    have rg2 := h2.2.1.1.tr n2.rg
    unfold r_pair1
    dsimp only
    generalize m_one (m_adds N1 (N 102 8) (ab_ii 0) p 0) (ab_ii 44) (ab_ii 44) = O1 at *
    obtain ⟨N2, v1⟩ := O1
    dsimp only at *
    by_cases f2 : (N2 102 24).toInt = -1
    · have h3 := h2.sc n1 n2 f2
      obtain ⟨q1, q2, q3, q4⟩ := h3.go hG hGr
      have rg3 := h3.2.1.1.tr q2
      rw [if_neg (h3.2.2.2.1.1.un f2)]
      generalize G' N2 = R2 at *
      obtain ⟨N3, r⟩ := R2
      dsimp only at *
      by_cases f3 : (N3 102 24).toInt = -1
      · obtain ⟨T2, F2, b, s1', h4, s6', s7', -⟩ := q4 f3
        have eG2 : G (t_needs S1.1 (ab_ii 44), S1.2) = (some b, (G (t_needs S1.1 (ab_ii 44), S1.2)).2) := Prod.ext s1' rfl
        rw [eG2]
        generalize (G (t_needs S1.1 (ab_ii 44), S1.2)).2 = S2 at *
        have h5 := h4.adds (by omega) s6' s7' (fk' := c_k2) (fp' := c_p2 a b) (fun _ _ => rfl) (c_k2_0 1 (by omega)) (fun j hj => c_ins_lt (by omega)) c_ins_at
        have n3 := h_needs h5.2.2.2.1.1 (b := ab_ii 41) (by decide)
        have n4 := (m_one_sc (lo := ab_ii 41) (hi := ab_ii 41) h5.2.2.2.1.1.2.2.1 (by decide)).1
        have rg4 := h5.2.1.1.tr n4.rg
        unfold r_pair2
        dsimp only
        generalize m_one (m_adds N3 (N 102 8) (ab_ii 0) r 1) (ab_ii 41) (ab_ii 41) = O2 at *
        obtain ⟨N4, v2⟩ := O2
        dsimp only at *
        by_cases f4 : (N4 102 24).toInt = -1
        · have h6 := h5.sc n3 n4 f4
          rw [if_neg (h6.2.2.2.1.1.un f4)]
          have h7 := (h6.pu (fk' := c_k2) (fp' := c_p2 a b) (m := 2) (z' := S2.2.2.2 + 3 + 13 + 13)).1
          exact h7.tog hb0 (fun _ j hj => c_k2_0 j (by omega))
        · rw [if_pos (h_rd.ft (S := (t_needs S2.1 (ab_ii 41), S2.2)) n3 f4)]
          exact h_res_no (J := (t_needs S2.1 (ab_ii 41), S2.2)) n3 rg4 hfin m_ends_kf f4
      · have e3 := q3 f3
        have eG2 : G (t_needs S1.1 (ab_ii 44), S1.2) = (none, (G (t_needs S1.1 (ab_ii 44), S1.2)).2) := Prod.ext e3 rfl
        rw [eG2]
        unfold r_pair2
        dsimp only
        exact h_res_no q1 rg3 hfin ((m_adds_kf.tr m_one_kf).tr m_ends_kf) f3
    · rw [if_pos (h_rd.ft (S := (t_needs S1.1 (ab_ii 44), S1.2)) n1 f2)]
      exact h_res_no (J := (t_needs S1.1 (ab_ii 44), S1.2)) n1 rg2 hfin ((((hGk _).tr m_adds_kf).tr m_one_kf).tr m_ends_kf) f2
  · have e1 := g3 f1
    have eG : G S0 = (none, (G S0).2) := Prod.ext e1 rfl
    rw [eG]
    unfold r_pair1
    dsimp only
    exact h_res_no g1 rg1 hfin ((((((m_adds_kf).tr m_one_kf).tr (hGk _)).tr m_adds_kf).tr m_one_kf).tr m_ends_kf) f1
/-- a number -/
theorem h_rnum (hp : m_rp M0) (hrg : m_rg M0 N) (hpt : (N 102 24).toInt = -1 → (N 102 8).toInt + m_pt N + 1 ≤ (M0 102 8).toInt + m_pt M0) {v v' : Int32} {I' : wd_I} (hpr : r_pr T0 (I', S0.2)) (hr : h_rd I' N) (hv : (N 102 24).toInt = -1 → v' = v) (hk : h_k F0 T0 S0.2.1 M0 (M0 102 8).toInt) (hb0 : 0 ≤ hb ∧ hb ≤ 12) (hfin : m_rg M0 (m_number N v')) : h_res F0 T0 S0 M0 (if 0 ≤ (I' 1 3).toInt then (none, (I', S0.2)) else (some S0.2.2.1, (I', r_numg S0.2.1 S0.2.2.1 v, S0.2.2.1 + 1 + 1 + 1, S0.2.2.2 + 6))) (m_number N v', N 102 8) (hb + 1) := by
  by_cases f1 : (N 102 24).toInt = -1
  · rw [if_neg (h_rd.un (S := (I', S0.2)) hr f1), hv f1]
    have h0 := h_at_begin (S0 := (I', S0.2)) (sort := ab_ii 0) (wo := v) (hb := hb) (fk := fun _ => 0) (fp := fun _ => none) hp hrg (hpt f1) hpr hr f1 hk
    obtain ⟨J, g, k, z⟩ := S0
    dsimp only at *
    have hnt := h0.nt
    obtain ⟨⟨a1, a2, a3, a4, a5⟩, b, ⟨c1, c2⟩, ⟨d1, d2⟩, ⟨e1, e2⟩, f, i, k1, k2⟩ := h0
    have h125 : 125 ≤ k := c2.2.1
    have hW : c_W T0 g k := c2.1
    have er : ∀ x, x ≠ 106 → x ≠ 107 → m_number N v x = m_begins N (ab_ii 0) v (ab_ii 0) x := fun x h1 h2 => m_ends_row h1 h2
    have e102 := er 102 (by decide) (by decide)
    have h3 : c_st T0 (c_J, g, k, z) T0 (c_J, g, k, z) := c_st.rf hW
    have h4 := c_st.cell h3 (x := k + 1) (k' := k) (c := ab_ia 0 0 (fun _ => 0)) (z' := z) (I' := c_J) (by show k ≤ k + 1; omega) (Nat.le_refl _) c_Ifr.rf
    have h5 := c_st.cell h4 (x := k + 1 + 1) (k' := k) (c := ab_ra 4 0 (fun _ => none)) (z' := z) (I' := c_J) (by show k ≤ k + 1 + 1; omega) (Nat.le_refl _) c_Ifr.rf
    have h6 := c_st.thg h5 (x := k) (k' := k + 1 + 1 + 1) (z' := z + 6) (kd := ab_ii 0) (wo := v) (ka := k + 1) (pa := k + 1 + 1) (nk := 0) (np := 0) (fk := fun _ => 0) (fp := fun _ => none) (I' := c_J) (Nat.le_refl _) (by show k < k + 1 + 1 + 1; omega) (wd_mut_new h125) ⟨⟨wd_mut_new (by omega), by omega⟩, (ab_up_ne _ _ (by omega)).trans (ab_up_self _ _ _), by omega⟩ ⟨⟨wd_mut_new (by omega), by omega⟩, ab_up_self _ _ _, by omega⟩ ⟨by omega, by omega⟩ (fun j hj => absurd hj (Nat.not_lt_zero _)) (Or.inl (by show k ≤ k + 1; omega)) (by show k ≤ k + 1 + 1; omega) c_Ifr.rf
    have hfin2 := h_fin (M := m_begins N (ab_ii 0) v (ab_ii 0)) (g' := r_numg g k v) (T' := fun b => T0 b ∨ b = k) (a := k) (ka := k + 1) (pa := k + 1 + 1) (nk := 0) (fk2 := fun _ => 0) (fp2 := fun _ => none) (kd := ab_ii 0) (wo := v) (g2 := g) f i a4 ⟨a3, b.2.1⟩ (fun b q => hnt b _ q rfl) (fun u q => by have := (hW _ (f.in q).1).1.2; omega) hb0 (fun _ q => Or.inl q) (Or.inr rfl) (fun b' hb' => h_sm_wf (c_wf_xt (hW b' hb') h6.ofr h6.kk)) (ab_up_self _ _ _) ((ab_up_ne _ _ (by omega)).trans ((ab_up_ne _ _ (by omega)).trans (ab_up_self _ _ _))) ((ab_up_ne _ _ (by omega)).trans (ab_up_self _ _ _)) (fun j hj => absurd hj (Nat.not_lt_zero _)) (fun j hj => absurd hj (Nat.not_lt_zero _)) (fun b' hb' j => rfl) k1 k2 (fun e => absurd e (by decide))
    obtain ⟨f2, f3⟩ := hfin2
    refine ⟨d1.cg (fun j _ => by show m_number N v 102 j = _; rw [e102]) (er 120 (by decide) (by decide)), fun q => absurd (by show (m_number N v 102 24).toInt = -1; rw [e102]; exact d2) q, fun _ => ⟨_, h_and F0 k (N 102 8), k, rfl, h6, fun b u q => Or.inl q, fun b u q => ?_, ?_, Or.inr ⟨rfl, rfl⟩, f3⟩⟩
    · rcases q with q | ⟨-, q⟩
      · exact Or.inl q
      · rw [q]; exact Or.inr a2
    · show h_k (h_and F0 k (N 102 8)) _ (r_numg g k v) (m_number N v) (m_number N v 102 8).toInt
      rw [e102]
      exact f2
  · rw [if_pos (h_rd.ft (S := (I', S0.2)) hr f1)]
    exact h_res_no (J := (I', S0.2)) hr hrg hfin (m_begins_kf.tr m_ends_kf) f1
end
