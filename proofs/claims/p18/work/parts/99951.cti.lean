/-! ===== both objects: a thing read, step by step (own text) ===== -/
theorem h_rd.cg {I M N : wd_I} (h : h_rd I M) (e : ∀ j, j = 22 ∨ j = 23 ∨ j = 24 → N 102 j = M 102 j) (e0 : N 120 = M 120) : h_rd I N := by
  obtain ⟨h1, h2, h3, h4, h5⟩ := h
  exact ⟨h1.fr (fun _ => ⟨rfl, rfl⟩) ⟨e 22 (by omega), e0⟩, h2, by unfold m_tp at *; rw [e 22 (by omega), e 23 (by omega)]; exact h3, by rw [e 24 (by omega)]; exact h4, by rw [e 24 (by omega), e 23 (by omega)]; exact h5⟩
/-- the result of a reading -/
def h_res (F : Nat → Int32 → Prop) (T : Nat → Prop) (S : c_St) (M : wd_I) (R : r_O) (N : wd_I × Int32) (f : Int) : Prop := h_rd R.2.1 N.1 ∧ (¬ (N.1 102 24).toInt = -1 → R.1 = none) ∧ ((N.1 102 24).toInt = -1 → ∃ (T' : Nat → Prop) (F' : Nat → Int32 → Prop) (a : Nat), R.1 = some a ∧ c_hs T S T' R.2 ∧ (∀ b u, F b u → F' b u) ∧ (∀ b u, F' b u → F b u ∨ (M 102 8).toInt ≤ u.toInt) ∧ h_k F' T' R.2.2.1 N.1 (N.1 102 8).toInt ∧ F' a N.2 ∧ (N.1 107 N.2.toInt.toNat).toInt ≤ f)
def h_G (G : c_St → r_O) (G' : wd_I → wd_I × Int32) (f : Int) : Prop := ∀ (F : Nat → Int32 → Prop) (T : Nat → Prop) (S : c_St) (M : wd_I), r_pr T S → m_rp M → h_rd S.1 M → (M 102 24).toInt = -1 → h_k F T S.2.1 M (M 102 8).toInt → h_res F T S M (G S) (G' M) f
/-- on the way: thing t in the making, s parts read -/
def h_at (F0 : Nat → Int32 → Prop) (T0 : Nat → Prop) (S0 : c_St) (M0 : wd_I) (t sort wo : Int32) (hb : Int) (F : Nat → Int32 → Prop) (T : Nat → Prop) (S : c_St) (M : wd_I) (s : Nat) (fk : Nat → Int32) (fp : Nat → Option Nat) : Prop := (m_rp M0 ∧ (M0 102 8).toInt ≤ t.toInt ∧ 0 ≤ t.toInt ∧ s ≤ 12 ∧ ∀ b u, F0 b u → u.toInt < t.toInt) ∧ m_pd M0 M t s ∧ (c_hs T0 S0 T S ∧ r_pr T S) ∧ (h_rd S.1 M ∧ (M 102 24).toInt = -1) ∧ ((∀ b u, F0 b u → F b u) ∧ ∀ b u, F b u → F0 b u ∨ t.toInt < u.toInt) ∧ h_k F T S.2.1 M (M 102 8).toInt ∧ h_ip F M t s fk fp hb ∧ M 103 t.toInt.toNat = sort ∧ M 104 t.toInt.toNat = wo
section
variable {F0 F : Nat → Int32 → Prop} {T0 T : Nat → Prop} {S0 S : c_St} {M0 M : wd_I} {t sort wo : Int32} {hb : Int} {s : Nat} {fk : Nat → Int32} {fp : Nat → Option Nat}
theorem h_at.nt (h : h_at F0 T0 S0 M0 t sort wo hb F T S M s fk fp) : ∀ b u, F b u → ¬ u.toInt = t.toInt := fun b u q e => by
  obtain ⟨⟨-, -, -, -, h0⟩, -, -, -, ⟨-, h1⟩, -⟩ := h
  rcases h1 b u q with q1 | q1
  · have := h0 b u q1; omega
  · omega
theorem h_sm.rf {g : Nat → ab_C} {a : Nat} : h_sm g g a := ⟨rfl, fun _ => rfl, fun _ => rfl, fun _ => rfl⟩
/-- something scanned -/
theorem h_at.sc (h : h_at F0 T0 S0 M0 t sort wo hb F T S M s fk fp) {I' N : wd_I} (hr : h_rd I' N) (hs : m_sc M N) (hf : (N 102 24).toInt = -1) : h_at F0 T0 S0 M0 t sort wo hb F T (I', S.2) N s fk fp := by
  obtain ⟨⟨a1, a2, a3, a4, a5⟩, b, ⟨c1, c2⟩, -, e, f, i, k1, k2⟩ := h
  have hsb := hs.rg.1.1
  have hra := f.sb hsb (Int.le_refl _)
  refine ⟨⟨a1, a2, a3, a4, a5⟩, m_pd_rg b a4 a3 hs.rg, ⟨c1, c2.1, c2.2.1, hr.2.1⟩, ⟨hr, hf⟩, e, f.mv (fun _ q => q) (fun _ _ => h_sm.rf) hra (by rw [hs.2.1 8 (by decide) (by decide)]; exact Int.le_refl _), i.mv a4 (fun _ _ q => q) (hsb.ra (by have := b.2.1; omega)) hra, by rw [hs.1 103 (by decide)]; exact k1, by rw [hs.1 104 (by decide)]; exact k2⟩
/-- a part added at the end -/
theorem h_at.adds (h : h_at F0 T0 S0 M0 t sort wo hb F T S M s fk fp) (h11 : s ≤ 11) {a : Nat} {u : Int32} (ha : F a u) (hh : (M 107 u.toInt.toNat).toInt ≤ hb) {fk' : Nat → Int32} {fp' : Nat → Option Nat} (hfk : ∀ j, j < s → fk' j = fk j) (hfk' : fk' s = ab_ii 0) (hfp : ∀ j, j < s → fp' j = fp j) (hfp' : fp' s = some a) : h_at F0 T0 S0 M0 t sort wo hb F T S (m_adds M t (ab_ii 0) u s) (s + 1) fk' fp' := by
  have hnt := h.nt
  obtain ⟨⟨a1, a2, a3, a4, a5⟩, b, c, ⟨d1, d2⟩, e, f, i, k1, k2⟩ := h
  have hu := f.in ha
  have hl := m_rp_lt (b.1.rp a1)
  have e2 : m_adds M t (ab_ii 0) u s 102 = M 102 := m_adds_102
  have er : ∀ x, x ≠ 105 → x ≠ 108 → x ≠ 109 → m_adds M t (ab_ii 0) u s x = M x := fun x q1 q2 q3 => by unfold m_adds; rw [wd_up_row _ _ _ q1, wd_up_row _ _ _ q3, wd_up_row _ _ _ q2]
  have hra : ∀ b v, F b v → m_ra M (m_adds M t (ab_ii 0) u s) v.toInt.toNat := fun b v q => m_adds_ra h11 (by have := hnt b v q; have := (f.in q).2.1; omega)
  refine ⟨⟨a1, a2, a3, by omega, a5⟩, m_pd_adds b a3 (by have := a1.2.1; omega) a2 h11 ⟨hu.2.1, by omega⟩, c, ⟨d1.cg (fun j _ => by rw [e2]) (er 120 (by decide) (by decide) (by decide)), by rw [e2]; exact d2⟩, e, f.mv (fun _ q => q) (fun _ _ => h_sm.rf) hra (by rw [e2]; exact Int.le_refl _), ⟨by rw [m_adds_sz, ab_tI (by omega) (by omega)]; omega, fun j hj => ?_⟩, by rw [er 103 (by decide) (by decide) (by decide)]; exact k1, by rw [er 104 (by decide) (by decide) (by decide)]; exact k2⟩
  by_cases ej : j = s
  · subst ej
    exact ⟨a, hfp', by rw [m_adds_pt]; exact ha, by rw [m_adds_ky, if_pos rfl]; exact hfk'.symm, by rw [m_adds_pt, er 107 (by decide) (by decide) (by decide)]; exact hh⟩
  · obtain ⟨b', b1, b2, b3, b4⟩ := i.2 j (by omega)
    exact ⟨b', by rw [hfp j (by omega)]; exact b1, by rw [m_adds_pn (by omega)]; exact b2, by rw [m_adds_ky, if_neg ej, hfk j (by omega)]; exact b3, by rw [m_adds_pn (by omega), er 107 (by decide) (by decide) (by decide)]; exact b4⟩
/-- a part read -/
theorem h_at.go (h : h_at F0 T0 S0 M0 t sort wo hb F T S M s fk fp) {G : c_St → r_O} {G' : wd_I → wd_I × Int32} (hG : h_G G G' hb) (hGr : m_rG G') : h_rd (G S).2.1 (G' M).1 ∧ m_rg M (G' M).1 ∧ (¬ ((G' M).1 102 24).toInt = -1 → (G S).1 = none) ∧ (((G' M).1 102 24).toInt = -1 → ∃ (T' : Nat → Prop) (F' : Nat → Int32 → Prop) (a : Nat), (G S).1 = some a ∧ h_at F0 T0 S0 M0 t sort wo hb F' T' (G S).2 (G' M).1 s fk fp ∧ F' a (G' M).2 ∧ ((G' M).1 107 (G' M).2.toInt.toNat).toInt ≤ hb ∧ c_hs T S T' (G S).2) := by
  obtain ⟨⟨a1, a2, a3, a4, a5⟩, b, ⟨c1, c2⟩, ⟨d1, d2⟩, ⟨e1, e2⟩, f, i, k1, k2⟩ := h
  have hp := b.1.rp a1
  obtain ⟨r1, r2, r3⟩ := hG F T S M c2 hp d1 d2 f
  have hrg := (hGr M hp).1
  refine ⟨r1, hrg, r2, fun q => ?_⟩
  obtain ⟨T', F', a, s1, s2, s3, s4, s5, s6, s7⟩ := r3 q
  have hsb := hrg.1.1
  have htl := b.2.1
  have hrt := hsb.ra (q := t.toInt.toNat) (by omega)
  refine ⟨T', F', a, s1, ⟨⟨a1, a2, a3, a4, a5⟩, m_pd_rg b a4 a3 hrg, ⟨c_hs_tr c1 s2, c_hs_wf s2, Nat.le_trans c2.2.1 (c_hs_kk s2), r1.2.1⟩, ⟨r1, q⟩, ⟨fun b u q => s3 b u (e1 b u q), fun b u q => ?_⟩, s5, i.mv a4 s3 hrt (f.sb hsb (Int.le_refl _)), by rw [hrt.1]; exact k1, by rw [hrt.2.1]; exact k2⟩, s6, s7, s2⟩
  rcases s4 b u q with q1 | q1
  · exact e2 b u q1
  · exact Or.inr (by omega)
/-- cells for gathered parts -/
theorem h_at.pu (h : h_at F0 T0 S0 M0 t sort wo hb F T S M s fk fp) {fk' : Nat → Int32} {fp' : Nat → Option Nat} {m z' : Nat} : h_at F0 T0 S0 M0 t sort wo hb F T (S.1, c_pu S.2.1 S.2.2.1 fk' fp' m, S.2.2.1 + 1 + 1 + 1, z') M s fk fp ∧ c_nq3 T (c_pu S.2.1 S.2.2.1 fk' fp' m) S.2.2.1 := by
  obtain ⟨a, b, ⟨c1, c2⟩, d, e, f, i, k⟩ := h
  have h1 := c_pu_st (fk := fk') (fp := fp') (n := m) (z' := z') (T0 := T0) (S0 := (c_J, S0.2)) (J := c_J) (g := S.2.1) (k := S.2.2.1) (z := S.2.2.2) (T := T) c1
  exact ⟨⟨a, b, ⟨h1, h1.wf, by have := c2.2.1; show 125 ≤ S.2.2.1 + 1 + 1 + 1; omega, c2.2.2⟩, d, e, f.mv (fun _ q => q) (h_sm_pu c2.1 (c_nq3_fr c2.1 (Nat.le_refl _))) (fun _ _ _ => m_ra.rf) (Int.le_refl _), i, k⟩, c_nq3_pu c2.1⟩
theorem h_at.rows (h : h_at F0 T0 S0 M0 t sort wo hb F T S M s fk fp) {x m : Nat} (hx : S0.2.2.1 ≤ x) (hn : c_nq3 T S.2.1 x) {fk' : Nat → Int32} {fp' : Nat → Option Nat} : h_at F0 T0 S0 M0 t sort wo hb F T (S.1, c_pu S.2.1 x fk' fp' m, S.2.2) M s fk fp ∧ c_nq3 T (c_pu S.2.1 x fk' fp' m) x := by
  obtain ⟨a, b, ⟨c1, c2⟩, d, e, f, i, k⟩ := h
  obtain ⟨h1, h2⟩ := c_pu_rows (fk := fk') (fp := fp') (n := m) (T0 := T0) (S0 := (c_J, S0.2)) (J := c_J) (g := S.2.1) (k := S.2.2.1) (z := S.2.2.2) (T := T) c1 hx hn
  exact ⟨⟨a, b, ⟨h1, h1.wf, c2.2⟩, d, e, f.mv (fun _ q => q) (h_sm_pu c2.1 hn) (fun _ _ _ => m_ra.rf) (Int.le_refl _), i, k⟩, h2⟩
theorem h_at.rT (h : h_at F0 T0 S0 M0 t sort wo hb F T S M s fk fp) : c_rT T s fp := fun j hj => by
  obtain ⟨a, b, c, d, e, f, i, k⟩ := h
  obtain ⟨b', b1, b2, -⟩ := i.2 j hj
  exact ⟨b', b1, (f.in b2).1⟩
/-- all parts are there -/
theorem h_at.tog (h : h_at F0 T0 S0 M0 t sort (ab_ii 0) hb F T S M s fk fp) (hb0 : 0 ≤ hb ∧ hb ≤ 12) (hky : ¬ sort.toInt = 3 → ∀ j, j < s → fk j = ab_ii 0) : h_res F0 T0 S0 M0 (r_tog s sort fk fp S) (m_ends M t s, t) (hb + 1) := by
  have hf := h.rT
  have hnt := h.nt
  obtain ⟨⟨a1, a2, a3, a4, a5⟩, b, ⟨c1, c2⟩, ⟨d1, d2⟩, ⟨e1, e2⟩, f, i, k1, k2⟩ := h
  obtain ⟨I, g, k, z⟩ := S
  have er : ∀ x, x ≠ 106 → x ≠ 107 → m_ends M t s x = M x := fun x h1 h2 => m_ends_row h1 h2
  have e102 := er 102 (by decide) (by decide)
  have hm : c_tm sort s ≤ 12 := by unfold c_tm; split <;> omega
  have h125 : 125 ≤ k := c2.2.1
  have hW : c_W T g k := c2.1
  have h3 := c_tog_st (m := c_tm sort s) (kd := sort) (fk := fk) (z' := z + s + c_tm sort s + 6) (T0 := T0) (S0 := (c_J, S0.2)) (J := c_J) (g := g) (k := k) (z := z) (T := T) c1 h125 (by omega) (by omega) hf
  have h3' := c_tog_st (m := c_tm sort s) (kd := sort) (fk := fk) (z' := z + s + c_tm sort s + 6) (T0 := T) (S0 := (c_J, g, k, z)) (J := c_J) (g := g) (k := k) (z := z) (T := T) (c_st.rf hW) h125 (by omega) (by omega) hf
  have hfin := h_fin (M := M) (g' := c_tog g k s (c_tm sort s) sort fk fp) (T' := fun b => T b ∨ b = k + 1 + 1) (a := k + 1 + 1) (ka := k + 1) (pa := k) (nk := c_tm sort s) (fk2 := c_rwi fk (c_tm sort s)) (fp2 := c_row fp s) (kd := sort) (wo := ab_ii 0) (g2 := c_tg2 g k s (c_tm sort s) fk fp) f i a4 ⟨a3, b.2.1⟩ (fun b q => hnt b t q rfl) (fun u q => by have := (hW _ (f.in q).1).1.2; omega) hb0 (fun _ q => Or.inl q) (Or.inr rfl) (fun b' hb' => h_sm_wf (c_wf_xt (hW b' hb') h3'.ofr h3'.kk)) (ab_up_self _ _ _) ((ab_up_ne _ _ (by omega)).trans (ab_up_self _ _ _)) ((ab_up_ne _ _ (by omega)).trans ((ab_up_ne _ _ (by omega)).trans (ab_up_self _ _ _))) (fun j hj => if_pos hj) (fun j hj => ?_) (fun b' hb' => (h_sm_wf (c_wf_xt (g' := c_tg2 g k s (c_tm sort s) fk fp) (k' := k) (hW b' hb') (c_ofr_up (c_ofr_up c_ofr.rf (Nat.le_refl _)) (by omega)) (Nat.le_refl _))).2.2.2) k1 k2 (fun _ => rfl)
  · obtain ⟨f1, f2⟩ := hfin
    refine ⟨d1.cg (fun j _ => by show m_ends M t s 102 j = _; rw [e102]) (er 120 (by decide) (by decide)), fun q => absurd (by show (m_ends M t s 102 24).toInt = -1; rw [e102]; exact d2) q, fun _ => ⟨_, h_and F (k + 1 + 1) t, k + 1 + 1, rfl, h3, fun b u q => Or.inl (e1 b u q), fun b u q => ?_, ?_, Or.inr ⟨rfl, rfl⟩, f2⟩⟩
    · rcases q with q | ⟨-, q⟩
      · rcases e2 b u q with q1 | q1
        · exact Or.inl q1
        · exact Or.inr (by omega)
      · rw [q]; exact Or.inr a2
    · show h_k (h_and F (k + 1 + 1) t) _ (c_tog g k s (c_tm sort s) sort fk fp) (m_ends M t s) (m_ends M t s 102 8).toInt
      rw [e102]
      exact f1
  · by_cases e3 : sort.toInt = 3
    · have : c_tm sort s = s := if_pos e3
      rw [this, if_pos hj]
      exact if_pos hj
    · have : c_tm sort s = 0 := if_neg e3
      rw [this, if_neg (by omega)]
      exact (hky e3 j hj).symm
/-- a thing begun -/
theorem h_at_begin (hp : m_rp M0) {N : wd_I} (hrg : m_rg M0 N) (hlt : (N 102 8).toInt + m_pt N + 1 ≤ (M0 102 8).toInt + m_pt M0) (hpr : r_pr T0 S0) (hr : h_rd S0.1 N) (hf : (N 102 24).toInt = -1) (hk : h_k F0 T0 S0.2.1 M0 (M0 102 8).toInt) {fk : Nat → Int32} {fp : Nat → Option Nat} : h_at F0 T0 S0 M0 (N 102 8) sort wo hb F0 T0 S0 (m_begins N sort wo (ab_ii 0)) 0 fk fp := by
  have b := m_pd_begins (sort := sort) (v := wo) hp hrg hlt
  have h1 := hp.2.1
  have h2 := hrg.2.2.1
  have hl := m_rp_lt (hrg.rp hp)
  have hl2 := b.2.1
  have hsb := b.1.1.1
  refine ⟨⟨hp, h2, by omega, by omega, fun b u q => by have := (hk.in q).2.2; omega⟩, b, ⟨c_st.rf hpr.1, hpr⟩, ⟨hr.cg (fun j hj => m_begins_n (by omega)) ?_, by rw [m_begins_n (by decide)]; exact hf⟩, ⟨fun _ _ q => q, fun _ _ q => Or.inl q⟩, hk.mv (fun _ q => q) (fun _ _ => h_sm.rf) (hk.sb hsb (Int.le_refl _)) (by omega), ⟨b.2.2.1, fun j hj => absurd hj (Nat.not_lt_zero _)⟩, m_begins_kd, m_begins_wo⟩
  unfold m_begins
  rw [wd_up_row _ _ _ (by decide), wd_up_row _ _ _ (by decide), wd_up_row _ _ _ (by decide), wd_up_row _ _ _ (by decide)]
end
