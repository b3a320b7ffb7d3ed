/-! ===== OVER on both sides: things made alike (own text) ===== -/
/-- paired, with bounds of sizes and of heights on the way -/
def o_k (F : Nat → Int32 → Prop) (T : Nat → Prop) (g : Nat → ab_C) (M : wd_I) (n : Int) : Prop := h_ok F T g M n ∧ ∀ a t, F a t → c_sz g a ≤ 12 ∧ 0 ≤ (M 107 t.toInt.toNat).toInt ∧ (M 107 t.toInt.toNat).toInt ≤ 1000 ∧ ((M 103 t.toInt.toNat).toInt = 3 → M 104 t.toInt.toNat = ab_ii 0)
section
variable {F F' : Nat → Int32 → Prop} {T T' : Nat → Prop} {g g' : Nat → ab_C} {M N : wd_I} {n n' : Int} {k : Nat}
theorem h_k.o (h : h_k F T g M n) : o_k F T g M n := ⟨h.1, fun a t ha => by
  obtain ⟨a1, a2, a3, a4⟩ := h.2 a t ha
  exact ⟨a1, a2, by omega, a4⟩⟩
theorem o_k.in (h : o_k F T g M n) {a : Nat} {t : Int32} (ha : F a t) : T a ∧ 0 ≤ t.toInt ∧ t.toInt < n := (h.1.1 a t ha).1
theorem o_k.mv (h : o_k F T g M n) (hT : ∀ b, T b → T' b) (hg : ∀ a, T a → h_sm g g' a) (hs : ∀ b u, F b u → m_ra M N u.toInt.toNat) (hn : n ≤ n') : o_k F T' g' N n' := by
  obtain ⟨⟨h1, h2, h3⟩, h4⟩ := h
  refine ⟨⟨fun a t ha => ?_, h2, h3⟩, fun a t ha => ?_⟩
  · obtain ⟨⟨b1, b2, b3⟩, p0, p1, p2, p3, p4, p5⟩ := h1 a t ha
    obtain ⟨g1, g2, g3, g4⟩ := hg a b1
    obtain ⟨s3, s4, s5, s6, s7, s8⟩ := hs a t ha
    have s12 := (h4 a t ha).1
    refine ⟨⟨hT a b1, b2, by omega⟩, by rw [g4, s3]; exact p0, by rw [g4, s4]; exact p1, by rw [g4, s6]; exact p2, by rw [g4, s7]; exact p3, by rw [g1, s5]; exact p4, fun j hj => ?_⟩
    rw [g1] at hj
    obtain ⟨q8, q9⟩ := s8 j (by omega)
    rw [g2, g3, q8, q9]
    exact p5 j hj
  · obtain ⟨⟨b1, b2, b3⟩, -⟩ := h1 a t ha
    obtain ⟨g1, -⟩ := hg a b1
    obtain ⟨s3, s4, -, -, s7, -⟩ := hs a t ha
    rw [g1, s7, s3, s4]
    exact h4 a t ha
theorem o_k.add (h : o_k F T g M n) {a : Nat} {t : Int32} (ha : T a) (ht : 0 ≤ t.toInt ∧ t.toInt < n) (hr : h_pr F g M a t) (hs : c_sz g a ≤ 12) (hh : 0 ≤ (M 107 t.toInt.toNat).toInt ∧ (M 107 t.toInt.toNat).toInt ≤ 1000) (hna : ∀ u, ¬ F a u) (hnt : ∀ b, ¬ F b t) (hz : (M 103 t.toInt.toNat).toInt = 3 → M 104 t.toInt.toNat = ab_ii 0) : o_k (h_and F a t) T g M n := by
  obtain ⟨⟨h1, h2, h3⟩, h4⟩ := h
  have hm : ∀ b u, h_pr F g M b u → h_pr (h_and F a t) g M b u := fun b u q => ⟨q.1, q.2.1, q.2.2.1, q.2.2.2.1, q.2.2.2.2.1, fun j hj => ⟨(q.2.2.2.2.2 j hj).1, Or.inl (q.2.2.2.2.2 j hj).2⟩⟩
  refine ⟨⟨fun b u q => ?_, fun b u u' q q' => ?_, fun b b' u q q' => ?_⟩, fun b u q => ?_⟩
  · rcases q with q | ⟨q1, q2⟩
    · exact ⟨(h1 b u q).1, hm _ _ (h1 b u q).2⟩
    · rw [q1, q2]; exact ⟨⟨ha, ht⟩, hm _ _ hr⟩
  · rcases q with q | ⟨q1, q2⟩ <;> rcases q' with q' | ⟨q1', q2'⟩
    · exact h2 b u u' q q'
    · rw [q1'] at q; exact absurd q (hna u)
    · rw [q1] at q'; exact absurd q' (hna u')
    · rw [q2, q2']
  · rcases q with q | ⟨q1, q2⟩ <;> rcases q' with q' | ⟨q1', q2'⟩
    · exact h3 b b' u q q'
    · rw [q2'] at q; exact absurd q (hnt b)
    · rw [q2] at q'; exact absurd q' (hnt b')
    · rw [q1, q1']
  · rcases q with q | ⟨q1, q2⟩
    · exact h4 b u q
    · rw [q1, q2]; exact ⟨hs, hh.1, hh.2, hz⟩
theorem o_hts {fp : Nat → Option Nat} {t : Int32} : ∀ s, (∀ j, j < s → c_i g ((fp j).getD 0) 3 = M 107 (M 108 (12 * t.toInt.toNat + j)).toInt.toNat ∧ 0 ≤ (M 107 (M 108 (12 * t.toInt.toNat + j)).toInt.toNat).toInt ∧ (M 107 (M 108 (12 * t.toInt.toNat + j)).toInt.toNat).toInt ≤ 1000) → (c_hts g fp s).toInt + 1 = (m_high M t s).toInt ∧ -1 ≤ (c_hts g fp s).toInt ∧ (c_hts g fp s).toInt ≤ 1000
  | 0, _ => ⟨by show (ab_ii (-1)).toInt + 1 = (ab_ii 0).toInt; decide, by show -1 ≤ (ab_ii (-1)).toInt; decide, by show (ab_ii (-1)).toInt ≤ 1000; decide⟩
  | s + 1, h => by
    obtain ⟨i1, i2, i3⟩ := o_hts s (fun j hj => h j (by omega))
    obtain ⟨j1, j2, j3⟩ := h s (by omega)
    unfold c_hts m_high
    rw [j1]
    have e := ab_tI (z := (M 107 (M 108 (12 * t.toInt.toNat + s)).toInt.toNat).toInt + 1) (by omega) (by omega)
    by_cases c : (c_hts g fp s).toInt < (M 107 (M 108 (12 * t.toInt.toNat + s)).toInt.toNat).toInt
    · rw [m_mx_t c, m_mx_t (by omega), e]
      omega
    · rw [m_mx_f c, m_mx_f (by omega)]
      omega
/-- a row is ended, and the class's object made -/
theorem o_fin (h : o_k F T g M n) {t : Int32} {s a ka pa nk : Nat} {fk2 : Nat → Int32} {fp2 : Nat → Option Nat} {kd wo : Int32} {g2 : Nat → ab_C} (hsz : (M 105 t.toInt.toNat).toInt = (s : Int)) (hpt : ∀ j, j < s → ∃ b, fp2 j = some b ∧ F b (M 108 (12 * t.toInt.toNat + j)) ∧ M 109 (12 * t.toInt.toNat + j) = (if j < nk then fk2 j else ab_ii 0)) (h12 : s ≤ 12) (ht : 0 ≤ t.toInt ∧ t.toInt < n) (hnt : ∀ b, ¬ F b t) (hna : ∀ u, ¬ F a u) (hT : ∀ b, T b → T' b) (hTa : T' a) (hsm : ∀ b, T b → h_sm g g' b) (hv : g' a = ab_ob 9 [.inl kd, .inl wo, .inl (c_nods g2 fp2 s), .inl (ab_ii ((c_hts g2 fp2 s).toInt + 1)), wd_v ka, wd_v pa]) (h2 : g' ka = ab_ia 0 nk fk2) (h3 : g' pa = ab_ra 4 s fp2) (hg2 : ∀ b, T b → ∀ j, c_i g2 b j = c_i g b j) (hkd : M 103 t.toInt.toNat = kd) (hwo : M 104 t.toInt.toNat = wo) (hB : (m_ends M t s 107 t.toInt.toNat).toInt ≤ 1000) (hz : kd.toInt = 3 → wo = ab_ii 0) : o_k (h_and F a t) T' g' (m_ends M t s) n := by
  have er : ∀ x, x ≠ 106 → x ≠ 107 → m_ends M t s x = M x := fun x h1 h2 => m_ends_row h1 h2
  have e6 : m_ends M t s 106 t.toInt.toNat = m_many M t s := by unfold m_ends; rw [wd_up_row _ _ _ (by decide), wd_up_self]
  have e7 : m_ends M t s 107 t.toInt.toNat = m_high M t s := by unfold m_ends; rw [wd_up_self]
  have hci : ∀ j, j < s → ∀ i, c_i g2 ((fp2 j).getD 0) i = c_i g ((fp2 j).getD 0) i ∧ F ((fp2 j).getD 0) (M 108 (12 * t.toInt.toNat + j)) := fun j hj i => by
    obtain ⟨b, b1, b2, -⟩ := hpt j hj
    rw [b1]
    exact ⟨hg2 b (h.in b2).1 i, b2⟩
  have hn := h_nods (g := g2) (M := M) (fp := fp2) (t := t) s (fun j hj => by
    obtain ⟨c1, c2⟩ := hci j hj 2
    rw [c1]
    exact (h.1.1 _ _ c2).2.2.2.1)
  have hh := o_hts (g := g2) (M := M) (fp := fp2) (t := t) s (fun j hj => by
    obtain ⟨c1, c2⟩ := hci j hj 3
    rw [c1]
    exact ⟨(h.1.1 _ _ c2).2.2.2.2.1, (h.2 _ _ c2).2.1, (h.2 _ _ c2).2.2.1⟩)
  obtain ⟨v0, v1, v2, v3⟩ := h_vw hv h2 h3
  have hM := h.mv hT hsm (N := m_ends M t s) (n' := n) (fun b u q => m_ends_ra (fun e => by
    have e1 := (h.in q).2.1
    have e2 : u = t := Int32.toInt_inj.mp (by omega)
    rw [e2] at q
    exact hnt b q)) (Int.le_refl _)
  have h7 : 0 ≤ (m_ends M t s 107 t.toInt.toNat).toInt := by rw [e7]; omega
  refine hM.add hTa ht ⟨?_, ?_, ?_, ?_, ?_, fun j hj => ?_⟩ (by rw [v1]; exact h12) ⟨h7, hB⟩ hna hnt (by rw [er 103 (by decide) (by decide), er 104 (by decide) (by decide), hkd, hwo]; exact hz)
  · rw [v0.1, er 103 (by decide) (by decide)]; exact hkd.symm
  · rw [v0.2.1, er 104 (by decide) (by decide)]; exact hwo.symm
  · rw [v0.2.2.1, e6]; exact hn
  · rw [v0.2.2.2, e7, hh.1]; exact ab_ii_toInt _
  · rw [v1, er 105 (by decide) (by decide)]; exact hsz.symm
  · rw [v1] at hj
    obtain ⟨b, b1, b2, b3⟩ := hpt j hj
    rw [v2, v3, er 108 (by decide) (by decide), er 109 (by decide) (by decide), b3, b1]
    exact ⟨rfl, b2⟩
theorem o_pt {rs rw' rn p q : Nat} (h : h_pt g M rs rw' rn p q) (e1 : p_n g' p = p_n g p) (e2 : ∀ i, p_sg g' p i = p_sg g p i) (e3 : ∀ i, p_wd g' p i = p_wd g p i) : h_pt g' M rs rw' rn p q := by
  obtain ⟨a1, a2, a3⟩ := h
  refine ⟨by rw [e1]; exact a1, by rw [e1]; exact a2, fun i hi => ?_⟩
  rw [e1] at hi
  rw [e2, e3]
  exact a3 i hi
end
/-- more things, all well made; old cells as they were -/
def o_st (T0 : Nat → Prop) (S0 : c_St) (T : Nat → Prop) (S : c_St) : Prop := (∀ b, T0 b → T b) ∧ c_W T S.2.1 S.2.2.1 ∧ c_ofr S0.2.2.1 S0.2.1 S.2.1 ∧ S0.2.2.1 ≤ S.2.2.1 ∧ c_Ifr S0.1 S.1
theorem c_st.o {T0 T : Nat → Prop} {S0 S : c_St} (h : c_st T0 S0 T S) : o_st T0 S0 T S := ⟨h.inc, h.wf, h.ofr, h.kk, h.ifr⟩
/-! where OVER stands, on both sides; u copies are counted by the reference alone -/
def o_in (F0 : Nat → Int32 → Prop) (M0 : wd_I) (n0 : Int) (p q gv u : Nat) (F : Nat → Int32 → Prop) (T : Nat → Prop) (S : c_St) (M : wd_I) : Prop :=
  (c_pr T gv S ∧ h_k F0 T S.2.1 M0 n0 ∧ p_wf S.2.1 S.2.2.1 p ∧ h_pt S.2.1 M0 113 114 115 p q) ∧
  (m_fr n0 M0 M ∧ m_rm M ∧ n0 ≤ (M 102 8).toInt) ∧
  (o_k F T S.2.1 M (M 102 8).toInt ∧ ∀ b t, F0 b t → F b t) ∧
  ((S.1 10 6).toInt = 0 ∧ (M 102 36).toInt = 0 ∧ S.1 10 5 = M 102 35 ∧ (S.1 9 0).toInt + (u : Int) = (M 102 9).toInt ∧ S.1 10 2 = M0 102 33 ∧ ((M0 102 33).toInt = 7 ∨ S.1 10 3 = M0 102 34))
/-- what holds of the beginning -/
def o_cx (F0 : Nat → Int32 → Prop) (M0 : wd_I) (n0 : Int) (gv : Nat) : Prop := m_op n0 M0 ∧ m_T M0 n0 ∧ ((M0 102 33).toInt = 7 → F0 gv (M0 110 (M0 102 34).toInt.toNat))
def o_res (F0 : Nat → Int32 → Prop) (M0 : wd_I) (n0 : Int) (p q gv u : Nat) (F : Nat → Int32 → Prop) (T : Nat → Prop) (S : c_St) (M : wd_I) (R : Nat × c_St) (N : wd_I × Int32) : Prop :=
  ((N.1 102 36).toInt = 0 → ∃ (F' : Nat → Int32 → Prop) (T' : Nat → Prop), c_st T S T' R.2 ∧ o_in F0 M0 n0 p q gv u F' T' R.2 N.1 ∧ (∀ b t, F b t → F' b t) ∧ (∀ b t, F' b t → F b t ∨ (M 102 8).toInt ≤ t.toInt) ∧ F' R.1 N.2) ∧
  (¬ (N.1 102 36).toInt = 0 → ¬ (R.2.1 10 6).toInt = 0 ∨ 3001 ≤ (R.2.1 9 0).toInt + (u : Int))
section
variable {F0 F F' : Nat → Int32 → Prop} {M0 M M' A : wd_I} {n0 : Int} {p q gv u u' : Nat} {T T' : Nat → Prop} {S S' : c_St}
theorem o_in.mv (h : o_in F0 M0 n0 p q gv u F T S M) (hst : o_st T S T' S') (h9 : 0 ≤ (S'.1 9 0).toInt ∧ (S'.1 9 0).toInt ≤ 3000) (hfr : m_fr n0 M0 M') (hrm : m_rm M') (h8 : n0 ≤ (M' 102 8).toInt) (hk : o_k F' T' S'.2.1 M' (M' 102 8).toInt) (hF : ∀ b t, F b t → F' b t) (hs : (S'.1 10 6).toInt = 0) (hM : (M' 102 36).toInt = 0) (h5 : S'.1 10 5 = M' 102 35) (hu : (S'.1 9 0).toInt + (u' : Int) = (M' 102 9).toInt) : o_in F0 M0 n0 p q gv u' F' T' S' M' := by
  obtain ⟨⟨a1, a2, a3, a4⟩, -, ⟨d1, d2⟩, -, -, -, -, e5, e6⟩ := h
  obtain ⟨s1, s2, s3, s4, s5⟩ := hst
  have i2 := s5 10 2 (by omega) (by omega)
  have i3 := s5 10 3 (by omega) (by omega)
  obtain ⟨p1, p2, p3, p4⟩ := p_wf_xt a3 s3 s4
  obtain ⟨w1, w2, w3, w4⟩ := a1
  exact ⟨⟨⟨s2, Nat.le_trans w2 s4, h9, fun e => s1 _ (w4 (by rw [← i2]; exact e))⟩, a2.mv s1 (fun a ha => h_sm_wf (c_wf_xt (w1 a ha) s3 s4)) (fun _ _ _ => m_ra.rf) (Int.le_refl _), p1, o_pt a4 p2 p3 p4⟩, ⟨hfr, hrm, h8⟩, ⟨hk, fun b t e => hF b t (d2 b t e)⟩, hs, hM, h5, hu, i2.trans e5, e6.imp id (fun e => i3.trans e)⟩
theorem o_in.sm (h : o_in F0 M0 n0 p q gv u F T S M) (hst : o_st T S T' S') : ∀ a, T a → h_sm S.2.1 S'.2.1 a := fun a ha => h_sm_wf (c_wf_xt (h.1.1.1 a ha) hst.2.2.1 hst.2.2.2.1)
theorem o_in.ns (h : o_in F0 M0 n0 p q gv u F T S M) : o_ns S := ⟨h.1.1.2.2.1, fun e => absurd h.2.2.2.1 e⟩
/-- the reference begins a row -/
theorem o_in.beg (h : o_in F0 M0 n0 p q gv u F T S M) (h0 : 0 ≤ n0) (hc : m_can M) (hs1 : m_s1 (m_mk M) A) (hfr : m_fr (M 102 8).toInt M A) : o_in F0 M0 n0 p q gv (u + 1) F T S A ∧ (A 102 8).toInt = (M 102 8).toInt + 1 ∧ (M 102 8).toInt < 3012 := by
  obtain ⟨⟨a1, a2, a3, a4⟩, ⟨b1, b2, b3⟩, ⟨d1, d2⟩, e1, e2, e3, e4, e5, e6⟩ := id h
  obtain ⟨r1, r2⟩ := m_rm_s1 b2 hc hs1
  have hlt := m_can_lt b2 hc
  have e36 : A 102 36 = M 102 36 := (hs1.2 36 (by decide)).trans (wd_up_ne _ _ (Or.inr (by decide)))
  have e35 : A 102 35 = M 102 35 := (hs1.2 35 (by decide)).trans (wd_up_ne _ _ (Or.inr (by decide)))
  have e9 : A 102 9 = ab_ii ((M 102 9).toInt + 1) := (hs1.2 9 (by decide)).trans (wd_up_self _ _ _ _)
  have hsum := a1.2.2.1
  refine ⟨h.mv (c_st.rf a1.1).o hsum (b1.tr hfr b3) r1 (by omega) (d1.mv (fun _ e => e) (fun _ _ => h_sm.rf) (fun b t e => hfr.1.ra (by have := d1.in e; omega)) (by omega)) (fun _ _ e => e) e1 (by rw [e36]; exact e2) (by rw [e35]; exact e3) ?_, r2, hlt.1⟩
  rw [e9, ab_tI (by omega) (by omega)]
  omega
/-- a row of the reference is ended, the class makes its thing -/
theorem o_in.mk (h : o_in F0 M0 n0 p q gv (u + 1) F T S A) {c : Int32} {s x ka pa nk : Nat} {fk2 : Nat → Int32} {fp2 : Nat → Option Nat} {kd wo : Int32} {g2 : Nat → ab_C} (hc : n0 ≤ c.toInt ∧ 0 ≤ c.toInt ∧ c.toInt < (A 102 8).toInt) (hnt : ∀ b, ¬ F b c) (hst : o_st T S (fun b => T b ∨ b = x) S') (hx : S.2.2.1 ≤ x) (hv : S'.2.1 x = ab_ob 9 [.inl kd, .inl wo, .inl (c_nods g2 fp2 s), .inl (ab_ii ((c_hts g2 fp2 s).toInt + 1)), wd_v ka, wd_v pa]) (h2 : S'.2.1 ka = ab_ia 0 nk fk2) (h3 : S'.2.1 pa = ab_ra 4 s fp2) (hg2 : ∀ b, T b → ∀ j, c_i g2 b j = c_i S.2.1 b j) (h12 : s ≤ 12) (hsz : (A 105 c.toInt.toNat).toInt = (s : Int)) (hkd : A 103 c.toInt.toNat = kd) (hwo : A 104 c.toInt.toNat = wo) (hpt : ∀ j, j < s → ∃ b, fp2 j = some b ∧ F b (A 108 (12 * c.toInt.toNat + j)) ∧ A 109 (12 * c.toInt.toNat + j) = (if j < nk then fk2 j else ab_ii 0)) (h9 : (S'.1 9 0).toInt = (S.1 9 0).toInt + 1) (h6 : S'.1 10 6 = S.1 10 6) (h5 : S'.1 10 5 = S.1 10 5) (hB : (m_ends A c s 107 c.toInt.toNat).toInt ≤ 1000) (hz : kd.toInt = 3 → wo = ab_ii 0) : o_in F0 M0 n0 p q gv u (h_and F x c) (fun b => T b ∨ b = x) S' (m_ends A c s) := by
  obtain ⟨⟨a1, a2, a3, a4⟩, ⟨b1, b2, b3⟩, ⟨d1, d2⟩, e1, e2, e3, e4, e5, e6⟩ := id h
  have er : m_ends A c s 102 = A 102 := m_ends_row (by decide) (by decide)
  have hsm := h.sm hst
  have hna : ∀ t, ¬ F x t := fun t e => by
    have := (a1.1 x (d1.in e).1).1.2
    omega
  have hk := o_fin (T' := fun b => T b ∨ b = x) (g' := S'.2.1) d1 hsz hpt h12 hc.2 hnt hna (fun _ e => Or.inl e) (Or.inr rfl) hsm hv h2 h3 hg2 hkd hwo hB hz
  have hsum := a1.2.2.1
  obtain ⟨m1, m2, m3⟩ := id b2
  refine h.mv hst ⟨by omega, by omega⟩ (m_ends_fr b1 hc.1) ?_ (by rw [er]; exact b3) (by rw [er]; exact hk) (fun _ _ e => Or.inl e) (by rw [h6]; exact e1) (by rw [er]; exact e2) (by rw [h5, er]; exact e3) (by rw [er]; omega)
  unfold m_rm
  rw [er]
  exact b2
end
