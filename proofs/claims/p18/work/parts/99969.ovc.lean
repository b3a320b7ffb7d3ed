/-! ===== OVER on both sides: one thing made (own text) ===== -/
section
variable {F0 F F' : Nat → Int32 → Prop} {M0 M M' A : wd_I} {n0 : Int} {p q gv u u' : Nat} {T T' T0 : Nat → Prop} {S S' S0 : c_St} {I : wd_I} {g : Nat → ab_C} {k z : Nat}
theorem o_high {M : wd_I} {t : Int32} {hb : Int} (hb0 : 0 ≤ hb ∧ hb ≤ 1000) : ∀ s, (∀ j, j < s → 0 ≤ (M 107 (M 108 (12 * t.toInt.toNat + j)).toInt.toNat).toInt ∧ (M 107 (M 108 (12 * t.toInt.toNat + j)).toInt.toNat).toInt ≤ hb) → 0 ≤ (m_high M t s).toInt ∧ (m_high M t s).toInt ≤ hb + 1
  | 0, _ => ⟨by show 0 ≤ (ab_ii 0).toInt; decide, by show (ab_ii 0).toInt ≤ hb + 1; rw [show (ab_ii 0).toInt = 0 from rfl]; omega⟩
  | s + 1, h => by
    obtain ⟨i1, i2⟩ := o_high hb0 s (fun j hj => h j (by omega))
    obtain ⟨j1, j2⟩ := h s (by omega)
    unfold m_high
    have e := ab_tI (z := (M 107 (M 108 (12 * t.toInt.toNat + s)).toInt.toNat).toInt + 1) (by omega) (by omega)
    by_cases c : (m_high M t s).toInt < (ab_ii ((M 107 (M 108 (12 * t.toInt.toNat + s)).toInt.toNat).toInt + 1)).toInt
    · rw [m_mx_t c, e]
      omega
    · rw [m_mx_f c]
      omega
theorem o_highB {M : wd_I} {t : Int32} {s : Nat} (h : ∀ j, j < s → 0 ≤ (M 107 (M 108 (12 * t.toInt.toNat + j)).toInt.toNat).toInt ∧ (M 107 (M 108 (12 * t.toInt.toNat + j)).toInt.toNat).toInt ≤ 100) : (m_ends M t s 107 t.toInt.toNat).toInt ≤ 1000 := by
  have e7 : m_ends M t s 107 t.toInt.toNat = m_high M t s := by unfold m_ends; rw [wd_up_self]
  have := o_high (hb := 100) ⟨by omega, by omega⟩ s h
  rw [e7]
  omega
/-- the focus is counted -/
theorem o_in.bump (h : o_in F0 M0 n0 p q gv u F T (I, g, k, z) M) : o_in F0 M0 n0 p q gv u F T (c_fI I, g, k, z) (m_ov1 M) ∧ c_st T (I, g, k, z) T (c_fI I, g, k, z) := by
  obtain ⟨⟨a1, a2, a3, a4⟩, ⟨b1, b2, b3⟩, ⟨d1, d2⟩, e1, e2, e3, e4, e5, e6⟩ := id h
  obtain ⟨f9, f6, f2⟩ := c_fI_9 (I := I)
  have hst : c_st T (I, g, k, z) T (c_fI I, g, k, z) := (c_st.rf (S := (I, g, k, z)) a1.1).I c_Ifr_f
  have hfr : m_fr (M 102 8).toInt M (m_ov1 M) := m_ov1_fr
  have h36 : m_ov1 M 102 36 = M 102 36 := wd_up_ne _ _ (Or.inr (by decide))
  have h09 : m_ov1 M 102 9 = M 102 9 := wd_up_ne _ _ (Or.inr (by decide))
  change I 10 5 = M 102 35 at e3
  refine ⟨h.mv hst.o ?_ (b1.tr hfr b3) (m_ov1_rm b2) (by rw [m_ov1_8]; exact b3) (d1.mv (fun _ e => e) (fun _ _ => h_sm.rf) (fun b t e => hfr.1.ra (by have := d1.in e; omega)) (by rw [m_ov1_8]; exact Int.le_refl _)) (fun _ _ e => e) ?_ (by rw [h36]; exact e2) ?_ ?_, hst⟩
  · show 0 ≤ (c_fI I 9 0).toInt ∧ (c_fI I 9 0).toInt ≤ 3000
    rw [f9]
    exact a1.2.2.1
  · show (c_fI I 10 6).toInt = 0
    rw [f6]
    exact e1
  · show c_fI I 10 5 = m_ov1 M 102 35
    unfold c_fI m_ov1
    rw [wd_up_self, wd_up_self, e3]
  · show (c_fI I 9 0).toInt + (u : Int) = (m_ov1 M 102 9).toInt
    rw [f9, h09]
    exact e4
theorem o_res.bump {R : Nat × c_St} {N : wd_I × Int32} (h : o_res F0 M0 n0 p q gv u F T (c_fI I, g, k, z) (m_ov1 M) R N) (hst : c_st T (I, g, k, z) T (c_fI I, g, k, z)) : o_res F0 M0 n0 p q gv u F T (I, g, k, z) M R N := by
  refine ⟨fun e => ?_, h.2⟩
  obtain ⟨F', T', h1, h2, h3, h4, h5⟩ := h.1 e
  exact ⟨F', T', hst.tr h1, h2, h3, fun b t q => by have := h4 b t q; rw [m_ov1_8] at this; exact this, h5⟩
/-- a thing made, or no more -/
theorem o_cani (h : o_in F0 M0 n0 p q gv u F T S M) {X Y : wd_I × Int32} {R : Nat × c_St} (hY : Y.1 = m_nomk M) (h1 : m_can M → (S.1 9 0).toInt < 3000 → o_res F0 M0 n0 p q gv u F T S M R X) (hm : o_m1 S R.2) : o_res F0 M0 n0 p q gv u F T S M R (m_cani M X Y) := by
  have hns := h.ns
  obtain ⟨⟨a1, -⟩, ⟨-, ⟨b1, b2, b3⟩, -⟩, -, e1, e2, e3, e4, -⟩ := id h
  by_cases hc : m_can M
  · rw [m_cani_t hc]
    refine h1 hc ?_
    unfold m_can at hc
    omega
  · rw [m_cani_f hc]
    have e36 : (Y.1 102 36).toInt = 1 := by rw [hY]; exact m_nomk_36
    refine ⟨fun e => ?_, fun _ => ?_⟩
    · rw [e36] at e
      exact absurd e (by decide)
    · unfold m_can at hc
      rcases hm hns with e | e
      · exact Or.inl e
      · exact Or.inr (by omega)
/-- nothing is made: the thing itself, or another one -/
theorem o_res.same (h : o_in F0 M0 n0 p q gv u F T S M) {a : Nat} {t : Int32} (ha : F a t) : o_res F0 M0 n0 p q gv u F T S M (a, S) (M, t) :=
  ⟨fun _ => ⟨F, T, c_st.rf h.1.1.1, h, fun _ _ e => e, fun _ _ e => Or.inl e, ha⟩, fun e => absurd h.2.2.2.2.1 e⟩
/-- a row of parts laid -/
theorem o_in.arr (h : o_in F0 M0 n0 p q gv u F T (I, g, k, z) M) {f : Nat → Option Nat} {n : Nat} : o_in F0 M0 n0 p q gv u F T (I, ab_up g k (ab_ra 4 n f), k + 1, z + n) M ∧ c_st T (I, g, k, z) T (I, ab_up g k (ab_ra 4 n f), k + 1, z + n) := by
  obtain ⟨⟨a1, a2, a3, a4⟩, ⟨b1, b2, b3⟩, ⟨d1, d2⟩, e1, e2, e3, e4, e5, e6⟩ := id h
  have hst : c_st T (I, g, k, z) T (I, ab_up g k (ab_ra 4 n f), k + 1, z + n) := c_arr_st (c_st.rf (S := (I, g, k, z)) a1.1)
  exact ⟨h.mv hst.o a1.2.2.1 b1 b2 b3 (d1.mv (fun _ e => e) (h.sm hst.o) (fun _ _ _ => m_ra.rf) (Int.le_refl _)) (fun _ _ e => e) e1 e2 e3 e4, hst⟩
/-- a thing without keys -/
theorem o_mkg (h : o_in F0 M0 n0 p q gv (u + 1) F T (I, g, k, z) A) (hst : c_st T0 S0 T (I, g, k, z)) {c kd wo : Int32} {r s z' : Nat} {fq : Nat → Option Nat} (hr0 : S0.2.2.1 ≤ r) (hr : (wd_mut r = false ∧ r < k) ∧ g r = ab_ra 4 s fq) (h12 : s ≤ 12) (hc : n0 ≤ c.toInt ∧ 0 ≤ c.toInt ∧ c.toInt < (A 102 8).toInt) (hnt : ∀ b, ¬ F b c) (hsz : (A 105 c.toInt.toNat).toInt = (s : Int)) (hkd : A 103 c.toInt.toNat = kd) (hwo : A 104 c.toInt.toNat = wo) (hpt : ∀ j, j < s → ∃ b, fq j = some b ∧ F b (A 108 (12 * c.toInt.toNat + j)) ∧ A 109 (12 * c.toInt.toNat + j) = ab_ii 0) (hB : (m_ends A c s 107 c.toInt.toNat).toInt ≤ 1000) (hz : kd.toInt = 3 → wo = ab_ii 0) : o_in F0 M0 n0 p q gv u (h_and F k c) (fun b => T b ∨ b = k) (c_I1 I, c_mkg g k kd wo r s fq, k + 2, z') (m_ends A c s) ∧ c_st T0 S0 (fun b => T b ∨ b = k) (c_I1 I, c_mkg g k kd wo r s fq, k + 2, z') := by
  obtain ⟨⟨a1, a2, a3, a4⟩, ⟨b1, ⟨b4, b5, b6⟩, b3⟩, ⟨d1, d2⟩, e1, e2, e3, e4, e5, e6⟩ := id h
  have hW : c_W T g k := a1.1
  have h125 : 125 ≤ k := a1.2.1
  have hs3 := a1.2.2.1
  change 0 ≤ (I 9 0).toInt ∧ (I 9 0).toInt ≤ 3000 at hs3
  change (I 9 0).toInt + ((u + 1 : Nat) : Int) = (A 102 9).toInt at e4
  have hf : c_rT T s fq := fun j hj => by
    obtain ⟨b, q1, q2, -⟩ := hpt j hj
    exact ⟨b, q1, (d1.in q2).1⟩
  have hst2 := c_mkg_st (z' := z') (kd := kd) (wo := wo) hst h125 hr0 ⟨hr.1, hr.2, by omega⟩ hf (c_Ifr_1 (I := I))
  have hst3 : o_st T (I, g, k, z) (fun b => T b ∨ b = k) (c_I1 I, c_mkg g k kd wo r s fq, k + 2, z') := ⟨fun _ e => Or.inl e, hst2.wf, c_ofr_up (c_ofr_up c_ofr.rf (Nat.le_succ _)) (Nat.le_refl _), Nat.le_add_right _ _, c_Ifr_1⟩
  obtain ⟨u1, u2⟩ := c_I1_9 (I := I) ⟨hs3.1, by omega⟩
  have u3 : c_I1 I 10 5 = I 10 5 := wd_up_ne _ _ (by omega)
  refine ⟨o_in.mk (ka := k + 1) (pa := r) (nk := 0) (fk2 := fun _ => 0) (g2 := ab_up g (k + 1) (ab_ia 0 0 (fun _ => 0))) h hc hnt hst3 (Nat.le_refl _) (ab_up_self _ _ _) ((ab_up_ne _ _ (by omega)).trans (ab_up_self _ _ _)) ?_ (fun b hb j => ?_) h12 hsz hkd hwo (fun j hj => ?_) u1 u2 u3 hB hz, hst2⟩
  · show c_mkg g k kd wo r s fq r = _
    unfold c_mkg
    rw [ab_up_ne _ _ (by omega), ab_up_ne _ _ (by omega)]
    exact hr.2
  · have := (hW b hb).1.2
    unfold c_i
    rw [ab_up_ne _ _ (by omega)]
  · rw [if_neg (Nat.not_lt_zero _)]
    exact hpt j hj
/-- a thing with another one's keys -/
theorem o_mka (h : o_in F0 M0 n0 p q gv (u + 1) F T (I, g, k, z) A) (hst : c_st T0 S0 T (I, g, k, z)) {c : Int32} {a r s z' : Nat} {fq : Nat → Option Nat} (ha : T a) (hr0 : S0.2.2.1 ≤ r) (hr : (wd_mut r = false ∧ r < k) ∧ g r = ab_ra 4 s fq) (h12 : s ≤ 12) (hc : n0 ≤ c.toInt ∧ 0 ≤ c.toInt ∧ c.toInt < (A 102 8).toInt) (hnt : ∀ b, ¬ F b c) (hsz : (A 105 c.toInt.toNat).toInt = (s : Int)) (hkd : A 103 c.toInt.toNat = c_i g a 0) (hwo : A 104 c.toInt.toNat = c_i g a 1) (hpt : ∀ j, j < s → ∃ b, fq j = some b ∧ F b (A 108 (12 * c.toInt.toNat + j)) ∧ A 109 (12 * c.toInt.toNat + j) = c_ky g a j) (hB : (m_ends A c s 107 c.toInt.toNat).toInt ≤ 1000) (hz : (c_i g a 0).toInt = 3 → c_i g a 1 = ab_ii 0) : o_in F0 M0 n0 p q gv u (h_and F k c) (fun b => T b ∨ b = k) (c_I1 I, c_mka g k a r s fq, k + 1, z') (m_ends A c s) ∧ c_st T0 S0 (fun b => T b ∨ b = k) (c_I1 I, c_mka g k a r s fq, k + 1, z') := by
  obtain ⟨⟨a1, a2, a3, a4⟩, ⟨b1, ⟨b4, b5, b6⟩, b3⟩, ⟨d1, d2⟩, e1, e2, e3, e4, e5, e6⟩ := id h
  have hW : c_W T g k := a1.1
  have h125 : 125 ≤ k := a1.2.1
  have hs3 := a1.2.2.1
  change 0 ≤ (I 9 0).toInt ∧ (I 9 0).toInt ≤ 3000 at hs3
  change (I 9 0).toInt + ((u + 1 : Nat) : Int) = (A 102 9).toInt at e4
  have hf : c_rT T s fq := fun j hj => by
    obtain ⟨b, q1, q2, -⟩ := hpt j hj
    exact ⟨b, q1, (d1.in q2).1⟩
  obtain ⟨ka, pa, nk, np', fk, fp, hcc, ⟨hnk, -⟩, -, -, -, -, ⟨f4, -⟩, ⟨-, m2, -⟩, ⟨l1, l2, -⟩⟩ := c_W_get hW ha
  have hka : g ka = ab_ia 0 nk fk := (wd_g (I := I) (P := fun _ _ => none) (M := I) m2).symm.trans (hcc I (fun _ _ => none) I 0).2.1
  have hky : ∀ j, (if j < nk then fk j else ab_ii 0) = c_ky g a j := fun j => by unfold c_ky; rw [f4, hka]; rfl
  have hst2 : c_st T0 S0 (fun b => T b ∨ b = k) (c_I1 I, c_mka g k a r s fq, k + 1, z') := c_st.thg (fk := fk) (nk := nk) hst (Nat.le_refl _) (Nat.lt_succ_self _) (wd_mut_new h125) (by rw [f4]; exact ⟨⟨m2, by show ka < k + 1; omega⟩, hka, hnk⟩) ⟨⟨hr.1.1, by have := hr.1.2; omega⟩, hr.2, by omega⟩ ⟨by rw [f4]; omega, by have := hr.1.2; omega⟩ hf (Or.inr ⟨a, ha, rfl⟩) hr0 c_Ifr_1
  have hst3 : o_st T (I, g, k, z) (fun b => T b ∨ b = k) (c_I1 I, c_mka g k a r s fq, k + 1, z') := ⟨fun _ e => Or.inl e, hst2.wf, c_ofr_up c_ofr.rf (Nat.le_refl _), Nat.le_add_right _ _, c_Ifr_1⟩
  obtain ⟨u1, u2⟩ := c_I1_9 (I := I) ⟨hs3.1, by omega⟩
  have u3 : c_I1 I 10 5 = I 10 5 := wd_up_ne _ _ (by omega)
  refine ⟨o_in.mk (kd := c_i g a 0) (wo := c_i g a 1) (ka := ka) (pa := r) (nk := nk) (fk2 := fk) (fp2 := fq) (g2 := g) h hc hnt hst3 (Nat.le_refl _) ?_ ?_ ?_ (fun b hb j => rfl) h12 hsz hkd hwo (fun j hj => ?_) u1 u2 u3 hB hz, hst2⟩
  · show c_mka g k a r s fq k = _
    unfold c_mka
    rw [ab_up_self, f4]
    rfl
  · exact (ab_up_ne _ _ (by omega)).trans hka
  · exact (ab_up_ne _ _ (by have := hr.1.2; omega)).trans hr.2
  · rw [hky]
    exact hpt j hj
/-- what the reference's new row is -/
def o_nr (K A : wd_I) (s : Nat) (kd wo : Int32) : Prop := m_s1 (m_mk K) A ∧ m_fr (K 102 8).toInt K A ∧ (A 105 (K 102 8).toInt.toNat).toInt = (s : Int) ∧ A 103 (K 102 8).toInt.toNat = kd ∧ A 104 (K 102 8).toInt.toNat = wo
/-- a row of parts, and a thing of them, without keys -/
theorem o_mkg1 (h0 : 0 ≤ n0) (h : o_in F0 M0 n0 p q gv u F T (I, g, k, z) M) {kd wo t : Int32} {s r : Nat} {fq : Nat → Option Nat} (h12 : s ≤ 12) (hA : o_nr M A s kd wo) (hpt : ∀ j, j < s → ∃ b, fq j = some b ∧ F b (A 108 (12 * (M 102 8).toInt.toNat + j)) ∧ A 109 (12 * (M 102 8).toInt.toNat + j) = ab_ii 0) (hB : (m_ends A (M 102 8) s 107 (M 102 8).toInt.toNat).toInt ≤ 1000) (hz : kd.toInt = 3 → wo = ab_ii 0) : o_res F0 M0 n0 p q gv u F T (I, g, k, z) M (c_mkN kd wo k s fq r (c_arr (I, g, k, z) fq s)) (m_cani M (m_ends A (M 102 8) s, M 102 8) (m_nomk M, t)) := by
  obtain ⟨A1, A2, A3, A4, A5⟩ := hA
  refine o_cani h rfl (fun hc hm => ?_) (o_m1.of (o_eq (S := (I, g, k, z)) (S' := c_arr (I, g, k, z) fq s) rfl rfl) o_mkN.2)
  obtain ⟨c1, c2, c3⟩ := h.beg h0 hc A1 A2
  obtain ⟨r1, r2⟩ := c1.arr (f := fq) (n := s)
  have h125 : 125 ≤ k := h.1.1.2.1
  have hle := h.2.1.2.2
  have hin := h.2.2.1.1
  have hsp : (I 10 6).toInt = 0 := h.2.2.2.1
  have hmk := o_mkg (z' := z + s + 6) (r := k) r1 r2 (Nat.le_refl _) ⟨⟨wd_mut_new h125, Nat.lt_succ_self _⟩, ab_up_self _ _ _⟩ h12 ⟨hle, by omega, by omega⟩ (fun b e => by have := (hin.in e).2.2; omega) A3 A4 A5 hpt hB hz
  have e : c_mkN kd wo k s fq r (c_arr (I, g, k, z) fq s) = (k + 1, (c_I1 I, c_mkg (ab_up g k (ab_ra 4 s fq)) (k + 1) kd wo k s fq, k + 1 + 2, z + s + 6)) := by
    unfold c_mkN c_arr
    dsimp only
    rw [if_pos hsp, if_pos hm]
  rw [e]
  refine ⟨fun _ => ⟨_, _, hmk.2, hmk.1, fun _ _ q => Or.inl q, fun b t q => ?_, Or.inr ⟨rfl, rfl⟩⟩, fun q => absurd hmk.1.2.2.2.2.1 q⟩
  rcases q with q | ⟨-, q⟩
  · exact Or.inl q
  · rw [q]
    exact Or.inr (Int.le_refl _)
/-- a row of parts, and a thing of them, with another one's keys -/
theorem o_mka1 (h0 : 0 ≤ n0) (h : o_in F0 M0 n0 p q gv u F T (I, g, k, z) M) {t : Int32} {a s : Nat} {fq : Nat → Option Nat} (ha : T a) (h12 : s ≤ 12) (hA : o_nr M A s (c_i g a 0) (c_i g a 1)) (hpt : ∀ j, j < s → ∃ b, fq j = some b ∧ F b (A 108 (12 * (M 102 8).toInt.toNat + j)) ∧ A 109 (12 * (M 102 8).toInt.toNat + j) = c_ky g a j) (hB : (m_ends A (M 102 8) s 107 (M 102 8).toInt.toNat).toInt ≤ 1000) (hz : (c_i g a 0).toInt = 3 → c_i g a 1 = ab_ii 0) : o_res F0 M0 n0 p q gv u F T (I, g, k, z) M (c_mkA a k s fq (c_arr (I, g, k, z) fq s)) (m_cani M (m_ends A (M 102 8) s, M 102 8) (m_nomk M, t)) := by
  obtain ⟨A1, A2, A3, A4, A5⟩ := hA
  refine o_cani h rfl (fun hc hm => ?_) (o_m1.of (o_eq (S := (I, g, k, z)) (S' := c_arr (I, g, k, z) fq s) rfl rfl) o_mkA.2)
  obtain ⟨c1, c2, c3⟩ := h.beg h0 hc A1 A2
  obtain ⟨r1, r2⟩ := c1.arr (f := fq) (n := s)
  have h125 : 125 ≤ k := h.1.1.2.1
  have hle := h.2.1.2.2
  have hin := h.2.2.1.1
  have hsp : (I 10 6).toInt = 0 := h.2.2.2.1
  obtain ⟨-, -, v3, v4⟩ := h.sm r2.o a ha
  have hmk := o_mka (z' := z + s + 6) (r := k) (a := a) r1 r2 ha (Nat.le_refl _) ⟨⟨wd_mut_new h125, Nat.lt_succ_self _⟩, ab_up_self _ _ _⟩ h12 ⟨hle, by omega, by omega⟩ (fun b e => by have := (hin.in e).2.2; omega) A3 (by rw [A4]; exact (v4 0).symm) (by rw [A5]; exact (v4 1).symm) (fun j hj => by
    obtain ⟨b, b1, b2, b3⟩ := hpt j hj
    exact ⟨b, b1, b2, b3.trans (v3 j).symm⟩) hB (by rw [v4 0, v4 1]; exact hz)
  have e : c_mkA a k s fq (c_arr (I, g, k, z) fq s) = (k + 1, (c_I1 I, c_mka (ab_up g k (ab_ra 4 s fq)) (k + 1) a k s fq, k + 1 + 1, z + s + 6)) := by
    unfold c_mkA c_arr
    dsimp only
    rw [if_pos hsp, if_pos hm]
  rw [e]
  refine ⟨fun _ => ⟨_, _, hmk.2, hmk.1, fun _ _ q => Or.inl q, fun b t q => ?_, Or.inr ⟨rfl, rfl⟩⟩, fun q => absurd hmk.1.2.2.2.2.1 q⟩
  rcases q with q | ⟨-, q⟩
  · exact Or.inl q
  · rw [q]
    exact Or.inr (Int.le_refl _)
end
