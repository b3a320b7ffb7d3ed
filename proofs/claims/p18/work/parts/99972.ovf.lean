/-! ===== OVER on both sides: what a focus becomes, whole (own text) ===== -/
section
variable {F0 F F1 : Nat → Int32 → Prop} {M0 M K : wd_I} {n0 : Int} {p q gv u : Nat} {T : Nat → Prop} {I : wd_I} {g : Nat → ab_C} {k z : Nat}
/-- a copy's parts and keys -/
theorem o_cp (h : o_in F0 M0 n0 p q gv u F T (I, g, k, z) K) (hT : m_T M0 n0) (h0 : 0 ≤ n0) {a s : Nat} {t : Int32} (ha : F0 a t) (hs : (M0 105 t.toInt.toNat).toInt = (s : Int)) : (∀ j, j < s → m_copyOf (m_mk K) t s 108 (12 * (K 102 8).toInt.toNat + j) = M0 108 (12 * t.toInt.toNat + j) ∧ m_copyOf (m_mk K) t s 108 (12 * t.toInt.toNat + j) = M0 108 (12 * t.toInt.toNat + j) ∧ m_copyOf (m_mk K) t s 109 (12 * (K 102 8).toInt.toNat + j) = M0 109 (12 * t.toInt.toNat + j) ∧ F0 (c_pt g a j) (M0 108 (12 * t.toInt.toNat + j)) ∧ c_ky g a j = M0 109 (12 * t.toInt.toNat + j)) ∧ m_fr (K 102 8).toInt K (m_copyOf (m_mk K) t s) ∧ (m_copyOf (m_mk K) t s 105 (K 102 8).toInt.toNat = M0 105 t.toInt.toNat ∧ m_copyOf (m_mk K) t s 103 (K 102 8).toInt.toNat = M0 103 t.toInt.toNat ∧ m_copyOf (m_mk K) t s 104 (K 102 8).toInt.toNat = M0 104 t.toInt.toNat) ∧ (c_sz g a = s ∧ s ≤ 12 ∧ t.toInt.toNat < (K 102 8).toInt.toNat) := by
  obtain ⟨⟨a1, a2, a3, a4⟩, ⟨b1, b2, b3⟩, -⟩ := id h
  obtain ⟨⟨hTa, ht0, ht1⟩, p0, p1, p2, p3, p4, p5⟩ := a2.1.1 a t ha
  have h12 := (a2.2 a t ha).1
  change c_sz g a ≤ 12 at h12
  change (c_sz g a : Int) = (M0 105 t.toInt.toNat).toInt at p4
  have hsz : c_sz g a = s := by omega
  have e8 := m_mk_8 (M := K)
  obtain ⟨k3, k4, k5, k6, k7, k8⟩ := b1.1.ra (q := t.toInt.toNat) (by omega)
  have hfr : m_fr (K 102 8).toInt K (m_copyOf (m_mk K) t s) := m_copyOf_fr (m_mk_fr m_fr.rf) (by rw [e8]; exact Int.le_refl _)
  have r5 := m_copyOf_sz (M := m_mk K) (t := t) (s := s)
  have r3 := m_copyOf_kd (M := m_mk K) (t := t) (s := s)
  have r4 := m_copyOf_wo (M := m_mk K) (t := t) (s := s)
  rw [e8] at r5 r3 r4
  rw [m_mk_row (by decide)] at r5 r3 r4
  refine ⟨fun j hj => ?_, hfr, ⟨r5.trans k5, r3.trans k3, r4.trans k4⟩, hsz, by omega, by omega⟩
  have v1 := m_copyOf_pt (M := m_mk K) (t := t) (s := s) ht0 (by rw [e8]; omega) (by omega) hj
  have v2 := m_copyOf_ky (M := m_mk K) (t := t) (s := s) ht0 (by rw [e8]; omega) (by omega) hj
  rw [e8, m_mk_row (by decide)] at v1 v2
  obtain ⟨k81, k82⟩ := k8 j (by omega)
  obtain ⟨p51, p52⟩ := p5 j (by show j < c_sz g a; omega)
  exact ⟨v1.trans k81, (hfr.1.2 _ (by omega)).1.trans k81, v2.trans k82, p52, p51⟩
theorem o_mkc (h : o_in F0 M0 n0 p q gv u F T (I, g, k, z) K) (hT : m_T M0 n0) (h0 : 0 ≤ n0) {a s : Nat} {t : Int32} (ha : F0 a t) (hs : (M0 105 t.toInt.toNat).toInt = (s : Int)) {how : Int} (hhow : (K 102 33).toInt = how) {fq : Nat → Option Nat} (hfq : o_rr F0 s (K 102 8).toInt.toNat fq (m_chl how s (K 102 8).toInt.toNat t.toInt.toNat (m_copyOf (m_mk K) t s) s)) : o_res F0 M0 n0 p q gv u F T (I, g, k, z) K (c_mkA a k (c_sz g a) fq (c_arr (I, g, k, z) fq (c_sz g a))) (m_cani K (m_changed (m_mk K) t s, K 102 8) (m_nomk K, t)) := by
  obtain ⟨c1, c2, ⟨c5, c3, c4⟩, c6, c7, c8⟩ := o_cp h hT h0 ha hs
  obtain ⟨⟨a1, a2, a3, a4⟩, ⟨b1, b2, b3⟩, ⟨d1, d2⟩, -⟩ := id h
  obtain ⟨⟨hTa, ht0, ht1⟩, p0, p1, -⟩ := a2.1.1 a t ha
  have e8 := m_mk_8 (M := K)
  have e33 : m_mk K 102 33 = K 102 33 := wd_up_ne _ _ (Or.inr (by decide))
  have eN : m_changed (m_mk K) t s = m_ends (m_chl how s (K 102 8).toInt.toNat t.toInt.toNat (m_copyOf (m_mk K) t s) s) (K 102 8) s := by unfold m_changed; rw [e33, hhow, e8]
  have hle : (K 102 8).toInt ≤ ((K 102 8).toInt.toNat : Int) := by omega
  have hfA : m_fr (K 102 8).toInt K (m_chl how s (K 102 8).toInt.toNat t.toInt.toNat (m_copyOf (m_mk K) t s) s) := m_chl_fr hle c2 s
  have er : ∀ x, x ≠ 108 → m_chl how s (K 102 8).toInt.toNat t.toInt.toNat (m_copyOf (m_mk K) t s) s x = m_copyOf (m_mk K) t s x := fun x hx => m_chl_row hx s
  rw [eN, c6]
  refine o_mka1 h0 h hTa c7 ⟨⟨?_, fun j hj => ?_⟩, hfA, ?_, ?_, ?_⟩ (fun j hj => ?_) (o_highB (fun j hj => ?_)) (by rw [p0, p1]; exact (a2.2 a t ha).2.2.2)
  · rw [er 102 (by decide), m_copyOf_8]
  · rw [er 102 (by decide)]
    unfold m_copyOf
    rw [m_cpl_row (by decide) (by decide), m_begins_n hj]
  · rw [er 105 (by decide), c5]; exact hs
  · rw [er 103 (by decide), c3]; exact p0.symm
  · rw [er 104 (by decide), c4]; exact p1.symm
  · obtain ⟨b, q1, q2⟩ := hfq j hj
    obtain ⟨-, -, v3, -, v5⟩ := c1 j hj
    exact ⟨b, q1, d2 _ _ q2, by rw [er 109 (by decide), v3]; exact v5.symm⟩
  · obtain ⟨b, q1, q2⟩ := hfq j hj
    have hx := (a2.1.1 b _ q2).1.2
    have hh := (a2.2 b _ q2).2
    generalize m_chl how s (K 102 8).toInt.toNat t.toInt.toNat (m_copyOf (m_mk K) t s) s 108 (12 * (K 102 8).toInt.toNat + j) = x at *
    rw [(hfA.1.1 x.toInt.toNat (by omega)).2.2.2.2, (b1.1.1 x.toInt.toNat (by omega)).2.2.2.2]
    omega
theorem o_bec (hcx : o_cx F0 M0 n0 gv) (h : o_in F0 M0 n0 p q gv u F T (I, g, k, z) M) {a s : Nat} {t : Int32} (ha : F0 a t) (hs : (M0 105 t.toInt.toNat).toInt = (s : Int)) : o_res F0 M0 n0 p q gv u F T (I, g, k, z) M (c_foc gv (I, g, k, z) a) (m_became M t s) := by
  obtain ⟨hop, hT0, h7⟩ := hcx
  obtain ⟨o1, o2, o3, o4, o5, o6⟩ := id hop
  obtain ⟨hb, hst⟩ := h.bump
  refine o_res.bump ?_ hst
  obtain ⟨⟨a1, a2, a3, a4⟩, ⟨b1, b2, b3⟩, ⟨d1, d2⟩, e1, e2, e3, e4, e5, e6⟩ := id h
  change I 10 2 = M0 102 33 at e5
  change (M0 102 33).toInt = 7 ∨ I 10 3 = M0 102 34 at e6
  change I 10 5 = M 102 35 at e3
  have h125 : 125 ≤ k := a1.2.1
  have e33 : M 102 33 = M0 102 33 := b1.2.2 33 (by decide) (by decide) (by decide) (by decide)
  have e34 : M 102 34 = M0 102 34 := b1.2.2 34 (by decide) (by decide) (by decide) (by decide)
  have hfr : m_fr n0 M0 (m_ov1 M) := hb.2.1.1
  have eK33 : m_ov1 M 102 33 = M0 102 33 := hfr.2.2 33 (by decide) (by decide) (by decide) (by decide)
  obtain ⟨⟨hTa, ht0, ht1⟩, p0, p1, p2, p3, p4, p5⟩ := a2.1.1 a t ha
  change c_i g a 0 = M0 103 t.toInt.toNat at p0
  change c_i g a 1 = M0 104 t.toInt.toNat at p1
  obtain ⟨k3, k4, k5, k6, k7, k8⟩ := hfr.1.ra (q := t.toInt.toNat) (by omega)
  have hFa : F a t := d2 a t ha
  have hht := a2.2 a t ha
  have hK7 : 0 ≤ (m_ov1 M 107 t.toInt.toNat).toInt ∧ (m_ov1 M 107 t.toInt.toNat).toInt ≤ 100 := by rw [k7]; omega
  obtain ⟨f9, f6, f2⟩ := c_fI_9 (I := I)
  obtain ⟨cp1, cp2, cp3, hsz, h12, htc⟩ := o_cp hb hT0 o2 ha hs
  have hn0 : n0 ≤ (((m_ov1 M 102 8).toInt.toNat : Nat) : Int) := by have := hb.2.1.2.2; omega
  have hsame := o_res.same hb hFa
  have i5 : (I 10 2).toInt = (M 102 33).toInt := by rw [e5, e33]
  have i2 : (c_fI I 10 2).toInt = (M 102 33).toInt := by rw [f2, e5, e33]
  have i0 : (c_i g a 0).toInt = (m_ov1 M 103 t.toInt.toNat).toInt := by rw [p0, k3]
  have ei : M0 102 33 = M 102 33 := e33.symm
  have e63 : ¬ (M 102 33).toInt = 7 → I 10 3 = M 102 34 := fun q => (e6.resolve_left (by rw [← e33]; exact q)).trans e34.symm
  have hK33 : (m_ov1 M 102 33).toInt = (M 102 33).toInt := by rw [eK33, e33]
  unfold m_became c_foc m_bec
  dsimp only
  by_cases h4 : (M 102 33).toInt < 4
  · rw [if_pos (show (I 10 2).toInt < 4 by omega), if_pos h4]
    by_cases hk0 : (m_ov1 M 103 t.toInt.toNat).toInt = 0
    · rw [if_pos (show (c_i g a 0).toInt = 0 by omega), if_pos hk0]
      have ev : c_fv I (c_i g a 1) = m_val (M 102 33).toInt (m_ov1 M 104 t.toInt.toNat) (M 102 34) (M 102 35) := by
        unfold c_fv m_val
        rw [e5, e63 (by omega), e3, p1, k4, ei]
      unfold m_numb
      rw [← ev]
      refine o_cani hb rfl (fun hc hm => ?_) ?_
      · have hm' : (I 9 0).toInt < 3000 := by rw [← f9]; exact hm
        rw [if_pos hm']
        obtain ⟨r1, r2⟩ := hb.arr (f := fun _ => none) (n := 0)
        obtain ⟨⟨n1, n2⟩, n3⟩ := o_num (z' := z + 6) (r := k) (v := c_fv I (c_i g a 1)) o2 r1 r2 hc (Nat.le_refl _) ⟨⟨wd_mut_new h125, Nat.lt_succ_self _⟩, ab_up_self _ _ _⟩
        refine ⟨fun _ => ⟨_, _, n2, n1, fun _ _ e => Or.inl e, fun b t e => ?_, Or.inr ⟨rfl, rfl⟩⟩, fun e => absurd n1.2.2.2.2.1 e⟩
        rcases e with e | ⟨-, e⟩
        · exact Or.inl e
        · rw [e]
          exact Or.inr (Int.le_refl _)
      · split
        next hm => exact (o_I1 (S := (c_fI I, g, k, z)) (by show (c_fI I 9 0).toInt < 3000; rw [f9]; exact hm) rfl).2
        next hm => exact (o_I0 (S := (c_fI I, g, k, z)) (by show ¬ (c_fI I 9 0).toInt < 3000; rw [f9]; exact hm) rfl).2
    · rw [if_neg (show ¬ (c_i g a 0).toInt = 0 by omega), if_neg hk0]
      exact hsame
  · rw [if_neg (show ¬ (I 10 2).toInt < 4 by omega), if_neg h4]
    by_cases hc7 : (M 102 33).toInt = 7
    · rw [if_pos hc7, if_neg (show ¬ (I 10 2).toInt = 4 by omega), if_neg (show ¬ (I 10 2).toInt = 5 by omega), if_neg (show ¬ (I 10 2).toInt = 6 by omega), if_pos (show (I 10 2).toInt = 7 by omega)]
      have hg := d2 _ _ (h7 (by rw [ei]; exact hc7))
      have := o_res.same hb hg
      rw [← hfr.2.1 110 (by decide), ← e34] at this
      exact this
    · rw [if_neg hc7]
      by_cases h40 : (M 102 33).toInt = 4
      · rw [if_pos (show (I 10 2).toInt = 4 by omega), if_pos h40]
        have := o_mkp (hw := M 102 34) o2 hb hFa hK7
        rw [f9] at this
        rw [e63 hc7]
        exact this
      · rw [if_neg (show ¬ (I 10 2).toInt = 4 by omega), if_neg h40]
        by_cases h5 : (M 102 33).toInt = 5
        · rw [if_pos (show (I 10 2).toInt = 5 by omega), if_pos (show m_isch (M 102 33).toInt (m_ov1 M 103 t.toInt.toNat).toInt by unfold m_isch; omega), if_pos h5, e63 hc7]
          exact o_mkr o2 hb (by decide) hFa hK7
        · rw [if_neg (show ¬ (I 10 2).toInt = 5 by omega)]
          by_cases h6 : (M 102 33).toInt = 6
          · rw [if_pos (show (I 10 2).toInt = 6 by omega), if_pos (show m_isch (M 102 33).toInt (m_ov1 M 103 t.toInt.toNat).toInt by unfold m_isch; omega), if_neg h5, if_pos h6]
            exact o_mkr o2 hb (by decide) hFa hK7
          · rw [if_neg (show ¬ (I 10 2).toInt = 6 by omega), if_neg (show ¬ (I 10 2).toInt = 7 by omega), if_neg h5, if_neg h6]
            unfold c_ordr
            dsimp only
            by_cases hx : ((c_fI I 10 2).toInt = 8 ∧ (c_i g a 0).toInt = 1) ∨ ((c_fI I 10 2).toInt = 9 ∧ (c_i g a 0).toInt = 2)
            · rw [if_pos hx, if_pos (show m_isch (M 102 33).toInt (m_ov1 M 103 t.toInt.toNat).toInt by unfold m_isch; omega)]
              refine o_mkc hb hT0 o2 ha hs (how := (M 102 33).toInt) hK33 (fun j hj => ⟨c_pt g a (s - 1 - j), ?_, ?_⟩)
              · unfold c_row c_rev
                rw [hsz, if_pos hj]
              · rw [o_rv (by omega) htc h12 s (Nat.le_refl _) j hj, if_pos (by omega), (cp1 (s - 1 - j) (by omega)).2.1]
                exact (cp1 (s - 1 - j) (by omega)).2.2.2.1
            · rw [if_neg hx]
              by_cases hx2 : (c_fI I 10 2).toInt = 10 ∧ (c_i g a 0).toInt = 2
              · rw [if_pos hx2, if_pos (show m_isch (M 102 33).toInt (m_ov1 M 103 t.toInt.toNat).toInt by unfold m_isch; omega)]
                refine o_mkc hb hT0 o2 ha hs (how := (M 102 33).toInt) hK33 ?_
                unfold c_sor
                rw [hsz]
                have hr0 : o_rr F0 s (m_ov1 M 102 8).toInt.toNat (c_row (c_ptr g a) s) (m_copyOf (m_mk (m_ov1 M)) t s) := fun j hj => by
                  obtain ⟨v1, -, -, v4, -⟩ := cp1 j hj
                  refine ⟨c_pt g a j, ?_, by rw [v1]; exact v4⟩
                  unfold c_row c_ptr
                  rw [if_pos hj]
                by_cases hs0 : s = 0
                · intro j hj
                  omega
                · have := (o_sort (f := c_row (c_ptr g a) s) (T := T) a2.1 hT0 hn0 (how := (M 102 33).toInt) (by omega) htc h12 (hfr.tr cp2 hb.2.1.2.2) hr0 (fun j hj => by rw [(cp1 j hj).1, (cp1 j hj).2.1]) (s - 1) (by omega)).1
                  rw [show s - 1 + 1 = s by omega] at this
                  exact this
              · rw [if_neg hx2]
                by_cases hx3 : (c_fI I 10 2).toInt = 11 ∧ (c_i g a 0).toInt = 3
                · rw [if_pos hx3, if_pos (show m_isch (M 102 33).toInt (m_ov1 M 103 t.toInt.toNat).toInt by unfold m_isch; omega)]
                  refine o_mkc hb hT0 o2 ha hs (how := (M 102 33).toInt) hK33 (fun j hj => ⟨c_pt g a (if j = 0 then s - 1 else j - 1), ?_, ?_⟩)
                  · unfold c_row c_trn
                    rw [hsz, if_pos hj]
                  · rw [o_tn (by omega) htc h12 s (Nat.le_refl _) j hj]
                    by_cases ej : j = 0
                    · rw [if_pos ej, if_pos rfl, if_pos ej, (cp1 (s - 1) (by omega)).2.1]
                      exact (cp1 (s - 1) (by omega)).2.2.2.1
                    · rw [if_neg ej, if_neg ej, if_pos (show j ≤ s by omega), (cp1 (j - 1) (by omega)).2.1]
                      exact (cp1 (j - 1) (by omega)).2.2.2.1
                · rw [if_neg hx3, if_neg (show ¬ m_isch (M 102 33).toInt (m_ov1 M 103 t.toInt.toNat).toInt by unfold m_isch; omega)]
                  exact hsame
end
