/-! ===== OVER on both sides: what a focus becomes (own text) ===== -/
section
variable {F0 F F1 : Nat → Int32 → Prop} {M0 M M1 A K : wd_I} {n0 : Int} {p q gv u : Nat} {T T0 T1 : Nat → Prop} {S S0 S1 : c_St} {I : wd_I} {g : Nat → ab_C} {k z : Nat}
/-- as o_cani, with what came between -/
theorem o_cani2 (h : o_in F0 M0 n0 p q gv u F1 T1 S1 M1) {X Y : wd_I × Int32} {R : Nat × c_St} (hY : Y.1 = m_nomk M1) (h1 : m_can M1 → (S1.1 9 0).toInt < 3000 → o_res F0 M0 n0 p q gv u F T S M R X) (hm : o_m1 S1 R.2) : o_res F0 M0 n0 p q gv u F T S M R (m_cani M1 X Y) := by
  have hns := h.ns
  obtain ⟨⟨a1, -⟩, ⟨-, ⟨b1, b2, b3⟩, -⟩, -, e1, e2, e3, e4, -⟩ := id h
  by_cases hc : m_can M1
  · rw [m_cani_t hc]
    refine h1 hc ?_
    unfold m_can at hc
    omega
  · rw [m_cani_f hc]
    have e36 : (Y.1 102 36).toInt = 1 := by rw [hY]; exact m_nomk_36
    refine ⟨fun e => ?_, fun _ => ?_⟩
    · rw [e36] at e
      exact absurd e (by decide)
    · unfold m_can at hc
      rcases hm hns with e | e
      · exact Or.inl e
      · exact Or.inr (by omega)
theorem o_num (h0 : 0 ≤ n0) (h : o_in F0 M0 n0 p q gv u F T (I, g, k, z) M) (hst : c_st T0 S0 T (I, g, k, z)) (hc : m_can M) {r z' : Nat} {v : Int32} (hr0 : S0.2.2.1 ≤ r) (hr : (wd_mut r = false ∧ r < k) ∧ g r = ab_ra 4 0 (fun _ => none)) : (o_in F0 M0 n0 p q gv u (h_and F k (M 102 8)) (fun b => T b ∨ b = k) (c_I1 I, c_mkg g k (ab_ii 0) v r 0 (fun _ => none), k + 2, z') (m_number (m_mk M) v) ∧ c_st T0 S0 (fun b => T b ∨ b = k) (c_I1 I, c_mkg g k (ab_ii 0) v r 0 (fun _ => none), k + 2, z')) ∧ (m_number (m_mk M) v 102 8).toInt = (M 102 8).toInt + 1 := by
  have e8 := m_mk_8 (M := M)
  have hle := h.2.1.2.2
  have hin := h.2.2.1.1
  obtain ⟨c1, c2, c3⟩ := h.beg (A := m_begins (m_mk M) (ab_ii 0) v (ab_ii 0)) h0 hc ⟨m_begins_8, fun j hj => m_begins_n hj⟩ (m_begins_fr (m_mk_fr m_fr.rf) (by rw [e8]; exact Int.le_refl _))
  have q1 := m_begins_sz (M := m_mk M) (s := ab_ii 0) (v := v) (m := ab_ii 0)
  have q2 := m_begins_kd (M := m_mk M) (s := ab_ii 0) (v := v) (m := ab_ii 0)
  have q3 := m_begins_wo (M := m_mk M) (s := ab_ii 0) (v := v) (m := ab_ii 0)
  have eN : m_number (m_mk M) v = m_ends (m_begins (m_mk M) (ab_ii 0) v (ab_ii 0)) (M 102 8) 0 := by unfold m_number; rw [e8]
  rw [e8] at q1 q2 q3
  rw [eN]
  refine ⟨o_mkg (z' := z') (r := r) (s := 0) (fq := fun _ => none) c1 hst hr0 hr (Nat.zero_le _) ⟨hle, by omega, by omega⟩ (fun b e => by have := (hin.in e).2.2; omega) (by rw [q1]; rfl) q2 q3 (fun j hj => absurd hj (Nat.not_lt_zero _)) (o_highB (fun j hj => absurd hj (Nat.not_lt_zero _))) (fun e => absurd e (by decide)), ?_⟩
  rw [m_ends_row (by decide) (by decide)]
  exact c2
/-- one part around -/
theorem o_ar {sort v t : Int32} : o_nr K (m_adds (m_begins (m_mk K) sort v (ab_ii 0)) (K 102 8) (ab_ii 0) t 0) 1 sort v ∧ m_adds (m_begins (m_mk K) sort v (ab_ii 0)) (K 102 8) (ab_ii 0) t 0 108 (12 * (K 102 8).toInt.toNat + 0) = t ∧ m_adds (m_begins (m_mk K) sort v (ab_ii 0)) (K 102 8) (ab_ii 0) t 0 109 (12 * (K 102 8).toInt.toNat + 0) = ab_ii 0 ∧ m_around (m_mk K) sort v t = m_ends (m_adds (m_begins (m_mk K) sort v (ab_ii 0)) (K 102 8) (ab_ii 0) t 0) (K 102 8) 1 := by
  have e8 := m_mk_8 (M := K)
  have q2 := m_begins_kd (M := m_mk K) (s := sort) (v := v) (m := ab_ii 0)
  have q3 := m_begins_wo (M := m_mk K) (s := sort) (v := v) (m := ab_ii 0)
  rw [e8] at q2 q3
  refine ⟨⟨⟨by rw [m_adds_102, m_begins_8], fun j hj => by rw [m_adds_102, m_begins_n hj]⟩, ?_, ?_, ?_, ?_⟩, m_adds_pt, ?_, ?_⟩
  · unfold m_adds
    have hb : m_fr (K 102 8).toInt K (m_begins (m_mk K) sort v (ab_ii 0)) := m_begins_fr (m_mk_fr m_fr.rf) (by rw [e8]; exact Int.le_refl _)
    exact m_fr_up (m_fr_up (m_fr_up hb (by unfold m_wr; omega)) (by unfold m_wr; omega)) (by unfold m_wr; omega)
  · rw [m_adds_sz]; rfl
  · rw [m_adds_kd]; exact q2
  · rw [m_adds_wo]; exact q3
  · rw [m_adds_ky, if_pos rfl]
  · unfold m_around
    rw [e8]
/-- a tag, a row of it alone -/
theorem o_mkr (h0 : 0 ≤ n0) (h : o_in F0 M0 n0 p q gv u F T (I, g, k, z) K) {a : Nat} {sort v t : Int32} (hz : ¬ sort.toInt = 3) (ha : F a t) (hh : 0 ≤ (K 107 t.toInt.toNat).toInt ∧ (K 107 t.toInt.toNat).toInt ≤ 100) : o_res F0 M0 n0 p q gv u F T (I, g, k, z) K (c_mkN sort v k 1 (ab_up (fun _ => none) 0 (some a)) a (c_arr (I, g, k, z) (ab_up (fun _ => none) 0 (some a)) 1)) (m_cani K (m_around (m_mk K) sort v t, K 102 8) (m_nomk K, t)) := by
  obtain ⟨r1, r2, r3, r4⟩ := o_ar (K := K) (sort := sort) (v := v) (t := t)
  have hfr := r1.2.1
  have hin := (h.2.2.1.1.in ha).2
  rw [r4]
  refine o_mkg1 h0 h (by omega) r1 (fun j hj => ?_) (o_highB (fun j hj => ?_)) (fun e => absurd e hz)
  · have e : j = 0 := by omega
    subst e
    exact ⟨a, ab_up_self _ _ _, by rw [r2]; exact ha, r3⟩
  · have e : j = 0 := by omega
    subst e
    rw [r2, (hfr.1.1 t.toInt.toNat (by omega)).2.2.2.2]
    exact hh
/-- a pair of it and a number -/
theorem o_mkp (h0 : 0 ≤ n0) (h : o_in F0 M0 n0 p q gv u F T (I, g, k, z) K) {a : Nat} {hw t : Int32} (ha : F a t) (hh : 0 ≤ (K 107 t.toInt.toNat).toInt ∧ (K 107 t.toInt.toNat).toInt ≤ 100) : o_res F0 M0 n0 p q gv u F T (I, g, k, z) K (if (I 9 0).toInt < 3000 then c_mkN (ab_ii 1) (ab_ii 0) k 2 (c_two a (some (k + 1 + 1))) a (c_I1 I, c_g4y g k a hw, k + 1 + 1 + 2, z + 2 + 0 + 6) else c_mkN (ab_ii 1) (ab_ii 0) k 2 (c_two a (some a)) a (c_I0 I, c_g4n g k a, k + 1 + 1, z + 2 + 0)) (m_cani (m_numb K hw).1 (m_pair (m_mk (m_numb K hw).1) t (m_numb K hw).2, (m_numb K hw).1 102 8) (m_nomk (m_numb K hw).1, t)) := by
  obtain ⟨⟨a1, a2, a3, a4⟩, ⟨b1, ⟨b4, b5, b6⟩, b3⟩, ⟨d1, d2⟩, e1, e2, e3, e4, e5, e6⟩ := id h
  have h125 : 125 ≤ k := a1.2.1
  have hns := h.ns
  have hin := (d1.in ha).2
  have hTa := (d1.in ha).1
  change (I 9 0).toInt + (u : Int) = (K 102 9).toInt at e4
  unfold m_numb
  by_cases hc : m_can K
  · rw [m_cani_t hc]
    dsimp only
    have hm : (I 9 0).toInt < 3000 := by unfold m_can at hc; omega
    rw [if_pos hm]
    obtain ⟨r1, r2⟩ := h.arr (f := c_two a (some (k + 1 + 1))) (n := 2)
    obtain ⟨r3, r4⟩ := r1.arr (f := fun _ => none) (n := 0)
    obtain ⟨⟨n1, n2⟩, n3⟩ := o_num (z' := z + 2 + 0 + 6) (r := k + 1) (v := hw) h0 r3 (r2.tr r4) hc (Nat.le_succ _) ⟨⟨wd_mut_new (by omega), by omega⟩, ab_up_self _ _ _⟩
    have eg : c_g4y g k a hw = c_mkg (ab_up (ab_up g k (ab_ra 4 2 (c_two a (some (k + 1 + 1))))) (k + 1) (ab_ra 4 0 (fun _ => none))) (k + 1 + 1) (ab_ii 0) hw (k + 1) 0 (fun _ => none) := by rw [c_mkg4]; rfl
    have ek : c_g4y g k a hw k = ab_ra 4 2 (c_two a (some (k + 1 + 1))) := by unfold c_g4y; exact ab_up_self _ _ _
    rw [← eg] at n1 n2
    have vn : (m_number (m_mk K) hw 107 (K 102 8).toInt.toNat).toInt = 0 := by
      unfold m_number m_ends
      rw [m_mk_8, wd_up_self]
      rfl
    have hfN : m_fr (K 102 8).toInt K (m_number (m_mk K) hw) := m_number_fr (m_mk_fr m_fr.rf) (by rw [m_mk_8]; exact Int.le_refl _)
    generalize m_number (m_mk K) hw = M1 at *
    refine o_cani2 n1 rfl (fun hc2 hm2 => ?_) o_mkN.2
    have e8 := m_mk_8 (M := M1)
    have hb : m_fr (M1 102 8).toInt M1 (m_begins (m_mk M1) (ab_ii 1) (ab_ii 0) (ab_ii 0)) := m_begins_fr (m_mk_fr m_fr.rf) (by rw [e8]; exact Int.le_refl _)
    have hfa : m_fr (M1 102 8).toInt M1 (m_adds (m_adds (m_begins (m_mk M1) (ab_ii 1) (ab_ii 0) (ab_ii 0)) (M1 102 8) (ab_ii 0) t 0) (M1 102 8) (ab_ii 0) (K 102 8) 1) := by
      unfold m_adds
      exact m_fr_up (m_fr_up (m_fr_up (m_fr_up (m_fr_up (m_fr_up hb (by unfold m_wr; omega)) (by unfold m_wr; omega)) (by unfold m_wr; omega)) (by unfold m_wr; omega)) (by unfold m_wr; omega)) (by unfold m_wr; omega)
    obtain ⟨c1, c2, c3⟩ := n1.beg (A := m_adds (m_adds (m_begins (m_mk M1) (ab_ii 1) (ab_ii 0) (ab_ii 0)) (M1 102 8) (ab_ii 0) t 0) (M1 102 8) (ab_ii 0) (K 102 8) 1) h0 hc2 ⟨by rw [m_adds_102, m_adds_102, m_begins_8], fun j hj => by rw [m_adds_102, m_adds_102, m_begins_n hj]⟩ hfa
    have q2 := m_begins_kd (M := m_mk M1) (s := ab_ii 1) (v := ab_ii 0) (m := ab_ii 0)
    have q3 := m_begins_wo (M := m_mk M1) (s := ab_ii 1) (v := ab_ii 0) (m := ab_ii 0)
    rw [e8] at q2 q3
    have eP : m_pair (m_mk M1) t (K 102 8) = m_ends (m_adds (m_adds (m_begins (m_mk M1) (ab_ii 1) (ab_ii 0) (ab_ii 0)) (M1 102 8) (ab_ii 0) t 0) (M1 102 8) (ab_ii 0) (K 102 8) 1) (M1 102 8) 2 := by unfold m_pair; rw [e8]
    have hA0 : m_adds (m_adds (m_begins (m_mk M1) (ab_ii 1) (ab_ii 0) (ab_ii 0)) (M1 102 8) (ab_ii 0) t 0) (M1 102 8) (ab_ii 0) (K 102 8) 1 108 (12 * (M1 102 8).toInt.toNat + 0) = t := by rw [m_adds_pn (by omega), m_adds_pt]
    have hA1 : m_adds (m_adds (m_begins (m_mk M1) (ab_ii 1) (ab_ii 0) (ab_ii 0)) (M1 102 8) (ab_ii 0) t 0) (M1 102 8) (ab_ii 0) (K 102 8) 1 108 (12 * (M1 102 8).toInt.toNat + 1) = K 102 8 := m_adds_pt
    have hAk : ∀ j, j < 2 → m_adds (m_adds (m_begins (m_mk M1) (ab_ii 1) (ab_ii 0) (ab_ii 0)) (M1 102 8) (ab_ii 0) t 0) (M1 102 8) (ab_ii 0) (K 102 8) 1 109 (12 * (M1 102 8).toInt.toNat + j) = ab_ii 0 := fun j hj => by
      rw [m_adds_ky]
      split
      · rfl
      · rw [m_adds_ky, if_pos (by omega)]
    have hAs : m_adds (m_adds (m_begins (m_mk M1) (ab_ii 1) (ab_ii 0) (ab_ii 0)) (M1 102 8) (ab_ii 0) t 0) (M1 102 8) (ab_ii 0) (K 102 8) 1 105 (M1 102 8).toInt.toNat = ab_ii 2 := by rw [m_adds_sz]; rfl
    have hAd : m_adds (m_adds (m_begins (m_mk M1) (ab_ii 1) (ab_ii 0) (ab_ii 0)) (M1 102 8) (ab_ii 0) t 0) (M1 102 8) (ab_ii 0) (K 102 8) 1 103 (M1 102 8).toInt.toNat = ab_ii 1 := by rw [m_adds_kd, m_adds_kd]; exact q2
    have hAw : m_adds (m_adds (m_begins (m_mk M1) (ab_ii 1) (ab_ii 0) (ab_ii 0)) (M1 102 8) (ab_ii 0) t 0) (M1 102 8) (ab_ii 0) (K 102 8) 1 104 (M1 102 8).toInt.toNat = ab_ii 0 := by rw [m_adds_wo, m_adds_wo]; exact q3
    rw [eP]
    generalize m_adds (m_adds (m_begins (m_mk M1) (ab_ii 1) (ab_ii 0) (ab_ii 0)) (M1 102 8) (ab_ii 0) t 0) (M1 102 8) (ab_ii 0) (K 102 8) 1 = A at *
    have hh1 : A 107 t.toInt.toNat = K 107 t.toInt.toNat := (hfa.1.1 t.toInt.toNat (by omega)).2.2.2.2.trans (hfN.1.1 t.toInt.toNat (by omega)).2.2.2.2
    have hh2 : A 107 (K 102 8).toInt.toNat = M1 107 (K 102 8).toInt.toNat := (hfa.1.1 (K 102 8).toInt.toNat (by omega)).2.2.2.2
    have hin1 := n1.2.2.1.1
    have hmk := o_mkg (z' := z + 2 + 0 + 6 + 6) (r := k) (s := 2) (fq := c_two a (some (k + 1 + 1))) (kd := ab_ii 1) (wo := ab_ii 0) c1 n2 (Nat.le_refl _) ⟨⟨wd_mut_new h125, by omega⟩, ek⟩ (by omega) ⟨by omega, by omega, by omega⟩ (fun b e => by have := (hin1.in e).2.2; omega) (by rw [hAs]; rfl) hAd hAw (fun j hj => by
      by_cases ej : j = 0
      · subst ej
        exact ⟨a, by unfold c_two; rw [ab_up_ne _ _ (by omega), ab_up_self], by rw [hA0]; exact Or.inl ha, hAk 0 (by omega)⟩
      · have ej1 : j = 1 := by omega
        subst ej1
        exact ⟨k + 1 + 1, by unfold c_two; rw [ab_up_self], by rw [hA1]; exact Or.inr ⟨rfl, rfl⟩, hAk 1 (by omega)⟩) (o_highB (fun j hj => by
      by_cases ej : j = 0
      · subst ej
        rw [hA0, hh1]
        exact hh
      · have ej1 : j = 1 := by omega
        subst ej1
        rw [hA1, hh2, vn]
        omega)) (fun e => absurd e (by decide))
    have e : c_mkN (ab_ii 1) (ab_ii 0) k 2 (c_two a (some (k + 1 + 1))) a (c_I1 I, c_g4y g k a hw, k + 1 + 1 + 2, z + 2 + 0 + 6) = (k + 1 + 1 + 2, (c_I1 (c_I1 I), c_mkg (c_g4y g k a hw) (k + 1 + 1 + 2) (ab_ii 1) (ab_ii 0) k 2 (c_two a (some (k + 1 + 1))), k + 1 + 1 + 2 + 2, z + 2 + 0 + 6 + 6)) := by
      unfold c_mkN
      dsimp only
      rw [if_pos n1.2.2.2.1, if_pos hm2]
    rw [e]
    refine ⟨fun _ => ⟨_, _, hmk.2, hmk.1, fun _ _ q => Or.inl (Or.inl q), fun b t q => ?_, Or.inr ⟨rfl, rfl⟩⟩, fun q => absurd hmk.1.2.2.2.2.1 q⟩
    rcases q with (q | ⟨-, q⟩) | ⟨-, q⟩
    · exact Or.inl q
    · rw [q]
      exact Or.inr (Int.le_refl _)
    · rw [q]
      exact Or.inr (by omega)
  · rw [m_cani_f hc]
    dsimp only
    rw [m_cani_f m_nomk_can]
    refine ⟨fun e => ?_, fun _ => ?_⟩
    · change (m_nomk (m_nomk K) 102 36).toInt = 0 at e
      rw [m_nomk_36] at e
      exact absurd e (by decide)
    · unfold m_can at hc
      change 0 ≤ (K 102 8).toInt at b4
      split
      next hm =>
        have h1 := o_I1 (S := (I, g, k, z)) (S' := (c_I1 I, c_g4y g k a hw, k + 1 + 1 + 2, z + 2 + 0 + 6)) hm rfl
        rcases o_m1.be h1.1 h1.2 o_mkN.1 hns with e | e
        · exact Or.inl e
        · change (I 9 0).toInt + 1 ≤ _ at e
          exact Or.inr (by omega)
      next hm =>
        have h1 := o_I0 (S := (I, g, k, z)) (S' := (c_I0 I, c_g4n g k a, k + 1 + 1, z + 2 + 0)) hm rfl
        rcases o_m1.be h1.1 h1.2 o_mkN.1 hns with e | e
        · exact Or.inl e
        · change (I 9 0).toInt + 1 ≤ _ at e
          exact Or.inr (by omega)
end
