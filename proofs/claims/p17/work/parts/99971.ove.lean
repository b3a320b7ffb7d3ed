section
/-! ===== OVER on both sides: what a focus becomes (own text) ===== -/
section
variable {F0 F F1 : Nat → Int32 → Prop} {M0 M M1 A K : wd_I} {n0 : Int} {p q gv u : Nat} {T T0 T1 : Nat → Prop} {S S0 S1 : c_St} {I : wd_I} {g : Nat → ab_C} {k z : Nat}
/-- as o_cani, with what came between -/
theorem o_cani2 (h : o_in F0 M0 n0 p q gv u F1 T1 S1 M1) {X Y : wd_I × Int32} {R : Nat × c_St} (hY : Y.1 = m_nomk M1) (h1 : m_can M1 → (S1.1 9 0).toInt < 3000 → o_res F0 M0 n0 p q gv u F T S M R X) (hm : o_m1 S1 R.2) : o_res F0 M0 n0 p q gv u F T S M R (m_cani M1 X Y) := by
  have hns := h.ns
  obtain ⟨⟨a1, -⟩, ⟨-, ⟨b1, b2, b3⟩, -⟩, -, e1, e2, e3, e4, -⟩ := id h
  by_cases hc : m_can M1
  · rw [m_cani_t hc]
    refine h1 hc ?_
    unfold m_can at hc
    omega
  · rw [m_cani_f hc]
    have e36 : (Y.1 102 36).toInt = 1 := by rw [hY]; exact m_nomk_36
    refine ⟨fun e => ?_, fun _ => ?_⟩
    · rw [e36] at e
      exact absurd e (by decide)
    · unfold m_can at hc
      rcases hm hns with e | e
      · exact Or.inl e
      · exact Or.inr (by omega)
theorem o_num (h0 : 0 ≤ n0) (h : o_in F0 M0 n0 p q gv u F T (I, g, k, z) M) (hst : c_st T0 S0 T (I, g, k, z)) (hc : m_can M) {r z' : Nat} {v : Int32} (hr0 : S0.2.2.1 ≤ r) (hr : (wd_mut r = false ∧ r < k) ∧ g r = ab_ra 4 0 (fun _ => none)) : (o_in F0 M0 n0 p q gv u (h_and F k (M 102 8)) (fun b => T b ∨ b = k) (c_I1 I, c_mkg g k (ab_ii 0) v r 0 (fun _ => none), k + 2, z') (m_number (m_mk M) v) ∧ c_st T0 S0 (fun b => T b ∨ b = k) (c_I1 I, c_mkg g k (ab_ii 0) v r 0 (fun _ => none), k + 2, z')) ∧ (m_number (m_mk M) v 102 8).toInt = (M 102 8).toInt + 1 := by
  have e8 := m_mk_8 (M := M)
  have hle := h.2.1.2.2
  have hin := h.2.2.1.1
  obtain ⟨c1, c2, c3⟩ := h.beg (A := m_begins (m_mk M) (ab_ii 0) v (ab_ii 0)) h0 hc ⟨m_begins_8, fun j hj => m_begins_n hj⟩ (m_begins_fr (m_mk_fr m_fr.rf) (by rw [e8]; exact Int.le_refl _))
  have q1 := m_begins_sz (M := m_mk M) (s := ab_ii 0) (v := v) (m := ab_ii 0)
  have q2 := m_begins_kd (M := m_mk M) (s := ab_ii 0) (v := v) (m := ab_ii 0)
  have q3 := m_begins_wo (M := m_mk M) (s := ab_ii 0) (v := v) (m := ab_ii 0)
  have eN : m_number (m_mk M) v = m_ends (m_begins (m_mk M) (ab_ii 0) v (ab_ii 0)) (M 102 8) 0 := by unfold m_number; rw [e8]
  rw [e8] at q1 q2 q3
  rw [eN]
  refine ⟨o_mkg (z' := z') (r := r) (s := 0) (fq := fun _ => none) c1 hst hr0 hr (Nat.zero_le _) ⟨hle, by omega, by omega⟩ (fun b e => by have := (hin.in e).2.2; omega) (by rw [q1]; rfl) q2 q3 (fun j hj => absurd hj (Nat.not_lt_zero _)) (o_highB (fun j hj => absurd hj (Nat.not_lt_zero _))) (fun e => absurd e (by decide)), ?_⟩
  rw [m_ends_row (by decide) (by decide)]
  exact c2
/-- one part around -/
theorem o_ar {sort v t : Int32} : o_nr K (m_adds (m_begins (m_mk K) sort v (ab_ii 0)) (K 102 8) (ab_ii 0) t 0) 1 sort v ∧ m_adds (m_begins (m_mk K) sort v (ab_ii 0)) (K 102 8) (ab_ii 0) t 0 108 (12 * (K 102 8).toInt.toNat + 0) = t ∧ m_adds (m_begins (m_mk K) sort v (ab_ii 0)) (K 102 8) (ab_ii 0) t 0 109 (12 * (K 102 8).toInt.toNat + 0) = ab_ii 0 ∧ m_around (m_mk K) sort v t = m_ends (m_adds (m_begins (m_mk K) sort v (ab_ii 0)) (K 102 8) (ab_ii 0) t 0) (K 102 8) 1 := by
  have e8 := m_mk_8 (M := K)
  have q2 := m_begins_kd (M := m_mk K) (s := sort) (v := v) (m := ab_ii 0)
  have q3 := m_begins_wo (M := m_mk K) (s := sort) (v := v) (m := ab_ii 0)
  rw [e8] at q2 q3
  refine ⟨⟨⟨by rw [m_adds_102, m_begins_8], fun j hj => by rw [m_adds_102, m_begins_n hj]⟩, ?_, ?_, ?_, ?_⟩, m_adds_pt, ?_, ?_⟩
  · unfold m_adds
    have hb : m_fr (K 102 8).toInt K (m_begins (m_mk K) sort v (ab_ii 0)) := m_begins_fr (m_mk_fr m_fr.rf) (by rw [e8]; exact Int.le_refl _)
    exact m_fr_up (m_fr_up (m_fr_up hb (by unfold m_wr; omega)) (by unfold m_wr; omega)) (by unfold m_wr; omega)
  · rw [m_adds_sz]; rfl
  · rw [m_adds_kd]; exact q2
  · rw [m_adds_wo]; exact q3
  · rw [m_adds_ky, if_pos rfl]
  · unfold m_around
    rw [e8]
/-- a tag, a row of it alone -/
theorem o_mkr (h0 : 0 ≤ n0) (h : o_in F0 M0 n0 p q gv u F T (I, g, k, z) K) {a : Nat} {sort v t : Int32} (hz : ¬ sort.toInt = 3) (ha : F a t) (hh : 0 ≤ (K 107 t.toInt.toNat).toInt ∧ (K 107 t.toInt.toNat).toInt ≤ 100) : o_res F0 M0 n0 p q gv u F T (I, g, k, z) K (c_mkN sort v k 1 (ab_up (fun _ => none) 0 (some a)) a (c_arr (I, g, k, z) (ab_up (fun _ => none) 0 (some a)) 1)) (m_cani K (m_around (m_mk K) sort v t, K 102 8) (m_nomk K, t)) := by
  obtain ⟨r1, r2, r3, r4⟩ := o_ar (K := K) (sort := sort) (v := v) (t := t)
  have hfr := r1.2.1
  have hin := (h.2.2.1.1.in ha).2
  rw [r4]
  refine o_mkg1 h0 h (by omega) r1 (fun j hj => ?_) (o_highB (fun j hj => ?_)) (fun e => absurd e hz)
  · have e : j = 0 := by omega
    subst e
    exact ⟨a, ab_up_self _ _ _, by rw [r2]; exact ha, r3⟩
  · have e : j = 0 := by omega
    subst e
    rw [r2, (hfr.1.1 t.toInt.toNat (by omega)).2.2.2.2]
    exact hh
/-- a pair of it and a number -/
theorem o_mkp (h0 : 0 ≤ n0) (h : o_in F0 M0 n0 p q gv u F T (I, g, k, z) K) {a : Nat} {hw t : Int32} (ha : F a t) (hh : 0 ≤ (K 107 t.toInt.toNat).toInt ∧ (K 107 t.toInt.toNat).toInt ≤ 100) : o_res F0 M0 n0 p q gv u F T (I, g, k, z) K (if (I 9 0).toInt < 3000 then c_mkN (ab_ii 1) (ab_ii 0) k 2 (c_two a (some (k + 1 + 1))) a (c_I1 I, c_g4y g k a hw, k + 1 + 1 + 2, z + 2 + 0 + 6) else c_mkN (ab_ii 1) (ab_ii 0) k 2 (c_two a (some a)) a (c_I0 I, c_g4n g k a, k + 1 + 1, z + 2 + 0)) (m_cani (m_numb K hw).1 (m_pair (m_mk (m_numb K hw).1) t (m_numb K hw).2, (m_numb K hw).1 102 8) (m_nomk (m_numb K hw).1, t)) := by
  obtain ⟨⟨a1, a2, a3, a4⟩, ⟨b1, ⟨b4, b5, b6⟩, b3⟩, ⟨d1, d2⟩, e1, e2, e3, e4, e5, e6⟩ := id h
  have h125 : 125 ≤ k := a1.2.1
  have hns := h.ns
  have hin := (d1.in ha).2
  have hTa := (d1.in ha).1
  change (I 9 0).toInt + (u : Int) = (K 102 9).toInt at e4
  unfold m_numb
  by_cases hc : m_can K
  · rw [m_cani_t hc]
    dsimp only
    have hm : (I 9 0).toInt < 3000 := by unfold m_can at hc; omega
    rw [if_pos hm]
    obtain ⟨r1, r2⟩ := h.arr (f := c_two a (some (k + 1 + 1))) (n := 2)
    obtain ⟨r3, r4⟩ := r1.arr (f := fun _ => none) (n := 0)
    obtain ⟨⟨n1, n2⟩, n3⟩ := o_num (z' := z + 2 + 0 + 6) (r := k + 1) (v := hw) h0 r3 (r2.tr r4) hc (Nat.le_succ _) ⟨⟨wd_mut_new (by omega), by omega⟩, ab_up_self _ _ _⟩
    have eg : c_g4y g k a hw = c_mkg (ab_up (ab_up g k (ab_ra 4 2 (c_two a (some (k + 1 + 1))))) (k + 1) (ab_ra 4 0 (fun _ => none))) (k + 1 + 1) (ab_ii 0) hw (k + 1) 0 (fun _ => none) := by rw [c_mkg4]; rfl
    have ek : c_g4y g k a hw k = ab_ra 4 2 (c_two a (some (k + 1 + 1))) := by unfold c_g4y; exact ab_up_self _ _ _
    rw [← eg] at n1 n2
    have vn : (m_number (m_mk K) hw 107 (K 102 8).toInt.toNat).toInt = 0 := by
      unfold m_number m_ends
      rw [m_mk_8, wd_up_self]
      rfl
    have hfN : m_fr (K 102 8).toInt K (m_number (m_mk K) hw) := m_number_fr (m_mk_fr m_fr.rf) (by rw [m_mk_8]; exact Int.le_refl _)
    generalize m_number (m_mk K) hw = M1 at *
    refine o_cani2 n1 rfl (fun hc2 hm2 => ?_) o_mkN.2
    have e8 := m_mk_8 (M := M1)
    have hb : m_fr (M1 102 8).toInt M1 (m_begins (m_mk M1) (ab_ii 1) (ab_ii 0) (ab_ii 0)) := m_begins_fr (m_mk_fr m_fr.rf) (by rw [e8]; exact Int.le_refl _)
    have hfa : m_fr (M1 102 8).toInt M1 (m_adds (m_adds (m_begins (m_mk M1) (ab_ii 1) (ab_ii 0) (ab_ii 0)) (M1 102 8) (ab_ii 0) t 0) (M1 102 8) (ab_ii 0) (K 102 8) 1) := by
      unfold m_adds
      exact m_fr_up (m_fr_up (m_fr_up (m_fr_up (m_fr_up (m_fr_up hb (by unfold m_wr; omega)) (by unfold m_wr; omega)) (by unfold m_wr; omega)) (by unfold m_wr; omega)) (by unfold m_wr; omega)) (by unfold m_wr; omega)
    obtain ⟨c1, c2, c3⟩ := n1.beg (A := m_adds (m_adds (m_begins (m_mk M1) (ab_ii 1) (ab_ii 0) (ab_ii 0)) (M1 102 8) (ab_ii 0) t 0) (M1 102 8) (ab_ii 0) (K 102 8) 1) h0 hc2 ⟨by rw [m_adds_102, m_adds_102, m_begins_8], fun j hj => by rw [m_adds_102, m_adds_102, m_begins_n hj]⟩ hfa
    have q2 := m_begins_kd (M := m_mk M1) (s := ab_ii 1) (v := ab_ii 0) (m := ab_ii 0)
    have q3 := m_begins_wo (M := m_mk M1) (s := ab_ii 1) (v := ab_ii 0) (m := ab_ii 0)
    rw [e8] at q2 q3
    have eP : m_pair (m_mk M1) t (K 102 8) = m_ends (m_adds (m_adds (m_begins (m_mk M1) (ab_ii 1) (ab_ii 0) (ab_ii 0)) (M1 102 8) (ab_ii 0) t 0) (M1 102 8) (ab_ii 0) (K 102 8) 1) (M1 102 8) 2 := by unfold m_pair; rw [e8]
    have hA0 : m_adds (m_adds (m_begins (m_mk M1) (ab_ii 1) (ab_ii 0) (ab_ii 0)) (M1 102 8) (ab_ii 0) t 0) (M1 102 8) (ab_ii 0) (K 102 8) 1 108 (12 * (M1 102 8).toInt.toNat + 0) = t := by rw [m_adds_pn (by omega), m_adds_pt]
    have hA1 : m_adds (m_adds (m_begins (m_mk M1) (ab_ii 1) (ab_ii 0) (ab_ii 0)) (M1 102 8) (ab_ii 0) t 0) (M1 102 8) (ab_ii 0) (K 102 8) 1 108 (12 * (M1 102 8).toInt.toNat + 1) = K 102 8 := m_adds_pt
    have hAk : ∀ j, j < 2 → m_adds (m_adds (m_begins (m_mk M1) (ab_ii 1) (ab_ii 0) (ab_ii 0)) (M1 102 8) (ab_ii 0) t 0) (M1 102 8) (ab_ii 0) (K 102 8) 1 109 (12 * (M1 102 8).toInt.toNat + j) = ab_ii 0 := fun j hj => by
      rw [m_adds_ky]
      split
      · rfl
      · rw [m_adds_ky, if_pos (by omega)]
    have hAs : m_adds (m_adds (m_begins (m_mk M1) (ab_ii 1) (ab_ii 0) (ab_ii 0)) (M1 102 8) (ab_ii 0) t 0) (M1 102 8) (ab_ii 0) (K 102 8) 1 105 (M1 102 8).toInt.toNat = ab_ii 2 := by rw [m_adds_sz]; rfl
    have hAd : m_adds (m_adds (m_begins (m_mk M1) (ab_ii 1) (ab_ii 0) (ab_ii 0)) (M1 102 8) (ab_ii 0) t 0) (M1 102 8) (ab_ii 0) (K 102 8) 1 103 (M1 102 8).toInt.toNat = ab_ii 1 := by rw [m_adds_kd, m_adds_kd]; exact q2
    have hAw : m_adds (m_adds (m_begins (m_mk M1) (ab_ii 1) (ab_ii 0) (ab_ii 0)) (M1 102 8) (ab_ii 0) t 0) (M1 102 8) (ab_ii 0) (K 102 8) 1 104 (M1 102 8).toInt.toNat = ab_ii 0 := by rw [m_adds_wo, m_adds_wo]; exact q3
    rw [eP]
    generalize m_adds (m_adds (m_begins (m_mk M1) (ab_ii 1) (ab_ii 0) (ab_ii 0)) (M1 102 8) (ab_ii 0) t 0) (M1 102 8) (ab_ii 0) (K 102 8) 1 = A at *
    have hh1 : A 107 t.toInt.toNat = K 107 t.toInt.toNat := (hfa.1.1 t.toInt.toNat (by omega)).2.2.2.2.trans (hfN.1.1 t.toInt.toNat (by omega)).2.2.2.2
    have hh2 : A 107 (K 102 8).toInt.toNat = M1 107 (K 102 8).toInt.toNat := (hfa.1.1 (K 102 8).toInt.toNat (by omega)).2.2.2.2
    have hin1 := n1.2.2.1.1
    have hmk := o_mkg (z' := z + 2 + 0 + 6 + 6) (r := k) (s := 2) (fq := c_two a (some (k + 1 + 1))) (kd := ab_ii 1) (wo := ab_ii 0) c1 n2 (Nat.le_refl _) ⟨⟨wd_mut_new h125, by omega⟩, ek⟩ (by omega) ⟨by omega, by omega, by omega⟩ (fun b e => by have := (hin1.in e).2.2; omega) (by rw [hAs]; rfl) hAd hAw (fun j hj => by
      by_cases ej : j = 0
      · subst ej
        exact ⟨a, by unfold c_two; rw [ab_up_ne _ _ (by omega), ab_up_self], by rw [hA0]; exact Or.inl ha, hAk 0 (by omega)⟩
      · have ej1 : j = 1 := by omega
        subst ej1
        exact ⟨k + 1 + 1, by unfold c_two; rw [ab_up_self], by rw [hA1]; exact Or.inr ⟨rfl, rfl⟩, hAk 1 (by omega)⟩) (o_highB (fun j hj => by
      by_cases ej : j = 0
      · subst ej
        rw [hA0, hh1]
        exact hh
      · have ej1 : j = 1 := by omega
        subst ej1
        rw [hA1, hh2, vn]
        omega)) (fun e => absurd e (by decide))
    have e : c_mkN (ab_ii 1) (ab_ii 0) k 2 (c_two a (some (k + 1 + 1))) a (c_I1 I, c_g4y g k a hw, k + 1 + 1 + 2, z + 2 + 0 + 6) = (k + 1 + 1 + 2, (c_I1 (c_I1 I), c_mkg (c_g4y g k a hw) (k + 1 + 1 + 2) (ab_ii 1) (ab_ii 0) k 2 (c_two a (some (k + 1 + 1))), k + 1 + 1 + 2 + 2, z + 2 + 0 + 6 + 6)) := by
      unfold c_mkN
      dsimp only
      rw [if_pos n1.2.2.2.1, if_pos hm2]
    rw [e]
    refine ⟨fun _ => ⟨_, _, hmk.2, hmk.1, fun _ _ q => Or.inl (Or.inl q), fun b t q => ?_, Or.inr ⟨rfl, rfl⟩⟩, fun q => absurd hmk.1.2.2.2.2.1 q⟩
    rcases q with (q | ⟨-, q⟩) | ⟨-, q⟩
    · exact Or.inl q
    · rw [q]
      exact Or.inr (Int.le_refl _)
    · rw [q]
      exact Or.inr (by omega)
  · rw [m_cani_f hc]
    dsimp only
    rw [m_cani_f m_nomk_can]
    refine ⟨fun e => ?_, fun _ => ?_⟩
    · change (m_nomk (m_nomk K) 102 36).toInt = 0 at e
      rw [m_nomk_36] at e
      exact absurd e (by decide)
    · unfold m_can at hc
      change 0 ≤ (K 102 8).toInt at b4
      split
      next hm =>
        have h1 := o_I1 (S := (I, g, k, z)) (S' := (c_I1 I, c_g4y g k a hw, k + 1 + 1 + 2, z + 2 + 0 + 6)) hm rfl
        rcases o_m1.be h1.1 h1.2 o_mkN.1 hns with e | e
        · exact Or.inl e
        · change (I 9 0).toInt + 1 ≤ _ at e
          exact Or.inr (by omega)
      next hm =>
        have h1 := o_I0 (S := (I, g, k, z)) (S' := (c_I0 I, c_g4n g k a, k + 1 + 1, z + 2 + 0)) hm rfl
        rcases o_m1.be h1.1 h1.2 o_mkN.1 hns with e | e
        · exact Or.inl e
        · change (I 9 0).toInt + 1 ≤ _ at e
          exact Or.inr (by omega)
end
end
section
/-! ===== OVER on both sides: what a focus becomes, whole (own text) ===== -/
section
variable {F0 F F1 : Nat → Int32 → Prop} {M0 M K : wd_I} {n0 : Int} {p q gv u : Nat} {T : Nat → Prop} {I : wd_I} {g : Nat → ab_C} {k z : Nat}
/-- a copy's parts and keys -/
theorem o_cp (h : o_in F0 M0 n0 p q gv u F T (I, g, k, z) K) (hT : m_T M0 n0) (h0 : 0 ≤ n0) {a s : Nat} {t : Int32} (ha : F0 a t) (hs : (M0 105 t.toInt.toNat).toInt = (s : Int)) : (∀ j, j < s → m_copyOf (m_mk K) t s 108 (12 * (K 102 8).toInt.toNat + j) = M0 108 (12 * t.toInt.toNat + j) ∧ m_copyOf (m_mk K) t s 108 (12 * t.toInt.toNat + j) = M0 108 (12 * t.toInt.toNat + j) ∧ m_copyOf (m_mk K) t s 109 (12 * (K 102 8).toInt.toNat + j) = M0 109 (12 * t.toInt.toNat + j) ∧ F0 (c_pt g a j) (M0 108 (12 * t.toInt.toNat + j)) ∧ c_ky g a j = M0 109 (12 * t.toInt.toNat + j)) ∧ m_fr (K 102 8).toInt K (m_copyOf (m_mk K) t s) ∧ (m_copyOf (m_mk K) t s 105 (K 102 8).toInt.toNat = M0 105 t.toInt.toNat ∧ m_copyOf (m_mk K) t s 103 (K 102 8).toInt.toNat = M0 103 t.toInt.toNat ∧ m_copyOf (m_mk K) t s 104 (K 102 8).toInt.toNat = M0 104 t.toInt.toNat) ∧ (c_sz g a = s ∧ s ≤ 12 ∧ t.toInt.toNat < (K 102 8).toInt.toNat) := by
  obtain ⟨⟨a1, a2, a3, a4⟩, ⟨b1, b2, b3⟩, -⟩ := id h
  obtain ⟨⟨hTa, ht0, ht1⟩, p0, p1, p2, p3, p4, p5⟩ := a2.1.1 a t ha
  have h12 := (a2.2 a t ha).1
  change c_sz g a ≤ 12 at h12
  change (c_sz g a : Int) = (M0 105 t.toInt.toNat).toInt at p4
  have hsz : c_sz g a = s := by omega
  have e8 := m_mk_8 (M := K)
  obtain ⟨k3, k4, k5, k6, k7, k8⟩ := b1.1.ra (q := t.toInt.toNat) (by omega)
  have hfr : m_fr (K 102 8).toInt K (m_copyOf (m_mk K) t s) := m_copyOf_fr (m_mk_fr m_fr.rf) (by rw [e8]; exact Int.le_refl _)
  have r5 := m_copyOf_sz (M := m_mk K) (t := t) (s := s)
  have r3 := m_copyOf_kd (M := m_mk K) (t := t) (s := s)
  have r4 := m_copyOf_wo (M := m_mk K) (t := t) (s := s)
  rw [e8] at r5 r3 r4
  rw [m_mk_row (by decide)] at r5 r3 r4
  refine ⟨fun j hj => ?_, hfr, ⟨r5.trans k5, r3.trans k3, r4.trans k4⟩, hsz, by omega, by omega⟩
  have v1 := m_copyOf_pt (M := m_mk K) (t := t) (s := s) ht0 (by rw [e8]; omega) (by omega) hj
  have v2 := m_copyOf_ky (M := m_mk K) (t := t) (s := s) ht0 (by rw [e8]; omega) (by omega) hj
  rw [e8, m_mk_row (by decide)] at v1 v2
  obtain ⟨k81, k82⟩ := k8 j (by omega)
  obtain ⟨p51, p52⟩ := p5 j (by show j < c_sz g a; omega)
  exact ⟨v1.trans k81, (hfr.1.2 _ (by omega)).1.trans k81, v2.trans k82, p52, p51⟩
theorem o_mkc (h : o_in F0 M0 n0 p q gv u F T (I, g, k, z) K) (hT : m_T M0 n0) (h0 : 0 ≤ n0) {a s : Nat} {t : Int32} (ha : F0 a t) (hs : (M0 105 t.toInt.toNat).toInt = (s : Int)) {how : Int} (hhow : (K 102 33).toInt = how) {fq : Nat → Option Nat} (hfq : o_rr F0 s (K 102 8).toInt.toNat fq (m_chl how s (K 102 8).toInt.toNat t.toInt.toNat (m_copyOf (m_mk K) t s) s)) : o_res F0 M0 n0 p q gv u F T (I, g, k, z) K (c_mkA a k (c_sz g a) fq (c_arr (I, g, k, z) fq (c_sz g a))) (m_cani K (m_changed (m_mk K) t s, K 102 8) (m_nomk K, t)) := by
  obtain ⟨c1, c2, ⟨c5, c3, c4⟩, c6, c7, c8⟩ := o_cp h hT h0 ha hs
  obtain ⟨⟨a1, a2, a3, a4⟩, ⟨b1, b2, b3⟩, ⟨d1, d2⟩, -⟩ := id h
  obtain ⟨⟨hTa, ht0, ht1⟩, p0, p1, -⟩ := a2.1.1 a t ha
  have e8 := m_mk_8 (M := K)
  have e33 : m_mk K 102 33 = K 102 33 := wd_up_ne _ _ (Or.inr (by decide))
  have eN : m_changed (m_mk K) t s = m_ends (m_chl how s (K 102 8).toInt.toNat t.toInt.toNat (m_copyOf (m_mk K) t s) s) (K 102 8) s := by unfold m_changed; rw [e33, hhow, e8]
  have hle : (K 102 8).toInt ≤ ((K 102 8).toInt.toNat : Int) := by omega
  have hfA : m_fr (K 102 8).toInt K (m_chl how s (K 102 8).toInt.toNat t.toInt.toNat (m_copyOf (m_mk K) t s) s) := m_chl_fr hle c2 s
  have er : ∀ x, x ≠ 108 → m_chl how s (K 102 8).toInt.toNat t.toInt.toNat (m_copyOf (m_mk K) t s) s x = m_copyOf (m_mk K) t s x := fun x hx => m_chl_row hx s
  rw [eN, c6]
  refine o_mka1 h0 h hTa c7 ⟨⟨?_, fun j hj => ?_⟩, hfA, ?_, ?_, ?_⟩ (fun j hj => ?_) (o_highB (fun j hj => ?_)) (by rw [p0, p1]; exact (a2.2 a t ha).2.2.2)
  · rw [er 102 (by decide), m_copyOf_8]
  · rw [er 102 (by decide)]
    unfold m_copyOf
    rw [m_cpl_row (by decide) (by decide), m_begins_n hj]
  · rw [er 105 (by decide), c5]; exact hs
  · rw [er 103 (by decide), c3]; exact p0.symm
  · rw [er 104 (by decide), c4]; exact p1.symm
  · obtain ⟨b, q1, q2⟩ := hfq j hj
    obtain ⟨-, -, v3, -, v5⟩ := c1 j hj
    exact ⟨b, q1, d2 _ _ q2, by rw [er 109 (by decide), v3]; exact v5.symm⟩
  · obtain ⟨b, q1, q2⟩ := hfq j hj
    have hx := (a2.1.1 b _ q2).1.2
    have hh := (a2.2 b _ q2).2
    generalize m_chl how s (K 102 8).toInt.toNat t.toInt.toNat (m_copyOf (m_mk K) t s) s 108 (12 * (K 102 8).toInt.toNat + j) = x at *
    rw [(hfA.1.1 x.toInt.toNat (by omega)).2.2.2.2, (b1.1.1 x.toInt.toNat (by omega)).2.2.2.2]
    omega
theorem o_bec (hcx : o_cx F0 M0 n0 gv) (h : o_in F0 M0 n0 p q gv u F T (I, g, k, z) M) {a s : Nat} {t : Int32} (ha : F0 a t) (hs : (M0 105 t.toInt.toNat).toInt = (s : Int)) : o_res F0 M0 n0 p q gv u F T (I, g, k, z) M (c_foc gv (I, g, k, z) a) (m_became M t s) := by
  obtain ⟨hop, hT0, h7⟩ := hcx
  obtain ⟨o1, o2, o3, o4, o5, o6⟩ := id hop
  obtain ⟨hb, hst⟩ := h.bump
  refine o_res.bump ?_ hst
  obtain ⟨⟨a1, a2, a3, a4⟩, ⟨b1, b2, b3⟩, ⟨d1, d2⟩, e1, e2, e3, e4, e5, e6⟩ := id h
  change I 10 2 = M0 102 33 at e5
  change (M0 102 33).toInt = 7 ∨ I 10 3 = M0 102 34 at e6
  change I 10 5 = M 102 35 at e3
  have h125 : 125 ≤ k := a1.2.1
  have e33 : M 102 33 = M0 102 33 := b1.2.2 33 (by decide) (by decide) (by decide) (by decide)
  have e34 : M 102 34 = M0 102 34 := b1.2.2 34 (by decide) (by decide) (by decide) (by decide)
  have hfr : m_fr n0 M0 (m_ov1 M) := hb.2.1.1
  have eK33 : m_ov1 M 102 33 = M0 102 33 := hfr.2.2 33 (by decide) (by decide) (by decide) (by decide)
  obtain ⟨⟨hTa, ht0, ht1⟩, p0, p1, p2, p3, p4, p5⟩ := a2.1.1 a t ha
  change c_i g a 0 = M0 103 t.toInt.toNat at p0
  change c_i g a 1 = M0 104 t.toInt.toNat at p1
  obtain ⟨k3, k4, k5, k6, k7, k8⟩ := hfr.1.ra (q := t.toInt.toNat) (by omega)
  have hFa : F a t := d2 a t ha
  have hht := a2.2 a t ha
  have hK7 : 0 ≤ (m_ov1 M 107 t.toInt.toNat).toInt ∧ (m_ov1 M 107 t.toInt.toNat).toInt ≤ 100 := by rw [k7]; omega
  obtain ⟨f9, f6, f2⟩ := c_fI_9 (I := I)
  obtain ⟨cp1, cp2, cp3, hsz, h12, htc⟩ := o_cp hb hT0 o2 ha hs
  have hn0 : n0 ≤ (((m_ov1 M 102 8).toInt.toNat : Nat) : Int) := by have := hb.2.1.2.2; omega
  have hsame := o_res.same hb hFa
  have i5 : (I 10 2).toInt = (M 102 33).toInt := by rw [e5, e33]
  have i2 : (c_fI I 10 2).toInt = (M 102 33).toInt := by rw [f2, e5, e33]
  have i0 : (c_i g a 0).toInt = (m_ov1 M 103 t.toInt.toNat).toInt := by rw [p0, k3]
  have ei : M0 102 33 = M 102 33 := e33.symm
  have e63 : ¬ (M 102 33).toInt = 7 → I 10 3 = M 102 34 := fun q => (e6.resolve_left (by rw [← e33]; exact q)).trans e34.symm
  have hK33 : (m_ov1 M 102 33).toInt = (M 102 33).toInt := by rw [eK33, e33]
  unfold m_became c_foc m_bec
  dsimp only
  by_cases h4 : (M 102 33).toInt < 4
  · rw [if_pos (show (I 10 2).toInt < 4 by omega), if_pos h4]
    by_cases hk0 : (m_ov1 M 103 t.toInt.toNat).toInt = 0
    · rw [if_pos (show (c_i g a 0).toInt = 0 by omega), if_pos hk0]
      have ev : c_fv I (c_i g a 1) = m_val (M 102 33).toInt (m_ov1 M 104 t.toInt.toNat) (M 102 34) (M 102 35) := by
        unfold c_fv m_val
        rw [e5, e63 (by omega), e3, p1, k4, ei]
      unfold m_numb
      rw [← ev]
      refine o_cani hb rfl (fun hc hm => ?_) ?_
      · have hm' : (I 9 0).toInt < 3000 := by rw [← f9]; exact hm
        rw [if_pos hm']
        obtain ⟨r1, r2⟩ := hb.arr (f := fun _ => none) (n := 0)
        obtain ⟨⟨n1, n2⟩, n3⟩ := o_num (z' := z + 6) (r := k) (v := c_fv I (c_i g a 1)) o2 r1 r2 hc (Nat.le_refl _) ⟨⟨wd_mut_new h125, Nat.lt_succ_self _⟩, ab_up_self _ _ _⟩
        refine ⟨fun _ => ⟨_, _, n2, n1, fun _ _ e => Or.inl e, fun b t e => ?_, Or.inr ⟨rfl, rfl⟩⟩, fun e => absurd n1.2.2.2.2.1 e⟩
        rcases e with e | ⟨-, e⟩
        · exact Or.inl e
        · rw [e]
          exact Or.inr (Int.le_refl _)
      · split
        next hm => exact (o_I1 (S := (c_fI I, g, k, z)) (by show (c_fI I 9 0).toInt < 3000; rw [f9]; exact hm) rfl).2
        next hm => exact (o_I0 (S := (c_fI I, g, k, z)) (by show ¬ (c_fI I 9 0).toInt < 3000; rw [f9]; exact hm) rfl).2
    · rw [if_neg (show ¬ (c_i g a 0).toInt = 0 by omega), if_neg hk0]
      exact hsame
  · rw [if_neg (show ¬ (I 10 2).toInt < 4 by omega), if_neg h4]
    by_cases hc7 : (M 102 33).toInt = 7
    · rw [if_pos hc7, if_neg (show ¬ (I 10 2).toInt = 4 by omega), if_neg (show ¬ (I 10 2).toInt = 5 by omega), if_neg (show ¬ (I 10 2).toInt = 6 by omega), if_pos (show (I 10 2).toInt = 7 by omega)]
      have hg := d2 _ _ (h7 (by rw [ei]; exact hc7))
      have := o_res.same hb hg
      rw [← hfr.2.1 110 (by decide), ← e34] at this
      exact this
    · rw [if_neg hc7]
      by_cases h40 : (M 102 33).toInt = 4
      · rw [if_pos (show (I 10 2).toInt = 4 by omega), if_pos h40]
        have := o_mkp (hw := M 102 34) o2 hb hFa hK7
        rw [f9] at this
        rw [e63 hc7]
        exact this
      · rw [if_neg (show ¬ (I 10 2).toInt = 4 by omega), if_neg h40]
        by_cases h5 : (M 102 33).toInt = 5
        · rw [if_pos (show (I 10 2).toInt = 5 by omega), if_pos (show m_isch (M 102 33).toInt (m_ov1 M 103 t.toInt.toNat).toInt by unfold m_isch; omega), if_pos h5, e63 hc7]
          exact o_mkr o2 hb (by decide) hFa hK7
        · rw [if_neg (show ¬ (I 10 2).toInt = 5 by omega)]
          by_cases h6 : (M 102 33).toInt = 6
          · rw [if_pos (show (I 10 2).toInt = 6 by omega), if_pos (show m_isch (M 102 33).toInt (m_ov1 M 103 t.toInt.toNat).toInt by unfold m_isch; omega), if_neg h5, if_pos h6]
            exact o_mkr o2 hb (by decide) hFa hK7
          · rw [if_neg (show ¬ (I 10 2).toInt = 6 by omega), if_neg (show ¬ (I 10 2).toInt = 7 by omega), if_neg h5, if_neg h6]
            unfold c_ordr
            dsimp only
            by_cases hx : ((c_fI I 10 2).toInt = 8 ∧ (c_i g a 0).toInt = 1) ∨ ((c_fI I 10 2).toInt = 9 ∧ (c_i g a 0).toInt = 2)
            · rw [if_pos hx, if_pos (show m_isch (M 102 33).toInt (m_ov1 M 103 t.toInt.toNat).toInt by unfold m_isch; omega)]
              refine o_mkc hb hT0 o2 ha hs (how := (M 102 33).toInt) hK33 (fun j hj => ⟨c_pt g a (s - 1 - j), ?_, ?_⟩)
              · unfold c_row c_rev
                rw [hsz, if_pos hj]
              · rw [o_rv (by omega) htc h12 s (Nat.le_refl _) j hj, if_pos (by omega), (cp1 (s - 1 - j) (by omega)).2.1]
                exact (cp1 (s - 1 - j) (by omega)).2.2.2.1
            · rw [if_neg hx]
              by_cases hx2 : (c_fI I 10 2).toInt = 10 ∧ (c_i g a 0).toInt = 2
              · rw [if_pos hx2, if_pos (show m_isch (M 102 33).toInt (m_ov1 M 103 t.toInt.toNat).toInt by unfold m_isch; omega)]
                refine o_mkc hb hT0 o2 ha hs (how := (M 102 33).toInt) hK33 ?_
                unfold c_sor
                rw [hsz]
                have hr0 : o_rr F0 s (m_ov1 M 102 8).toInt.toNat (c_row (c_ptr g a) s) (m_copyOf (m_mk (m_ov1 M)) t s) := fun j hj => by
                  obtain ⟨v1, -, -, v4, -⟩ := cp1 j hj
                  refine ⟨c_pt g a j, ?_, by rw [v1]; exact v4⟩
                  unfold c_row c_ptr
                  rw [if_pos hj]
                by_cases hs0 : s = 0
                · intro j hj
                  omega
                · have := (o_sort (f := c_row (c_ptr g a) s) (T := T) a2.1 hT0 hn0 (how := (M 102 33).toInt) (by omega) htc h12 (hfr.tr cp2 hb.2.1.2.2) hr0 (fun j hj => by rw [(cp1 j hj).1, (cp1 j hj).2.1]) (s - 1) (by omega)).1
                  rw [show s - 1 + 1 = s by omega] at this
                  exact this
              · rw [if_neg hx2]
                by_cases hx3 : (c_fI I 10 2).toInt = 11 ∧ (c_i g a 0).toInt = 3
                · rw [if_pos hx3, if_pos (show m_isch (M 102 33).toInt (m_ov1 M 103 t.toInt.toNat).toInt by unfold m_isch; omega)]
                  refine o_mkc hb hT0 o2 ha hs (how := (M 102 33).toInt) hK33 (fun j hj => ⟨c_pt g a (if j = 0 then s - 1 else j - 1), ?_, ?_⟩)
                  · unfold c_row c_trn
                    rw [hsz, if_pos hj]
                  · rw [o_tn (by omega) htc h12 s (Nat.le_refl _) j hj]
                    by_cases ej : j = 0
                    · rw [if_pos ej, if_pos rfl, if_pos ej, (cp1 (s - 1) (by omega)).2.1]
                      exact (cp1 (s - 1) (by omega)).2.2.2.1
                    · rw [if_neg ej, if_neg ej, if_pos (show j ≤ s by omega), (cp1 (j - 1) (by omega)).2.1]
                      exact (cp1 (j - 1) (by omega)).2.2.2.1
                · rw [if_neg hx3, if_neg (show ¬ m_isch (M 102 33).toInt (m_ov1 M 103 t.toInt.toNat).toInt by unfold m_isch; omega)]
                  exact hsame
end
end
section
/-! ===== OVER on both sides: over all that is in a thing (own text) ===== -/
theorem o_part {M0 N : wd_I} {n0 : Int} {q t i j : Nat} (h : m_fr n0 M0 N) (ht : (t : Int) < n0) (hj : j < 12) : m_part N q t i j ↔ m_part M0 q t i j := by
  have r := h.1.ra ht
  unfold m_part
  rw [h.2.1 113 (by decide), h.2.1 114 (by decide), r.1, r.2.1, (r.2.2.2.2.2 j hj).2]
theorem o_self {M0 N : wd_I} {n0 : Int} {q t i : Nat} (h : m_fr n0 M0 N) (ht : (t : Int) < n0) : m_self N q t i ↔ m_self M0 q t i := by
  have r := h.1.ra ht
  unfold m_self
  rw [h.2.1 113 (by decide), h.2.1 114 (by decide), r.1, r.2.1, r.2.2.2.1]
theorem o_nxt {M0 N : wd_I} {n0 : Int} {q i : Nat} (h : m_fr n0 M0 N) : m_nxt N q i = m_nxt M0 q i := by
  unfold m_nxt
  rw [h.2.1 113 (by decide)]
theorem o_op {M0 N : wd_I} {n0 : Int} (h : m_op n0 M0) (hf : m_fr n0 M0 N) (hr : m_rm N) (h8 : n0 ≤ (N 102 8).toInt) : m_op n0 N := by
  obtain ⟨a1, a2, a3, a4, a5, a6⟩ := h
  refine ⟨m_cl_sb hf.1 a1, a2, h8, hr, ?_, ?_⟩
  · rw [hf.2.2 33 (by decide) (by decide) (by decide) (by decide)]; exact a5
  · rw [hf.2.2 33 (by decide) (by decide) (by decide) (by decide), hf.2.2 34 (by decide) (by decide) (by decide) (by decide), hf.2.1 110 (by decide)]; exact a6
theorem o_ovs_eq {G : wd_I → Int32 → wd_I × Int32} {p i s j : Nat} {t y : Int32} {r : wd_I × Int32} (he : m_part r.1 p t.toInt.toNat i j) (hy : r.1 108 (12 * t.toInt.toNat + j) = y) : m_ovs G p i s t j r = if (G r.1 y).2.toInt = y.toInt then ((G r.1 y).1, r.2) else if r.2.toInt = -1 then m_cani (G r.1 y).1 (wd_up (m_copyOf (m_mk (G r.1 y).1) t s) 108 (12 * ((G r.1 y).1 102 8).toInt.toNat + j) (G r.1 y).2, (G r.1 y).1 102 8) (m_nomk (G r.1 y).1, r.2) else (wd_up (G r.1 y).1 108 (12 * r.2.toInt.toNat + j) (G r.1 y).2, r.2) := by
  subst hy
  unfold m_ovs
  rw [if_pos he]
theorem o_fin36 {s : Nat} {t : Int32} {r : wd_I × Int32} : (m_fin s t r).1 102 = r.1 102 := by
  unfold m_fin
  split
  · rfl
  · show m_ends r.1 r.2 s 102 = _
    rw [m_ends_row (by decide) (by decide)]
/-- a row of the reference that is not ended yet; its parts in the class -/
def o_pd (M0 : wd_I) (k0 : Nat) (n1 : Int) (t : Int32) (s : Nat) (F : Nat → Int32 → Prop) (T : Nat → Prop) (S : c_St) (N : wd_I) (an : Int32) (r : Nat) (fq : Nat → Option Nat) : Prop :=
  (n1 ≤ an.toInt ∧ 0 ≤ an.toInt ∧ an.toInt < (N 102 8).toInt) ∧ (∀ b, ¬ F b an) ∧ (k0 ≤ r ∧ wd_mut r = false ∧ r < S.2.2.1) ∧ S.2.1 r = ab_ra 4 s fq ∧ c_nq T S.2.1 r ∧ (N 103 an.toInt.toNat = M0 103 t.toInt.toNat ∧ N 104 an.toInt.toNat = M0 104 t.toInt.toNat ∧ (N 105 an.toInt.toNat).toInt = (s : Int)) ∧ ∀ j, j < s → ∃ b, fq j = some b ∧ F b (N 108 (12 * an.toInt.toNat + j)) ∧ N 109 (12 * an.toInt.toNat + j) = M0 109 (12 * t.toInt.toNat + j)
section
variable {F0 F F1 Fs : Nat → Int32 → Prop} {M0 M Ms N N1 : wd_I} {n0 n1 : Int} {p q gv u u' s i k0 : Nat} {T T1 Ts : Nat → Prop} {S S1 Ss : c_St} {t an : Int32}
theorem o_pd.mv {r : Nat} {fq : Nat → Option Nat} (h : o_pd M0 k0 n1 t s F T S N an r fq) (h12 : s ≤ 12) (hst : c_st T S T1 S1) (hfr : m_fr (N 102 8).toInt N N1) (h8 : (N 102 8).toInt ≤ (N1 102 8).toInt) (hF : ∀ b t, F b t → F1 b t) (hF1 : ∀ b t, F1 b t → F b t ∨ (N 102 8).toInt ≤ t.toInt) : o_pd M0 k0 n1 t s F1 T1 S1 N1 an r fq := by
  obtain ⟨⟨a1, a2, a3⟩, b, ⟨c1, c2, c3⟩, d, e, ⟨f1, f2, f3⟩, g⟩ := h
  have hk := hst.kk
  obtain ⟨r3, r4, r5, r6, r7, r8⟩ := hfr.1.ra (q := an.toInt.toNat) (by omega)
  refine ⟨⟨a1, a2, by omega⟩, fun x hx => ?_, ⟨c1, c2, by omega⟩, (hst.ofr r c3 c2).trans d, hst.nq r c3 e, ⟨r3.trans f1, r4.trans f2, by rw [r5]; exact f3⟩, fun j hj => ?_⟩
  · rcases hF1 x an hx with q | q
    · exact b x q
    · omega
  · obtain ⟨x, x1, x2, x3⟩ := g j hj
    obtain ⟨r81, r82⟩ := r8 j (by omega)
    exact ⟨x, x1, by rw [r81]; exact hF _ _ x2, by rw [r82]; exact x3⟩
/-- a part of a row put, on both sides -/
theorem o_in.upd {I : wd_I} {g : Nat → ab_C} {k z : Nat} (h : o_in F0 M0 n0 p q gv u' F T (I, g, k, z) N) (hs0 : o_in F0 M0 n0 p q gv u Fs Ts Ss Ms) (hst : c_st Ts Ss T (I, g, k, z)) (h0 : 0 ≤ n0) {r : Nat} {c : ab_C} (hr : Ss.2.2.1 ≤ r) (hn : c_nq T g r) (han : n0 ≤ an.toInt) (hnt : ∀ b, ¬ F b an) {j : Nat} {x : Int32} (hj : j < 12) : o_in F0 M0 n0 p q gv u' F T (I, ab_up g r c, k, z) (wd_up N 108 (12 * an.toInt.toNat + j) x) := by
  obtain ⟨⟨⟨w1, w2, w3, w4⟩, a2, a3, a4⟩, ⟨b1, b2, b3⟩, ⟨d1, d2⟩, e1, e2, e3, e4, e5, e6⟩ := id h
  obtain ⟨⟨-, -, x3, x4⟩, -⟩ := hs0
  have hrow := c_st.row (c := c) hst hr hn
  obtain ⟨p1, p2, p3, p4⟩ := p_wf_xt x3 hrow.ofr hrow.kk
  have er : wd_up N 108 (12 * an.toInt.toNat + j) x 102 = N 102 := wd_up_row _ _ _ (by decide)
  have hsm : ∀ a, T a → h_sm g (ab_up g r c) a := fun a ha => h_sm_wf (c_wf_nq w1 ha hn)
  have hra : ∀ b u, F b u → m_ra N (wd_up N 108 (12 * an.toInt.toNat + j) x) u.toInt.toNat := fun b v hb => by
    have hv := d1.in hb
    have hne : v.toInt ≠ an.toInt := fun e => by
      have e2 : v = an := Int32.toInt_inj.mp e
      rw [e2] at hb
      exact hnt b hb
    exact ⟨by rw [wd_up_row _ _ _ (by decide)], by rw [wd_up_row _ _ _ (by decide)], by rw [wd_up_row _ _ _ (by decide)], by rw [wd_up_row _ _ _ (by decide)], by rw [wd_up_row _ _ _ (by decide)], fun j' hj' => ⟨wd_up_ne _ _ (Or.inr (by omega)), by rw [wd_up_row _ _ _ (by decide)]⟩⟩
  refine ⟨⟨⟨hrow.wf, w2, w3, w4⟩, a2.mv (fun _ e => e) hsm (fun _ _ _ => m_ra.rf) (Int.le_refl _), p1, o_pt x4 p2 p3 p4⟩, ⟨m_fr_up b1 (by unfold m_wr; omega), ?_, by rw [er]; exact b3⟩, ⟨d1.mv (fun _ e => e) hsm hra (by rw [er]; exact Int.le_refl _), d2⟩, e1, by rw [er]; exact e2, by rw [er]; exact e3, by rw [er]; exact e4, e5, e6⟩
  unfold m_rm
  rw [er]
  exact b2
/-- where the loop stands -/
def o_lp (F0 : Nat → Int32 → Prop) (M0 : wd_I) (n0 : Int) (p q gv u : Nat) (Fs : Nat → Int32 → Prop) (Ts : Nat → Prop) (Ss : c_St) (n1 : Int) (t : Int32) (s : Nat) (F : Nat → Int32 → Prop) (T : Nat → Prop) (S : c_St) (N : wd_I) (an : Int32) (o : Option (Nat × (Nat → Option Nat))) : Prop :=
  c_st Ts Ss T S ∧ ((∀ b t, Fs b t → F b t) ∧ ∀ b t, F b t → Fs b t ∨ n1 ≤ t.toInt) ∧ n1 ≤ (N 102 8).toInt ∧ ((o = none ∧ an.toInt = -1 ∧ o_in F0 M0 n0 p q gv u F T S N) ∨ ∃ r fq, o = some (r, fq) ∧ o_in F0 M0 n0 p q gv (u + 1) F T S N ∧ o_pd M0 Ss.2.2.1 n1 t s F T S N an r fq)
/-- behind a part that is another thing, or the same -/
theorem o_lp.go {o : Option (Nat × (Nat → Option Nat))} (h12 : s ≤ 12) (h : o_lp F0 M0 n0 p q gv u Fs Ts Ss n1 t s F T S N an o) (hst : c_st T S T1 S1) (hfr : m_fr (N 102 8).toInt N N1) (h8 : (N 102 8).toInt ≤ (N1 102 8).toInt) (hF : ∀ b t, F b t → F1 b t) (hF1 : ∀ b t, F1 b t → F b t ∨ (N 102 8).toInt ≤ t.toInt) (hin : o_in F0 M0 n0 p q gv (if o = none then u else u + 1) F1 T1 S1 N1) : o_lp F0 M0 n0 p q gv u Fs Ts Ss n1 t s F1 T1 S1 N1 an o := by
  obtain ⟨a, ⟨b1, b2⟩, c, d⟩ := h
  refine ⟨a.tr hst, ⟨fun b t e => hF b t (b1 b t e), fun b t e => ?_⟩, by omega, ?_⟩
  · rcases hF1 b t e with e | e
    · exact b2 b t e
    · exact Or.inr (by omega)
  · rcases d with ⟨d1, d2, d3⟩ | ⟨r, fq, d1, d2, d3⟩
    · subst d1
      rw [if_pos rfl] at hin
      exact Or.inl ⟨rfl, d2, hin⟩
    · subst d1
      rw [if_neg (by simp)] at hin
      exact Or.inr ⟨r, fq, rfl, hin, d3.mv h12 hst hfr h8 hF hF1⟩
end
section
variable {F0 Fs : Nat → Int32 → Prop} {M0 Ms : wd_I} {n0 : Int} {p q gv u s i a : Nat} {Ts : Nat → Prop} {Ss : c_St} {t : Int32} {Fc : Nat → c_St → Nat × c_St} {G : wd_I → Int32 → wd_I × Int32}
theorem o_loop (hop : m_op n0 M0) (hTt : m_T M0 n0) (hs0 : o_in F0 M0 n0 p q gv u Fs Ts Ss Ms) (ha : F0 a t) (hsz : (M0 105 t.toInt.toNat).toInt = (s : Int)) (hi : (i : Int) < (M0 115 q).toInt)
    (hG : ∀ u' F' T' S' M' j, o_in F0 M0 n0 p q gv u' F' T' S' M' → j < s → o_res F0 M0 n0 p q gv u' F' T' S' M' (Fc (c_pt S'.2.1 a j) S') (G M' (M0 108 (12 * t.toInt.toNat + j))))
    (hGq : m_Gq n0 G) (hFm : ∀ b S, o_mo S (Fc b S).2) : ∀ (n j : Nat) (o : Option (Nat × (Nat → Option Nat))) (F : Nat → Int32 → Prop) (T : Nat → Prop) (S : c_St) (N : wd_I) (an : Int32), j + n = s → o_lp F0 M0 n0 p q gv u Fs Ts Ss (Ms 102 8).toInt t s F T S N an o → (((m_fin s t (m_ovl G q i s t n j (N, an))).1 102 36).toInt = 0 → ((m_fin s t (m_ovl G q i s t n j (N, an))).1 107 (m_fin s t (m_ovl G q i s t n j (N, an))).2.toInt.toNat).toInt ≤ 1000) → o_res F0 M0 n0 p q gv u Fs Ts Ss Ms (c_chl Fc p i a n j o S) (m_fin s t (m_ovl G q i s t n j (N, an)))
  | 0, j, o, F, T, S, N, an, hj, hlp, hB => by
    have hn1 : 0 ≤ (Ms 102 8).toInt := hs0.2.1.2.1.1
    have hle := hs0.2.1.2.2
    obtain ⟨c1, ⟨c2, c3⟩, c4, c5⟩ := hlp
    rcases c5 with ⟨rfl, d2, d3⟩ | ⟨r, fq, rfl, d2, d3⟩
    · have e : m_fin s t (m_ovl G q i s t 0 j (N, an)) = (N, t) := by
        show m_fin s t (N, an) = (N, t)
        unfold m_fin
        rw [if_pos d2]
      rw [e]
      exact ⟨fun _ => ⟨F, T, c1, d3, c2, c3, d3.2.2.1.2 a t ha⟩, fun q => absurd d3.2.2.2.2.1 q⟩
    · obtain ⟨I, g, k, z⟩ := S
      obtain ⟨⟨a1, a2, a3⟩, b, ⟨r1, r2, r3⟩, d, e, ⟨f1, f2, f3⟩, g5⟩ := d3
      obtain ⟨⟨hTa, ht0, ht1⟩, p0, p1, p2, p3, p4, p5⟩ := d2.1.2.1.1.1 a t ha
      have h12 := (d2.1.2.1.2 a t ha).1
      change c_sz g a ≤ 12 at h12
      change (c_sz g a : Int) = (M0 105 t.toInt.toNat).toInt at p4
      have es : c_sz g a = s := by omega
      have eR : m_fin s t (m_ovl G q i s t 0 j (N, an)) = (m_ends N an s, an) := by
        show m_fin s t (N, an) = _
        unfold m_fin
        rw [if_neg (show ¬ an.toInt = -1 by omega)]
      rw [eR] at hB ⊢
      have e36 : (m_ends N an s 102 36).toInt = 0 := by rw [m_ends_row (by decide) (by decide)]; exact d2.2.2.2.2.1
      have hmk := o_mka (z' := z + 6) (r := r) (a := a) d2 c1 hTa r1 ⟨⟨r2, r3⟩, d⟩ (by omega) ⟨by omega, a2, a3⟩ b f3 (f1.trans p0.symm) (f2.trans p1.symm) (fun j hj => by
        obtain ⟨x, x1, x2, x3⟩ := g5 j hj
        exact ⟨x, x1, x2, x3.trans (p5 j (by show j < c_sz g a; omega)).1.symm⟩) (hB e36) (by rw [p0, p1]; exact (d2.1.2.1.2 a t ha).2.2.2)
      have hm : (I 9 0).toInt < 3000 := by
        have q1 := d2.2.2.2.2.2.2.1
        have q2 := d2.2.1.2.1.2.2
        change (I 9 0).toInt + ((u + 1 : Nat) : Int) = _ at q1
        omega
      have eC : c_chl Fc p i a 0 j (some (r, fq)) (I, g, k, z) = (k, (c_I1 I, c_mka g k a r s fq, k + 1, z + 6)) := by
        show c_mkA a r (c_sz g a) fq (I, g, k, z) = _
        unfold c_mkA
        dsimp only
        rw [if_pos (show (I 10 6).toInt = 0 from d2.2.2.2.1), if_pos hm, es]
      rw [eC]
      refine ⟨fun _ => ⟨_, _, hmk.2, hmk.1, fun b t e => Or.inl (c2 b t e), fun b t e => ?_, Or.inr ⟨rfl, rfl⟩⟩, fun e => absurd e36 e⟩
      rcases e with e | ⟨-, e⟩
      · exact c3 b t e
      · rw [e]
        exact Or.inr a1
  | n + 1, j, o, F, T, S, N, an, hj, hlp, hB => by
    have hn1 : 0 ≤ (Ms 102 8).toInt := hs0.2.1.2.1.1
    have hle := hs0.2.1.2.2
    obtain ⟨c1, ⟨c2, c3⟩, c4, c5⟩ := id hlp
    obtain ⟨u', hu', hin⟩ : ∃ u', u' = (if o = none then u else u + 1) ∧ o_in F0 M0 n0 p q gv u' F T S N := by
      rcases c5 with ⟨rfl, d2, d3⟩ | ⟨r, fq, rfl, d2, d3⟩
      · exact ⟨u, by rw [if_pos rfl], d3⟩
      · exact ⟨u + 1, by rw [if_neg (by simp)], d2⟩
    obtain ⟨⟨w1, h0k, hpw, hpt⟩, ⟨b1, b2, b3⟩, ⟨d1, d2⟩, e1, e2, e3, e4, e5, e6⟩ := id hin
    obtain ⟨⟨hTa, ht0, ht1⟩, pr⟩ := h0k.1.1 a t ha
    obtain ⟨p0, p1, p2, p3, p4, p5⟩ := id pr
    have h12 := (h0k.2 a t ha).1
    have es : c_sz S.2.1 a = s := by omega
    have hjs : j < c_sz S.2.1 a := by omega
    obtain ⟨hky, hFj⟩ := p5 j hjs
    have hin2 : i < p_n S.2.1 p := by have := hpt.1; omega
    have hent : p_ent S.2.1 p i a j ↔ m_part N q t.toInt.toNat i j := (h_ent hpt hin2 pr hjs).trans (o_part b1 (by omega) (by omega)).symm
    have e108 : N 108 (12 * t.toInt.toNat + j) = M0 108 (12 * t.toInt.toNat + j) := (b1.1.2 _ (by omega)).1
    have eL : ∀ r, m_ovl G q i s t (n + 1) j r = m_ovl G q i s t n (j + 1) (m_ovs G q i s t j r) := fun _ => rfl
    rw [eL] at hB ⊢
    by_cases he : m_part N q t.toInt.toNat i j
    · have eS : m_ovs G q i s t j (N, an) = if (G N (M0 108 (12 * t.toInt.toNat + j))).2.toInt = (M0 108 (12 * t.toInt.toNat + j)).toInt then ((G N (M0 108 (12 * t.toInt.toNat + j))).1, an) else if an.toInt = -1 then m_cani (G N (M0 108 (12 * t.toInt.toNat + j))).1 (wd_up (m_copyOf (m_mk (G N (M0 108 (12 * t.toInt.toNat + j))).1) t s) 108 (12 * ((G N (M0 108 (12 * t.toInt.toNat + j))).1 102 8).toInt.toNat + j) (G N (M0 108 (12 * t.toInt.toNat + j))).2, (G N (M0 108 (12 * t.toInt.toNat + j))).1 102 8) (m_nomk (G N (M0 108 (12 * t.toInt.toNat + j))).1, an) else (wd_up (G N (M0 108 (12 * t.toInt.toNat + j))).1 108 (12 * an.toInt.toNat + j) (G N (M0 108 (12 * t.toInt.toNat + j))).2, an) := o_ovs_eq (r := (N, an)) he e108
      have hR := hG u' F T S N j hin (by omega)
      have hxb := (h0k.1.1 _ _ hFj).1.2
      have hgood := hGq.2.1 N (M0 108 (12 * t.toInt.toNat + j)) (o_op hop b1 b2 b3) hxb.1 hxb.2
      have hmoR := hFm (c_pt S.2.1 a j) S hin.ns
      have eC : c_chl Fc p i a (n + 1) j o S = match o with
        | none => if (Fc (c_pt S.2.1 a j) S).1 = c_pt S.2.1 a j then c_chl Fc p i a n (j + 1) none (Fc (c_pt S.2.1 a j) S).2 else c_chl Fc p i a n (j + 1) (some ((Fc (c_pt S.2.1 a j) S).2.2.2.1, ab_up (c_row (c_ptr (Fc (c_pt S.2.1 a j) S).2.2.1 a) (c_sz (Fc (c_pt S.2.1 a j) S).2.2.1 a)) j (some (Fc (c_pt S.2.1 a j) S).1))) (c_arr (Fc (c_pt S.2.1 a j) S).2 (ab_up (c_row (c_ptr (Fc (c_pt S.2.1 a j) S).2.2.1 a) (c_sz (Fc (c_pt S.2.1 a j) S).2.2.1 a)) j (some (Fc (c_pt S.2.1 a j) S).1)) (c_sz (Fc (c_pt S.2.1 a j) S).2.2.1 a))
        | some (r, fq) => if (Fc (c_pt S.2.1 a j) S).1 = c_pt S.2.1 a j then c_chl Fc p i a n (j + 1) (some (r, fq)) (Fc (c_pt S.2.1 a j) S).2 else c_chl Fc p i a n (j + 1) (some (r, ab_up fq j (some (Fc (c_pt S.2.1 a j) S).1))) ((Fc (c_pt S.2.1 a j) S).2.1, ab_up (Fc (c_pt S.2.1 a j) S).2.2.1 r (ab_ra 4 (c_sz (Fc (c_pt S.2.1 a j) S).2.2.1 a) (ab_up fq j (some (Fc (c_pt S.2.1 a j) S).1))), (Fc (c_pt S.2.1 a j) S).2.2.2) := by
        cases o with
        | none =>
          show c_chl Fc p i a (n + 1) j none S = _
          conv => lhs; unfold c_chl
          rw [if_pos (hent.mpr he)]
        | some v =>
          obtain ⟨r, fq⟩ := v
          show c_chl Fc p i a (n + 1) j (some (r, fq)) S = _
          conv => lhs; unfold c_chl
          rw [if_pos (hent.mpr he)]
      rw [eS] at hB ⊢
      rw [eC]
      clear eS eC
      generalize Fc (c_pt S.2.1 a j) S = R at *
      generalize G N (M0 108 (12 * t.toInt.toNat + j)) = X at *
      obtain ⟨ca, I1, g1, k1, z1⟩ := R
      obtain ⟨N1, x⟩ := X
      dsimp only at *
      obtain ⟨gf, gr, g8, gx0, gx1⟩ := hgood
      change m_fr (N 102 8).toInt N N1 at gf
      change (N 102 8).toInt ≤ (N1 102 8).toInt at g8
      -- what the class counts from here on
      have hmono : ∀ (m j' : Nat) (o' : Option (Nat × (Nat → Option Nat))) (S' : c_St), S'.1 = I1 → o_mo (I1, g1, k1, z1) (c_chl Fc p i a m j' o' S').2 ∧ (¬ o' = none → o_m1 (I1, g1, k1, z1) (c_chl Fc p i a m j' o' S').2) := fun m j' o' S' e => by
        have h1 := o_chl (F := Fc) (p := p) (i := i) (a := a) hFm m j' o' S'
        have h2 : o_mo (I1, g1, k1, z1) S' := o_eq (by rw [e]) (by rw [e])
        exact ⟨h2.tr h1.1, fun e => o_m1.of h2 (h1.2 e)⟩
      have hcls : ∀ C : Nat × c_St, C = (match o with
        | none => if ca = c_pt S.2.1 a j then c_chl Fc p i a n (j + 1) none (I1, g1, k1, z1) else c_chl Fc p i a n (j + 1) (some (k1, ab_up (c_row (c_ptr g1 a) (c_sz g1 a)) j (some ca))) (c_arr (I1, g1, k1, z1) (ab_up (c_row (c_ptr g1 a) (c_sz g1 a)) j (some ca)) (c_sz g1 a))
        | some (r, fq) => if ca = c_pt S.2.1 a j then c_chl Fc p i a n (j + 1) (some (r, fq)) (I1, g1, k1, z1) else c_chl Fc p i a n (j + 1) (some (r, ab_up fq j (some ca))) (I1, ab_up g1 r (ab_ra 4 (c_sz g1 a) (ab_up fq j (some ca))), k1, z1)) → o_mo (I1, g1, k1, z1) C.2 ∧ (¬ o = none → o_m1 (I1, g1, k1, z1) C.2) := fun C e => by
        rw [e]
        cases o with
        | none =>
          dsimp only
          split
          · exact ⟨(hmono _ _ _ _ rfl).1, fun q => absurd rfl q⟩
          · exact ⟨(hmono _ _ _ _ rfl).1, fun q => absurd rfl q⟩
        | some v =>
          obtain ⟨r, fq⟩ := v
          dsimp only
          split
          · exact ⟨(hmono _ _ _ _ rfl).1, fun _ => (hmono _ _ _ _ rfl).2 (by simp)⟩
          · exact ⟨(hmono _ _ _ _ rfl).1, fun _ => (hmono _ _ _ _ rfl).2 (by simp)⟩
      by_cases hsp : (N1 102 36).toInt = 0
      · obtain ⟨F1, T1, q1, q2, q3, q4, q5⟩ := hR.1 hsp
        dsimp only at q1 q2 q5
        have hbj := q3 _ _ (d2 _ _ hFj)
        have heq : ca = c_pt S.2.1 a j ↔ x.toInt = (M0 108 (12 * t.toInt.toNat + j)).toInt := q2.2.2.1.1.1.eq q5 hbj
        have hlp1 := hlp.go (by omega) q1 gf g8 q3 q4 (by rw [← hu']; exact q2)
        by_cases ee : x.toInt = (M0 108 (12 * t.toInt.toNat + j)).toInt
        · rw [if_pos ee] at hB ⊢
          have := o_loop hop hTt hs0 ha hsz hi hG hGq hFm n (j + 1) o F1 T1 (I1, g1, k1, z1) N1 an (by omega) hlp1 hB
          cases o with
          | none =>
            dsimp only
            rw [if_pos (heq.mpr ee)]
            exact this
          | some v =>
            obtain ⟨r, fq⟩ := v
            dsimp only
            rw [if_pos (heq.mpr ee)]
            exact this
        · rw [if_neg ee] at hB ⊢
          obtain ⟨x1, ⟨x2, x3⟩, x4, x5⟩ := id hlp1
          have hW1 : c_W T1 g1 k1 := q2.1.1.1
          obtain ⟨s1, s2, s3, s4⟩ := h_sm_wf (c_wf_xt (w1.1 a hTa) q1.ofr q1.kk)
          change c_sz g1 a = c_sz S.2.1 a at s1
          change ∀ j, c_pt g1 a j = c_pt S.2.1 a j at s2
          have es1 : c_sz g1 a = s := by omega
          rcases x5 with ⟨rfl, y2, y3⟩ | ⟨r, fq, rfl, y2, y3⟩
          · rw [if_pos y2] at hB ⊢
            dsimp only
            rw [if_neg (fun e => ee (heq.mp e))]
            by_cases hcan : m_can N1
            · rw [m_cani_t hcan] at hB ⊢
              have z8 := m_mk_8 (M := N1)
              have hfc : m_fr (N1 102 8).toInt N1 (m_copyOf (m_mk N1) t s) := m_copyOf_fr (m_mk_fr m_fr.rf) (by rw [z8]; exact Int.le_refl _)
              have hfc2 : m_fr (N1 102 8).toInt N1 (wd_up (m_copyOf (m_mk N1) t s) 108 (12 * (N1 102 8).toInt.toNat + j) x) := m_fr_up hfc (by unfold m_wr; omega)
              obtain ⟨i1, i2, i3⟩ := y3.beg hop.2.1 hcan o_cp_s1 hfc2
              obtain ⟨i4, i5⟩ := i1.arr (f := ab_up (c_row (c_ptr g1 a) (c_sz g1 a)) j (some ca)) (n := c_sz g1 a)
              obtain ⟨cp1, -, ⟨cp5, cp3, cp4⟩, -⟩ := o_cp y3 hTt hop.2.1 ha hsz
              have hle1 := y3.2.1.2.2
              have hfrq := c_nq_fr (q := k1) hW1 (Nat.le_refl _)
              have hk1 : Ss.2.2.1 ≤ k1 := x1.kk
              refine o_loop hop hTt hs0 ha hsz hi hG hGq hFm n (j + 1) _ F1 T1 _ _ _ (by omega) ⟨x1.tr i5, ⟨x2, x3⟩, by omega, Or.inr ⟨_, _, rfl, i4, ⟨⟨x4, by omega, by omega⟩, fun b e => by have := (y3.2.2.1.1.in e).2.2; omega, ⟨hk1, wd_mut_new y3.1.1.2.1, Nat.lt_succ_self _⟩, ?_, c_nq_up hW1 hfrq hfrq, ⟨?_, ?_, ?_⟩, fun j' hj' => ?_⟩⟩⟩ hB
              · show ab_up g1 k1 _ k1 = _
                rw [ab_up_self, es1]
              · rw [wd_up_row _ _ _ (by decide)]; exact cp3
              · rw [wd_up_row _ _ _ (by decide)]; exact cp4
              · rw [wd_up_row _ _ _ (by decide), cp5]; exact hsz
              · obtain ⟨v1, v2, v3, v4, v5⟩ := cp1 j' hj'
                by_cases ej : j' = j
                · subst ej
                  exact ⟨ca, ab_up_self _ _ _, by rw [wd_up_self]; exact q5, by rw [wd_up_row _ _ _ (by decide)]; exact v3⟩
                · refine ⟨c_pt g1 a j', ?_, ?_, by rw [wd_up_row _ _ _ (by decide)]; exact v3⟩
                  · rw [ab_up_ne _ _ ej]
                    unfold c_row c_ptr
                    rw [if_pos (by omega)]
                  · rw [wd_up_ne _ _ (Or.inr (by omega)), v1]
                    exact y3.2.2.1.2 _ _ v4
            · rw [m_cani_f hcan]
              have hfs : ¬ ((m_nomk N1) 102 36).toInt = 0 := by rw [m_nomk_36]; decide
              rw [m_ovl_fl hGq n (j + 1) (m_nomk N1, an) hfs]
              refine ⟨fun e => ?_, fun _ => ?_⟩
              · rw [o_fin36] at e
                exact absurd e hfs
              · have hm1 := (hmono n (j + 1) (some (k1, ab_up (c_row (c_ptr g1 a) (c_sz g1 a)) j (some ca))) (c_arr (I1, g1, k1, z1) (ab_up (c_row (c_ptr g1 a) (c_sz g1 a)) j (some ca)) (c_sz g1 a)) rfl).2 (by simp) hmoR.1
                have v4 := y3.2.2.2.2.2.2.1
                change (I1 9 0).toInt + (u : Int) = (N1 102 9).toInt at v4
                unfold m_can at hcan
                rcases hm1 with e | e
                · exact Or.inl e
                · change (I1 9 0).toInt + 1 ≤ _ at e
                  exact Or.inr (by omega)
          · obtain ⟨⟨a1, a2, a3⟩, b, ⟨r1, r2, r3⟩, d, e, ⟨f1, f2, f3⟩, g5⟩ := id y3
            rw [if_neg (show ¬ an.toInt = -1 by omega)] at hB ⊢
            dsimp only
            rw [if_neg (fun e => ee (heq.mp e))]
            have hup := y2.upd hs0 x1 hop.2.1 (c := ab_ra 4 (c_sz g1 a) (ab_up fq j (some ca))) r1 e (by omega) b (j := j) (x := x) (by omega)
            have hrow := c_st.row (c := ab_ra 4 (c_sz g1 a) (ab_up fq j (some ca))) x1 r1 e
            have er : wd_up N1 108 (12 * an.toInt.toNat + j) x 102 = N1 102 := wd_up_row _ _ _ (by decide)
            refine o_loop hop hTt hs0 ha hsz hi hG hGq hFm n (j + 1) _ F1 T1 _ _ _ (by omega) ⟨hrow, ⟨x2, x3⟩, by rw [er]; exact x4, Or.inr ⟨_, _, rfl, hup, ⟨⟨a1, a2, by rw [er]; exact a3⟩, b, ⟨r1, r2, r3⟩, ?_, c_nq_up hW1 e e, ⟨?_, ?_, ?_⟩, fun j' hj' => ?_⟩⟩⟩ hB
            · show ab_up g1 r _ r = _
              rw [ab_up_self, es1]
            · rw [wd_up_row _ _ _ (by decide)]; exact f1
            · rw [wd_up_row _ _ _ (by decide)]; exact f2
            · rw [wd_up_row _ _ _ (by decide)]; exact f3
            · obtain ⟨v, v1, v2, v3⟩ := g5 j' hj'
              by_cases ej : j' = j
              · subst ej
                exact ⟨ca, ab_up_self _ _ _, by rw [wd_up_self]; exact q5, by rw [wd_up_row _ _ _ (by decide)]; exact v3⟩
              · exact ⟨v, (ab_up_ne _ _ ej).trans v1, by rw [wd_up_ne _ _ (Or.inr (by omega))]; exact v2, by rw [wd_up_row _ _ _ (by decide)]; exact v3⟩
      · -- the reference may make nothing more
        have hfs : ∀ r : wd_I × Int32, r = (if x.toInt = (M0 108 (12 * t.toInt.toNat + j)).toInt then (N1, an) else if an.toInt = -1 then m_cani N1 (wd_up (m_copyOf (m_mk N1) t s) 108 (12 * (N1 102 8).toInt.toNat + j) x, N1 102 8) (m_nomk N1, an) else (wd_up N1 108 (12 * an.toInt.toNat + j) x, an)) → ¬ (r.1 102 36).toInt = 0 := fun r e => by
          rw [e]
          split
          · exact hsp
          · split
            · rw [m_cani_f (fun hc => hsp hc.1)]
              show ¬ (m_nomk N1 102 36).toInt = 0
              rw [m_nomk_36]
              decide
            · show ¬ (wd_up N1 108 (12 * an.toInt.toNat + j) x 102 36).toInt = 0
              rw [wd_up_row _ _ _ (by decide)]
              exact hsp
        have hf := hfs _ rfl
        rw [m_ovl_fl hGq n (j + 1) _ hf]
        refine ⟨fun e => ?_, fun _ => ?_⟩
        · rw [o_fin36] at e
          exact absurd e hf
        · obtain ⟨hc1, hc2⟩ := hcls _ rfl
          obtain ⟨k1', k2', k3'⟩ := hc1 hmoR.1
          rcases hR.2 hsp with e | e
          · exact Or.inl (k3' e)
          · by_cases ho : o = none
            · rw [if_pos ho] at hu'
              change 3001 ≤ (I1 9 0).toInt + (u' : Int) at e
              change (I1 9 0).toInt ≤ _ at k2'
              exact Or.inr (by omega)
            · rw [if_neg ho] at hu'
              change 3001 ≤ (I1 9 0).toInt + (u' : Int) at e
              rcases hc2 ho hmoR.1 with e' | e'
              · exact Or.inl e'
              · change (I1 9 0).toInt + 1 ≤ _ at e'
                exact Or.inr (by omega)
    · have eS : m_ovs G q i s t j (N, an) = (N, an) := by
        unfold m_ovs
        rw [if_neg he]
      rw [eS] at hB ⊢
      have := o_loop hop hTt hs0 ha hsz hi hG hGq hFm n (j + 1) o F T S N an (by omega) hlp hB
      rcases c5 with ⟨rfl, -⟩ | ⟨r, fq, rfl, -⟩
      · unfold c_chl
        rw [if_neg (fun e => he (hent.mp e))]
        exact this
      · unfold c_chl
        rw [if_neg (fun e => he (hent.mp e))]
        exact this
end
end
section
/-! ===== OVER on both sides: whole (own text) ===== -/
theorem o_ovw {F0 : Nat → Int32 → Prop} {M0 : wd_I} {n0 : Int} {p q gv : Nat} (hcx : o_cx F0 M0 n0 gv) : ∀ (f f' a i : Nat) (t : Int32) (u : Nat) (F : Nat → Int32 → Prop) (T : Nat → Prop) (S : c_St) (M : wd_I), o_in F0 M0 n0 p q gv u F T S M → F0 a t → (i : Int) ≤ (M0 115 q).toInt → (M0 107 t.toInt.toNat).toInt + (M0 115 q).toInt - (i : Int) < (f : Int) → (M0 107 t.toInt.toNat).toInt + (M0 115 q).toInt - (i : Int) < (f' : Int) → o_res F0 M0 n0 p q gv u F T S M (c_chw gv p f a i S) (m_ov q f' M t i)
  | 0, f', a, i, t, u, F, T, S, M, h, ha, hi, h1, h2 => by have := (h.1.2.1.2 a t ha).2.1; omega
  | f + 1, 0, a, i, t, u, F, T, S, M, h, ha, hi, h1, h2 => by have := (h.1.2.1.2 a t ha).2.1; omega
  | f + 1, f' + 1, a, i, t, u, F, T, S, M, h, ha, hi, h1, h2 => by
    obtain ⟨hop, hT0, h7⟩ := id hcx
    obtain ⟨⟨w1, h0k, hpw, hpt⟩, ⟨b1, b2, b3⟩, ⟨d1, d2⟩, e1, e2, e3, e4, e5, e6⟩ := id h
    obtain ⟨⟨hTa, ht0, ht1⟩, pr⟩ := h0k.1.1 a t ha
    have hrow := h0k.1.row hT0 ha
    obtain ⟨s1, s2, s3, s4, s5, s6, s7⟩ := hrow
    have hsz : (M0 105 t.toInt.toNat).toInt = (c_sz S.2.1 a : Int) := pr.2.2.2.2.1.symm
    have e115 : M 115 = M0 115 := b1.2.1 115 (by decide)
    have e105 : M 105 t.toInt.toNat = M0 105 t.toInt.toNat := (b1.1.1 t.toInt.toNat (by omega)).2.2.1
    have hopM : m_op n0 M := o_op hop b1 b2 b3
    have hTM : m_T M n0 := m_T_sb hT0 b1.1
    have hq := m_ov_oq (p := q) (f' + 1) M t i hopM hTM ht0 ht1
    have hpn := hpt.1
    have e107 : M 107 t.toInt.toNat = M0 107 t.toInt.toNat := (b1.1.1 t.toInt.toNat (by omega)).2.2.2.2
    unfold m_ov at hq ⊢
    unfold c_chw
    rw [if_pos e2] at hq ⊢
    rw [if_pos e1, e105] at *
    rw [e115] at hq ⊢
    rw [s1] at hq ⊢
    by_cases ci : p_n S.2.1 p ≤ i
    · rw [if_pos ci, if_pos (show (i : Int) = (M0 115 q).toInt by omega)]
      obtain ⟨I, g, k, z⟩ := S
      exact o_bec hcx h ha hsz
    · have hi2 : i < p_n S.2.1 p := by omega
      rw [if_neg (show ¬ (i : Int) = (M0 115 q).toInt by omega)] at hq ⊢
      rw [if_neg ci]
      have hk : p_keep S.2.1 p i a ↔ m_self M q t.toInt.toNat i := (h_keep hpt hi2 pr).trans (o_self b1 (by omega)).symm
      by_cases ck : p_keep S.2.1 p i a
      · rw [if_pos ck, if_pos (hk.mp ck)]
        exact o_ovw hcx f f' a (i + 1) t u F T S M h ha (by omega) (by omega) (by omega)
      · rw [if_neg (fun e => ck (hk.mpr e))] at hq ⊢
        rw [if_neg ck]
        have hnxt : m_nxt M q i = m_nxt M0 q i := o_nxt b1
        have hnx1 : i ≤ m_nxt M0 q i ∧ m_nxt M0 q i ≤ i + 1 := by unfold m_nxt; split <;> omega
        have hpx := h_nx hpt hi2
        refine o_loop hop hT0 h ha hsz (by omega) (fun u' F' T' S' M' j h' hj => ?_) ⟨fun N x hf => ?_, fun N x hN hx0 hx1 => m_ov_good f' N x _ hN hx0 hx1, fun N x hN hTN hx0 hx1 => m_ov_oq f' N x _ hN hTN hx0 hx1⟩ (fun b S' => o_chw f b _ S') (c_sz S.2.1 a) 0 none F T S M (ab_ii (-1)) (Nat.zero_add _) ⟨c_st.rf w1.1, ⟨fun _ _ e => e, fun _ _ e => Or.inl e⟩, Int.le_refl _, Or.inl ⟨rfl, rfl, h⟩⟩ (fun e => ?_)
        · obtain ⟨-, -, -, -, p4', p5'⟩ := (h'.1.2.1.1.1 a t ha).2
          have hFj := (p5' j (by omega)).2
          have hpt' := h'.1.2.2.2
          have hn' : p_n S'.2.1 p = p_n S.2.1 p := by have := hpt'.1; omega
          have hpx' := h_nx hpt' (show i < p_n S'.2.1 p by omega)
          have hh := s7 j hj
          show o_res F0 M0 n0 p q gv u' F' T' S' M' (c_chw gv p f (c_pt S'.2.1 a j) (p_nx S'.2.1 p i) S') (m_ov q f' M' (M0 108 (12 * t.toInt.toNat + j)) (m_nxt M q i))
          rw [hpx', hnxt]
          exact o_ovw hcx f f' _ _ _ u' F' T' S' M' h' hFj (by omega) (by omega) (by omega)
        · show m_ov q f' N x (m_nxt M q i) = (N, x)
          cases f' with
          | zero => rfl
          | succ f' => unfold m_ov; rw [if_neg hf]
        · have := (hq e).2.2.2.2.2
          rw [e107] at this
          omega
end
section
/-! ===== OVER on both sides: how it ends (own text) ===== -/
section
variable {F : Nat → Int32 → Prop} {T : Nat → Prop} {I : wd_I} {P : wd_P} {M : wd_I} {g : Nat → ab_C} {k z a b gv : Nat} {how n v p t : Int32}
/-- what OVER asks on both sides -/
def o_bg (F : Nat → Int32 → Prop) (T : Nat → Prop) (I : wd_I) (M : wd_I) (g : Nat → ab_C) (k a b gv : Nat) (how n v p t : Int32) : Prop := (c_W T g k ∧ 125 ≤ k ∧ (0 ≤ (I 9 0).toInt ∧ (I 9 0).toInt ≤ 3000)) ∧ (h_k F T g M (M 102 8).toInt ∧ m_T M (M 102 8).toInt ∧ I 9 0 = M 102 9) ∧ (m_ph M p ∧ p_wf g k b ∧ h_pt g M 113 114 115 b p.toInt.toNat) ∧ F a t ∧ m_cop (M 102 8).toInt M how v ∧ (how.toInt = 7 ∨ n = v) ∧ (how.toInt = 7 → F gv (M 110 v.toInt.toNat))
theorem o_go (h : o_bg F T I M g k a b gv how n v p t) : o_res F (m_co0 M p how v) (M 102 8).toInt b p.toInt.toNat gv 0 F T (c_cI I how n, g, k, z) (m_co0 M p how v) (c_R gv b a how n (I, g, k, z)) (m_co M t p how v) := by
  obtain ⟨⟨hW, h125, h9⟩, ⟨hk, hT, e9⟩, ⟨hp, hpw, hpt⟩, ha, hcop, hn, h7⟩ := h
  have hop := m_cop_op (p := p) hcop
  obtain ⟨q1, q2, q3, q4, q5⟩ := m_co0_33 (M := M) (p := p) (how := how) (n := v)
  obtain ⟨c1, c2, c3, c4⟩ := c_cI_e (I := I) (how := how) (n := n)
  have er : ∀ x, x ≠ 102 → m_co0 M p how v x = M x := fun x hx => m_co0_row hx
  have hra : ∀ q, m_ra M (m_co0 M p how v) q := fun q => m_ra_of (fun x x1 x2 => er x (by omega))
  have hs0 : m_sb (M 102 8).toInt M (m_co0 M p how v) := ⟨fun q _ => ⟨by rw [er 103 (by decide)], by rw [er 104 (by decide)], by rw [er 105 (by decide)], by rw [er 106 (by decide)], by rw [er 107 (by decide)]⟩, fun i _ => ⟨by rw [er 108 (by decide)], by rw [er 109 (by decide)]⟩⟩
  have e8 : m_co0 M p how v 102 8 = M 102 8 := m_co0_n (by decide)
  have e09 : m_co0 M p how v 102 9 = M 102 9 := m_co0_n (by decide)
  have hk0 : h_k F T g (m_co0 M p how v) (M 102 8).toInt := hk.mv (fun _ e => e) (fun _ _ => h_sm.rf) (fun _ _ _ => hra _) (Int.le_refl _)
  have hpt0 : h_pt g (m_co0 M p how v) 113 114 115 b p.toInt.toNat := by
    unfold h_pt at *
    rw [er 113 (by decide), er 114 (by decide), er 115 (by decide)]
    exact hpt
  have hgv : how.toInt = 7 → T gv := fun e => (hk.in (h7 e)).1
  have hin : o_in F (m_co0 M p how v) (M 102 8).toInt b p.toInt.toNat gv 0 F T (c_cI I how n, g, k, z) (m_co0 M p how v) := by
    refine ⟨⟨⟨hW, h125, ?_, fun e => hgv ?_⟩, hk0, hpw, hpt0⟩, ⟨m_fr.rf, hop.2.2.2.1, by rw [e8]; exact Int.le_refl _⟩, ⟨?_, fun _ _ e => e⟩, ?_, ?_, ?_, ?_, ?_, ?_⟩
    · show 0 ≤ (c_cI I how n 9 0).toInt ∧ (c_cI I how n 9 0).toInt ≤ 3000
      rw [c1]; exact h9
    · change (c_cI I how n 10 2).toInt = 7 at e
      rw [c2] at e; exact e
    · rw [e8]; exact hk0.o
    · show (c_cI I how n 10 6).toInt = 0
      rw [c3]; decide
    · rw [q5]; decide
    · rw [q4]
      show c_cI I how n 10 5 = _
      unfold c_cI
      rw [wd_up_ne _ _ (by omega), wd_up_self]
    · show (c_cI I how n 9 0).toInt + ((0 : Nat) : Int) = _
      rw [c1, e09, e9]
      omega
    · rw [q2]; exact c2
    · rw [q2, q3]
      rcases hn with e | e
      · exact Or.inl e
      · right
        show c_cI I how n 10 3 = v
        unfold c_cI
        rw [wd_up_ne _ _ (by omega), wd_up_ne _ _ (by omega), wd_up_self]
        exact e
  have hr := hk.1.row hT ha
  obtain ⟨p1, p2, p3, p4⟩ := id hp
  exact o_ovw (gv := gv) ⟨hop, m_T_sb hT hs0, fun e => by rw [q2] at e; rw [q3, er 110 (by decide)]; exact h7 e⟩ 41 21 a 0 t 0 F T _ _ hin ha (by rw [er 115 (by decide)]; exact p3) (by rw [er 115 (by decide), er 107 (by decide)]; omega) (by rw [er 115 (by decide), er 107 (by decide)]; omega)
theorem o_end (h : o_bg F T I M g k a b gv how n v p t) : (((c_R gv b a how n (I, g, k, z)).2.1 10 6).toInt = 0 ↔ ((m_co M t p how v).1 102 36).toInt = 0) ∧ (c_R gv b a how n (I, g, k, z)).2.1 9 0 = (m_co M t p how v).1 102 9 ∧ (((m_co M t p how v).1 102 36).toInt = 0 → ∃ (F' : Nat → Int32 → Prop) (T' : Nat → Prop), c_st T (c_cI I how n, g, k, z) T' (c_R gv b a how n (I, g, k, z)).2 ∧ (∀ b t, F b t → F' b t) ∧ F' (c_R gv b a how n (I, g, k, z)).1 (m_co M t p how v).2 ∧ o_k F' T' (c_R gv b a how n (I, g, k, z)).2.2.1 (m_co M t p how v).1 ((m_co M t p how v).1 102 8).toInt ∧ (c_R gv b a how n (I, g, k, z)).2.1 10 5 = (m_co M t p how v).1 102 35 ∧ (c_tooM (c_R gv b a how n (I, g, k, z)).2.2.1 (c_R gv b a how n (I, g, k, z)).1 ↔ (200 < ((m_co M t p how v).1 106 (m_co M t p how v).2.toInt.toNat).toInt ∨ 12 < ((m_co M t p how v).1 107 (m_co M t p how v).2.toInt.toNat).toInt))) := by
  have hgo := o_go (z := z) h
  have hsp := c_R_sp (gv := gv) (p := b) (a := a) (how := how) (n := n) (S := (I, g, k, z)) h.1.2.2
  have hrs : o_rs (m_co M t p how v).1 := o_rs_ov 21 (m_co0 M p how v) t 0 (fun e => by
    rw [(m_co0_33 (M := M) (p := p) (how := how) (n := v)).2.2.2.2] at e
    exact absurd (by decide) e)
  generalize c_R gv b a how n (I, g, k, z) = R at *
  generalize m_co M t p how v = N at *
  obtain ⟨ca, I1, g1, k1, z1⟩ := R
  obtain ⟨N1, r⟩ := N
  unfold c_sp at hsp
  dsimp only at *
  by_cases hN : (N1 102 36).toInt = 0
  · obtain ⟨F', T', r1, r2, r3, r4, r5⟩ := hgo.1 hN
    dsimp only at r1 r2 r5
    obtain ⟨-, -, ⟨d1, d2⟩, e1, e2, e3, e4, -⟩ := id r2
    change (I1 10 6).toInt = 0 at e1
    change I1 10 5 = N1 102 35 at e3
    change (I1 9 0).toInt + ((0 : Nat) : Int) = (N1 102 9).toInt at e4
    refine ⟨⟨fun _ => hN, fun _ => e1⟩, Int32.toInt_inj.mp (by omega), fun _ => ⟨F', T', r1, r3, r5, d1, e3, ?_⟩⟩
    obtain ⟨-, -, v2, v3, -⟩ := d1.1.p r5
    have v4 := (d1.2 _ _ r5).1
    change c_i g1 ca 2 = _ at v2
    change c_i g1 ca 3 = _ at v3
    change c_sz g1 ca ≤ 12 at v4
    unfold c_tooM
    rw [v2, v3]
    omega
  · have h2 := hgo.2 hN
    dsimp only at h2
    have h3 : ¬ (I1 10 6).toInt = 0 := by
      rcases h2 with e | e
      · exact e
      · omega
    have h4 := hrs hN
    exact ⟨⟨fun e => absurd e h3, fun e => absurd e hN⟩, Int32.toInt_inj.mp (by omega), fun e => absurd e hN⟩
end
section
variable {F : Nat → Int32 → Prop} {T : Nat → Prop} {I : wd_I} {P : wd_P} {M : wd_I} {g : Nat → ab_C} {k z d m : Nat} {Q : ab_Q}
/-- rows and numbers behind OVER on the reference's side -/
theorem o_rf {how v p t : Int32} (hok : m_ok M) (hcop : m_cop (M 102 8).toInt M how v) (ht : 0 ≤ t.toInt ∧ t.toInt < (M 102 8).toInt) : m_sb (M 102 8).toInt M (m_co M t p how v).1 ∧ (∀ x, 110 ≤ x → (m_co M t p how v).1 x = M x) ∧ (∀ j, j ≠ 8 → j ≠ 9 → j < 32 → (m_co M t p how v).1 102 j = M 102 j) ∧ m_9 M (m_co M t p how v).1 ∧ m_rm (m_co M t p how v).1 ∧ (M 102 8).toInt ≤ ((m_co M t p how v).1 102 8).toInt ∧ (0 ≤ (m_co M t p how v).2.toInt ∧ (m_co M t p how v).2.toInt < ((m_co M t p how v).1 102 8).toInt) ∧ m_ok (m_rs M (m_co M t p how v).1) := by
  have hb := m_ok_b hok
  have hg := m_co_good (p := p) hcop ht.1 ht.2
  have h9 := m_ov_9 (p := p.toInt.toNat) 21 (m_co0 M p how v) t 0 (m_cop_op hcop) (by rw [m_co0_n (by decide)]; exact hb.2.2.1) ht.1 ht.2
  change m_9 (m_co0 M p how v) (m_co M t p how v).1 at h9
  have h22 := hok.2.2.2.2.2.2.1
  generalize m_co M t p how v = R at *
  obtain ⟨N, r⟩ := R
  obtain ⟨g1, g2, g3, g4, g5⟩ := hg
  change m_fr (M 102 8).toInt (m_co0 M p how v) N at g1
  change m_rm N at g2
  change (m_co0 M p how v 102 8).toInt ≤ (N 102 8).toInt at g3
  change 0 ≤ r.toInt at g4
  change r.toInt < (N 102 8).toInt at g5
  unfold m_9 at h9
  rw [m_co0_n (by decide)] at g3 h9
  have hsb : m_sb (M 102 8).toInt M N := by
    refine ⟨fun t ht => ?_, fun i hi => ?_⟩
    · have := g1.1.1 t ht
      rw [m_co0_row (by decide), m_co0_row (by decide), m_co0_row (by decide), m_co0_row (by decide), m_co0_row (by decide)] at this
      exact this
    · have := g1.1.2 i hi
      rw [m_co0_row (by decide), m_co0_row (by decide)] at this
      exact this
  have hrow : ∀ x, 110 ≤ x → N x = M x := fun x h1 => by rw [g1.2.1 x h1, m_co0_row (by omega)]
  have hnn : ∀ j, j ≠ 8 → j ≠ 9 → j < 32 → N 102 j = M 102 j := fun j j1 j2 j3 => by rw [g1.2.2 j j1 j2 (by omega) (by omega), m_co0_n j3]
  exact ⟨hsb, hrow, hnn, h9, g2, g3, ⟨g4, g5⟩, m_ok_rs (N := N) hok hsb h9 g2.2.2 (fun x h1 _ => hrow x h1) (hnn 20 (by decide) (by decide) (by decide)) (by rw [hnn 22 (by decide) (by decide) (by decide)]; exact h22)⟩
theorem w_In.bg (h : w_In F T I P M g k) {t p how v : Int32} {a b gv : Nat} (ha : F a t) (hp : c_pp p) (hb : (P 8 p.toInt.toNat = some b ∧ p_wf g k b) ∧ h_pt g M 113 114 115 b p.toInt.toNat) (hh : m_how how.toInt v.toInt) (h7 : how.toInt = 7 → F gv (M 110 v.toInt.toNat)) {n : Int32} (hn : how.toInt = 7 ∨ n = v) : o_bg F T I M g k a b gv how n v p t := by
  obtain ⟨h1, h2, h3, h4, h5, h6, h7', h8⟩ := h
  have hb' := m_ok_b h1
  refine ⟨⟨h2.1, h2.2.1, h2.2.2.1⟩, ⟨h3, h1.1, h5⟩, ⟨h1.lok.2.2 p hp.1 (by unfold c_pp at hp; omega), hb.1.2, hb.2⟩, ha, ⟨h1.1.tb.1, by omega, Int.le_refl _, h1.2.2.1, hh.1, fun e => ⟨hh.2.2 e, (h3.in (h7 e)).2⟩⟩, hn, h7⟩
/-- nothing kept of what was done -/
theorem w_In.lv (h : w_In F T I P M g k) {T' : Nat → Prop} {I' : wd_I} {P' : wd_P} {N : wd_I} {g' : Nat → ab_C} {k' : Nat} (hW : c_W T' g' k') (hT : ∀ b, T b → T' b) (hx : c_ofr k g g') (hk : k ≤ k') (hI : ∀ x j, x ≠ 9 → x ≠ 10 → x ≠ 11 → I' x j = I x j) (hP : ∀ x j, x ≠ 10 → x ≠ 12 → P' x j = P x j) (h9 : 0 ≤ (I' 9 0).toInt ∧ (I' 9 0).toInt ≤ 3000) (e9 : I' 9 0 = N 102 9) (hsb : m_sb (M 102 8).toInt M N) (hrow : ∀ x, 110 ≤ x → x ≤ 120 → N x = M x) (hnn : ∀ j, j = 20 ∨ j = 22 → N 102 j = M 102 j) (h9N : m_9 M N) : w_In F T' I' P' (m_rs M N) g' k' := by
  obtain ⟨h1, h2, h3, h4, h5, h6, h7', h8⟩ := h
  have h22 := h1.2.2.2.2.2.2.1
  have er : ∀ x, x ≠ 102 → m_rs M N x = N x := fun x hx => by unfold m_rs; rw [wd_up_row _ _ _ hx]
  have en : ∀ j, j ≠ 8 → m_rs M N 102 j = N 102 j := fun j hj => by unfold m_rs; rw [wd_up_ne _ _ (Or.inr hj)]
  have en8 : m_rs M N 102 8 = M 102 8 := by unfold m_rs; rw [wd_up_self]
  have hrs := m_ok_rs (N := N) h1 hsb h9N (by rw [← e9]; exact h9.2) (fun x x1 x2 => hrow x x1 (by omega)) (hnn 20 (by omega)) (by rw [hnn 22 (by omega)]; exact h22)
  exact ⟨hrs, h2.fr hW hT hx hk (k_sm_of (fun x j q => hI x j (by omega) (by omega) (by omega)) (fun x j q => hP x j (by omega) (by omega))) h9 (by rw [hI 1 1 (by omega) (by omega) (by omega)]; exact h2.2.2.2.2.2.1), h3.mv hT (fun x hx' => h_sm_wf (c_wf_xt (h2.1 x hx') hx hk)) (fun x u q => (hsb.ra (by have := h3.in q; omega)).tr (m_ra_of (fun y y1 y2 => er y (by omega)))) (by rw [en8]; exact Int.le_refl _), h4.fr (fun j => ⟨(hI 1 1 (by omega) (by omega) (by omega)).symm, hI 2 j (by omega) (by omega) (by omega)⟩) ⟨(en 22 (by decide)).trans (hnn 22 (by omega)), (er 120 (by decide)).trans (hrow 120 (by decide) (by decide))⟩, by rw [en 9 (by decide)]; exact e9, h6.mv (fun _ _ q => q) (fun s hs => ⟨hI _ _ (by omega) (by omega) (by omega), hP _ _ (by omega) (by omega), fun i => hP _ _ (by omega) (by omega)⟩) (fun x x1 x2 => (er x (by omega)).trans (hrow x x1 (by omega))), h7'.mv (fun _ _ q => q) (hI 0 11 (by omega) (by omega) (by omega)) (fun i => hP _ _ (by omega) (by omega)) ((er 116 (by decide)).trans (hrow 116 (by decide) (by decide))), h8.fr h2 (.of (fun x j q => hI x j (by omega) (by omega) (by omega)) hx (fun x j q => hP x j (by omega) (by omega))) (.rs hrow (hnn 20 (by omega)))⟩
/-- nothing kept of OVER -/
theorem w_ovn (h : w_In F T I P M g k) {how n v p t : Int32} {a b gv : Nat} {T' : Nat → Prop} (hbg : o_bg F T I M g k a b gv how n v p t) (hst : c_st T (c_cI I how n, g, k, z) T' (c_R gv b a how n (I, g, k, z)).2) {P' : wd_P} (hP : ∀ x j, x ≠ 10 → P' x j = P x j) : w_In F T' (c_R gv b a how n (I, g, k, z)).2.1 P' (m_rs M (m_co M t p how v).1) (c_R gv b a how n (I, g, k, z)).2.2.1 (c_R gv b a how n (I, g, k, z)).2.2.2.1 := by
  obtain ⟨e1, e2, -⟩ := o_end (z := z) hbg
  obtain ⟨⟨hW, h125, h9⟩, ⟨hk, hT, e9⟩, ⟨hp, hpw, hpt⟩, ha, hcop, hn, h7⟩ := hbg
  obtain ⟨r1, r2, r3, r4, r5, r6, r7, r8⟩ := o_rf (p := p) h.1 hcop (hk.in ha).2
  have hgd := c_R_gd (z := z) (n := n) (p := b) hW h125 (hk.in ha).1 h9 (fun e => (hk.in (h7 e)).1)
  have hfr := c_R_fr hgd
  obtain ⟨b1, -, -, -, b5⟩ := k_rm_R (m := 0) h9 hgd
  have hwf := hst.wf
  have hofr := hst.ofr
  exact h.lv hwf hst.inc hofr b5 (fun x j x1 x2 _ => hfr x j x1 x2) (fun x j x1 _ => hP x j x1) b1 e2 r1 (fun x x1 _ => r2 x x1) (fun j hj => r3 j (by omega) (by omega) (by omega)) r4
/-- the table kept as OVER left it, no shelf changed -/
theorem w_ovk (h : w_In F T I P M g k) {how n v p t : Int32} {a b gv : Nat} (hbg : o_bg F T I M g k a b gv how n v p t) {P' : wd_P} (hP : ∀ x j, x ≠ 10 → P' x j = P x j) (hu : ((m_co M t p how v).1 102 36).toInt = 0) (hn2 : ((m_co M t p how v).1 106 (m_co M t p how v).2.toInt.toNat).toInt ≤ 200) (hh2 : ((m_co M t p how v).1 107 (m_co M t p how v).2.toInt.toNat).toInt ≤ 12) : ∃ F' T', w_In F' T' (c_R gv b a how n (I, g, k, z)).2.1 P' (m_co M t p how v).1 (c_R gv b a how n (I, g, k, z)).2.2.1 (c_R gv b a how n (I, g, k, z)).2.2.2.1 ∧ (∀ x u, F x u → F' x u) ∧ F' (c_R gv b a how n (I, g, k, z)).1 (m_co M t p how v).2 := by
  obtain ⟨e1, e2, e3⟩ := o_end (z := z) hbg
  obtain ⟨F', T', g1, q1, q2, q3, q4, q5⟩ := e3 hu
  obtain ⟨⟨hW, h125, h9⟩, ⟨hk, hT, e9⟩, ⟨hp, hpw, hpt⟩, ha, hcop, hn, h7⟩ := hbg
  obtain ⟨h1, h2, h3, h4, h5, h6, h7', h8⟩ := h
  have hta := (h3.in ha).2
  obtain ⟨r1, r2, r3, r4, r5, r6, r7, r8⟩ := o_rf (p := p) h1 hcop hta
  have hTN := m_co_T (p := p) hcop hT hta.1 hta.2 hu hn2 hh2
  have hgd := c_R_gd (z := z) (n := n) (p := b) h2.1 h2.2.1 (h3.in ha).1 h2.2.2.1 (fun e => (h3.in (h7 e)).1)
  have hfr := c_R_fr hgd
  obtain ⟨b1, -, -, -, b5⟩ := k_rm_R (m := 0) h2.2.2.1 hgd
  have h22 := h1.2.2.2.2.2.2.1
  generalize c_R gv b a how n (I, g, k, z) = R at *
  generalize m_co M t p how v = N at *
  obtain ⟨ca, I1, g', k', z'⟩ := R
  obtain ⟨N1, r⟩ := N
  dsimp only at *
  have hinc := g1.inc
  have hwf : c_W T' g' k' := g1.wf
  have hofr : c_ofr k g g' := g1.ofr
  have e22 := r3 22 (by decide) (by decide) (by decide)
  have e20 := r3 20 (by decide) (by decide) (by decide)
  have hN : m_ok N1 := m_ok_of h1 hTN r6 r4 r5 (fun x x1 _ => r2 x x1) e20 (by rw [e22]; exact h22)
  have hk2 : h_k F' T' g' N1 (N1 102 8).toInt := ⟨q3.1, fun x u hx => by
    have := q3.1.row hTN hx
    exact ⟨this.2.1, this.2.2.1.1, by omega, (q3.2 x u hx).2.2.2⟩⟩
  have hk0 : k_ok T' I1 P' g' k' := h2.fr hwf hinc hofr b5 (k_sm_of (fun x j q => hfr x j (by omega) (by omega)) (fun x j q => hP x j (by omega))) b1 (by rw [hfr 1 1 (by omega) (by omega)]; exact h2.2.2.2.2.2.1)
  exact ⟨F', T', ⟨hN, hk0, hk2, h4.fr (fun j => ⟨(hfr 1 1 (by omega) (by omega)).symm, hfr 2 j (by omega) (by omega)⟩) ⟨e22, r2 120 (by decide)⟩, e2, h6.mv q1 (fun s hs => ⟨hfr _ _ (by omega) (by omega), hP _ _ (by omega), fun i => hP _ _ (by omega)⟩) (fun x x1 x2 => r2 x x1), h7'.mv q1 (hfr 0 11 (by omega) (by omega)) (fun i => hP _ _ (by omega)) (r2 116 (by decide)), h8.fr h2 (k_fp.of (fun x j q => hfr x j (by omega) (by omega)) hofr (fun x j q => hP x j (by omega))) (r_fp.of (fun x x1 _ => r2 x x1) e20)⟩, q1, q2⟩
end
end
section
/-! ===== both objects: over answers alike (own text) ===== -/
section
variable {F : Nat → Int32 → Prop} {T : Nat → Prop} {I : wd_I} {P : wd_P} {M : wd_I} {g : Nat → ab_C} {k z d m : Nat} {Q : ab_Q}
theorem w_In.bec (h : w_In F T I P M g k) {s c a : Nat} {t : Int32} (hs : s < 12) (hc : v_s1 F I P M s c) (ha : F a t) : w_In F T (s_becI I s c) (s_becP P s c a) (m_becomes M s t c) g k := by
  obtain ⟨h1, h2, h3, h4, h5, h6, h7, h8⟩ := h
  have er : ∀ x, x ≠ 110 → x ≠ 111 → x ≠ 112 → m_becomes M s t c x = M x := fun x x1 x2 x3 => m_becomes_row x1 x2 x3
  have e102 := er 102 (by decide) (by decide) (by decide)
  exact ⟨m_ok_bec h1 hs hc.2.1 hc.2.2.1 (h3.in ha).2, h2.bec hs (hc.ok h3) (h3.in ha).1, h3.mv (fun _ q => q) (fun _ _ => h_sm.rf) (fun _ _ _ => m_ra_of (fun a a1 a2 => er a (by omega) (by omega) (by omega))) (by rw [e102]; exact Int.le_refl _), h4.fr (fun j => ⟨(s_becI_ne (by omega)).symm, s_becI_ne (by omega)⟩) ⟨by rw [e102], er 120 (by decide) (by decide) (by decide)⟩, by rw [s_becI_ne (by omega), e102]; exact h5, h6.bec hs hc ha, h7.mv (fun _ _ q => q) (s_becI_ne (by omega)) (fun i => s_becP_ne (by omega) (by omega)) (er 116 (by decide) (by decide) (by decide)), h8.fr h2 (.of (fun _ _ q => s_becI_fp q) c_ofr.rf (fun _ _ q => s_becP_fp q)) (r_fp.rf.bec)⟩
/-- a shelf becomes what came of OVER -/
theorem w_ovy (h : w_In F T I P M g k) {how n v p t : Int32} {a b gv s c : Nat} (hbg : o_bg F T I M g k a b gv how n v p t) {P' : wd_P} (hP : ∀ x j, x ≠ 10 → P' x j = P x j) (hs : s < 12) (hc : v_s1 F I P M s c) (hu : ((m_co M t p how v).1 102 36).toInt = 0) (hn2 : ((m_co M t p how v).1 106 (m_co M t p how v).2.toInt.toNat).toInt ≤ 200) (hh2 : ((m_co M t p how v).1 107 (m_co M t p how v).2.toInt.toNat).toInt ≤ 12) : ∃ F' T', w_In F' T' (s_becI (c_R gv b a how n (I, g, k, z)).2.1 s c) (s_becP P' s c (c_R gv b a how n (I, g, k, z)).1) (m_becomes (m_co M t p how v).1 s (m_co M t p how v).2 c) (c_R gv b a how n (I, g, k, z)).2.2.1 (c_R gv b a how n (I, g, k, z)).2.2.2.1 := by
  obtain ⟨F', T', w0, w1, w2⟩ := w_ovk (z := z) h hbg hP hu hn2 hh2
  obtain ⟨⟨hW, h125, h9⟩, ⟨hk, hT, e9⟩, ⟨hp, hpw, hpt⟩, ha, hcop, hn, h7⟩ := hbg
  obtain ⟨r1, r2, -⟩ := o_rf (p := p) h.1 hcop (hk.in ha).2
  have hfr := c_R_fr (c_R_gd (z := z) (n := n) (p := b) hW h125 (hk.in ha).1 h9 (fun e => (hk.in (h7 e)).1))
  exact ⟨F', T', w0.bec hs (hc.mv w1 (hfr _ _ (by omega) (by omega)) (hP _ _ (by omega)) (fun i _ => hP _ _ (by omega)) (by rw [r2 110 (by decide)]) (fun i _ => by rw [r2 111 (by decide)]) (by rw [r2 112 (by decide)])) w2⟩
theorem hc_over (hd : 96 ≤ d) (h : w_In F T I P M g k) (hr : k_rm (m + 1) I k z) {s f p how v : Int32} (hQ : w_res 174 41 [wd_v 102, .inl s, .inl f, .inl p, .inl how, .inl v] m M Q) : ab_CT d 108 [wd_v 0, .inl s, .inl f, .inl p, .inl how, .inl v] (wd I P M g, k, z) Q := by
  have hr0 : k_rm m I k z := hr.le (Int.le_refl _) (Nat.le_add_right _ _) (Nat.le_add_right _ _)
  obtain ⟨a, ha⟩ := h.sh f
  obtain ⟨gv, hgv⟩ := h.sh v
  obtain ⟨b, hb⟩ := h.pa p
  obtain ⟨c, hc⟩ : ∃ c, c_sh s → v_s1 F I P M s.toInt.toNat c := by
    by_cases hs : c_sh s
    · obtain ⟨c, hc⟩ := h.2.2.2.2.2.1 s.toInt.toNat (by unfold c_sh at hs; omega)
      exact ⟨c, fun _ => hc⟩
    · exact ⟨0, fun q => absurd q hs⟩
  obtain ⟨o, ho7, hon⟩ : ∃ o : Option Nat, (how.toInt = 7 → o = some gv) ∧ (¬ how.toInt = 7 → o = none) := by
    by_cases h7 : how.toInt = 7
    · exact ⟨some gv, fun _ => rfl, fun q => absurd h7 q⟩
    · exact ⟨none, fun q => absurd q h7, fun _ => rfl⟩
  have hiff : (c_sh s ∧ c_sh f ∧ c_pp p ∧ c_isHow how v) ↔ (m_sh s ∧ m_sh f ∧ m_pa p ∧ m_how how.toInt v.toInt) := by
    unfold c_sh c_pp c_isHow m_sh m_pa m_how
    split
    · omega
    · split <;> omega
  have hsv : (c_sh s ∧ c_sh f ∧ c_pp p ∧ c_isHow how v) → how.toInt = 7 → c_sh v := fun hx q => by
    have := hx.2.2.2
    unfold c_isHow at this
    rw [if_neg (by omega), if_pos q] at this
    exact this
  have hbg : ∀ hx : (c_sh s ∧ c_sh f ∧ c_pp p ∧ c_isHow how v), o_bg F T I M g k a b gv how v v p (M 110 f.toInt.toNat) := fun hx => h.bg (ha hx.2.1).2 hx.2.2.1 (hb hx.2.2.1) (hiff.mp hx).2.2.2 (fun e => (hgv (hsv hx e)).2) (Or.inr rfl)
  have hgd := fun (hx : c_sh s ∧ c_sh f ∧ c_pp p ∧ c_isHow how v) => c_R_gd (z := z) (n := v) (p := b) h.2.1.1 h.2.1.2.1 (ha hx.2.1).1.2 h.2.1.2.2.1 (fun e => (hgv (hsv hx e)).1.2)
  have hrm : ∀ hx : (c_sh s ∧ c_sh f ∧ c_pp p ∧ c_isHow how v), k_rm m (c_R gv b a how v (I, g, k, z)).2.1 (c_R gv b a how v (I, g, k, z)).2.2.2.1 (c_R gv b a how v (I, g, k, z)).2.2.2.2 := fun hx => by
    have hgd := c_R_gd (z := z) (n := v) (p := b) h.2.1.1 h.2.1.2.1 (ha hx.2.1).1.2 h.2.1.2.2.1 (fun e => (hgv (hsv hx e)).1.2)
    obtain ⟨r1, r2, r3, r4, -⟩ := k_rm_R (m := 0) h.2.1.2.2.1 hgd
    unfold k_rm at *
    omega
  have hP : ∀ x j, x ≠ 10 → c_cP P b o x j = P x j := fun x j q => c_cP_ne q
  refine y_over hd h.2.1.1 h.2.1.2.1 h.2.1.2.2.1 hr.ro (o := o) (c := c) (fun e => ?_) (fun q => (hc q).ok h.2.2.1) (fun q => (ha q).1) (fun q => (hb q).1) (fun h7 q => ⟨(hgv q).1.1, (hgv q).1.2, ho7 h7⟩) hon (fun hx e => ?_) (fun hx e1 e2 => ?_) (fun hx e1 e2 => ?_)
  · exact hQ _ F T _ _ _ _ _ (w_ref_bad h (fun d Q hd hq => x_over_b hd (fun q => e (hiff.mpr q)) hq)) hr0
  · obtain ⟨w1, w2, -⟩ := o_end (z := z) (hbg hx)
    obtain ⟨T', g1, -⟩ := hgd hx
    have w0 := w_ovn (z := z) h (hbg hx) g1 hP
    have hN : ¬ ((m_co M (M 110 f.toInt.toNat) p how v).1 102 36).toInt = 0 := fun q => e (w1.mpr q)
    exact hQ _ F T' _ _ _ _ _ (fun d Q hd hq => x_over hd h.1.lok h.1.2.2.1 (hc hx.1).2.1 (hc hx.1).2.2.1 (fun q => absurd (hiff.mp hx) q) (fun _ _ => hq _ w0) (fun _ q => absurd q hN) (fun _ q => absurd q hN)) (hrm hx)
  · obtain ⟨w1, w2, w3⟩ := o_end (z := z) (hbg hx)
    obtain ⟨T', g1, -⟩ := hgd hx
    have w0 := w_ovn (z := z) h (hbg hx) g1 hP
    have hN := w1.mp e1
    obtain ⟨-, -, -, -, -, -, -, w4⟩ := w3 hN
    have w5 := w4.mp e2
    exact hQ _ F T' _ _ _ _ _ (fun d Q hd hq => x_over hd h.1.lok h.1.2.2.1 (hc hx.1).2.1 (hc hx.1).2.2.1 (fun q => absurd (hiff.mp hx) q) (fun _ q => absurd hN q) (fun _ _ _ => hq _ w0) (fun _ _ q1 q2 => by exfalso; omega)) (hrm hx)
  · obtain ⟨w1, w2, w3⟩ := o_end (z := z) (hbg hx)
    have hN := w1.mp e1
    obtain ⟨-, -, -, -, -, -, e35, w4⟩ := w3 hN
    have w5 : ¬ (200 < ((m_co M (M 110 f.toInt.toNat) p how v).1 106 (m_co M (M 110 f.toInt.toNat) p how v).2.toInt.toNat).toInt ∨ 12 < ((m_co M (M 110 f.toInt.toNat) p how v).1 107 (m_co M (M 110 f.toInt.toNat) p how v).2.toInt.toNat).toInt) := fun q => e2 (w4.mpr q)
    obtain ⟨F', T', w0⟩ := w_ovy (z := z) h (hbg hx) hP (s := s.toInt.toNat) (by have := hx.1; unfold c_sh at this; omega) (hc hx.1) hN (by omega) (by omega)
    rw [e35]
    have hrm' := hrm hx
    refine hQ _ F' T' _ _ _ _ _ (fun d Q hd hq => x_over hd h.1.lok h.1.2.2.1 (hc hx.1).2.1 (hc hx.1).2.2.1 (fun q => absurd (hiff.mp hx) q) (fun _ q => absurd hN q) (fun _ _ q => absurd q w5) (fun _ _ _ _ => hq _ w0)) ?_
    unfold k_rm at *
    dsimp only
    rw [s_becI_ne (by omega)]
    exact hrm'
end
end
section
/-! ===== both objects: what put makes (own text) ===== -/
/-- a part put under a key, on both sides -/
theorem o_puts {F : Nat → Int32 → Prop} {C : wd_I} {c key ty : Int32} {y s : Nat} {fk : Nat → Int32} {fp : Nat → Option Nat} (hsz : (C 105 c.toInt.toNat).toInt = (s : Int)) (h12 : s ≤ 12) (hc : ∀ j, j < s → C 109 (12 * c.toInt.toNat + j) = fk j ∧ ∃ b, fp j = some b ∧ F b (C 108 (12 * c.toInt.toNat + j))) (hy : F y ty) :
    (c_has fk s key → (m_puts C c key ty s 105 c.toInt.toNat).toInt = (s : Int) ∧ ∀ j, j < s → m_puts C c key ty s 109 (12 * c.toInt.toNat + j) = fk j ∧ ∃ b, ab_up fp (c_plc fk key s 0) (some y) j = some b ∧ F b (m_puts C c key ty s 108 (12 * c.toInt.toNat + j))) ∧
    (¬ c_has fk s key → (m_puts C c key ty s 105 c.toInt.toNat).toInt = (s : Int) + 1 ∧ ∀ j, j < s + 1 → m_puts C c key ty s 109 (12 * c.toInt.toNat + j) = c_ins fk s (c_plc fk key s 0) key j ∧ ∃ b, c_ins fp s (c_plc fk key s 0) (some y) j = some b ∧ F b (m_puts C c key ty s 108 (12 * c.toInt.toNat + j))) := by
  have epk : m_pk C c key s = c_plc fk key s 0 := (h_ppos (fun j hj => (hc j hj).1) s 0 (Nat.zero_add _)).symm
  have hle := c_plc_le (fk := fk) (l := key) s 0
  refine ⟨fun hh => ?_, fun hh => ?_⟩
  · have hpn : ¬ m_pn C c key s := by
      unfold m_pn
      rw [epk]
      unfold c_has at hh
      rw [(hc _ hh.1).1]
      omega
    refine ⟨by rw [m_puts_5, if_neg hpn]; exact hsz, fun j hj => ?_⟩
    obtain ⟨k1, b, k2, k3⟩ := hc j hj
    rw [m_puts_9, m_puts_8, epk, if_neg (fun q => hpn q.1 : ¬ (m_pn C c key s ∧ c_plc fk key s 0 < j ∧ j ≤ s)), if_neg (fun q => hpn q.1 : ¬ (m_pn C c key s ∧ c_plc fk key s 0 < j ∧ j ≤ s))]
    by_cases e : j = c_plc fk key s 0
    · rw [if_pos e, if_pos e]
      refine ⟨?_, y, by rw [e, ab_up_self], hy⟩
      rw [e]
      exact Int32.toInt_inj.mp hh.2.symm
    · rw [if_neg e, if_neg e]
      exact ⟨k1, b, by rw [ab_up_ne _ _ e]; exact k2, k3⟩
  · have hpn : m_pn C c key s := by
      unfold m_pn
      rw [epk]
      unfold c_has at hh
      by_cases e : c_plc fk key s 0 < s
      · rw [(hc _ e).1]
        omega
      · omega
    refine ⟨by rw [m_puts_5, if_pos hpn, ab_tI (by omega) (by omega)], fun j hj => ?_⟩
    rw [m_puts_9, m_puts_8, epk, c_ins_v, c_ins_v]
    by_cases e : j = c_plc fk key s 0
    · rw [if_pos e, if_pos e, if_pos e, if_pos e]
      exact ⟨rfl, y, rfl, hy⟩
    · rw [if_neg e, if_neg e, if_neg e, if_neg e]
      by_cases e2 : c_plc fk key s 0 < j ∧ j ≤ s
      · have e3 : m_pn C c key s ∧ c_plc fk key s 0 < j ∧ j ≤ s := ⟨hpn, e2⟩
        rw [if_pos e3, if_pos e2, if_pos e2, if_pos e3]
        obtain ⟨k1, b, k2, k3⟩ := hc (j - 1) (by omega)
        exact ⟨k1, b, k2, k3⟩
      · have e3 : ¬ (m_pn C c key s ∧ c_plc fk key s 0 < j ∧ j ≤ s) := fun q => e2 q.2
        rw [if_neg e3, if_neg e2, if_neg e2, if_neg e3]
        obtain ⟨k1, b, k2, k3⟩ := hc j (by omega)
        exact ⟨k1, b, k2, k3⟩
section
variable {F : Nat → Int32 → Prop} {T : Nat → Prop} {I : wd_I} {P : wd_P} {M : wd_I} {g : Nat → ab_C} {k z d m : Nat} {Q : ab_Q}
/-- the parts of what put makes -/
theorem w_ptA (hk : h_k F T g M (M 102 8).toInt) (hT : m_T M (M 102 8).toInt) (h0 : 0 ≤ (M 102 8).toInt) {x y s : Nat} {tx ty what v : Int32} (hx : F x tx) (hy : F y ty) (hk3 : what.toInt = 2 → (M 103 tx.toInt.toNat).toInt = 3) (hs : (M 105 tx.toInt.toNat).toInt = (s : Int)) (hfit : what.toInt = 2 → (s ≤ 11 ∨ ¬ (m_hk M tx.toInt.toNat (ab_ii (v.toInt + 1)) s).toInt = 0)) : ((c_ptW g x y what v).1 ≤ 12 ∧ (m_pA M what.toInt tx ty v s 105 (M 102 8).toInt.toNat).toInt = ((c_ptW g x y what v).1 : Int) ∧ m_pA M what.toInt tx ty v s 103 (M 102 8).toInt.toNat = c_ptK what ∧ m_pA M what.toInt tx ty v s 104 (M 102 8).toInt.toNat = ab_ii 0) ∧ (∀ j, j < (c_ptW g x y what v).1 → ∃ b, (c_ptW g x y what v).2.2 j = some b ∧ F b (m_pA M what.toInt tx ty v s 108 (12 * (M 102 8).toInt.toNat + j)) ∧ m_pA M what.toInt tx ty v s 109 (12 * (M 102 8).toInt.toNat + j) = (if j < c_tm (c_ptK what) (c_ptW g x y what v).1 then (c_ptW g x y what v).2.1 j else ab_ii 0)) ∧ m_fr (M 102 8).toInt M (m_pA M what.toInt tx ty v s) ∧ m_s1 M (m_pA M what.toInt tx ty v s) := by
  obtain ⟨hTx, hx0, hx1⟩ := hk.in hx
  obtain ⟨-, p0, p1, p2, p3, p4, p5⟩ := hk.1.1 x tx hx
  obtain ⟨s', a1, a2, a3, a4, a5, a6, a7, a8, a9, a10, a11⟩ := m_T_row hT (t := tx.toInt.toNat) (by omega)
  have es : s' = s := by omega
  subst es
  have esz : c_sz g x = s' := by omega
  unfold m_pA c_ptW c_ptK
  by_cases h2 : what.toInt = 2
  · rw [if_pos h2, if_pos h2, if_pos h2]
    have hfit := hfit h2
    have hk3 := hk3 h2
    have hCf : m_fr (M 102 8).toInt M (m_copyOf M tx s') := m_copyOf_fr m_fr.rf (Int.le_refl _)
    have hrw : m_rw (M 102 8).toInt (m_copyOf M tx s') (m_puts (m_copyOf M tx s') (M 102 8) (ab_ii (v.toInt + 1)) ty s') := m_puts_rw h0 (Int.le_refl _)
    have er : ∀ q, q ≠ 105 → q ≠ 108 → q ≠ 109 → m_puts (m_copyOf M tx s') (M 102 8) (ab_ii (v.toInt + 1)) ty s' q = m_copyOf M tx s' q := fun q q1 q2 q3 => by
      unfold m_puts m_puts1
      rw [wd_up_row _ _ _ q3, wd_up_row _ _ _ q2]
      split
      · rw [wd_up_row _ _ _ q1, m_psh_row q2 q3]
      · rfl
    have hfr : m_fr (M 102 8).toInt M (m_puts (m_copyOf M tx s') (M 102 8) (ab_ii (v.toInt + 1)) ty s') := ⟨hCf.1.tr hrw.1 (Int.le_refl _), fun a ha => (hrw.2.1 a ha).trans (hCf.2.1 a ha), fun j j1 j2 j3 j4 => by rw [hrw.2.2]; exact hCf.2.2 j j1 j2 j3 j4⟩
    have hs1 : m_s1 M (m_puts (m_copyOf M tx s') (M 102 8) (ab_ii (v.toInt + 1)) ty s') := ⟨by rw [hrw.2.2]; exact m_copyOf_8, fun j hj => by rw [hrw.2.2]; unfold m_copyOf; rw [m_cpl_row (by decide) (by decide), m_begins_n hj]⟩
    have e103 : m_puts (m_copyOf M tx s') (M 102 8) (ab_ii (v.toInt + 1)) ty s' 103 (M 102 8).toInt.toNat = ab_ii 3 := by
      rw [er 103 (by decide) (by decide) (by decide), m_copyOf_kd]
      exact Int32.toInt_inj.mp (by rw [hk3]; rfl)
    have e104 : m_puts (m_copyOf M tx s') (M 102 8) (ab_ii (v.toInt + 1)) ty s' 104 (M 102 8).toInt.toNat = ab_ii 0 := by
      rw [er 104 (by decide) (by decide) (by decide), m_copyOf_wo]
      exact (hk.2 x tx hx).2.2.2 hk3
    have hkm : ∀ j, j < s' → M 109 (12 * tx.toInt.toNat + j) = c_rwi (c_ky g x) s' j := fun j hj => by
      unfold c_rwi
      rw [if_pos hj]
      exact (p5 j (by omega)).1.symm
    have hso : h_so (c_rwi (c_ky g x) s') s' := fun j hj => by
      rw [← hkm j (by omega), ← hkm (j + 1) hj]
      exact a11 hk3 j hj
    have hhas := h_has (key := ab_ii (v.toInt + 1)) hkm hso
    obtain ⟨o1, o2⟩ := o_puts (F := F) (C := m_copyOf M tx s') (c := M 102 8) (key := ab_ii (v.toInt + 1)) (ty := ty) (y := y) (s := s') (fk := c_rwi (c_ky g x) s') (fp := c_row (c_ptr g x) s') (by rw [m_copyOf_sz]; exact a1) a2 (fun j hj => ⟨by rw [m_copyOf_ky hx0 hx1 a2 hj]; exact hkm j hj, c_pt g x j, by unfold c_row c_ptr; rw [if_pos hj], by rw [m_copyOf_pt hx0 hx1 a2 hj]; exact (p5 j (by omega)).2⟩) hy
    have htm : ∀ q, c_tm (ab_ii 3) q = q := fun q => if_pos (by decide)
    unfold c_wk
    rw [esz]
    by_cases hh : c_has (c_rwi (c_ky g x) s') s' (ab_ii (v.toInt + 1))
    · obtain ⟨v1, v2⟩ := o1 hh
      rw [if_pos hh]
      dsimp only
      rw [htm]
      refine ⟨⟨a2, v1, e103, e104⟩, fun j hj => ?_, hfr, hs1⟩
      obtain ⟨w1, b, w2, w3⟩ := v2 j hj
      exact ⟨b, w2, w3, by rw [if_pos hj]; exact w1⟩
    · obtain ⟨v1, v2⟩ := o2 hh
      have h11 : s' ≤ 11 := by
        rcases hfit with q | q
        · exact q
        · exact absurd (hhas.mpr q) hh
      rw [if_neg hh, if_pos (show s' ≤ 12 by omega)]
      dsimp only
      rw [htm]
      refine ⟨⟨by omega, by rw [v1]; omega, e103, e104⟩, fun j hj => ?_, hfr, hs1⟩
      obtain ⟨w1, b, w2, w3⟩ := v2 j hj
      exact ⟨b, w2, w3, by rw [if_pos hj]; exact w1⟩
  · rw [if_neg h2, if_neg h2, if_neg h2]
    dsimp only
    obtain ⟨sort, hsort⟩ : ∃ sort, sort = ab_ii (if what.toInt = 0 then 1 else 2) := ⟨_, rfl⟩
    have hso : ¬ sort.toInt = 3 := by
      rw [hsort]
      split <;> decide
    have hsk : (if what.toInt = 0 then ab_ii 1 else ab_ii 2) = sort := by
      rw [hsort]
      split <;> rfl
    rw [← hsort, hsk]
    have e103 : m_adds (m_adds (m_begins M sort (ab_ii 0) (ab_ii 0)) (M 102 8) (ab_ii 0) tx 0) (M 102 8) (ab_ii 0) ty 1 103 (M 102 8).toInt.toNat = sort := by rw [m_adds_kd, m_adds_kd, m_begins_kd]
    have e104 : m_adds (m_adds (m_begins M sort (ab_ii 0) (ab_ii 0)) (M 102 8) (ab_ii 0) tx 0) (M 102 8) (ab_ii 0) ty 1 104 (M 102 8).toInt.toNat = ab_ii 0 := by rw [m_adds_wo, m_adds_wo, m_begins_wo]
    have htm : c_tm sort 2 = 0 := if_neg hso
    rw [htm]
    refine ⟨⟨by omega, by rw [m_adds_sz]; rfl, e103, e104⟩, fun j hj => ?_, m_adds_fr (m_adds_fr (m_begins_fr m_fr.rf (Int.le_refl _)) h0 (Int.le_refl _)) h0 (Int.le_refl _), ⟨by rw [m_adds_102, m_adds_102, m_begins_8], fun j hj => by rw [m_adds_102, m_adds_102, m_begins_n hj]⟩⟩
    rw [if_neg (Nat.not_lt_zero _)]
    by_cases e : j = 1
    · subst e
      refine ⟨y, c_ins_at, by rw [m_adds_pt]; exact hy, ?_⟩
      rw [m_adds_ky, if_pos rfl]
    · have e0 : j = 0 := by omega
      subst e0
      refine ⟨x, (c_ins_lt (by omega)).trans c_ins_at, by rw [m_adds_pn (by omega), m_adds_pt]; exact hx, ?_⟩
      rw [m_adds_ky, if_neg (by omega), m_adds_ky, if_pos rfl]
/-- the thing itself -/
theorem w_ptB (hW : c_W T g k) (h125 : 125 ≤ k) (hk : h_k F T g M (M 102 8).toInt) (hT : m_T M (M 102 8).toInt) (h0 : 0 ≤ (M 102 8).toInt ∧ (M 102 8).toInt ≤ 3012) {x y s : Nat} {tx ty what v : Int32} (hx : F x tx) (hy : F y ty) (hk3 : what.toInt = 2 → (M 103 tx.toInt.toNat).toInt = 3) (hs : (M 105 tx.toInt.toNat).toInt = (s : Int)) (hfit : what.toInt = 2 → (s ≤ 11 ∨ ¬ (m_hk M tx.toInt.toNat (ab_ii (v.toInt + 1)) s).toInt = 0)) : o_k (h_and F (k + 1 + 1 + 1 + 1 + 1) (M 102 8)) (fun w => T w ∨ w = k + 1 + 1 + 1 + 1 + 1) (c_ptg g k x y what v) (m_pW M what.toInt tx ty v s) ((M 102 8).toInt + 1) := by
  obtain ⟨⟨q1, q2, q3, q4⟩, q5, q6, q7⟩ := w_ptA hk hT h0.1 hx hy hk3 hs hfit
  obtain ⟨hc1, hc2⟩ := c_ptg_st (z := 0) (z' := 0) (what := what) (n := v) hW h125 (hk.in hx).1 (hk.in hy).1
  have hwf : c_W (fun w => T w ∨ w = k + 1 + 1 + 1 + 1 + 1) (c_ptg g k x y what v) (k + 1 + 1 + 1 + 1 + 1 + 1) := hc1.wf
  have hofr : c_ofr k g (c_ptg g k x y what v) := hc1.ofr
  have hkz : c_ptK what = ab_ii 3 ∨ ¬ (c_ptK what).toInt = 3 := by
    unfold c_ptK
    split
    · exact Or.inl rfl
    · right
      split <;> decide
  have hsz : m_sz (m_pA M what.toInt tx ty v s) (M 102 8) = (c_ptW g x y what v).1 := by unfold m_sz; rw [q2]; omega
  have h8A : (m_pA M what.toInt tx ty v s 102 8).toInt = (M 102 8).toInt + 1 := by rw [q7.1, ab_tI (by omega) (by omega)]
  unfold m_pW
  rw [hsz]
  have hkA : o_k F T g (m_pA M what.toInt tx ty v s) ((M 102 8).toInt + 1) := hk.o.mv (fun _ e => e) (fun _ _ => h_sm.rf) (fun b u e => q6.1.ra (by have := hk.in e; omega)) (by omega)
  have hg2 : c_ofr k g (c_tg2 (c_pu g k (c_ptW g x y what v).2.1 (c_ptW g x y what v).2.2 (c_ptW g x y what v).1) (k + 1 + 1 + 1) (c_ptW g x y what v).1 (c_tm (c_ptK what) (c_ptW g x y what v).1) (c_ptW g x y what v).2.1 (c_ptW g x y what v).2.2) := by
    unfold c_tg2 c_pu
    exact c_ofr_up (c_ofr_up (c_ofr_up (c_ofr_up (c_ofr_up c_ofr.rf (Nat.le_refl _)) (by omega)) (by omega)) (by omega)) (by omega)
  refine o_fin (M := m_pA M what.toInt tx ty v s) (ka := k + 1 + 1 + 1 + 1) (pa := k + 1 + 1 + 1) (nk := c_tm (c_ptK what) (c_ptW g x y what v).1) (fk2 := c_rwi (c_ptW g x y what v).2.1 (c_tm (c_ptK what) (c_ptW g x y what v).1)) (fp2 := c_row (c_ptW g x y what v).2.2 (c_ptW g x y what v).1) (kd := c_ptK what) (wo := ab_ii 0) (g2 := c_tg2 (c_pu g k (c_ptW g x y what v).2.1 (c_ptW g x y what v).2.2 (c_ptW g x y what v).1) (k + 1 + 1 + 1) (c_ptW g x y what v).1 (c_tm (c_ptK what) (c_ptW g x y what v).1) (c_ptW g x y what v).2.1 (c_ptW g x y what v).2.2) hkA q2 (fun j hj => ?_) q1 ⟨h0.1, by omega⟩ (fun b e => by have := (hk.in e).2.2; omega) (fun u e => by have := (hW _ (hk.in e).1).1.2; omega) (fun _ e => Or.inl e) (Or.inr rfl) (fun b hb => h_sm_wf (c_wf_xt (hW b hb) hofr (Nat.le_refl _))) (ab_up_self _ _ _) ((ab_up_ne _ _ (by omega)).trans (ab_up_self _ _ _)) ((ab_up_ne _ _ (by omega)).trans ((ab_up_ne _ _ (by omega)).trans (ab_up_self _ _ _))) (fun b hb j => (h_sm_wf (c_wf_xt (hW b hb) hg2 (Nat.le_refl _))).2.2.2 j) q3 q4 (o_highB (fun j hj => ?_)) (fun _ => rfl)
  · obtain ⟨b, b1, b2, b3⟩ := q5 j hj
    refine ⟨b, by unfold c_row; rw [if_pos hj]; exact b1, b2, b3.trans ?_⟩
    by_cases e : j < c_tm (c_ptK what) (c_ptW g x y what v).1
    · rw [if_pos e, if_pos e]
      unfold c_rwi
      rw [if_pos e]
    · rw [if_neg e, if_neg e]
  · obtain ⟨b, b1, b2, b3⟩ := q5 j hj
    have := (hk.2 b _ b2).2
    rw [(q6.1.1 _ (by have := hk.in b2; omega)).2.2.2.2]
    omega
end
end
section
/-! ===== both objects: put leaves both alike (own text) ===== -/
/-- the reference's call, its answer left open, and they stay alike -/
def w_ref2 (rm need : Nat) (args : List ab_V) (F : Nat → Int32 → Prop) (T : Nat → Prop) (I : wd_I) (P : wd_P) (M : wd_I) (g : Nat → ab_C) (k z : Nat) : Prop := ∀ (d : Nat) (Q : ab_Q), need ≤ d → (∀ (r : Int32) (M' : wd_I), w_In F T I P M' g k → Q (some (.inl r)) (wd I P M' g, k, z)) → ab_CT d rm args (wd I P M g, k, z) Q
/-- as w_res, the answers left open -/
def w_res2 (rm need : Nat) (args : List ab_V) (n : Nat) (M : wd_I) (Q : ab_Q) : Prop := ∀ (r : Int32) (F' : Nat → Int32 → Prop) (T' : Nat → Prop) (I' : wd_I) (P' : wd_P) (g' : Nat → ab_C) (k' z' : Nat), w_ref2 rm need args F' T' I' P' M g' k' z' → k_rm n I' k' z' → Q (some (.inl r)) (wd I' P' M g', k', z')
theorem w_ref2_of {rm need : Nat} {args : List ab_V} {r : Int32} {F : Nat → Int32 → Prop} {T : Nat → Prop} {I : wd_I} {P : wd_P} {M : wd_I} {g : Nat → ab_C} {k z : Nat} (h : w_ref rm need args (.inl r) F T I P M g k z) : w_ref2 rm need args F T I P M g k z := fun d Q hd hq => h d Q hd (fun M' hM => hq r M' hM)
section
variable {F : Nat → Int32 → Prop} {T T' : Nat → Prop} {I : wd_I} {P : wd_P} {M W : wd_I} {g g' : Nat → ab_C} {k k' z d m : Nat} {Q : ab_Q}
theorem w_In.gr (h : w_In F T I P M g k) {z0 z1 : Nat} (hst : c_st T (c_J, g, k, z0) T' (c_J, g', k', z1)) : w_In F T' I P M g' k' := by
  obtain ⟨h1, h2, h3, h4, h5, h6, h7, h8⟩ := h
  have hwf : c_W T' g' k' := hst.wf
  have hofr : c_ofr k g g' := hst.ofr
  have hkk : k ≤ k' := hst.kk
  exact ⟨h1, h2.fr hwf hst.inc hofr hkk (k_sm_of (fun _ _ _ => rfl) (fun _ _ _ => rfl)) h2.2.2.1 h2.2.2.2.2.2.1, h3.mv hst.inc (fun x hx => h_sm_wf (c_wf_xt (h2.1 x hx) hofr hkk)) (fun _ _ _ => m_ra.rf) (Int.le_refl _), h4, h5, h6, h7, h8.fr h2 (.of (fun _ _ _ => rfl) hofr (fun _ _ _ => rfl)) .rf⟩
theorem w_In.rs (h : w_In F T I P M g k) (hf : m_fr (M 102 8).toInt M W) (hs : m_s1 M W) : w_In F T I P (m_rs M W) g k := by
  obtain ⟨h1, h2, h3, h4, h5, h6, h7, h8⟩ := h
  have hb := m_ok_b h1
  have h22 := h1.2.2.2.2.2.2.1
  have vn := hs.2
  have hrow : ∀ x, 110 ≤ x → W x = M x := fun x h1 => hf.2.1 x h1
  have e22 : W 102 22 = M 102 22 := vn 22 (by decide)
  have e20 : W 102 20 = M 102 20 := vn 20 (by decide)
  have e9 : W 102 9 = M 102 9 := vn 9 (by decide)
  have er : ∀ x, x ≠ 102 → m_rs M W x = W x := fun x hx => by unfold m_rs; rw [wd_up_row _ _ _ hx]
  have en : ∀ j, j ≠ 8 → m_rs M W 102 j = W 102 j := fun j hj => by unfold m_rs; rw [wd_up_ne _ _ (Or.inr hj)]
  have en8 : m_rs M W 102 8 = M 102 8 := by unfold m_rs; rw [wd_up_self]
  exact ⟨m_ok_rs h1 hf.1 (m_9_e e9) (by rw [e9]; exact hb.2.2.2) (fun x x1 _ => hrow x x1) e20 (by rw [e22]; exact h22), h2, h3.mv (fun _ q => q) (fun _ _ => h_sm.rf) (fun x u q => (hf.1.ra (by have := h3.in q; omega)).tr (m_ra_of (fun y y1 y2 => er y (by omega)))) (by rw [en8]; exact Int.le_refl _), h4.fr (fun _ => ⟨rfl, rfl⟩) ⟨(en 22 (by decide)).trans e22, (er 120 (by decide)).trans (hrow 120 (by decide))⟩, by rw [en 9 (by decide), e9]; exact h5, h6.mv (fun _ _ q => q) (fun _ _ => ⟨rfl, rfl, fun _ => rfl⟩) (fun x x1 x2 => (er x (by omega)).trans (hrow x x1)), h7.mv (fun _ _ q => q) rfl (fun _ => rfl) ((er 116 (by decide)).trans (hrow 116 (by decide))), h8.fr h2 .rf (.rs (fun x x1 _ => hrow x x1) e20)⟩
/-- what put makes is counted -/
theorem w_In.mk1 (h : w_In F T I P M g k) {z0 z1 a : Nat} (hst : c_st T (c_J, g, k, z0) T' (c_J, g', k', z1)) (hf : m_fr (M 102 8).toInt M W) (hs : m_s1 M W) (hT : m_T W (W 102 8).toInt) (hlt : (I 9 0).toInt < 3000) (hk : o_k (h_and F a (M 102 8)) T' g' W (W 102 8).toInt) : w_In (h_and F a (M 102 8)) T' (c_I1 I) P (m_mk W) g' k' := by
  obtain ⟨h1, h2, h3, h4, h5, h6, h7, h8⟩ := h
  have hb := m_ok_b h1
  have h22 := h1.2.2.2.2.2.2.1
  obtain ⟨v8, vn⟩ := hs
  have hrow : ∀ x, 110 ≤ x → W x = M x := fun x h1 => hf.2.1 x h1
  have e22 : W 102 22 = M 102 22 := vn 22 (by decide)
  have e20 : W 102 20 = M 102 20 := vn 20 (by decide)
  have e9 : W 102 9 = M 102 9 := vn 9 (by decide)
  have hwf : c_W T' g' k' := hst.wf
  have hofr : c_ofr k g g' := hst.ofr
  have hkk : k ≤ k' := hst.kk
  have hI : ∀ a j, a ≠ 9 → c_I1 I a j = I a j := fun a j q => wd_up_ne _ _ (Or.inl q)
  obtain ⟨u1, u2⟩ := c_I1_9 (I := I) ⟨h2.2.2.1.1, hlt⟩
  have k8 : m_mk W 102 8 = W 102 8 := m_mk_8
  have hM9 : (M 102 9).toInt = (I 9 0).toInt := by rw [h5]
  have k9 : (m_mk W 102 9).toInt = (M 102 9).toInt + 1 := by unfold m_mk; rw [wd_up_self, e9, ab_tI (by omega) (by omega)]
  have w8 : (W 102 8).toInt = (M 102 8).toInt + 1 := by rw [v8, ab_tI (by omega) (by omega)]
  have kn : ∀ j, j ≠ 9 → m_mk W 102 j = W 102 j := fun j hj => wd_up_ne _ _ (Or.inr hj)
  have hrm := h1.2.2.1
  unfold m_rm at hrm
  have hN : m_ok (m_mk W) := m_ok_of h1 (by rw [k8]; exact m_T_c (fun x h1 h2 => m_mk_row (by omega)) hT) (by rw [k8]; omega) (by unfold m_9; omega) (by unfold m_rm; rw [k8]; omega) (fun x h1 h2 => by rw [m_mk_row (by omega)]; exact hrow x h1) (by rw [kn 20 (by decide)]; exact e20) (by rw [kn 22 (by decide), e22]; exact h22)
  have hk2 : h_k (h_and F a (M 102 8)) T' g' W (W 102 8).toInt := ⟨hk.1, fun x u hx => by
    have := hk.1.row hT hx
    exact ⟨this.2.1, this.2.2.1.1, by omega, (hk.2 x u hx).2.2.2⟩⟩
  exact ⟨hN, h2.fr hwf hst.inc hofr hkk (k_sm_of (fun a j q => hI a j (by omega)) (fun _ _ _ => rfl)) (by omega) (by rw [hI 1 1 (by omega)]; exact h2.2.2.2.2.2.1), hk2.mv (fun _ q => q) (fun _ _ => h_sm.rf) (fun _ _ _ => m_ra_of (fun y y1 y2 => m_mk_row (by omega))) (by rw [k8]; exact Int.le_refl _), h4.fr (fun j => ⟨(hI 1 1 (by omega)).symm, hI 2 j (by omega)⟩) ⟨(kn 22 (by decide)).trans e22, (m_mk_row (by decide)).trans (hrow 120 (by decide))⟩, Int32.toInt_inj.mp (by omega), h6.mv (fun _ _ q => Or.inl q) (fun s hs => ⟨hI _ _ (by omega), rfl, fun _ => rfl⟩) (fun x x1 x2 => (m_mk_row (by omega)).trans (hrow x x1)), h7.mv (fun _ _ q => Or.inl q) (hI 0 11 (by omega)) (fun _ => rfl) ((m_mk_row (by decide)).trans (hrow 116 (by decide))), h8.fr h2 (.of (fun a j q => hI a j (by omega)) hofr (fun _ _ _ => rfl)) ((r_fp.of (fun x x1 _ => hrow x x1) e20).mk)⟩
/-- thirteen parts are too many -/
theorem w_ptF {x y s : Nat} {tx what v : Int32} (hk : h_k F T g M (M 102 8).toInt) (hT : m_T M (M 102 8).toInt) (hx : F x tx) (h2 : what.toInt = 2) (hk3 : (M 103 tx.toInt.toNat).toInt = 3) (hs : (M 105 tx.toInt.toNat).toInt = (s : Int)) (h12 : s = 12) (hno : (m_hk M tx.toInt.toNat (ab_ii (v.toInt + 1)) s).toInt = 0) : c_sz (c_ptg g k x y what v) (k + 1 + 1 + 1 + 1 + 1) = 13 := by
  obtain ⟨hTx, hx0, hx1⟩ := hk.in hx
  obtain ⟨-, p0, p1, p2, p3, p4, p5⟩ := hk.1.1 x tx hx
  obtain ⟨s', a1, a2, a3, a4, a5, a6, a7, a8, a9, a10, a11⟩ := m_T_row hT (t := tx.toInt.toNat) (by omega)
  have es : s' = s := by omega
  subst es
  have esz : c_sz g x = s' := by omega
  have hkm : ∀ j, j < s' → M 109 (12 * tx.toInt.toNat + j) = c_rwi (c_ky g x) s' j := fun j hj => by
    unfold c_rwi
    rw [if_pos hj]
    exact (p5 j (by omega)).1.symm
  have hso : h_so (c_rwi (c_ky g x) s') s' := fun j hj => by
    rw [← hkm j (by omega), ← hkm (j + 1) hj]
    exact a11 hk3 j hj
  have hh : ¬ c_has (c_rwi (c_ky g x) s') s' (ab_ii (v.toInt + 1)) := fun q => (h_has hkm hso).mp q hno
  have eW : (c_ptW g x y what v).1 = 13 := by
    unfold c_ptW c_wk
    rw [if_pos h2, esz, if_neg hh, if_pos (by omega)]
    show s' + 1 = 13
    omega
  obtain ⟨-, v1, -⟩ := h_vw (g := c_ptg g k x y what v) (a := k + 1 + 1 + 1 + 1 + 1) (ka := k + 1 + 1 + 1 + 1) (pa := k + 1 + 1 + 1) (ab_up_self _ _ _) ((ab_up_ne _ _ (by omega)).trans (ab_up_self _ _ _)) ((ab_up_ne _ _ (by omega)).trans ((ab_up_ne _ _ (by omega)).trans (ab_up_self _ _ _)))
  rw [v1]
  exact eW
theorem hc_put (hd : 10 ≤ d) (h : w_In F T I P M g k) (hr : k_rm (m + 1) I k z) {s what a b v : Int32} (hQ : w_res2 175 41 [wd_v 102, .inl s, .inl what, .inl a, .inl b, .inl v] m M Q) : ab_CT d 109 [wd_v 0, .inl s, .inl what, .inl a, .inl b, .inl v] (wd I P M g, k, z) Q := by
  have hr0 : k_rm m I k z := hr.le (Int.le_refl _) (Nat.le_add_right _ _) (Nat.le_add_right _ _)
  have hrb := hr.b h.2.1.2.2.1.2
  have hb := m_ok_b h.1
  have hM9 : (M 102 9).toInt = (I 9 0).toInt := by rw [h.2.2.2.2.1]
  obtain ⟨x, hx⟩ := h.sh a
  obtain ⟨y, hy⟩ := h.sh b
  obtain ⟨c, hc⟩ : ∃ c, c_sh s → v_s1 F I P M s.toInt.toNat c := by
    by_cases hs : c_sh s
    · obtain ⟨c, hc⟩ := h.2.2.2.2.2.1 s.toInt.toNat (by unfold c_sh at hs; omega)
      exact ⟨c, fun _ => hc⟩
    · exact ⟨0, fun q => absurd q hs⟩
  have hiff : c_pt1 s what a b v ↔ m_pok s what a b v := by
    unfold c_pt1 m_pok c_sh m_sh
    omega
  by_cases hok : c_pt1 s what a b v
  · obtain ⟨hs9, ha9, hb9, hw9, hn9⟩ := id hok
    have hpo := hiff.mp hok
    have hxF := (hx ha9).2
    have hyF := (hy hb9).2
    have hxb := (h.2.2.1.in hxF).2
    have hyb := (h.2.2.1.in hyF).2
    have hcs := hc hs9
    have e0 : c_i g x 0 = M 103 (M 110 a.toInt.toNat).toInt.toNat := (h.2.2.1.1.p hxF).1
    obtain ⟨sz, a1, a2, a3, -⟩ := m_T_row h.1.1 (t := (M 110 a.toInt.toNat).toInt.toNat) (by omega)
    by_cases hS : what.toInt = 2 ∧ ¬ (c_i g x 0).toInt = 3
    · refine y_put hd h.2.1.1 h.2.1.2.1 h.2.1.2.2.1 ⟨by omega, by omega⟩ (c := c) (fun e => absurd hok e) (fun q => (hc q).ok h.2.2.1) (fun q => (hx q).1) (fun q => (hy q).1) (fun _ _ _ => ?_) (fun _ e => absurd (e hS.1) hS.2) (fun _ e => absurd (e hS.1) hS.2) (fun _ e => absurd (e hS.1) hS.2)
      exact hQ _ F T _ _ _ _ _ (w_ref2_of (w_ref_bad h (fun d Q hd hq => x_put_S (by omega) hpo hS.1 ⟨hxb.1, by omega⟩ (by rw [← e0]; exact hS.2) hq))) hr0
    · have hk3 : what.toInt = 2 → (M 103 (M 110 a.toInt.toNat).toInt.toNat).toInt = 3 := fun q => by
        rw [← e0]
        omega
      obtain ⟨g1, g2⟩ := c_ptg_st (z := z) (z' := 0) (what := what) (n := v) h.2.1.1 h.2.1.2.1 (h.2.2.1.in hxF).1 (h.2.2.1.in hyF).1
      have hgr := h.gr g1
      by_cases hF : what.toInt = 2 ∧ sz = 12 ∧ (m_hk M (M 110 a.toInt.toNat).toInt.toNat (ab_ii (v.toInt + 1)) sz).toInt = 0
      · obtain ⟨f1, f2, f3⟩ := hF
        have hF1 := w_ptF (k := k) (y := y) h.2.2.1 h.1.1 hxF f1 (hk3 f1) a1 f2 f3
        have hxF2 : ∀ (I' : wd_I) (P' : wd_P) (g' : Nat → ab_C) (k' z' d : Nat) (Q : ab_Q), 41 ≤ d → Q (some (.inl (ab_ii (-4)))) (wd I' P' M g', k', z') → ab_CT d 175 [wd_v 102, .inl s, .inl what, .inl a, .inl b, .inl v] (wd I' P' M g', k', z') Q := fun I' P' g' k' z' d Q hd hq => by
          subst f2
          exact x_put_F (by omega) hpo f1 ⟨hxb.1, by omega⟩ (hk3 f1) a1 f3 hq
        refine y_put hd h.2.1.1 h.2.1.2.1 h.2.1.2.2.1 ⟨by omega, by omega⟩ (c := c) (fun e => absurd hok e) (fun q => (hc q).ok h.2.2.1) (fun q => (hx q).1) (fun q => (hy q).1) (fun _ e1 e2 => absurd ⟨e1, e2⟩ hS) (fun _ _ e => ?_) (fun _ _ e1 e2 => ?_) (fun _ _ e1 e2 => absurd (Or.inr (Or.inr (by rw [hF1]; omega))) e2)
        · exact hQ _ F T _ _ _ _ _ (w_ref2_of (w_ref_bad h (hxF2 _ _ _ _ _))) hr0
        · exact hQ _ F _ _ _ _ _ _ (w_ref2_of (w_ref_bad hgr (hxF2 _ _ _ _ _))) (hr.le (Int.le_refl _) (by omega) (by omega))
      · have h12 : what.toInt = 2 → (sz ≤ 11 ∨ ¬ (m_hk M (M 110 a.toInt.toNat).toInt.toNat (ab_ii (v.toInt + 1)) sz).toInt = 0) := fun q => by
          by_cases e : sz ≤ 11
          · exact Or.inl e
          · exact Or.inr (fun q2 => hF ⟨q, by omega, q2⟩)
        obtain ⟨w1, w2, w3⟩ := m_pW_T (what := what.toInt) (n := v) h.1.1 hb.2.1 hxb hyb a1 hk3 h12
        have hko := w_ptB (v := v) h.2.1.1 h.2.1.2.1 h.2.2.1 h.1.1 ⟨by omega, hb.2.1⟩ hxF hyF hk3 a1 h12
        have w8 : (m_pW M what.toInt (M 110 a.toInt.toNat) (M 110 b.toInt.toNat) v sz 102 8).toInt = (M 102 8).toInt + 1 := by rw [w2.1, ab_tI (by omega) (by omega)]
        have hx2 := fun (I' : wd_I) (P' : wd_P) (g' : Nat → ab_C) (k' z' d : Nat) (Q : ab_Q) (hd : 4 ≤ d) => x_put_ok (d := d) (I := I') (P := P') (g := g') (k := k') (z := z') (Q := Q) hd h.1.1 hb.2.1 hcs.2.1 hcs.2.2.1 hpo hxb hyb a1 hk3 h12
        have hrs := h.rs w1 w2
        have hgrs := hgr.rs w1 w2
        have hpr := hko.1.p (Or.inr ⟨rfl, rfl⟩ : h_and F (k + 1 + 1 + 1 + 1 + 1) (M 102 8) (k + 1 + 1 + 1 + 1 + 1) (M 102 8))
        have hsz12 := (hko.2 _ _ (Or.inr ⟨rfl, rfl⟩ : h_and F (k + 1 + 1 + 1 + 1 + 1) (M 102 8) (k + 1 + 1 + 1 + 1 + 1) (M 102 8))).1
        obtain ⟨-, -, v2, v3, -⟩ := hpr
        have htm : c_tooM (c_ptg g k x y what v) (k + 1 + 1 + 1 + 1 + 1) ↔ (200 < (m_pW M what.toInt (M 110 a.toInt.toNat) (M 110 b.toInt.toNat) v sz 106 (M 102 8).toInt.toNat).toInt ∨ 12 < (m_pW M what.toInt (M 110 a.toInt.toNat) (M 110 b.toInt.toNat) v sz 107 (M 102 8).toInt.toNat).toInt) := by
          unfold c_tooM
          rw [v2, v3]
          omega
        generalize m_pW M what.toInt (M 110 a.toInt.toNat) (M 110 b.toInt.toNat) v sz = W at *
        refine y_put hd h.2.1.1 h.2.1.2.1 h.2.1.2.2.1 ⟨by omega, by omega⟩ (c := c) (fun e => absurd hok e) (fun q => (hc q).ok h.2.2.1) (fun q => (hx q).1) (fun q => (hy q).1) (fun _ e1 e2 => absurd ⟨e1, e2⟩ hS) (fun _ _ e => ?_) (fun _ _ e1 e2 => ?_) (fun _ _ e1 e2 => ?_)
        · by_cases hfl : 200 < (W 106 (M 102 8).toInt.toNat).toInt ∨ 12 < (W 107 (M 102 8).toInt.toNat).toInt
          · exact hQ _ F T _ _ _ _ _ (w_ref2_of (r := ab_ii (-4)) (fun d Q hd hq => hx2 _ _ _ _ _ d Q (by omega) (fun _ => hq _ hrs) (fun q1 q2 _ => by exfalso; omega) (fun q1 q2 _ => by exfalso; omega))) hr0
          · exact hQ _ F T _ _ _ _ _ (w_ref2_of (r := ab_ii (-17)) (fun d Q hd hq => hx2 _ _ _ _ _ d Q (by omega) (fun q => absurd q hfl) (fun _ _ _ => hq _ hrs) (fun _ _ q => by exfalso; omega))) hr0
        · have hfl := htm.mp e2
          exact hQ _ F _ _ _ _ _ _ (w_ref2_of (r := ab_ii (-4)) (fun d Q hd hq => hx2 _ _ _ _ _ d Q (by omega) (fun _ => hq _ hgrs) (fun q1 q2 _ => by exfalso; omega) (fun q1 q2 _ => by exfalso; omega))) (hr.le (Int.le_refl _) (by omega) (by omega))
        · have hfl : ¬ (200 < (W 106 (M 102 8).toInt.toNat).toInt ∨ 12 < (W 107 (M 102 8).toInt.toNat).toInt) := fun q => e2 (htm.mpr q)
          have hin := h.mk1 g1 w1 w2 (w3 (by omega) (by omega)) e1 (by rw [w8]; exact hko)
          have hc2 : v_s1 (h_and F (k + 1 + 1 + 1 + 1 + 1) (M 102 8)) (c_I1 I) P (m_mk W) s.toInt.toNat c := hcs.mv (fun _ _ q => Or.inl q) (wd_up_ne _ _ (by omega)) rfl (fun _ _ => rfl) (by rw [m_mk_row (by decide), w1.2.1 110 (by decide)]) (fun i _ => by rw [m_mk_row (by decide), w1.2.1 111 (by decide)]) (by rw [m_mk_row (by decide), w1.2.1 112 (by decide)])
          have hfin := hin.bec (s := s.toInt.toNat) (by unfold c_sh at hs9; omega) hc2 (Or.inr ⟨rfl, rfl⟩ : h_and F (k + 1 + 1 + 1 + 1 + 1) (M 102 8) (k + 1 + 1 + 1 + 1 + 1) (M 102 8))
          obtain ⟨u1, -⟩ := c_I1_9 (I := I) ⟨h.2.1.2.2.1.1, e1⟩
          refine hQ _ _ _ _ _ _ _ _ (w_ref2_of (r := W 106 (M 102 8).toInt.toNat) (fun d Q hd hq => hx2 _ _ _ _ _ d Q (by omega) (fun q => absurd q hfl) (fun _ _ q => by exfalso; omega) (fun _ _ _ => hq _ hfin))) (hr.le ?_ (by omega) (by omega))
          rw [s_becI_ne (by omega), u1]
          omega
  · refine y_put hd h.2.1.1 h.2.1.2.1 h.2.1.2.2.1 ⟨by omega, by omega⟩ (c := c) (fun _ => ?_) (fun q => (hc q).ok h.2.2.1) (fun q => (hx q).1) (fun q => (hy q).1) (fun e => absurd e hok) (fun e => absurd e hok) (fun e => absurd e hok) (fun e => absurd e hok)
    exact hQ _ F T _ _ _ _ _ (w_ref2_of (w_ref_bad h (fun d Q hd hq => x_put_b (by omega) (fun q => hok (hiff.mpr q)) hq))) hr0
end
end
section
/-! ===== both objects: best and fit leave both alike (own text) ===== -/
section
variable {F : Nat → Int32 → Prop} {T : Nat → Prop} {I : wd_I} {P : wd_P} {M : wd_I} {g : Nat → ab_C} {k z d m : Nat} {Q : ab_Q}
theorem hs_best (hd : 50 ≤ d) (h : w_In F T I P M g k) (hr : k_rm (m + 1) I k z) {s p o q : Int32} (hQ : w_res2 185 25 [wd_v 102, .inl s, .inl p, .inl o, .inl q] m M Q) : ab_CT d 115 [wd_v 0, .inl s, .inl p, .inl o, .inl q] (wd I P M g, k, z) Q := by
  have hr0 : k_rm m I k z := hr.le (Int.le_refl _) (Nat.le_add_right _ _) (Nat.le_add_right _ _)
  obtain ⟨a, ha⟩ := h.sh s
  obtain ⟨b, hb⟩ := h.pa p
  have hx := fun (I' : wd_I) (P' : wd_P) (h' : w_In F T I' P' M g k) (k' z' d : Nat) (Q : ab_Q) (hd : 25 ≤ d) (hq : ∀ (r : Int32) (M' : wd_I), w_In F T I' P' M' g k → Q (some (.inl r)) (wd I' P' M' g, k', z')) => x_best (d := d) (I := I') (P := P') (g := g) (k := k') (z := z') (Q := Q) (s := s) (p := p) (o := o) (n := q) hd h.1.lok (fun M' hE => hq _ M' (h'.eqv hE))
  have hf := h.fnd (p := b) (a := a)
  refine y_best hd h.2.1.1 (fun _ => ?_) (fun q => (ha q).1) (fun q => (hb q).1) (fun _ _ => ?_) (fun _ _ _ => ?_)
  · exact hQ _ F T _ _ _ _ _ (hx _ _ h _ _) hr0
  · exact hQ _ F T _ _ _ _ _ (hx _ _ hf _ _) (hr.le (by rw [f_fnd_ne.1 _ _ (by omega)]; exact Int.le_refl _) (Nat.le_add_right _ _) (Nat.le_add_right _ _))
  · exact hQ _ F T _ _ _ _ _ (hx _ _ (hf.ix (fun x j hx => c_srt_ne (by omega)) (fun _ _ _ => rfl)) _ _) (hr.le (by rw [c_srt_ne (by omega), f_fnd_ne.1 _ _ (by omega)]; exact Int.le_refl _) (Nat.le_add_right _ _) (Nat.le_add_right _ _))
theorem m_rs_eqv {M1 N : wd_I} (hE : m_eqv M M1) : m_rs M1 N = m_rs M N := by
  unfold m_rs
  rw [hE.2.1]
theorem c_7i : (ab_ii 7).toInt = 7 := rfl
/-- what the first OVER of fit asks -/
theorem w_In.f1 (h : w_In F T I P M g k) {s p w : Int32} {a b gv : Nat} (ha : F a (M 110 s.toInt.toNat)) (hp : c_pp p) (hb : (P 8 p.toInt.toNat = some b ∧ p_wf g k b) ∧ h_pt g M 113 114 115 b p.toInt.toNat) (hw : m_sh w) (hgv : F gv (M 110 w.toInt.toNat)) {M1 : wd_I} (hE : m_eqv M M1) : o_bg F T I M1 g k a b gv (ab_ii 7) (ab_ii 0) w p (M 110 s.toInt.toNat) := by
  have hb1 : h_pt g M1 113 114 115 b p.toInt.toNat := by
    have := hb.2
    unfold h_pt at *
    rw [hE.1 113 (by decide) (by decide), hE.1 114 (by decide) (by decide), hE.1 115 (by decide) (by decide)]
    exact this
  refine (h.eqv hE).bg ha hp ⟨hb.1, hb1⟩ ?_ (fun _ => by rw [hE.1 110 (by decide) (by decide)]; exact hgv) (Or.inl c_7i)
  unfold m_how
  rw [c_7i]
  exact ⟨⟨by omega, by omega⟩, fun e => by omega, fun _ => hw⟩
/-- behind both OVERS of fit -/
theorem w_fit2 (h : w_In F T I P M g k) {s p w : Int32} {a b gv : Nat} {T2 : Nat → Prop} (ha : F a (M 110 s.toInt.toNat)) (hp : c_pp p) (hb : (P 8 p.toInt.toNat = some b ∧ p_wf g k b) ∧ h_pt g M 113 114 115 b p.toInt.toNat) (hw : m_sh w) (hgv : F gv (M 110 w.toInt.toNat)) {M1 N M2 : wd_I} {r : Int32} (hE : m_eqv M M1) (hR : (N, r) = m_co M1 (M 110 s.toInt.toNat) p (ab_ii 7) w) (hu : (N 102 36).toInt = 0) (hn2 : (N 106 r.toInt.toNat).toInt ≤ 200) (hh2 : (N 107 r.toInt.toNat).toInt ≤ 12) (hE2 : m_eqv N M2)
    (hW2 : c_W T2 (c_F2 gv b a (I, g, k, z)).2.2.1 (c_F2 gv b a (I, g, k, z)).2.2.2.1) (hT2 : ∀ x, T x → T2 x) (hx2 : c_ofr k g (c_F2 gv b a (I, g, k, z)).2.2.1) (hk2 : k ≤ (c_F2 gv b a (I, g, k, z)).2.2.2.1) (hI2 : ∀ x j, x ≠ 9 → x ≠ 10 → (c_F2 gv b a (I, g, k, z)).2.1 x j = I x j) (h92 : 0 ≤ ((c_F2 gv b a (I, g, k, z)).2.1 9 0).toInt ∧ ((c_F2 gv b a (I, g, k, z)).2.1 9 0).toInt ≤ 3000) :
    w_In F T2 (c_F2 gv b a (I, g, k, z)).2.1 (c_fP P b gv) (m_rs M (m_co M2 r p (ab_ii 7) w).1) (c_F2 gv b a (I, g, k, z)).2.2.1 (c_F2 gv b a (I, g, k, z)).2.2.2.1 ∧ ∃ F1 T1, (∀ x u, F x u → F1 x u) ∧ w_In F1 T1 (c_F1 gv b a (I, g, k, z)).2.1 (c_fP P b gv) N (c_F1 gv b a (I, g, k, z)).2.2.1 (c_F1 gv b a (I, g, k, z)).2.2.2.1 ∧ F1 (c_F1 gv b a (I, g, k, z)).1 r ∧ o_bg F1 T1 (c_F1 gv b a (I, g, k, z)).2.1 M2 (c_F1 gv b a (I, g, k, z)).2.2.1 (c_F1 gv b a (I, g, k, z)).2.2.2.1 (c_F1 gv b a (I, g, k, z)).1 b gv (ab_ii 7) (ab_ii 0) w p r := by
  have hbg := h.f1 ha hp hb hw hgv hE
  have hP : ∀ x j, x ≠ 10 → c_fP P b gv x j = P x j := fun x j q => c_cP_ne q
  have h1 := h.eqv hE
  have hta := (h.2.2.1.in ha).2
  obtain ⟨r1, r2, r3, r4, r5, r6, r7, -⟩ := o_rf (p := p) h1.1 hbg.2.2.2.2.1 (by rw [hE.2.1]; exact hta)
  have hN1 : (m_co M1 (M 110 s.toInt.toNat) p (ab_ii 7) w).1 = N := by rw [← hR]
  have hr1 : (m_co M1 (M 110 s.toInt.toNat) p (ab_ii 7) w).2 = r := by rw [← hR]
  obtain ⟨F1, T1, w0, w1, w2⟩ := w_ovk (z := z) h1 hbg hP (by rw [hN1]; exact hu) (by rw [hN1, hr1]; exact hn2) (by rw [hN1, hr1]; exact hh2)
  rw [hN1] at r1 r2 r3 r4 w0
  rw [hr1] at w2
  have hofr1 : c_ofr k g (c_R gv b a (ab_ii 7) (ab_ii 0) (I, g, k, z)).2.2.1 ∧ k ≤ (c_R gv b a (ab_ii 7) (ab_ii 0) (I, g, k, z)).2.2.2.1 := by
    obtain ⟨T', g1, -⟩ := c_R_gd (z := z) (n := ab_ii 0) (p := b) h.2.1.1 h.2.1.2.1 (h.2.2.1.in ha).1 h.2.1.2.2.1 (fun _ => (h.2.2.1.in hgv).1) (how := ab_ii 7)
    exact ⟨g1.ofr, g1.kk⟩
  have hpt2 : p_wf (c_R gv b a (ab_ii 7) (ab_ii 0) (I, g, k, z)).2.2.1 (c_R gv b a (ab_ii 7) (ab_ii 0) (I, g, k, z)).2.2.2.1 b ∧ h_pt (c_R gv b a (ab_ii 7) (ab_ii 0) (I, g, k, z)).2.2.1 M2 113 114 115 b p.toInt.toNat := by
    obtain ⟨p1, p2, p3, p4⟩ := p_wf_xt hb.1.2 hofr1.1 hofr1.2
    refine ⟨p1, ?_⟩
    have := o_pt hb.2 p2 p3 p4
    unfold h_pt at *
    rw [hE2.1 113 (by decide) (by decide), hE2.1 114 (by decide) (by decide), hE2.1 115 (by decide) (by decide), r2 113 (by decide), r2 114 (by decide), r2 115 (by decide), hE.1 113 (by decide) (by decide), hE.1 114 (by decide) (by decide), hE.1 115 (by decide) (by decide)]
    exact this
  have hw2 := w0.eqv hE2
  have e110 : M2 110 = M 110 := (hE2.1 110 (by decide) (by decide)).trans ((r2 110 (by decide)).trans (hE.1 110 (by decide) (by decide)))
  have hbg2 := hw2.bg (p := p) (how := ab_ii 7) (v := w) (gv := gv) (b := b) (n := ab_ii 0) w2 hp ⟨⟨(hP 8 _ (by omega)).trans hb.1.1, hpt2.1⟩, hpt2.2⟩ (by unfold m_how; rw [c_7i]; exact ⟨⟨by omega, by omega⟩, fun e => by omega, fun _ => hw⟩) (fun _ => by rw [e110]; exact w1 _ _ hgv) (Or.inl c_7i)
  obtain ⟨q1, q2, q3, q4, q5, q6, q7, -⟩ := o_rf (p := p) hw2.1 hbg2.2.2.2.2.1 (by rw [hE2.2.1]; exact (w0.2.2.1.in w2).2)
  have e2 := (o_end (z := (c_R gv b a (ab_ii 7) (ab_ii 0) (I, g, k, z)).2.2.2.2) hbg2).2.1
  refine ⟨h.lv hW2 hT2 hx2 hk2 (fun x j x1 x2 _ => hI2 x j x1 x2) (fun x j x1 _ => hP x j x1) h92 e2 ?_ (fun x x1 x2 => ?_) (fun j hj => ?_) ?_, F1, T1, w1, w0, w2, hbg2⟩
  · have s1 := m_eqv_sb (n := (M 102 8).toInt) hE
    rw [hE.2.1] at r1 r6
    rw [hN1] at r6
    rw [hE2.2.1] at q1
    exact ((s1.tr r1 (Int.le_refl _)).tr (m_eqv_sb hE2) (Int.le_refl _)).tr q1 r6
  · rw [q2 x x1, hE2.1 x (by omega) x2, r2 x x1, hE.1 x (by omega) x2]
  · rw [q3 j (by omega) (by omega) (by omega)]
    rcases hj with e | e
    · rw [e, hE2.2.2.2.1, r3 20 (by decide) (by decide) (by decide), hE.2.2.2.1]
    · rw [e, hE2.2.2.2.2, r3 22 (by decide) (by decide) (by decide), hE.2.2.2.2]
  · unfold m_9 at *
    rw [hE2.2.2.1] at q4
    rw [hE.2.2.1] at r4
    exact Int.le_trans r4 q4
/-- the class's side of fit -/
theorem k_fit2 (h : w_In F T I P M g k) {a b gv : Nat} (ha : T a) (hgv : T gv) : ∃ T1 T2, c_st T (c_cI I (ab_ii 7) (ab_ii 0), g, k, z) T1 (c_F1 gv b a (I, g, k, z)).2 ∧ (c_W T2 (c_F2 gv b a (I, g, k, z)).2.2.1 (c_F2 gv b a (I, g, k, z)).2.2.2.1 ∧ (∀ x, T x → T2 x) ∧ c_ofr k g (c_F2 gv b a (I, g, k, z)).2.2.1 ∧ k ≤ (c_F2 gv b a (I, g, k, z)).2.2.2.1 ∧ (∀ x j, x ≠ 9 → x ≠ 10 → (c_F2 gv b a (I, g, k, z)).2.1 x j = I x j) ∧ (0 ≤ ((c_F2 gv b a (I, g, k, z)).2.1 9 0).toInt ∧ ((c_F2 gv b a (I, g, k, z)).2.1 9 0).toInt ≤ 3000)) ∧ (k_rm (m + 1) I k z → k_rm m (c_F1 gv b a (I, g, k, z)).2.1 (c_F1 gv b a (I, g, k, z)).2.2.2.1 (c_F1 gv b a (I, g, k, z)).2.2.2.2 ∧ k_rm m (c_F2 gv b a (I, g, k, z)).2.1 (c_F2 gv b a (I, g, k, z)).2.2.2.1 (c_F2 gv b a (I, g, k, z)).2.2.2.2) := by
  have hgd := c_R_gd (z := z) (how := ab_ii 7) (n := ab_ii 0) (p := b) h.2.1.1 h.2.1.2.1 ha h.2.1.2.2.1 (fun _ => hgv)
  have hfr := c_R_fr hgd
  obtain ⟨q1, q2, q3, q4, q5⟩ := k_rm_R (m := 0) h.2.1.2.2.1 hgd
  obtain ⟨T1, g1, g2, g3⟩ := hgd
  have h125 := h.2.1.2.1
  unfold c_F2
  change c_st T (c_cI I (ab_ii 7) (ab_ii 0), g, k, z) T1 (c_F1 gv b a (I, g, k, z)).2 at g1
  change T1 (c_F1 gv b a (I, g, k, z)).1 at g2
  change ∀ x j, x ≠ 9 → x ≠ 10 → (c_F1 gv b a (I, g, k, z)).2.1 x j = I x j at hfr
  change (0 ≤ ((c_F1 gv b a (I, g, k, z)).2.1 9 0).toInt ∧ ((c_F1 gv b a (I, g, k, z)).2.1 9 0).toInt ≤ 3000) at q1
  change (I 9 0).toInt ≤ ((c_F1 gv b a (I, g, k, z)).2.1 9 0).toInt at q2
  change ((c_F1 gv b a (I, g, k, z)).2.2.2.1 : Int) + 8 * (3001 - ((c_F1 gv b a (I, g, k, z)).2.1 9 0).toInt) ≤ _ at q3
  change ((c_F1 gv b a (I, g, k, z)).2.2.2.2 : Int) + 170 * (3001 - ((c_F1 gv b a (I, g, k, z)).2.1 9 0).toInt) ≤ _ at q4
  change k ≤ (c_F1 gv b a (I, g, k, z)).2.2.2.1 at q5
  generalize c_F1 gv b a (I, g, k, z) = R at *
  obtain ⟨x1, I1, g1', k1', z1⟩ := R
  dsimp only at *
  have hwf : c_W T1 g1' k1' := g1.wf
  have hofr : c_ofr k g g1' := g1.ofr
  have hgd2 := c_R_gd (z := z1) (how := ab_ii 7) (n := ab_ii 0) (p := b) (gv := gv) hwf (show 125 ≤ k1' by omega) g2 q1 (fun _ => g1.inc _ hgv)
  have hfr2 := c_R_fr hgd2
  obtain ⟨u1, u2, u3, u4, u5⟩ := k_rm_R (m := 0) q1 hgd2
  obtain ⟨T2, g4, g5, g6⟩ := hgd2
  have hofr2 : c_ofr k1' g1' _ := g4.ofr
  refine ⟨T1, T2, g1, ⟨g4.wf, fun x hx => g4.inc _ (g1.inc _ hx), hofr.tr hofr2 q5, Nat.le_trans q5 u5, fun x j h1 h2 => (hfr2 x j h1 h2).trans (hfr x j h1 h2), u1⟩, fun hr => ?_⟩
  unfold k_rm at *
  refine ⟨by omega, by omega⟩
theorem hs_fit (hd : 98 ≤ d) (h : w_In F T I P M g k) (hr : k_rm (m + 1) I k z) {s p w : Int32} (hQ : w_res2 193 42 [wd_v 102, .inl s, .inl p, .inl w] m M Q) : ab_CT d 119 [wd_v 0, .inl s, .inl p, .inl w] (wd I P M g, k, z) Q := by
  have hr0 : k_rm m I k z := hr.le (Int.le_refl _) (Nat.le_add_right _ _) (Nat.le_add_right _ _)
  obtain ⟨a, ha⟩ := h.sh s
  obtain ⟨b, hb⟩ := h.pa p
  obtain ⟨gv, hgv⟩ := h.sh w
  have hiff : (c_sh s ∧ c_pp p ∧ c_sh w) ↔ m_fok s p w := by
    unfold m_fok c_sh c_pp m_sh m_pa
    omega
  have hP : ∀ x j, x ≠ 10 → c_fP P b gv x j = P x j := fun x j q => c_cP_ne q
  by_cases hall : c_sh s ∧ c_pp p ∧ c_sh w
  · obtain ⟨hs9, hp9, hw9⟩ := id hall
    have hfo := hiff.mp hall
    obtain ⟨T1, T2, g1, g2, g3⟩ := k_fit2 (m := m) (z := z) (b := b) h (ha hs9).1.2 (hgv hw9).1.2
    obtain ⟨rm1, rm2⟩ := g3 hr
    have hbg := fun (M1 : wd_I) (hE : m_eqv M M1) => h.f1 (ha hs9).2 hp9 (hb hp9) hfo.2.2 (hgv hw9).2 hE
    have hw1 : ∀ (M1 : wd_I), m_eqv M M1 → w_In F T1 (c_F1 gv b a (I, g, k, z)).2.1 (c_fP P b gv) (m_rs M (m_co M1 (M 110 s.toInt.toNat) p (ab_ii 7) w).1) (c_F1 gv b a (I, g, k, z)).2.2.1 (c_F1 gv b a (I, g, k, z)).2.2.2.1 := fun M1 hE => by
      rw [← m_rs_eqv hE]
      exact w_ovn (z := z) (h.eqv hE) (hbg M1 hE) g1 hP
    have hw2 := fun (M1 N M2 : wd_I) (r : Int32) (hE : m_eqv M M1) (hR : (N, r) = m_co M1 (M 110 s.toInt.toNat) p (ab_ii 7) w) hu hn2 hh2 (hE2 : m_eqv N M2) => (w_fit2 (z := z) (T2 := T2) h (ha hs9).2 hp9 (hb hp9) hfo.2.2 (hgv hw9).2 hE hR hu hn2 hh2 hE2 g2.1 g2.2.1 g2.2.2.1 g2.2.2.2.1 g2.2.2.2.2.1 g2.2.2.2.2.2).1
    have hen := fun (M1 : wd_I) (hE : m_eqv M M1) => o_end (z := z) (hbg M1 hE)
    -- what the reference does behind a first OVER that ended
    have hx2 : ((c_F1 gv b a (I, g, k, z)).2.1 10 6).toInt = 0 → ¬ c_tooM (c_F1 gv b a (I, g, k, z)).2.2.1 (c_F1 gv b a (I, g, k, z)).1 → ∀ (I' : wd_I) (P' : wd_P) (k' z' : Nat), (∀ M', w_In F T2 (c_F2 gv b a (I, g, k, z)).2.1 (c_fP P b gv) M' (c_F2 gv b a (I, g, k, z)).2.2.1 (c_F2 gv b a (I, g, k, z)).2.2.2.1 → w_In F T2 I' P' M' (c_F2 gv b a (I, g, k, z)).2.2.1 k') → w_ref2 193 42 [wd_v 102, .inl s, .inl p, .inl w] F T2 I' P' M (c_F2 gv b a (I, g, k, z)).2.2.1 k' z' := fun c1 c2 I' P' k' z' hmv d Q hd hq => by
      refine x_fit hd h.1.1 h.1.lok h.1.2.2.1 (fun e => absurd hfo e) (fun _ M1 hE e => ?_) (fun _ M1 hE e1 e2 => ?_) (fun _ M1 hE N r hR hu hn2 hh2 M2 hE2 => ?_)
      · exact absurd ((hen M1 hE).1.mp c1) e
      · exact absurd (((hen M1 hE).2.2 e1).elim (fun F' q => q.elim (fun T' q => q.2.2.2.2.2.mpr e2))) c2
      · have hfin := hmv _ (hw2 M1 N M2 r hE hR hu hn2 hh2 hE2)
        exact ⟨fun _ => hq _ _ hfin, fun _ _ => hq _ _ hfin, fun _ _ _ => hq _ _ hfin⟩
    refine y_fit hd h.2.1.1 h.2.1.2.1 h.2.1.2.2.1 hr.ro (fun e => absurd hall e) (fun q => (ha q).1) (fun q => (hb q).1) (fun q => (hgv q).1) (fun _ c1 => ?_) (fun _ c1 c2 => ?_) (fun _ c1 c2 _ => ?_) (fun _ c1 c2 _ _ => ?_) (fun _ c1 c2 _ _ => ?_)
    · refine hQ _ F T1 _ _ _ _ _ (fun d Q hd hq => x_fit hd h.1.1 h.1.lok h.1.2.2.1 (fun e => absurd hfo e) (fun _ M1 hE e => hq _ _ (hw1 M1 hE)) (fun _ M1 hE e1 e2 => absurd ((hen M1 hE).1.mpr e1) c1) (fun _ M1 hE N r hR hu hn2 hh2 M2 hE2 => ?_)) rm1
      have : ((m_co M1 (M 110 s.toInt.toNat) p (ab_ii 7) w).1 102 36).toInt = 0 := by rw [← hR]; exact hu
      exact absurd ((hen M1 hE).1.mpr this) c1
    · refine hQ _ F T1 _ _ _ _ _ (fun d Q hd hq => x_fit hd h.1.1 h.1.lok h.1.2.2.1 (fun e => absurd hfo e) (fun _ M1 hE e => hq _ _ (hw1 M1 hE)) (fun _ M1 hE e1 e2 => hq _ _ (hw1 M1 hE)) (fun _ M1 hE N r hR hu hn2 hh2 M2 hE2 => ?_)) rm1
      exfalso
      have hu' : ((m_co M1 (M 110 s.toInt.toNat) p (ab_ii 7) w).1 102 36).toInt = 0 := by rw [← hR]; exact hu
      obtain ⟨F', T', -, -, -, -, -, q⟩ := (hen M1 hE).2.2 hu'
      have := q.mp c2
      rw [← hR] at this
      dsimp only at this
      omega
    · exact hQ _ F T2 _ _ _ _ _ (hx2 c1 c2 _ _ _ _ (fun _ q => q)) rm2
    · exact hQ _ F T2 _ _ _ _ _ (hx2 c1 c2 _ _ _ _ (fun _ q => q)) rm2
    · exact hQ _ F T2 _ _ _ _ _ (hx2 c1 c2 _ _ _ _ (fun _ q => q.fnd)) (by unfold k_rm at *; rw [f_fnd_ne.1 _ _ (by omega)]; exact rm2)
  · refine y_fit hd h.2.1.1 h.2.1.2.1 h.2.1.2.2.1 hr.ro (fun e => ?_) (fun q => (ha q).1) (fun q => (hb q).1) (fun q => (hgv q).1) (fun e => absurd e hall) (fun e => absurd e hall) (fun e => absurd e hall) (fun e => absurd e hall) (fun e => absurd e hall)
    exact hQ _ F T _ _ _ _ _ (fun d Q hd hq => x_fit hd h.1.1 h.1.lok h.1.2.2.1 (fun _ => hq _ _ h) (fun e => absurd (hiff.mpr e) hall) (fun e => absurd (hiff.mpr e) hall) (fun e => absurd (hiff.mpr e) hall)) hr0
end
end
