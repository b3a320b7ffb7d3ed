/-! ===== both objects: things made alike (own text) ===== -/
/-- paired, with bounds of sizes and heights -/
def h_k (F : Nat → Int32 → Prop) (T : Nat → Prop) (g : Nat → ab_C) (M : wd_I) (n : Int) : Prop := h_ok F T g M n ∧ ∀ a t, F a t → c_sz g a ≤ 12 ∧ 0 ≤ (M 107 t.toInt.toNat).toInt ∧ (M 107 t.toInt.toNat).toInt ≤ 13 ∧ ((M 103 t.toInt.toNat).toInt = 3 → M 104 t.toInt.toNat = ab_ii 0)
/-- one thing looks the same in two heaps -/
def h_sm (g g' : Nat → ab_C) (a : Nat) : Prop := c_sz g' a = c_sz g a ∧ (∀ j, c_pt g' a j = c_pt g a j) ∧ (∀ j, c_ky g' a j = c_ky g a j) ∧ (∀ j, c_i g' a j = c_i g a j)
theorem h_sm_wf {T : Nat → Prop} {g g' : Nat → ab_C} {k' a : Nat} (h : c_wf T g' k' a ∧ c_sz g' a = c_sz g a ∧ (∀ j, c_pt g' a j = c_pt g a j) ∧ (∀ j, c_ky g' a j = c_ky g a j) ∧ (∀ j, c_i g' a j = c_i g a j) ∧ c_ka g' a = c_ka g a ∧ c_pa g' a = c_pa g a) : h_sm g g' a := ⟨h.2.1, h.2.2.1, h.2.2.2.1, h.2.2.2.2.1⟩
section
variable {F F' : Nat → Int32 → Prop} {T T' : Nat → Prop} {g g' : Nat → ab_C} {M N : wd_I} {n n' : Int} {k : Nat}
theorem h_k.mv (h : h_k F T g M n) (hT : ∀ b, T b → T' b) (hg : ∀ a, T a → h_sm g g' a) (hs : ∀ b u, F b u → m_ra M N u.toInt.toNat) (hn : n ≤ n') : h_k F T' g' N n' := by
  obtain ⟨⟨h1, h2, h3⟩, h4⟩ := h
  refine ⟨⟨fun a t ha => ?_, h2, h3⟩, fun a t ha => ?_⟩
  · obtain ⟨⟨b1, b2, b3⟩, p0, p1, p2, p3, p4, p5⟩ := h1 a t ha
    obtain ⟨g1, g2, g3, g4⟩ := hg a b1
    obtain ⟨s3, s4, s5, s6, s7, s8⟩ := hs a t ha
    have s12 := (h4 a t ha).1
    refine ⟨⟨hT a b1, b2, by omega⟩, by rw [g4, s3]; exact p0, by rw [g4, s4]; exact p1, by rw [g4, s6]; exact p2, by rw [g4, s7]; exact p3, by rw [g1, s5]; exact p4, fun j hj => ?_⟩
    rw [g1] at hj
    obtain ⟨q8, q9⟩ := s8 j (by omega)
    rw [g2, g3, q8, q9]
    exact p5 j hj
  · obtain ⟨⟨b1, b2, b3⟩, -⟩ := h1 a t ha
    obtain ⟨g1, -⟩ := hg a b1
    obtain ⟨s3, s4, -, -, s7, -⟩ := hs a t ha
    rw [g1, s7, s3, s4]
    exact h4 a t ha
theorem h_k.in (h : h_k F T g M n) {a : Nat} {t : Int32} (ha : F a t) : T a ∧ 0 ≤ t.toInt ∧ t.toInt < n := (h.1.1 a t ha).1
theorem h_k.sb (h : h_k F T g M n) {n0 : Int} (hs : m_sb n0 M N) (hn : n ≤ n0) : ∀ b u, F b u → m_ra M N u.toInt.toNat := fun b u q => by
  have := h.in q
  exact hs.ra (by omega)
theorem c_hs_ofr {S S' : c_St} (h : c_hs T S T' S') : c_ofr S.2.2.1 S.2.1 S'.2.1 := c_st.ofr (S0 := (c_J, S.2)) (S := (c_J, S'.2)) h
theorem c_hs_kk {S S' : c_St} (h : c_hs T S T' S') : S.2.2.1 ≤ S'.2.2.1 := c_st.kk (S0 := (c_J, S.2)) (S := (c_J, S'.2)) h
theorem c_hs_wf {S S' : c_St} (h : c_hs T S T' S') : c_W T' S'.2.1 S'.2.2.1 := c_st.wf (S0 := (c_J, S.2)) (S := (c_J, S'.2)) h
theorem c_hs_nq {S S' : c_St} (h : c_hs T S T' S') : ∀ q, q < S.2.2.1 → c_nq T S.2.1 q → c_nq T' S'.2.1 q := c_st.nq (S0 := (c_J, S.2)) (S := (c_J, S'.2)) h
theorem c_hs_tr {T2 : Nat → Prop} {S S' S2 : c_St} (h : c_hs T S T' S') (h' : c_hs T' S' T2 S2) : c_hs T S T2 S2 := c_st.tr (S0 := (c_J, S.2)) (S1 := (c_J, S'.2)) (S2 := (c_J, S2.2)) h h'
theorem h_sm_st {S S' : c_St} (hW : c_W T S.2.1 S.2.2.1) (hc : c_hs T S T' S') : ∀ a, T a → h_sm S.2.1 S'.2.1 a := fun a ha => h_sm_wf (c_wf_xt (hW a ha) (c_hs_ofr hc) (c_hs_kk hc))
theorem h_sm_pu {x m : Nat} {fk : Nat → Int32} {fp : Nat → Option Nat} (hW : c_W T g k) (hn : c_nq3 T g x) : ∀ a, T a → h_sm g (c_pu g x fk fp m) a := fun a ha => by
  obtain ⟨n0, n1, n2⟩ := hn
  obtain ⟨a0, a1, a2⟩ := n0 a ha
  obtain ⟨b0, b1, b2⟩ := n1 a ha
  obtain ⟨c0, c1, c2⟩ := n2 a ha
  have e : ∀ q, q ≠ x → q ≠ x + 1 → q ≠ x + 2 → c_pu g x fk fp m q = g q := fun q q0 q1 q2 => by
    unfold c_pu
    rw [ab_up_ne _ _ q2, ab_up_ne _ _ q1, ab_up_ne _ _ q0]
  exact h_sm_wf (c_wf_eq (hW a ha) (e _ a0 b0 c0) (e _ a1 b1 c1) (e _ a2 b2 c2) (Nat.le_refl _))
/-- one pair more -/
def h_and (F : Nat → Int32 → Prop) (a : Nat) (t : Int32) : Nat → Int32 → Prop := fun b u => F b u ∨ (b = a ∧ u = t)
theorem h_k.add (h : h_k F T g M n) {a : Nat} {t : Int32} (ha : T a) (ht : 0 ≤ t.toInt ∧ t.toInt < n) (hr : h_pr F g M a t) (hs : c_sz g a ≤ 12) (hh : 0 ≤ (M 107 t.toInt.toNat).toInt ∧ (M 107 t.toInt.toNat).toInt ≤ 13) (hna : ∀ u, ¬ F a u) (hnt : ∀ b, ¬ F b t) (hz : (M 103 t.toInt.toNat).toInt = 3 → M 104 t.toInt.toNat = ab_ii 0) : h_k (h_and F a t) T g M n := by
  obtain ⟨⟨h1, h2, h3⟩, h4⟩ := h
  have hm : ∀ b u, h_pr F g M b u → h_pr (h_and F a t) g M b u := fun b u q => ⟨q.1, q.2.1, q.2.2.1, q.2.2.2.1, q.2.2.2.2.1, fun j hj => ⟨(q.2.2.2.2.2 j hj).1, Or.inl (q.2.2.2.2.2 j hj).2⟩⟩
  refine ⟨⟨fun b u q => ?_, fun b u u' q q' => ?_, fun b b' u q q' => ?_⟩, fun b u q => ?_⟩
  · rcases q with q | ⟨q1, q2⟩
    · exact ⟨(h1 b u q).1, hm _ _ (h1 b u q).2⟩
    · rw [q1, q2]; exact ⟨⟨ha, ht⟩, hm _ _ hr⟩
  · rcases q with q | ⟨q1, q2⟩ <;> rcases q' with q' | ⟨q1', q2'⟩
    · exact h2 b u u' q q'
    · rw [q1'] at q; exact absurd q (hna u)
    · rw [q1] at q'; exact absurd q' (hna u')
    · rw [q2, q2']
  · rcases q with q | ⟨q1, q2⟩ <;> rcases q' with q' | ⟨q1', q2'⟩
    · exact h3 b b' u q q'
    · rw [q2'] at q; exact absurd q (hnt b)
    · rw [q2] at q'; exact absurd q' (hnt b')
    · rw [q1, q1']
  · rcases q with q | ⟨q1, q2⟩
    · exact h4 b u q
    · rw [q1, q2]; exact ⟨hs, hh.1, hh.2, hz⟩
/-- how a thing made looks -/
theorem h_vw {a ka pa nk np : Nat} {kd wo nd ht : Int32} {fk : Nat → Int32} {fp : Nat → Option Nat} (h1 : g a = ab_ob 9 [.inl kd, .inl wo, .inl nd, .inl ht, wd_v ka, wd_v pa]) (h2 : g ka = ab_ia 0 nk fk) (h3 : g pa = ab_ra 4 np fp) : (c_i g a 0 = kd ∧ c_i g a 1 = wo ∧ c_i g a 2 = nd ∧ c_i g a 3 = ht) ∧ c_sz g a = np ∧ (∀ j, c_pt g a j = (fp j).getD 0) ∧ ∀ j, c_ky g a j = if j < nk then fk j else ab_ii 0 := by
  have e4 : c_ka g a = ka := by unfold c_ka; rw [h1]; rfl
  have e5 : c_pa g a = pa := by unfold c_pa; rw [h1]; rfl
  refine ⟨⟨by unfold c_i; rw [h1]; rfl, by unfold c_i; rw [h1]; rfl, by unfold c_i; rw [h1]; rfl, by unfold c_i; rw [h1]; rfl⟩, by unfold c_sz; rw [e5, h3]; rfl, fun j => by unfold c_pt; rw [e5, h3]; rfl, fun j => by unfold c_ky; rw [e4, h2]; rfl⟩
theorem h_nods {fp : Nat → Option Nat} {t : Int32} : ∀ s, (∀ j, j < s → c_i g ((fp j).getD 0) 2 = M 106 (M 108 (12 * t.toInt.toNat + j)).toInt.toNat) → c_nods g fp s = m_many M t s
  | 0, _ => rfl
  | s + 1, h => by
    unfold c_nods m_many
    rw [h_nods s (fun j hj => h j (by omega)), h s (by omega)]
theorem h_hts {fp : Nat → Option Nat} {t : Int32} {hb : Int} (hb0 : 0 ≤ hb ∧ hb ≤ 13) : ∀ s, (∀ j, j < s → c_i g ((fp j).getD 0) 3 = M 107 (M 108 (12 * t.toInt.toNat + j)).toInt.toNat ∧ 0 ≤ (M 107 (M 108 (12 * t.toInt.toNat + j)).toInt.toNat).toInt ∧ (M 107 (M 108 (12 * t.toInt.toNat + j)).toInt.toNat).toInt ≤ hb) → (c_hts g fp s).toInt + 1 = (m_high M t s).toInt ∧ -1 ≤ (c_hts g fp s).toInt ∧ (c_hts g fp s).toInt ≤ hb
  | 0, _ => ⟨by show (ab_ii (-1)).toInt + 1 = (ab_ii 0).toInt; decide, by show -1 ≤ (ab_ii (-1)).toInt; decide, by show (ab_ii (-1)).toInt ≤ hb; rw [show (ab_ii (-1)).toInt = -1 from rfl]; omega⟩
  | s + 1, h => by
    obtain ⟨i1, i2, i3⟩ := h_hts hb0 s (fun j hj => h j (by omega))
    obtain ⟨j1, j2, j3⟩ := h s (by omega)
    unfold c_hts m_high
    rw [j1]
    have e := ab_tI (z := (M 107 (M 108 (12 * t.toInt.toNat + s)).toInt.toNat).toInt + 1) (by omega) (by omega)
    by_cases c : (c_hts g fp s).toInt < (M 107 (M 108 (12 * t.toInt.toNat + s)).toInt.toNat).toInt
    · rw [m_mx_t c, m_mx_t (by omega), e]
      omega
    · rw [m_mx_f c, m_mx_f (by omega)]
      omega
/-- a thing in the making -/
def h_ip (F : Nat → Int32 → Prop) (M : wd_I) (t : Int32) (s : Nat) (fk : Nat → Int32) (fp : Nat → Option Nat) (hb : Int) : Prop := (M 105 t.toInt.toNat).toInt = (s : Int) ∧ ∀ j, j < s → ∃ b, fp j = some b ∧ F b (M 108 (12 * t.toInt.toNat + j)) ∧ M 109 (12 * t.toInt.toNat + j) = fk j ∧ (M 107 (M 108 (12 * t.toInt.toNat + j)).toInt.toNat).toInt ≤ hb
theorem h_ip.mv {t : Int32} {s : Nat} {fk : Nat → Int32} {fp : Nat → Option Nat} {hb : Int} (h : h_ip F M t s fk fp hb) (h12 : s ≤ 12) (hF : ∀ b u, F b u → F' b u) (ht : m_ra M N t.toInt.toNat) (hs : ∀ b u, F b u → m_ra M N u.toInt.toNat) : h_ip F' N t s fk fp hb := by
  obtain ⟨h1, h2⟩ := h
  obtain ⟨-, -, e5, -, -, e8⟩ := ht
  refine ⟨by rw [e5]; exact h1, fun j hj => ?_⟩
  obtain ⟨b, b1, b2, b3, b4⟩ := h2 j hj
  obtain ⟨q8, q9⟩ := e8 j (by omega)
  obtain ⟨-, -, -, -, s7, -⟩ := hs b _ b2
  exact ⟨b, b1, by rw [q8]; exact hF _ _ b2, by rw [q9]; exact b3, by rw [q8, s7]; exact b4⟩
/-- it is ended, and the class's object made -/
theorem h_fin (h : h_k F T g M n) {t : Int32} {s a ka pa nk : Nat} {fk fk2 : Nat → Int32} {fp fp2 : Nat → Option Nat} {kd wo : Int32} {hb : Int} {g2 : Nat → ab_C} (hip : h_ip F M t s fk fp hb) (h12 : s ≤ 12) (ht : 0 ≤ t.toInt ∧ t.toInt < n) (hnt : ∀ b, ¬ F b t) (hna : ∀ u, ¬ F a u) (hb0 : 0 ≤ hb ∧ hb ≤ 12) (hT : ∀ b, T b → T' b) (hTa : T' a) (hsm : ∀ b, T b → h_sm g g' b) (hv : g' a = ab_ob 9 [.inl kd, .inl wo, .inl (c_nods g2 fp2 s), .inl (ab_ii ((c_hts g2 fp2 s).toInt + 1)), wd_v ka, wd_v pa]) (h2 : g' ka = ab_ia 0 nk fk2) (h3 : g' pa = ab_ra 4 s fp2) (hfp : ∀ j, j < s → fp2 j = fp j) (hfk : ∀ j, j < s → (if j < nk then fk2 j else ab_ii 0) = fk j) (hg2 : ∀ b, T b → ∀ j, c_i g2 b j = c_i g b j) (hkd : M 103 t.toInt.toNat = kd) (hwo : M 104 t.toInt.toNat = wo) (hz : kd.toInt = 3 → wo = ab_ii 0) : h_k (h_and F a t) T' g' (m_ends M t s) n ∧ (m_ends M t s 107 t.toInt.toNat).toInt ≤ hb + 1 := by
  have er : ∀ x, x ≠ 106 → x ≠ 107 → m_ends M t s x = M x := fun x h1 h2 => m_ends_row h1 h2
  have e6 : m_ends M t s 106 t.toInt.toNat = m_many M t s := by unfold m_ends; rw [wd_up_row _ _ _ (by decide), wd_up_self]
  have e7 : m_ends M t s 107 t.toInt.toNat = m_high M t s := by unfold m_ends; rw [wd_up_self]
  have hp : ∀ j, j < s → ∃ b, fp2 j = some b ∧ F b (M 108 (12 * t.toInt.toNat + j)) ∧ M 109 (12 * t.toInt.toNat + j) = fk j ∧ (M 107 (M 108 (12 * t.toInt.toNat + j)).toInt.toNat).toInt ≤ hb := fun j hj => by
    rw [hfp j hj]
    exact hip.2 j hj
  have hci : ∀ j, j < s → ∀ i, c_i g2 ((fp2 j).getD 0) i = c_i g ((fp2 j).getD 0) i ∧ F ((fp2 j).getD 0) (M 108 (12 * t.toInt.toNat + j)) := fun j hj i => by
    obtain ⟨b, b1, b2, -⟩ := hp j hj
    rw [b1]
    exact ⟨hg2 b (h.in b2).1 i, b2⟩
  have hn := h_nods (g := g2) (M := M) (fp := fp2) (t := t) s (fun j hj => by
    obtain ⟨c1, c2⟩ := hci j hj 2
    rw [c1]
    exact (h.1.1 _ _ c2).2.2.2.1)
  have hh := h_hts (g := g2) (M := M) (fp := fp2) (t := t) (hb := hb) ⟨hb0.1, by omega⟩ s (fun j hj => by
    obtain ⟨c1, c2⟩ := hci j hj 3
    obtain ⟨b, b1, b2, b3, b4⟩ := hp j hj
    rw [c1]
    exact ⟨(h.1.1 _ _ c2).2.2.2.2.1, (h.2 _ _ c2).2.1, b4⟩)
  obtain ⟨v0, v1, v2, v3⟩ := h_vw hv h2 h3
  have hM := h.mv hT hsm (N := m_ends M t s) (n' := n) (fun b u q => m_ends_ra (fun e => by
    have e1 := (h.in q).2.1
    have e2 : u = t := Int32.toInt_inj.mp (by omega)
    rw [e2] at q
    exact hnt b q)) (Int.le_refl _)
  have h7 : 0 ≤ (m_ends M t s 107 t.toInt.toNat).toInt ∧ (m_ends M t s 107 t.toInt.toNat).toInt ≤ hb + 1 := by rw [e7]; omega
  refine ⟨hM.add hTa ht ⟨?_, ?_, ?_, ?_, ?_, fun j hj => ?_⟩ (by rw [v1]; exact h12) ⟨h7.1, by omega⟩ hna hnt (by rw [er 103 (by decide) (by decide), er 104 (by decide) (by decide), hkd, hwo]; exact hz), h7.2⟩
  · rw [v0.1, er 103 (by decide) (by decide)]; exact hkd.symm
  · rw [v0.2.1, er 104 (by decide) (by decide)]; exact hwo.symm
  · rw [v0.2.2.1, e6]; exact hn
  · rw [v0.2.2.2, e7, hh.1]; exact ab_ii_toInt _
  · rw [v1, er 105 (by decide) (by decide)]; exact hip.1.symm
  · rw [v1] at hj
    obtain ⟨b, b1, b2, b3, -⟩ := hp j hj
    rw [v2, v3, er 108 (by decide) (by decide), er 109 (by decide) (by decide), hfk j hj, b3, b1]
    exact ⟨rfl, b2⟩
end
