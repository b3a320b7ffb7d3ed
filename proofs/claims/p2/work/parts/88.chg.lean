/-! ===== the class: what OVER makes are things (own text) ===== -/
/-- nothing but what is made, the foci counted, and spent -/
def c_Ifr (I I' : wd_I) : Prop := ∀ a j, ¬ (a = 9 ∧ j = 0) → ¬ (a = 10 ∧ (j = 5 ∨ j = 6)) → I' a j = I a j
theorem c_Ifr.rf {I : wd_I} : c_Ifr I I := fun _ _ _ _ => rfl
theorem c_Ifr.tr {I I' I'' : wd_I} (h : c_Ifr I I') (h' : c_Ifr I' I'') : c_Ifr I I'' := fun a j h1 h2 => (h' a j h1 h2).trans (h a j h1 h2)
theorem c_Ifr_f {I : wd_I} : c_Ifr I (c_fI I) := fun a j h1 h2 => wd_up_ne _ _ (by omega)
theorem c_Ifr_1 {I : wd_I} : c_Ifr I (c_I1 I) := fun a j h1 h2 => wd_up_ne _ _ (by omega)
theorem c_Ifr_0 {I : wd_I} : c_Ifr I (c_I0 I) := fun a j h1 h2 => wd_up_ne _ _ (by omega)
/-- old cells as they were -/
def c_ofr (k : Nat) (g g' : Nat → ab_C) : Prop := ∀ b, b < k → wd_mut b = false → g' b = g b
theorem c_ofr.rf {k : Nat} {g : Nat → ab_C} : c_ofr k g g := fun _ _ _ => rfl
theorem c_ofr.tr {k k' : Nat} {g g' g'' : Nat → ab_C} (h : c_ofr k g g') (h' : c_ofr k' g' g'') (hk : k ≤ k') : c_ofr k g g'' := fun b hb hm => (h' b (by omega) hm).trans (h b hb hm)
theorem c_ofr_up {k x : Nat} {g g' : Nat → ab_C} {c : ab_C} (h : c_ofr k g g') (hx : k ≤ x) : c_ofr k g (ab_up g' x c) := fun b hb hm => (ab_up_ne _ _ (by omega)).trans (h b hb hm)
theorem c_wf_xt {T : Nat → Prop} {g g' : Nat → ab_C} {k k' a : Nat} (h : c_wf T g k a) (hx : c_ofr k g g') (hk : k ≤ k') : c_wf T g' k' a ∧ c_sz g' a = c_sz g a ∧ (∀ j, c_pt g' a j = c_pt g a j) ∧ (∀ j, c_ky g' a j = c_ky g a j) ∧ (∀ j, c_i g' a j = c_i g a j) ∧ c_ka g' a = c_ka g a := by
  obtain ⟨⟨m1, m2⟩, kd, wo, nd, ht, ka, pa, nk, np, fk, fp, h1, ⟨⟨k1, k2⟩, k3, k4⟩, ⟨⟨p1, p2⟩, p3, p4⟩, h4⟩ := h
  have ea : g' a = g a := hx a m2 m1
  have eka : g' ka = g ka := hx ka k2 k1
  have epa : g' pa = g pa := hx pa p2 p1
  have e4 : c_ka g a = ka := by unfold c_ka; rw [h1]; rfl
  have e5 : c_pa g a = pa := by unfold c_pa; rw [h1]; rfl
  have u4 : c_ka g' a = ka := by unfold c_ka; rw [ea, h1]; rfl
  have u5 : c_pa g' a = pa := by unfold c_pa; rw [ea, h1]; rfl
  have ept : ∀ j, c_pt g' a j = c_pt g a j := fun j => by unfold c_pt; rw [u5, e5, epa]
  refine ⟨⟨⟨m1, by omega⟩, kd, wo, nd, ht, ka, pa, nk, np, fk, fp, by rw [ea]; exact h1, ⟨⟨k1, by omega⟩, by rw [eka]; exact k3, k4⟩, ⟨⟨p1, by omega⟩, by rw [epa]; exact p3, p4⟩, fun j hj => ?_⟩, by unfold c_sz; rw [u5, e5, epa], ept, fun j => by unfold c_ky; rw [u4, e4, eka], fun j => by unfold c_i; rw [ea], u4.trans e4.symm⟩
  rw [ept]
  exact h4 j hj
theorem c_W_xt {T : Nat → Prop} {g g' : Nat → ab_C} {k k' : Nat} (h : c_W T g k) (hx : c_ofr k g g') (hk : k ≤ k') : c_W T g' k' := fun a ha => (c_wf_xt (h a ha) hx hk).1
theorem p_wf_xt {g g' : Nat → ab_C} {k k' p : Nat} (h : p_wf g k p) (hx : c_ofr k g g') (hk : k ≤ k') : p_wf g' k' p ∧ p_n g' p = p_n g p ∧ (∀ i, p_sg g' p i = p_sg g p i) ∧ (∀ i, p_wd g' p i = p_wd g p i) := by
  obtain ⟨⟨m1, m2⟩, sa, wa, n, fs, fw, h1, ⟨⟨s1, s2⟩, s3⟩, ⟨⟨w1, w2⟩, w3⟩, h8⟩ := h
  have ep : g' p = g p := hx p m2 m1
  have es : g' sa = g sa := hx sa s2 s1
  have ew : g' wa = g wa := hx wa w2 w1
  have e1 : p_sa g p = sa := by unfold p_sa; rw [h1]; rfl
  have e2 : p_wa g p = wa := by unfold p_wa; rw [h1]; rfl
  have u1 : p_sa g' p = sa := by unfold p_sa; rw [ep, h1]; rfl
  have u2 : p_wa g' p = wa := by unfold p_wa; rw [ep, h1]; rfl
  exact ⟨⟨⟨m1, by omega⟩, sa, wa, n, fs, fw, by rw [ep]; exact h1, ⟨⟨s1, by omega⟩, by rw [es]; exact s3⟩, ⟨⟨w1, by omega⟩, by rw [ew]; exact w3⟩, h8⟩, by unfold p_n; rw [u1, e1, es], fun i => by unfold p_sg; rw [u1, e1, es], fun i => by unfold p_wd; rw [u2, e2, ew]⟩
/-- room is used as things are made -/
def c_use (f : Nat) (S S' : c_St) : Prop := ((S.1 9 0).toInt ≤ (S'.1 9 0).toInt ∧ (S'.1 9 0).toInt ≤ 3000) ∧
  ((S'.1 10 6).toInt = 0 → (S'.2.2.1 : Int) + 8 * (3001 - (S'.1 9 0).toInt) ≤ S.2.2.1 + 8 * (3001 - (S.1 9 0).toInt) ∧ (S'.2.2.2 : Int) + 170 * (3001 - (S'.1 9 0).toInt) ≤ S.2.2.2 + 170 * (3001 - (S.1 9 0).toInt)) ∧
  ((S'.2.2.1 : Int) ≤ S.2.2.1 + 8 * (3001 - (S.1 9 0).toInt) + 2 * f + 12 ∧ (S'.2.2.2 : Int) ≤ S.2.2.2 + 170 * (3001 - (S.1 9 0).toInt) + 40 * f + 400)
/-- what comes of a step: a thing, all things well made, old cells as they were -/
def c_gd (T : Nat → Prop) (f : Nat) (S : c_St) (R : Nat × c_St) : Prop := ∃ T' : Nat → Prop, (∀ b, T b → T' b) ∧ c_W T' R.2.2.1 R.2.2.2.1 ∧ T' R.1 ∧ c_ofr S.2.2.1 S.2.1 R.2.2.1 ∧ S.2.2.1 ≤ R.2.2.2.1 ∧ c_Ifr S.1 R.2.1 ∧ c_use f S R.2
theorem c_I1_9 {I : wd_I} (h : 0 ≤ (I 9 0).toInt ∧ (I 9 0).toInt < 3000) : (c_I1 I 9 0).toInt = (I 9 0).toInt + 1 ∧ c_I1 I 10 6 = I 10 6 := by
  unfold c_I1
  rw [wd_up_self, wd_up_ne _ _ (by omega), ab_tI (by omega) (by omega)]
  exact ⟨rfl, rfl⟩
theorem c_I0_9 {I : wd_I} : c_I0 I 9 0 = I 9 0 ∧ (c_I0 I 10 6).toInt = 1 := by
  unfold c_I0
  rw [wd_up_self, wd_up_ne _ _ (by omega)]
  exact ⟨rfl, by decide⟩
section
variable {T : Nat → Prop}
theorem c_mkA_gd {f : Nat} {S : c_St} {a q np : Nat} {fq : Nat → Option Nat} (hW : c_W T S.2.1 S.2.2.1) (h125 : 125 ≤ S.2.2.1) (ha : T a) (hq : (wd_mut q = false ∧ q < S.2.2.1) ∧ S.2.1 q = ab_ra 4 np fq ∧ np ≤ 13) (hf : c_rT T np fq) (h0 : 0 ≤ (S.1 9 0).toInt ∧ (S.1 9 0).toInt ≤ 3000) : c_gd T f S (c_mkA a q np fq S) := by
  obtain ⟨ka, pa, nk, np', fk, fp, hcc, ⟨hnk, -⟩, -, -, -, -, ⟨e4, -⟩, ⟨-, m2, -⟩, ⟨l1, l2, -⟩⟩ := c_W_get hW ha
  have hka : S.2.1 ka = ab_ia 0 nk fk := (wd_g (I := S.1) (P := fun _ _ => none) (M := S.1) m2).symm.trans (hcc S.1 (fun _ _ => none) S.1 0).2.1
  unfold c_mkA
  split
  next hs =>
    split
    next hm =>
      obtain ⟨u1, u2⟩ := c_I1_9 (I := S.1) ⟨h0.1, hm⟩
      refine ⟨fun b => T b ∨ b = S.2.2.1, fun b hb => Or.inl hb, ?_, Or.inr rfl, c_ofr_up c_ofr.rf (Nat.le_refl _), Nat.le_succ _, c_Ifr_1, ?_⟩
      · refine c_W_new (fk := fk) (nk := nk) hW (Nat.le_refl _) (Nat.lt_succ_self _) (wd_mut_new h125) ?_ ⟨⟨hq.1.1, by show q < S.2.2.1 + 1; omega⟩, hq.2⟩ ⟨?_, by omega⟩ hf
        · rw [e4]; exact ⟨⟨m2, by show ka < S.2.2.1 + 1; omega⟩, hka, hnk⟩
        · rw [e4]; omega
      · unfold c_use
        dsimp only
        rw [u1]
        omega
    next hm =>
      obtain ⟨u1, u2⟩ := c_I0_9 (I := S.1)
      refine ⟨T, fun b hb => hb, hW, ha, c_ofr.rf, Nat.le_refl _, c_Ifr_0, ?_⟩
      unfold c_use
      dsimp only
      rw [u1, u2]
      omega
  next hs =>
    refine ⟨T, fun b hb => hb, hW, ha, c_ofr.rf, Nat.le_refl _, c_Ifr.rf, ?_⟩
    unfold c_use
    dsimp only
    omega
theorem c_mkN_gd {f : Nat} {S : c_St} {kd wo : Int32} {r q np : Nat} {fq : Nat → Option Nat} (hW : c_W T S.2.1 S.2.2.1) (h125 : 125 ≤ S.2.2.1) (hr : T r) (hq : (wd_mut q = false ∧ q < S.2.2.1) ∧ S.2.1 q = ab_ra 4 np fq ∧ np ≤ 13) (hf : c_rT T np fq) (h0 : 0 ≤ (S.1 9 0).toInt ∧ (S.1 9 0).toInt ≤ 3000) : c_gd T f S (c_mkN kd wo q np fq r S) := by
  unfold c_mkN
  split
  next hs =>
    split
    next hm =>
      obtain ⟨u1, u2⟩ := c_I1_9 (I := S.1) ⟨h0.1, hm⟩
      refine ⟨fun b => T b ∨ b = S.2.2.1, fun b hb => Or.inl hb, ?_, Or.inr rfl, c_ofr_up (c_ofr_up c_ofr.rf (Nat.le_succ _)) (Nat.le_refl _), by show S.2.2.1 ≤ S.2.2.1 + 2; omega, c_Ifr_1, ?_⟩
      · have hW1 : c_W T (ab_up S.2.1 (S.2.2.1 + 1) (ab_ia 0 0 (fun _ => 0))) S.2.2.1 := c_W_up hW (by omega) (Nat.le_refl _)
        refine c_W_new (fk := fun _ => 0) (nk := 0) hW1 (Nat.le_refl _) (by show S.2.2.1 < S.2.2.1 + 2; omega) (wd_mut_new h125) ⟨⟨wd_mut_new (by omega), by show S.2.2.1 + 1 < S.2.2.1 + 2; omega⟩, ab_up_self _ _ _, by omega⟩ ⟨⟨hq.1.1, by show q < S.2.2.1 + 2; omega⟩, ?_, hq.2.2⟩ ⟨by omega, by omega⟩ hf
        rw [ab_up_ne _ _ (by omega)]
        exact hq.2.1
      · unfold c_use
        dsimp only
        rw [u1]
        omega
    next hm =>
      obtain ⟨u1, u2⟩ := c_I0_9 (I := S.1)
      refine ⟨T, fun b hb => hb, hW, hr, c_ofr.rf, Nat.le_refl _, c_Ifr_0, ?_⟩
      unfold c_use
      dsimp only
      rw [u1, u2]
      omega
  next hs =>
    refine ⟨T, fun b hb => hb, hW, hr, c_ofr.rf, Nat.le_refl _, c_Ifr.rf, ?_⟩
    unfold c_use
    dsimp only
    omega
end
