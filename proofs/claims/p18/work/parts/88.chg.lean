/-! ===== the class: what OVER makes are things (own text) ===== -/
/-- nothing but what is made, the foci counted, and spent -/
def c_Ifr (I I' : wd_I) : Prop := ∀ a j, ¬ (a = 9 ∧ j = 0) → ¬ (a = 10 ∧ (j = 5 ∨ j = 6)) → I' a j = I a j
theorem c_Ifr.rf {I : wd_I} : c_Ifr I I := fun _ _ _ _ => rfl
theorem c_Ifr.tr {I I' I'' : wd_I} (h : c_Ifr I I') (h' : c_Ifr I' I'') : c_Ifr I I'' := fun a j h1 h2 => (h' a j h1 h2).trans (h a j h1 h2)
theorem c_Ifr_f {I : wd_I} : c_Ifr I (c_fI I) := fun a j h1 h2 => wd_up_ne _ _ (by omega)
theorem c_Ifr_1 {I : wd_I} : c_Ifr I (c_I1 I) := fun a j h1 h2 => wd_up_ne _ _ (by omega)
theorem c_Ifr_0 {I : wd_I} : c_Ifr I (c_I0 I) := fun a j h1 h2 => wd_up_ne _ _ (by omega)
/-- old cells as they were -/
def c_ofr (k : Nat) (g g' : Nat → ab_C) : Prop := ∀ b, b < k → wd_mut b = false → g' b = g b
theorem c_ofr.rf {k : Nat} {g : Nat → ab_C} : c_ofr k g g := fun _ _ _ => rfl
theorem c_ofr.tr {k k' : Nat} {g g' g'' : Nat → ab_C} (h : c_ofr k g g') (h' : c_ofr k' g' g'') (hk : k ≤ k') : c_ofr k g g'' := fun b hb hm => (h' b (by omega) hm).trans (h b hb hm)
theorem c_ofr_up {k x : Nat} {g g' : Nat → ab_C} {c : ab_C} (h : c_ofr k g g') (hx : k ≤ x) : c_ofr k g (ab_up g' x c) := fun b hb hm => (ab_up_ne _ _ (by omega)).trans (h b hb hm)
theorem c_wf_eq {T : Nat → Prop} {g g' : Nat → ab_C} {k k' a : Nat} (h : c_wf T g k a) (ea : g' a = g a) (eka : g' (c_ka g a) = g (c_ka g a)) (epa : g' (c_pa g a) = g (c_pa g a)) (hk : k ≤ k') : c_wf T g' k' a ∧ c_sz g' a = c_sz g a ∧ (∀ j, c_pt g' a j = c_pt g a j) ∧ (∀ j, c_ky g' a j = c_ky g a j) ∧ (∀ j, c_i g' a j = c_i g a j) ∧ c_ka g' a = c_ka g a ∧ c_pa g' a = c_pa g a := by
  obtain ⟨⟨m1, m2⟩, kd, wo, nd, ht, ka, pa, nk, np, fk, fp, h1, ⟨⟨k1, k2⟩, k3, k4⟩, ⟨⟨p1, p2⟩, p3, p4⟩, h4⟩ := h
  have e4 : c_ka g a = ka := by unfold c_ka; rw [h1]; rfl
  have e5 : c_pa g a = pa := by unfold c_pa; rw [h1]; rfl
  have u4 : c_ka g' a = ka := by unfold c_ka; rw [ea, h1]; rfl
  have u5 : c_pa g' a = pa := by unfold c_pa; rw [ea, h1]; rfl
  rw [e4] at eka
  rw [e5] at epa
  have ept : ∀ j, c_pt g' a j = c_pt g a j := fun j => by unfold c_pt; rw [u5, e5, epa]
  refine ⟨⟨⟨m1, by omega⟩, kd, wo, nd, ht, ka, pa, nk, np, fk, fp, by rw [ea]; exact h1, ⟨⟨k1, by omega⟩, by rw [eka]; exact k3, k4⟩, ⟨⟨p1, by omega⟩, by rw [epa]; exact p3, p4⟩, fun j hj => ?_⟩, by unfold c_sz; rw [u5, e5, epa], ept, fun j => by unfold c_ky; rw [u4, e4, eka], fun j => by unfold c_i; rw [ea], u4.trans e4.symm, u5.trans e5.symm⟩
  rw [ept]
  exact h4 j hj
theorem c_wf_cells {T : Nat → Prop} {g : Nat → ab_C} {k a : Nat} (h : c_wf T g k a) : (wd_mut a = false ∧ a < k) ∧ (wd_mut (c_ka g a) = false ∧ c_ka g a < k) ∧ (wd_mut (c_pa g a) = false ∧ c_pa g a < k) := by
  obtain ⟨⟨m1, m2⟩, kd, wo, nd, ht, ka, pa, nk, np, fk, fp, h1, ⟨⟨k1, k2⟩, k3, k4⟩, ⟨⟨p1, p2⟩, p3, p4⟩, h4⟩ := h
  have e4 : c_ka g a = ka := by unfold c_ka; rw [h1]; rfl
  have e5 : c_pa g a = pa := by unfold c_pa; rw [h1]; rfl
  rw [e4, e5]
  exact ⟨⟨m1, m2⟩, ⟨k1, k2⟩, ⟨p1, p2⟩⟩
theorem c_wf_xt {T : Nat → Prop} {g g' : Nat → ab_C} {k k' a : Nat} (h : c_wf T g k a) (hx : c_ofr k g g') (hk : k ≤ k') : c_wf T g' k' a ∧ c_sz g' a = c_sz g a ∧ (∀ j, c_pt g' a j = c_pt g a j) ∧ (∀ j, c_ky g' a j = c_ky g a j) ∧ (∀ j, c_i g' a j = c_i g a j) ∧ c_ka g' a = c_ka g a ∧ c_pa g' a = c_pa g a := by
  obtain ⟨m, m', m''⟩ := c_wf_cells h
  exact c_wf_eq h (hx _ m.2 m.1) (hx _ m'.2 m'.1) (hx _ m''.2 m''.1) hk
theorem c_W_xt {T : Nat → Prop} {g g' : Nat → ab_C} {k k' : Nat} (h : c_W T g k) (hx : c_ofr k g g') (hk : k ≤ k') : c_W T g' k' := fun a ha => (c_wf_xt (h a ha) hx hk).1
theorem p_wf_xt {g g' : Nat → ab_C} {k k' p : Nat} (h : p_wf g k p) (hx : c_ofr k g g') (hk : k ≤ k') : p_wf g' k' p ∧ p_n g' p = p_n g p ∧ (∀ i, p_sg g' p i = p_sg g p i) ∧ (∀ i, p_wd g' p i = p_wd g p i) := by
  obtain ⟨⟨m1, m2⟩, sa, wa, n, fs, fw, h1, ⟨⟨s1, s2⟩, s3⟩, ⟨⟨w1, w2⟩, w3⟩, h8⟩ := h
  have ep : g' p = g p := hx p m2 m1
  have es : g' sa = g sa := hx sa s2 s1
  have ew : g' wa = g wa := hx wa w2 w1
  have e1 : p_sa g p = sa := by unfold p_sa; rw [h1]; rfl
  have e2 : p_wa g p = wa := by unfold p_wa; rw [h1]; rfl
  have u1 : p_sa g' p = sa := by unfold p_sa; rw [ep, h1]; rfl
  have u2 : p_wa g' p = wa := by unfold p_wa; rw [ep, h1]; rfl
  exact ⟨⟨⟨m1, by omega⟩, sa, wa, n, fs, fw, by rw [ep]; exact h1, ⟨⟨s1, by omega⟩, by rw [es]; exact s3⟩, ⟨⟨w1, by omega⟩, by rw [ew]; exact w3⟩, h8⟩, by unfold p_n; rw [u1, e1, es], fun i => by unfold p_sg; rw [u1, e1, es], fun i => by unfold p_wd; rw [u2, e2, ew]⟩
/-- the things lie clear of the cell q -/
def c_nq (T : Nat → Prop) (g : Nat → ab_C) (q : Nat) : Prop := ∀ a, T a → a ≠ q ∧ c_ka g a ≠ q ∧ c_pa g a ≠ q
theorem c_nq_fr {T : Nat → Prop} {g : Nat → ab_C} {k q : Nat} (h : c_W T g k) (hq : k ≤ q) : c_nq T g q := fun a ha => by
  obtain ⟨m, m', m''⟩ := c_wf_cells (h a ha)
  exact ⟨by omega, by omega, by omega⟩
theorem c_wf_nq {T : Nat → Prop} {g : Nat → ab_C} {k a q : Nat} {c : ab_C} (h : c_W T g k) (ha : T a) (hn : c_nq T g q) : c_wf T (ab_up g q c) k a ∧ c_sz (ab_up g q c) a = c_sz g a ∧ (∀ j, c_pt (ab_up g q c) a j = c_pt g a j) ∧ (∀ j, c_ky (ab_up g q c) a j = c_ky g a j) ∧ (∀ j, c_i (ab_up g q c) a j = c_i g a j) ∧ c_ka (ab_up g q c) a = c_ka g a ∧ c_pa (ab_up g q c) a = c_pa g a := by
  obtain ⟨n1, n2, n3⟩ := hn a ha
  exact c_wf_eq (h a ha) (ab_up_ne _ _ n1) (ab_up_ne _ _ n2) (ab_up_ne _ _ n3) (Nat.le_refl _)
/-- from T0, S0 on: more things, all well made; old cells as they were -/
def c_st (T0 : Nat → Prop) (S0 : c_St) (T : Nat → Prop) (S : c_St) : Prop := (∀ b, T0 b → T b) ∧ (c_W T S.2.1 S.2.2.1) ∧ (c_ofr S0.2.2.1 S0.2.1 S.2.1) ∧ (S0.2.2.1 ≤ S.2.2.1) ∧ (c_Ifr S0.1 S.1) ∧ (∀ q, q < S0.2.2.1 → c_nq T0 S0.2.1 q → c_nq T S.2.1 q)
theorem c_st.inc {T0 T : Nat → Prop} {S0 S : c_St} (h : c_st T0 S0 T S) : ∀ b, T0 b → T b := h.1
theorem c_st.wf {T0 T : Nat → Prop} {S0 S : c_St} (h : c_st T0 S0 T S) : c_W T S.2.1 S.2.2.1 := h.2.1
theorem c_st.ofr {T0 T : Nat → Prop} {S0 S : c_St} (h : c_st T0 S0 T S) : c_ofr S0.2.2.1 S0.2.1 S.2.1 := h.2.2.1
theorem c_st.kk {T0 T : Nat → Prop} {S0 S : c_St} (h : c_st T0 S0 T S) : S0.2.2.1 ≤ S.2.2.1 := h.2.2.2.1
theorem c_st.ifr {T0 T : Nat → Prop} {S0 S : c_St} (h : c_st T0 S0 T S) : c_Ifr S0.1 S.1 := h.2.2.2.2.1
theorem c_st.nq {T0 T : Nat → Prop} {S0 S : c_St} (h : c_st T0 S0 T S) : ∀ q, q < S0.2.2.1 → c_nq T0 S0.2.1 q → c_nq T S.2.1 q := h.2.2.2.2.2
theorem c_st.rf {T : Nat → Prop} {S : c_St} (hW : c_W T S.2.1 S.2.2.1) : c_st T S T S := ⟨fun _ h => h, hW, c_ofr.rf, Nat.le_refl _, c_Ifr.rf, fun _ _ h => h⟩
theorem c_st.tr {T0 T1 T2 : Nat → Prop} {S0 S1 S2 : c_St} (h : c_st T0 S0 T1 S1) (h' : c_st T1 S1 T2 S2) : c_st T0 S0 T2 S2 := ⟨fun b hb => h'.inc b (h.inc b hb), h'.wf, h.ofr.tr h'.ofr h.kk, Nat.le_trans h.kk h'.kk, h.ifr.tr h'.ifr, fun q hq hn => h'.nq q (Nat.lt_of_lt_of_le hq h.kk) (h.nq q hq hn)⟩
section
variable {T0 T : Nat → Prop} {S0 S : c_St}
theorem c_st.I (h : c_st T0 S0 T S) {I' : wd_I} (hI : c_Ifr S.1 I') {z' : Nat} : c_st T0 S0 T (I', S.2.1, S.2.2.1, z') := ⟨h.inc, h.wf, h.ofr, h.kk, h.ifr.tr hI, h.nq⟩
theorem c_st.cell (h : c_st T0 S0 T S) {x k' z' : Nat} {c : ab_C} {I' : wd_I} (hx : S.2.2.1 ≤ x) (hk : S.2.2.1 ≤ k') (hI : c_Ifr S.1 I') : c_st T0 S0 T (I', ab_up S.2.1 x c, k', z') := by
  refine ⟨h.inc, c_W_up h.wf hx hk, c_ofr_up h.ofr (Nat.le_trans h.kk hx), Nat.le_trans h.kk hk, h.ifr.tr hI, fun q hq hn a ha => ?_⟩
  obtain ⟨-, -, -, -, -, e4, e5⟩ := c_wf_nq (c := c) h.wf ha (c_nq_fr h.wf hx)
  show a ≠ q ∧ c_ka (ab_up S.2.1 x c) a ≠ q ∧ c_pa (ab_up S.2.1 x c) a ≠ q
  rw [e4, e5]
  exact h.nq q hq hn a ha
theorem c_st.row (h : c_st T0 S0 T S) {q : Nat} {c : ab_C} (hq0 : S0.2.2.1 ≤ q) (hqn : c_nq T S.2.1 q) : c_st T0 S0 T (S.1, ab_up S.2.1 q c, S.2.2.1, S.2.2.2) := by
  refine ⟨h.inc, fun a ha => (c_wf_nq h.wf ha hqn).1, c_ofr_up h.ofr hq0, h.kk, h.ifr, fun q' hq hn a ha => ?_⟩
  obtain ⟨-, -, -, -, -, e4, e5⟩ := c_wf_nq (c := c) h.wf ha hqn
  show a ≠ q' ∧ c_ka (ab_up S.2.1 q c) a ≠ q' ∧ c_pa (ab_up S.2.1 q c) a ≠ q'
  rw [e4, e5]
  exact h.nq q' hq hn a ha
theorem c_st.thg (h : c_st T0 S0 T S) {x k' z' ka pa nk np : Nat} {kd wo : Int32} {fk : Nat → Int32} {fp : Nat → Option Nat} {I' : wd_I} (hx : S.2.2.1 ≤ x) (hxk : x < k') (hm : wd_mut x = false) (hka : (wd_mut ka = false ∧ ka < k') ∧ S.2.1 ka = ab_ia 0 nk fk ∧ nk ≤ 13) (hpa : (wd_mut pa = false ∧ pa < k') ∧ S.2.1 pa = ab_ra 4 np fp ∧ np ≤ 13) (hne : ka ≠ x ∧ pa ≠ x) (hf : c_rT T np fp) (hka0 : S0.2.2.1 ≤ ka ∨ ∃ a, T a ∧ c_ka S.2.1 a = ka) (hpa0 : S0.2.2.1 ≤ pa) (hI : c_Ifr S.1 I') : c_st T0 S0 (fun b => T b ∨ b = x) (I', ab_up S.2.1 x (c_new S.2.1 kd wo ka pa np fp), k', z') := by
  have hk := h.kk
  refine ⟨fun b hb => Or.inl (h.inc b hb), c_W_new h.wf hx hxk hm hka hpa hne hf, c_ofr_up h.ofr (by omega), by show S0.2.2.1 ≤ k'; omega, h.ifr.tr hI, fun q hq hn a ha => ?_⟩
  show a ≠ q ∧ c_ka (ab_up S.2.1 x _) a ≠ q ∧ c_pa (ab_up S.2.1 x _) a ≠ q
  have hnq := h.nq q hq hn
  rcases ha with ha | ha
  · obtain ⟨-, -, -, -, -, e4, e5⟩ := c_wf_nq (c := c_new S.2.1 kd wo ka pa np fp) h.wf ha (c_nq_fr h.wf hx)
    rw [e4, e5]
    exact hnq a ha
  · subst ha
    have e4 : c_ka (ab_up S.2.1 a (c_new S.2.1 kd wo ka pa np fp)) a = ka := by unfold c_ka; rw [ab_up_self]; rfl
    have e5 : c_pa (ab_up S.2.1 a (c_new S.2.1 kd wo ka pa np fp)) a = pa := by unfold c_pa; rw [ab_up_self]; rfl
    rw [e4, e5]
    refine ⟨by omega, ?_, by omega⟩
    rcases hka0 with h1 | ⟨b, hb, h1⟩
    · omega
    · rw [← h1]; exact (hnq b hb).2.1
end
/-- room is used as things are made; u cells of it not yet paid -/
def c_us (u v : Nat) (S S' : c_St) : Prop := ((S.1 9 0).toInt ≤ (S'.1 9 0).toInt ∧ (S'.1 9 0).toInt ≤ 3000) ∧
  ((S'.1 10 6).toInt = 0 → (S'.2.2.1 : Int) + 8 * (3001 - (S'.1 9 0).toInt) ≤ S.2.2.1 + 8 * (3001 - (S.1 9 0).toInt) + u ∧ (S'.2.2.2 : Int) + 170 * (3001 - (S'.1 9 0).toInt) ≤ S.2.2.2 + 170 * (3001 - (S.1 9 0).toInt) + 13 * u) ∧
  ((S'.2.2.1 : Int) ≤ S.2.2.1 + 8 * (3001 - (S.1 9 0).toInt) + v ∧ (S'.2.2.2 : Int) ≤ S.2.2.2 + 170 * (3001 - (S.1 9 0).toInt) + 40 * v)
theorem c_us.rf {S : c_St} (h0 : 0 ≤ (S.1 9 0).toInt ∧ (S.1 9 0).toInt ≤ 3000) : c_us 0 0 S S := by
  unfold c_us
  omega
theorem c_us.tr {u v v' : Nat} {S S' S'' : c_St} (h : c_us u v S S') (h' : c_us 0 v' S' S'') (hs : (S'.1 10 6).toInt = 0) : c_us u (v' + u) S S'' := by
  unfold c_us at *
  omega
theorem c_us.mo {u v u' v' : Nat} {S S' : c_St} (h : c_us u v S S') (hu : u ≤ u') (hv : v ≤ v') : c_us u' v' S S' := by
  unfold c_us at *
  omega
/-- what comes of a step: a thing, all things well made, old cells as they were -/
def c_gd (T : Nat → Prop) (v : Nat) (S : c_St) (R : Nat × c_St) : Prop := ∃ T' : Nat → Prop, c_st T S T' R.2 ∧ T' R.1 ∧ c_us 0 v S R.2
theorem c_I1_9 {I : wd_I} (h : 0 ≤ (I 9 0).toInt ∧ (I 9 0).toInt < 3000) : (c_I1 I 9 0).toInt = (I 9 0).toInt + 1 ∧ c_I1 I 10 6 = I 10 6 := by
  unfold c_I1
  rw [wd_up_self, wd_up_ne _ _ (by omega), ab_tI (by omega) (by omega)]
  exact ⟨rfl, rfl⟩
theorem c_I0_9 {I : wd_I} : c_I0 I 9 0 = I 9 0 ∧ (c_I0 I 10 6).toInt = 1 := by
  unfold c_I0
  rw [wd_up_self, wd_up_ne _ _ (by omega)]
  exact ⟨rfl, by decide⟩
section
variable {T0 T : Nat → Prop} {S0 : c_St} {I : wd_I} {g : Nat → ab_C} {k z : Nat}
theorem c_mkA_gd {u v : Nat} {a q np : Nat} {fq : Nat → Option Nat} (h : c_st T0 S0 T (I, g, k, z)) (hu : c_us u v S0 (I, g, k, z)) (hu7 : u ≤ 6) (h125 : 125 ≤ k) (ha : T a) (hq0 : S0.2.2.1 ≤ q) (hq : (wd_mut q = false ∧ q < k) ∧ g q = ab_ra 4 np fq ∧ np ≤ 13) (hf : c_rT T np fq) (h0 : 0 ≤ (I 9 0).toInt ∧ (I 9 0).toInt ≤ 3000) : c_gd T0 v S0 (c_mkA a q np fq (I, g, k, z)) := by
  have hW : c_W T g k := h.wf
  obtain ⟨ka, pa, nk, np', fk, fp, hcc, ⟨hnk, -⟩, -, -, -, -, ⟨e4, -⟩, ⟨-, m2, -⟩, ⟨l1, l2, -⟩⟩ := c_W_get hW ha
  have hka : g ka = ab_ia 0 nk fk := (wd_g (I := I) (P := fun _ _ => none) (M := I) m2).symm.trans (hcc I (fun _ _ => none) I 0).2.1
  unfold c_mkA
  dsimp only
  split
  next hs =>
    split
    next hm =>
      obtain ⟨u1, u2⟩ := c_I1_9 (I := I) ⟨h0.1, hm⟩
      refine ⟨fun b => T b ∨ b = k, ?_, Or.inr rfl, ?_⟩
      · refine c_st.thg (fk := fk) (nk := nk) h (Nat.le_refl _) (Nat.lt_succ_self _) (wd_mut_new h125) ?_ ⟨⟨hq.1.1, by omega⟩, hq.2⟩ ⟨?_, by omega⟩ hf (Or.inr ⟨a, ha, rfl⟩) hq0 c_Ifr_1
        · rw [e4]; exact ⟨⟨m2, by show ka < k + 1; omega⟩, hka, hnk⟩
        · rw [e4]; omega
      · unfold c_us at *
        dsimp only at *
        rw [u1, u2]
        omega
    next hm =>
      obtain ⟨u1, u2⟩ := c_I0_9 (I := I)
      refine ⟨T, h.I c_Ifr_0, ha, ?_⟩
      unfold c_us at *
      dsimp only at *
      rw [u1, u2]
      omega
  next hs =>
    refine ⟨T, h, ha, ?_⟩
    unfold c_us at *
    dsimp only at *
    omega
/-- a new thing with no keys -/
theorem c_mkg_st (h : c_st T0 S0 T (I, g, k, z)) (h125 : 125 ≤ k) {kd wo : Int32} {q np z' : Nat} {fq : Nat → Option Nat} {I' : wd_I} (hq0 : S0.2.2.1 ≤ q) (hq : (wd_mut q = false ∧ q < k) ∧ g q = ab_ra 4 np fq ∧ np ≤ 13) (hf : c_rT T np fq) (hI : c_Ifr I I') : c_st T0 S0 (fun b => T b ∨ b = k) (I', c_mkg g k kd wo q np fq, k + 2, z') := by
  have hk : S0.2.2.1 ≤ k := h.kk
  have h1 := c_st.cell h (x := k + 1) (k' := k) (z' := z) (c := ab_ia 0 0 (fun _ => 0)) (I' := I) (by show k ≤ k + 1; omega) (Nat.le_refl _) c_Ifr.rf
  refine c_st.thg (S := (I, ab_up g (k + 1) (ab_ia 0 0 (fun _ => 0)), k, z)) (fk := fun _ => 0) (nk := 0) h1 (Nat.le_refl _) (by omega) (wd_mut_new h125) ⟨⟨wd_mut_new (by omega), by omega⟩, ab_up_self _ _ _, by omega⟩ ⟨⟨hq.1.1, by omega⟩, ?_, hq.2.2⟩ ⟨by omega, by omega⟩ hf (Or.inl (by omega)) hq0 hI
  exact (ab_up_ne _ _ (by omega)).trans hq.2.1
theorem c_mkN_gd {u v : Nat} {kd wo : Int32} {r q np : Nat} {fq : Nat → Option Nat} (h : c_st T0 S0 T (I, g, k, z)) (hu : c_us u v S0 (I, g, k, z)) (hu6 : u ≤ 6) (h125 : 125 ≤ k) (hr : T r) (hq0 : S0.2.2.1 ≤ q) (hq : (wd_mut q = false ∧ q < k) ∧ g q = ab_ra 4 np fq ∧ np ≤ 13) (hf : c_rT T np fq) (h0 : 0 ≤ (I 9 0).toInt ∧ (I 9 0).toInt ≤ 3000) : c_gd T0 v S0 (c_mkN kd wo q np fq r (I, g, k, z)) := by
  unfold c_mkN
  dsimp only
  split
  next hs =>
    split
    next hm =>
      obtain ⟨u1, u2⟩ := c_I1_9 (I := I) ⟨h0.1, hm⟩
      refine ⟨fun b => T b ∨ b = k, c_mkg_st h h125 hq0 hq hf c_Ifr_1, Or.inr rfl, ?_⟩
      unfold c_us at *
      dsimp only at *
      rw [u1, u2]
      omega
    next hm =>
      obtain ⟨u1, u2⟩ := c_I0_9 (I := I)
      refine ⟨T, h.I c_Ifr_0, hr, ?_⟩
      unfold c_us at *
      dsimp only at *
      rw [u1, u2]
      omega
  next hs =>
    refine ⟨T, h, hr, ?_⟩
    unfold c_us at *
    dsimp only at *
    omega
end
