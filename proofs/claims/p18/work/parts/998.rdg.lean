/-! ===== the class: what is read is well made (own text) ===== -/
def c_J : wd_I := fun _ _ => 0
def c_hs (T0 : Nat → Prop) (S0 : c_St) (T : Nat → Prop) (S : c_St) : Prop := c_st T0 (c_J, S0.2) T (c_J, S.2)
def r_us (p q : Nat) (S S' : c_St) : Prop := (S'.2.2.1 : Int) + 6 * t_lf S'.1 + p ≤ S.2.2.1 + 6 * t_lf S.1 ∧ (S'.2.2.2 : Int) + 61 * t_lf S'.1 + q ≤ S.2.2.2 + 61 * t_lf S.1
def r_gd (T : Nat → Prop) (S : c_St) (R : r_O) : Prop := ∃ T' : Nat → Prop, c_hs T S T' R.2 ∧ (∀ a, R.1 = some a → T' a) ∧ r_tf S.1 R.2.1 ∧ r_us 0 0 S R.2
def r_pr (T : Nat → Prop) (S : c_St) : Prop := c_W T S.2.1 S.2.2.1 ∧ 125 ≤ S.2.2.1 ∧ t_tp S.1
def r_gG (G : c_St → r_O) : Prop := ∀ (T : Nat → Prop) (S : c_St), r_pr T S → r_gd T S (G S)
/-- on the way: p cells and q slots are paid ahead -/
def r_at (p q : Nat) (T0 : Nat → Prop) (S0 : c_St) (T : Nat → Prop) (S : c_St) : Prop := c_hs T0 S0 T S ∧ r_tf S0.1 S.1 ∧ r_us p q S0 S
theorem c_tog_st {T0 T : Nat → Prop} {S0 : c_St} {J : wd_I} {g : Nat → ab_C} {k z z' n m : Nat} {kd : Int32} {fk : Nat → Int32} {fp : Nat → Option Nat} (h : c_st T0 S0 T (J, g, k, z)) (h125 : 125 ≤ k) (hn : n ≤ 13) (hm : m ≤ 13) (hf : c_rT T n fp) : c_st T0 S0 (fun b => T b ∨ b = k + 1 + 1) (J, c_tog g k n m kd fk fp, k + 1 + 1 + 1, z') := by
  have hk : S0.2.2.1 ≤ k := h.kk
  have h1 := c_st.cell h (x := k) (k' := k + 1) (c := ab_ra 4 n (c_row fp n)) (z' := z) (I' := J) (Nat.le_refl _) (Nat.le_succ _) c_Ifr.rf
  have h2 := c_st.cell h1 (x := k + 1) (k' := k + 1 + 1) (c := ab_ia 0 m (c_rwi fk m)) (z' := z) (I' := J) (Nat.le_refl _) (Nat.le_succ _) c_Ifr.rf
  exact c_st.thg h2 (x := k + 1 + 1) (k' := k + 1 + 1 + 1) (ka := k + 1) (pa := k) (nk := m) (np := n) (wo := ab_ii 0) (fk := c_rwi fk m) (fp := c_row fp n) (Nat.le_refl _) (Nat.lt_succ_self _) (wd_mut_new (by omega)) ⟨⟨wd_mut_new (by omega), by omega⟩, ab_up_self _ _ _, hm⟩ ⟨⟨wd_mut_new (by omega), by omega⟩, (ab_up_ne _ _ (by omega)).trans (ab_up_self _ _ _), hn⟩ ⟨by omega, by omega⟩ (c_row_rT hf) (Or.inl (by omega)) (by omega) c_Ifr.rf
theorem c_pu_st {T0 T : Nat → Prop} {S0 : c_St} {J : wd_I} {g : Nat → ab_C} {k z z' n : Nat} {fk : Nat → Int32} {fp : Nat → Option Nat} (h : c_st T0 S0 T (J, g, k, z)) : c_st T0 S0 T (J, c_pu g k fk fp n, k + 1 + 1 + 1, z') := by
  have h1 := c_st.cell h (x := k) (k' := k + 1) (c := c_po k n) (z' := z) (I' := J) (Nat.le_refl _) (Nat.le_succ _) c_Ifr.rf
  have h2 := c_st.cell h1 (x := k + 1) (k' := k + 1 + 1) (c := ab_ia 0 13 fk) (z' := z) (I' := J) (Nat.le_refl _) (Nat.le_succ _) c_Ifr.rf
  exact c_st.cell h2 (x := k + 2) (k' := k + 1 + 1 + 1) (c := ab_ra 4 13 fp) (z' := z') (I' := J) (Nat.le_refl _) (Nat.le_succ _) c_Ifr.rf
/-- the three cells of gathered parts lie clear of the things -/
def c_nq3 (T : Nat → Prop) (g : Nat → ab_C) (x : Nat) : Prop := c_nq T g x ∧ c_nq T g (x + 1) ∧ c_nq T g (x + 2)
theorem c_nq3_fr {T : Nat → Prop} {g : Nat → ab_C} {k x : Nat} (h : c_W T g k) (hq : k ≤ x) : c_nq3 T g x := ⟨c_nq_fr h hq, c_nq_fr h (by omega), c_nq_fr h (by omega)⟩
theorem c_pu_rows {T0 T : Nat → Prop} {S0 : c_St} {J : wd_I} {g : Nat → ab_C} {k z x n : Nat} {fk : Nat → Int32} {fp : Nat → Option Nat} (h : c_st T0 S0 T (J, g, k, z)) (hx : S0.2.2.1 ≤ x) (hn : c_nq3 T g x) : c_st T0 S0 T (J, c_pu g x fk fp n, k, z) ∧ c_nq3 T (c_pu g x fk fp n) x := by
  obtain ⟨n0, n1, n2⟩ := hn
  have hW : c_W T g k := h.wf
  have h1 := c_st.row h (q := x) (c := c_po x n) hx n0
  have hW1 : c_W T (ab_up g x (c_po x n)) k := h1.wf
  have a0 := c_nq_up (c := c_po x n) hW n0 n0
  have a1 := c_nq_up (c := c_po x n) hW n0 n1
  have a2 := c_nq_up (c := c_po x n) hW n0 n2
  have h2 := c_st.row h1 (q := x + 1) (c := ab_ia 0 13 fk) (by omega) a1
  have hW2 : c_W T (ab_up (ab_up g x (c_po x n)) (x + 1) (ab_ia 0 13 fk)) k := h2.wf
  have b0 := c_nq_up (c := ab_ia 0 13 fk) hW1 a1 a0
  have b1 := c_nq_up (c := ab_ia 0 13 fk) hW1 a1 a1
  have b2 := c_nq_up (c := ab_ia 0 13 fk) hW1 a1 a2
  have h3 := c_st.row h2 (q := x + 2) (c := ab_ra 4 13 fp) (by omega) b2
  exact ⟨h3, c_nq_up (c := ab_ra 4 13 fp) hW2 b2 b0, c_nq_up (c := ab_ra 4 13 fp) hW2 b2 b1, c_nq_up (c := ab_ra 4 13 fp) hW2 b2 b2⟩
theorem c_nq3_pu {T : Nat → Prop} {g : Nat → ab_C} {k n : Nat} {fk : Nat → Int32} {fp : Nat → Option Nat} (hW : c_W T g k) : c_nq3 T (c_pu g k fk fp n) k := by
  obtain ⟨n0, n1, n2⟩ := c_nq3_fr (x := k) hW (Nat.le_refl _)
  have c1 := c_nq_up (c := c_po k n) hW n0 n0
  have c2 := c_nq_up (c := c_po k n) hW n0 n1
  have c3 := c_nq_up (c := c_po k n) hW n0 n2
  have hW1 : c_W T (ab_up g k (c_po k n)) k := c_W_up hW (Nat.le_refl _) (Nat.le_refl _)
  have d1 := c_nq_up (c := ab_ia 0 13 fk) hW1 c2 c1
  have d2 := c_nq_up (c := ab_ia 0 13 fk) hW1 c2 c2
  have d3 := c_nq_up (c := ab_ia 0 13 fk) hW1 c2 c3
  have hW2 : c_W T (ab_up (ab_up g k (c_po k n)) (k + 1) (ab_ia 0 13 fk)) k := c_W_up hW1 (by omega) (Nat.le_refl _)
  exact ⟨c_nq_up hW2 d3 d1, c_nq_up hW2 d3 d2, c_nq_up hW2 d3 d3⟩
theorem c_ins_T {T : Nat → Prop} {n p b : Nat} {fp : Nat → Option Nat} (hf : c_rT T n fp) (hp : p ≤ n) (hb : T b) : c_rT T (n + 1) (c_ins fp n p (some b)) := fun j hj => by
  unfold c_ins
  by_cases e : j = p
  · subst e; exact ⟨b, ab_up_self _ _ _, hb⟩
  · rw [ab_up_ne _ _ e]
    unfold c_shf
    split
    · exact hf (j - 1) (by omega)
    · exact hf j (by omega)
section
variable {p q : Nat} {T0 T : Nat → Prop} {S0 S : c_St} {G : c_St → r_O}
theorem r_at.rf (h : r_pr T S) : r_at 0 0 T S T S := ⟨c_st.rf h.1, r_tf.rf h.2.2, by unfold r_us; omega⟩
theorem r_at.I (h : r_at p q T0 S0 T S) {I' : wd_I} (hI : r_tf S.1 I') : r_at p q T0 S0 T (I', S.2) := ⟨h.1, h.2.1.tr hI, by have h1 := h.2.2; have h2 := hI.2.2; unfold r_us at *; (try dsimp only at *); omega⟩
theorem r_at.step (h : r_at p q T0 S0 T S) (hlt : (S.1 1 2).toInt < (S.1 1 1).toInt) : r_at (p + 6) (q + 61) T0 S0 T (t_step S.1, S.2) := by
  obtain ⟨h1, h2⟩ := t_step_tf h.2.1.2.1
  have h3 := h2 hlt
  exact ⟨h.1, h.2.1.tr h1, by have h4 := h.2.2; unfold r_us at *; (try dsimp only at *); omega⟩
theorem r_at.pr (h : r_at p q T0 S0 T S) (h0 : r_pr T0 S0) : r_pr T S := ⟨h.1.wf, Nat.le_trans h0.2.1 h.1.kk, h.2.1.2.1⟩
theorem r_at.gd (h : r_at p q T0 S0 T S) {o : Option Nat} (ho : ∀ a, o = some a → T a) : r_gd T0 S0 (o, S) := ⟨T, h.1, ho, h.2.1, by have h4 := h.2.2; unfold r_us at *; (try dsimp only at *); omega⟩
theorem r_at.go (h : r_at p q T0 S0 T S) (h0 : r_pr T0 S0) (hG : r_gG G) : ∃ T', r_at p q T0 S0 T' (G S).2 ∧ (∀ a, (G S).1 = some a → T' a) ∧ c_hs T S T' (G S).2 := by
  obtain ⟨T', g1, g2, g3, g4⟩ := hG T S (h.pr h0)
  exact ⟨T', ⟨c_st.tr h.1 g1, h.2.1.tr g3, by have h4 := h.2.2; unfold r_us at *; (try dsimp only at *); omega⟩, g2, g1⟩
theorem r_two_gd (h : r_at 6 61 T0 S0 T S) (h0 : r_pr T0 S0) {a b : Nat} (ha : T a) (hb : T b) : r_gd T0 S0 (r_two a b S) := by
  obtain ⟨I, g, k, z⟩ := S
  have h125 : 125 ≤ k := (h.pr h0).2.1
  have h1 : c_st T0 (c_J, S0.2) T (c_J, g, k, z) := h.1
  have h2 := c_pu_st (fk := c_k2) (fp := c_p2 a b) (n := 2) (z' := z) h1
  have h3 := c_tog_st (m := c_tm (ab_ii 1) 2) (kd := ab_ii 1) (fk := c_k2) (z' := z + 3 + 13 + 13 + 2 + c_tm (ab_ii 1) 2 + 6) h2 (by omega) (by omega) (by decide) (c_p2_T ha hb)
  refine ⟨_, h3, fun c hc => ?_, h.2.1, ?_⟩
  · cases hc; exact Or.inr rfl
  · have h4 := h.2.2
    have h5 : c_tm (ab_ii 1) 2 = 0 := by decide
    unfold r_us r_two at *
    dsimp only at *
    rw [h5]
    omega
theorem r_pair2_gd {R : r_O} {a : Nat} (h : r_at 6 61 T0 S0 T R.2) (h0 : r_pr T0 S0) (ha : T a) (hR : ∀ b, R.1 = some b → T b) : r_gd T0 S0 (r_pair2 a R) := by
  obtain ⟨o, S⟩ := R
  have hn := h.I (t_needs_tf (b := ab_ii 41) (h.pr h0).2.2)
  cases o with
  | none => exact h.gd (fun a q => by cases q)
  | some b =>
    unfold r_pair2
    dsimp only
    split
    · exact hn.gd (fun a q => by cases q)
    · exact r_two_gd hn h0 ha (hR b rfl)
theorem r_pair1_gd (hG : r_gG G) {R : r_O} (h : r_at 6 61 T0 S0 T R.2) (h0 : r_pr T0 S0) (hR : ∀ b, R.1 = some b → T b) : r_gd T0 S0 (r_pair1 G R) := by
  obtain ⟨o, S⟩ := R
  have hn := h.I (t_needs_tf (b := ab_ii 44) (h.pr h0).2.2)
  cases o with
  | none => exact h.gd (fun a q => by cases q)
  | some a =>
    unfold r_pair1
    dsimp only
    split
    · exact hn.gd (fun a q => by cases q)
    · obtain ⟨T', g1, g2, g3⟩ := hn.go h0 hG
      exact r_pair2_gd g1 h0 (g3.inc a (hR a rfl)) g2
theorem r_tag2_gd {R : r_O} {v : Int32} (h : r_at 6 61 T0 S0 T R.2) (h0 : r_pr T0 S0) (hR : ∀ b, R.1 = some b → T b) : r_gd T0 S0 (r_tag2 v R) := by
  obtain ⟨o, S⟩ := R
  cases o with
  | none => exact h.gd (fun a q => by cases q)
  | some b =>
    obtain ⟨I, g, k, z⟩ := S
    have h125 : 125 ≤ k := (h.pr h0).2.1
    have h1 : c_st T0 (c_J, S0.2) T (c_J, g, k, z) := h.1
    have hk : S0.2.2.1 ≤ k := h1.kk
    have h2 := c_st.cell h1 (x := k) (k' := k + 1) (c := ab_ra 4 1 (ab_up (fun _ => none) 0 (some b))) (z' := z + 1) (I' := c_J) (Nat.le_refl _) (Nat.le_succ _) c_Ifr.rf
    have h3 := c_mkg_st (kd := ab_ii 4) (wo := v) (z' := z + 1 + 6) h2 (by omega) (q := k) (np := 1) (fq := ab_up (fun _ => none) 0 (some b)) hk ⟨⟨wd_mut_new h125, by omega⟩, ab_up_self _ _ _, by omega⟩ (c_one_T (hR b rfl)) c_Ifr.rf
    refine ⟨_, h3, fun c hc => ?_, h.2.1, ?_⟩
    · cases hc; exact Or.inr rfl
    · have h4 := h.2.2
      unfold r_us r_tag2 at *
      dsimp only at *
      omega
theorem r_tagg_gd (hG : r_gG G) (h : r_at 6 61 T0 S0 T S) (h0 : r_pr T0 S0) : r_gd T0 S0 (r_tagg G S) := by
  have hn := h.I (t_digits_tf (most := 1) (h.pr h0).2.2 (by omega)).1
  unfold r_tagg
  split
  · exact hn.gd (fun a q => by cases q)
  · obtain ⟨T', g1, g2, -⟩ := hn.go h0 hG
    exact r_tag2_gd g1 h0 g2
theorem r_num_gd (h0 : r_pr T S) : r_gd T S (r_num S) := by
  obtain ⟨I, g, k, z⟩ := S
  obtain ⟨hW, h125, ht⟩ := id h0
  obtain ⟨h1, h2⟩ := t_signed_tf ht
  have hn := (r_at.rf h0).I h1
  dsimp only at *
  unfold r_num
  dsimp only
  split
  · exact hn.gd (fun a q => by cases q)
  next hc =>
    have h3 : c_st T (c_J, g, k, z) T (c_J, g, k, z) := c_st.rf hW
    have h4 := c_st.cell h3 (x := k + 1) (k' := k) (c := ab_ia 0 0 (fun _ => 0)) (z' := z) (I' := c_J) (by show k ≤ k + 1; omega) (Nat.le_refl _) c_Ifr.rf
    have h5 := c_st.cell h4 (x := k + 1 + 1) (k' := k) (c := ab_ra 4 0 (fun _ => none)) (z' := z) (I' := c_J) (by show k ≤ k + 1 + 1; omega) (Nat.le_refl _) c_Ifr.rf
    have h6 := c_st.thg h5 (x := k) (k' := k + 1 + 1 + 1) (z' := z + 6) (kd := ab_ii 0) (wo := (t_signed I).2) (ka := k + 1) (pa := k + 1 + 1) (nk := 0) (np := 0) (fk := fun _ => 0) (fp := fun _ => none) (I' := c_J) (Nat.le_refl _) (by show k < k + 1 + 1 + 1; omega) (wd_mut_new h125) ⟨⟨wd_mut_new (by omega), by omega⟩, (ab_up_ne _ _ (by omega)).trans (ab_up_self _ _ _), by omega⟩ ⟨⟨wd_mut_new (by omega), by omega⟩, ab_up_self _ _ _, by omega⟩ ⟨by omega, by omega⟩ (fun j hj => absurd hj (Nat.not_lt_zero _)) (Or.inl (by show k ≤ k + 1; omega)) (by show k ≤ k + 1 + 1; omega) c_Ifr.rf
    refine ⟨_, h6, fun c hc => ?_, h1, ?_⟩
    · cases hc; exact Or.inr rfl
    · have h7 := h2 (by omega)
      unfold r_us
      dsimp only
      omega
theorem r_tog_gd {n : Nat} {kd : Int32} {fk : Nat → Int32} {fp : Nat → Option Nat} (h : r_at 3 32 T0 S0 T S) (h0 : r_pr T0 S0) (hn : n ≤ 12) (hf : c_rT T n fp) : r_gd T0 S0 (r_tog n kd fk fp S) := by
  obtain ⟨I, g, k, z⟩ := S
  have h125 : 125 ≤ k := (h.pr h0).2.1
  have h1 : c_st T0 (c_J, S0.2) T (c_J, g, k, z) := h.1
  have hm : c_tm kd n ≤ 12 := by unfold c_tm; split <;> omega
  have h3 := c_tog_st (m := c_tm kd n) (kd := kd) (fk := fk) (z' := z + n + c_tm kd n + 6) h1 h125 (by omega) (by omega) hf
  refine ⟨_, h3, fun c hc => ?_, h.2.1, ?_⟩
  · cases hc; exact Or.inr rfl
  · have h4 := h.2.2
    unfold r_us r_tog at *
    dsimp only at *
    omega
theorem r_S3_at {x pl n b : Nat} {l : Int32} {fk : Nat → Int32} {fp : Nat → Option Nat} (h : r_at p q T0 S0 T S) (hx : S0.2.2.1 ≤ x) (hn : c_nq3 T S.2.1 x) : r_at p q T0 S0 T (r_S3 x pl n l fk fp b S) ∧ c_nq3 T (r_S3 x pl n l fk fp b S).2.1 x := by
  obtain ⟨I, g, k, z⟩ := S
  have h1 : c_st T0 (c_J, S0.2) T (c_J, g, k, z) := h.1
  obtain ⟨h2, h3⟩ := c_pu_rows (fk := c_ins fk n pl l) (fp := c_ins fp n pl (some b)) (n := n + 1) h1 hx hn
  exact ⟨⟨h2, h.2.1, h.2.2⟩, h3⟩
theorem r_mnl_gd (hG : r_gG G) (h0 : r_pr T0 S0) {kd close : Int32} {x : Nat} (hx : S0.2.2.1 ≤ x) : ∀ (r n : Nat) (fk : Nat → Int32) (fp : Nat → Option Nat) (T : Nat → Prop) (S : c_St), r + n = 12 → r_at 3 32 T0 S0 T S → c_rT T n fp → c_nq3 T S.2.1 x → x + 3 ≤ S.2.2.1 → r_gd T0 S0 (r_mnl G kd close x r n fk fp S)
  | 0, n, fk, fp, T, S, hr, h, hf, hn, hxk => h.gd (fun a q => by cases q)
  | r + 1, n, fk, fp, T, S, hr, h, hf, hn, hxk => by
    have hk := h.I (r_key_tf (kd := kd) (fk := fk) (n := n) (h.pr h0).2.2)
    unfold r_mnl
    split
    · exact hk.gd (fun a q => by cases q)
    · obtain ⟨T', g1, g2, g3⟩ := hk.go h0 hG
      generalize G ((r_key kd S.1 fk n).1, S.2) = R at *
      obtain ⟨o, S2⟩ := R
      cases o with
      | none => exact g1.gd (fun a q => by cases q)
      | some b =>
        dsimp only at *
        have hkk : S.2.2.1 ≤ S2.2.2.1 := g3.kk
        have hn2 : c_nq3 T' S2.2.1 x := ⟨g3.nq x (by show x < S.2.2.1; omega) hn.1, g3.nq (x + 1) (by show x + 1 < S.2.2.1; omega) hn.2.1, g3.nq (x + 2) (by show x + 2 < S.2.2.1; omega) hn.2.2⟩
        have hf2 := c_ins_T (c_rT_mo hf g3.inc) (r_pp_le (kd := kd) (l := (r_key kd S.1 fk n).2) (fk := fk)) (g2 b rfl)
        obtain ⟨h3, hn3⟩ := r_S3_at (pl := r_pp kd (r_key kd S.1 fk n).2 fk n) (n := n) (l := (r_key kd S.1 fk n).2) (fk := fk) (fp := fp) (b := b) g1 hx hn2
        have ht := (g1.pr h0).2.2
        split
        · exact r_tog_gd (h3.I (t_step_tf ht).1) h0 (by omega) hf2
        · split
          · exact (h3.I (t_fail_tf (p := S2.1 1 2) ht).1).gd (fun a q => by cases q)
          · exact r_mnl_gd hG h0 hx r (n + 1) _ _ T' _ (by omega) (h3.I (t_step_tf ht).1) hf2 hn3 (by show x + 3 ≤ S2.2.2.1; omega)
theorem r_many_gd (hG : r_gG G) {kd close : Int32} (h : r_at 6 61 T0 S0 T S) (h0 : r_pr T0 S0) : r_gd T0 S0 (r_many G kd close S) := by
  obtain ⟨I, g, k, z⟩ := S
  have hp := h.pr h0
  have h125 : 125 ≤ k := hp.2.1
  have h1 : c_st T0 (c_J, S0.2) T (c_J, g, k, z) := h.1
  have h2 := c_pu_st (fk := fun _ => 0) (fp := fun _ => none) (n := 0) (z' := z + 3 + 13 + 13) h1
  have h3 : r_at 3 32 T0 S0 T (r_S0 (I, g, k, z)) := ⟨h2, h.2.1, by have h4 := h.2.2; unfold r_us r_S0 at *; dsimp only at *; omega⟩
  unfold r_many
  split
  · exact r_tog_gd (h3.I (t_step_tf hp.2.2).1) h0 (by omega) (fun j hj => absurd hj (Nat.not_lt_zero _))
  · refine r_mnl_gd hG h0 h1.kk 12 0 _ _ T _ (by omega) h3 (fun j hj => absurd hj (Nat.not_lt_zero _)) ?_ (by show k + 3 ≤ k + 1 + 1 + 1; omega)
    exact c_nq3_pu h1.wf
theorem t_next_at {I : wd_I} {c : Int} (hc : (t_next I).toInt = c) (h0 : 0 ≤ c) : (I 1 2).toInt < (I 1 1).toInt := t_next_lt (by omega)
theorem r_rd1_gd (hG : r_gG G) (h0 : r_pr T S) : r_gd T S (r_rd1 G S) := by
  unfold r_rd1
  split
  next hc =>
    obtain ⟨T', g1, g2, -⟩ := ((r_at.rf h0).step (t_next_at hc (by omega))).go h0 hG
    exact r_pair1_gd hG g1 h0 g2
  next =>
    split
    next hc => exact r_many_gd hG ((r_at.rf h0).step (t_next_at hc (by omega))) h0
    next =>
      split
      next hc => exact r_many_gd hG ((r_at.rf h0).step (t_next_at hc (by omega))) h0
      next =>
        split
        next hc => exact r_tagg_gd hG ((r_at.rf h0).step (t_next_at hc (by omega))) h0
        next => exact r_num_gd h0
end
theorem r_rd_gd : ∀ f, r_gG (r_rd f)
  | 0, T, S, h0 => ((r_at.rf h0).I (t_fail_tf (p := S.1 1 2) h0.2.2).1).gd (fun a q => by cases q)
  | f + 1, T, S, h0 => r_rd1_gd (r_rd_gd f) h0
