/-! ===== what is read is such a thing (own text) ===== -/
def r_ne (R : r_O) : Prop := ∀ a, R.1 = some a → c_EE R.2.2.1 a
def r_nE (G : c_St → r_O) : Prop := r_nG G ∧ ∀ (T : Nat → Prop) (S : c_St), r_pr T S → r_ne (G S)
theorem r_ne_none {S' : c_St} : r_ne (none, S') := fun a h => by cases h
section
variable {T : Nat → Prop} {S0 S : c_St} {G : c_St → r_O}
theorem r_tog_ne {n : Nat} {kd : Int32} {fk : Nat → Int32} {fp : Nat → Option Nat} (h0 : r_pr T S) (hb : c_nsm S.2.1 fp n ≤ 1000) (hf : c_rT T n fp) (he : ∀ j, j < n → c_EE S.2.1 ((fp j).getD 0)) : r_ne (r_tog n kd fk fp S) := fun a ha => by
  obtain ⟨I, g, k, z⟩ := S
  obtain ⟨hW, h125, ht⟩ := h0
  cases ha
  dsimp only at *
  have hof : c_ofr k g (c_tg2 g k n (c_tm kd n) fk fp) := c_ofr_up (c_ofr_up c_ofr.rf (Nat.le_refl _)) (Nat.le_succ _)
  have hv := c_vw_xt hW hof (Nat.le_refl _)
  have hW2 : c_W T (c_tg2 g k n (c_tm kd n) fk fp) k := c_W_up (c_W_up hW (Nat.le_refl _) (Nat.le_refl _)) (Nat.le_succ _) (Nat.le_refl _)
  have hr : ∀ j, j < n → ∃ b, c_row fp n j = some b ∧ T b ∧ c_EE (c_tg2 g k n (c_tm kd n) fk fp) b := fun j hj => by
    obtain ⟨b, hb1, hTb⟩ := hf j hj
    have hE := he j hj
    rw [hb1] at hE
    exact ⟨b, (if_pos hj).trans hb1, hTb, c_EE_vw hW hv hTb hE⟩
  have e : c_nsm (c_tg2 g k n (c_tm kd n) fk fp) (c_row fp n) n = c_nsm g fp n := c_nsm_eq n (fun j hj => by
    obtain ⟨b, hb1, hTb⟩ := hf j hj
    unfold c_row
    rw [if_pos hj, hb1]
    show (c_i _ b 2).toInt = (c_i g b 2).toInt
    rw [(hv b hTb).1])
  exact (c_EE_new (kd := kd) (wo := ab_ii 0) (ka := k + 1) (x := k + 1 + 1) (pa := k) hW2 (by omega) ((ab_up_ne _ _ (by omega)).trans (ab_up_self _ _ _)) (by omega) hr (by rw [e]; omega)).1
theorem r_two_ne {a b : Nat} (h0 : r_pr T S) (ha : T a) (hb : T b) (hEa : c_EE S.2.1 a) (hEb : c_EE S.2.1 b) (hs : (c_i S.2.1 a 2).toInt + (c_i S.2.1 b 2).toInt ≤ 1000) : r_ne (r_two a b S) := fun x hx => by
  obtain ⟨I, g, k, z⟩ := S
  obtain ⟨hW, h125, ht⟩ := h0
  change c_W T g k at hW
  have hW2 : c_W T (c_pu g k c_k2 (c_p2 a b) 2) (k + 1 + 1 + 1) := c_pu_W hW (Nat.le_refl _) (by omega)
  have hv := c_vw_xt hW (c_ofr_pu (g := g) (k := k) (n := 2) (fk := c_k2) (fp := c_p2 a b)) (show k ≤ k + 1 + 1 + 1 by omega)
  have e0 : c_p2 a b 0 = some a := (c_ins_lt (by omega)).trans c_ins_at
  have e1 : c_p2 a b 1 = some b := c_ins_at
  have hsm : c_nsm (c_pu g k c_k2 (c_p2 a b) 2) (c_p2 a b) 2 = (c_i g a 2).toInt + (c_i g b 2).toInt := by
    show 0 + (c_i _ ((c_p2 a b 0).getD 0) 2).toInt + (c_i _ ((c_p2 a b 1).getD 0) 2).toInt = _
    rw [e0, e1]
    show 0 + (c_i _ a 2).toInt + (c_i _ b 2).toInt = _
    rw [(hv a ha).1, (hv b hb).1]
    omega
  have hE : ∀ j, j < 2 → c_EE (c_pu g k c_k2 (c_p2 a b) 2) ((c_p2 a b j).getD 0) := fun j hj => by
    by_cases e : j = 0
    · subst e; rw [e0]; exact c_EE_vw hW hv ha hEa
    · have : j = 1 := by omega
      subst this; rw [e1]; exact c_EE_vw hW hv hb hEb
  have := r_tog_ne (kd := ab_ii 1) (fk := c_k2) (fp := c_p2 a b) (n := 2) (T := T) (S := (I, c_pu g k c_k2 (c_p2 a b) 2, k + 1 + 1 + 1, z)) ⟨hW2, (show 125 ≤ k + 1 + 1 + 1 by have : 125 ≤ k := h125; omega), ht⟩ (by show c_nsm (c_pu g k c_k2 (c_p2 a b) 2) (c_p2 a b) 2 ≤ 1000; rw [hsm]; exact hs) (c_p2_T ha hb) hE
  exact this x hx
theorem r_pair2_ne {R : r_O} {a : Nat} (h0 : r_pr T R.2) (ha : T a) (hEa : c_EE R.2.2.1 a) (hR : ∀ b, R.1 = some b → T b ∧ c_EE R.2.2.1 b ∧ (c_i R.2.2.1 a 2).toInt + (c_i R.2.2.1 b 2).toInt ≤ 1000) : r_ne (r_pair2 a R) := by
  obtain ⟨o, S⟩ := R
  cases o with
  | none => exact r_ne_none
  | some b =>
    obtain ⟨b1, b2, b3⟩ := hR b rfl
    have hn := t_needs_tf (b := ab_ii 41) h0.2.2
    unfold r_pair2
    dsimp only at *
    split
    · exact r_ne_none
    · exact r_two_ne (T := T) ⟨h0.1, h0.2.1, hn.2.1⟩ ha b1 hEa b2 b3
theorem r_pair1_ne (hG : r_nE G) {R : r_O} (h0 : r_pr T R.2) (hR : ∀ b, R.1 = some b → T b ∧ c_EE R.2.2.1 b ∧ (c_i R.2.2.1 b 2).toInt ≤ 100) : r_ne (r_pair1 G R) := by
  obtain ⟨o, S⟩ := R
  cases o with
  | none => exact r_ne_none
  | some a =>
    obtain ⟨a1, a2, a3⟩ := hR a rfl
    have hn := t_needs_tf (b := ab_ii 44) h0.2.2
    have hp : r_pr T (t_needs S.1 (ab_ii 44), S.2) := ⟨h0.1, h0.2.1, hn.2.1⟩
    unfold r_pair1
    dsimp only at *
    split
    · exact r_ne_none
    · have hb := hG.1.2 T _ hp
      have hbE := hG.2 T _ hp
      obtain ⟨T', g1, g2, g3, g4⟩ := hG.1.1 T _ hp
      have hvT := c_vw_xt h0.1 g1.ofr g1.kk
      have hav := c_st_i g1 h0.1 a1 2
      dsimp only at hav
      have hl := t_lf_b hn.2.1
      have hl2 := t_lf_b g3.2.1
      refine r_pair2_ne (T := T') ⟨g1.wf, Nat.le_trans h0.2.1 g1.kk, g3.2.1⟩ (g1.inc a a1) (c_EE_vw h0.1 hvT a1 a2) (fun b hb' => ?_)
      have hb2 := hb b hb'
      refine ⟨g2 b hb', hbE b hb', ?_⟩
      rw [hav]
      have hb3 := hb2.2
      dsimp only at hb3
      omega
theorem r_tag2_ne {R : r_O} {v : Int32} (h0 : r_pr T R.2) (hR : ∀ b, R.1 = some b → T b ∧ c_EE R.2.2.1 b ∧ (c_i R.2.2.1 b 2).toInt ≤ 1000) : r_ne (r_tag2 v R) := by
  obtain ⟨o, I, g, k, z⟩ := R
  cases o with
  | none => exact r_ne_none
  | some b =>
    obtain ⟨b1, b2, b3⟩ := hR b rfl
    intro a ha
    cases ha
    have hW : c_W T g k := h0.1
    change c_EE g b at b2
    change (c_i g b 2).toInt ≤ 1000 at b3
    have hv := c_vw_nq (c := ab_ra 4 1 (ab_up (fun _ => none) 0 (some b))) hW (c_nq_fr (q := k) hW (Nat.le_refl _))
    have e0 : ab_up (fun _ => none) 0 (some b) 0 = some b := ab_up_self _ _ _
    have hsm : c_nsm (ab_up g k (ab_ra 4 1 (ab_up (fun _ => none) 0 (some b)))) (ab_up (fun _ => none) 0 (some b)) 1 = (c_i g b 2).toInt := by
      show 0 + (c_i _ ((ab_up (fun _ => none) 0 (some b) 0).getD 0) 2).toInt = _
      rw [e0]
      show 0 + (c_i _ b 2).toInt = _
      rw [(hv b b1).1, Int.zero_add]
    exact (c_mkg_EE (kd := ab_ii 4) (wo := v) (k := k + 1) (q := k) (c_W_up (x := k) (c := ab_ra 4 1 (ab_up (fun _ => none) 0 (some b))) hW (Nat.le_refl _) (Nat.le_refl _)) (Nat.le_succ _) (ab_up_self _ _ _) (by omega) (by omega) (fun j hj => by
      have : j = 0 := by omega
      subst this
      exact ⟨b, e0, b1, c_EE_vw hW hv b1 b2⟩) (by rw [hsm]; omega)).1
theorem r_mnl_ne (hG : r_nE G) (hb0 : t_lf S0.1 ≤ 100) {kd close : Int32} {x : Nat} : ∀ (r n : Nat) (fk : Nat → Int32) (fp : Nat → Option Nat) (T : Nat → Prop) (S : c_St), r_pr T S → c_rT T n fp → c_nq3 T S.2.1 x → x + 3 ≤ S.2.2.1 → c_n1 S.2.1 fp n → c_nsm S.2.1 fp n + t_lf S.1 + 1 ≤ t_lf S0.1 → (∀ j, j < n → c_EE S.2.1 ((fp j).getD 0)) → r_ne (r_mnl G kd close x r n fk fp S)
  | 0, n, fk, fp, T, S, hp, hf, hn, hxk, h1, hs, hE => r_ne_none
  | r + 1, n, fk, fp, T, S, hp, hf, hn, hxk, h1, hs, hE => by
    have hk := r_key_tf (kd := kd) (fk := fk) (n := n) hp.2.2
    have hk3 := hk.2.2
    have hp1 : r_pr T ((r_key kd S.1 fk n).1, S.2) := ⟨hp.1, hp.2.1, hk.2.1⟩
    unfold r_mnl
    split
    · exact r_ne_none
    · have hb := hG.1.2 T _ hp1
      have hbE := hG.2 T _ hp1
      obtain ⟨T', g1, g2, g3, g4⟩ := hG.1.1 T _ hp1
      have hvT := c_vw_xt hp.1 g1.ofr g1.kk
      have hav := fun a (ha : T a) => c_st_i g1 hp.1 ha 2
      dsimp only at hav g1 g3
      generalize G ((r_key kd S.1 fk n).1, S.2) = R at *
      obtain ⟨o, S2⟩ := R
      cases o with
      | none => exact r_ne_none
      | some b =>
        have hEb := hbE b rfl
        have hkk : S.2.2.1 ≤ S2.2.2.1 := g1.kk
        obtain ⟨b1, b2⟩ := hb b rfl
        have hTb := g2 b rfl
        have ht2 : t_tp S2.1 := g3.2.1
        have hst := t_step_tf ht2
        have hst2 := hst.1.2.2
        dsimp only at *
        have hple := r_pp_le (kd := kd) (l := (r_key kd S.1 fk n).2) (fk := fk) (n := n)
        have hn2 : c_nq3 T' S2.2.1 x := ⟨g1.nq x (by show x < S.2.2.1; omega) hn.1, g1.nq (x + 1) (by show x + 1 < S.2.2.1; omega) hn.2.1, g1.nq (x + 2) (by show x + 2 < S.2.2.1; omega) hn.2.2⟩
        have hf2 := c_rT_mo hf g1.inc
        have hf3 := c_ins_T hf2 hple hTb
        have hst9 : c_st T' (c_J, S2.2) T' (c_J, S2.2) := c_st.rf g1.wf
        obtain ⟨I2, gg2, k2, z2⟩ := S2
        dsimp only at *
        have hW2 : c_W T' gg2 k2 := g1.wf
        have hvw : ∀ y, T' y → c_i (c_pu gg2 x (c_ins fk n (r_pp kd (r_key kd S.1 fk n).2 fk n) (r_key kd S.1 fk n).2) (c_ins fp n (r_pp kd (r_key kd S.1 fk n).2 fk n) (some b)) (n + 1)) y 2 = c_i gg2 y 2 := fun y hy => by
          have m0 := (hn2.1 y hy).1
          have m1 := (hn2.2.1 y hy).1
          have m2 := (hn2.2.2 y hy).1
          unfold c_i
          rw [c_pu_o ⟨m0, m1, m2⟩]
        have hfb : ∀ j, j < n → (c_i gg2 ((fp j).getD 0) 2).toInt = (c_i S.2.1 ((fp j).getD 0) 2).toInt := fun j hj => by
          obtain ⟨y, hy, hTy⟩ := hf j hj
          rw [hy]
          show (c_i gg2 y 2).toInt = (c_i S.2.1 y 2).toInt
          rw [hav y hTy]
        have h1a := c_n1_eq h1 hfb
        have hsa := c_nsm_eq n hfb
        have h1b := c_n1_ins hple h1a b1
        have hsb := c_nsm_ins (g := gg2) (fp := fp) (b := b) hple
        have hfc : ∀ j, j < n + 1 → (c_i (c_pu gg2 x (c_ins fk n (r_pp kd (r_key kd S.1 fk n).2 fk n) (r_key kd S.1 fk n).2) (c_ins fp n (r_pp kd (r_key kd S.1 fk n).2 fk n) (some b)) (n + 1)) (((c_ins fp n (r_pp kd (r_key kd S.1 fk n).2 fk n) (some b)) j).getD 0) 2).toInt = (c_i gg2 (((c_ins fp n (r_pp kd (r_key kd S.1 fk n).2 fk n) (some b)) j).getD 0) 2).toInt := fun j hj => by
          obtain ⟨y, hy, hTy⟩ := hf3 j hj
          rw [hy]
          show (c_i _ y 2).toInt = (c_i gg2 y 2).toInt
          rw [hvw y hTy]
        have h1c := c_n1_eq h1b hfc
        have hsc := c_nsm_eq (n + 1) hfc
        have hrows := c_pu_rows (fk := c_ins fk n (r_pp kd (r_key kd S.1 fk n).2 fk n) (r_key kd S.1 fk n).2) (fp := c_ins fp n (r_pp kd (r_key kd S.1 fk n).2 fk n) (some b)) (n := n + 1) (x := x) (T0 := T') (S0 := (c_J, gg2, 0, 0)) (J := c_J) (g := gg2) (k := k2) (z := z2) ⟨fun _ h => h, hW2, fun c hc => absurd hc (Nat.not_lt_zero _), Nat.zero_le _, c_Ifr.rf, fun q hq => absurd hq (Nat.not_lt_zero _)⟩ (Nat.zero_le _) hn2
        have hvc : ∀ y, T' y → c_vw gg2 (c_pu gg2 x (c_ins fk n (r_pp kd (r_key kd S.1 fk n).2 fk n) (r_key kd S.1 fk n).2) (c_ins fp n (r_pp kd (r_key kd S.1 fk n).2 fk n) (some b)) (n + 1)) y := fun y hy => by
          have w1 := c_vw_nq (c := c_po x (n + 1)) hW2 hn2.1 y hy
          have hW3 : c_W T' (ab_up gg2 x (c_po x (n + 1))) k2 := fun c hc => (c_wf_nq hW2 hc hn2.1).1
          have w2 := c_vw_nq (c := ab_ia 0 13 (c_ins fk n (r_pp kd (r_key kd S.1 fk n).2 fk n) (r_key kd S.1 fk n).2)) hW3 (c_nq_up hW2 hn2.1 hn2.2.1) y hy
          have hW4 : c_W T' (ab_up (ab_up gg2 x (c_po x (n + 1))) (x + 1) (ab_ia 0 13 (c_ins fk n (r_pp kd (r_key kd S.1 fk n).2 fk n) (r_key kd S.1 fk n).2))) k2 := fun c hc => (c_wf_nq hW3 hc (c_nq_up hW2 hn2.1 hn2.2.1)).1
          have w3 := c_vw_nq (c := ab_ra 4 13 (c_ins fp n (r_pp kd (r_key kd S.1 fk n).2 fk n) (some b))) hW4 (c_nq_up hW3 (c_nq_up hW2 hn2.1 hn2.2.1) (c_nq_up hW2 hn2.1 hn2.2.2)) y hy
          exact ⟨fun j => (w3.1 j).trans ((w2.1 j).trans (w1.1 j)), w3.2.1.trans (w2.2.1.trans w1.2.1), fun j => (w3.2.2 j).trans ((w2.2.2 j).trans (w1.2.2 j))⟩
        have hE3 : ∀ j, j < n + 1 → c_EE (c_pu gg2 x (c_ins fk n (r_pp kd (r_key kd S.1 fk n).2 fk n) (r_key kd S.1 fk n).2) (c_ins fp n (r_pp kd (r_key kd S.1 fk n).2 fk n) (some b)) (n + 1)) ((c_ins fp n (r_pp kd (r_key kd S.1 fk n).2 fk n) (some b) j).getD 0) := fun j hj => by
          rcases Nat.lt_trichotomy j (r_pp kd (r_key kd S.1 fk n).2 fk n) with e | e | e
          · rw [c_ins_lt e]
            obtain ⟨y, hy, hTy⟩ := hf j (by omega)
            have := hE j (by omega)
            rw [hy] at this ⊢
            exact c_EE_vw hW2 hvc (g1.inc y hTy) (c_EE_vw hp.1 hvT hTy this)
          · rw [e, c_ins_at]
            exact c_EE_vw hW2 hvc hTb hEb
          · obtain ⟨j', rfl⟩ : ∃ j', j = j' + 1 := ⟨j - 1, by omega⟩
            rw [c_ins_gt (by omega) (by omega)]
            obtain ⟨y, hy, hTy⟩ := hf j' (by omega)
            have := hE j' (by omega)
            rw [hy] at this ⊢
            exact c_EE_vw hW2 hvc (g1.inc y hTy) (c_EE_vw hp.1 hvT hTy this)
        have hp3 : r_pr T' (t_step I2, (r_S3 x (r_pp kd (r_key kd S.1 fk n).2 fk n) n (r_key kd S.1 fk n).2 fk fp b (I2, gg2, k2, z2)).2) := ⟨hrows.1.wf, Nat.le_trans hp.2.1 hkk, hst.1.2.1⟩
        have hs3 : c_nsm (c_pu gg2 x (c_ins fk n (r_pp kd (r_key kd S.1 fk n).2 fk n) (r_key kd S.1 fk n).2) (c_ins fp n (r_pp kd (r_key kd S.1 fk n).2 fk n) (some b)) (n + 1)) (c_ins fp n (r_pp kd (r_key kd S.1 fk n).2 fk n) (some b)) (n + 1) + t_lf (t_step I2) + 1 ≤ t_lf S0.1 := by rw [hsc, hsb, hsa]; omega
        split
        · exact r_tog_ne hp3 (by have := t_lf_b hst.1.2.1; dsimp only [r_S3] at hs3 ⊢; omega) hf3 hE3
        · split
          · exact r_ne_none
          · exact r_mnl_ne hG hb0 r (n + 1) _ _ T' _ hp3 hf3 hrows.2 (by show x + 3 ≤ k2; omega) h1c hs3 hE3
theorem r_many_ne (hG : r_nE G) (hb0 : t_lf S0.1 ≤ 100) {kd close : Int32} (h0 : r_pr T S) (hs : t_lf S.1 + 1 ≤ t_lf S0.1) : r_ne (r_many G kd close S) := by
  obtain ⟨I, g, k, z⟩ := S
  have h125 : 125 ≤ k := h0.2.1
  have hW : c_W T g k := h0.1
  have hst := t_step_tf h0.2.2
  have hW2 : c_W T (c_pu g k (fun _ => 0) (fun _ => none) 0) (k + 1 + 1 + 1) := c_pu_W hW (Nat.le_refl _) (by omega)
  dsimp only at *
  unfold r_many
  dsimp only
  split
  · exact r_tog_ne (T := T) ⟨hW2, (show 125 ≤ k + 1 + 1 + 1 by omega), hst.1.2.1⟩ (by show (0 : Int) ≤ 1000; omega) (fun j hj => absurd hj (Nat.not_lt_zero _)) (fun j hj => absurd hj (Nat.not_lt_zero _))
  · exact r_mnl_ne hG hb0 12 0 _ _ T _ ⟨hW2, (show 125 ≤ k + 1 + 1 + 1 by omega), h0.2.2⟩ (fun j hj => absurd hj (Nat.not_lt_zero _)) (c_nq3_pu hW) (by show k + 3 ≤ k + 1 + 1 + 1; omega) (fun j hj => absurd hj (Nat.not_lt_zero _)) (by show 0 + t_lf I + 1 ≤ _; omega) (fun j hj => absurd hj (Nat.not_lt_zero _))
theorem r_num_ne (h0 : r_pr T S) : r_ne (r_num S) := by
  obtain ⟨I, g, k, z⟩ := S
  have hW : c_W T g k := h0.1
  unfold r_num
  split
  · exact r_ne_none
  next hc =>
    intro a ha
    cases ha
    dsimp only
    have hW2 : c_W T (ab_up (ab_up g (k + 1) (ab_ia 0 0 (fun _ => 0))) (k + 1 + 1) (ab_ra 4 0 (fun _ => none))) k := c_W_up (c_W_up hW (by omega) (Nat.le_refl _)) (by omega) (Nat.le_refl _)
    exact (c_EE_new (T := T) (kd := ab_ii 0) (wo := (t_signed I).2) (ka := k + 1) (pa := k + 1 + 1) (x := k) (np := 0) (fp := fun _ => none) hW2 (Nat.le_refl _) (ab_up_self _ _ _) (by omega) (fun j hj => absurd hj (Nat.not_lt_zero _)) (by unfold c_nsm; decide)).1
theorem r_rd1_ne (hG : r_nE G) (h0 : r_pr T S) : r_ne (r_rd1 G S) := by
  have hb0 := (t_lf_b h0.2.2).2
  obtain ⟨s1, s2⟩ := t_step_tf h0.2.2
  have hp : r_pr T (t_step S.1, S.2) := ⟨h0.1, h0.2.1, s1.2.1⟩
  unfold r_rd1
  split
  next hc =>
    have hb := hG.1.2 T _ hp
    have hbE := hG.2 T _ hp
    obtain ⟨T', g1, g2, g3, g4⟩ := hG.1.1 T _ hp
    have hl := t_lf_b s1.2.1
    have hl2 := t_lf_b g3.2.1
    refine r_pair1_ne (T := T') hG ⟨g1.wf, Nat.le_trans h0.2.1 g1.kk, g3.2.1⟩ (fun b hb' => ?_)
    obtain ⟨b1, b2⟩ := hb b hb'
    dsimp only at b2
    exact ⟨g2 b hb', hbE b hb', by omega⟩
  next =>
    split
    next hc => exact r_many_ne hG hb0 hp (by have := s2 (t_next_at hc (by omega)); dsimp only; omega)
    next =>
      split
      next hc => exact r_many_ne hG hb0 hp (by have := s2 (t_next_at hc (by omega)); dsimp only; omega)
      next =>
        split
        next hc =>
          have hd := (t_digits_tf (most := 1) s1.2.1 (by omega)).1
          have hp2 : r_pr T ((t_digits (t_step S.1) 1).1, S.2) := ⟨h0.1, h0.2.1, hd.2.1⟩
          unfold r_tagg
          dsimp only
          split
          · exact r_ne_none
          · have hb := hG.1.2 T _ hp2
            have hbE := hG.2 T _ hp2
            obtain ⟨T', g1, g2, g3, g4⟩ := hG.1.1 T _ hp2
            have hl := t_lf_b hd.2.1
            have hl2 := t_lf_b g3.2.1
            refine r_tag2_ne (T := T') ⟨g1.wf, Nat.le_trans h0.2.1 g1.kk, g3.2.1⟩ (fun b hb' => ?_)
            obtain ⟨b1, b2⟩ := hb b hb'
            dsimp only at b2
            exact ⟨g2 b hb', hbE b hb', by omega⟩
        next => exact r_num_ne h0
end
theorem r_rd_ne : ∀ f, r_nE (r_rd f)
  | 0 => ⟨r_rd_nb 0, fun T S _ => r_ne_none⟩
  | f + 1 => ⟨r_rd_nb (f + 1), fun T S h0 => r_rd1_ne (r_rd_ne f) h0⟩
/-- a whole reading -/
theorem r_R_ne {T : Nat → Prop} {I : wd_I} {g : Nat → ab_C} {k z : Nat} (hW : c_W T g k) (h125 : 125 ≤ k) (ht : 0 ≤ (I 1 1).toInt ∧ (I 1 1).toInt ≤ 100) {a : Nat} (ha : (r_R (I, g, k, z)).1 = some a) : c_EE (r_R (I, g, k, z)).2.2.1 a := by
  obtain ⟨hp, hl⟩ := r_R_pr (z := z) hW h125 ht
  exact (r_rd_ne 13).2 T _ hp a ha
/-- put: a new thing over such things -/
theorem c_ptg_EE {T : Nat → Prop} {g : Nat → ab_C} {k a b : Nat} {what n : Int32} (hW : c_W T g k) (ha : T a) (hb : T b) (hEa : c_EE g a) (hEb : c_EE g b) (hna : (c_i g a 2).toInt ≤ 200) (hnb : (c_i g b 2).toInt ≤ 200) : c_EE (c_ptg g k a b what n) (k + 1 + 1 + 1 + 1 + 1) := by
  have hWE := c_W_E (m := 200) hW
  obtain ⟨h13, hr⟩ := c_ptW_T (what := what) (n := n) hWE (a := a) (b := b) ⟨ha, hEa, hna⟩ ⟨hb, hEb, hnb⟩
  unfold c_ptg
  generalize c_ptW g a b what n = W at *
  obtain ⟨m, fk, fp⟩ := W
  dsimp only at *
  have hW2 : c_W T (c_pu g k fk fp m) (k + 1 + 1 + 1) := c_pu_W hW (Nat.le_refl _) (by omega)
  have hv := c_vw_xt hW (c_ofr_pu (g := g) (k := k) (n := m) (fk := fk) (fp := fp)) (show k ≤ k + 1 + 1 + 1 by omega)
  have hsm : c_nsm (c_pu g k fk fp m) fp m ≤ (m : Int) * 200 := c_nsm_le m (fun j hj => by
    obtain ⟨y, hy, hT, -, hle⟩ := hr j hj
    rw [hy]
    show (c_i _ y 2).toInt ≤ 200
    rw [(hv y hT).1]
    exact hle)
  have h13' : (m : Int) * 200 ≤ 13 * 200 := by omega
  have hof : c_ofr (k + 1 + 1 + 1) (c_pu g k fk fp m) (c_tg2 (c_pu g k fk fp m) (k + 1 + 1 + 1) m (c_tm (c_ptK what) m) fk fp) := c_ofr_up (c_ofr_up c_ofr.rf (Nat.le_refl _)) (Nat.le_succ _)
  have hv2 := c_vw_xt hW2 hof (Nat.le_refl _)
  have hW3 : c_W T (c_tg2 (c_pu g k fk fp m) (k + 1 + 1 + 1) m (c_tm (c_ptK what) m) fk fp) (k + 1 + 1 + 1) := c_W_up (c_W_up hW2 (Nat.le_refl _) (Nat.le_refl _)) (Nat.le_succ _) (Nat.le_refl _)
  have e : c_nsm (c_tg2 (c_pu g k fk fp m) (k + 1 + 1 + 1) m (c_tm (c_ptK what) m) fk fp) (c_row fp m) m = c_nsm (c_pu g k fk fp m) fp m := c_nsm_eq m (fun j hj => by
    obtain ⟨y, hy, hT, -⟩ := hr j hj
    unfold c_row
    rw [if_pos hj, hy]
    show (c_i _ y 2).toInt = (c_i _ y 2).toInt
    rw [(hv2 y hT).1])
  exact (c_EE_new (kd := c_ptK what) (wo := ab_ii 0) (ka := k + 1 + 1 + 1 + 1) (x := k + 1 + 1 + 1 + 1 + 1) (pa := k + 1 + 1 + 1) hW3 (by omega) ((ab_up_ne _ _ (by omega)).trans (ab_up_self _ _ _)) (by omega) (fun j hj => by
    obtain ⟨y, hy, hT, hE, -⟩ := hr j hj
    exact ⟨y, (if_pos hj).trans hy, hT, c_EE_vw hW2 hv2 hT (c_EE_vw hW hv hT hE)⟩) (by rw [e]; omega)).1
