/-! ===== the class: a thing read has no more nodes than bytes (own text) ===== -/
def c_nsm (g : Nat → ab_C) (fp : Nat → Option Nat) : Nat → Int
  | 0 => 0
  | j + 1 => c_nsm g fp j + (c_i g ((fp j).getD 0) 2).toInt
def c_n1 (g : Nat → ab_C) (fp : Nat → Option Nat) (n : Nat) : Prop := ∀ j, j < n → 1 ≤ (c_i g ((fp j).getD 0) 2).toInt
theorem c_nsm_0 {g : Nat → ab_C} {fp : Nat → Option Nat} : ∀ n, c_n1 g fp n → 0 ≤ c_nsm g fp n
  | 0, _ => Int.le_refl _
  | n + 1, h => by
    have ih := c_nsm_0 n (fun j hj => h j (by omega))
    have := h n (by omega)
    unfold c_nsm
    omega
theorem c_nods_s {g : Nat → ab_C} {fp : Nat → Option Nat} : ∀ n, c_n1 g fp n → c_nsm g fp n ≤ 1000 → (c_nods g fp n).toInt = 1 + c_nsm g fp n
  | 0, _, _ => by unfold c_nods c_nsm; decide
  | n + 1, h, hl => by
    have h0 := c_nsm_0 n (fun j hj => h j (by omega))
    have h1 := h n (by omega)
    unfold c_nsm at hl
    have ih := c_nods_s n (fun j hj => h j (by omega)) (by omega)
    unfold c_nods c_nsm
    rw [ih, ab_tI (by omega) (by omega)]
    omega
theorem c_nsm_eq {g g' : Nat → ab_C} {fp fp' : Nat → Option Nat} : ∀ n, (∀ j, j < n → (c_i g' ((fp' j).getD 0) 2).toInt = (c_i g ((fp j).getD 0) 2).toInt) → c_nsm g' fp' n = c_nsm g fp n
  | 0, _ => rfl
  | n + 1, h => by
    unfold c_nsm
    rw [c_nsm_eq n (fun j hj => h j (by omega)), h n (by omega)]
theorem c_ins_gt {α : Type} {f : Nat → α} {n p j : Nat} {v : α} (h : p ≤ j) (hj : j < n) : c_ins f n p v (j + 1) = f j := by
  unfold c_ins c_shf
  rw [ab_up_ne _ _ (by omega), if_pos (by omega)]
  rfl
theorem c_nsm_ins {g : Nat → ab_C} {fp : Nat → Option Nat} {n p b : Nat} (hp : p ≤ n) : c_nsm g (c_ins fp n p (some b)) (n + 1) = c_nsm g fp n + (c_i g b 2).toInt := by
  have h1 : ∀ i, i ≤ p → c_nsm g (c_ins fp n p (some b)) i = c_nsm g fp i := fun i hi => c_nsm_eq i (fun j hj => by rw [c_ins_lt (by omega)])
  have h2 : ∀ i, p + i ≤ n → c_nsm g (c_ins fp n p (some b)) (p + i + 1) = c_nsm g fp (p + i) + (c_i g b 2).toInt := by
    intro i
    induction i with
    | zero =>
      intro _
      show c_nsm g _ (p + 0) + _ = _
      rw [Nat.add_zero, h1 p (Nat.le_refl _), c_ins_at]
      rfl
    | succ i ih =>
      intro hi
      have := ih (by omega)
      show c_nsm g _ (p + i + 1) + (c_i g ((c_ins fp n p (some b) (p + i + 1)).getD 0) 2).toInt = c_nsm g fp (p + i) + (c_i g ((fp (p + i)).getD 0) 2).toInt + _
      rw [this, c_ins_gt (by omega) (by omega)]
      omega
  have := h2 (n - p) (by omega)
  rw [show p + (n - p) = n by omega] at this
  exact this
theorem c_n1_ins {g : Nat → ab_C} {fp : Nat → Option Nat} {n p b : Nat} (hp : p ≤ n) (h : c_n1 g fp n) (hb : 1 ≤ (c_i g b 2).toInt) : c_n1 g (c_ins fp n p (some b)) (n + 1) := fun j hj => by
  rcases Nat.lt_trichotomy j p with e | e | e
  · rw [c_ins_lt e]; exact h j (by omega)
  · rw [e, c_ins_at]; exact hb
  · obtain ⟨j', rfl⟩ : ∃ j', j = j' + 1 := ⟨j - 1, by omega⟩
    rw [c_ins_gt (by omega) (by omega)]; exact h j' (by omega)
/-- views are kept: so are the sums -/
theorem c_n1_eq {g g' : Nat → ab_C} {fp fp' : Nat → Option Nat} {n : Nat} (h : c_n1 g fp n) (he : ∀ j, j < n → (c_i g' ((fp' j).getD 0) 2).toInt = (c_i g ((fp j).getD 0) 2).toInt) : c_n1 g' fp' n := fun j hj => by rw [he j hj]; exact h j hj
theorem c_new_i {g h : Nat → ab_C} {x ka pa np : Nat} {kd wo : Int32} {fp : Nat → Option Nat} : c_i (ab_up g x (c_new h kd wo ka pa np fp)) x 0 = kd ∧ c_i (ab_up g x (c_new h kd wo ka pa np fp)) x 1 = wo ∧ c_i (ab_up g x (c_new h kd wo ka pa np fp)) x 2 = c_nods h fp np ∧ c_i (ab_up g x (c_new h kd wo ka pa np fp)) x 3 = ab_ii ((c_hts h fp np).toInt + 1) := by
  unfold c_i
  rw [ab_up_self]
  exact ⟨rfl, rfl, rfl, rfl⟩
theorem c_st_i {T0 T : Nat → Prop} {S0 S : c_St} (h : c_st T0 S0 T S) (h0 : c_W T0 S0.2.1 S0.2.2.1) {a : Nat} (ha : T0 a) (j : Nat) : c_i S.2.1 a j = c_i S0.2.1 a j := (c_wf_xt (h0 a ha) h.ofr h.kk).2.2.2.2.1 j
/-- of a state on: what is read has no more nodes than bytes were read -/
def r_nb (S : c_St) (R : r_O) : Prop := ∀ a, R.1 = some a → 1 ≤ (c_i R.2.2.1 a 2).toInt ∧ (c_i R.2.2.1 a 2).toInt + t_lf R.2.1 ≤ t_lf S.1
def r_nG (G : c_St → r_O) : Prop := r_gG G ∧ ∀ (T : Nat → Prop) (S : c_St), r_pr T S → r_nb S (G S)
theorem r_nb_none {S : c_St} {S' : c_St} : r_nb S (none, S') := fun a h => by cases h
theorem t_lf_b {I : wd_I} (h : t_tp I) : 0 ≤ t_lf I ∧ t_lf I ≤ 100 := by
  obtain ⟨h1, h2, h3⟩ := h
  unfold t_lf
  omega
section
variable {T : Nat → Prop} {S0 S : c_St} {G : c_St → r_O}
theorem r_tog_nb {n : Nat} {kd : Int32} {fk : Nat → Int32} {fp : Nat → Option Nat} (h0 : r_pr T S) (hb0 : t_lf S0.1 ≤ 100) (hf : c_rT T n fp) (h1 : c_n1 S.2.1 fp n) (hs : c_nsm S.2.1 fp n + t_lf S.1 + 1 ≤ t_lf S0.1) : r_nb S0 (r_tog n kd fk fp S) := fun a ha => by
  obtain ⟨I, g, k, z⟩ := S
  obtain ⟨hW, h125, ht⟩ := h0
  cases ha
  dsimp only at *
  have hl := t_lf_b ht
  have he : ∀ j, j < n → (c_i (c_tg2 g k n (c_tm kd n) fk fp) ((c_row fp n j).getD 0) 2).toInt = (c_i g ((fp j).getD 0) 2).toInt := fun j hj => by
    obtain ⟨b, hb, hTb⟩ := hf j hj
    have hbk := (hW b hTb).1.2
    unfold c_row
    rw [if_pos hj, hb]
    show (c_i (ab_up (ab_up g k _) (k + 1) _) b 2).toInt = (c_i g b 2).toInt
    rw [c_i_up (by omega), c_i_up (by omega)]
  have h2 := c_nsm_eq n he
  have h3 := c_n1_eq h1 he
  have h4 := c_nods_s n h3 (by rw [h2]; omega)
  have h5 := c_nsm_0 n h1
  show 1 ≤ (c_i (c_tog g k n (c_tm kd n) kd fk fp) (k + 1 + 1) 2).toInt ∧ (c_i (c_tog g k n (c_tm kd n) kd fk fp) (k + 1 + 1) 2).toInt + t_lf I ≤ _
  unfold c_tog
  rw [c_new_i.2.2.1, h4, h2]
  omega
theorem r_two_nb {a b : Nat} (h0 : r_pr T S) (hb0 : t_lf S0.1 ≤ 100) (ha : T a) (hb : T b) (h1 : 1 ≤ (c_i S.2.1 a 2).toInt ∧ 1 ≤ (c_i S.2.1 b 2).toInt) (hs : (c_i S.2.1 a 2).toInt + (c_i S.2.1 b 2).toInt + t_lf S.1 + 1 ≤ t_lf S0.1) : r_nb S0 (r_two a b S) := fun x hx => by
  obtain ⟨I, g, k, z⟩ := S
  obtain ⟨hW, h125, ht⟩ := h0
  change c_W T g k at hW
  have hW2 : c_W T (c_pu g k c_k2 (c_p2 a b) 2) (k + 1 + 1 + 1) := c_pu_W hW (Nat.le_refl _) (by omega)
  have hab : ∀ y, T y → c_i (c_pu g k c_k2 (c_p2 a b) 2) y 2 = c_i g y 2 := fun y hy => (c_wf_xt (hW y hy) (c_ofr_pu (g := g) (k := k)) (show k ≤ k + 1 + 1 + 1 by omega)).2.2.2.2.1 2
  have e0 : c_p2 a b 0 = some a := (c_ins_lt (by omega)).trans c_ins_at
  have e1 : c_p2 a b 1 = some b := c_ins_at
  have hsm : c_nsm (c_pu g k c_k2 (c_p2 a b) 2) (c_p2 a b) 2 = (c_i g a 2).toInt + (c_i g b 2).toInt := by
    show 0 + (c_i _ ((c_p2 a b 0).getD 0) 2).toInt + (c_i _ ((c_p2 a b 1).getD 0) 2).toInt = _
    rw [e0, e1]
    show 0 + (c_i _ a 2).toInt + (c_i _ b 2).toInt = _
    rw [hab a ha, hab b hb]
    omega
  have hn1 : c_n1 (c_pu g k c_k2 (c_p2 a b) 2) (c_p2 a b) 2 := fun j hj => by
    by_cases e : j = 0
    · subst e; rw [e0]; show 1 ≤ (c_i _ a 2).toInt; rw [hab a ha]; exact h1.1
    · have : j = 1 := by omega
      subst this; rw [e1]; show 1 ≤ (c_i _ b 2).toInt; rw [hab b hb]; exact h1.2
  have := r_tog_nb (S0 := S0) (kd := ab_ii 1) (fk := c_k2) (S := (I, c_pu g k c_k2 (c_p2 a b) 2, k + 1 + 1 + 1, z)) ⟨hW2, (show 125 ≤ k + 1 + 1 + 1 by have : 125 ≤ k := h125; omega), ht⟩ hb0 (c_p2_T ha hb) hn1 (by rw [hsm]; exact hs)
  exact this x hx
theorem r_pair2_nb {R : r_O} {a : Nat} (h0 : r_pr T R.2) (hb0 : t_lf S0.1 ≤ 100) (ha : T a) (hR : ∀ b, R.1 = some b → T b ∧ 1 ≤ (c_i R.2.2.1 b 2).toInt ∧ (c_i R.2.2.1 a 2).toInt + (c_i R.2.2.1 b 2).toInt + t_lf R.2.1 + 1 ≤ t_lf S0.1) (h1 : 1 ≤ (c_i R.2.2.1 a 2).toInt) : r_nb S0 (r_pair2 a R) := by
  obtain ⟨o, S⟩ := R
  cases o with
  | none => exact r_nb_none
  | some b =>
    obtain ⟨b1, b2, b3⟩ := hR b rfl
    have hn := t_needs_tf (b := ab_ii 41) h0.2.2
    have hn3 := hn.2.2
    unfold r_pair2
    dsimp only at *
    split
    · exact r_nb_none
    · exact r_two_nb (T := T) ⟨h0.1, h0.2.1, hn.2.1⟩ hb0 ha b1 ⟨h1, b2⟩ (by dsimp only; omega)
theorem r_pair1_nb (hG : r_nG G) {R : r_O} (h0 : r_pr T R.2) (hb0 : t_lf S0.1 ≤ 100) (hR : ∀ b, R.1 = some b → T b ∧ 1 ≤ (c_i R.2.2.1 b 2).toInt ∧ (c_i R.2.2.1 b 2).toInt + t_lf R.2.1 + 1 ≤ t_lf S0.1) : r_nb S0 (r_pair1 G R) := by
  obtain ⟨o, S⟩ := R
  cases o with
  | none => exact r_nb_none
  | some a =>
    obtain ⟨a1, a2, a3⟩ := hR a rfl
    have hn := t_needs_tf (b := ab_ii 44) h0.2.2
    have hn3 := hn.2.2
    have hp : r_pr T (t_needs S.1 (ab_ii 44), S.2) := ⟨h0.1, h0.2.1, hn.2.1⟩
    unfold r_pair1
    dsimp only at *
    split
    · exact r_nb_none
    · have hb := hG.2 T _ hp
      obtain ⟨T', g1, g2, g3, g4⟩ := hG.1 T _ hp
      have hav := c_st_i g1 h0.1 a1 2
      dsimp only at hav
      refine r_pair2_nb (T := T') ⟨g1.wf, Nat.le_trans h0.2.1 g1.kk, g3.2.1⟩ hb0 (g1.inc a a1) (fun b hb' => ?_) (by rw [hav]; exact a2)
      have hb2 := hb b hb'
      refine ⟨g2 b hb', hb2.1, ?_⟩
      rw [hav]
      have hb3 := hb2.2
      dsimp only at hb3
      omega
theorem r_tag2_nb {R : r_O} {v : Int32} (h0 : r_pr T R.2) (hb0 : t_lf S0.1 ≤ 100) (hR : ∀ b, R.1 = some b → T b ∧ 1 ≤ (c_i R.2.2.1 b 2).toInt ∧ (c_i R.2.2.1 b 2).toInt + t_lf R.2.1 + 1 ≤ t_lf S0.1) : r_nb S0 (r_tag2 v R) := by
  obtain ⟨o, I, g, k, z⟩ := R
  cases o with
  | none => exact r_nb_none
  | some b =>
    obtain ⟨b1, b2, b3⟩ := hR b rfl
    have hl := t_lf_b h0.2.2
    intro a ha
    cases ha
    dsimp only at *
    have hbk := (h0.1 b b1).1.2
    dsimp only at hbk
    have hv : ∀ A B : ab_C, c_i (ab_up (ab_up g k A) (k + 1 + 1) B) b 2 = c_i g b 2 := fun A B => by rw [c_i_up (by omega), c_i_up (by omega)]
    have e0 : ab_up (fun _ => none) 0 (some b) 0 = some b := ab_up_self _ _ _
    have hn1 : ∀ A B : ab_C, c_n1 (ab_up (ab_up g k A) (k + 1 + 1) B) (ab_up (fun _ => none) 0 (some b)) 1 := fun A B j hj => by
      have : j = 0 := by omega
      subst this
      rw [e0]
      show 1 ≤ (c_i _ b 2).toInt
      rw [hv]
      exact b2
    have hsm : ∀ A B : ab_C, c_nsm (ab_up (ab_up g k A) (k + 1 + 1) B) (ab_up (fun _ => none) 0 (some b)) 1 = (c_i g b 2).toInt := fun A B => by
      show 0 + (c_i _ ((ab_up (fun _ => none) 0 (some b) 0).getD 0) 2).toInt = _
      rw [e0]
      show 0 + (c_i _ b 2).toInt = _
      rw [hv]
      omega
    show 1 ≤ (c_i (c_mkg _ (k + 1) (ab_ii 4) v k 1 _) (k + 1) 2).toInt ∧ (c_i (c_mkg _ (k + 1) (ab_ii 4) v k 1 _) (k + 1) 2).toInt + t_lf I ≤ _
    unfold c_mkg
    rw [c_new_i.2.2.1, c_nods_s 1 (hn1 _ _) (by rw [hsm]; omega), hsm]
    omega
theorem r_mnl_nb (hG : r_nG G) (hb0 : t_lf S0.1 ≤ 100) {kd close : Int32} {x : Nat} : ∀ (r n : Nat) (fk : Nat → Int32) (fp : Nat → Option Nat) (T : Nat → Prop) (S : c_St), r_pr T S → c_rT T n fp → c_nq3 T S.2.1 x → x + 3 ≤ S.2.2.1 → c_n1 S.2.1 fp n → c_nsm S.2.1 fp n + t_lf S.1 + 1 ≤ t_lf S0.1 → r_nb S0 (r_mnl G kd close x r n fk fp S)
  | 0, n, fk, fp, T, S, hp, hf, hn, hxk, h1, hs => r_nb_none
  | r + 1, n, fk, fp, T, S, hp, hf, hn, hxk, h1, hs => by
    have hk := r_key_tf (kd := kd) (fk := fk) (n := n) hp.2.2
    have hk3 := hk.2.2
    have hp1 : r_pr T ((r_key kd S.1 fk n).1, S.2) := ⟨hp.1, hp.2.1, hk.2.1⟩
    unfold r_mnl
    split
    · exact r_nb_none
    · have hb := hG.2 T _ hp1
      obtain ⟨T', g1, g2, g3, g4⟩ := hG.1 T _ hp1
      have hav := fun a (ha : T a) => c_st_i g1 hp.1 ha 2
      dsimp only at hav g1 g3
      generalize G ((r_key kd S.1 fk n).1, S.2) = R at *
      obtain ⟨o, S2⟩ := R
      cases o with
      | none => exact r_nb_none
      | some b =>
        have hkk : S.2.2.1 ≤ S2.2.2.1 := g1.kk
        obtain ⟨b1, b2⟩ := hb b rfl
        have hTb := g2 b rfl
        have ht2 : t_tp S2.1 := g3.2.1
        have hst := t_step_tf ht2
        have hst2 := hst.1.2.2
        dsimp only at *
        have hple := r_pp_le (kd := kd) (l := (r_key kd S.1 fk n).2) (fk := fk) (n := n)
        have hn2 : c_nq3 T' S2.2.1 x := ⟨g1.nq x (by show x < S.2.2.1; omega) hn.1, g1.nq (x + 1) (by show x + 1 < S.2.2.1; omega) hn.2.1, g1.nq (x + 2) (by show x + 2 < S.2.2.1; omega) hn.2.2⟩
        have hf2 := c_rT_mo hf g1.inc
        have hf3 := c_ins_T hf2 hple hTb
        have hst9 : c_st T' (c_J, S2.2) T' (c_J, S2.2) := c_st.rf g1.wf
        obtain ⟨I2, gg2, k2, z2⟩ := S2
        dsimp only at *
        have hW2 : c_W T' gg2 k2 := g1.wf
        have hvw : ∀ y, T' y → c_i (c_pu gg2 x (c_ins fk n (r_pp kd (r_key kd S.1 fk n).2 fk n) (r_key kd S.1 fk n).2) (c_ins fp n (r_pp kd (r_key kd S.1 fk n).2 fk n) (some b)) (n + 1)) y 2 = c_i gg2 y 2 := fun y hy => by
          have m0 := (hn2.1 y hy).1
          have m1 := (hn2.2.1 y hy).1
          have m2 := (hn2.2.2 y hy).1
          unfold c_i
          rw [c_pu_o ⟨m0, m1, m2⟩]
        have hfb : ∀ j, j < n → (c_i gg2 ((fp j).getD 0) 2).toInt = (c_i S.2.1 ((fp j).getD 0) 2).toInt := fun j hj => by
          obtain ⟨y, hy, hTy⟩ := hf j hj
          rw [hy]
          show (c_i gg2 y 2).toInt = (c_i S.2.1 y 2).toInt
          rw [hav y hTy]
        have h1a := c_n1_eq h1 hfb
        have hsa := c_nsm_eq n hfb
        have h1b := c_n1_ins hple h1a b1
        have hsb := c_nsm_ins (g := gg2) (fp := fp) (b := b) hple
        have hfc : ∀ j, j < n + 1 → (c_i (c_pu gg2 x (c_ins fk n (r_pp kd (r_key kd S.1 fk n).2 fk n) (r_key kd S.1 fk n).2) (c_ins fp n (r_pp kd (r_key kd S.1 fk n).2 fk n) (some b)) (n + 1)) (((c_ins fp n (r_pp kd (r_key kd S.1 fk n).2 fk n) (some b)) j).getD 0) 2).toInt = (c_i gg2 (((c_ins fp n (r_pp kd (r_key kd S.1 fk n).2 fk n) (some b)) j).getD 0) 2).toInt := fun j hj => by
          obtain ⟨y, hy, hTy⟩ := hf3 j hj
          rw [hy]
          show (c_i _ y 2).toInt = (c_i gg2 y 2).toInt
          rw [hvw y hTy]
        have h1c := c_n1_eq h1b hfc
        have hsc := c_nsm_eq (n + 1) hfc
        have hrows := c_pu_rows (fk := c_ins fk n (r_pp kd (r_key kd S.1 fk n).2 fk n) (r_key kd S.1 fk n).2) (fp := c_ins fp n (r_pp kd (r_key kd S.1 fk n).2 fk n) (some b)) (n := n + 1) (x := x) (T0 := T') (S0 := (c_J, gg2, 0, 0)) (J := c_J) (g := gg2) (k := k2) (z := z2) ⟨fun _ h => h, hW2, fun c hc => absurd hc (Nat.not_lt_zero _), Nat.zero_le _, c_Ifr.rf, fun q hq => absurd hq (Nat.not_lt_zero _)⟩ (Nat.zero_le _) hn2
        have hp3 : r_pr T' (t_step I2, (r_S3 x (r_pp kd (r_key kd S.1 fk n).2 fk n) n (r_key kd S.1 fk n).2 fk fp b (I2, gg2, k2, z2)).2) := ⟨hrows.1.wf, Nat.le_trans hp.2.1 hkk, hst.1.2.1⟩
        have hs3 : c_nsm (c_pu gg2 x (c_ins fk n (r_pp kd (r_key kd S.1 fk n).2 fk n) (r_key kd S.1 fk n).2) (c_ins fp n (r_pp kd (r_key kd S.1 fk n).2 fk n) (some b)) (n + 1)) (c_ins fp n (r_pp kd (r_key kd S.1 fk n).2 fk n) (some b)) (n + 1) + t_lf (t_step I2) + 1 ≤ t_lf S0.1 := by rw [hsc, hsb, hsa]; omega
        split
        · exact r_tog_nb hp3 hb0 hf3 h1c hs3
        · split
          · exact r_nb_none
          · exact r_mnl_nb hG hb0 r (n + 1) _ _ T' _ hp3 hf3 hrows.2 (by show x + 3 ≤ k2; omega) h1c hs3
theorem r_many_nb (hG : r_nG G) (hb0 : t_lf S0.1 ≤ 100) {kd close : Int32} (h0 : r_pr T S) (hs : t_lf S.1 + 1 ≤ t_lf S0.1) : r_nb S0 (r_many G kd close S) := by
  obtain ⟨I, g, k, z⟩ := S
  have h125 : 125 ≤ k := h0.2.1
  have hW : c_W T g k := h0.1
  have hst := t_step_tf h0.2.2
  have hst3 := hst.1.2.2
  have hW2 : c_W T (c_pu g k (fun _ => 0) (fun _ => none) 0) (k + 1 + 1 + 1) := c_pu_W hW (Nat.le_refl _) (by omega)
  dsimp only at *
  unfold r_many
  dsimp only
  split
  · exact r_tog_nb (T := T) ⟨hW2, (show 125 ≤ k + 1 + 1 + 1 by omega), hst.1.2.1⟩ hb0 (fun j hj => absurd hj (Nat.not_lt_zero _)) (fun j hj => absurd hj (Nat.not_lt_zero _)) (by show 0 + t_lf (t_step I) + 1 ≤ _; omega)
  · exact r_mnl_nb hG hb0 12 0 _ _ T _ ⟨hW2, (show 125 ≤ k + 1 + 1 + 1 by omega), h0.2.2⟩ (fun j hj => absurd hj (Nat.not_lt_zero _)) (c_nq3_pu hW) (by show k + 3 ≤ k + 1 + 1 + 1; omega) (fun j hj => absurd hj (Nat.not_lt_zero _)) (by show 0 + t_lf I + 1 ≤ _; omega)
theorem r_num_nb (h0 : r_pr T S) : r_nb S (r_num S) := by
  obtain ⟨h1, h2⟩ := t_signed_tf h0.2.2
  unfold r_num
  split
  · exact r_nb_none
  next hc =>
    intro a ha
    cases ha
    have e : c_i (r_numg S.2.1 S.2.2.1 (t_signed S.1).2) S.2.2.1 2 = ab_ii 1 := by unfold c_i r_numg; rw [ab_up_self]; rfl
    have h3 := h2 (by omega)
    dsimp only
    rw [e, show (ab_ii 1).toInt = 1 from by decide]
    omega
theorem r_rd1_nb (hG : r_nG G) (h0 : r_pr T S) : r_nb S (r_rd1 G S) := by
  have hb0 := (t_lf_b h0.2.2).2
  obtain ⟨s1, s2⟩ := t_step_tf h0.2.2
  have hp : r_pr T (t_step S.1, S.2) := ⟨h0.1, h0.2.1, s1.2.1⟩
  unfold r_rd1
  split
  next hc =>
    have s3 := s2 (t_next_at hc (by omega))
    have hb := hG.2 T _ hp
    obtain ⟨T', g1, g2, g3, g4⟩ := hG.1 T _ hp
    refine r_pair1_nb (T := T') hG ⟨g1.wf, Nat.le_trans h0.2.1 g1.kk, g3.2.1⟩ hb0 (fun b hb' => ?_)
    obtain ⟨b1, b2⟩ := hb b hb'
    dsimp only at b2
    exact ⟨g2 b hb', b1, by omega⟩
  next =>
    split
    next hc => exact r_many_nb hG hb0 hp (by have := s2 (t_next_at hc (by omega)); dsimp only; omega)
    next =>
      split
      next hc => exact r_many_nb hG hb0 hp (by have := s2 (t_next_at hc (by omega)); dsimp only; omega)
      next =>
        split
        next hc =>
          have s3 := s2 (t_next_at hc (by omega))
          have hd := (t_digits_tf (most := 1) s1.2.1 (by omega)).1
          have hd3 := hd.2.2
          have hp2 : r_pr T ((t_digits (t_step S.1) 1).1, S.2) := ⟨h0.1, h0.2.1, hd.2.1⟩
          unfold r_tagg
          dsimp only
          split
          · exact r_nb_none
          · have hb := hG.2 T _ hp2
            obtain ⟨T', g1, g2, g3, g4⟩ := hG.1 T _ hp2
            refine r_tag2_nb (T := T') ⟨g1.wf, Nat.le_trans h0.2.1 g1.kk, g3.2.1⟩ hb0 (fun b hb' => ?_)
            obtain ⟨b1, b2⟩ := hb b hb'
            dsimp only at b2
            exact ⟨g2 b hb', b1, by omega⟩
        next => exact r_num_nb h0
end
theorem r_rd_nb : ∀ f, r_nG (r_rd f)
  | 0 => ⟨r_rd_gd 0, fun T S _ => r_nb_none⟩
  | f + 1 => ⟨r_rd_gd (f + 1), fun T S h0 => r_rd1_nb (r_rd_nb f) h0⟩
/-- a whole reading -/
theorem r_R_nb {T : Nat → Prop} {I : wd_I} {g : Nat → ab_C} {k z : Nat} (hW : c_W T g k) (h125 : 125 ≤ k) (ht : 0 ≤ (I 1 1).toInt ∧ (I 1 1).toInt ≤ 100) {a : Nat} (ha : (r_R (I, g, k, z)).1 = some a) : 1 ≤ (c_i (r_R (I, g, k, z)).2.2.1 a 2).toInt ∧ (c_i (r_R (I, g, k, z)).2.2.1 a 2).toInt ≤ 100 := by
  obtain ⟨hp, hl⟩ := r_R_pr (z := z) hW h125 ht
  obtain ⟨T', -, -, g3, -⟩ := r_rd_gd 13 T _ hp
  have l0 := t_lf_0 g3.2.1
  obtain ⟨h1, h2⟩ := (r_rd_nb 13).2 T _ hp a ha
  unfold r_R
  dsimp only at h1 h2 hl l0 ⊢
  omega
