/-! ===== the class: its calls, with what they leave of paths and tape (own text; by frames.py) ===== -/
/-- shelves hold things whose NODES are right, 200 at most -/
def k_E (P : wd_P) (g : Nat → ab_C) : Prop := ∀ j, j < 12 → ∃ a, P (18 + 5 * j) 2 = some a ∧ c_EE g a ∧ (c_i g a 2).toInt ≤ 200
def k_fp (I : wd_I) (P : wd_P) (g : Nat → ab_C) (k : Nat) (I' : wd_I) (P' : wd_P) (g' : Nat → ab_C) : Prop := c_ofr k g g' ∧ (∀ a i, (a = 8 ∨ a = 16 ∨ a = 17) → P' a i = P a i) ∧ I' 0 11 = I 0 11
theorem k_fp.rf {I : wd_I} {P : wd_P} {g : Nat → ab_C} {k : Nat} : k_fp I P g k I P g := ⟨c_ofr.rf, fun _ _ _ => rfl, rfl⟩
theorem k_fp.of {I I' : wd_I} {P P' : wd_P} {g g' : Nat → ab_C} {k : Nat} (hI : ∀ a j, (a = 2 ∨ (a = 0 ∧ j = 11)) → I' a j = I a j) (hx : c_ofr k g g') (hP : ∀ a j, (a = 8 ∨ a = 16 ∨ a = 17) → P' a j = P a j) : k_fp I P g k I' P' g' := ⟨hx, hP, hI _ _ (by omega)⟩
theorem k_fp.to {I I' I'' : wd_I} {P P' P'' : wd_P} {g g' : Nat → ab_C} {k : Nat} (h : k_fp I P g k I' P' g') (hI : ∀ a j, (a = 2 ∨ (a = 0 ∧ j = 11)) → I'' a j = I' a j) (hP : ∀ a j, (a = 8 ∨ a = 16 ∨ a = 17) → P'' a j = P' a j) : k_fp I P g k I'' P'' g' := ⟨h.1, fun a i q => (hP a i q).trans (h.2.1 a i q), (hI _ _ (by omega)).trans h.2.2⟩
def kf_q (I0 : wd_I) (P0 : wd_P) (g0 : Nat → ab_C) (k0 : Nat) (M : wd_I) (Q : ab_Q) (n : Nat) (t : Int32) : Prop := ∀ (r : Int32) (T' : Nat → Prop) (I' : wd_I) (P' : wd_P) (g' : Nat → ab_C) (k' z' : Nat), k_ok T' I' P' g' k' → k_fp I0 P0 g0 k0 I' P' g' → (k_E P0 g0 → k_E P' g') → k0 ≤ k' → I' 1 1 = t → k_rm n I' k' z' → Q (some (.inl r)) (wd I' P' M g', k', z')
theorem k_E.st {T : Nat → Prop} {P P' : wd_P} {g g' : Nat → ab_C} {k k' : Nat} (h : k_E P g) (hT : ∀ j, j < 12 → ∃ a, P (18 + 5 * j) 2 = some a ∧ T a) (hW : c_W T g k) (hx : c_ofr k g g') (hk : k ≤ k') (hP : ∀ j, j < 12 → P' (18 + 5 * j) 2 = P (18 + 5 * j) 2) : k_E P' g' := fun j hj => by
  obtain ⟨a, h1, h2, h3⟩ := h j hj
  obtain ⟨a', h4, h5⟩ := hT j hj
  cases h1.symm.trans h4
  have hv := c_vw_xt hW hx hk
  exact ⟨a, (hP j hj).trans h1, c_EE_vw hW hv h5 h2, by rw [(hv a h5).1]; exact h3⟩
/-- a shelf becomes such a thing -/
theorem k_E.bec {T : Nat → Prop} {P P' : wd_P} {g g' : Nat → ab_C} {k k' s c x : Nat} (h : k_E P g) (hT : ∀ j, j < 12 → ∃ a, P (18 + 5 * j) 2 = some a ∧ T a) (hW : c_W T g k) (hx : c_ofr k g g') (hk : k ≤ k') (hP : ∀ j, j < 12 → P' (18 + 5 * j) 2 = P (18 + 5 * j) 2) (hE : c_EE g' x) (hn : (c_i g' x 2).toInt ≤ 200) : k_E (s_becP P' s c x) g' := fun j hj => by
  by_cases e : j = s
  · subst e
    refine ⟨x, ?_, hE, hn⟩
    unfold s_becP
    split
    · rw [wd_up_self]
    · rw [wd_up_self]
  · obtain ⟨a, h1, h2⟩ := h.st hT hW hx hk hP j hj
    exact ⟨a, (s_becP_ne (by omega) (by omega)).trans h1, h2⟩
/-- what a shelf holds is such a thing -/
theorem k_E.at {P : wd_P} {g : Nat → ab_C} {s : Int32} {a : Nat} (h : k_E P g) (hs : c_sh s) (ha : P (18 + 5 * s.toInt.toNat) 2 = some a) : c_EE g a ∧ (c_i g a 2).toInt ≤ 200 := by
  obtain ⟨a', h1, h2⟩ := h s.toInt.toNat (by unfold c_sh at hs; omega)
  cases h1.symm.trans ha
  exact h2
theorem s_becI_fp {I : wd_I} {s c a j : Nat} (h : a = 2 ∨ (a = 0 ∧ j = 11)) : s_becI I s c a j = I a j := s_becI_ne (by omega)
theorem s_becP_fp {P : wd_P} {s c x a j : Nat} (h : a = 8 ∨ a = 16 ∨ a = 17) : s_becP P s c x a j = P a j := s_becP_ne (by omega) (by omega)
section
variable {d : Nat} {T : Nat → Prop} {I : wd_I} {P : wd_P} {M : wd_I} {g : Nat → ab_C} {k z n : Nat} {Q : ab_Q}
theorem kf_thing (hd : 60 ≤ d) (h : k_ok T I P g k) (hr : k_rm (n + 1) I k z) {s : Int32} (hb : ¬ c_sh s → kf_q I P g k M Q n (I 1 1)) (hg : c_sh s → kf_q I P g k M Q n (ab_ii 0)) : ab_CT d 105 [wd_v 0, .inl s] (wd I P M g, k, z) Q := by
  have hrb := hr.b h.2.2.1.2
  obtain ⟨a0, c, hs⟩ := k_oks h s
  obtain ⟨T', g1, g2, g3, g4, g5, g6⟩ := r_R_gd (z := z) h.1 h.2.1 h.tp
  have hkk : k ≤ (r_R (I, g, k, z)).2.2.2.1 := g1.kk
  have hJ : ∀ a j, ¬ (a = 1) → r_RJ (I, g, k, z) a j = I a j := fun a j q => (wd_up_ne _ _ (by omega)).trans (g3 a j (by omega))
  have hJ1 : r_RJ (I, g, k, z) 1 1 = ab_ii 0 := wd_up_self _ _ _ _
  have hkJ : ∀ (I' : wd_I), (∀ a j, a ≠ 9 → I' a j = r_RJ (I, g, k, z) a j) → (0 ≤ (I' 9 0).toInt ∧ (I' 9 0).toInt ≤ 3000) → k_ok T' I' P (r_R (I, g, k, z)).2.2.1 (r_R (I, g, k, z)).2.2.2.1 := fun I' hI h9 => h.fr g1.wf g1.inc g1.ofr hkk (k_sm_of (fun a j q => (hI a j (by omega)).trans (hJ a j (by omega))) (fun _ _ _ => rfl)) h9 ⟨0, (hI 1 1 (by omega)).trans hJ1, by omega⟩
  have e9 : r_RJ (I, g, k, z) 9 0 = I 9 0 := hJ 9 0 (by omega)
  have hk0 := hkJ _ (fun _ _ _ => rfl) (by rw [e9]; exact h.2.2.1)
  have hn := fun q r => hg q r T' _ _ _ _ (r_R (I, g, k, z)).2.2.2.2 hk0 (.of (fun a j q => hJ a j (by omega)) g1.ofr (fun _ _ _ => rfl)) (fun hE => hE.st h.shT h.1 g1.ofr hkk (fun _ _ => rfl)) hkk hJ1 (hr.le (by rw [e9]; exact Int.le_refl _) (by omega) (by omega))
  have hnd := fun a ha => r_R_nb (z := z) (a := a) h.1 h.2.1 h.tp ha
  refine y_thing hd h.1 h.2.1 h.tp h.2.2.1 ⟨by omega, by omega⟩ (fun q => (hs q).2) (fun q => hb q _ _ _ _ _ _ _ h .rf id (Nat.le_refl _) rfl (hr.le (Int.le_refl _) (by omega) (by omega))) (fun q _ => hn q _) (fun _ a ha _ => ⟨by have := hnd a ha; omega, by have := hnd a ha; omega⟩) (fun q a ha _ _ => hn q _) (fun q a ha hf hle => ?_)
  have hnda := hnd a ha
  have h9 := h.2.2.1
  have e9b : (wd_up (r_RJ (I, g, k, z)) 9 0 (ab_ii ((I 9 0).toInt + (c_i (r_R (I, g, k, z)).2.2.1 a 2).toInt)) 9 0).toInt = (I 9 0).toInt + (c_i (r_R (I, g, k, z)).2.2.1 a 2).toInt := by rw [wd_up_self, ab_tI (by omega) (by omega)]
  have hk1 := hkJ (wd_up (r_RJ (I, g, k, z)) 9 0 (ab_ii ((I 9 0).toInt + (c_i (r_R (I, g, k, z)).2.2.1 a 2).toInt))) (fun a j q => wd_up_ne _ _ (by omega)) (by rw [e9b]; omega)
  have hs9 : s.toInt.toNat < 12 := by unfold c_sh at q; omega
  have hsok : s_ok T' (wd_up (r_RJ (I, g, k, z)) 9 0 (ab_ii ((I 9 0).toInt + (c_i (r_R (I, g, k, z)).2.2.1 a 2).toInt))) P s.toInt.toNat c := s_ok_eq (s_ok_mo (hs q).2 g1.inc) ((wd_up_ne _ _ (by omega)).trans (hJ _ _ (by omega))) rfl (fun _ => rfl)
  refine hg q _ T' _ _ _ _ _ (hk1.bec hs9 hsok (g2 a ha)) ((k_fp.of (fun a j q => (wd_up_ne _ _ (by omega)).trans (hJ a j (by omega))) g1.ofr (fun _ _ _ => rfl)).to (fun _ _ q => s_becI_fp q) (fun _ _ q => s_becP_fp q)) (fun hE => hE.bec h.shT h.1 g1.ofr hkk (fun _ _ => rfl) (r_R_ne h.1 h.2.1 h.tp ha) (by dsimp only; omega)) hkk ?_ (hr.le ?_ (by dsimp only; omega) (by dsimp only; omega))
  · dsimp only
    rw [s_becI_ne (by omega), wd_up_ne _ _ (by omega)]; exact hJ1
  · dsimp only
    rw [s_becI_ne (by omega), e9b]; omega
theorem kf_ok_R {gv p a : Nat} {how v : Int32} {P' : wd_P} (h : k_ok T I P g k) (ha : T a) (hgv : how.toInt = 7 → T gv) (hP : ∀ x j, x ≠ 10 → P' x j = P x j) : ∃ T', k_ok T' (c_R gv p a how v (I, g, k, z)).2.1 P' (c_R gv p a how v (I, g, k, z)).2.2.1 (c_R gv p a how v (I, g, k, z)).2.2.2.1 ∧ T' (c_R gv p a how v (I, g, k, z)).1 ∧ k_fp I P g k (c_R gv p a how v (I, g, k, z)).2.1 P' (c_R gv p a how v (I, g, k, z)).2.2.1 ∧ (c_R gv p a how v (I, g, k, z)).2.1 1 1 = I 1 1 ∧ (∀ b, T b → T' b) ∧ ∀ s c, s < 12 → s_ok T I P s c → s_ok T' (c_R gv p a how v (I, g, k, z)).2.1 P' s c := by
  have hgd := c_R_gd (z := z) (n := v) (p := p) h.1 h.2.1 ha h.2.2.1 hgv
  obtain ⟨b1, -, -, -, b5⟩ := k_rm_R (m := 0) h.2.2.1 hgd
  have hfr := c_R_fr hgd
  obtain ⟨T', g1, g2, g3⟩ := hgd
  refine ⟨T', h.fr g1.wf g1.inc g1.ofr b5 (k_sm_of (fun a j q => hfr a j (by omega) (by omega)) (fun a j q => hP a j (by omega))) b1 (by rw [hfr 1 1 (by omega) (by omega)]; exact h.2.2.2.2.2.1), g2, .of (fun a j q => hfr a j (by omega) (by omega)) g1.ofr (fun a j q => hP a j (by omega)), hfr 1 1 (by omega) (by omega), g1.inc, fun s c hs hc => s_ok_eq (s_ok_mo hc g1.inc) (hfr _ _ (by omega) (by omega)) (hP _ _ (by omega)) (fun i => hP _ _ (by omega))⟩
theorem kf_over (hd : 96 ≤ d) (h : k_ok T I P g k) (hr : k_rm (n + 1) I k z) {s f p how v : Int32} (hQ : kf_q I P g k M Q n (I 1 1)) : ab_CT d 108 [wd_v 0, .inl s, .inl f, .inl p, .inl how, .inl v] (wd I P M g, k, z) Q := by
  obtain ⟨a0, c, hs⟩ := k_oks h s
  obtain ⟨a, c0, ha⟩ := k_oks h f
  obtain ⟨b, hb⟩ := k_okp h p
  obtain ⟨gv, c1, hgv⟩ := k_oks h v
  obtain ⟨o, ho7, hon⟩ : ∃ o : Option Nat, (how.toInt = 7 → o = some gv) ∧ (¬ how.toInt = 7 → o = none) := by
    by_cases h7 : how.toInt = 7
    · exact ⟨some gv, fun _ => rfl, fun q => absurd h7 q⟩
    · exact ⟨none, fun q => absurd q h7, fun _ => rfl⟩
  have hall : ∀ hx : (c_sh s ∧ c_sh f ∧ c_pp p ∧ c_isHow how v), (c_gd T 82 (c_cI I how v, g, k, z) (c_R gv b a how v (I, g, k, z))) ∧ ∃ T', k_ok T' (c_R gv b a how v (I, g, k, z)).2.1 (c_cP P b o) (c_R gv b a how v (I, g, k, z)).2.2.1 (c_R gv b a how v (I, g, k, z)).2.2.2.1 ∧ T' (c_R gv b a how v (I, g, k, z)).1 ∧ k_fp I P g k (c_R gv b a how v (I, g, k, z)).2.1 (c_cP P b o) (c_R gv b a how v (I, g, k, z)).2.2.1 ∧ (c_R gv b a how v (I, g, k, z)).2.1 1 1 = I 1 1 ∧ (∀ b, T b → T' b) ∧ ∀ s c, s < 12 → s_ok T I P s c → s_ok T' (c_R gv b a how v (I, g, k, z)).2.1 (c_cP P b o) s c := fun hx => by
    have h7 : how.toInt = 7 → T gv := fun q => (hgv (by have := hx.2.2.2; unfold c_isHow at this; rw [if_neg (by omega), if_pos q] at this; exact this)).1.2
    exact ⟨c_R_gd (z := z) (n := v) (p := b) h.1 h.2.1 (ha hx.2.1).1.2 h.2.2.1 h7, kf_ok_R h (ha hx.2.1).1.2 h7 (fun x j q => c_cP_ne q)⟩
  have hrm : ∀ hx : (c_sh s ∧ c_sh f ∧ c_pp p ∧ c_isHow how v), k_rm n (c_R gv b a how v (I, g, k, z)).2.1 (c_R gv b a how v (I, g, k, z)).2.2.2.1 (c_R gv b a how v (I, g, k, z)).2.2.2.2 := fun hx => by
    obtain ⟨r1, r2, r3, r4, -⟩ := k_rm_R (m := 0) h.2.2.1 (hall hx).1
    unfold k_rm at *
    omega
  have hpl : (c_sh s ∧ c_sh f ∧ c_pp p ∧ c_isHow how v) → ∀ r, Q (some (.inl r)) (c_S (c_cP P b o) M (c_R gv b a how v (I, g, k, z)).2) := fun hx r => by
    obtain ⟨-, T', k1, k2, kf, k3, -⟩ := hall hx
    have hkk := (k_rm_R (m := 0) h.2.2.1 (hall hx).1).2.2.2.2
    exact hQ r T' _ _ _ _ _ k1 kf (fun hE => hE.st h.shT h.1 kf.1 hkk (fun j hj => c_cP_ne (by omega))) hkk k3 (hrm hx)
  refine y_over hd h.1 h.2.1 h.2.2.1 hr.ro (o := o) (fun _ => hQ _ _ _ _ _ _ _ h .rf id (Nat.le_refl _) rfl (hr.le (Int.le_refl _) (by omega) (by omega))) (fun q => (hs q).2) (fun q => (ha q).1) hb (fun h7 q => ⟨(hgv q).1.1, (hgv q).1.2, ho7 h7⟩) hon (fun hx _ => hpl hx _) (fun hx _ _ => hpl hx _) (fun hx _ htm => ?_)
  obtain ⟨-, T', k1, k2, kf, k3, k4, k5⟩ := hall hx
  have hkk := (k_rm_R (m := 0) h.2.2.1 (hall hx).1).2.2.2.2
  have h7 : how.toInt = 7 → c_sh v := fun q => by have := hx.2.2.2; unfold c_isHow at this; rw [if_neg (by omega), if_pos q] at this; exact this
  have hEE : k_E P g → c_EE (c_R gv b a how v (I, g, k, z)).2.2.1 (c_R gv b a how v (I, g, k, z)).1 := fun hE => by
    obtain ⟨e1, e2⟩ := hE.at hx.2.1 (ha hx.2.1).1.1
    exact c_R_ge h.1 h.2.1 (ha hx.2.1).1.2 h.2.2.1 (fun q => (hgv (h7 q)).1.2) e1 e2 (fun q => hE.at (h7 q) (hgv (h7 q)).1.1)
  have hs9 : s.toInt.toNat < 12 := by have := hx.1; unfold c_sh at this; omega
  refine hQ _ T' _ _ _ _ _ (k1.bec hs9 (k5 _ _ hs9 (hs hx.1).2) k2) (kf.to (fun _ _ q => s_becI_fp q) (fun _ _ q => s_becP_fp q)) (fun hE => hE.bec h.shT h.1 kf.1 hkk (fun j hj => c_cP_ne (by omega)) (hEE hE) (by unfold c_tooM at htm; dsimp only; omega)) hkk ?_ ?_
  · show s_becI _ _ _ 1 1 = _
    rw [s_becI_ne (by omega)]; exact k3
  · have := hrm hx
    unfold k_rm at *
    dsimp only
    rw [s_becI_ne (by omega)]
    exact this
theorem kf_put (hd : 10 ≤ d) (h : k_ok T I P g k) (hr : k_rm (n + 1) I k z) {s what a b v : Int32} (hQ : kf_q I P g k M Q n (I 1 1)) : ab_CT d 109 [wd_v 0, .inl s, .inl what, .inl a, .inl b, .inl v] (wd I P M g, k, z) Q := by
  have hrb := hr.b h.2.2.1.2
  obtain ⟨a0, c, hs⟩ := k_oks h s
  obtain ⟨x, c0, ha⟩ := k_oks h a
  obtain ⟨y, c1, hb⟩ := k_oks h b
  have hq := fun r => hQ r _ _ _ _ _ _ h .rf id (Nat.le_refl _) rfl (hr.le (Int.le_refl _) (Nat.le_add_right _ _) (Nat.le_add_right _ _))
  have hst : ∀ hx : c_pt1 s what a b v, c_st T (c_J, g, k, z) (fun w => T w ∨ w = k + 1 + 1 + 1 + 1 + 1) (c_J, c_ptg g k x y what v, k + 1 + 1 + 1 + 1 + 1 + 1, 0) ∧ c_ptz g z x y what v ≤ z + 61 := fun hx => c_ptg_st h.1 h.2.1 (ha hx.2.1).1.2 (hb hx.2.2.1).1.2
  have hk1 : ∀ hx : c_pt1 s what a b v, ∀ I', (∀ a j, a ≠ 9 → I' a j = I a j) → (0 ≤ (I' 9 0).toInt ∧ (I' 9 0).toInt ≤ 3000) → k_ok (fun w => T w ∨ w = k + 1 + 1 + 1 + 1 + 1) I' P (c_ptg g k x y what v) (k + 1 + 1 + 1 + 1 + 1 + 1) := fun hx I' hI h9 => by
    obtain ⟨g1, -⟩ := hst hx
    exact h.fr g1.wf g1.inc g1.ofr g1.kk (k_sm_of (fun a j q => hI a j (by omega)) (fun _ _ _ => rfl)) h9 (by rw [hI 1 1 (by omega)]; exact h.2.2.2.2.2.1)
  refine y_put hd h.1 h.2.1 h.2.2.1 ⟨by omega, by omega⟩ (fun _ => hq _) (fun q => (hs q).2) (fun q => (ha q).1) (fun q => (hb q).1) (fun _ _ _ => hq _) (fun _ _ _ => hq _) (fun hx _ _ _ => ?_) (fun hx _ hlt htm => ?_)
  · exact hQ _ _ _ _ _ _ _ (hk1 hx I (fun _ _ _ => rfl) h.2.2.1) (.of (fun _ _ _ => rfl) (hst hx).1.ofr (fun _ _ _ => rfl)) (fun hE => hE.st h.shT h.1 (hst hx).1.ofr (hst hx).1.kk (fun _ _ => rfl)) (hst hx).1.kk rfl (hr.le (Int.le_refl _) (by omega) (by have := (hst hx).2; omega))
  · have hs9 : s.toInt.toNat < 12 := by have := hx.1; unfold c_sh at this; omega
    obtain ⟨e1, -⟩ := c_I1_9 (I := I) ⟨h.2.2.1.1, hlt⟩
    have h9 := h.2.2.1
    refine hQ _ _ _ _ _ _ _ ((hk1 hx (c_I1 I) (fun a j q => wd_up_ne _ _ (by omega)) (by rw [e1]; omega)).bec hs9 (s_ok_eq (s_ok_mo (hs hx.1).2 (fun _ q => Or.inl q)) (wd_up_ne _ _ (by omega)) rfl (fun _ => rfl)) (Or.inr rfl)) ((k_fp.of (I' := c_I1 I) (fun _ _ q => wd_up_ne _ _ (by omega)) (hst hx).1.ofr (fun _ _ _ => rfl)).to (fun _ _ q => s_becI_fp q) (fun _ _ q => s_becP_fp q)) (fun hE => hE.bec h.shT h.1 (hst hx).1.ofr (hst hx).1.kk (fun _ _ => rfl) (c_ptg_EE h.1 (ha hx.2.1).1.2 (hb hx.2.2.1).1.2 (hE.at hx.2.1 (ha hx.2.1).1.1).1 (hE.at hx.2.2.1 (hb hx.2.2.1).1.1).1 (hE.at hx.2.1 (ha hx.2.1).1.1).2 (hE.at hx.2.2.1 (hb hx.2.2.1).1.1).2) (by unfold c_tooM at htm; omega)) (hst hx).1.kk ?_ (hr.le ?_ (by omega) (by have := (hst hx).2; omega))
    · rw [s_becI_ne (by omega)]; exact wd_up_ne _ _ (by omega)
    · rw [s_becI_ne (by omega), e1]; omega
end
