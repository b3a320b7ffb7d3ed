/-! ===== the class: feed, path, thing, over, put, fit, safe (own text) ===== -/
theorem r_side_tf {I : wd_I} (h : t_tp I) : r_tf I (r_side I).1 := by
  unfold r_side
  split
  · exact (t_step_tf h).1
  · exact t_needs_tf h
theorem r_step_tf {I : wd_I} (h : t_tp I) : r_tf I (r_step I).1 := by
  have hs := (t_step_tf h).1
  have ht := hs.2.1
  unfold r_step
  by_cases c1 : (t_next I).toInt = 42 ∨ (t_next I).toInt = 126 ∨ (t_next I).toInt = 37
  · rw [if_pos c1]; exact hs
  rw [if_neg c1]
  by_cases c2 : (t_next I).toInt = 46
  · rw [if_pos c2]; exact hs.tr (r_side_tf ht)
  rw [if_neg c2]
  by_cases c3 : (t_next I).toInt = 47
  · rw [if_pos c3]; exact hs.tr (t_digits_tf ht (by omega)).1
  rw [if_neg c3]
  by_cases c4 : (t_next I).toInt = 35
  · rw [if_pos c4]; exact hs.tr (t_digits_tf ht (by omega)).1
  rw [if_neg c4]
  by_cases c5 : (t_next I).toInt = 36
  · rw [if_pos c5]
    dsimp only
    have h1 := t_letters_tf ht
    exact (hs.tr h1).tr (t_needs_tf h1.2.1)
  rw [if_neg c5]
  by_cases c6 : (t_next I).toInt = 60
  · rw [if_pos c6]
    dsimp only
    have h1 := (t_digits_tf (most := 2) ht (by omega)).1
    exact (hs.tr h1).tr (t_needs_tf h1.2.1)
  rw [if_neg c6]
  by_cases c7 : (t_next I).toInt = 61
  · rw [if_pos c7]
    dsimp only
    have h1 := (t_signed_tf ht).1
    exact (hs.tr h1).tr (t_needs_tf h1.2.1)
  rw [if_neg c7]
  exact hs.tr (t_fail_tf ht).1
/-- rows 5 and 6, and the tape's two numbers, alone are written -/
def r_pf (I I' : wd_I) : Prop := ∀ a j, a ≠ 5 → a ≠ 6 → ¬ (a = 1 ∧ (j = 2 ∨ j = 3)) → I' a j = I a j
theorem r_pf.tr {I I' I'' : wd_I} (h : r_pf I I') (h' : r_pf I' I'') : r_pf I I'' := fun a j q1 q2 q3 => (h' a j q1 q2 q3).trans (h a j q1 q2 q3)
theorem r_tf.pf {I I' : wd_I} (h : r_tf I I') : r_pf I I' := fun a j _ _ q3 => h.1 a j q3
theorem r_one_pf {I : wd_I} {j : Nat} (h : t_tp I) : r_pf I (r_one I j) := by
  have h1 : r_pf I (wd_up I 5 j (t_next I)) := fun a i q1 _ _ => wd_up_ne _ _ (Or.inl q1)
  have h2 := r_step_tf (t_tp_up (v := t_next I) (j := j) h (show 5 ≠ 1 by omega))
  exact (h1.tr h2.pf).tr (fun a i _ q2 _ => wd_up_ne _ _ (Or.inl q2))
theorem r_loop_pf : ∀ (r : Nat) (I : wd_I) (j : Nat), t_tp I → r_pf I (r_loop r I j).1 ∧ t_tp (r_loop r I j).1
  | 0, I, j, h => ⟨fun _ _ _ _ _ => rfl, h⟩
  | r + 1, I, j, h => by
    unfold r_loop
    split
    · exact ⟨fun _ _ _ _ _ => rfl, h⟩
    · split
      · exact ⟨fun _ _ _ _ _ => rfl, h⟩
      · obtain ⟨h1, h2⟩ := r_loop_pf r (r_one I j) (j + 1) (r_one_tp h)
        exact ⟨(r_one_pf h).tr h1, h2⟩
theorem r_who_pf {I : wd_I} (h : 0 ≤ (I 1 1).toInt ∧ (I 1 1).toInt ≤ 100) : r_pf I (r_who I) ∧ t_tp (r_who I) := by
  have h0 : r_pf I (r_new I) := fun a j _ _ q3 => by unfold r_new; rw [wd_up_ne _ _ (by omega), wd_up_ne _ _ (by omega)]
  obtain ⟨h1, h2⟩ := r_loop_pf 8 (r_new I) 0 (r_new_tp h)
  have h3 := r_end_tf h2
  exact ⟨(h0.tr h1).tr h3.pf, h3.2.1⟩
section
variable {d : Nat} {T : Nat → Prop} {I : wd_I} {P : wd_P} {M : wd_I} {g : Nat → ab_C} {k z n : Nat} {Q : ab_Q}
theorem kk_path (hd : 8 ≤ d) (h : k_ok T I P g k) (hr : k_rm (n + 1) I k z) {p : Int32} (hb : ¬ c_pp p → k_q M Q n (I 1 1)) (hg : c_pp p → k_q M Q n (ab_ii 0)) : ab_CT d 106 [wd_v 0, .inl p] (wd I P M g, k, z) Q := by
  have hrb := hr.b h.2.2.1.2
  obtain ⟨w1, w2⟩ := r_who_pf h.tp
  have h8 : r_len I ≤ 8 := by have := r_loop_le 8 (r_new I) 0; unfold r_len; omega
  have e9 : ∀ v, wd_up (r_who I) 1 1 v 9 0 = I 9 0 := fun v => (wd_up_ne _ _ (by omega)).trans (w1 9 0 (by omega) (by omega) (by omega))
  refine y_path hd h.2.1 h.tp ⟨by omega, by omega⟩ (fun q => hb q _ _ _ _ _ _ _ h rfl (hr.le (Int.le_refl _) (by omega) (by omega))) (fun q _ => hg q _ T _ _ _ _ _ ?_ (wd_up_self _ _ _ _) (hr.le (by rw [e9]; exact Int.le_refl _) (by omega) (by omega))) (fun q _ => hg q _ T _ _ _ _ _ ?_ (wd_up_self _ _ _ _) (hr.le (by rw [e9]; exact Int.le_refl _) (by omega) (by omega)))
  · exact h.fr h.1 (fun _ q => q) c_ofr.rf (Nat.le_refl _) (k_sm_of (fun a j q => (wd_up_ne _ _ (by omega)).trans (w1 a j (by omega) (by omega) (by omega))) (fun _ _ _ => rfl)) (by rw [e9]; exact h.2.2.1) ⟨0, wd_up_self _ _ _ _, by omega⟩
  · exact h.pset c_mkr_of (by omega) (c_mkr_wf h.2.1 h8).1 (fun a j q => (wd_up_ne _ _ (by omega)).trans (w1 a j (by omega) (by omega) (by omega))) ⟨0, wd_up_self _ _ _ _, by omega⟩
theorem kk_thing (hd : 60 ≤ d) (h : k_ok T I P g k) (hr : k_rm (n + 1) I k z) {s : Int32} (hb : ¬ c_sh s → k_q M Q n (I 1 1)) (hg : c_sh s → k_q M Q n (ab_ii 0)) : ab_CT d 105 [wd_v 0, .inl s] (wd I P M g, k, z) Q := by
  have hrb := hr.b h.2.2.1.2
  obtain ⟨a0, c, hs⟩ := k_oks h s
  obtain ⟨T', g1, g2, g3, g4, g5, g6⟩ := r_R_gd (z := z) h.1 h.2.1 h.tp
  have hkk : k ≤ (r_R (I, g, k, z)).2.2.2.1 := g1.kk
  have hJ : ∀ a j, ¬ (a = 1) → r_RJ (I, g, k, z) a j = I a j := fun a j q => (wd_up_ne _ _ (by omega)).trans (g3 a j (by omega))
  have hJ1 : r_RJ (I, g, k, z) 1 1 = ab_ii 0 := wd_up_self _ _ _ _
  have hkJ : ∀ (I' : wd_I), (∀ a j, a ≠ 9 → I' a j = r_RJ (I, g, k, z) a j) → (0 ≤ (I' 9 0).toInt ∧ (I' 9 0).toInt ≤ 3000) → k_ok T' I' P (r_R (I, g, k, z)).2.2.1 (r_R (I, g, k, z)).2.2.2.1 := fun I' hI h9 => h.fr g1.wf g1.inc g1.ofr hkk (k_sm_of (fun a j q => (hI a j (by omega)).trans (hJ a j (by omega))) (fun _ _ _ => rfl)) h9 ⟨0, (hI 1 1 (by omega)).trans hJ1, by omega⟩
  have e9 : r_RJ (I, g, k, z) 9 0 = I 9 0 := hJ 9 0 (by omega)
  have hk0 := hkJ _ (fun _ _ _ => rfl) (by rw [e9]; exact h.2.2.1)
  have hn := fun q r => hg q r T' _ _ _ _ (r_R (I, g, k, z)).2.2.2.2 hk0 hJ1 (hr.le (by rw [e9]; exact Int.le_refl _) (by omega) (by omega))
  have hnd := fun a ha => r_R_nb (z := z) (a := a) h.1 h.2.1 h.tp ha
  refine y_thing hd h.1 h.2.1 h.tp h.2.2.1 ⟨by omega, by omega⟩ (fun q => (hs q).2) (fun q => hb q _ _ _ _ _ _ _ h rfl (hr.le (Int.le_refl _) (by omega) (by omega))) (fun q _ => hn q _) (fun _ a ha _ => ⟨by have := hnd a ha; omega, by have := hnd a ha; omega⟩) (fun q a ha _ _ => hn q _) (fun q a ha hf hle => ?_)
  have hnda := hnd a ha
  have h9 := h.2.2.1
  have e9b : (wd_up (r_RJ (I, g, k, z)) 9 0 (ab_ii ((I 9 0).toInt + (c_i (r_R (I, g, k, z)).2.2.1 a 2).toInt)) 9 0).toInt = (I 9 0).toInt + (c_i (r_R (I, g, k, z)).2.2.1 a 2).toInt := by rw [wd_up_self, ab_tI (by omega) (by omega)]
  have hk1 := hkJ (wd_up (r_RJ (I, g, k, z)) 9 0 (ab_ii ((I 9 0).toInt + (c_i (r_R (I, g, k, z)).2.2.1 a 2).toInt))) (fun a j q => wd_up_ne _ _ (by omega)) (by rw [e9b]; omega)
  have hs9 : s.toInt.toNat < 12 := by unfold c_sh at q; omega
  have hsok : s_ok T' (wd_up (r_RJ (I, g, k, z)) 9 0 (ab_ii ((I 9 0).toInt + (c_i (r_R (I, g, k, z)).2.2.1 a 2).toInt))) P s.toInt.toNat c := s_ok_eq (s_ok_mo (hs q).2 g1.inc) ((wd_up_ne _ _ (by omega)).trans (hJ _ _ (by omega))) rfl (fun _ => rfl)
  refine hg q _ T' _ _ _ _ _ (hk1.bec hs9 hsok (g2 a ha)) ?_ (hr.le ?_ (by dsimp only; omega) (by dsimp only; omega))
  · dsimp only
    rw [s_becI_ne (by omega), wd_up_ne _ _ (by omega)]; exact hJ1
  · dsimp only
    rw [s_becI_ne (by omega), e9b]; omega
/-- room behind OVER -/
theorem k_rm_R {m : Nat} {T : Nat → Prop} {gv p a : Nat} {how v : Int32} (h9 : 0 ≤ (I 9 0).toInt ∧ (I 9 0).toInt ≤ 3000) (hgd : c_gd T 82 (c_cI I how v, g, k, z) (c_R gv p a how v (I, g, k, z))) : (0 ≤ ((c_R gv p a how v (I, g, k, z)).2.1 9 0).toInt ∧ ((c_R gv p a how v (I, g, k, z)).2.1 9 0).toInt ≤ 3000) ∧ ((I 9 0).toInt ≤ ((c_R gv p a how v (I, g, k, z)).2.1 9 0).toInt) ∧ (((c_R gv p a how v (I, g, k, z)).2.2.2.1 : Int) + 8 * (3001 - ((c_R gv p a how v (I, g, k, z)).2.1 9 0).toInt) ≤ k + 8 * (3001 - (I 9 0).toInt) + 90) ∧ (((c_R gv p a how v (I, g, k, z)).2.2.2.2 : Int) + 170 * (3001 - ((c_R gv p a how v (I, g, k, z)).2.1 9 0).toInt) ≤ z + 170 * (3001 - (I 9 0).toInt) + 3450) ∧ k ≤ (c_R gv p a how v (I, g, k, z)).2.2.2.1 := by
  obtain ⟨e1, e2, e3, -⟩ := c_cI_e (I := I) (how := how) (n := v)
  have hsp := c_R_sp (gv := gv) (p := p) (a := a) (how := how) (n := v) (S := (I, g, k, z)) h9
  obtain ⟨T', g1, -, g3⟩ := hgd
  have g4 : k ≤ (c_R gv p a how v (I, g, k, z)).2.2.2.1 := g1.kk
  unfold c_us at g3
  unfold c_sp at hsp
  dsimp only at g3
  rw [e1] at g3
  refine ⟨hsp.1, g3.1.1, ?_, ?_, g4⟩ <;> rcases hsp.2 with q | q <;> omega
theorem k_ok_R {gv p a : Nat} {how v : Int32} {P' : wd_P} (h : k_ok T I P g k) (ha : T a) (hgv : how.toInt = 7 → T gv) (hP : ∀ x j, x ≠ 10 → P' x j = P x j) : ∃ T', k_ok T' (c_R gv p a how v (I, g, k, z)).2.1 P' (c_R gv p a how v (I, g, k, z)).2.2.1 (c_R gv p a how v (I, g, k, z)).2.2.2.1 ∧ T' (c_R gv p a how v (I, g, k, z)).1 ∧ (c_R gv p a how v (I, g, k, z)).2.1 1 1 = I 1 1 ∧ (∀ b, T b → T' b) ∧ ∀ s c, s < 12 → s_ok T I P s c → s_ok T' (c_R gv p a how v (I, g, k, z)).2.1 P' s c := by
  have hgd := c_R_gd (z := z) (n := v) (p := p) h.1 h.2.1 ha h.2.2.1 hgv
  obtain ⟨b1, -, -, -, b5⟩ := k_rm_R (m := 0) h.2.2.1 hgd
  have hfr := c_R_fr hgd
  obtain ⟨T', g1, g2, g3⟩ := hgd
  refine ⟨T', h.fr g1.wf g1.inc g1.ofr b5 (k_sm_of (fun a j q => hfr a j (by omega) (by omega)) (fun a j q => hP a j (by omega))) b1 (by rw [hfr 1 1 (by omega) (by omega)]; exact h.2.2.2.2.2.1), g2, hfr 1 1 (by omega) (by omega), g1.inc, fun s c hs hc => s_ok_eq (s_ok_mo hc g1.inc) (hfr _ _ (by omega) (by omega)) (hP _ _ (by omega)) (fun i => hP _ _ (by omega))⟩
theorem kk_over (hd : 96 ≤ d) (h : k_ok T I P g k) (hr : k_rm (n + 1) I k z) {s f p how v : Int32} (hQ : k_q M Q n (I 1 1)) : ab_CT d 108 [wd_v 0, .inl s, .inl f, .inl p, .inl how, .inl v] (wd I P M g, k, z) Q := by
  obtain ⟨a0, c, hs⟩ := k_oks h s
  obtain ⟨a, c0, ha⟩ := k_oks h f
  obtain ⟨b, hb⟩ := k_okp h p
  obtain ⟨gv, c1, hgv⟩ := k_oks h v
  obtain ⟨o, ho7, hon⟩ : ∃ o : Option Nat, (how.toInt = 7 → o = some gv) ∧ (¬ how.toInt = 7 → o = none) := by
    by_cases h7 : how.toInt = 7
    · exact ⟨some gv, fun _ => rfl, fun q => absurd h7 q⟩
    · exact ⟨none, fun q => absurd q h7, fun _ => rfl⟩
  have hall : ∀ hx : (c_sh s ∧ c_sh f ∧ c_pp p ∧ c_isHow how v), (c_gd T 82 (c_cI I how v, g, k, z) (c_R gv b a how v (I, g, k, z))) ∧ ∃ T', k_ok T' (c_R gv b a how v (I, g, k, z)).2.1 (c_cP P b o) (c_R gv b a how v (I, g, k, z)).2.2.1 (c_R gv b a how v (I, g, k, z)).2.2.2.1 ∧ T' (c_R gv b a how v (I, g, k, z)).1 ∧ (c_R gv b a how v (I, g, k, z)).2.1 1 1 = I 1 1 ∧ (∀ b, T b → T' b) ∧ ∀ s c, s < 12 → s_ok T I P s c → s_ok T' (c_R gv b a how v (I, g, k, z)).2.1 (c_cP P b o) s c := fun hx => by
    have h7 : how.toInt = 7 → T gv := fun q => (hgv (by have := hx.2.2.2; unfold c_isHow at this; rw [if_neg (by omega), if_pos q] at this; exact this)).1.2
    exact ⟨c_R_gd (z := z) (n := v) (p := b) h.1 h.2.1 (ha hx.2.1).1.2 h.2.2.1 h7, k_ok_R h (ha hx.2.1).1.2 h7 (fun x j q => c_cP_ne q)⟩
  have hrm : ∀ hx : (c_sh s ∧ c_sh f ∧ c_pp p ∧ c_isHow how v), k_rm n (c_R gv b a how v (I, g, k, z)).2.1 (c_R gv b a how v (I, g, k, z)).2.2.2.1 (c_R gv b a how v (I, g, k, z)).2.2.2.2 := fun hx => by
    obtain ⟨r1, r2, r3, r4, -⟩ := k_rm_R (m := 0) h.2.2.1 (hall hx).1
    unfold k_rm at *
    omega
  have hpl : (c_sh s ∧ c_sh f ∧ c_pp p ∧ c_isHow how v) → ∀ r, Q (some (.inl r)) (c_S (c_cP P b o) M (c_R gv b a how v (I, g, k, z)).2) := fun hx r => by
    obtain ⟨-, T', k1, k2, k3, -⟩ := hall hx
    exact hQ r T' _ _ _ _ _ k1 k3 (hrm hx)
  refine y_over hd h.1 h.2.1 h.2.2.1 hr.ro (o := o) (fun _ => hQ _ _ _ _ _ _ _ h rfl (hr.le (Int.le_refl _) (by omega) (by omega))) (fun q => (hs q).2) (fun q => (ha q).1) hb (fun h7 q => ⟨(hgv q).1.1, (hgv q).1.2, ho7 h7⟩) hon (fun hx _ => hpl hx _) (fun hx _ _ => hpl hx _) (fun hx _ _ => ?_)
  obtain ⟨-, T', k1, k2, k3, k4, k5⟩ := hall hx
  have hs9 : s.toInt.toNat < 12 := by have := hx.1; unfold c_sh at this; omega
  refine hQ _ T' _ _ _ _ _ (k1.bec hs9 (k5 _ _ hs9 (hs hx.1).2) k2) ?_ ?_
  · show s_becI _ _ _ 1 1 = _
    rw [s_becI_ne (by omega)]; exact k3
  · have := hrm hx
    unfold k_rm at *
    dsimp only
    rw [s_becI_ne (by omega)]
    exact this
theorem kk_put (hd : 10 ≤ d) (h : k_ok T I P g k) (hr : k_rm (n + 1) I k z) {s what a b v : Int32} (hQ : k_q M Q n (I 1 1)) : ab_CT d 109 [wd_v 0, .inl s, .inl what, .inl a, .inl b, .inl v] (wd I P M g, k, z) Q := by
  have hrb := hr.b h.2.2.1.2
  obtain ⟨a0, c, hs⟩ := k_oks h s
  obtain ⟨x, c0, ha⟩ := k_oks h a
  obtain ⟨y, c1, hb⟩ := k_oks h b
  have hq := fun r => hQ r _ _ _ _ _ _ h rfl (hr.le (Int.le_refl _) (Nat.le_add_right _ _) (Nat.le_add_right _ _))
  have hst : ∀ hx : c_pt1 s what a b v, c_st T (c_J, g, k, z) (fun w => T w ∨ w = k + 1 + 1 + 1 + 1 + 1) (c_J, c_ptg g k x y what v, k + 1 + 1 + 1 + 1 + 1 + 1, 0) ∧ c_ptz g z x y what v ≤ z + 61 := fun hx => c_ptg_st h.1 h.2.1 (ha hx.2.1).1.2 (hb hx.2.2.1).1.2
  have hk1 : ∀ hx : c_pt1 s what a b v, ∀ I', (∀ a j, a ≠ 9 → I' a j = I a j) → (0 ≤ (I' 9 0).toInt ∧ (I' 9 0).toInt ≤ 3000) → k_ok (fun w => T w ∨ w = k + 1 + 1 + 1 + 1 + 1) I' P (c_ptg g k x y what v) (k + 1 + 1 + 1 + 1 + 1 + 1) := fun hx I' hI h9 => by
    obtain ⟨g1, -⟩ := hst hx
    exact h.fr g1.wf g1.inc g1.ofr g1.kk (k_sm_of (fun a j q => hI a j (by omega)) (fun _ _ _ => rfl)) h9 (by rw [hI 1 1 (by omega)]; exact h.2.2.2.2.2.1)
  refine y_put hd h.1 h.2.1 h.2.2.1 ⟨by omega, by omega⟩ (fun _ => hq _) (fun q => (hs q).2) (fun q => (ha q).1) (fun q => (hb q).1) (fun _ _ _ => hq _) (fun _ _ _ => hq _) (fun hx _ _ _ => ?_) (fun hx _ hlt _ => ?_)
  · exact hQ _ _ _ _ _ _ _ (hk1 hx I (fun _ _ _ => rfl) h.2.2.1) rfl (hr.le (Int.le_refl _) (by omega) (by have := (hst hx).2; omega))
  · have hs9 : s.toInt.toNat < 12 := by have := hx.1; unfold c_sh at this; omega
    obtain ⟨e1, -⟩ := c_I1_9 (I := I) ⟨h.2.2.1.1, hlt⟩
    have h9 := h.2.2.1
    refine hQ _ _ _ _ _ _ _ ((hk1 hx (c_I1 I) (fun a j q => wd_up_ne _ _ (by omega)) (by rw [e1]; omega)).bec hs9 (s_ok_eq (s_ok_mo (hs hx.1).2 (fun _ q => Or.inl q)) (wd_up_ne _ _ (by omega)) rfl (fun _ => rfl)) (Or.inr rfl)) ?_ (hr.le ?_ (by omega) (by have := (hst hx).2; omega))
    · rw [s_becI_ne (by omega)]; exact wd_up_ne _ _ (by omega)
    · rw [s_becI_ne (by omega), e1]; omega
theorem kk_fit (hd : 98 ≤ d) (h : k_ok T I P g k) (hr : k_rm (n + 1) I k z) {s p w : Int32} (hQ : k_q M Q n (I 1 1)) : ab_CT d 119 [wd_v 0, .inl s, .inl p, .inl w] (wd I P M g, k, z) Q := by
  obtain ⟨a, c, ha⟩ := k_oks h s
  obtain ⟨b, hb⟩ := k_okp h p
  obtain ⟨gv, c1, hgv⟩ := k_oks h w
  have hfP : ∀ x j, x ≠ 10 → c_fP P b gv x j = P x j := fun x j q => c_cP_ne q
  have h1 : ∀ hx : (c_sh s ∧ c_pp p ∧ c_sh w), ∃ T1, k_ok T1 (c_F1 gv b a (I, g, k, z)).2.1 (c_fP P b gv) (c_F1 gv b a (I, g, k, z)).2.2.1 (c_F1 gv b a (I, g, k, z)).2.2.2.1 ∧ T1 (c_F1 gv b a (I, g, k, z)).1 ∧ (c_F1 gv b a (I, g, k, z)).2.1 1 1 = I 1 1 ∧ T1 gv := fun hx => by
    obtain ⟨T1, k1, k2, k3, k4, -⟩ := k_ok_R (gv := gv) (p := b) (a := a) (how := ab_ii 7) (v := ab_ii 0) (z := z) h (ha hx.1).1.2 (fun _ => (hgv hx.2.2).1.2) hfP
    exact ⟨T1, k1, k2, k3, k4 _ (hgv hx.2.2).1.2⟩
  have r1 : ∀ hx : (c_sh s ∧ c_pp p ∧ c_sh w), _ := fun hx => k_rm_R (m := 0) h.2.2.1 (c_R_gd (z := z) (how := ab_ii 7) (n := ab_ii 0) (p := b) h.1 h.2.1 (ha hx.1).1.2 h.2.2.1 (fun _ => (hgv hx.2.2).1.2))
  have hp1 : (c_sh s ∧ c_pp p ∧ c_sh w) → ∀ r, Q (some (.inl r)) (c_S (c_fP P b gv) M (c_F1 gv b a (I, g, k, z)).2) := fun hx r => by
    obtain ⟨T1, k1, k2, k3, -⟩ := h1 hx
    refine hQ r T1 _ _ _ _ _ k1 k3 ?_
    obtain ⟨q1, q2, q3, q4, -⟩ := r1 hx
    unfold c_F1
    unfold k_rm at *
    omega
  have h2 : ∀ hx : (c_sh s ∧ c_pp p ∧ c_sh w), ∃ T2, k_ok T2 (c_F2 gv b a (I, g, k, z)).2.1 (c_fP P b gv) (c_F2 gv b a (I, g, k, z)).2.2.1 (c_F2 gv b a (I, g, k, z)).2.2.2.1 ∧ (c_F2 gv b a (I, g, k, z)).2.1 1 1 = I 1 1 ∧ k_rm n (c_F2 gv b a (I, g, k, z)).2.1 (c_F2 gv b a (I, g, k, z)).2.2.2.1 (c_F2 gv b a (I, g, k, z)).2.2.2.2 := fun hx => by
    obtain ⟨T1, k1, k2, k3, kg⟩ := h1 hx
    obtain ⟨q1, q2, q3, q4, -⟩ := r1 hx
    unfold c_F2
    change (0 ≤ ((c_F1 gv b a (I, g, k, z)).2.1 9 0).toInt ∧ ((c_F1 gv b a (I, g, k, z)).2.1 9 0).toInt ≤ 3000) at q1
    change (I 9 0).toInt ≤ ((c_F1 gv b a (I, g, k, z)).2.1 9 0).toInt at q2
    change ((c_F1 gv b a (I, g, k, z)).2.2.2.1 : Int) + 8 * (3001 - ((c_F1 gv b a (I, g, k, z)).2.1 9 0).toInt) ≤ _ at q3
    change ((c_F1 gv b a (I, g, k, z)).2.2.2.2 : Int) + 170 * (3001 - ((c_F1 gv b a (I, g, k, z)).2.1 9 0).toInt) ≤ _ at q4
    generalize c_F1 gv b a (I, g, k, z) = R at *
    obtain ⟨x1, I1, g1, k1', z1⟩ := R
    dsimp only at *
    obtain ⟨T2, m1, m2, m3, m4, -⟩ := k_ok_R (gv := gv) (p := b) (a := x1) (how := ab_ii 7) (v := ab_ii 0) (z := z1) (P' := c_fP P b gv) k1 k2 (fun _ => kg) (fun _ _ _ => rfl)
    obtain ⟨u1, u2, u3, u4, -⟩ := k_rm_R (m := 0) k1.2.2.1 (c_R_gd (z := z1) (how := ab_ii 7) (n := ab_ii 0) (p := b) (gv := gv) k1.1 k1.2.1 k2 k1.2.2.1 (fun _ => kg))
    refine ⟨T2, m1, m3.trans k3, ?_⟩
    unfold k_rm at *
    omega
  have hp2 : (c_sh s ∧ c_pp p ∧ c_sh w) → ∀ r, Q (some (.inl r)) (c_S (c_fP P b gv) M (c_F2 gv b a (I, g, k, z)).2) := fun hx r => by
    obtain ⟨T2, k1, k3, k5⟩ := h2 hx
    exact hQ r T2 _ _ _ _ _ k1 k3 k5
  refine y_fit hd h.1 h.2.1 h.2.2.1 hr.ro (fun _ => hQ _ _ _ _ _ _ _ h rfl (hr.le (Int.le_refl _) (by omega) (by omega))) (fun q => (ha q).1) hb (fun q => (hgv q).1) (fun hx _ => hp1 hx _) (fun hx _ _ => hp1 hx _) (fun hx _ _ _ => hp2 hx _) (fun hx _ _ _ _ => hp2 hx _) (fun hx _ _ _ _ => ?_)
  obtain ⟨T2, k1, k3, k5⟩ := h2 hx
  refine hQ _ T2 _ _ _ _ _ k1.fnd ((f_fnd_ne.1 _ _ (by omega)).trans k3) ?_
  unfold k_rm at *
  rw [f_fnd_ne.1 _ _ (by omega)]
  exact k5
end
