/-! ===== the law's methods over the object (own text) ===== -/
def lw (n : Nat) (T : Nat → Prop) (I : wd_I) (P : wd_P) (g : Nat → ab_C) (k z : Nat) : Prop := k_ok T I P g k ∧ k_rm n I k z ∧ 204 ≤ k ∧ st_sp (wd I P lM g) ∧ k_E P g
def lf (I : wd_I) (P : wd_P) (g : Nat → ab_C) (k : Nat) (I' : wd_I) (P' : wd_P) (g' : Nat → ab_C) (k' : Nat) : Prop := k ≤ k' ∧ c_ofr k g g' ∧ (∀ a i, (a = 16 ∨ a = 17) → P' a i = P a i) ∧ I' 0 11 = I 0 11
def k_fd (I I' : wd_I) : Prop := (∀ a j, a ≠ 2 → ¬ (a = 1 ∧ j = 1) → I' a j = I a j) ∧ ∃ m : Nat, I' 1 1 = ab_ii (m : Int) ∧ m ≤ 100
section
variable {d : Nat} {T : Nat → Prop} {I I' I'' : wd_I} {P P' P'' : wd_P} {g g' g'' : Nat → ab_C} {k k' k'' z z' n : Nat} {Q : ab_Q}
theorem lf.rf : lf I P g k I P g k := ⟨Nat.le_refl _, c_ofr.rf, fun _ _ _ => rfl, rfl⟩
theorem lf.tr (h : lf I P g k I' P' g' k') (h' : lf I' P' g' k' I'' P'' g'' k'') : lf I P g k I'' P'' g'' k'' := ⟨Nat.le_trans h.1 h'.1, h.2.1.tr h'.2.1 h.1, fun a i q => (h'.2.2.1 a i q).trans (h.2.2.1 a i q), h'.2.2.2.trans h.2.2.2⟩
theorem k_fd.tr (h : k_fd I I') (h' : k_fd I' I'') : k_fd I I'' := ⟨fun a j q1 q2 => (h'.1 a j q1 q2).trans (h.1 a j q1 q2), h'.2⟩
theorem k_ok.fd (h : k_ok T I P g k) (hf : k_fd I I') : k_ok T I' P g k := h.fr h.1 (fun _ q => q) c_ofr.rf (Nat.le_refl _) (k_sm_of (fun a j q => hf.1 a j (by omega) (by omega)) (fun _ _ _ => rfl)) (by rw [hf.1 9 0 (by omega) (by omega)]; exact h.2.2.1) hf.2
theorem wd_hi {a : Nat} (h : 125 ≤ a) : wd I P lM g a = g a := wd_g (wd_mut_new h)
theorem scr_hi {a : Nat} (h : ab_scr ≤ a) : 204 ≤ a := Nat.le_trans (by decide) h
theorem st_sp.wd (h : st_sp (wd I P lM g)) : st_sp (wd I' P' lM g) := h.eq (fun a ha => by have := scr_hi ha; rw [wd_hi (by omega), wd_hi (by omega)])
theorem st_is.wd {s w m : Nat} (h : st_is (wd I P lM g) 204 k s w m) : st_is (wd I' P' lM g) 204 k s w m := by
  obtain ⟨⟨f, tl, h1, h2⟩, h3, h4, h5⟩ := h
  have hs : 125 ≤ s := by
    rcases h3 with q | q
    · omega
    · have := scr_hi q; omega
  have hw : 125 ≤ w := by
    rcases h4 with q | q
    · omega
    · have := scr_hi q; omega
  rw [wd_hi hs] at h1
  rw [wd_hi hw] at h2
  exact ⟨⟨f, tl, (wd_hi hs).trans h1, (wd_hi hw).trans h2⟩, h3, h4, h5⟩
theorem st_is.lo {F : Nat → ab_C} {lo lo' s w m : Nat} (h : st_is F lo k s w m) (hl : lo' ≤ lo) : st_is F lo' k s w m := ⟨h.1, h.2.1.imp (fun q => ⟨by omega, q.2⟩) id, h.2.2.1.imp (fun q => ⟨by omega, q.2⟩) id, h.2.2.2⟩
theorem wd_ex {F' : Nat → ab_C} (hk : 204 ≤ k) (h : ∀ a, (a < k ∨ ab_scr ≤ a) → F' a = wd I P lM g a) : ∃ g', F' = wd I P lM g' ∧ c_ofr k g g' := by
  refine ⟨F', ?_, fun b hb hm => (h b (Or.inl hb)).trans (wd_g hm)⟩
  funext a
  cases hm : wd_mut a with
  | false => exact (wd_g hm).symm
  | true =>
    have ha : a < 125 := by
      rcases Nat.lt_or_ge a 125 with q | q
      · exact q
      · rw [wd_mut_new q] at hm; cases hm
    rw [h a (Or.inl (by omega)), wd_at hm, wd_at hm]
theorem lw.st (h : lw (n + 1) T I P g k z) (hx : c_ofr k g g') (hk : k ≤ k' ∧ k' ≤ k + 700) (hz : z' ≤ z + 7000) (hs : st_sp (wd I P lM g')) : lw n T I P g' k' z' := by
  obtain ⟨h1, h2, h3, h4, h5⟩ := h
  exact ⟨h1.fr (c_W_xt h1.1 hx hk.1) (fun _ q => q) hx hk.1 k_sm.rf h1.2.2.1 h1.2.2.2.2.2.1, h2.le (Int.le_refl _) hk.2 hz, by omega, hs, h5.st h1.shT h1.1 hx hk.1 (fun _ _ => rfl)⟩
theorem lw.fd (h : lw n T I P g k z) (hf : k_fd I I') : lw n T I' P g k z := by
  obtain ⟨h1, h2, h3, h4, h5⟩ := h
  refine ⟨h1.fd hf, ?_, h3, h4.wd, h5⟩
  unfold k_rm at *
  rw [hf.1 9 0 (by omega) (by omega)]
  exact h2
theorem lw.qt (h : lw n T I P g k z) (hq : k_qt I P I' P') : lw n T I' P' g k z := by
  obtain ⟨h1, h2, h3, h4, h5⟩ := h
  refine ⟨h1.qt hq, ?_, h3, h4.wd, h5.st h1.shT h1.1 c_ofr.rf (Nat.le_refl _) (fun j _ => hq.sh j)⟩
  unfold k_rm at *
  rw [hq.1 9 0 (by omega)]
  exact h2
theorem lw.le {n' : Nat} (h : lw n' T I P g k z) (hn : n ≤ n') : lw n T I P g k z := by
  obtain ⟨h1, h2, h3, h4, h5⟩ := h
  refine ⟨h1, ?_, h3, h4, h5⟩
  unfold k_rm at *
  omega
theorem lf.of_qt (hq : k_qt I P I' P') : lf I P g k I' P' g k := ⟨Nat.le_refl _, c_ofr.rf, fun a i q => hq.2 a i (by omega), hq.1 0 11 (by omega)⟩
theorem lf.of_fd (hf : k_fd I I') : lf I P g k I' P g k := ⟨Nat.le_refl _, c_ofr.rf, fun _ _ _ => rfl, hf.1 0 11 (by omega) (by omega)⟩
theorem lw.room (h : lw (n + 5) T I P g k z) : k + 3500 ≤ 600000 ∧ z + 35000 ≤ 5000000 := by
  have h2 := h.2.1
  have h9 := h.1.2.2.1
  unfold k_rm at h2
  omega
theorem lw_thing (hd : 60 ≤ d) (h : lw (n + 1) T I P g k z) {s : Int32} (hs : c_sh s) (hQ : ∀ r T' I' P' g' k' z', lw n T' I' P' g' k' z' → lf I P g k I' P' g' k' → (∀ q, P' 8 q = P 8 q) → Q (some (.inl r)) (wd I' P' lM g', k', z')) : ab_CT d 105 [wd_v 0, .inl s] (wd I P lM g, k, z) Q :=
  ab_CT_k (kf_thing hd h.1 h.2.1 (fun q => absurd hs q) (fun _ r T' I' P' g' k' z' a1 a2 a3 a4 a5 a6 hsp => hQ r T' I' P' g' k' z' ⟨a1, a6, Nat.le_trans h.2.2.1 a4, h.2.2.2.1.eq hsp, a3 h.2.2.2.2⟩ ⟨a4, a2.1, fun a i q => a2.2.1 a i (by omega), a2.2.2⟩ (fun q => a2.2.1 8 q (by omega))))
theorem lw_over (hd : 96 ≤ d) (h : lw (n + 1) T I P g k z) {s f p how v : Int32} (hQ : ∀ r T' I' P' g' k' z', lw n T' I' P' g' k' z' → lf I P g k I' P' g' k' → (∀ q, P' 8 q = P 8 q) → Q (some (.inl r)) (wd I' P' lM g', k', z')) : ab_CT d 108 [wd_v 0, .inl s, .inl f, .inl p, .inl how, .inl v] (wd I P lM g, k, z) Q :=
  ab_CT_k (kf_over hd h.1 h.2.1 (fun r T' I' P' g' k' z' a1 a2 a3 a4 a5 a6 hsp => hQ r T' I' P' g' k' z' ⟨a1, a6, Nat.le_trans h.2.2.1 a4, h.2.2.2.1.eq hsp, a3 h.2.2.2.2⟩ ⟨a4, a2.1, fun a i q => a2.2.1 a i (by omega), a2.2.2⟩ (fun q => a2.2.1 8 q (by omega))))
theorem lw_put (hd : 10 ≤ d) (h : lw (n + 1) T I P g k z) {s what a b v : Int32} (hQ : ∀ r T' I' P' g' k' z', lw n T' I' P' g' k' z' → lf I P g k I' P' g' k' → (∀ q, P' 8 q = P 8 q) → Q (some (.inl r)) (wd I' P' lM g', k', z')) : ab_CT d 109 [wd_v 0, .inl s, .inl what, .inl a, .inl b, .inl v] (wd I P lM g, k, z) Q :=
  ab_CT_k (kf_put hd h.1 h.2.1 (fun r T' I' P' g' k' z' a1 a2 a3 a4 a5 a6 hsp => hQ r T' I' P' g' k' z' ⟨a1, a6, Nat.le_trans h.2.2.1 a4, h.2.2.2.1.eq hsp, a3 h.2.2.2.2⟩ ⟨a4, a2.1, fun a i q => a2.2.1 a i (by omega), a2.2.2⟩ (fun q => a2.2.1 8 q (by omega))))
theorem lw_path (hd : 8 ≤ d) (h : lw (n + 1) T I P g k z) {p : Int32} {pn : Nat} (hp : c_pp p) (hpn : p.toInt.toNat = pn) (hQ : ∀ r I' P' g' k' z', lw n T I' P' g' k' z' → lf I P g k I' P' g' k' → (∀ q, q ≠ pn → P' 8 q = P 8 q) → Q (some (.inl r)) (wd I' P' lM g', k', z')) : ab_CT d 106 [wd_v 0, .inl p] (wd I P lM g, k, z) Q := by
  subst hpn
  obtain ⟨h1, hr, h3, h4, h5⟩ := h
  have hrb := hr.b h1.2.2.1.2
  obtain ⟨w1, w2⟩ := r_who_pf h1.tp
  have h8 : r_len I ≤ 8 := by have := r_loop_le 8 (r_new I) 0; unfold r_len; omega
  have e9 : ∀ v, wd_up (r_who I) 1 1 v 9 0 = I 9 0 := fun v => (wd_up_ne _ _ (by omega)).trans (w1 9 0 (by omega) (by omega) (by omega))
  have eI : ∀ a j, (a = 0 ∨ a = 9 ∨ 18 ≤ a) → wd_up (r_who I) 1 1 (ab_ii 0) a j = I a j := fun a j q => (wd_up_ne _ _ (by omega)).trans (w1 a j (by omega) (by omega) (by omega))
  refine ab_CT_k (y_path hd h1.2.1 h1.tp ⟨by omega, by omega⟩ (fun q => absurd hp q) (fun q _ hsp => ?_) (fun q _ hsp => ?_))
  · refine hQ _ _ _ _ _ _ ⟨h1.fr h1.1 (fun _ q => q) c_ofr.rf (Nat.le_refl _) (k_sm_of (fun a j q => eI a j (by omega)) (fun _ _ _ => rfl)) (by rw [e9]; exact h1.2.2.1) ⟨0, wd_up_self _ _ _ _, by omega⟩, hr.le (by rw [e9]; exact Int.le_refl _) (by omega) (by omega), h3, h4.eq hsp, h5⟩ ⟨Nat.le_refl _, c_ofr.rf, fun _ _ _ => rfl, eI _ _ (by omega)⟩ (fun _ _ => rfl)
  · have hof : c_ofr k g (c_mkr g k (r_len I) (r_who I)) := c_mkr_of
    refine hQ _ _ _ _ (k + 1 + 1 + 1) (z + 2 + r_len I + r_len I) ⟨h1.pset hof (by omega) (c_mkr_wf h1.2.1 h8).1 eI ⟨0, wd_up_self _ _ _ _, by omega⟩, hr.le (by rw [e9]; exact Int.le_refl _) (by omega) (by omega), by omega, h4.eq hsp, h5.st (k' := k + 1 + 1 + 1) h1.shT h1.1 hof (by omega) (fun j hj => wd_up_ne _ _ (by omega))⟩ ⟨by omega, hof, fun a i q => wd_up_ne _ _ (by omega), eI _ _ (by omega)⟩ (fun q hq => wd_up_ne _ _ (Or.inr hq))
/-! a text is fed -/
set_option maxHeartbeats 4000000 in
set_option maxRecDepth 100000 in
theorem l_says_l (hd : 20 ≤ d) {t w m : Nat} : ∀ (r j : Nat) (I : wd_I), j + r = m → k_ok T I P g k → st_sp (wd I P lM g) → st_is (wd I P lM g) 204 k t w m → (∀ I', k_fd I I' → Q none (wd I' P lM g, k, z)) → ab_WB d 180 Q 2 [(0, wd_v 0), (1, wd_v t), (2, .inl (ab_ii (m : Int))), (3, .inl (ab_ii (j : Int)))] [] (wd I P lM g, k, z)
  | 0, j, I, hj, h, hsp, ht, hQ => by
    have e : j = m := by omega
    subst e
    have h400 := ht.2.2.2
    have hQ0 := hQ I ⟨fun _ _ _ _ => rfl, h.2.2.2.2.2.1⟩
    refine wd_rnC rfl ?_
    intro C9 X9 hC9 hX9
    repeat' ((conv => whnf); first
    | (intro v9 hv9; (try simp (disch := omega) only [ab_tI, ab_c0, wd_ix12, wd_ix8, wd_ix10, wd_up_self, wd_up_eq, wd_up_ne, Int.toNat_natCast, Int.toNat_of_nonneg, not_true_eq_false, not_false_eq_true, Option.some.injEq] at hv9); subst hv9)
    | (apply i_get; (focus (exact rfl)); (focus (exact rfl)))
    | (refine hX9 _ _ _ _ (wd_rnC rfl ?_); clear hC9 hX9 X9 C9; intro C9 X9 hC9 hX9)
    | (refine i_brF (by decide) ?_)
    | (refine i_brT (by decide) ?_)
    | (refine ⟨fun hc => ?_, fun hc => ?_⟩ <;> (try simp (disch := omega) only [ab_tI, ab_c0, wd_ix12, wd_ix8, wd_ix10, wd_up_self, wd_up_eq, wd_up_ne, Int.toNat_natCast, Int.toNat_of_nonneg, not_true_eq_false, not_false_eq_true, Option.some.injEq] at hc) <;> first | (exfalso; omega) | skip)
    | (apply i_cv; (focus (exact rfl)))
    | (refine And.intro trivial ?_)
    | (refine And.intro (Or.inl rfl) ?_)
    | (refine And.intro (Or.inr rfl) ?_)
    | (refine And.intro (by ((try simp (disch := omega) only [ab_tI, ab_c0, wd_ix12, wd_ix8, wd_ix10, wd_up_self, wd_up_eq, wd_up_ne, Int.toNat_natCast, Int.toNat_of_nonneg, not_true_eq_false, not_false_eq_true, Option.some.injEq]); omega)) ?_)
    | fail)
    all_goals first | exact hQ0 | (exfalso; omega)
  | r + 1, j, I, hj, h, hsp, ht, hQ => by
    obtain ⟨cn, hcn, hc1⟩ := h.2.2.2.2.2.1
    have h400 := ht.2.2.2
    obtain ⟨⟨f, tl, h1, h2⟩, -⟩ := id ht
    obtain ⟨-, hs0, -, -, oo, hs3⟩ := id hsp
    have e1 : (ab_ii 1).toInt = 1 := by decide
    have ej : (ab_ii (j : Int)).toInt = (j : Int) := ab_tI (by omega) (by omega)
    have ih0 := l_says_l hd r (j + 1) I (by omega) h hsp ht hQ
    have ih1 : ∀ (v : Int32), cn + 1 ≤ 100 → ab_WB d 180 Q 2 [(0, wd_v 0), (1, wd_v t), (2, .inl (ab_ii (m : Int))), (3, .inl (ab_ii ((j + 1 : Nat) : Int)))] [] (wd (c_fed I v cn (ab_ii 1).toInt.toNat) P lM g, k, z) := fun v hv => by
      have hf : k_fd I (c_fed I v cn (ab_ii 1).toInt.toNat) := ⟨fun a i q1 q2 => c_fed_ne q1 q2 _, cn + (ab_ii 1).toInt.toNat, c_fed_n hcn _, by omega⟩
      exact l_says_l hd r (j + 1) _ (by omega) (h.fd hf) hsp.wd ht.wd (fun I' hf' => hQ I' (hf.tr hf'))
    clear hQ
    refine wd_rnC rfl ?_
    intro C9 X9 hC9 hX9
    repeat' ((conv => whnf); first
    | (apply i_cv; (focus (exact h1)))
    | (refine hC9 157 _ _ _ (j_charAt0 (by omega) hs0 hs3 h1 h2 (by omega) (by omega) (fun c9 hc9 => ?_)))
    | (refine hC9 104 _ _ _ (y_feed (by omega) hcn hc1 (fun q => ?_) (fun q1 q2 q3 => ?_) (fun q1 q2 q3 => ?_)))
    | (refine hX9 2 _ _ _ (ab_WB_sub ?_ ih0); (repeat (first | exact ab_sub0 | (refine ab_sub1 ?_ ?_; (focus ((repeat (refine ab_skip rfl ?_)); first | exact List.mem_cons_self))))))
    | (refine hX9 2 _ _ _ (ab_WB_sub ?_ (ih1 _ (by omega))); (repeat (first | exact ab_sub0 | (refine ab_sub1 ?_ ?_; (focus ((repeat (refine ab_skip rfl ?_)); first | exact List.mem_cons_self))))))
    | (intro v9 hv9; (try simp (disch := omega) only [ab_tI, ab_c0, wd_ix12, wd_ix8, wd_ix10, wd_up_self, wd_up_eq, wd_up_ne, Int.toNat_natCast, Int.toNat_of_nonneg, not_true_eq_false, not_false_eq_true, Option.some.injEq] at hv9); subst hv9)
    | (apply i_get; (focus (exact rfl)); (focus (exact rfl)))
    | (refine hX9 _ _ _ _ (wd_rnC rfl ?_); clear hC9 hX9 X9 C9; intro C9 X9 hC9 hX9)
    | (refine i_brF (by decide) ?_)
    | (refine i_brT (by decide) ?_)
    | (refine ⟨fun hc => ?_, fun hc => ?_⟩ <;> (try simp (disch := omega) only [ab_tI, ab_c0, wd_ix12, wd_ix8, wd_ix10, wd_up_self, wd_up_eq, wd_up_ne, Int.toNat_natCast, Int.toNat_of_nonneg, not_true_eq_false, not_false_eq_true, Option.some.injEq] at hc) <;> first | (exfalso; omega) | skip)
    | (apply i_cv; (focus (exact rfl)))
    | (refine And.intro trivial ?_)
    | (refine And.intro (Or.inl rfl) ?_)
    | (refine And.intro (Or.inr rfl) ?_)
    | (refine And.intro (by ((try simp (disch := omega) only [ab_tI, ab_c0, wd_ix12, wd_ix8, wd_ix10, wd_up_self, wd_up_eq, wd_up_ne, Int.toNat_natCast, Int.toNat_of_nonneg, not_true_eq_false, not_false_eq_true, Option.some.injEq]); omega)) ?_)
    | fail)
    all_goals (exfalso; omega)
set_option maxHeartbeats 4000000 in
set_option maxRecDepth 100000 in
theorem l_says (hd : 20 ≤ d) (h : k_ok T I P g k) (hsp : st_sp (wd I P lM g)) {t w m : Nat} (ht : st_is (wd I P lM g) 204 k t w m) (hQ : ∀ I', k_fd I I' → Q none (wd I' P lM g, k, z)) : ab_CT d 180 [wd_v 0, wd_v t, .inl (ab_ii (m : Int))] (wd I P lM g, k, z) Q := by
  have hl := l_says_l (z := z) hd (m := m) m 0 I (by omega) h hsp ht hQ
  refine wd_inC rfl (by omega) rfl ?_
  intro C9 X9 hC9 hX9
  repeat' ((conv => whnf); first
    | (refine hX9 2 _ _ _ (ab_WB_sub ?_ hl); (repeat (first | exact ab_sub0 | (refine ab_sub1 ?_ ?_; (focus ((repeat (refine ab_skip rfl ?_)); first | exact List.mem_cons_self))))))
    | (intro v9 hv9; (try simp (disch := omega) only [ab_tI, ab_c0, wd_ix12, wd_ix8, wd_ix10, wd_up_self, wd_up_eq, wd_up_ne, Int.toNat_natCast, Int.toNat_of_nonneg, not_true_eq_false, not_false_eq_true, Option.some.injEq] at hv9); subst hv9)
    | (apply i_get; (focus (exact rfl)); (focus (exact rfl)))
    | (refine hX9 _ _ _ _ (wd_rnC rfl ?_); clear hC9 hX9 X9 C9; intro C9 X9 hC9 hX9)
    | (refine i_brF (by decide) ?_)
    | (refine i_brT (by decide) ?_)
    | (refine ⟨fun hc => ?_, fun hc => ?_⟩ <;> (try simp (disch := omega) only [ab_tI, ab_c0, wd_ix12, wd_ix8, wd_ix10, wd_up_self, wd_up_eq, wd_up_ne, Int.toNat_natCast, Int.toNat_of_nonneg, not_true_eq_false, not_false_eq_true, Option.some.injEq] at hc) <;> first | (exfalso; omega) | skip)
    | (apply i_cv; (focus (exact rfl)))
    | (refine And.intro trivial ?_)
    | (refine And.intro (Or.inl rfl) ?_)
    | (refine And.intro (Or.inr rfl) ?_)
    | (refine And.intro (by ((try simp (disch := omega) only [ab_tI, ab_c0, wd_ix12, wd_ix8, wd_ix10, wd_up_self, wd_up_eq, wd_up_ne, Int.toNat_natCast, Int.toNat_of_nonneg, not_true_eq_false, not_false_eq_true, Option.some.injEq]); omega)) ?_)
    | fail)
  all_goals (exfalso; omega)
set_option maxHeartbeats 4000000 in
set_option maxRecDepth 100000 in
theorem l_puts (hd : 80 ≤ d) (h : lw (n + 5) T I P g k z) {s c : Int32} (hs : c_sh s) (hQ : ∀ T' I' P' g' k' z', lw n T' I' P' g' k' z' → lf I P g k I' P' g' k' → (∀ q, P' 8 q = P 8 q) → Q none (wd I' P' lM g', k', z')) : ab_CT d 183 [wd_v 0, .inl s, .inl c] (wd I P lM g, k, z) Q := by
  have hroom := h.room
  have hsp := h.2.2.2.1
  have h204 := h.2.2.1
  refine wd_inC rfl (by omega) rfl ?_
  intro C9 X9 hC9 hX9
  repeat' ((conv => whnf); first
    | (refine hC9 181 _ _ _ (l_thing (by omega) (by decide) hsp ⟨by omega, by omega⟩ ?_); intro F9 k9 z9 y9 w9 n9 hs9 hn9 hf9 hk9 hz9 hp9; (obtain ⟨g9, rfl, hx9⟩ := wd_ex h204 hf9); (have hlw9 := lw.st (k' := k9) (z' := z9) h hx9 ⟨hk9.1, by omega⟩ (by omega) hp9); (have hs8 := st_is.lo hs9 h204); (obtain ⟨⟨f9, tl9, q1, q2⟩, -⟩ := id hs9); (have e400 := hs9.2.2.2))
    | (apply i_cv; (focus (exact q1)))
    | (refine hC9 156 _ _ _ (j_length0 (by omega) hp9.2.1 q1 q2 ?_))
    | (refine hC9 180 _ _ _ (l_says (by omega) hlw9.1 hp9 hs8 (fun I9 hfd9 => ?_)); (have hlw8 := hlw9.fd hfd9))
    | (refine hC9 105 _ _ _ (lw_thing (by omega) hlw8 hs (fun r7 T7 I7 P7 g7 k7 z7 hlw7 hlf7 hp7 => ?_)))
    | (intro v9 hv9; (try simp (disch := omega) only [ab_tI, ab_c0, wd_ix12, wd_ix8, wd_ix10, wd_up_self, wd_up_eq, wd_up_ne, Int.toNat_natCast, Int.toNat_of_nonneg, not_true_eq_false, not_false_eq_true, Option.some.injEq] at hv9); subst hv9)
    | (apply i_get; (focus (exact rfl)); (focus (exact rfl)))
    | (refine hX9 _ _ _ _ (wd_rnC rfl ?_); clear hC9 hX9 X9 C9; intro C9 X9 hC9 hX9)
    | (refine i_brF (by decide) ?_)
    | (refine i_brT (by decide) ?_)
    | (refine ⟨fun hc => ?_, fun hc => ?_⟩ <;> (try simp (disch := omega) only [ab_tI, ab_c0, wd_ix12, wd_ix8, wd_ix10, wd_up_self, wd_up_eq, wd_up_ne, Int.toNat_natCast, Int.toNat_of_nonneg, not_true_eq_false, not_false_eq_true, Option.some.injEq] at hc) <;> first | (exfalso; omega) | skip)
    | (apply i_cv; (focus (exact rfl)))
    | (refine And.intro trivial ?_)
    | (refine And.intro (Or.inl rfl) ?_)
    | (refine And.intro (Or.inr rfl) ?_)
    | (refine And.intro (by ((try simp (disch := omega) only [ab_tI, ab_c0, wd_ix12, wd_ix8, wd_ix10, wd_up_self, wd_up_eq, wd_up_ne, Int.toNat_natCast, Int.toNat_of_nonneg, not_true_eq_false, not_false_eq_true, Option.some.injEq]); omega)) ?_)
    | fail)
  all_goals first | exact hQ _ _ _ _ _ _ (hlw7.le (by omega)) ((lf.tr ⟨hk9.1, hx9, fun _ _ _ => rfl, rfl⟩ (lf.of_fd hfd9)).tr hlf7) hp7 | exact hQ _ _ _ _ _ _ (hlw9.le (by omega)) ⟨hk9.1, hx9, fun _ _ _ => rfl, rfl⟩ (fun _ => rfl) | (exfalso; omega)
theorem st_is.fr1 {F0 F : Nat → ab_C} {k0 z0 A B k z x N m lo s w mm : Nat} (h : st_is F0 lo k0 s w mm) (ht : st_T F0 k0 z0 A B F k z x N m) : st_is F lo k s w mm := by
  obtain ⟨⟨f, tl, h1, h2⟩, h3, h4, h5⟩ := h
  have hf := ht.2.2.2.1
  have hk := ht.2.2.2.2.1
  exact ⟨⟨f, tl, (hf s (h3.imp (fun q => q.2) id)).trans h1, (hf w (h4.imp (fun q => q.2) id)).trans h2⟩, h3.imp (fun q => ⟨q.1, by omega⟩) id, h4.imp (fun q => ⟨q.1, by omega⟩) id, h5⟩
end
