/-! ===== the law's stock (own text) ===== -/
theorem ab_Rl_ext {D : va_G} {cT : Nat → ClassId} {b0 : Nat} {b : Nat → Nat} {S : ab_Sp} {h h' : ab_H} {H : Heap} (h2 : h.2 = h'.2) (he : ∀ a, h.2.1 ≤ a → h'.1 a = h.1 a) (hc : ∀ a, a < h.2.1 → ab_ceq (h.1 a) (h'.1 a)) (hR : ab_Rl D cT b0 b S h H) : ab_Rl D cT b0 b S h' H := by
  obtain ⟨r1, r2, r3, r4, r5, r6, r7, r8⟩ := hR
  have hcm : h.2.1 ≤ ab_scr := Nat.le_trans r2 (by decide)
  refine ⟨by rw [← h2]; exact r1, by rw [← h2]; exact r2, by rw [← h2]; exact r3, fun a ha => (he a (Nat.le_trans hcm ha)).trans (r4 a ha), fun a ha hs => ?_, fun a ha => ab_vt_ext (hc a (by rw [h2]; exact ha)) (r6 a (by rw [h2]; exact ha)), fun j q hq => ?_, by rw [← h2]; exact r8⟩
  · rw [← h2] at ha
    exact (he a ha).trans (r5 a ha hs)
  · obtain ⟨hj, rfl⟩ := ab_ws_of hq
    rw [← h2] at hj
    exact ab_at_ext (hc j hj) (r7 j _ (ab_ws_at hj))
theorem ab_CT_ext {d n : Nat} {Q : ab_Q} {args : List ab_V} {h h' : ab_H} (h2 : h.2 = h'.2) (he : ∀ a, h.2.1 ≤ a → h'.1 a = h.1 a) (hc : ∀ a, a < h.2.1 → ab_ceq (h.1 a) (h'.1 a)) (k : ab_CT d n args h' Q) : ab_CT d n args h Q := by
  intro hd l D cT b0 b S
  have h0 := k hd l D cT b0 b S
  rw [← h2] at h0
  intro p e ha hc' hkk s m av below hf hx hP ht
  exact h0 p e ha hc' hkk s m av below hf hx ⟨hP.1, hP.2.1, ab_Rl_ext h2 he hc hP.2.2.1, hP.2.2.2⟩ ht
section
variable {d : Nat} {T : Nat → Prop} {I I' : wd_I} {P P' : wd_P} {g g' : Nat → ab_C} {k k' z z' n : Nat} {Q : ab_Q}
/-- the seventh path has no steps -/
def l_nx (P : wd_P) (g : Nat → ab_C) : Prop := ∃ b, P 8 7 = some b ∧ p_n g b = 0
theorem l_nx.fr (h : l_nx P g) (hk : k_ok T I P g k) (hx : c_ofr k g g') (hkk : k ≤ k') (hP : P' 8 7 = P 8 7) : l_nx P' g' := by
  obtain ⟨b, hb, hn⟩ := h
  obtain ⟨b', hb', hw⟩ := hk.2.2.2.2.1 7 (by omega)
  have e : b' = b := Option.some.inj (hb'.symm.trans hb)
  subst e
  exact ⟨b', hP.trans hb, (p_wf_xt hw hx hkk).2.1.trans hn⟩
theorem l_hi {c : ab_C} (h : g ab_scr = c) : (wd I P lM g, k, z).1 ab_scr = c := (wd_hi (I := I) (P := P) (g := g) (show 125 ≤ ab_scr by decide)).trans h
theorem l_scr {c : ab_C} (hs : ∀ a, ab_scr ≤ a → (wd I' P' lM g', k', z').1 a = (wd I P lM g, k, z).1 a) (h : g ab_scr = c) : g' ab_scr = c := by
  have h1 := hs ab_scr (Nat.le_refl _)
  dsimp only at h1
  rw [wd_hi (show 125 ≤ ab_scr by decide), wd_hi (show 125 ≤ ab_scr by decide)] at h1
  exact h1.trans h
set_option maxHeartbeats 4000000 in
set_option maxRecDepth 100000 in
theorem l_stock_l (hd : 81 ≤ d) {L : Nat} {xs : Nat → Int32} (hL : L ≤ 260) (hQ : ∀ T' I' P' g' k' z', lw n T' I' P' g' k' z' → g' ab_scr = ab_ia 9 L xs → l_nx P' g' → Q (some (wd_v 0)) (wd I' P' lM g', k', z')) : ∀ (r j : Nat) (T : Nat → Prop) (I : wd_I) (P : wd_P) (g : Nat → ab_C) (k z : Nat), j + r = 4 → lw (n + 5 * r + 1) T I P g k z → g ab_scr = ab_ia 9 L xs → l_nx P g → ab_WB d 186 Q 10 [(0, wd_v ab_scr), (1, wd_v 0), (2, .inl (ab_ii (j : Int)))] [] (wd I P lM g, k, z)
  | 0, j, T, I, P, g, k, z, hj, h, hsc, hnx => by
    have hsp := h.2.2.2.1
    have e : j = 4 := by omega
    subst e
    have h : lw (n + 1) T I P g k z := by
      have e : n + 5 * 0 + 1 = n + 1 := by omega
      rw [e] at h
      exact h
    have hp6 : c_pp (ab_ii 6) := ⟨by decide, by decide⟩
    have h66 : (ab_ii 6).toInt.toNat = 6 := by decide
    refine wd_rnC rfl ?_
    intro C9 X9 hC9 hX9
    repeat' ((conv => whnf); first
    | (refine s_ldc (lo := 204) hsp rfl ?_; intro a9 w9 n9 hs9 hn9; simp only [ab_len1, List.getD_cons_zero, List.getD_cons_succ] at hn9; subst hn9; try dsimp only)
    | (refine hC9 180 _ _ _ (l_says (by omega) h.1 hsp hs9 (fun I9 hfd9 => ?_)); (have hlw8 := h.fd hfd9))
    | (refine hC9 106 _ _ _ (ab_CT_k (lw_path (n := n) (by omega) hlw8 hp6 h66 (fun r7 I7 P7 g7 k7 z7 hlw7 hlf7 hp7 hsc7 => ?_))))
    | (intro v9 hv9; (try simp (disch := omega) only [ab_tI, ab_c0, wd_ix12, wd_ix8, wd_ix10, wd_up_self, wd_up_eq, wd_up_ne, Int.toNat_natCast, Int.toNat_of_nonneg, not_true_eq_false, not_false_eq_true, Option.some.injEq] at hv9); subst hv9)
    | (apply i_get; (focus (exact rfl)); (focus (exact rfl)))
    | (refine hX9 _ _ _ _ (wd_rnC rfl ?_); clear hC9 hX9 X9 C9; intro C9 X9 hC9 hX9)
    | (refine i_brF (by decide) ?_)
    | (refine i_brT (by decide) ?_)
    | (refine ⟨fun hc => ?_, fun hc => ?_⟩ <;> (try simp (disch := omega) only [ab_tI, ab_c0, wd_ix12, wd_ix8, wd_ix10, wd_up_self, wd_up_eq, wd_up_ne, Int.toNat_natCast, Int.toNat_of_nonneg, not_true_eq_false, not_false_eq_true, Option.some.injEq] at hc) <;> first | (exfalso; omega) | skip)
    | (apply i_cv; (focus (exact rfl)))
    | (refine And.intro trivial ?_)
    | (refine And.intro (Or.inl rfl) ?_)
    | (refine And.intro (Or.inr rfl) ?_)
    | (refine And.intro (by ((try simp (disch := omega) only [ab_tI, ab_c0, wd_ix12, wd_ix8, wd_ix10, wd_up_self, wd_up_eq, wd_up_ne, Int.toNat_natCast, Int.toNat_of_nonneg, not_true_eq_false, not_false_eq_true, Option.some.injEq]); omega)) ?_)
    | fail)
    all_goals first | exact hQ _ _ _ _ _ _ hlw7 (l_scr hsc7 hsc) (hnx.fr h.1 hlf7.2.1 hlf7.1 (hp7 7 (by decide))) | (exfalso; omega)
  | r + 1, j, T, I, P, g, k, z, hj, h, hsc, hnx => by
    have hcell := fun I => l_hi (I := I) (P := P) (k := k) (z := z) hsc
    have ej : (ab_ii (j : Int)).toInt = (j : Int) := ab_tI (by omega) (by omega)
    have hcs : c_sh (ab_ii (j : Int)) := ⟨by omega, by omega⟩
    have h5 : lw (n + 5 * r + 1 + 5) T I P g k z := by
      have e : n + 5 * (r + 1) + 1 = n + 5 * r + 1 + 5 := by omega
      rw [e] at h
      exact h
    have ih := fun T I P g k z => l_stock_l hd hL hQ r (j + 1) T I P g k z (by omega)
    clear hQ
    refine wd_rnC rfl ?_
    intro C9 X9 hC9 hX9
    repeat' ((conv => whnf); first
    | (refine hC9 177 _ _ _ (l_at (by omega) (hcell _) hL (by omega) (fun r9 => ?_)))
    | (refine hC9 183 _ _ _ (ab_CT_k (l_puts (by omega) h5 hcs (fun T7 I7 P7 g7 k7 z7 hlw7 hlf7 hp7 hsc7 => ?_))))
    | (refine hX9 10 _ _ _ (ab_WB_sub ?_ (ih _ _ _ _ _ _ hlw7 (l_scr hsc7 hsc) (hnx.fr h.1 hlf7.2.1 hlf7.1 (hp7 7)))); (repeat (first | exact ab_sub0 | (refine ab_sub1 ?_ ?_; (focus ((repeat (refine ab_skip rfl ?_)); first | exact List.mem_cons_self))))))
    | (intro v9 hv9; (try simp (disch := omega) only [ab_tI, ab_c0, wd_ix12, wd_ix8, wd_ix10, wd_up_self, wd_up_eq, wd_up_ne, Int.toNat_natCast, Int.toNat_of_nonneg, not_true_eq_false, not_false_eq_true, Option.some.injEq] at hv9); subst hv9)
    | (apply i_get; (focus (exact rfl)); (focus (exact rfl)))
    | (refine hX9 _ _ _ _ (wd_rnC rfl ?_); clear hC9 hX9 X9 C9; intro C9 X9 hC9 hX9)
    | (refine i_brF (by decide) ?_)
    | (refine i_brT (by decide) ?_)
    | (refine ⟨fun hc => ?_, fun hc => ?_⟩ <;> (try simp (disch := omega) only [ab_tI, ab_c0, wd_ix12, wd_ix8, wd_ix10, wd_up_self, wd_up_eq, wd_up_ne, Int.toNat_natCast, Int.toNat_of_nonneg, not_true_eq_false, not_false_eq_true, Option.some.injEq] at hc) <;> first | (exfalso; omega) | skip)
    | (apply i_cv; (focus (exact rfl)))
    | (refine And.intro trivial ?_)
    | (refine And.intro (Or.inl rfl) ?_)
    | (refine And.intro (Or.inr rfl) ?_)
    | (refine And.intro (by ((try simp (disch := omega) only [ab_tI, ab_c0, wd_ix12, wd_ix8, wd_ix10, wd_up_self, wd_up_eq, wd_up_ne, Int.toNat_natCast, Int.toNat_of_nonneg, not_true_eq_false, not_false_eq_true, Option.some.injEq]); omega)) ?_)
    | fail)
    all_goals (exfalso; omega)
theorem st_lw {F : Nat → ab_C} (hsp : st_sp F) (hz : z ≤ 100000) : lw 501 sv_T st_I st_P (st_g F) 204 z := ⟨st_k (Nat.le_refl _), by have h := st_rm hz; unfold k_rm at *; omega, Nat.le_refl _, hsp.eq (fun a ha => st_W0_o (by have := scr_hi ha; omega)), st_E⟩
theorem st_nx {F : Nat → ab_C} : l_nx st_P (st_g F) := ⟨78 + 3 * 7, rfl, st_p7 (by omega)⟩
set_option maxHeartbeats 4000000 in
set_option maxRecDepth 100000 in
theorem l_stock (hd : 110 ≤ d) {F : Nat → ab_C} {z L : Nat} {xs : Nat → Int32} (hL : L ≤ 260) (hsp : st_sp F) (hsc : F ab_scr = ab_ia 9 L xs) (hz : z ≤ 50000) (hQ : ∀ T' I' P' g' k' z', lw 480 T' I' P' g' k' z' → g' ab_scr = ab_ia 9 L xs → l_nx P' g' → Q (some (wd_v 102)) (sw_h (wd I' P' lM g', k', z'))) : ab_CT d 186 [wd_v ab_scr] (F, 102, z) Q := by
  have hscr : 700000 ≤ ab_scr := by decide
  obtain ⟨d', rfl⟩ : ∃ d', d = d' + 21 := ⟨d - 21, by omega⟩
  have hl : ∀ (F2 : Nat → ab_C) (z2 : Nat), (∀ r, r < 102 → ab_ceq (F2 (102 + r)) (nw_F 102 r)) → (∀ a, ab_scr ≤ a → F2 a = F a) → z2 ≤ 100000 → ab_WB (d' + 21) 186 Q 10 [(0, wd_v ab_scr), (1, wd_v 102), (2, .inl (ab_ii 0))] [] (F2, 204, z2) := by
    intro F2 z2 e1 e2 e3
    have hsp2 : st_sp F2 := hsp.eq e2
    have hsp3 := hsp2.sw
    have hsc3 : (fun a => sw_c (F2 (sw_a a))) ab_scr = ab_ia 9 L xs := by
      dsimp only
      rw [sw_scr (Nat.le_refl _), e2 _ (Nat.le_refl _), hsc]
      rfl
    have e9 : sw_v (wd_v ab_scr) = wd_v ab_scr := by
      show wd_v (sw_a ab_scr) = _
      rw [sw_scr (Nat.le_refl _)]
    refine sw_WB (Nat.le_refl 204) ?_
    refine ab_WB_ext (h' := (st_W0 (fun a => sw_c (F2 (sw_a a))), 204, z2)) rfl (fun a ha => by show st_W0 (fun a => sw_c (F2 (sw_a a))) a = sw_c (F2 (sw_a a)); exact st_W0_o (Nat.le_trans (by decide) (show 204 ≤ a from ha))) (fun a ha => ?_) ?_
    · rcases Nat.lt_or_ge a 102 with q | q
      · refine st_W0_c q ?_
        show ab_ceq (sw_c (F2 (sw_a a))) (nw_F 0 a)
        have ea : sw_a a = 102 + a := by unfold sw_a; rw [if_pos q]; omega
        rw [ea]
        exact (sw_ceq (e1 a q)).tr (nw_sw a q)
      · show ab_ceq (sw_c (F2 (sw_a a))) (st_W0 (fun a => sw_c (F2 (sw_a a))) a)
        rw [st_W0_o q]
        exact ab_ceq.rf
    · have hm := l_stock_l (n := 480) (d := d' + 21) (Q := fun r h' => 204 ≤ h'.2.1 ∧ Q (r.map sw_v) (sw_h h')) (by omega) hL (fun T' I' P' g' k' z' a1 a2 a3 => ⟨a1.2.2.1, hQ T' I' P' g' k' z' a1 a2 a3⟩) 4 0 sv_T st_I st_P (st_g (fun a => sw_c (F2 (sw_a a)))) 204 z2 rfl (st_lw hsp3 e3) (by
        show st_g (fun a => sw_c (F2 (sw_a a))) ab_scr = _
        unfold st_g
        rw [wd_bf (by decide)]
        exact hsc3) st_nx
      show ab_WB (d' + 21) 186 _ 10 [(0, sw_v (wd_v ab_scr)), (1, wd_v 0), (2, .inl (ab_ii 0))] [] _
      rw [e9]
      exact hm
  clear hQ
  refine wd_inC rfl (by omega) rfl ?_
  intro C9 X9 hC9 hX9
  repeat' ((conv => whnf); first
    | (refine s_new (n := 12) ⟨by omega, by omega⟩ (fun F1 g1 g2 => ?_); (dsimp only))
    | (refine hC9 103 _ _ _ (n_new102 (d := d') g1 (by omega) (fun F2 z2 e1 e2 e3 => ?_)))
    | (refine hX9 10 _ _ _ (ab_WB_sub ?_ (hl _ _ e1 (fun a ha => (e2 a (by omega)).trans (g2 a (by omega))) (by omega))); (repeat (first | exact ab_sub0 | (refine ab_sub1 ?_ ?_; (focus ((repeat (refine ab_skip rfl ?_)); first | exact List.mem_cons_self))))))
    | (intro v9 hv9; (try simp (disch := omega) only [ab_tI, ab_c0, wd_ix12, wd_ix8, wd_ix10, wd_up_self, wd_up_eq, wd_up_ne, Int.toNat_natCast, Int.toNat_of_nonneg, not_true_eq_false, not_false_eq_true, Option.some.injEq] at hv9); subst hv9)
    | (apply i_get; (focus (exact rfl)); (focus (exact rfl)))
    | (refine hX9 _ _ _ _ (wd_rnC rfl ?_); clear hC9 hX9 X9 C9; intro C9 X9 hC9 hX9)
    | (refine i_brF (by decide) ?_)
    | (refine i_brT (by decide) ?_)
    | (refine ⟨fun hc => ?_, fun hc => ?_⟩ <;> (try simp (disch := omega) only [ab_tI, ab_c0, wd_ix12, wd_ix8, wd_ix10, wd_up_self, wd_up_eq, wd_up_ne, Int.toNat_natCast, Int.toNat_of_nonneg, not_true_eq_false, not_false_eq_true, Option.some.injEq] at hc) <;> first | (exfalso; omega) | skip)
    | (apply i_cv; (focus (exact rfl)))
    | (refine And.intro trivial ?_)
    | (refine And.intro (Or.inl rfl) ?_)
    | (refine And.intro (Or.inr rfl) ?_)
    | (refine And.intro (by ((try simp (disch := omega) only [ab_tI, ab_c0, wd_ix12, wd_ix8, wd_ix10, wd_up_self, wd_up_eq, wd_up_ne, Int.toNat_natCast, Int.toNat_of_nonneg, not_true_eq_false, not_false_eq_true, Option.some.injEq]); omega)) ?_)
    | fail)
  all_goals (exfalso; omega)
end
