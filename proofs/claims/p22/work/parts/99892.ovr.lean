/-! ===== the class: over (own text) ===== -/
/-- what OVER leaves, all of it -/
noncomputable def c_R (gv p a : Nat) (how n : Int32) (S : c_St) : Nat × c_St := c_chw gv p 41 a 0 (c_cI S.1 how n, S.2)
def c_tooM (g : Nat → ab_C) (a : Nat) : Prop := 12 < (c_i g a 3).toInt ∨ 200 < (c_i g a 2).toInt ∨ 12 < c_sz g a
theorem c_isHow_b {how n : Int32} (h : c_isHow how n) : 0 ≤ how.toInt ∧ how.toInt ≤ 11 := by
  unfold c_isHow at h
  split at h
  · omega
  · split at h
    · omega
    · exact h
theorem c_R_gd {T : Nat → Prop} {I : wd_I} {g : Nat → ab_C} {k z a gv p : Nat} {how n : Int32} (hW : c_W T g k) (h125 : 125 ≤ k) (ha : T a) (h0 : 0 ≤ (I 9 0).toInt ∧ (I 9 0).toInt ≤ 3000) (hgv : how.toInt = 7 → T gv) : c_gd T 82 (c_cI I how n, g, k, z) (c_R gv p a how n (I, g, k, z)) := by
  obtain ⟨e1, e2, e3, -⟩ := c_cI_e (I := I) (how := how) (n := n)
  exact c_chw_gd 41 a 0 T (c_cI I how n, g, k, z) ⟨hW, h125, by dsimp only; rw [e1]; exact h0, by dsimp only; rw [e2]; exact hgv⟩ ha
/-- the shelves, the paths and all else stay -/
theorem c_R_fr {T : Nat → Prop} {I : wd_I} {g : Nat → ab_C} {k z a gv p : Nat} {how n : Int32} (h : c_gd T 82 (c_cI I how n, g, k, z) (c_R gv p a how n (I, g, k, z))) : ∀ x j, x ≠ 9 → x ≠ 10 → (c_R gv p a how n (I, g, k, z)).2.1 x j = I x j := fun x j h9 h10 => by
  obtain ⟨T', g1, -⟩ := h
  refine (g1.ifr x j (by omega) (by omega)).trans ?_
  exact c_cI_e.2.2.2 x j h10
theorem c_cP_ne {P : wd_P} {p : Nat} {o : Option Nat} {x j : Nat} (h : x ≠ 10) : c_cP P p o x j = P x j := by
  unfold c_cP
  rw [wd_up_ne _ _ (Or.inl h), wd_up_ne _ _ (Or.inl h)]
theorem s_ok_mo {T T' : Nat → Prop} {I : wd_I} {P : wd_P} {s c : Nat} (h : s_ok T I P s c) (hT : ∀ b, T b → T' b) : s_ok T' I P s c := by
  obtain ⟨h1, h2, ⟨a, h3, h4⟩, h5⟩ := h
  exact ⟨h1, h2, ⟨a, h3, hT a h4⟩, fun i hi => by obtain ⟨b, hb, hTb⟩ := h5 i hi; exact ⟨b, hb, hT b hTb⟩⟩
section
variable {d : Nat} {I : wd_I} {P : wd_P} {M : wd_I} {g : Nat → ab_C} {k z : Nat} {Q : ab_Q} {T : Nat → Prop}
set_option maxHeartbeats 4000000 in
set_option maxRecDepth 100000 in
theorem y_over (hd : 96 ≤ d) (hW : c_W T g k) (h125 : 125 ≤ k) (h0 : 0 ≤ (I 9 0).toInt ∧ (I 9 0).toInt ≤ 3000) (hro : c_ro 82 (I, g, k, z)) {s f p how n : Int32} {a b c gv : Nat} {o : Option Nat} (hbad : ¬ (c_sh s ∧ c_sh f ∧ c_pp p ∧ c_isHow how n) → Q (some (.inl (ab_ii (-2)))) (wd I P M g, k, z)) (hs : c_sh s → s_ok T I P s.toInt.toNat c) (ha : c_sh f → P (18 + 5 * f.toInt.toNat) 2 = some a ∧ T a) (hb : c_pp p → P 8 p.toInt.toNat = some b ∧ p_wf g k b) (hg7 : how.toInt = 7 → c_sh n → P (18 + 5 * n.toInt.toNat) 2 = some gv ∧ T gv ∧ o = some gv) (hgn : ¬ how.toInt = 7 → o = none) (hm : (c_sh s ∧ c_sh f ∧ c_pp p ∧ c_isHow how n) → ¬ ((c_R gv b a how n (I, g, k, z)).2.1 10 6).toInt = 0 → Q (some (.inl (ab_ii (-17)))) (c_S (c_cP P b o) M (c_R gv b a how n (I, g, k, z)).2)) (hf : (c_sh s ∧ c_sh f ∧ c_pp p ∧ c_isHow how n) → ((c_R gv b a how n (I, g, k, z)).2.1 10 6).toInt = 0 → c_tooM (c_R gv b a how n (I, g, k, z)).2.2.1 (c_R gv b a how n (I, g, k, z)).1 → Q (some (.inl (ab_ii (-4)))) (c_S (c_cP P b o) M (c_R gv b a how n (I, g, k, z)).2)) (hy : (c_sh s ∧ c_sh f ∧ c_pp p ∧ c_isHow how n) → ((c_R gv b a how n (I, g, k, z)).2.1 10 6).toInt = 0 → ¬ c_tooM (c_R gv b a how n (I, g, k, z)).2.2.1 (c_R gv b a how n (I, g, k, z)).1 → Q (some (.inl ((c_R gv b a how n (I, g, k, z)).2.1 10 5))) (c_S (s_becP (c_cP P b o) s.toInt.toNat c (c_R gv b a how n (I, g, k, z)).1) M (s_becI (c_R gv b a how n (I, g, k, z)).2.1 s.toInt.toNat c, (c_R gv b a how n (I, g, k, z)).2.2))) : ab_CT d 108 [wd_v 0, .inl s, .inl f, .inl p, .inl how, .inl n] (wd I P M g, k, z) Q := by
  by_cases hall : c_sh s ∧ c_sh f ∧ c_pp p ∧ c_isHow how n
  · obtain ⟨hs9, hf9, hp9, hh9⟩ := id hall
    have hok := hs hs9
    have hhb := c_isHow_b hh9
    obtain ⟨hs0, hs1⟩ := id hs9
    obtain ⟨hf0, hf1⟩ := id hf9
    obtain ⟨hp0, hp1⟩ := id hp9
    have hm := hm hall
    have hf := hf hall
    have hy := hy hall
    obtain ⟨ha9, hTa⟩ := ha hf9
    obtain ⟨hpb, hwb⟩ := hb hp9
    have hj : s.toInt.toNat < 12 := by omega
    have hgv : how.toInt = 7 → T gv ∧ o = some gv := fun h7 => by
      have hn7 : c_sh n := by unfold c_isHow at hh9; rw [if_neg (by omega), if_pos h7] at hh9; exact hh9
      exact (hg7 h7 hn7).2
    have hgd := c_R_gd (z := z) (n := n) (p := b) hW h125 hTa h0 (fun q => (hgv q).1)
    have hfr := c_R_fr hgd
    have hch := fun (Q : ab_Q) q1 q2 => y_change (d := d - 1) (I := I) (P := P) (M := M) (g := g) (k := k) (z := z) (Q := Q) (n := n) (by omega) hW h125 hTa hwb h0 hhb hgv hro q1 q2
    change ∀ (Q : ab_Q), (((c_R gv b a how n (I, g, k, z)).2.1 10 6).toInt = 0 → Q (some (wd_v (c_R gv b a how n (I, g, k, z)).1)) (c_S (c_cP P b o) M (c_R gv b a how n (I, g, k, z)).2)) → (¬ ((c_R gv b a how n (I, g, k, z)).2.1 10 6).toInt = 0 → Q (some (.inr (.inr none))) (c_S (c_cP P b o) M (c_R gv b a how n (I, g, k, z)).2)) → _ at hch
    obtain ⟨T', g1, g2, g3⟩ := hgd
    generalize c_R gv b a how n (I, g, k, z) = R at *
    obtain ⟨x, I1, g', k', z'⟩ := R
    unfold c_S at *
    dsimp only at *
    have hW' : c_W T' g' k' := g1.wf
    have hkk : k ≤ k' := g1.kk
    have hwb' := (p_wf_xt hwb g1.ofr hkk).1
    have hp2 := p_c (I := I) (P := P) (M := M) (z := z) (k' := k) hwb c_ofr.rf
    have h3 := fun (I' : wd_I) (P' : wd_P) => c_W_c (I := I') (P := P') (M := M) (z := z') hW' g2
    have h1 := fun (I' : wd_I) (P' : wd_P) => w_sh (I := I') (P := P') (M := M) (g := g') (k := k') (z := z') hj
    have hok2 : s_ok T' I1 (c_cP P b o) s.toInt.toNat c := s_ok_eq (s_ok_mo hok g1.inc) (hfr _ _ (by omega) (by omega)) (c_cP_ne (by omega)) (fun i => c_cP_ne (by omega))
    clear hbad hs ha hb g1 g3 hfr
    have hhow := hh9
    by_cases hsp : (I1 10 6).toInt = 0
    · have hch := fun Q hq => hch Q (fun _ => hq) (fun q => absurd hsp q)
      have hf := hf hsp
      have hy := hy hsp
      by_cases htm : c_tooM g' x
      · have hf := hf htm
        unfold c_tooM at htm
        by_cases h7 : how.toInt = 7
        · obtain ⟨hgv1, hTg, ho⟩ := hg7 h7 (by unfold c_isHow at hh9; rw [if_neg (by omega), if_pos h7] at hh9; exact hh9)
          have hn7 : c_sh n := by unfold c_isHow at hh9; rw [if_neg (by omega), if_pos h7] at hh9; exact hh9
          subst ho
          refine wd_inC rfl (by omega) rfl ?_
          intro C9 X9 hC9 hX9
          (have chk9 := @hpb; clear chk9); repeat' ((conv => whnf); first
    | (apply i_getN; (focus (first | exact hp2 | exact h3 _ _)); (focus (exact rfl)); (intro v9 hv9; (try simp (disch := omega) only [ab_tI, ab_c0, wd_ix12, wd_ix8, wd_ix10, wd_up_self, wd_up_eq, wd_up_ne, Int.toNat_natCast, Int.toNat_of_nonneg, not_true_eq_false, not_false_eq_true, Option.some.injEq, hpb] at hv9); subst hv9))
    | (apply i_cv; (focus (first | exact hp2 | exact h3 _ _)))
    | (apply i_len; (focus (first | exact congrArg ab_len (hp2) | exact congrArg ab_len (h3 _ _))))
    | (apply i_ialN; (focus (first | exact hp2 | exact h3 _ _)); (focus (first | exact Or.inl rfl | exact Or.inr rfl)); (focus (exact (by first | exact ⟨by decide, by decide⟩ | ((try simp (disch := omega) only [ab_tI, ab_c0, wd_ix12, wd_ix8, wd_ix10, wd_up_self, wd_up_eq, wd_up_ne, Int.toNat_natCast, Int.toNat_of_nonneg, not_true_eq_false, not_false_eq_true, Option.some.injEq, hpb, ab_c0]); omega)))); (intro v9 hv9; (try simp (disch := omega) only [ab_tI, ab_c0, wd_ix12, wd_ix8, wd_ix10, wd_up_self, wd_up_eq, wd_up_ne, Int.toNat_natCast, Int.toNat_of_nonneg, not_true_eq_false, not_false_eq_true, Option.some.injEq, hpb] at hv9); subst hv9))
    | (apply i_aalN; (focus (first | exact hp2 | exact h3 _ _)); (focus (exact (by first | exact ⟨by decide, by decide⟩ | ((try simp (disch := omega) only [ab_tI, ab_c0, wd_ix12, wd_ix8, wd_ix10, wd_up_self, wd_up_eq, wd_up_ne, Int.toNat_natCast, Int.toNat_of_nonneg, not_true_eq_false, not_false_eq_true, Option.some.injEq, hpb, ab_c0]); omega)))); (intro v9 hv9; (try simp (disch := omega) only [ab_tI, ab_c0, wd_ix12, wd_ix8, wd_ix10, wd_up_self, wd_up_eq, wd_up_ne, Int.toNat_natCast, Int.toNat_of_nonneg, not_true_eq_false, not_false_eq_true, Option.some.injEq, hpb] at hv9); subst hv9))
    | (refine hC9 123 _ _ _ (y_isShelf (by omega) (fun _ _ => ?_) (fun q => by exfalso; omega)))
    | (refine hC9 124 _ _ _ (y_isPath (by omega) (fun _ _ => ?_) (fun q => by exfalso; omega)))
    | (refine hC9 125 _ _ _ (y_isHow (by omega) (fun _ => ?_) (fun q => absurd hhow q)))
    | (refine hC9 126 _ _ _ (y_heldS (by omega) hf9 ha9 ?_))
    | (refine hC9 126 _ _ _ (y_heldS (by omega) hn7 hgv1 ?_))
    | (refine hC9 1 _ _ _ (hch _ ?_))
    | (refine hC9 91 _ _ _ (y_isTooMuch (by omega) hW' g2 (fun _ => ?_) (fun q1 q2 q3 => by exfalso; omega)))
    | (intro v9 hv9; (try simp (disch := omega) only [ab_tI, ab_c0, wd_ix12, wd_ix8, wd_ix10, wd_up_self, wd_up_eq, wd_up_ne, Int.toNat_natCast, Int.toNat_of_nonneg, not_true_eq_false, not_false_eq_true, Option.some.injEq, hpb] at hv9); subst hv9)
    | (apply i_get; (focus (exact rfl)); (focus (exact rfl)))
    | (refine hX9 _ _ _ _ (wd_rnC rfl ?_); clear hC9 hX9 X9 C9; intro C9 X9 hC9 hX9)
    | (refine i_brF (by decide) ?_)
    | (refine i_brT (by decide) ?_)
    | (refine ⟨fun hc => ?_, fun hc => ?_⟩ <;> (try simp (disch := omega) only [ab_tI, ab_c0, wd_ix12, wd_ix8, wd_ix10, wd_up_self, wd_up_eq, wd_up_ne, Int.toNat_natCast, Int.toNat_of_nonneg, not_true_eq_false, not_false_eq_true, Option.some.injEq, hpb] at hc) <;> first | (exfalso; omega) | skip)
    | (apply i_cv; (focus (exact rfl)))
    | (apply i_len; (focus (exact rfl)))
    | (apply w_putI; (focus (exact rfl)); (focus (exact rfl)); (focus (exact rfl)); (focus (first | exact trivial | exact Or.inl rfl | exact Or.inr rfl)); (focus (exact rfl)))
    | (apply w_putP; (focus (exact rfl)); (focus (exact rfl)); (focus (exact rfl)); (focus (exact trivial)); (focus (exact rfl)))
    | (apply i_ialN; (focus (exact rfl)); (focus (first | exact Or.inl rfl | exact Or.inr rfl)); (focus (exact (by first | exact ⟨by decide, by decide⟩ | ((try simp (disch := omega) only [ab_tI, ab_c0, wd_ix12, wd_ix8, wd_ix10, wd_up_self, wd_up_eq, wd_up_ne, Int.toNat_natCast, Int.toNat_of_nonneg, not_true_eq_false, not_false_eq_true, Option.some.injEq, hpb, ab_c0]); omega)))); (intro v9 hv9; (try simp (disch := omega) only [ab_tI, ab_c0, wd_ix12, wd_ix8, wd_ix10, wd_up_self, wd_up_eq, wd_up_ne, Int.toNat_natCast, Int.toNat_of_nonneg, not_true_eq_false, not_false_eq_true, Option.some.injEq, hpb] at hv9); subst hv9))
    | (apply i_aalN; (focus (exact rfl)); (focus (exact (by first | exact ⟨by decide, by decide⟩ | ((try simp (disch := omega) only [ab_tI, ab_c0, wd_ix12, wd_ix8, wd_ix10, wd_up_self, wd_up_eq, wd_up_ne, Int.toNat_natCast, Int.toNat_of_nonneg, not_true_eq_false, not_false_eq_true, Option.some.injEq, hpb, ab_c0]); omega)))); (intro v9 hv9; (try simp (disch := omega) only [ab_tI, ab_c0, wd_ix12, wd_ix8, wd_ix10, wd_up_self, wd_up_eq, wd_up_ne, Int.toNat_natCast, Int.toNat_of_nonneg, not_true_eq_false, not_false_eq_true, Option.some.injEq, hpb] at hv9); subst hv9))
    | (apply w_iasI; (focus (exact rfl)); (focus (exact rfl)); (focus (exact (by first | exact ⟨by decide, by decide⟩ | ((try simp (disch := omega) only [ab_tI, ab_c0, wd_ix12, wd_ix8, wd_ix10, wd_up_self, wd_up_eq, wd_up_ne, Int.toNat_natCast, Int.toNat_of_nonneg, not_true_eq_false, not_false_eq_true, Option.some.injEq, hpb, ab_c0]); omega)))); (focus (intro _; exact rfl)); (intro v9 hv9; (try simp (disch := omega) only [ab_tI, ab_c0, wd_ix12, wd_ix8, wd_ix10, wd_up_self, wd_up_eq, wd_up_ne, Int.toNat_natCast, Int.toNat_of_nonneg, not_true_eq_false, not_false_eq_true, Option.some.injEq, hpb] at hv9); subst hv9))
    | (refine And.intro trivial ?_)
    | (refine And.intro (Or.inl rfl) ?_)
    | (refine And.intro (Or.inr rfl) ?_)
    | (refine And.intro (by ((try simp (disch := omega) only [ab_tI, ab_c0, wd_ix12, wd_ix8, wd_ix10, wd_up_self, wd_up_eq, wd_up_ne, Int.toNat_natCast, Int.toNat_of_nonneg, not_true_eq_false, not_false_eq_true, Option.some.injEq, hpb]); omega)) ?_)
    | fail)
          all_goals first | exact hf | (exfalso; omega)
        · have ho := hgn h7
          subst ho
          refine wd_inC rfl (by omega) rfl ?_
          intro C9 X9 hC9 hX9
          (have chk9 := @hpb; clear chk9); repeat' ((conv => whnf); first
    | (apply i_getN; (focus (first | exact hp2 | exact h3 _ _)); (focus (exact rfl)); (intro v9 hv9; (try simp (disch := omega) only [ab_tI, ab_c0, wd_ix12, wd_ix8, wd_ix10, wd_up_self, wd_up_eq, wd_up_ne, Int.toNat_natCast, Int.toNat_of_nonneg, not_true_eq_false, not_false_eq_true, Option.some.injEq, hpb] at hv9); subst hv9))
    | (apply i_cv; (focus (first | exact hp2 | exact h3 _ _)))
    | (apply i_len; (focus (first | exact congrArg ab_len (hp2) | exact congrArg ab_len (h3 _ _))))
    | (apply i_ialN; (focus (first | exact hp2 | exact h3 _ _)); (focus (first | exact Or.inl rfl | exact Or.inr rfl)); (focus (exact (by first | exact ⟨by decide, by decide⟩ | ((try simp (disch := omega) only [ab_tI, ab_c0, wd_ix12, wd_ix8, wd_ix10, wd_up_self, wd_up_eq, wd_up_ne, Int.toNat_natCast, Int.toNat_of_nonneg, not_true_eq_false, not_false_eq_true, Option.some.injEq, hpb, ab_c0]); omega)))); (intro v9 hv9; (try simp (disch := omega) only [ab_tI, ab_c0, wd_ix12, wd_ix8, wd_ix10, wd_up_self, wd_up_eq, wd_up_ne, Int.toNat_natCast, Int.toNat_of_nonneg, not_true_eq_false, not_false_eq_true, Option.some.injEq, hpb] at hv9); subst hv9))
    | (apply i_aalN; (focus (first | exact hp2 | exact h3 _ _)); (focus (exact (by first | exact ⟨by decide, by decide⟩ | ((try simp (disch := omega) only [ab_tI, ab_c0, wd_ix12, wd_ix8, wd_ix10, wd_up_self, wd_up_eq, wd_up_ne, Int.toNat_natCast, Int.toNat_of_nonneg, not_true_eq_false, not_false_eq_true, Option.some.injEq, hpb, ab_c0]); omega)))); (intro v9 hv9; (try simp (disch := omega) only [ab_tI, ab_c0, wd_ix12, wd_ix8, wd_ix10, wd_up_self, wd_up_eq, wd_up_ne, Int.toNat_natCast, Int.toNat_of_nonneg, not_true_eq_false, not_false_eq_true, Option.some.injEq, hpb] at hv9); subst hv9))
    | (refine hC9 123 _ _ _ (y_isShelf (by omega) (fun _ _ => ?_) (fun q => by exfalso; omega)))
    | (refine hC9 124 _ _ _ (y_isPath (by omega) (fun _ _ => ?_) (fun q => by exfalso; omega)))
    | (refine hC9 125 _ _ _ (y_isHow (by omega) (fun _ => ?_) (fun q => absurd hhow q)))
    | (refine hC9 126 _ _ _ (y_heldS (by omega) hf9 ha9 ?_))
    | (refine hC9 1 _ _ _ (hch _ ?_))
    | (refine hC9 91 _ _ _ (y_isTooMuch (by omega) hW' g2 (fun _ => ?_) (fun q1 q2 q3 => by exfalso; omega)))
    | (intro v9 hv9; (try simp (disch := omega) only [ab_tI, ab_c0, wd_ix12, wd_ix8, wd_ix10, wd_up_self, wd_up_eq, wd_up_ne, Int.toNat_natCast, Int.toNat_of_nonneg, not_true_eq_false, not_false_eq_true, Option.some.injEq, hpb] at hv9); subst hv9)
    | (apply i_get; (focus (exact rfl)); (focus (exact rfl)))
    | (refine hX9 _ _ _ _ (wd_rnC rfl ?_); clear hC9 hX9 X9 C9; intro C9 X9 hC9 hX9)
    | (refine i_brF (by decide) ?_)
    | (refine i_brT (by decide) ?_)
    | (refine ⟨fun hc => ?_, fun hc => ?_⟩ <;> (try simp (disch := omega) only [ab_tI, ab_c0, wd_ix12, wd_ix8, wd_ix10, wd_up_self, wd_up_eq, wd_up_ne, Int.toNat_natCast, Int.toNat_of_nonneg, not_true_eq_false, not_false_eq_true, Option.some.injEq, hpb] at hc) <;> first | (exfalso; omega) | skip)
    | (apply i_cv; (focus (exact rfl)))
    | (apply i_len; (focus (exact rfl)))
    | (apply w_putI; (focus (exact rfl)); (focus (exact rfl)); (focus (exact rfl)); (focus (first | exact trivial | exact Or.inl rfl | exact Or.inr rfl)); (focus (exact rfl)))
    | (apply w_putP; (focus (exact rfl)); (focus (exact rfl)); (focus (exact rfl)); (focus (exact trivial)); (focus (exact rfl)))
    | (apply i_ialN; (focus (exact rfl)); (focus (first | exact Or.inl rfl | exact Or.inr rfl)); (focus (exact (by first | exact ⟨by decide, by decide⟩ | ((try simp (disch := omega) only [ab_tI, ab_c0, wd_ix12, wd_ix8, wd_ix10, wd_up_self, wd_up_eq, wd_up_ne, Int.toNat_natCast, Int.toNat_of_nonneg, not_true_eq_false, not_false_eq_true, Option.some.injEq, hpb, ab_c0]); omega)))); (intro v9 hv9; (try simp (disch := omega) only [ab_tI, ab_c0, wd_ix12, wd_ix8, wd_ix10, wd_up_self, wd_up_eq, wd_up_ne, Int.toNat_natCast, Int.toNat_of_nonneg, not_true_eq_false, not_false_eq_true, Option.some.injEq, hpb] at hv9); subst hv9))
    | (apply i_aalN; (focus (exact rfl)); (focus (exact (by first | exact ⟨by decide, by decide⟩ | ((try simp (disch := omega) only [ab_tI, ab_c0, wd_ix12, wd_ix8, wd_ix10, wd_up_self, wd_up_eq, wd_up_ne, Int.toNat_natCast, Int.toNat_of_nonneg, not_true_eq_false, not_false_eq_true, Option.some.injEq, hpb, ab_c0]); omega)))); (intro v9 hv9; (try simp (disch := omega) only [ab_tI, ab_c0, wd_ix12, wd_ix8, wd_ix10, wd_up_self, wd_up_eq, wd_up_ne, Int.toNat_natCast, Int.toNat_of_nonneg, not_true_eq_false, not_false_eq_true, Option.some.injEq, hpb] at hv9); subst hv9))
    | (apply w_iasI; (focus (exact rfl)); (focus (exact rfl)); (focus (exact (by first | exact ⟨by decide, by decide⟩ | ((try simp (disch := omega) only [ab_tI, ab_c0, wd_ix12, wd_ix8, wd_ix10, wd_up_self, wd_up_eq, wd_up_ne, Int.toNat_natCast, Int.toNat_of_nonneg, not_true_eq_false, not_false_eq_true, Option.some.injEq, hpb, ab_c0]); omega)))); (focus (intro _; exact rfl)); (intro v9 hv9; (try simp (disch := omega) only [ab_tI, ab_c0, wd_ix12, wd_ix8, wd_ix10, wd_up_self, wd_up_eq, wd_up_ne, Int.toNat_natCast, Int.toNat_of_nonneg, not_true_eq_false, not_false_eq_true, Option.some.injEq, hpb] at hv9); subst hv9))
    | (refine And.intro trivial ?_)
    | (refine And.intro (Or.inl rfl) ?_)
    | (refine And.intro (Or.inr rfl) ?_)
    | (refine And.intro (by ((try simp (disch := omega) only [ab_tI, ab_c0, wd_ix12, wd_ix8, wd_ix10, wd_up_self, wd_up_eq, wd_up_ne, Int.toNat_natCast, Int.toNat_of_nonneg, not_true_eq_false, not_false_eq_true, Option.some.injEq, hpb]); omega)) ?_)
    | fail)
          all_goals first | exact hf | (exfalso; omega)
      · have hy := hy htm
        unfold c_tooM at htm
        by_cases h7 : how.toInt = 7
        · obtain ⟨hgv1, hTg, ho⟩ := hg7 h7 (by unfold c_isHow at hh9; rw [if_neg (by omega), if_pos h7] at hh9; exact hh9)
          have hn7 : c_sh n := by unfold c_isHow at hh9; rw [if_neg (by omega), if_pos h7] at hh9; exact hh9
          subst ho
          have hfc : ∀ (I' : wd_I) (P' : wd_P) (Q : ab_Q), Q (some (.inl (I' 10 5))) (wd I' P' M g', k', z') → ab_CT (d - 1) 2 [wd_v 10] (wd I' P' M g', k', z') Q := fun I' P' Q hq => y_focusCount (by omega) hq
          have e5 : s_becI I1 s.toInt.toNat c 10 5 = I1 10 5 := by unfold s_becI; split <;> simp (disch := omega) only [wd_up_ne]
          rw [← e5] at hy
          refine wd_inC rfl (by omega) rfl ?_
          intro C9 X9 hC9 hX9
          (have chk9 := @hpb; clear chk9); repeat' ((conv => whnf); first
    | (apply i_getN; (focus (first | exact hp2 | exact h3 _ _ | exact h1 _ _)); (focus (exact rfl)); (intro v9 hv9; (try simp (disch := omega) only [ab_tI, ab_c0, wd_ix12, wd_ix8, wd_ix10, wd_up_self, wd_up_eq, wd_up_ne, Int.toNat_natCast, Int.toNat_of_nonneg, not_true_eq_false, not_false_eq_true, Option.some.injEq, hpb] at hv9); subst hv9))
    | (apply i_cv; (focus (first | exact hp2 | exact h3 _ _ | exact h1 _ _)))
    | (apply i_len; (focus (first | exact congrArg ab_len (hp2) | exact congrArg ab_len (h3 _ _) | exact congrArg ab_len (h1 _ _))))
    | (apply i_ialN; (focus (first | exact hp2 | exact h3 _ _ | exact h1 _ _)); (focus (first | exact Or.inl rfl | exact Or.inr rfl)); (focus (exact (by first | exact ⟨by decide, by decide⟩ | ((try simp (disch := omega) only [ab_tI, ab_c0, wd_ix12, wd_ix8, wd_ix10, wd_up_self, wd_up_eq, wd_up_ne, Int.toNat_natCast, Int.toNat_of_nonneg, not_true_eq_false, not_false_eq_true, Option.some.injEq, hpb, ab_c0]); omega)))); (intro v9 hv9; (try simp (disch := omega) only [ab_tI, ab_c0, wd_ix12, wd_ix8, wd_ix10, wd_up_self, wd_up_eq, wd_up_ne, Int.toNat_natCast, Int.toNat_of_nonneg, not_true_eq_false, not_false_eq_true, Option.some.injEq, hpb] at hv9); subst hv9))
    | (apply i_aalN; (focus (first | exact hp2 | exact h3 _ _ | exact h1 _ _)); (focus (exact (by first | exact ⟨by decide, by decide⟩ | ((try simp (disch := omega) only [ab_tI, ab_c0, wd_ix12, wd_ix8, wd_ix10, wd_up_self, wd_up_eq, wd_up_ne, Int.toNat_natCast, Int.toNat_of_nonneg, not_true_eq_false, not_false_eq_true, Option.some.injEq, hpb, ab_c0]); omega)))); (intro v9 hv9; (try simp (disch := omega) only [ab_tI, ab_c0, wd_ix12, wd_ix8, wd_ix10, wd_up_self, wd_up_eq, wd_up_ne, Int.toNat_natCast, Int.toNat_of_nonneg, not_true_eq_false, not_false_eq_true, Option.some.injEq, hpb] at hv9); subst hv9))
    | (refine hC9 123 _ _ _ (y_isShelf (by omega) (fun _ _ => ?_) (fun q => by exfalso; omega)))
    | (refine hC9 124 _ _ _ (y_isPath (by omega) (fun _ _ => ?_) (fun q => by exfalso; omega)))
    | (refine hC9 125 _ _ _ (y_isHow (by omega) (fun _ => ?_) (fun q => absurd hhow q)))
    | (refine hC9 126 _ _ _ (y_heldS (by omega) hf9 ha9 ?_))
    | (refine hC9 126 _ _ _ (y_heldS (by omega) hn7 hgv1 ?_))
    | (refine hC9 1 _ _ _ (hch _ ?_))
    | (refine hC9 91 _ _ _ (y_isTooMuch (by omega) hW' g2 (fun q => absurd q htm) (fun _ _ _ => ?_)))
    | (refine hC9 62 _ _ _ (y_become (by omega) hW' hj hok2 ?_))
    | (refine hC9 2 _ _ _ (hfc _ _ _ ?_))
    | (intro v9 hv9; (try simp (disch := omega) only [ab_tI, ab_c0, wd_ix12, wd_ix8, wd_ix10, wd_up_self, wd_up_eq, wd_up_ne, Int.toNat_natCast, Int.toNat_of_nonneg, not_true_eq_false, not_false_eq_true, Option.some.injEq, hpb] at hv9); subst hv9)
    | (apply i_get; (focus (exact rfl)); (focus (exact rfl)))
    | (refine hX9 _ _ _ _ (wd_rnC rfl ?_); clear hC9 hX9 X9 C9; intro C9 X9 hC9 hX9)
    | (refine i_brF (by decide) ?_)
    | (refine i_brT (by decide) ?_)
    | (refine ⟨fun hc => ?_, fun hc => ?_⟩ <;> (try simp (disch := omega) only [ab_tI, ab_c0, wd_ix12, wd_ix8, wd_ix10, wd_up_self, wd_up_eq, wd_up_ne, Int.toNat_natCast, Int.toNat_of_nonneg, not_true_eq_false, not_false_eq_true, Option.some.injEq, hpb] at hc) <;> first | (exfalso; omega) | skip)
    | (apply i_cv; (focus (exact rfl)))
    | (apply i_len; (focus (exact rfl)))
    | (apply w_putI; (focus (exact rfl)); (focus (exact rfl)); (focus (exact rfl)); (focus (first | exact trivial | exact Or.inl rfl | exact Or.inr rfl)); (focus (exact rfl)))
    | (apply w_putP; (focus (exact rfl)); (focus (exact rfl)); (focus (exact rfl)); (focus (exact trivial)); (focus (exact rfl)))
    | (apply i_ialN; (focus (exact rfl)); (focus (first | exact Or.inl rfl | exact Or.inr rfl)); (focus (exact (by first | exact ⟨by decide, by decide⟩ | ((try simp (disch := omega) only [ab_tI, ab_c0, wd_ix12, wd_ix8, wd_ix10, wd_up_self, wd_up_eq, wd_up_ne, Int.toNat_natCast, Int.toNat_of_nonneg, not_true_eq_false, not_false_eq_true, Option.some.injEq, hpb, ab_c0]); omega)))); (intro v9 hv9; (try simp (disch := omega) only [ab_tI, ab_c0, wd_ix12, wd_ix8, wd_ix10, wd_up_self, wd_up_eq, wd_up_ne, Int.toNat_natCast, Int.toNat_of_nonneg, not_true_eq_false, not_false_eq_true, Option.some.injEq, hpb] at hv9); subst hv9))
    | (apply i_aalN; (focus (exact rfl)); (focus (exact (by first | exact ⟨by decide, by decide⟩ | ((try simp (disch := omega) only [ab_tI, ab_c0, wd_ix12, wd_ix8, wd_ix10, wd_up_self, wd_up_eq, wd_up_ne, Int.toNat_natCast, Int.toNat_of_nonneg, not_true_eq_false, not_false_eq_true, Option.some.injEq, hpb, ab_c0]); omega)))); (intro v9 hv9; (try simp (disch := omega) only [ab_tI, ab_c0, wd_ix12, wd_ix8, wd_ix10, wd_up_self, wd_up_eq, wd_up_ne, Int.toNat_natCast, Int.toNat_of_nonneg, not_true_eq_false, not_false_eq_true, Option.some.injEq, hpb] at hv9); subst hv9))
    | (apply w_iasI; (focus (exact rfl)); (focus (exact rfl)); (focus (exact (by first | exact ⟨by decide, by decide⟩ | ((try simp (disch := omega) only [ab_tI, ab_c0, wd_ix12, wd_ix8, wd_ix10, wd_up_self, wd_up_eq, wd_up_ne, Int.toNat_natCast, Int.toNat_of_nonneg, not_true_eq_false, not_false_eq_true, Option.some.injEq, hpb, ab_c0]); omega)))); (focus (intro _; exact rfl)); (intro v9 hv9; (try simp (disch := omega) only [ab_tI, ab_c0, wd_ix12, wd_ix8, wd_ix10, wd_up_self, wd_up_eq, wd_up_ne, Int.toNat_natCast, Int.toNat_of_nonneg, not_true_eq_false, not_false_eq_true, Option.some.injEq, hpb] at hv9); subst hv9))
    | (refine And.intro trivial ?_)
    | (refine And.intro (Or.inl rfl) ?_)
    | (refine And.intro (Or.inr rfl) ?_)
    | (refine And.intro (by ((try simp (disch := omega) only [ab_tI, ab_c0, wd_ix12, wd_ix8, wd_ix10, wd_up_self, wd_up_eq, wd_up_ne, Int.toNat_natCast, Int.toNat_of_nonneg, not_true_eq_false, not_false_eq_true, Option.some.injEq, hpb]); omega)) ?_)
    | fail)
          all_goals first | exact hy | (exfalso; omega)
        · have ho := hgn h7
          subst ho
          have hfc : ∀ (I' : wd_I) (P' : wd_P) (Q : ab_Q), Q (some (.inl (I' 10 5))) (wd I' P' M g', k', z') → ab_CT (d - 1) 2 [wd_v 10] (wd I' P' M g', k', z') Q := fun I' P' Q hq => y_focusCount (by omega) hq
          have e5 : s_becI I1 s.toInt.toNat c 10 5 = I1 10 5 := by unfold s_becI; split <;> simp (disch := omega) only [wd_up_ne]
          rw [← e5] at hy
          refine wd_inC rfl (by omega) rfl ?_
          intro C9 X9 hC9 hX9
          (have chk9 := @hpb; clear chk9); repeat' ((conv => whnf); first
    | (apply i_getN; (focus (first | exact hp2 | exact h3 _ _ | exact h1 _ _)); (focus (exact rfl)); (intro v9 hv9; (try simp (disch := omega) only [ab_tI, ab_c0, wd_ix12, wd_ix8, wd_ix10, wd_up_self, wd_up_eq, wd_up_ne, Int.toNat_natCast, Int.toNat_of_nonneg, not_true_eq_false, not_false_eq_true, Option.some.injEq, hpb] at hv9); subst hv9))
    | (apply i_cv; (focus (first | exact hp2 | exact h3 _ _ | exact h1 _ _)))
    | (apply i_len; (focus (first | exact congrArg ab_len (hp2) | exact congrArg ab_len (h3 _ _) | exact congrArg ab_len (h1 _ _))))
    | (apply i_ialN; (focus (first | exact hp2 | exact h3 _ _ | exact h1 _ _)); (focus (first | exact Or.inl rfl | exact Or.inr rfl)); (focus (exact (by first | exact ⟨by decide, by decide⟩ | ((try simp (disch := omega) only [ab_tI, ab_c0, wd_ix12, wd_ix8, wd_ix10, wd_up_self, wd_up_eq, wd_up_ne, Int.toNat_natCast, Int.toNat_of_nonneg, not_true_eq_false, not_false_eq_true, Option.some.injEq, hpb, ab_c0]); omega)))); (intro v9 hv9; (try simp (disch := omega) only [ab_tI, ab_c0, wd_ix12, wd_ix8, wd_ix10, wd_up_self, wd_up_eq, wd_up_ne, Int.toNat_natCast, Int.toNat_of_nonneg, not_true_eq_false, not_false_eq_true, Option.some.injEq, hpb] at hv9); subst hv9))
    | (apply i_aalN; (focus (first | exact hp2 | exact h3 _ _ | exact h1 _ _)); (focus (exact (by first | exact ⟨by decide, by decide⟩ | ((try simp (disch := omega) only [ab_tI, ab_c0, wd_ix12, wd_ix8, wd_ix10, wd_up_self, wd_up_eq, wd_up_ne, Int.toNat_natCast, Int.toNat_of_nonneg, not_true_eq_false, not_false_eq_true, Option.some.injEq, hpb, ab_c0]); omega)))); (intro v9 hv9; (try simp (disch := omega) only [ab_tI, ab_c0, wd_ix12, wd_ix8, wd_ix10, wd_up_self, wd_up_eq, wd_up_ne, Int.toNat_natCast, Int.toNat_of_nonneg, not_true_eq_false, not_false_eq_true, Option.some.injEq, hpb] at hv9); subst hv9))
    | (refine hC9 123 _ _ _ (y_isShelf (by omega) (fun _ _ => ?_) (fun q => by exfalso; omega)))
    | (refine hC9 124 _ _ _ (y_isPath (by omega) (fun _ _ => ?_) (fun q => by exfalso; omega)))
    | (refine hC9 125 _ _ _ (y_isHow (by omega) (fun _ => ?_) (fun q => absurd hhow q)))
    | (refine hC9 126 _ _ _ (y_heldS (by omega) hf9 ha9 ?_))
    | (refine hC9 1 _ _ _ (hch _ ?_))
    | (refine hC9 91 _ _ _ (y_isTooMuch (by omega) hW' g2 (fun q => absurd q htm) (fun _ _ _ => ?_)))
    | (refine hC9 62 _ _ _ (y_become (by omega) hW' hj hok2 ?_))
    | (refine hC9 2 _ _ _ (hfc _ _ _ ?_))
    | (intro v9 hv9; (try simp (disch := omega) only [ab_tI, ab_c0, wd_ix12, wd_ix8, wd_ix10, wd_up_self, wd_up_eq, wd_up_ne, Int.toNat_natCast, Int.toNat_of_nonneg, not_true_eq_false, not_false_eq_true, Option.some.injEq, hpb] at hv9); subst hv9)
    | (apply i_get; (focus (exact rfl)); (focus (exact rfl)))
    | (refine hX9 _ _ _ _ (wd_rnC rfl ?_); clear hC9 hX9 X9 C9; intro C9 X9 hC9 hX9)
    | (refine i_brF (by decide) ?_)
    | (refine i_brT (by decide) ?_)
    | (refine ⟨fun hc => ?_, fun hc => ?_⟩ <;> (try simp (disch := omega) only [ab_tI, ab_c0, wd_ix12, wd_ix8, wd_ix10, wd_up_self, wd_up_eq, wd_up_ne, Int.toNat_natCast, Int.toNat_of_nonneg, not_true_eq_false, not_false_eq_true, Option.some.injEq, hpb] at hc) <;> first | (exfalso; omega) | skip)
    | (apply i_cv; (focus (exact rfl)))
    | (apply i_len; (focus (exact rfl)))
    | (apply w_putI; (focus (exact rfl)); (focus (exact rfl)); (focus (exact rfl)); (focus (first | exact trivial | exact Or.inl rfl | exact Or.inr rfl)); (focus (exact rfl)))
    | (apply w_putP; (focus (exact rfl)); (focus (exact rfl)); (focus (exact rfl)); (focus (exact trivial)); (focus (exact rfl)))
    | (apply i_ialN; (focus (exact rfl)); (focus (first | exact Or.inl rfl | exact Or.inr rfl)); (focus (exact (by first | exact ⟨by decide, by decide⟩ | ((try simp (disch := omega) only [ab_tI, ab_c0, wd_ix12, wd_ix8, wd_ix10, wd_up_self, wd_up_eq, wd_up_ne, Int.toNat_natCast, Int.toNat_of_nonneg, not_true_eq_false, not_false_eq_true, Option.some.injEq, hpb, ab_c0]); omega)))); (intro v9 hv9; (try simp (disch := omega) only [ab_tI, ab_c0, wd_ix12, wd_ix8, wd_ix10, wd_up_self, wd_up_eq, wd_up_ne, Int.toNat_natCast, Int.toNat_of_nonneg, not_true_eq_false, not_false_eq_true, Option.some.injEq, hpb] at hv9); subst hv9))
    | (apply i_aalN; (focus (exact rfl)); (focus (exact (by first | exact ⟨by decide, by decide⟩ | ((try simp (disch := omega) only [ab_tI, ab_c0, wd_ix12, wd_ix8, wd_ix10, wd_up_self, wd_up_eq, wd_up_ne, Int.toNat_natCast, Int.toNat_of_nonneg, not_true_eq_false, not_false_eq_true, Option.some.injEq, hpb, ab_c0]); omega)))); (intro v9 hv9; (try simp (disch := omega) only [ab_tI, ab_c0, wd_ix12, wd_ix8, wd_ix10, wd_up_self, wd_up_eq, wd_up_ne, Int.toNat_natCast, Int.toNat_of_nonneg, not_true_eq_false, not_false_eq_true, Option.some.injEq, hpb] at hv9); subst hv9))
    | (apply w_iasI; (focus (exact rfl)); (focus (exact rfl)); (focus (exact (by first | exact ⟨by decide, by decide⟩ | ((try simp (disch := omega) only [ab_tI, ab_c0, wd_ix12, wd_ix8, wd_ix10, wd_up_self, wd_up_eq, wd_up_ne, Int.toNat_natCast, Int.toNat_of_nonneg, not_true_eq_false, not_false_eq_true, Option.some.injEq, hpb, ab_c0]); omega)))); (focus (intro _; exact rfl)); (intro v9 hv9; (try simp (disch := omega) only [ab_tI, ab_c0, wd_ix12, wd_ix8, wd_ix10, wd_up_self, wd_up_eq, wd_up_ne, Int.toNat_natCast, Int.toNat_of_nonneg, not_true_eq_false, not_false_eq_true, Option.some.injEq, hpb] at hv9); subst hv9))
    | (refine And.intro trivial ?_)
    | (refine And.intro (Or.inl rfl) ?_)
    | (refine And.intro (Or.inr rfl) ?_)
    | (refine And.intro (by ((try simp (disch := omega) only [ab_tI, ab_c0, wd_ix12, wd_ix8, wd_ix10, wd_up_self, wd_up_eq, wd_up_ne, Int.toNat_natCast, Int.toNat_of_nonneg, not_true_eq_false, not_false_eq_true, Option.some.injEq, hpb]); omega)) ?_)
    | fail)
          all_goals first | exact hy | (exfalso; omega)
    · have hch := fun Q hq => hch Q (fun q => absurd q hsp) (fun _ => hq)
      have hm := hm hsp
      by_cases h7 : how.toInt = 7
      · obtain ⟨hgv1, hTg, ho⟩ := hg7 h7 (by unfold c_isHow at hh9; rw [if_neg (by omega), if_pos h7] at hh9; exact hh9)
        have hn7 : c_sh n := by unfold c_isHow at hh9; rw [if_neg (by omega), if_pos h7] at hh9; exact hh9
        subst ho
        refine wd_inC rfl (by omega) rfl ?_
        intro C9 X9 hC9 hX9
        (have chk9 := @hpb; clear chk9); repeat' ((conv => whnf); first
    | (apply i_getN; (focus (first | exact hp2)); (focus (exact rfl)); (intro v9 hv9; (try simp (disch := omega) only [ab_tI, ab_c0, wd_ix12, wd_ix8, wd_ix10, wd_up_self, wd_up_eq, wd_up_ne, Int.toNat_natCast, Int.toNat_of_nonneg, not_true_eq_false, not_false_eq_true, Option.some.injEq, hpb] at hv9); subst hv9))
    | (apply i_cv; (focus (first | exact hp2)))
    | (apply i_len; (focus (first | exact congrArg ab_len (hp2))))
    | (apply i_ialN; (focus (first | exact hp2)); (focus (first | exact Or.inl rfl | exact Or.inr rfl)); (focus (exact (by first | exact ⟨by decide, by decide⟩ | ((try simp (disch := omega) only [ab_tI, ab_c0, wd_ix12, wd_ix8, wd_ix10, wd_up_self, wd_up_eq, wd_up_ne, Int.toNat_natCast, Int.toNat_of_nonneg, not_true_eq_false, not_false_eq_true, Option.some.injEq, hpb, ab_c0]); omega)))); (intro v9 hv9; (try simp (disch := omega) only [ab_tI, ab_c0, wd_ix12, wd_ix8, wd_ix10, wd_up_self, wd_up_eq, wd_up_ne, Int.toNat_natCast, Int.toNat_of_nonneg, not_true_eq_false, not_false_eq_true, Option.some.injEq, hpb] at hv9); subst hv9))
    | (apply i_aalN; (focus (first | exact hp2)); (focus (exact (by first | exact ⟨by decide, by decide⟩ | ((try simp (disch := omega) only [ab_tI, ab_c0, wd_ix12, wd_ix8, wd_ix10, wd_up_self, wd_up_eq, wd_up_ne, Int.toNat_natCast, Int.toNat_of_nonneg, not_true_eq_false, not_false_eq_true, Option.some.injEq, hpb, ab_c0]); omega)))); (intro v9 hv9; (try simp (disch := omega) only [ab_tI, ab_c0, wd_ix12, wd_ix8, wd_ix10, wd_up_self, wd_up_eq, wd_up_ne, Int.toNat_natCast, Int.toNat_of_nonneg, not_true_eq_false, not_false_eq_true, Option.some.injEq, hpb] at hv9); subst hv9))
    | (refine hC9 123 _ _ _ (y_isShelf (by omega) (fun _ _ => ?_) (fun q => by exfalso; omega)))
    | (refine hC9 124 _ _ _ (y_isPath (by omega) (fun _ _ => ?_) (fun q => by exfalso; omega)))
    | (refine hC9 125 _ _ _ (y_isHow (by omega) (fun _ => ?_) (fun q => absurd hhow q)))
    | (refine hC9 126 _ _ _ (y_heldS (by omega) hf9 ha9 ?_))
    | (refine hC9 126 _ _ _ (y_heldS (by omega) hn7 hgv1 ?_))
    | (refine hC9 1 _ _ _ (hch _ ?_))
    | (intro v9 hv9; (try simp (disch := omega) only [ab_tI, ab_c0, wd_ix12, wd_ix8, wd_ix10, wd_up_self, wd_up_eq, wd_up_ne, Int.toNat_natCast, Int.toNat_of_nonneg, not_true_eq_false, not_false_eq_true, Option.some.injEq, hpb] at hv9); subst hv9)
    | (apply i_get; (focus (exact rfl)); (focus (exact rfl)))
    | (refine hX9 _ _ _ _ (wd_rnC rfl ?_); clear hC9 hX9 X9 C9; intro C9 X9 hC9 hX9)
    | (refine i_brF (by decide) ?_)
    | (refine i_brT (by decide) ?_)
    | (refine ⟨fun hc => ?_, fun hc => ?_⟩ <;> (try simp (disch := omega) only [ab_tI, ab_c0, wd_ix12, wd_ix8, wd_ix10, wd_up_self, wd_up_eq, wd_up_ne, Int.toNat_natCast, Int.toNat_of_nonneg, not_true_eq_false, not_false_eq_true, Option.some.injEq, hpb] at hc) <;> first | (exfalso; omega) | skip)
    | (apply i_cv; (focus (exact rfl)))
    | (apply i_len; (focus (exact rfl)))
    | (apply w_putI; (focus (exact rfl)); (focus (exact rfl)); (focus (exact rfl)); (focus (first | exact trivial | exact Or.inl rfl | exact Or.inr rfl)); (focus (exact rfl)))
    | (apply w_putP; (focus (exact rfl)); (focus (exact rfl)); (focus (exact rfl)); (focus (exact trivial)); (focus (exact rfl)))
    | (apply i_ialN; (focus (exact rfl)); (focus (first | exact Or.inl rfl | exact Or.inr rfl)); (focus (exact (by first | exact ⟨by decide, by decide⟩ | ((try simp (disch := omega) only [ab_tI, ab_c0, wd_ix12, wd_ix8, wd_ix10, wd_up_self, wd_up_eq, wd_up_ne, Int.toNat_natCast, Int.toNat_of_nonneg, not_true_eq_false, not_false_eq_true, Option.some.injEq, hpb, ab_c0]); omega)))); (intro v9 hv9; (try simp (disch := omega) only [ab_tI, ab_c0, wd_ix12, wd_ix8, wd_ix10, wd_up_self, wd_up_eq, wd_up_ne, Int.toNat_natCast, Int.toNat_of_nonneg, not_true_eq_false, not_false_eq_true, Option.some.injEq, hpb] at hv9); subst hv9))
    | (apply i_aalN; (focus (exact rfl)); (focus (exact (by first | exact ⟨by decide, by decide⟩ | ((try simp (disch := omega) only [ab_tI, ab_c0, wd_ix12, wd_ix8, wd_ix10, wd_up_self, wd_up_eq, wd_up_ne, Int.toNat_natCast, Int.toNat_of_nonneg, not_true_eq_false, not_false_eq_true, Option.some.injEq, hpb, ab_c0]); omega)))); (intro v9 hv9; (try simp (disch := omega) only [ab_tI, ab_c0, wd_ix12, wd_ix8, wd_ix10, wd_up_self, wd_up_eq, wd_up_ne, Int.toNat_natCast, Int.toNat_of_nonneg, not_true_eq_false, not_false_eq_true, Option.some.injEq, hpb] at hv9); subst hv9))
    | (apply w_iasI; (focus (exact rfl)); (focus (exact rfl)); (focus (exact (by first | exact ⟨by decide, by decide⟩ | ((try simp (disch := omega) only [ab_tI, ab_c0, wd_ix12, wd_ix8, wd_ix10, wd_up_self, wd_up_eq, wd_up_ne, Int.toNat_natCast, Int.toNat_of_nonneg, not_true_eq_false, not_false_eq_true, Option.some.injEq, hpb, ab_c0]); omega)))); (focus (intro _; exact rfl)); (intro v9 hv9; (try simp (disch := omega) only [ab_tI, ab_c0, wd_ix12, wd_ix8, wd_ix10, wd_up_self, wd_up_eq, wd_up_ne, Int.toNat_natCast, Int.toNat_of_nonneg, not_true_eq_false, not_false_eq_true, Option.some.injEq, hpb] at hv9); subst hv9))
    | (refine And.intro trivial ?_)
    | (refine And.intro (Or.inl rfl) ?_)
    | (refine And.intro (Or.inr rfl) ?_)
    | (refine And.intro (by ((try simp (disch := omega) only [ab_tI, ab_c0, wd_ix12, wd_ix8, wd_ix10, wd_up_self, wd_up_eq, wd_up_ne, Int.toNat_natCast, Int.toNat_of_nonneg, not_true_eq_false, not_false_eq_true, Option.some.injEq, hpb]); omega)) ?_)
    | fail)
        all_goals first | exact hm | (exfalso; omega)
      · have ho := hgn h7
        subst ho
        refine wd_inC rfl (by omega) rfl ?_
        intro C9 X9 hC9 hX9
        (have chk9 := @hpb; clear chk9); repeat' ((conv => whnf); first
    | (apply i_getN; (focus (first | exact hp2)); (focus (exact rfl)); (intro v9 hv9; (try simp (disch := omega) only [ab_tI, ab_c0, wd_ix12, wd_ix8, wd_ix10, wd_up_self, wd_up_eq, wd_up_ne, Int.toNat_natCast, Int.toNat_of_nonneg, not_true_eq_false, not_false_eq_true, Option.some.injEq, hpb] at hv9); subst hv9))
    | (apply i_cv; (focus (first | exact hp2)))
    | (apply i_len; (focus (first | exact congrArg ab_len (hp2))))
    | (apply i_ialN; (focus (first | exact hp2)); (focus (first | exact Or.inl rfl | exact Or.inr rfl)); (focus (exact (by first | exact ⟨by decide, by decide⟩ | ((try simp (disch := omega) only [ab_tI, ab_c0, wd_ix12, wd_ix8, wd_ix10, wd_up_self, wd_up_eq, wd_up_ne, Int.toNat_natCast, Int.toNat_of_nonneg, not_true_eq_false, not_false_eq_true, Option.some.injEq, hpb, ab_c0]); omega)))); (intro v9 hv9; (try simp (disch := omega) only [ab_tI, ab_c0, wd_ix12, wd_ix8, wd_ix10, wd_up_self, wd_up_eq, wd_up_ne, Int.toNat_natCast, Int.toNat_of_nonneg, not_true_eq_false, not_false_eq_true, Option.some.injEq, hpb] at hv9); subst hv9))
    | (apply i_aalN; (focus (first | exact hp2)); (focus (exact (by first | exact ⟨by decide, by decide⟩ | ((try simp (disch := omega) only [ab_tI, ab_c0, wd_ix12, wd_ix8, wd_ix10, wd_up_self, wd_up_eq, wd_up_ne, Int.toNat_natCast, Int.toNat_of_nonneg, not_true_eq_false, not_false_eq_true, Option.some.injEq, hpb, ab_c0]); omega)))); (intro v9 hv9; (try simp (disch := omega) only [ab_tI, ab_c0, wd_ix12, wd_ix8, wd_ix10, wd_up_self, wd_up_eq, wd_up_ne, Int.toNat_natCast, Int.toNat_of_nonneg, not_true_eq_false, not_false_eq_true, Option.some.injEq, hpb] at hv9); subst hv9))
    | (refine hC9 123 _ _ _ (y_isShelf (by omega) (fun _ _ => ?_) (fun q => by exfalso; omega)))
    | (refine hC9 124 _ _ _ (y_isPath (by omega) (fun _ _ => ?_) (fun q => by exfalso; omega)))
    | (refine hC9 125 _ _ _ (y_isHow (by omega) (fun _ => ?_) (fun q => absurd hhow q)))
    | (refine hC9 126 _ _ _ (y_heldS (by omega) hf9 ha9 ?_))
    | (refine hC9 1 _ _ _ (hch _ ?_))
    | (intro v9 hv9; (try simp (disch := omega) only [ab_tI, ab_c0, wd_ix12, wd_ix8, wd_ix10, wd_up_self, wd_up_eq, wd_up_ne, Int.toNat_natCast, Int.toNat_of_nonneg, not_true_eq_false, not_false_eq_true, Option.some.injEq, hpb] at hv9); subst hv9)
    | (apply i_get; (focus (exact rfl)); (focus (exact rfl)))
    | (refine hX9 _ _ _ _ (wd_rnC rfl ?_); clear hC9 hX9 X9 C9; intro C9 X9 hC9 hX9)
    | (refine i_brF (by decide) ?_)
    | (refine i_brT (by decide) ?_)
    | (refine ⟨fun hc => ?_, fun hc => ?_⟩ <;> (try simp (disch := omega) only [ab_tI, ab_c0, wd_ix12, wd_ix8, wd_ix10, wd_up_self, wd_up_eq, wd_up_ne, Int.toNat_natCast, Int.toNat_of_nonneg, not_true_eq_false, not_false_eq_true, Option.some.injEq, hpb] at hc) <;> first | (exfalso; omega) | skip)
    | (apply i_cv; (focus (exact rfl)))
    | (apply i_len; (focus (exact rfl)))
    | (apply w_putI; (focus (exact rfl)); (focus (exact rfl)); (focus (exact rfl)); (focus (first | exact trivial | exact Or.inl rfl | exact Or.inr rfl)); (focus (exact rfl)))
    | (apply w_putP; (focus (exact rfl)); (focus (exact rfl)); (focus (exact rfl)); (focus (exact trivial)); (focus (exact rfl)))
    | (apply i_ialN; (focus (exact rfl)); (focus (first | exact Or.inl rfl | exact Or.inr rfl)); (focus (exact (by first | exact ⟨by decide, by decide⟩ | ((try simp (disch := omega) only [ab_tI, ab_c0, wd_ix12, wd_ix8, wd_ix10, wd_up_self, wd_up_eq, wd_up_ne, Int.toNat_natCast, Int.toNat_of_nonneg, not_true_eq_false, not_false_eq_true, Option.some.injEq, hpb, ab_c0]); omega)))); (intro v9 hv9; (try simp (disch := omega) only [ab_tI, ab_c0, wd_ix12, wd_ix8, wd_ix10, wd_up_self, wd_up_eq, wd_up_ne, Int.toNat_natCast, Int.toNat_of_nonneg, not_true_eq_false, not_false_eq_true, Option.some.injEq, hpb] at hv9); subst hv9))
    | (apply i_aalN; (focus (exact rfl)); (focus (exact (by first | exact ⟨by decide, by decide⟩ | ((try simp (disch := omega) only [ab_tI, ab_c0, wd_ix12, wd_ix8, wd_ix10, wd_up_self, wd_up_eq, wd_up_ne, Int.toNat_natCast, Int.toNat_of_nonneg, not_true_eq_false, not_false_eq_true, Option.some.injEq, hpb, ab_c0]); omega)))); (intro v9 hv9; (try simp (disch := omega) only [ab_tI, ab_c0, wd_ix12, wd_ix8, wd_ix10, wd_up_self, wd_up_eq, wd_up_ne, Int.toNat_natCast, Int.toNat_of_nonneg, not_true_eq_false, not_false_eq_true, Option.some.injEq, hpb] at hv9); subst hv9))
    | (apply w_iasI; (focus (exact rfl)); (focus (exact rfl)); (focus (exact (by first | exact ⟨by decide, by decide⟩ | ((try simp (disch := omega) only [ab_tI, ab_c0, wd_ix12, wd_ix8, wd_ix10, wd_up_self, wd_up_eq, wd_up_ne, Int.toNat_natCast, Int.toNat_of_nonneg, not_true_eq_false, not_false_eq_true, Option.some.injEq, hpb, ab_c0]); omega)))); (focus (intro _; exact rfl)); (intro v9 hv9; (try simp (disch := omega) only [ab_tI, ab_c0, wd_ix12, wd_ix8, wd_ix10, wd_up_self, wd_up_eq, wd_up_ne, Int.toNat_natCast, Int.toNat_of_nonneg, not_true_eq_false, not_false_eq_true, Option.some.injEq, hpb] at hv9); subst hv9))
    | (refine And.intro trivial ?_)
    | (refine And.intro (Or.inl rfl) ?_)
    | (refine And.intro (Or.inr rfl) ?_)
    | (refine And.intro (by ((try simp (disch := omega) only [ab_tI, ab_c0, wd_ix12, wd_ix8, wd_ix10, wd_up_self, wd_up_eq, wd_up_ne, Int.toNat_natCast, Int.toNat_of_nonneg, not_true_eq_false, not_false_eq_true, Option.some.injEq, hpb]); omega)) ?_)
    | fail)
        all_goals first | exact hm | (exfalso; omega)
  · have hbad := hbad hall
    clear hm hf hy hs ha hb hg7 hgn
    by_cases hh : c_isHow how n
    · have h3 : ¬ (0 ≤ s.toInt ∧ s.toInt < 12 ∧ 0 ≤ f.toInt ∧ f.toInt < 12 ∧ 0 ≤ p.toInt ∧ p.toInt < 8) := fun q => hall ⟨⟨q.1, q.2.1⟩, ⟨q.2.2.1, q.2.2.2.1⟩, q.2.2.2.2, hh⟩
      refine wd_inC rfl (by omega) rfl ?_
      intro C9 X9 hC9 hX9
      repeat' ((conv => whnf); first
    | (refine hC9 123 _ _ _ (y_isShelf (by omega) (fun q1 q2 => ?_) (fun q => ?_)))
    | (refine hC9 124 _ _ _ (y_isPath (by omega) (fun q1 q2 => ?_) (fun q => ?_)))
    | (refine hC9 125 _ _ _ (y_isHow (by omega) (fun _ => ?_) (fun q => absurd hh q)); exfalso; omega)
    | (intro v9 hv9; (try simp (disch := omega) only [ab_tI, ab_c0, wd_ix12, wd_ix8, wd_ix10, wd_up_self, wd_up_eq, wd_up_ne, Int.toNat_natCast, Int.toNat_of_nonneg, not_true_eq_false, not_false_eq_true, Option.some.injEq] at hv9); subst hv9)
    | (apply i_get; (focus (exact rfl)); (focus (exact rfl)))
    | (refine hX9 _ _ _ _ (wd_rnC rfl ?_); clear hC9 hX9 X9 C9; intro C9 X9 hC9 hX9)
    | (refine i_brF (by decide) ?_)
    | (refine i_brT (by decide) ?_)
    | (refine ⟨fun hc => ?_, fun hc => ?_⟩ <;> (try simp (disch := omega) only [ab_tI, ab_c0, wd_ix12, wd_ix8, wd_ix10, wd_up_self, wd_up_eq, wd_up_ne, Int.toNat_natCast, Int.toNat_of_nonneg, not_true_eq_false, not_false_eq_true, Option.some.injEq] at hc) <;> first | (exfalso; omega) | skip)
    | (apply i_cv; (focus (exact rfl)))
    | (apply i_len; (focus (exact rfl)))
    | (apply w_putI; (focus (exact rfl)); (focus (exact rfl)); (focus (exact rfl)); (focus (first | exact trivial | exact Or.inl rfl | exact Or.inr rfl)); (focus (exact rfl)))
    | (apply w_putP; (focus (exact rfl)); (focus (exact rfl)); (focus (exact rfl)); (focus (exact trivial)); (focus (exact rfl)))
    | (apply i_ialN; (focus (exact rfl)); (focus (first | exact Or.inl rfl | exact Or.inr rfl)); (focus (exact (by first | exact ⟨by decide, by decide⟩ | ((try simp (disch := omega) only [ab_tI, ab_c0, wd_ix12, wd_ix8, wd_ix10, wd_up_self, wd_up_eq, wd_up_ne, Int.toNat_natCast, Int.toNat_of_nonneg, not_true_eq_false, not_false_eq_true, Option.some.injEq, ab_c0]); omega)))); (intro v9 hv9; (try simp (disch := omega) only [ab_tI, ab_c0, wd_ix12, wd_ix8, wd_ix10, wd_up_self, wd_up_eq, wd_up_ne, Int.toNat_natCast, Int.toNat_of_nonneg, not_true_eq_false, not_false_eq_true, Option.some.injEq] at hv9); subst hv9))
    | (apply i_aalN; (focus (exact rfl)); (focus (exact (by first | exact ⟨by decide, by decide⟩ | ((try simp (disch := omega) only [ab_tI, ab_c0, wd_ix12, wd_ix8, wd_ix10, wd_up_self, wd_up_eq, wd_up_ne, Int.toNat_natCast, Int.toNat_of_nonneg, not_true_eq_false, not_false_eq_true, Option.some.injEq, ab_c0]); omega)))); (intro v9 hv9; (try simp (disch := omega) only [ab_tI, ab_c0, wd_ix12, wd_ix8, wd_ix10, wd_up_self, wd_up_eq, wd_up_ne, Int.toNat_natCast, Int.toNat_of_nonneg, not_true_eq_false, not_false_eq_true, Option.some.injEq] at hv9); subst hv9))
    | (apply w_iasI; (focus (exact rfl)); (focus (exact rfl)); (focus (exact (by first | exact ⟨by decide, by decide⟩ | ((try simp (disch := omega) only [ab_tI, ab_c0, wd_ix12, wd_ix8, wd_ix10, wd_up_self, wd_up_eq, wd_up_ne, Int.toNat_natCast, Int.toNat_of_nonneg, not_true_eq_false, not_false_eq_true, Option.some.injEq, ab_c0]); omega)))); (focus (intro _; exact rfl)); (intro v9 hv9; (try simp (disch := omega) only [ab_tI, ab_c0, wd_ix12, wd_ix8, wd_ix10, wd_up_self, wd_up_eq, wd_up_ne, Int.toNat_natCast, Int.toNat_of_nonneg, not_true_eq_false, not_false_eq_true, Option.some.injEq] at hv9); subst hv9))
    | (refine And.intro trivial ?_)
    | (refine And.intro (Or.inl rfl) ?_)
    | (refine And.intro (Or.inr rfl) ?_)
    | (refine And.intro (by ((try simp (disch := omega) only [ab_tI, ab_c0, wd_ix12, wd_ix8, wd_ix10, wd_up_self, wd_up_eq, wd_up_ne, Int.toNat_natCast, Int.toNat_of_nonneg, not_true_eq_false, not_false_eq_true, Option.some.injEq]); omega)) ?_)
    | fail)
      all_goals first | exact hbad | (exfalso; omega)
    · refine wd_inC rfl (by omega) rfl ?_
      intro C9 X9 hC9 hX9
      repeat' ((conv => whnf); first
    | (refine hC9 123 _ _ _ (y_isShelf (by omega) (fun q1 q2 => ?_) (fun q => ?_)))
    | (refine hC9 124 _ _ _ (y_isPath (by omega) (fun q1 q2 => ?_) (fun q => ?_)))
    | (refine hC9 125 _ _ _ (y_isHow (by omega) (fun q => absurd q hh) (fun _ => ?_)))
    | (intro v9 hv9; (try simp (disch := omega) only [ab_tI, ab_c0, wd_ix12, wd_ix8, wd_ix10, wd_up_self, wd_up_eq, wd_up_ne, Int.toNat_natCast, Int.toNat_of_nonneg, not_true_eq_false, not_false_eq_true, Option.some.injEq] at hv9); subst hv9)
    | (apply i_get; (focus (exact rfl)); (focus (exact rfl)))
    | (refine hX9 _ _ _ _ (wd_rnC rfl ?_); clear hC9 hX9 X9 C9; intro C9 X9 hC9 hX9)
    | (refine i_brF (by decide) ?_)
    | (refine i_brT (by decide) ?_)
    | (refine ⟨fun hc => ?_, fun hc => ?_⟩ <;> (try simp (disch := omega) only [ab_tI, ab_c0, wd_ix12, wd_ix8, wd_ix10, wd_up_self, wd_up_eq, wd_up_ne, Int.toNat_natCast, Int.toNat_of_nonneg, not_true_eq_false, not_false_eq_true, Option.some.injEq] at hc) <;> first | (exfalso; omega) | skip)
    | (apply i_cv; (focus (exact rfl)))
    | (apply i_len; (focus (exact rfl)))
    | (apply w_putI; (focus (exact rfl)); (focus (exact rfl)); (focus (exact rfl)); (focus (first | exact trivial | exact Or.inl rfl | exact Or.inr rfl)); (focus (exact rfl)))
    | (apply w_putP; (focus (exact rfl)); (focus (exact rfl)); (focus (exact rfl)); (focus (exact trivial)); (focus (exact rfl)))
    | (apply i_ialN; (focus (exact rfl)); (focus (first | exact Or.inl rfl | exact Or.inr rfl)); (focus (exact (by first | exact ⟨by decide, by decide⟩ | ((try simp (disch := omega) only [ab_tI, ab_c0, wd_ix12, wd_ix8, wd_ix10, wd_up_self, wd_up_eq, wd_up_ne, Int.toNat_natCast, Int.toNat_of_nonneg, not_true_eq_false, not_false_eq_true, Option.some.injEq, ab_c0]); omega)))); (intro v9 hv9; (try simp (disch := omega) only [ab_tI, ab_c0, wd_ix12, wd_ix8, wd_ix10, wd_up_self, wd_up_eq, wd_up_ne, Int.toNat_natCast, Int.toNat_of_nonneg, not_true_eq_false, not_false_eq_true, Option.some.injEq] at hv9); subst hv9))
    | (apply i_aalN; (focus (exact rfl)); (focus (exact (by first | exact ⟨by decide, by decide⟩ | ((try simp (disch := omega) only [ab_tI, ab_c0, wd_ix12, wd_ix8, wd_ix10, wd_up_self, wd_up_eq, wd_up_ne, Int.toNat_natCast, Int.toNat_of_nonneg, not_true_eq_false, not_false_eq_true, Option.some.injEq, ab_c0]); omega)))); (intro v9 hv9; (try simp (disch := omega) only [ab_tI, ab_c0, wd_ix12, wd_ix8, wd_ix10, wd_up_self, wd_up_eq, wd_up_ne, Int.toNat_natCast, Int.toNat_of_nonneg, not_true_eq_false, not_false_eq_true, Option.some.injEq] at hv9); subst hv9))
    | (apply w_iasI; (focus (exact rfl)); (focus (exact rfl)); (focus (exact (by first | exact ⟨by decide, by decide⟩ | ((try simp (disch := omega) only [ab_tI, ab_c0, wd_ix12, wd_ix8, wd_ix10, wd_up_self, wd_up_eq, wd_up_ne, Int.toNat_natCast, Int.toNat_of_nonneg, not_true_eq_false, not_false_eq_true, Option.some.injEq, ab_c0]); omega)))); (focus (intro _; exact rfl)); (intro v9 hv9; (try simp (disch := omega) only [ab_tI, ab_c0, wd_ix12, wd_ix8, wd_ix10, wd_up_self, wd_up_eq, wd_up_ne, Int.toNat_natCast, Int.toNat_of_nonneg, not_true_eq_false, not_false_eq_true, Option.some.injEq] at hv9); subst hv9))
    | (refine And.intro trivial ?_)
    | (refine And.intro (Or.inl rfl) ?_)
    | (refine And.intro (Or.inr rfl) ?_)
    | (refine And.intro (by ((try simp (disch := omega) only [ab_tI, ab_c0, wd_ix12, wd_ix8, wd_ix10, wd_up_self, wd_up_eq, wd_up_ne, Int.toNat_natCast, Int.toNat_of_nonneg, not_true_eq_false, not_false_eq_true, Option.some.injEq]); omega)) ?_)
    | fail)
      all_goals first | exact hbad | (exfalso; omega)
end
