section
/-! ===== the class: fit (own text) ===== -/
noncomputable def c_F1 (gv p a : Nat) (S : c_St) : Nat × c_St := c_R gv p a (ab_ii 7) (ab_ii 0) S
noncomputable def c_F2 (gv p a : Nat) (S : c_St) : Nat × c_St := c_R gv p (c_F1 gv p a S).1 (ab_ii 7) (ab_ii 0) (c_F1 gv p a S).2
def c_fP (P : wd_P) (p gv : Nat) : wd_P := c_cP P p (some gv)
/-- what fit tells of two and the foci -/
noncomputable def c_fA (g : Nat → ab_C) (l : List Nat) (gv a b : Nat) (n : Int) : Int32 := ab_ii ((if (l.length : Int) = n then 1 else 0) + (if c_all g l gv l.length 0 = true then 2 else 0) + (if c_cmp g 41 a b = 0 then 4 else 0))
section
variable {d : Nat} {I : wd_I} {P : wd_P} {M : wd_I} {g : Nat → ab_C} {k z : Nat} {Q : ab_Q} {T : Nat → Prop}
theorem c_ro_gd {T : Nat → Prop} {S : c_St} {R : Nat × c_St} (h : c_gd T 82 S R) (hro : c_ro 82 S) (hs : (R.2.1 10 6).toInt = 0) : c_ro 82 R.2 := by
  obtain ⟨T', -, -, h3⟩ := h
  unfold c_us c_ro at *
  omega
set_option maxHeartbeats 4000000 in
set_option maxRecDepth 100000 in
theorem y_fit_c (hd : 95 ≤ d) {T1 T2 : Nat → Prop} {g2 : Nat → ab_C} {I1 I2 : wd_I} {k2 z2 x1 x2 p gv : Nat} {s w : Int32} (hW2 : c_W T2 g2 k2) (hx1 : T2 x1) (hx2 : T2 x2) (hgv : T2 gv) (hwp : p_wf g2 k2 p) {pp : Int32} (hpp : c_pp pp) (hpb : P 8 pp.toInt.toNat = some p) {n : Int32} (hQ : Q (some (.inl (c_fA g2 (c_fs41 g2 p x1) gv x1 x2 n.toInt))) (wd (f_fnd I2 P g2 p x1).1 (f_fnd I2 P g2 p x1).2 M g2, k2, z2)) : ab_WB d 119 Q 139 [(0, wd_v 0), (1, .inl s), (2, .inl pp), (3, .inl w), (4, wd_v gv), (5, wd_v x1), (6, .inl n), (7, wd_v x2)] [] (wd I2 P M g2, k2, z2) := by
  obtain ⟨hp0, hp1⟩ := id hpp
  have hl := f_fnd_lst hW2 (p := p) hx1 (I := I2) (P := P)
  have hfi := fun (Q : ab_Q) hq => y_find (d := d - 1) (M := M) (z := z2) (Q := Q) (by omega) hW2 hwp hx1 (I := I2) (P := P) hq
  obtain ⟨hl1, hl2, -⟩ := id hl
  unfold c_fA at hQ
  generalize f_fnd I2 P g2 p x1 = F at *
  obtain ⟨I3, P3⟩ := F
  dsimp only at *
  generalize c_fs41 g2 p x1 = l at *
  have hlt : (I3 11 2).toInt = (l.length : Int) := by rw [hl1, ab_tI (by omega) (by omega)]
  have hpc := p_c (I := I2) (P := P) (M := M) (z := z2) (k' := k2) hwp c_ofr.rf
  have hal := fun (Q : ab_Q) q1 q2 => y_allA (d := d - 1) (M := M) (z := z2) (Q := Q) (by omega) hW2 hl hgv q1 q2
  have hlk := fun (Q : ab_Q) q1 q2 => y_areAlike (d := d - 1) (I := I3) (P := P3) (M := M) (z := z2) (Q := Q) (by omega) hW2 hx1 hx2 q1 q2
  by_cases c1 : (l.length : Int) = n.toInt
  · rw [if_pos c1] at hQ
    cases c2 : c_all g2 l gv l.length 0 with
    | true =>
      rw [c2, if_pos rfl] at hQ
      by_cases c3 : c_cmp g2 41 x1 x2 = 0
      · rw [if_pos c3] at hQ
        refine wd_rnC rfl ?_
        intro C9 X9 hC9 hX9
        (have chk9 := @hpb; clear chk9); (have chk9 := @hl1; clear chk9); repeat' ((conv => whnf); first
    | (apply i_getN; (focus (first | exact hpc)); (focus (exact rfl)); (intro v9 hv9; (try simp (disch := omega) only [ab_tI, ab_c0, wd_ix12, wd_ix8, wd_ix10, wd_up_self, wd_up_eq, wd_up_ne, Int.toNat_natCast, Int.toNat_of_nonneg, not_true_eq_false, not_false_eq_true, Option.some.injEq, hpb, hl1] at hv9); subst hv9))
    | (apply i_cv; (focus (first | exact hpc)))
    | (apply i_len; (focus (first | exact congrArg ab_len (hpc))))
    | (apply i_ialN; (focus (first | exact hpc)); (focus (first | exact Or.inl rfl | exact Or.inr rfl)); (focus (exact (by first | exact ⟨by decide, by decide⟩ | ((try simp (disch := omega) only [ab_tI, ab_c0, wd_ix12, wd_ix8, wd_ix10, wd_up_self, wd_up_eq, wd_up_ne, Int.toNat_natCast, Int.toNat_of_nonneg, not_true_eq_false, not_false_eq_true, Option.some.injEq, hpb, hl1, wd_l103, wd_l104, wd_l105, wd_l106, wd_l107, wd_l108, wd_l109, wd_l110, wd_l111, wd_l112, wd_l113, wd_l114, wd_l115, wd_l116, wd_l117, wd_l118, wd_l119, wd_l120, wd_l121, wd_l122, wd_l123, wd_l124]); omega)))); (intro v9 hv9; (try simp (disch := omega) only [ab_tI, ab_c0, wd_ix12, wd_ix8, wd_ix10, wd_up_self, wd_up_eq, wd_up_ne, Int.toNat_natCast, Int.toNat_of_nonneg, not_true_eq_false, not_false_eq_true, Option.some.injEq, hpb, hl1] at hv9); subst hv9))
    | (apply i_aalN; (focus (first | exact hpc)); (focus (exact (by first | exact ⟨by decide, by decide⟩ | ((try simp (disch := omega) only [ab_tI, ab_c0, wd_ix12, wd_ix8, wd_ix10, wd_up_self, wd_up_eq, wd_up_ne, Int.toNat_natCast, Int.toNat_of_nonneg, not_true_eq_false, not_false_eq_true, Option.some.injEq, hpb, hl1, wd_l103, wd_l104, wd_l105, wd_l106, wd_l107, wd_l108, wd_l109, wd_l110, wd_l111, wd_l112, wd_l113, wd_l114, wd_l115, wd_l116, wd_l117, wd_l118, wd_l119, wd_l120, wd_l121, wd_l122, wd_l123, wd_l124]); omega)))); (intro v9 hv9; (try simp (disch := omega) only [ab_tI, ab_c0, wd_ix12, wd_ix8, wd_ix10, wd_up_self, wd_up_eq, wd_up_ne, Int.toNat_natCast, Int.toNat_of_nonneg, not_true_eq_false, not_false_eq_true, Option.some.injEq, hpb, hl1] at hv9); subst hv9))
    | (refine hC9 21 _ _ _ (hfi _ ?_))
    | (refine hC9 24 _ _ _ (y_fsz (by omega) ?_))
    | (refine hC9 35 _ _ _ (hal _ (fun _ => ?_) (fun q => by rw [c2] at q; cases q)))
    | (refine hC9 93 _ _ _ (hlk _ (fun _ => ?_) (fun q => absurd c3 q)))
    | (intro v9 hv9; (try simp (disch := omega) only [ab_tI, ab_c0, wd_ix12, wd_ix8, wd_ix10, wd_up_self, wd_up_eq, wd_up_ne, Int.toNat_natCast, Int.toNat_of_nonneg, not_true_eq_false, not_false_eq_true, Option.some.injEq, hpb, hl1] at hv9); subst hv9)
    | (apply i_get; (focus (exact rfl)); (focus (exact rfl)))
    | (refine hX9 _ _ _ _ (wd_rnC rfl ?_); clear hC9 hX9 X9 C9; intro C9 X9 hC9 hX9)
    | (apply w_ialM; (focus (exact rfl)); (focus (exact (by first | exact ⟨by decide, by decide⟩ | ((try simp (disch := omega) only [ab_tI, ab_c0, wd_ix12, wd_ix8, wd_ix10, wd_up_self, wd_up_eq, wd_up_ne, Int.toNat_natCast, Int.toNat_of_nonneg, not_true_eq_false, not_false_eq_true, Option.some.injEq, hpb, hl1, wd_l103, wd_l104, wd_l105, wd_l106, wd_l107, wd_l108, wd_l109, wd_l110, wd_l111, wd_l112, wd_l113, wd_l114, wd_l115, wd_l116, wd_l117, wd_l118, wd_l119, wd_l120, wd_l121, wd_l122, wd_l123, wd_l124]); omega)))); (intro v9 hv9; (try simp (disch := omega) only [ab_tI, ab_c0, wd_ix12, wd_ix8, wd_ix10, wd_up_self, wd_up_eq, wd_up_ne, Int.toNat_natCast, Int.toNat_of_nonneg, not_true_eq_false, not_false_eq_true, Option.some.injEq, hpb, hl1] at hv9); subst hv9))
    | (apply w_putM; (focus (exact rfl)); (focus (first | exact trivial | exact Or.inl rfl | exact Or.inr rfl)); (focus (exact rfl)))
    | (apply w_iasM; (focus (exact rfl)); (focus (exact (by first | exact ⟨by decide, by decide⟩ | ((try simp (disch := omega) only [ab_tI, ab_c0, wd_ix12, wd_ix8, wd_ix10, wd_up_self, wd_up_eq, wd_up_ne, Int.toNat_natCast, Int.toNat_of_nonneg, not_true_eq_false, not_false_eq_true, Option.some.injEq, hpb, hl1, wd_l103, wd_l104, wd_l105, wd_l106, wd_l107, wd_l108, wd_l109, wd_l110, wd_l111, wd_l112, wd_l113, wd_l114, wd_l115, wd_l116, wd_l117, wd_l118, wd_l119, wd_l120, wd_l121, wd_l122, wd_l123, wd_l124]); omega)))); (intro v9 hv9; (try simp (disch := omega) only [ab_tI, ab_c0, wd_ix12, wd_ix8, wd_ix10, wd_up_self, wd_up_eq, wd_up_ne, Int.toNat_natCast, Int.toNat_of_nonneg, not_true_eq_false, not_false_eq_true, Option.some.injEq, hpb, hl1] at hv9); subst hv9))
    | (refine i_brF (by decide) ?_)
    | (refine i_brT (by decide) ?_)
    | (refine ⟨fun hc => ?_, fun hc => ?_⟩ <;> (try simp (disch := omega) only [ab_tI, ab_c0, wd_ix12, wd_ix8, wd_ix10, wd_up_self, wd_up_eq, wd_up_ne, Int.toNat_natCast, Int.toNat_of_nonneg, not_true_eq_false, not_false_eq_true, Option.some.injEq, hpb, hl1] at hc) <;> first | (exfalso; omega) | skip)
    | (apply i_cv; (focus (exact rfl)))
    | (apply i_len; (focus (exact rfl)))
    | (apply w_putI; (focus (exact rfl)); (focus (exact rfl)); (focus (exact rfl)); (focus (first | exact trivial | exact Or.inl rfl | exact Or.inr rfl)); (focus (exact rfl)))
    | (apply w_putP; (focus (exact rfl)); (focus (exact rfl)); (focus (exact rfl)); (focus (exact trivial)); (focus (exact rfl)))
    | (apply i_ialN; (focus (exact rfl)); (focus (first | exact Or.inl rfl | exact Or.inr rfl)); (focus (exact (by first | exact ⟨by decide, by decide⟩ | ((try simp (disch := omega) only [ab_tI, ab_c0, wd_ix12, wd_ix8, wd_ix10, wd_up_self, wd_up_eq, wd_up_ne, Int.toNat_natCast, Int.toNat_of_nonneg, not_true_eq_false, not_false_eq_true, Option.some.injEq, hpb, hl1, wd_l103, wd_l104, wd_l105, wd_l106, wd_l107, wd_l108, wd_l109, wd_l110, wd_l111, wd_l112, wd_l113, wd_l114, wd_l115, wd_l116, wd_l117, wd_l118, wd_l119, wd_l120, wd_l121, wd_l122, wd_l123, wd_l124]); omega)))); (intro v9 hv9; (try simp (disch := omega) only [ab_tI, ab_c0, wd_ix12, wd_ix8, wd_ix10, wd_up_self, wd_up_eq, wd_up_ne, Int.toNat_natCast, Int.toNat_of_nonneg, not_true_eq_false, not_false_eq_true, Option.some.injEq, hpb, hl1] at hv9); subst hv9))
    | (apply i_aalN; (focus (exact rfl)); (focus (exact (by first | exact ⟨by decide, by decide⟩ | ((try simp (disch := omega) only [ab_tI, ab_c0, wd_ix12, wd_ix8, wd_ix10, wd_up_self, wd_up_eq, wd_up_ne, Int.toNat_natCast, Int.toNat_of_nonneg, not_true_eq_false, not_false_eq_true, Option.some.injEq, hpb, hl1, wd_l103, wd_l104, wd_l105, wd_l106, wd_l107, wd_l108, wd_l109, wd_l110, wd_l111, wd_l112, wd_l113, wd_l114, wd_l115, wd_l116, wd_l117, wd_l118, wd_l119, wd_l120, wd_l121, wd_l122, wd_l123, wd_l124]); omega)))); (intro v9 hv9; (try simp (disch := omega) only [ab_tI, ab_c0, wd_ix12, wd_ix8, wd_ix10, wd_up_self, wd_up_eq, wd_up_ne, Int.toNat_natCast, Int.toNat_of_nonneg, not_true_eq_false, not_false_eq_true, Option.some.injEq, hpb, hl1] at hv9); subst hv9))
    | (apply w_iasI; (focus (exact rfl)); (focus (exact rfl)); (focus (exact (by first | exact ⟨by decide, by decide⟩ | ((try simp (disch := omega) only [ab_tI, ab_c0, wd_ix12, wd_ix8, wd_ix10, wd_up_self, wd_up_eq, wd_up_ne, Int.toNat_natCast, Int.toNat_of_nonneg, not_true_eq_false, not_false_eq_true, Option.some.injEq, hpb, hl1, wd_l103, wd_l104, wd_l105, wd_l106, wd_l107, wd_l108, wd_l109, wd_l110, wd_l111, wd_l112, wd_l113, wd_l114, wd_l115, wd_l116, wd_l117, wd_l118, wd_l119, wd_l120, wd_l121, wd_l122, wd_l123, wd_l124]); omega)))); (focus (intro _; exact rfl)); (intro v9 hv9; (try simp (disch := omega) only [ab_tI, ab_c0, wd_ix12, wd_ix8, wd_ix10, wd_up_self, wd_up_eq, wd_up_ne, Int.toNat_natCast, Int.toNat_of_nonneg, not_true_eq_false, not_false_eq_true, Option.some.injEq, hpb, hl1] at hv9); subst hv9))
    | (apply w_balM; (focus (exact (by first | exact ⟨by decide, by decide⟩ | ((try simp (disch := omega) only [ab_tI, ab_c0, wd_ix12, wd_ix8, wd_ix10, wd_up_self, wd_up_eq, wd_up_ne, Int.toNat_natCast, Int.toNat_of_nonneg, not_true_eq_false, not_false_eq_true, Option.some.injEq, hpb, hl1, wd_l103, wd_l104, wd_l105, wd_l106, wd_l107, wd_l108, wd_l109, wd_l110, wd_l111, wd_l112, wd_l113, wd_l114, wd_l115, wd_l116, wd_l117, wd_l118, wd_l119, wd_l120, wd_l121, wd_l122, wd_l123, wd_l124]); omega)))); (intro v9 hv9; (try simp (disch := omega) only [ab_tI, ab_c0, wd_ix12, wd_ix8, wd_ix10, wd_up_self, wd_up_eq, wd_up_ne, Int.toNat_natCast, Int.toNat_of_nonneg, not_true_eq_false, not_false_eq_true, Option.some.injEq, hpb, hl1] at hv9); subst hv9))
    | (apply w_basM; (focus (exact (by first | exact ⟨by decide, by decide⟩ | ((try simp (disch := omega) only [ab_tI, ab_c0, wd_ix12, wd_ix8, wd_ix10, wd_up_self, wd_up_eq, wd_up_ne, Int.toNat_natCast, Int.toNat_of_nonneg, not_true_eq_false, not_false_eq_true, Option.some.injEq, hpb, hl1, wd_l103, wd_l104, wd_l105, wd_l106, wd_l107, wd_l108, wd_l109, wd_l110, wd_l111, wd_l112, wd_l113, wd_l114, wd_l115, wd_l116, wd_l117, wd_l118, wd_l119, wd_l120, wd_l121, wd_l122, wd_l123, wd_l124]); omega)))); (focus (first | exact Or.inl rfl | exact Or.inr rfl)); (intro v9 hv9; (try simp (disch := omega) only [ab_tI, ab_c0, wd_ix12, wd_ix8, wd_ix10, wd_up_self, wd_up_eq, wd_up_ne, Int.toNat_natCast, Int.toNat_of_nonneg, not_true_eq_false, not_false_eq_true, Option.some.injEq, hpb, hl1] at hv9); subst hv9))
    | (refine And.intro trivial ?_)
    | (refine And.intro (Or.inl rfl) ?_)
    | (refine And.intro (Or.inr rfl) ?_)
    | (refine And.intro (by ((try simp (disch := omega) only [ab_tI, ab_c0, wd_ix12, wd_ix8, wd_ix10, wd_up_self, wd_up_eq, wd_up_ne, Int.toNat_natCast, Int.toNat_of_nonneg, not_true_eq_false, not_false_eq_true, Option.some.injEq, hpb, hl1]); omega)) ?_)
    | fail)
        all_goals first | exact hQ | (exfalso; omega)
      · rw [if_neg c3] at hQ
        refine wd_rnC rfl ?_
        intro C9 X9 hC9 hX9
        (have chk9 := @hpb; clear chk9); (have chk9 := @hl1; clear chk9); repeat' ((conv => whnf); first
    | (apply i_getN; (focus (first | exact hpc)); (focus (exact rfl)); (intro v9 hv9; (try simp (disch := omega) only [ab_tI, ab_c0, wd_ix12, wd_ix8, wd_ix10, wd_up_self, wd_up_eq, wd_up_ne, Int.toNat_natCast, Int.toNat_of_nonneg, not_true_eq_false, not_false_eq_true, Option.some.injEq, hpb, hl1] at hv9); subst hv9))
    | (apply i_cv; (focus (first | exact hpc)))
    | (apply i_len; (focus (first | exact congrArg ab_len (hpc))))
    | (apply i_ialN; (focus (first | exact hpc)); (focus (first | exact Or.inl rfl | exact Or.inr rfl)); (focus (exact (by first | exact ⟨by decide, by decide⟩ | ((try simp (disch := omega) only [ab_tI, ab_c0, wd_ix12, wd_ix8, wd_ix10, wd_up_self, wd_up_eq, wd_up_ne, Int.toNat_natCast, Int.toNat_of_nonneg, not_true_eq_false, not_false_eq_true, Option.some.injEq, hpb, hl1, wd_l103, wd_l104, wd_l105, wd_l106, wd_l107, wd_l108, wd_l109, wd_l110, wd_l111, wd_l112, wd_l113, wd_l114, wd_l115, wd_l116, wd_l117, wd_l118, wd_l119, wd_l120, wd_l121, wd_l122, wd_l123, wd_l124]); omega)))); (intro v9 hv9; (try simp (disch := omega) only [ab_tI, ab_c0, wd_ix12, wd_ix8, wd_ix10, wd_up_self, wd_up_eq, wd_up_ne, Int.toNat_natCast, Int.toNat_of_nonneg, not_true_eq_false, not_false_eq_true, Option.some.injEq, hpb, hl1] at hv9); subst hv9))
    | (apply i_aalN; (focus (first | exact hpc)); (focus (exact (by first | exact ⟨by decide, by decide⟩ | ((try simp (disch := omega) only [ab_tI, ab_c0, wd_ix12, wd_ix8, wd_ix10, wd_up_self, wd_up_eq, wd_up_ne, Int.toNat_natCast, Int.toNat_of_nonneg, not_true_eq_false, not_false_eq_true, Option.some.injEq, hpb, hl1, wd_l103, wd_l104, wd_l105, wd_l106, wd_l107, wd_l108, wd_l109, wd_l110, wd_l111, wd_l112, wd_l113, wd_l114, wd_l115, wd_l116, wd_l117, wd_l118, wd_l119, wd_l120, wd_l121, wd_l122, wd_l123, wd_l124]); omega)))); (intro v9 hv9; (try simp (disch := omega) only [ab_tI, ab_c0, wd_ix12, wd_ix8, wd_ix10, wd_up_self, wd_up_eq, wd_up_ne, Int.toNat_natCast, Int.toNat_of_nonneg, not_true_eq_false, not_false_eq_true, Option.some.injEq, hpb, hl1] at hv9); subst hv9))
    | (refine hC9 21 _ _ _ (hfi _ ?_))
    | (refine hC9 24 _ _ _ (y_fsz (by omega) ?_))
    | (refine hC9 35 _ _ _ (hal _ (fun _ => ?_) (fun q => by rw [c2] at q; cases q)))
    | (refine hC9 93 _ _ _ (hlk _ (fun q => absurd q c3) (fun _ => ?_)))
    | (intro v9 hv9; (try simp (disch := omega) only [ab_tI, ab_c0, wd_ix12, wd_ix8, wd_ix10, wd_up_self, wd_up_eq, wd_up_ne, Int.toNat_natCast, Int.toNat_of_nonneg, not_true_eq_false, not_false_eq_true, Option.some.injEq, hpb, hl1] at hv9); subst hv9)
    | (apply i_get; (focus (exact rfl)); (focus (exact rfl)))
    | (refine hX9 _ _ _ _ (wd_rnC rfl ?_); clear hC9 hX9 X9 C9; intro C9 X9 hC9 hX9)
    | (apply w_ialM; (focus (exact rfl)); (focus (exact (by first | exact ⟨by decide, by decide⟩ | ((try simp (disch := omega) only [ab_tI, ab_c0, wd_ix12, wd_ix8, wd_ix10, wd_up_self, wd_up_eq, wd_up_ne, Int.toNat_natCast, Int.toNat_of_nonneg, not_true_eq_false, not_false_eq_true, Option.some.injEq, hpb, hl1, wd_l103, wd_l104, wd_l105, wd_l106, wd_l107, wd_l108, wd_l109, wd_l110, wd_l111, wd_l112, wd_l113, wd_l114, wd_l115, wd_l116, wd_l117, wd_l118, wd_l119, wd_l120, wd_l121, wd_l122, wd_l123, wd_l124]); omega)))); (intro v9 hv9; (try simp (disch := omega) only [ab_tI, ab_c0, wd_ix12, wd_ix8, wd_ix10, wd_up_self, wd_up_eq, wd_up_ne, Int.toNat_natCast, Int.toNat_of_nonneg, not_true_eq_false, not_false_eq_true, Option.some.injEq, hpb, hl1] at hv9); subst hv9))
    | (apply w_putM; (focus (exact rfl)); (focus (first | exact trivial | exact Or.inl rfl | exact Or.inr rfl)); (focus (exact rfl)))
    | (apply w_iasM; (focus (exact rfl)); (focus (exact (by first | exact ⟨by decide, by decide⟩ | ((try simp (disch := omega) only [ab_tI, ab_c0, wd_ix12, wd_ix8, wd_ix10, wd_up_self, wd_up_eq, wd_up_ne, Int.toNat_natCast, Int.toNat_of_nonneg, not_true_eq_false, not_false_eq_true, Option.some.injEq, hpb, hl1, wd_l103, wd_l104, wd_l105, wd_l106, wd_l107, wd_l108, wd_l109, wd_l110, wd_l111, wd_l112, wd_l113, wd_l114, wd_l115, wd_l116, wd_l117, wd_l118, wd_l119, wd_l120, wd_l121, wd_l122, wd_l123, wd_l124]); omega)))); (intro v9 hv9; (try simp (disch := omega) only [ab_tI, ab_c0, wd_ix12, wd_ix8, wd_ix10, wd_up_self, wd_up_eq, wd_up_ne, Int.toNat_natCast, Int.toNat_of_nonneg, not_true_eq_false, not_false_eq_true, Option.some.injEq, hpb, hl1] at hv9); subst hv9))
    | (refine i_brF (by decide) ?_)
    | (refine i_brT (by decide) ?_)
    | (refine ⟨fun hc => ?_, fun hc => ?_⟩ <;> (try simp (disch := omega) only [ab_tI, ab_c0, wd_ix12, wd_ix8, wd_ix10, wd_up_self, wd_up_eq, wd_up_ne, Int.toNat_natCast, Int.toNat_of_nonneg, not_true_eq_false, not_false_eq_true, Option.some.injEq, hpb, hl1] at hc) <;> first | (exfalso; omega) | skip)
    | (apply i_cv; (focus (exact rfl)))
    | (apply i_len; (focus (exact rfl)))
    | (apply w_putI; (focus (exact rfl)); (focus (exact rfl)); (focus (exact rfl)); (focus (first | exact trivial | exact Or.inl rfl | exact Or.inr rfl)); (focus (exact rfl)))
    | (apply w_putP; (focus (exact rfl)); (focus (exact rfl)); (focus (exact rfl)); (focus (exact trivial)); (focus (exact rfl)))
    | (apply i_ialN; (focus (exact rfl)); (focus (first | exact Or.inl rfl | exact Or.inr rfl)); (focus (exact (by first | exact ⟨by decide, by decide⟩ | ((try simp (disch := omega) only [ab_tI, ab_c0, wd_ix12, wd_ix8, wd_ix10, wd_up_self, wd_up_eq, wd_up_ne, Int.toNat_natCast, Int.toNat_of_nonneg, not_true_eq_false, not_false_eq_true, Option.some.injEq, hpb, hl1, wd_l103, wd_l104, wd_l105, wd_l106, wd_l107, wd_l108, wd_l109, wd_l110, wd_l111, wd_l112, wd_l113, wd_l114, wd_l115, wd_l116, wd_l117, wd_l118, wd_l119, wd_l120, wd_l121, wd_l122, wd_l123, wd_l124]); omega)))); (intro v9 hv9; (try simp (disch := omega) only [ab_tI, ab_c0, wd_ix12, wd_ix8, wd_ix10, wd_up_self, wd_up_eq, wd_up_ne, Int.toNat_natCast, Int.toNat_of_nonneg, not_true_eq_false, not_false_eq_true, Option.some.injEq, hpb, hl1] at hv9); subst hv9))
    | (apply i_aalN; (focus (exact rfl)); (focus (exact (by first | exact ⟨by decide, by decide⟩ | ((try simp (disch := omega) only [ab_tI, ab_c0, wd_ix12, wd_ix8, wd_ix10, wd_up_self, wd_up_eq, wd_up_ne, Int.toNat_natCast, Int.toNat_of_nonneg, not_true_eq_false, not_false_eq_true, Option.some.injEq, hpb, hl1, wd_l103, wd_l104, wd_l105, wd_l106, wd_l107, wd_l108, wd_l109, wd_l110, wd_l111, wd_l112, wd_l113, wd_l114, wd_l115, wd_l116, wd_l117, wd_l118, wd_l119, wd_l120, wd_l121, wd_l122, wd_l123, wd_l124]); omega)))); (intro v9 hv9; (try simp (disch := omega) only [ab_tI, ab_c0, wd_ix12, wd_ix8, wd_ix10, wd_up_self, wd_up_eq, wd_up_ne, Int.toNat_natCast, Int.toNat_of_nonneg, not_true_eq_false, not_false_eq_true, Option.some.injEq, hpb, hl1] at hv9); subst hv9))
    | (apply w_iasI; (focus (exact rfl)); (focus (exact rfl)); (focus (exact (by first | exact ⟨by decide, by decide⟩ | ((try simp (disch := omega) only [ab_tI, ab_c0, wd_ix12, wd_ix8, wd_ix10, wd_up_self, wd_up_eq, wd_up_ne, Int.toNat_natCast, Int.toNat_of_nonneg, not_true_eq_false, not_false_eq_true, Option.some.injEq, hpb, hl1, wd_l103, wd_l104, wd_l105, wd_l106, wd_l107, wd_l108, wd_l109, wd_l110, wd_l111, wd_l112, wd_l113, wd_l114, wd_l115, wd_l116, wd_l117, wd_l118, wd_l119, wd_l120, wd_l121, wd_l122, wd_l123, wd_l124]); omega)))); (focus (intro _; exact rfl)); (intro v9 hv9; (try simp (disch := omega) only [ab_tI, ab_c0, wd_ix12, wd_ix8, wd_ix10, wd_up_self, wd_up_eq, wd_up_ne, Int.toNat_natCast, Int.toNat_of_nonneg, not_true_eq_false, not_false_eq_true, Option.some.injEq, hpb, hl1] at hv9); subst hv9))
    | (apply w_balM; (focus (exact (by first | exact ⟨by decide, by decide⟩ | ((try simp (disch := omega) only [ab_tI, ab_c0, wd_ix12, wd_ix8, wd_ix10, wd_up_self, wd_up_eq, wd_up_ne, Int.toNat_natCast, Int.toNat_of_nonneg, not_true_eq_false, not_false_eq_true, Option.some.injEq, hpb, hl1, wd_l103, wd_l104, wd_l105, wd_l106, wd_l107, wd_l108, wd_l109, wd_l110, wd_l111, wd_l112, wd_l113, wd_l114, wd_l115, wd_l116, wd_l117, wd_l118, wd_l119, wd_l120, wd_l121, wd_l122, wd_l123, wd_l124]); omega)))); (intro v9 hv9; (try simp (disch := omega) only [ab_tI, ab_c0, wd_ix12, wd_ix8, wd_ix10, wd_up_self, wd_up_eq, wd_up_ne, Int.toNat_natCast, Int.toNat_of_nonneg, not_true_eq_false, not_false_eq_true, Option.some.injEq, hpb, hl1] at hv9); subst hv9))
    | (apply w_basM; (focus (exact (by first | exact ⟨by decide, by decide⟩ | ((try simp (disch := omega) only [ab_tI, ab_c0, wd_ix12, wd_ix8, wd_ix10, wd_up_self, wd_up_eq, wd_up_ne, Int.toNat_natCast, Int.toNat_of_nonneg, not_true_eq_false, not_false_eq_true, Option.some.injEq, hpb, hl1, wd_l103, wd_l104, wd_l105, wd_l106, wd_l107, wd_l108, wd_l109, wd_l110, wd_l111, wd_l112, wd_l113, wd_l114, wd_l115, wd_l116, wd_l117, wd_l118, wd_l119, wd_l120, wd_l121, wd_l122, wd_l123, wd_l124]); omega)))); (focus (first | exact Or.inl rfl | exact Or.inr rfl)); (intro v9 hv9; (try simp (disch := omega) only [ab_tI, ab_c0, wd_ix12, wd_ix8, wd_ix10, wd_up_self, wd_up_eq, wd_up_ne, Int.toNat_natCast, Int.toNat_of_nonneg, not_true_eq_false, not_false_eq_true, Option.some.injEq, hpb, hl1] at hv9); subst hv9))
    | (refine And.intro trivial ?_)
    | (refine And.intro (Or.inl rfl) ?_)
    | (refine And.intro (Or.inr rfl) ?_)
    | (refine And.intro (by ((try simp (disch := omega) only [ab_tI, ab_c0, wd_ix12, wd_ix8, wd_ix10, wd_up_self, wd_up_eq, wd_up_ne, Int.toNat_natCast, Int.toNat_of_nonneg, not_true_eq_false, not_false_eq_true, Option.some.injEq, hpb, hl1]); omega)) ?_)
    | fail)
        all_goals first | exact hQ | (exfalso; omega)
    | false =>
      rw [c2, if_neg (by decide)] at hQ
      by_cases c3 : c_cmp g2 41 x1 x2 = 0
      · rw [if_pos c3] at hQ
        refine wd_rnC rfl ?_
        intro C9 X9 hC9 hX9
        (have chk9 := @hpb; clear chk9); (have chk9 := @hl1; clear chk9); repeat' ((conv => whnf); first
    | (apply i_getN; (focus (first | exact hpc)); (focus (exact rfl)); (intro v9 hv9; (try simp (disch := omega) only [ab_tI, ab_c0, wd_ix12, wd_ix8, wd_ix10, wd_up_self, wd_up_eq, wd_up_ne, Int.toNat_natCast, Int.toNat_of_nonneg, not_true_eq_false, not_false_eq_true, Option.some.injEq, hpb, hl1] at hv9); subst hv9))
    | (apply i_cv; (focus (first | exact hpc)))
    | (apply i_len; (focus (first | exact congrArg ab_len (hpc))))
    | (apply i_ialN; (focus (first | exact hpc)); (focus (first | exact Or.inl rfl | exact Or.inr rfl)); (focus (exact (by first | exact ⟨by decide, by decide⟩ | ((try simp (disch := omega) only [ab_tI, ab_c0, wd_ix12, wd_ix8, wd_ix10, wd_up_self, wd_up_eq, wd_up_ne, Int.toNat_natCast, Int.toNat_of_nonneg, not_true_eq_false, not_false_eq_true, Option.some.injEq, hpb, hl1, wd_l103, wd_l104, wd_l105, wd_l106, wd_l107, wd_l108, wd_l109, wd_l110, wd_l111, wd_l112, wd_l113, wd_l114, wd_l115, wd_l116, wd_l117, wd_l118, wd_l119, wd_l120, wd_l121, wd_l122, wd_l123, wd_l124]); omega)))); (intro v9 hv9; (try simp (disch := omega) only [ab_tI, ab_c0, wd_ix12, wd_ix8, wd_ix10, wd_up_self, wd_up_eq, wd_up_ne, Int.toNat_natCast, Int.toNat_of_nonneg, not_true_eq_false, not_false_eq_true, Option.some.injEq, hpb, hl1] at hv9); subst hv9))
    | (apply i_aalN; (focus (first | exact hpc)); (focus (exact (by first | exact ⟨by decide, by decide⟩ | ((try simp (disch := omega) only [ab_tI, ab_c0, wd_ix12, wd_ix8, wd_ix10, wd_up_self, wd_up_eq, wd_up_ne, Int.toNat_natCast, Int.toNat_of_nonneg, not_true_eq_false, not_false_eq_true, Option.some.injEq, hpb, hl1, wd_l103, wd_l104, wd_l105, wd_l106, wd_l107, wd_l108, wd_l109, wd_l110, wd_l111, wd_l112, wd_l113, wd_l114, wd_l115, wd_l116, wd_l117, wd_l118, wd_l119, wd_l120, wd_l121, wd_l122, wd_l123, wd_l124]); omega)))); (intro v9 hv9; (try simp (disch := omega) only [ab_tI, ab_c0, wd_ix12, wd_ix8, wd_ix10, wd_up_self, wd_up_eq, wd_up_ne, Int.toNat_natCast, Int.toNat_of_nonneg, not_true_eq_false, not_false_eq_true, Option.some.injEq, hpb, hl1] at hv9); subst hv9))
    | (refine hC9 21 _ _ _ (hfi _ ?_))
    | (refine hC9 24 _ _ _ (y_fsz (by omega) ?_))
    | (refine hC9 35 _ _ _ (hal _ (fun q => by rw [c2] at q; cases q) (fun _ => ?_)))
    | (refine hC9 93 _ _ _ (hlk _ (fun _ => ?_) (fun q => absurd c3 q)))
    | (intro v9 hv9; (try simp (disch := omega) only [ab_tI, ab_c0, wd_ix12, wd_ix8, wd_ix10, wd_up_self, wd_up_eq, wd_up_ne, Int.toNat_natCast, Int.toNat_of_nonneg, not_true_eq_false, not_false_eq_true, Option.some.injEq, hpb, hl1] at hv9); subst hv9)
    | (apply i_get; (focus (exact rfl)); (focus (exact rfl)))
    | (refine hX9 _ _ _ _ (wd_rnC rfl ?_); clear hC9 hX9 X9 C9; intro C9 X9 hC9 hX9)
    | (apply w_ialM; (focus (exact rfl)); (focus (exact (by first | exact ⟨by decide, by decide⟩ | ((try simp (disch := omega) only [ab_tI, ab_c0, wd_ix12, wd_ix8, wd_ix10, wd_up_self, wd_up_eq, wd_up_ne, Int.toNat_natCast, Int.toNat_of_nonneg, not_true_eq_false, not_false_eq_true, Option.some.injEq, hpb, hl1, wd_l103, wd_l104, wd_l105, wd_l106, wd_l107, wd_l108, wd_l109, wd_l110, wd_l111, wd_l112, wd_l113, wd_l114, wd_l115, wd_l116, wd_l117, wd_l118, wd_l119, wd_l120, wd_l121, wd_l122, wd_l123, wd_l124]); omega)))); (intro v9 hv9; (try simp (disch := omega) only [ab_tI, ab_c0, wd_ix12, wd_ix8, wd_ix10, wd_up_self, wd_up_eq, wd_up_ne, Int.toNat_natCast, Int.toNat_of_nonneg, not_true_eq_false, not_false_eq_true, Option.some.injEq, hpb, hl1] at hv9); subst hv9))
    | (apply w_putM; (focus (exact rfl)); (focus (first | exact trivial | exact Or.inl rfl | exact Or.inr rfl)); (focus (exact rfl)))
    | (apply w_iasM; (focus (exact rfl)); (focus (exact (by first | exact ⟨by decide, by decide⟩ | ((try simp (disch := omega) only [ab_tI, ab_c0, wd_ix12, wd_ix8, wd_ix10, wd_up_self, wd_up_eq, wd_up_ne, Int.toNat_natCast, Int.toNat_of_nonneg, not_true_eq_false, not_false_eq_true, Option.some.injEq, hpb, hl1, wd_l103, wd_l104, wd_l105, wd_l106, wd_l107, wd_l108, wd_l109, wd_l110, wd_l111, wd_l112, wd_l113, wd_l114, wd_l115, wd_l116, wd_l117, wd_l118, wd_l119, wd_l120, wd_l121, wd_l122, wd_l123, wd_l124]); omega)))); (intro v9 hv9; (try simp (disch := omega) only [ab_tI, ab_c0, wd_ix12, wd_ix8, wd_ix10, wd_up_self, wd_up_eq, wd_up_ne, Int.toNat_natCast, Int.toNat_of_nonneg, not_true_eq_false, not_false_eq_true, Option.some.injEq, hpb, hl1] at hv9); subst hv9))
    | (refine i_brF (by decide) ?_)
    | (refine i_brT (by decide) ?_)
    | (refine ⟨fun hc => ?_, fun hc => ?_⟩ <;> (try simp (disch := omega) only [ab_tI, ab_c0, wd_ix12, wd_ix8, wd_ix10, wd_up_self, wd_up_eq, wd_up_ne, Int.toNat_natCast, Int.toNat_of_nonneg, not_true_eq_false, not_false_eq_true, Option.some.injEq, hpb, hl1] at hc) <;> first | (exfalso; omega) | skip)
    | (apply i_cv; (focus (exact rfl)))
    | (apply i_len; (focus (exact rfl)))
    | (apply w_putI; (focus (exact rfl)); (focus (exact rfl)); (focus (exact rfl)); (focus (first | exact trivial | exact Or.inl rfl | exact Or.inr rfl)); (focus (exact rfl)))
    | (apply w_putP; (focus (exact rfl)); (focus (exact rfl)); (focus (exact rfl)); (focus (exact trivial)); (focus (exact rfl)))
    | (apply i_ialN; (focus (exact rfl)); (focus (first | exact Or.inl rfl | exact Or.inr rfl)); (focus (exact (by first | exact ⟨by decide, by decide⟩ | ((try simp (disch := omega) only [ab_tI, ab_c0, wd_ix12, wd_ix8, wd_ix10, wd_up_self, wd_up_eq, wd_up_ne, Int.toNat_natCast, Int.toNat_of_nonneg, not_true_eq_false, not_false_eq_true, Option.some.injEq, hpb, hl1, wd_l103, wd_l104, wd_l105, wd_l106, wd_l107, wd_l108, wd_l109, wd_l110, wd_l111, wd_l112, wd_l113, wd_l114, wd_l115, wd_l116, wd_l117, wd_l118, wd_l119, wd_l120, wd_l121, wd_l122, wd_l123, wd_l124]); omega)))); (intro v9 hv9; (try simp (disch := omega) only [ab_tI, ab_c0, wd_ix12, wd_ix8, wd_ix10, wd_up_self, wd_up_eq, wd_up_ne, Int.toNat_natCast, Int.toNat_of_nonneg, not_true_eq_false, not_false_eq_true, Option.some.injEq, hpb, hl1] at hv9); subst hv9))
    | (apply i_aalN; (focus (exact rfl)); (focus (exact (by first | exact ⟨by decide, by decide⟩ | ((try simp (disch := omega) only [ab_tI, ab_c0, wd_ix12, wd_ix8, wd_ix10, wd_up_self, wd_up_eq, wd_up_ne, Int.toNat_natCast, Int.toNat_of_nonneg, not_true_eq_false, not_false_eq_true, Option.some.injEq, hpb, hl1, wd_l103, wd_l104, wd_l105, wd_l106, wd_l107, wd_l108, wd_l109, wd_l110, wd_l111, wd_l112, wd_l113, wd_l114, wd_l115, wd_l116, wd_l117, wd_l118, wd_l119, wd_l120, wd_l121, wd_l122, wd_l123, wd_l124]); omega)))); (intro v9 hv9; (try simp (disch := omega) only [ab_tI, ab_c0, wd_ix12, wd_ix8, wd_ix10, wd_up_self, wd_up_eq, wd_up_ne, Int.toNat_natCast, Int.toNat_of_nonneg, not_true_eq_false, not_false_eq_true, Option.some.injEq, hpb, hl1] at hv9); subst hv9))
    | (apply w_iasI; (focus (exact rfl)); (focus (exact rfl)); (focus (exact (by first | exact ⟨by decide, by decide⟩ | ((try simp (disch := omega) only [ab_tI, ab_c0, wd_ix12, wd_ix8, wd_ix10, wd_up_self, wd_up_eq, wd_up_ne, Int.toNat_natCast, Int.toNat_of_nonneg, not_true_eq_false, not_false_eq_true, Option.some.injEq, hpb, hl1, wd_l103, wd_l104, wd_l105, wd_l106, wd_l107, wd_l108, wd_l109, wd_l110, wd_l111, wd_l112, wd_l113, wd_l114, wd_l115, wd_l116, wd_l117, wd_l118, wd_l119, wd_l120, wd_l121, wd_l122, wd_l123, wd_l124]); omega)))); (focus (intro _; exact rfl)); (intro v9 hv9; (try simp (disch := omega) only [ab_tI, ab_c0, wd_ix12, wd_ix8, wd_ix10, wd_up_self, wd_up_eq, wd_up_ne, Int.toNat_natCast, Int.toNat_of_nonneg, not_true_eq_false, not_false_eq_true, Option.some.injEq, hpb, hl1] at hv9); subst hv9))
    | (apply w_balM; (focus (exact (by first | exact ⟨by decide, by decide⟩ | ((try simp (disch := omega) only [ab_tI, ab_c0, wd_ix12, wd_ix8, wd_ix10, wd_up_self, wd_up_eq, wd_up_ne, Int.toNat_natCast, Int.toNat_of_nonneg, not_true_eq_false, not_false_eq_true, Option.some.injEq, hpb, hl1, wd_l103, wd_l104, wd_l105, wd_l106, wd_l107, wd_l108, wd_l109, wd_l110, wd_l111, wd_l112, wd_l113, wd_l114, wd_l115, wd_l116, wd_l117, wd_l118, wd_l119, wd_l120, wd_l121, wd_l122, wd_l123, wd_l124]); omega)))); (intro v9 hv9; (try simp (disch := omega) only [ab_tI, ab_c0, wd_ix12, wd_ix8, wd_ix10, wd_up_self, wd_up_eq, wd_up_ne, Int.toNat_natCast, Int.toNat_of_nonneg, not_true_eq_false, not_false_eq_true, Option.some.injEq, hpb, hl1] at hv9); subst hv9))
    | (apply w_basM; (focus (exact (by first | exact ⟨by decide, by decide⟩ | ((try simp (disch := omega) only [ab_tI, ab_c0, wd_ix12, wd_ix8, wd_ix10, wd_up_self, wd_up_eq, wd_up_ne, Int.toNat_natCast, Int.toNat_of_nonneg, not_true_eq_false, not_false_eq_true, Option.some.injEq, hpb, hl1, wd_l103, wd_l104, wd_l105, wd_l106, wd_l107, wd_l108, wd_l109, wd_l110, wd_l111, wd_l112, wd_l113, wd_l114, wd_l115, wd_l116, wd_l117, wd_l118, wd_l119, wd_l120, wd_l121, wd_l122, wd_l123, wd_l124]); omega)))); (focus (first | exact Or.inl rfl | exact Or.inr rfl)); (intro v9 hv9; (try simp (disch := omega) only [ab_tI, ab_c0, wd_ix12, wd_ix8, wd_ix10, wd_up_self, wd_up_eq, wd_up_ne, Int.toNat_natCast, Int.toNat_of_nonneg, not_true_eq_false, not_false_eq_true, Option.some.injEq, hpb, hl1] at hv9); subst hv9))
    | (refine And.intro trivial ?_)
    | (refine And.intro (Or.inl rfl) ?_)
    | (refine And.intro (Or.inr rfl) ?_)
    | (refine And.intro (by ((try simp (disch := omega) only [ab_tI, ab_c0, wd_ix12, wd_ix8, wd_ix10, wd_up_self, wd_up_eq, wd_up_ne, Int.toNat_natCast, Int.toNat_of_nonneg, not_true_eq_false, not_false_eq_true, Option.some.injEq, hpb, hl1]); omega)) ?_)
    | fail)
        all_goals first | exact hQ | (exfalso; omega)
      · rw [if_neg c3] at hQ
        refine wd_rnC rfl ?_
        intro C9 X9 hC9 hX9
        (have chk9 := @hpb; clear chk9); (have chk9 := @hl1; clear chk9); repeat' ((conv => whnf); first
    | (apply i_getN; (focus (first | exact hpc)); (focus (exact rfl)); (intro v9 hv9; (try simp (disch := omega) only [ab_tI, ab_c0, wd_ix12, wd_ix8, wd_ix10, wd_up_self, wd_up_eq, wd_up_ne, Int.toNat_natCast, Int.toNat_of_nonneg, not_true_eq_false, not_false_eq_true, Option.some.injEq, hpb, hl1] at hv9); subst hv9))
    | (apply i_cv; (focus (first | exact hpc)))
    | (apply i_len; (focus (first | exact congrArg ab_len (hpc))))
    | (apply i_ialN; (focus (first | exact hpc)); (focus (first | exact Or.inl rfl | exact Or.inr rfl)); (focus (exact (by first | exact ⟨by decide, by decide⟩ | ((try simp (disch := omega) only [ab_tI, ab_c0, wd_ix12, wd_ix8, wd_ix10, wd_up_self, wd_up_eq, wd_up_ne, Int.toNat_natCast, Int.toNat_of_nonneg, not_true_eq_false, not_false_eq_true, Option.some.injEq, hpb, hl1, wd_l103, wd_l104, wd_l105, wd_l106, wd_l107, wd_l108, wd_l109, wd_l110, wd_l111, wd_l112, wd_l113, wd_l114, wd_l115, wd_l116, wd_l117, wd_l118, wd_l119, wd_l120, wd_l121, wd_l122, wd_l123, wd_l124]); omega)))); (intro v9 hv9; (try simp (disch := omega) only [ab_tI, ab_c0, wd_ix12, wd_ix8, wd_ix10, wd_up_self, wd_up_eq, wd_up_ne, Int.toNat_natCast, Int.toNat_of_nonneg, not_true_eq_false, not_false_eq_true, Option.some.injEq, hpb, hl1] at hv9); subst hv9))
    | (apply i_aalN; (focus (first | exact hpc)); (focus (exact (by first | exact ⟨by decide, by decide⟩ | ((try simp (disch := omega) only [ab_tI, ab_c0, wd_ix12, wd_ix8, wd_ix10, wd_up_self, wd_up_eq, wd_up_ne, Int.toNat_natCast, Int.toNat_of_nonneg, not_true_eq_false, not_false_eq_true, Option.some.injEq, hpb, hl1, wd_l103, wd_l104, wd_l105, wd_l106, wd_l107, wd_l108, wd_l109, wd_l110, wd_l111, wd_l112, wd_l113, wd_l114, wd_l115, wd_l116, wd_l117, wd_l118, wd_l119, wd_l120, wd_l121, wd_l122, wd_l123, wd_l124]); omega)))); (intro v9 hv9; (try simp (disch := omega) only [ab_tI, ab_c0, wd_ix12, wd_ix8, wd_ix10, wd_up_self, wd_up_eq, wd_up_ne, Int.toNat_natCast, Int.toNat_of_nonneg, not_true_eq_false, not_false_eq_true, Option.some.injEq, hpb, hl1] at hv9); subst hv9))
    | (refine hC9 21 _ _ _ (hfi _ ?_))
    | (refine hC9 24 _ _ _ (y_fsz (by omega) ?_))
    | (refine hC9 35 _ _ _ (hal _ (fun q => by rw [c2] at q; cases q) (fun _ => ?_)))
    | (refine hC9 93 _ _ _ (hlk _ (fun q => absurd q c3) (fun _ => ?_)))
    | (intro v9 hv9; (try simp (disch := omega) only [ab_tI, ab_c0, wd_ix12, wd_ix8, wd_ix10, wd_up_self, wd_up_eq, wd_up_ne, Int.toNat_natCast, Int.toNat_of_nonneg, not_true_eq_false, not_false_eq_true, Option.some.injEq, hpb, hl1] at hv9); subst hv9)
    | (apply i_get; (focus (exact rfl)); (focus (exact rfl)))
    | (refine hX9 _ _ _ _ (wd_rnC rfl ?_); clear hC9 hX9 X9 C9; intro C9 X9 hC9 hX9)
    | (apply w_ialM; (focus (exact rfl)); (focus (exact (by first | exact ⟨by decide, by decide⟩ | ((try simp (disch := omega) only [ab_tI, ab_c0, wd_ix12, wd_ix8, wd_ix10, wd_up_self, wd_up_eq, wd_up_ne, Int.toNat_natCast, Int.toNat_of_nonneg, not_true_eq_false, not_false_eq_true, Option.some.injEq, hpb, hl1, wd_l103, wd_l104, wd_l105, wd_l106, wd_l107, wd_l108, wd_l109, wd_l110, wd_l111, wd_l112, wd_l113, wd_l114, wd_l115, wd_l116, wd_l117, wd_l118, wd_l119, wd_l120, wd_l121, wd_l122, wd_l123, wd_l124]); omega)))); (intro v9 hv9; (try simp (disch := omega) only [ab_tI, ab_c0, wd_ix12, wd_ix8, wd_ix10, wd_up_self, wd_up_eq, wd_up_ne, Int.toNat_natCast, Int.toNat_of_nonneg, not_true_eq_false, not_false_eq_true, Option.some.injEq, hpb, hl1] at hv9); subst hv9))
    | (apply w_putM; (focus (exact rfl)); (focus (first | exact trivial | exact Or.inl rfl | exact Or.inr rfl)); (focus (exact rfl)))
    | (apply w_iasM; (focus (exact rfl)); (focus (exact (by first | exact ⟨by decide, by decide⟩ | ((try simp (disch := omega) only [ab_tI, ab_c0, wd_ix12, wd_ix8, wd_ix10, wd_up_self, wd_up_eq, wd_up_ne, Int.toNat_natCast, Int.toNat_of_nonneg, not_true_eq_false, not_false_eq_true, Option.some.injEq, hpb, hl1, wd_l103, wd_l104, wd_l105, wd_l106, wd_l107, wd_l108, wd_l109, wd_l110, wd_l111, wd_l112, wd_l113, wd_l114, wd_l115, wd_l116, wd_l117, wd_l118, wd_l119, wd_l120, wd_l121, wd_l122, wd_l123, wd_l124]); omega)))); (intro v9 hv9; (try simp (disch := omega) only [ab_tI, ab_c0, wd_ix12, wd_ix8, wd_ix10, wd_up_self, wd_up_eq, wd_up_ne, Int.toNat_natCast, Int.toNat_of_nonneg, not_true_eq_false, not_false_eq_true, Option.some.injEq, hpb, hl1] at hv9); subst hv9))
    | (refine i_brF (by decide) ?_)
    | (refine i_brT (by decide) ?_)
    | (refine ⟨fun hc => ?_, fun hc => ?_⟩ <;> (try simp (disch := omega) only [ab_tI, ab_c0, wd_ix12, wd_ix8, wd_ix10, wd_up_self, wd_up_eq, wd_up_ne, Int.toNat_natCast, Int.toNat_of_nonneg, not_true_eq_false, not_false_eq_true, Option.some.injEq, hpb, hl1] at hc) <;> first | (exfalso; omega) | skip)
    | (apply i_cv; (focus (exact rfl)))
    | (apply i_len; (focus (exact rfl)))
    | (apply w_putI; (focus (exact rfl)); (focus (exact rfl)); (focus (exact rfl)); (focus (first | exact trivial | exact Or.inl rfl | exact Or.inr rfl)); (focus (exact rfl)))
    | (apply w_putP; (focus (exact rfl)); (focus (exact rfl)); (focus (exact rfl)); (focus (exact trivial)); (focus (exact rfl)))
    | (apply i_ialN; (focus (exact rfl)); (focus (first | exact Or.inl rfl | exact Or.inr rfl)); (focus (exact (by first | exact ⟨by decide, by decide⟩ | ((try simp (disch := omega) only [ab_tI, ab_c0, wd_ix12, wd_ix8, wd_ix10, wd_up_self, wd_up_eq, wd_up_ne, Int.toNat_natCast, Int.toNat_of_nonneg, not_true_eq_false, not_false_eq_true, Option.some.injEq, hpb, hl1, wd_l103, wd_l104, wd_l105, wd_l106, wd_l107, wd_l108, wd_l109, wd_l110, wd_l111, wd_l112, wd_l113, wd_l114, wd_l115, wd_l116, wd_l117, wd_l118, wd_l119, wd_l120, wd_l121, wd_l122, wd_l123, wd_l124]); omega)))); (intro v9 hv9; (try simp (disch := omega) only [ab_tI, ab_c0, wd_ix12, wd_ix8, wd_ix10, wd_up_self, wd_up_eq, wd_up_ne, Int.toNat_natCast, Int.toNat_of_nonneg, not_true_eq_false, not_false_eq_true, Option.some.injEq, hpb, hl1] at hv9); subst hv9))
    | (apply i_aalN; (focus (exact rfl)); (focus (exact (by first | exact ⟨by decide, by decide⟩ | ((try simp (disch := omega) only [ab_tI, ab_c0, wd_ix12, wd_ix8, wd_ix10, wd_up_self, wd_up_eq, wd_up_ne, Int.toNat_natCast, Int.toNat_of_nonneg, not_true_eq_false, not_false_eq_true, Option.some.injEq, hpb, hl1, wd_l103, wd_l104, wd_l105, wd_l106, wd_l107, wd_l108, wd_l109, wd_l110, wd_l111, wd_l112, wd_l113, wd_l114, wd_l115, wd_l116, wd_l117, wd_l118, wd_l119, wd_l120, wd_l121, wd_l122, wd_l123, wd_l124]); omega)))); (intro v9 hv9; (try simp (disch := omega) only [ab_tI, ab_c0, wd_ix12, wd_ix8, wd_ix10, wd_up_self, wd_up_eq, wd_up_ne, Int.toNat_natCast, Int.toNat_of_nonneg, not_true_eq_false, not_false_eq_true, Option.some.injEq, hpb, hl1] at hv9); subst hv9))
    | (apply w_iasI; (focus (exact rfl)); (focus (exact rfl)); (focus (exact (by first | exact ⟨by decide, by decide⟩ | ((try simp (disch := omega) only [ab_tI, ab_c0, wd_ix12, wd_ix8, wd_ix10, wd_up_self, wd_up_eq, wd_up_ne, Int.toNat_natCast, Int.toNat_of_nonneg, not_true_eq_false, not_false_eq_true, Option.some.injEq, hpb, hl1, wd_l103, wd_l104, wd_l105, wd_l106, wd_l107, wd_l108, wd_l109, wd_l110, wd_l111, wd_l112, wd_l113, wd_l114, wd_l115, wd_l116, wd_l117, wd_l118, wd_l119, wd_l120, wd_l121, wd_l122, wd_l123, wd_l124]); omega)))); (focus (intro _; exact rfl)); (intro v9 hv9; (try simp (disch := omega) only [ab_tI, ab_c0, wd_ix12, wd_ix8, wd_ix10, wd_up_self, wd_up_eq, wd_up_ne, Int.toNat_natCast, Int.toNat_of_nonneg, not_true_eq_false, not_false_eq_true, Option.some.injEq, hpb, hl1] at hv9); subst hv9))
    | (apply w_balM; (focus (exact (by first | exact ⟨by decide, by decide⟩ | ((try simp (disch := omega) only [ab_tI, ab_c0, wd_ix12, wd_ix8, wd_ix10, wd_up_self, wd_up_eq, wd_up_ne, Int.toNat_natCast, Int.toNat_of_nonneg, not_true_eq_false, not_false_eq_true, Option.some.injEq, hpb, hl1, wd_l103, wd_l104, wd_l105, wd_l106, wd_l107, wd_l108, wd_l109, wd_l110, wd_l111, wd_l112, wd_l113, wd_l114, wd_l115, wd_l116, wd_l117, wd_l118, wd_l119, wd_l120, wd_l121, wd_l122, wd_l123, wd_l124]); omega)))); (intro v9 hv9; (try simp (disch := omega) only [ab_tI, ab_c0, wd_ix12, wd_ix8, wd_ix10, wd_up_self, wd_up_eq, wd_up_ne, Int.toNat_natCast, Int.toNat_of_nonneg, not_true_eq_false, not_false_eq_true, Option.some.injEq, hpb, hl1] at hv9); subst hv9))
    | (apply w_basM; (focus (exact (by first | exact ⟨by decide, by decide⟩ | ((try simp (disch := omega) only [ab_tI, ab_c0, wd_ix12, wd_ix8, wd_ix10, wd_up_self, wd_up_eq, wd_up_ne, Int.toNat_natCast, Int.toNat_of_nonneg, not_true_eq_false, not_false_eq_true, Option.some.injEq, hpb, hl1, wd_l103, wd_l104, wd_l105, wd_l106, wd_l107, wd_l108, wd_l109, wd_l110, wd_l111, wd_l112, wd_l113, wd_l114, wd_l115, wd_l116, wd_l117, wd_l118, wd_l119, wd_l120, wd_l121, wd_l122, wd_l123, wd_l124]); omega)))); (focus (first | exact Or.inl rfl | exact Or.inr rfl)); (intro v9 hv9; (try simp (disch := omega) only [ab_tI, ab_c0, wd_ix12, wd_ix8, wd_ix10, wd_up_self, wd_up_eq, wd_up_ne, Int.toNat_natCast, Int.toNat_of_nonneg, not_true_eq_false, not_false_eq_true, Option.some.injEq, hpb, hl1] at hv9); subst hv9))
    | (refine And.intro trivial ?_)
    | (refine And.intro (Or.inl rfl) ?_)
    | (refine And.intro (Or.inr rfl) ?_)
    | (refine And.intro (by ((try simp (disch := omega) only [ab_tI, ab_c0, wd_ix12, wd_ix8, wd_ix10, wd_up_self, wd_up_eq, wd_up_ne, Int.toNat_natCast, Int.toNat_of_nonneg, not_true_eq_false, not_false_eq_true, Option.some.injEq, hpb, hl1]); omega)) ?_)
    | fail)
        all_goals first | exact hQ | (exfalso; omega)
  · rw [if_neg c1] at hQ
    cases c2 : c_all g2 l gv l.length 0 with
    | true =>
      rw [c2, if_pos rfl] at hQ
      by_cases c3 : c_cmp g2 41 x1 x2 = 0
      · rw [if_pos c3] at hQ
        refine wd_rnC rfl ?_
        intro C9 X9 hC9 hX9
        (have chk9 := @hpb; clear chk9); (have chk9 := @hl1; clear chk9); repeat' ((conv => whnf); first
    | (apply i_getN; (focus (first | exact hpc)); (focus (exact rfl)); (intro v9 hv9; (try simp (disch := omega) only [ab_tI, ab_c0, wd_ix12, wd_ix8, wd_ix10, wd_up_self, wd_up_eq, wd_up_ne, Int.toNat_natCast, Int.toNat_of_nonneg, not_true_eq_false, not_false_eq_true, Option.some.injEq, hpb, hl1] at hv9); subst hv9))
    | (apply i_cv; (focus (first | exact hpc)))
    | (apply i_len; (focus (first | exact congrArg ab_len (hpc))))
    | (apply i_ialN; (focus (first | exact hpc)); (focus (first | exact Or.inl rfl | exact Or.inr rfl)); (focus (exact (by first | exact ⟨by decide, by decide⟩ | ((try simp (disch := omega) only [ab_tI, ab_c0, wd_ix12, wd_ix8, wd_ix10, wd_up_self, wd_up_eq, wd_up_ne, Int.toNat_natCast, Int.toNat_of_nonneg, not_true_eq_false, not_false_eq_true, Option.some.injEq, hpb, hl1, wd_l103, wd_l104, wd_l105, wd_l106, wd_l107, wd_l108, wd_l109, wd_l110, wd_l111, wd_l112, wd_l113, wd_l114, wd_l115, wd_l116, wd_l117, wd_l118, wd_l119, wd_l120, wd_l121, wd_l122, wd_l123, wd_l124]); omega)))); (intro v9 hv9; (try simp (disch := omega) only [ab_tI, ab_c0, wd_ix12, wd_ix8, wd_ix10, wd_up_self, wd_up_eq, wd_up_ne, Int.toNat_natCast, Int.toNat_of_nonneg, not_true_eq_false, not_false_eq_true, Option.some.injEq, hpb, hl1] at hv9); subst hv9))
    | (apply i_aalN; (focus (first | exact hpc)); (focus (exact (by first | exact ⟨by decide, by decide⟩ | ((try simp (disch := omega) only [ab_tI, ab_c0, wd_ix12, wd_ix8, wd_ix10, wd_up_self, wd_up_eq, wd_up_ne, Int.toNat_natCast, Int.toNat_of_nonneg, not_true_eq_false, not_false_eq_true, Option.some.injEq, hpb, hl1, wd_l103, wd_l104, wd_l105, wd_l106, wd_l107, wd_l108, wd_l109, wd_l110, wd_l111, wd_l112, wd_l113, wd_l114, wd_l115, wd_l116, wd_l117, wd_l118, wd_l119, wd_l120, wd_l121, wd_l122, wd_l123, wd_l124]); omega)))); (intro v9 hv9; (try simp (disch := omega) only [ab_tI, ab_c0, wd_ix12, wd_ix8, wd_ix10, wd_up_self, wd_up_eq, wd_up_ne, Int.toNat_natCast, Int.toNat_of_nonneg, not_true_eq_false, not_false_eq_true, Option.some.injEq, hpb, hl1] at hv9); subst hv9))
    | (refine hC9 21 _ _ _ (hfi _ ?_))
    | (refine hC9 24 _ _ _ (y_fsz (by omega) ?_))
    | (refine hC9 35 _ _ _ (hal _ (fun _ => ?_) (fun q => by rw [c2] at q; cases q)))
    | (refine hC9 93 _ _ _ (hlk _ (fun _ => ?_) (fun q => absurd c3 q)))
    | (intro v9 hv9; (try simp (disch := omega) only [ab_tI, ab_c0, wd_ix12, wd_ix8, wd_ix10, wd_up_self, wd_up_eq, wd_up_ne, Int.toNat_natCast, Int.toNat_of_nonneg, not_true_eq_false, not_false_eq_true, Option.some.injEq, hpb, hl1] at hv9); subst hv9)
    | (apply i_get; (focus (exact rfl)); (focus (exact rfl)))
    | (refine hX9 _ _ _ _ (wd_rnC rfl ?_); clear hC9 hX9 X9 C9; intro C9 X9 hC9 hX9)
    | (apply w_ialM; (focus (exact rfl)); (focus (exact (by first | exact ⟨by decide, by decide⟩ | ((try simp (disch := omega) only [ab_tI, ab_c0, wd_ix12, wd_ix8, wd_ix10, wd_up_self, wd_up_eq, wd_up_ne, Int.toNat_natCast, Int.toNat_of_nonneg, not_true_eq_false, not_false_eq_true, Option.some.injEq, hpb, hl1, wd_l103, wd_l104, wd_l105, wd_l106, wd_l107, wd_l108, wd_l109, wd_l110, wd_l111, wd_l112, wd_l113, wd_l114, wd_l115, wd_l116, wd_l117, wd_l118, wd_l119, wd_l120, wd_l121, wd_l122, wd_l123, wd_l124]); omega)))); (intro v9 hv9; (try simp (disch := omega) only [ab_tI, ab_c0, wd_ix12, wd_ix8, wd_ix10, wd_up_self, wd_up_eq, wd_up_ne, Int.toNat_natCast, Int.toNat_of_nonneg, not_true_eq_false, not_false_eq_true, Option.some.injEq, hpb, hl1] at hv9); subst hv9))
    | (apply w_putM; (focus (exact rfl)); (focus (first | exact trivial | exact Or.inl rfl | exact Or.inr rfl)); (focus (exact rfl)))
    | (apply w_iasM; (focus (exact rfl)); (focus (exact (by first | exact ⟨by decide, by decide⟩ | ((try simp (disch := omega) only [ab_tI, ab_c0, wd_ix12, wd_ix8, wd_ix10, wd_up_self, wd_up_eq, wd_up_ne, Int.toNat_natCast, Int.toNat_of_nonneg, not_true_eq_false, not_false_eq_true, Option.some.injEq, hpb, hl1, wd_l103, wd_l104, wd_l105, wd_l106, wd_l107, wd_l108, wd_l109, wd_l110, wd_l111, wd_l112, wd_l113, wd_l114, wd_l115, wd_l116, wd_l117, wd_l118, wd_l119, wd_l120, wd_l121, wd_l122, wd_l123, wd_l124]); omega)))); (intro v9 hv9; (try simp (disch := omega) only [ab_tI, ab_c0, wd_ix12, wd_ix8, wd_ix10, wd_up_self, wd_up_eq, wd_up_ne, Int.toNat_natCast, Int.toNat_of_nonneg, not_true_eq_false, not_false_eq_true, Option.some.injEq, hpb, hl1] at hv9); subst hv9))
    | (refine i_brF (by decide) ?_)
    | (refine i_brT (by decide) ?_)
    | (refine ⟨fun hc => ?_, fun hc => ?_⟩ <;> (try simp (disch := omega) only [ab_tI, ab_c0, wd_ix12, wd_ix8, wd_ix10, wd_up_self, wd_up_eq, wd_up_ne, Int.toNat_natCast, Int.toNat_of_nonneg, not_true_eq_false, not_false_eq_true, Option.some.injEq, hpb, hl1] at hc) <;> first | (exfalso; omega) | skip)
    | (apply i_cv; (focus (exact rfl)))
    | (apply i_len; (focus (exact rfl)))
    | (apply w_putI; (focus (exact rfl)); (focus (exact rfl)); (focus (exact rfl)); (focus (first | exact trivial | exact Or.inl rfl | exact Or.inr rfl)); (focus (exact rfl)))
    | (apply w_putP; (focus (exact rfl)); (focus (exact rfl)); (focus (exact rfl)); (focus (exact trivial)); (focus (exact rfl)))
    | (apply i_ialN; (focus (exact rfl)); (focus (first | exact Or.inl rfl | exact Or.inr rfl)); (focus (exact (by first | exact ⟨by decide, by decide⟩ | ((try simp (disch := omega) only [ab_tI, ab_c0, wd_ix12, wd_ix8, wd_ix10, wd_up_self, wd_up_eq, wd_up_ne, Int.toNat_natCast, Int.toNat_of_nonneg, not_true_eq_false, not_false_eq_true, Option.some.injEq, hpb, hl1, wd_l103, wd_l104, wd_l105, wd_l106, wd_l107, wd_l108, wd_l109, wd_l110, wd_l111, wd_l112, wd_l113, wd_l114, wd_l115, wd_l116, wd_l117, wd_l118, wd_l119, wd_l120, wd_l121, wd_l122, wd_l123, wd_l124]); omega)))); (intro v9 hv9; (try simp (disch := omega) only [ab_tI, ab_c0, wd_ix12, wd_ix8, wd_ix10, wd_up_self, wd_up_eq, wd_up_ne, Int.toNat_natCast, Int.toNat_of_nonneg, not_true_eq_false, not_false_eq_true, Option.some.injEq, hpb, hl1] at hv9); subst hv9))
    | (apply i_aalN; (focus (exact rfl)); (focus (exact (by first | exact ⟨by decide, by decide⟩ | ((try simp (disch := omega) only [ab_tI, ab_c0, wd_ix12, wd_ix8, wd_ix10, wd_up_self, wd_up_eq, wd_up_ne, Int.toNat_natCast, Int.toNat_of_nonneg, not_true_eq_false, not_false_eq_true, Option.some.injEq, hpb, hl1, wd_l103, wd_l104, wd_l105, wd_l106, wd_l107, wd_l108, wd_l109, wd_l110, wd_l111, wd_l112, wd_l113, wd_l114, wd_l115, wd_l116, wd_l117, wd_l118, wd_l119, wd_l120, wd_l121, wd_l122, wd_l123, wd_l124]); omega)))); (intro v9 hv9; (try simp (disch := omega) only [ab_tI, ab_c0, wd_ix12, wd_ix8, wd_ix10, wd_up_self, wd_up_eq, wd_up_ne, Int.toNat_natCast, Int.toNat_of_nonneg, not_true_eq_false, not_false_eq_true, Option.some.injEq, hpb, hl1] at hv9); subst hv9))
    | (apply w_iasI; (focus (exact rfl)); (focus (exact rfl)); (focus (exact (by first | exact ⟨by decide, by decide⟩ | ((try simp (disch := omega) only [ab_tI, ab_c0, wd_ix12, wd_ix8, wd_ix10, wd_up_self, wd_up_eq, wd_up_ne, Int.toNat_natCast, Int.toNat_of_nonneg, not_true_eq_false, not_false_eq_true, Option.some.injEq, hpb, hl1, wd_l103, wd_l104, wd_l105, wd_l106, wd_l107, wd_l108, wd_l109, wd_l110, wd_l111, wd_l112, wd_l113, wd_l114, wd_l115, wd_l116, wd_l117, wd_l118, wd_l119, wd_l120, wd_l121, wd_l122, wd_l123, wd_l124]); omega)))); (focus (intro _; exact rfl)); (intro v9 hv9; (try simp (disch := omega) only [ab_tI, ab_c0, wd_ix12, wd_ix8, wd_ix10, wd_up_self, wd_up_eq, wd_up_ne, Int.toNat_natCast, Int.toNat_of_nonneg, not_true_eq_false, not_false_eq_true, Option.some.injEq, hpb, hl1] at hv9); subst hv9))
    | (apply w_balM; (focus (exact (by first | exact ⟨by decide, by decide⟩ | ((try simp (disch := omega) only [ab_tI, ab_c0, wd_ix12, wd_ix8, wd_ix10, wd_up_self, wd_up_eq, wd_up_ne, Int.toNat_natCast, Int.toNat_of_nonneg, not_true_eq_false, not_false_eq_true, Option.some.injEq, hpb, hl1, wd_l103, wd_l104, wd_l105, wd_l106, wd_l107, wd_l108, wd_l109, wd_l110, wd_l111, wd_l112, wd_l113, wd_l114, wd_l115, wd_l116, wd_l117, wd_l118, wd_l119, wd_l120, wd_l121, wd_l122, wd_l123, wd_l124]); omega)))); (intro v9 hv9; (try simp (disch := omega) only [ab_tI, ab_c0, wd_ix12, wd_ix8, wd_ix10, wd_up_self, wd_up_eq, wd_up_ne, Int.toNat_natCast, Int.toNat_of_nonneg, not_true_eq_false, not_false_eq_true, Option.some.injEq, hpb, hl1] at hv9); subst hv9))
    | (apply w_basM; (focus (exact (by first | exact ⟨by decide, by decide⟩ | ((try simp (disch := omega) only [ab_tI, ab_c0, wd_ix12, wd_ix8, wd_ix10, wd_up_self, wd_up_eq, wd_up_ne, Int.toNat_natCast, Int.toNat_of_nonneg, not_true_eq_false, not_false_eq_true, Option.some.injEq, hpb, hl1, wd_l103, wd_l104, wd_l105, wd_l106, wd_l107, wd_l108, wd_l109, wd_l110, wd_l111, wd_l112, wd_l113, wd_l114, wd_l115, wd_l116, wd_l117, wd_l118, wd_l119, wd_l120, wd_l121, wd_l122, wd_l123, wd_l124]); omega)))); (focus (first | exact Or.inl rfl | exact Or.inr rfl)); (intro v9 hv9; (try simp (disch := omega) only [ab_tI, ab_c0, wd_ix12, wd_ix8, wd_ix10, wd_up_self, wd_up_eq, wd_up_ne, Int.toNat_natCast, Int.toNat_of_nonneg, not_true_eq_false, not_false_eq_true, Option.some.injEq, hpb, hl1] at hv9); subst hv9))
    | (refine And.intro trivial ?_)
    | (refine And.intro (Or.inl rfl) ?_)
    | (refine And.intro (Or.inr rfl) ?_)
    | (refine And.intro (by ((try simp (disch := omega) only [ab_tI, ab_c0, wd_ix12, wd_ix8, wd_ix10, wd_up_self, wd_up_eq, wd_up_ne, Int.toNat_natCast, Int.toNat_of_nonneg, not_true_eq_false, not_false_eq_true, Option.some.injEq, hpb, hl1]); omega)) ?_)
    | fail)
        all_goals first | exact hQ | (exfalso; omega)
      · rw [if_neg c3] at hQ
        refine wd_rnC rfl ?_
        intro C9 X9 hC9 hX9
        (have chk9 := @hpb; clear chk9); (have chk9 := @hl1; clear chk9); repeat' ((conv => whnf); first
    | (apply i_getN; (focus (first | exact hpc)); (focus (exact rfl)); (intro v9 hv9; (try simp (disch := omega) only [ab_tI, ab_c0, wd_ix12, wd_ix8, wd_ix10, wd_up_self, wd_up_eq, wd_up_ne, Int.toNat_natCast, Int.toNat_of_nonneg, not_true_eq_false, not_false_eq_true, Option.some.injEq, hpb, hl1] at hv9); subst hv9))
    | (apply i_cv; (focus (first | exact hpc)))
    | (apply i_len; (focus (first | exact congrArg ab_len (hpc))))
    | (apply i_ialN; (focus (first | exact hpc)); (focus (first | exact Or.inl rfl | exact Or.inr rfl)); (focus (exact (by first | exact ⟨by decide, by decide⟩ | ((try simp (disch := omega) only [ab_tI, ab_c0, wd_ix12, wd_ix8, wd_ix10, wd_up_self, wd_up_eq, wd_up_ne, Int.toNat_natCast, Int.toNat_of_nonneg, not_true_eq_false, not_false_eq_true, Option.some.injEq, hpb, hl1, wd_l103, wd_l104, wd_l105, wd_l106, wd_l107, wd_l108, wd_l109, wd_l110, wd_l111, wd_l112, wd_l113, wd_l114, wd_l115, wd_l116, wd_l117, wd_l118, wd_l119, wd_l120, wd_l121, wd_l122, wd_l123, wd_l124]); omega)))); (intro v9 hv9; (try simp (disch := omega) only [ab_tI, ab_c0, wd_ix12, wd_ix8, wd_ix10, wd_up_self, wd_up_eq, wd_up_ne, Int.toNat_natCast, Int.toNat_of_nonneg, not_true_eq_false, not_false_eq_true, Option.some.injEq, hpb, hl1] at hv9); subst hv9))
    | (apply i_aalN; (focus (first | exact hpc)); (focus (exact (by first | exact ⟨by decide, by decide⟩ | ((try simp (disch := omega) only [ab_tI, ab_c0, wd_ix12, wd_ix8, wd_ix10, wd_up_self, wd_up_eq, wd_up_ne, Int.toNat_natCast, Int.toNat_of_nonneg, not_true_eq_false, not_false_eq_true, Option.some.injEq, hpb, hl1, wd_l103, wd_l104, wd_l105, wd_l106, wd_l107, wd_l108, wd_l109, wd_l110, wd_l111, wd_l112, wd_l113, wd_l114, wd_l115, wd_l116, wd_l117, wd_l118, wd_l119, wd_l120, wd_l121, wd_l122, wd_l123, wd_l124]); omega)))); (intro v9 hv9; (try simp (disch := omega) only [ab_tI, ab_c0, wd_ix12, wd_ix8, wd_ix10, wd_up_self, wd_up_eq, wd_up_ne, Int.toNat_natCast, Int.toNat_of_nonneg, not_true_eq_false, not_false_eq_true, Option.some.injEq, hpb, hl1] at hv9); subst hv9))
    | (refine hC9 21 _ _ _ (hfi _ ?_))
    | (refine hC9 24 _ _ _ (y_fsz (by omega) ?_))
    | (refine hC9 35 _ _ _ (hal _ (fun _ => ?_) (fun q => by rw [c2] at q; cases q)))
    | (refine hC9 93 _ _ _ (hlk _ (fun q => absurd q c3) (fun _ => ?_)))
    | (intro v9 hv9; (try simp (disch := omega) only [ab_tI, ab_c0, wd_ix12, wd_ix8, wd_ix10, wd_up_self, wd_up_eq, wd_up_ne, Int.toNat_natCast, Int.toNat_of_nonneg, not_true_eq_false, not_false_eq_true, Option.some.injEq, hpb, hl1] at hv9); subst hv9)
    | (apply i_get; (focus (exact rfl)); (focus (exact rfl)))
    | (refine hX9 _ _ _ _ (wd_rnC rfl ?_); clear hC9 hX9 X9 C9; intro C9 X9 hC9 hX9)
    | (apply w_ialM; (focus (exact rfl)); (focus (exact (by first | exact ⟨by decide, by decide⟩ | ((try simp (disch := omega) only [ab_tI, ab_c0, wd_ix12, wd_ix8, wd_ix10, wd_up_self, wd_up_eq, wd_up_ne, Int.toNat_natCast, Int.toNat_of_nonneg, not_true_eq_false, not_false_eq_true, Option.some.injEq, hpb, hl1, wd_l103, wd_l104, wd_l105, wd_l106, wd_l107, wd_l108, wd_l109, wd_l110, wd_l111, wd_l112, wd_l113, wd_l114, wd_l115, wd_l116, wd_l117, wd_l118, wd_l119, wd_l120, wd_l121, wd_l122, wd_l123, wd_l124]); omega)))); (intro v9 hv9; (try simp (disch := omega) only [ab_tI, ab_c0, wd_ix12, wd_ix8, wd_ix10, wd_up_self, wd_up_eq, wd_up_ne, Int.toNat_natCast, Int.toNat_of_nonneg, not_true_eq_false, not_false_eq_true, Option.some.injEq, hpb, hl1] at hv9); subst hv9))
    | (apply w_putM; (focus (exact rfl)); (focus (first | exact trivial | exact Or.inl rfl | exact Or.inr rfl)); (focus (exact rfl)))
    | (apply w_iasM; (focus (exact rfl)); (focus (exact (by first | exact ⟨by decide, by decide⟩ | ((try simp (disch := omega) only [ab_tI, ab_c0, wd_ix12, wd_ix8, wd_ix10, wd_up_self, wd_up_eq, wd_up_ne, Int.toNat_natCast, Int.toNat_of_nonneg, not_true_eq_false, not_false_eq_true, Option.some.injEq, hpb, hl1, wd_l103, wd_l104, wd_l105, wd_l106, wd_l107, wd_l108, wd_l109, wd_l110, wd_l111, wd_l112, wd_l113, wd_l114, wd_l115, wd_l116, wd_l117, wd_l118, wd_l119, wd_l120, wd_l121, wd_l122, wd_l123, wd_l124]); omega)))); (intro v9 hv9; (try simp (disch := omega) only [ab_tI, ab_c0, wd_ix12, wd_ix8, wd_ix10, wd_up_self, wd_up_eq, wd_up_ne, Int.toNat_natCast, Int.toNat_of_nonneg, not_true_eq_false, not_false_eq_true, Option.some.injEq, hpb, hl1] at hv9); subst hv9))
    | (refine i_brF (by decide) ?_)
    | (refine i_brT (by decide) ?_)
    | (refine ⟨fun hc => ?_, fun hc => ?_⟩ <;> (try simp (disch := omega) only [ab_tI, ab_c0, wd_ix12, wd_ix8, wd_ix10, wd_up_self, wd_up_eq, wd_up_ne, Int.toNat_natCast, Int.toNat_of_nonneg, not_true_eq_false, not_false_eq_true, Option.some.injEq, hpb, hl1] at hc) <;> first | (exfalso; omega) | skip)
    | (apply i_cv; (focus (exact rfl)))
    | (apply i_len; (focus (exact rfl)))
    | (apply w_putI; (focus (exact rfl)); (focus (exact rfl)); (focus (exact rfl)); (focus (first | exact trivial | exact Or.inl rfl | exact Or.inr rfl)); (focus (exact rfl)))
    | (apply w_putP; (focus (exact rfl)); (focus (exact rfl)); (focus (exact rfl)); (focus (exact trivial)); (focus (exact rfl)))
    | (apply i_ialN; (focus (exact rfl)); (focus (first | exact Or.inl rfl | exact Or.inr rfl)); (focus (exact (by first | exact ⟨by decide, by decide⟩ | ((try simp (disch := omega) only [ab_tI, ab_c0, wd_ix12, wd_ix8, wd_ix10, wd_up_self, wd_up_eq, wd_up_ne, Int.toNat_natCast, Int.toNat_of_nonneg, not_true_eq_false, not_false_eq_true, Option.some.injEq, hpb, hl1, wd_l103, wd_l104, wd_l105, wd_l106, wd_l107, wd_l108, wd_l109, wd_l110, wd_l111, wd_l112, wd_l113, wd_l114, wd_l115, wd_l116, wd_l117, wd_l118, wd_l119, wd_l120, wd_l121, wd_l122, wd_l123, wd_l124]); omega)))); (intro v9 hv9; (try simp (disch := omega) only [ab_tI, ab_c0, wd_ix12, wd_ix8, wd_ix10, wd_up_self, wd_up_eq, wd_up_ne, Int.toNat_natCast, Int.toNat_of_nonneg, not_true_eq_false, not_false_eq_true, Option.some.injEq, hpb, hl1] at hv9); subst hv9))
    | (apply i_aalN; (focus (exact rfl)); (focus (exact (by first | exact ⟨by decide, by decide⟩ | ((try simp (disch := omega) only [ab_tI, ab_c0, wd_ix12, wd_ix8, wd_ix10, wd_up_self, wd_up_eq, wd_up_ne, Int.toNat_natCast, Int.toNat_of_nonneg, not_true_eq_false, not_false_eq_true, Option.some.injEq, hpb, hl1, wd_l103, wd_l104, wd_l105, wd_l106, wd_l107, wd_l108, wd_l109, wd_l110, wd_l111, wd_l112, wd_l113, wd_l114, wd_l115, wd_l116, wd_l117, wd_l118, wd_l119, wd_l120, wd_l121, wd_l122, wd_l123, wd_l124]); omega)))); (intro v9 hv9; (try simp (disch := omega) only [ab_tI, ab_c0, wd_ix12, wd_ix8, wd_ix10, wd_up_self, wd_up_eq, wd_up_ne, Int.toNat_natCast, Int.toNat_of_nonneg, not_true_eq_false, not_false_eq_true, Option.some.injEq, hpb, hl1] at hv9); subst hv9))
    | (apply w_iasI; (focus (exact rfl)); (focus (exact rfl)); (focus (exact (by first | exact ⟨by decide, by decide⟩ | ((try simp (disch := omega) only [ab_tI, ab_c0, wd_ix12, wd_ix8, wd_ix10, wd_up_self, wd_up_eq, wd_up_ne, Int.toNat_natCast, Int.toNat_of_nonneg, not_true_eq_false, not_false_eq_true, Option.some.injEq, hpb, hl1, wd_l103, wd_l104, wd_l105, wd_l106, wd_l107, wd_l108, wd_l109, wd_l110, wd_l111, wd_l112, wd_l113, wd_l114, wd_l115, wd_l116, wd_l117, wd_l118, wd_l119, wd_l120, wd_l121, wd_l122, wd_l123, wd_l124]); omega)))); (focus (intro _; exact rfl)); (intro v9 hv9; (try simp (disch := omega) only [ab_tI, ab_c0, wd_ix12, wd_ix8, wd_ix10, wd_up_self, wd_up_eq, wd_up_ne, Int.toNat_natCast, Int.toNat_of_nonneg, not_true_eq_false, not_false_eq_true, Option.some.injEq, hpb, hl1] at hv9); subst hv9))
    | (apply w_balM; (focus (exact (by first | exact ⟨by decide, by decide⟩ | ((try simp (disch := omega) only [ab_tI, ab_c0, wd_ix12, wd_ix8, wd_ix10, wd_up_self, wd_up_eq, wd_up_ne, Int.toNat_natCast, Int.toNat_of_nonneg, not_true_eq_false, not_false_eq_true, Option.some.injEq, hpb, hl1, wd_l103, wd_l104, wd_l105, wd_l106, wd_l107, wd_l108, wd_l109, wd_l110, wd_l111, wd_l112, wd_l113, wd_l114, wd_l115, wd_l116, wd_l117, wd_l118, wd_l119, wd_l120, wd_l121, wd_l122, wd_l123, wd_l124]); omega)))); (intro v9 hv9; (try simp (disch := omega) only [ab_tI, ab_c0, wd_ix12, wd_ix8, wd_ix10, wd_up_self, wd_up_eq, wd_up_ne, Int.toNat_natCast, Int.toNat_of_nonneg, not_true_eq_false, not_false_eq_true, Option.some.injEq, hpb, hl1] at hv9); subst hv9))
    | (apply w_basM; (focus (exact (by first | exact ⟨by decide, by decide⟩ | ((try simp (disch := omega) only [ab_tI, ab_c0, wd_ix12, wd_ix8, wd_ix10, wd_up_self, wd_up_eq, wd_up_ne, Int.toNat_natCast, Int.toNat_of_nonneg, not_true_eq_false, not_false_eq_true, Option.some.injEq, hpb, hl1, wd_l103, wd_l104, wd_l105, wd_l106, wd_l107, wd_l108, wd_l109, wd_l110, wd_l111, wd_l112, wd_l113, wd_l114, wd_l115, wd_l116, wd_l117, wd_l118, wd_l119, wd_l120, wd_l121, wd_l122, wd_l123, wd_l124]); omega)))); (focus (first | exact Or.inl rfl | exact Or.inr rfl)); (intro v9 hv9; (try simp (disch := omega) only [ab_tI, ab_c0, wd_ix12, wd_ix8, wd_ix10, wd_up_self, wd_up_eq, wd_up_ne, Int.toNat_natCast, Int.toNat_of_nonneg, not_true_eq_false, not_false_eq_true, Option.some.injEq, hpb, hl1] at hv9); subst hv9))
    | (refine And.intro trivial ?_)
    | (refine And.intro (Or.inl rfl) ?_)
    | (refine And.intro (Or.inr rfl) ?_)
    | (refine And.intro (by ((try simp (disch := omega) only [ab_tI, ab_c0, wd_ix12, wd_ix8, wd_ix10, wd_up_self, wd_up_eq, wd_up_ne, Int.toNat_natCast, Int.toNat_of_nonneg, not_true_eq_false, not_false_eq_true, Option.some.injEq, hpb, hl1]); omega)) ?_)
    | fail)
        all_goals first | exact hQ | (exfalso; omega)
    | false =>
      rw [c2, if_neg (by decide)] at hQ
      by_cases c3 : c_cmp g2 41 x1 x2 = 0
      · rw [if_pos c3] at hQ
        refine wd_rnC rfl ?_
        intro C9 X9 hC9 hX9
        (have chk9 := @hpb; clear chk9); (have chk9 := @hl1; clear chk9); repeat' ((conv => whnf); first
    | (apply i_getN; (focus (first | exact hpc)); (focus (exact rfl)); (intro v9 hv9; (try simp (disch := omega) only [ab_tI, ab_c0, wd_ix12, wd_ix8, wd_ix10, wd_up_self, wd_up_eq, wd_up_ne, Int.toNat_natCast, Int.toNat_of_nonneg, not_true_eq_false, not_false_eq_true, Option.some.injEq, hpb, hl1] at hv9); subst hv9))
    | (apply i_cv; (focus (first | exact hpc)))
    | (apply i_len; (focus (first | exact congrArg ab_len (hpc))))
    | (apply i_ialN; (focus (first | exact hpc)); (focus (first | exact Or.inl rfl | exact Or.inr rfl)); (focus (exact (by first | exact ⟨by decide, by decide⟩ | ((try simp (disch := omega) only [ab_tI, ab_c0, wd_ix12, wd_ix8, wd_ix10, wd_up_self, wd_up_eq, wd_up_ne, Int.toNat_natCast, Int.toNat_of_nonneg, not_true_eq_false, not_false_eq_true, Option.some.injEq, hpb, hl1, wd_l103, wd_l104, wd_l105, wd_l106, wd_l107, wd_l108, wd_l109, wd_l110, wd_l111, wd_l112, wd_l113, wd_l114, wd_l115, wd_l116, wd_l117, wd_l118, wd_l119, wd_l120, wd_l121, wd_l122, wd_l123, wd_l124]); omega)))); (intro v9 hv9; (try simp (disch := omega) only [ab_tI, ab_c0, wd_ix12, wd_ix8, wd_ix10, wd_up_self, wd_up_eq, wd_up_ne, Int.toNat_natCast, Int.toNat_of_nonneg, not_true_eq_false, not_false_eq_true, Option.some.injEq, hpb, hl1] at hv9); subst hv9))
    | (apply i_aalN; (focus (first | exact hpc)); (focus (exact (by first | exact ⟨by decide, by decide⟩ | ((try simp (disch := omega) only [ab_tI, ab_c0, wd_ix12, wd_ix8, wd_ix10, wd_up_self, wd_up_eq, wd_up_ne, Int.toNat_natCast, Int.toNat_of_nonneg, not_true_eq_false, not_false_eq_true, Option.some.injEq, hpb, hl1, wd_l103, wd_l104, wd_l105, wd_l106, wd_l107, wd_l108, wd_l109, wd_l110, wd_l111, wd_l112, wd_l113, wd_l114, wd_l115, wd_l116, wd_l117, wd_l118, wd_l119, wd_l120, wd_l121, wd_l122, wd_l123, wd_l124]); omega)))); (intro v9 hv9; (try simp (disch := omega) only [ab_tI, ab_c0, wd_ix12, wd_ix8, wd_ix10, wd_up_self, wd_up_eq, wd_up_ne, Int.toNat_natCast, Int.toNat_of_nonneg, not_true_eq_false, not_false_eq_true, Option.some.injEq, hpb, hl1] at hv9); subst hv9))
    | (refine hC9 21 _ _ _ (hfi _ ?_))
    | (refine hC9 24 _ _ _ (y_fsz (by omega) ?_))
    | (refine hC9 35 _ _ _ (hal _ (fun q => by rw [c2] at q; cases q) (fun _ => ?_)))
    | (refine hC9 93 _ _ _ (hlk _ (fun _ => ?_) (fun q => absurd c3 q)))
    | (intro v9 hv9; (try simp (disch := omega) only [ab_tI, ab_c0, wd_ix12, wd_ix8, wd_ix10, wd_up_self, wd_up_eq, wd_up_ne, Int.toNat_natCast, Int.toNat_of_nonneg, not_true_eq_false, not_false_eq_true, Option.some.injEq, hpb, hl1] at hv9); subst hv9)
    | (apply i_get; (focus (exact rfl)); (focus (exact rfl)))
    | (refine hX9 _ _ _ _ (wd_rnC rfl ?_); clear hC9 hX9 X9 C9; intro C9 X9 hC9 hX9)
    | (apply w_ialM; (focus (exact rfl)); (focus (exact (by first | exact ⟨by decide, by decide⟩ | ((try simp (disch := omega) only [ab_tI, ab_c0, wd_ix12, wd_ix8, wd_ix10, wd_up_self, wd_up_eq, wd_up_ne, Int.toNat_natCast, Int.toNat_of_nonneg, not_true_eq_false, not_false_eq_true, Option.some.injEq, hpb, hl1, wd_l103, wd_l104, wd_l105, wd_l106, wd_l107, wd_l108, wd_l109, wd_l110, wd_l111, wd_l112, wd_l113, wd_l114, wd_l115, wd_l116, wd_l117, wd_l118, wd_l119, wd_l120, wd_l121, wd_l122, wd_l123, wd_l124]); omega)))); (intro v9 hv9; (try simp (disch := omega) only [ab_tI, ab_c0, wd_ix12, wd_ix8, wd_ix10, wd_up_self, wd_up_eq, wd_up_ne, Int.toNat_natCast, Int.toNat_of_nonneg, not_true_eq_false, not_false_eq_true, Option.some.injEq, hpb, hl1] at hv9); subst hv9))
    | (apply w_putM; (focus (exact rfl)); (focus (first | exact trivial | exact Or.inl rfl | exact Or.inr rfl)); (focus (exact rfl)))
    | (apply w_iasM; (focus (exact rfl)); (focus (exact (by first | exact ⟨by decide, by decide⟩ | ((try simp (disch := omega) only [ab_tI, ab_c0, wd_ix12, wd_ix8, wd_ix10, wd_up_self, wd_up_eq, wd_up_ne, Int.toNat_natCast, Int.toNat_of_nonneg, not_true_eq_false, not_false_eq_true, Option.some.injEq, hpb, hl1, wd_l103, wd_l104, wd_l105, wd_l106, wd_l107, wd_l108, wd_l109, wd_l110, wd_l111, wd_l112, wd_l113, wd_l114, wd_l115, wd_l116, wd_l117, wd_l118, wd_l119, wd_l120, wd_l121, wd_l122, wd_l123, wd_l124]); omega)))); (intro v9 hv9; (try simp (disch := omega) only [ab_tI, ab_c0, wd_ix12, wd_ix8, wd_ix10, wd_up_self, wd_up_eq, wd_up_ne, Int.toNat_natCast, Int.toNat_of_nonneg, not_true_eq_false, not_false_eq_true, Option.some.injEq, hpb, hl1] at hv9); subst hv9))
    | (refine i_brF (by decide) ?_)
    | (refine i_brT (by decide) ?_)
    | (refine ⟨fun hc => ?_, fun hc => ?_⟩ <;> (try simp (disch := omega) only [ab_tI, ab_c0, wd_ix12, wd_ix8, wd_ix10, wd_up_self, wd_up_eq, wd_up_ne, Int.toNat_natCast, Int.toNat_of_nonneg, not_true_eq_false, not_false_eq_true, Option.some.injEq, hpb, hl1] at hc) <;> first | (exfalso; omega) | skip)
    | (apply i_cv; (focus (exact rfl)))
    | (apply i_len; (focus (exact rfl)))
    | (apply w_putI; (focus (exact rfl)); (focus (exact rfl)); (focus (exact rfl)); (focus (first | exact trivial | exact Or.inl rfl | exact Or.inr rfl)); (focus (exact rfl)))
    | (apply w_putP; (focus (exact rfl)); (focus (exact rfl)); (focus (exact rfl)); (focus (exact trivial)); (focus (exact rfl)))
    | (apply i_ialN; (focus (exact rfl)); (focus (first | exact Or.inl rfl | exact Or.inr rfl)); (focus (exact (by first | exact ⟨by decide, by decide⟩ | ((try simp (disch := omega) only [ab_tI, ab_c0, wd_ix12, wd_ix8, wd_ix10, wd_up_self, wd_up_eq, wd_up_ne, Int.toNat_natCast, Int.toNat_of_nonneg, not_true_eq_false, not_false_eq_true, Option.some.injEq, hpb, hl1, wd_l103, wd_l104, wd_l105, wd_l106, wd_l107, wd_l108, wd_l109, wd_l110, wd_l111, wd_l112, wd_l113, wd_l114, wd_l115, wd_l116, wd_l117, wd_l118, wd_l119, wd_l120, wd_l121, wd_l122, wd_l123, wd_l124]); omega)))); (intro v9 hv9; (try simp (disch := omega) only [ab_tI, ab_c0, wd_ix12, wd_ix8, wd_ix10, wd_up_self, wd_up_eq, wd_up_ne, Int.toNat_natCast, Int.toNat_of_nonneg, not_true_eq_false, not_false_eq_true, Option.some.injEq, hpb, hl1] at hv9); subst hv9))
    | (apply i_aalN; (focus (exact rfl)); (focus (exact (by first | exact ⟨by decide, by decide⟩ | ((try simp (disch := omega) only [ab_tI, ab_c0, wd_ix12, wd_ix8, wd_ix10, wd_up_self, wd_up_eq, wd_up_ne, Int.toNat_natCast, Int.toNat_of_nonneg, not_true_eq_false, not_false_eq_true, Option.some.injEq, hpb, hl1, wd_l103, wd_l104, wd_l105, wd_l106, wd_l107, wd_l108, wd_l109, wd_l110, wd_l111, wd_l112, wd_l113, wd_l114, wd_l115, wd_l116, wd_l117, wd_l118, wd_l119, wd_l120, wd_l121, wd_l122, wd_l123, wd_l124]); omega)))); (intro v9 hv9; (try simp (disch := omega) only [ab_tI, ab_c0, wd_ix12, wd_ix8, wd_ix10, wd_up_self, wd_up_eq, wd_up_ne, Int.toNat_natCast, Int.toNat_of_nonneg, not_true_eq_false, not_false_eq_true, Option.some.injEq, hpb, hl1] at hv9); subst hv9))
    | (apply w_iasI; (focus (exact rfl)); (focus (exact rfl)); (focus (exact (by first | exact ⟨by decide, by decide⟩ | ((try simp (disch := omega) only [ab_tI, ab_c0, wd_ix12, wd_ix8, wd_ix10, wd_up_self, wd_up_eq, wd_up_ne, Int.toNat_natCast, Int.toNat_of_nonneg, not_true_eq_false, not_false_eq_true, Option.some.injEq, hpb, hl1, wd_l103, wd_l104, wd_l105, wd_l106, wd_l107, wd_l108, wd_l109, wd_l110, wd_l111, wd_l112, wd_l113, wd_l114, wd_l115, wd_l116, wd_l117, wd_l118, wd_l119, wd_l120, wd_l121, wd_l122, wd_l123, wd_l124]); omega)))); (focus (intro _; exact rfl)); (intro v9 hv9; (try simp (disch := omega) only [ab_tI, ab_c0, wd_ix12, wd_ix8, wd_ix10, wd_up_self, wd_up_eq, wd_up_ne, Int.toNat_natCast, Int.toNat_of_nonneg, not_true_eq_false, not_false_eq_true, Option.some.injEq, hpb, hl1] at hv9); subst hv9))
    | (apply w_balM; (focus (exact (by first | exact ⟨by decide, by decide⟩ | ((try simp (disch := omega) only [ab_tI, ab_c0, wd_ix12, wd_ix8, wd_ix10, wd_up_self, wd_up_eq, wd_up_ne, Int.toNat_natCast, Int.toNat_of_nonneg, not_true_eq_false, not_false_eq_true, Option.some.injEq, hpb, hl1, wd_l103, wd_l104, wd_l105, wd_l106, wd_l107, wd_l108, wd_l109, wd_l110, wd_l111, wd_l112, wd_l113, wd_l114, wd_l115, wd_l116, wd_l117, wd_l118, wd_l119, wd_l120, wd_l121, wd_l122, wd_l123, wd_l124]); omega)))); (intro v9 hv9; (try simp (disch := omega) only [ab_tI, ab_c0, wd_ix12, wd_ix8, wd_ix10, wd_up_self, wd_up_eq, wd_up_ne, Int.toNat_natCast, Int.toNat_of_nonneg, not_true_eq_false, not_false_eq_true, Option.some.injEq, hpb, hl1] at hv9); subst hv9))
    | (apply w_basM; (focus (exact (by first | exact ⟨by decide, by decide⟩ | ((try simp (disch := omega) only [ab_tI, ab_c0, wd_ix12, wd_ix8, wd_ix10, wd_up_self, wd_up_eq, wd_up_ne, Int.toNat_natCast, Int.toNat_of_nonneg, not_true_eq_false, not_false_eq_true, Option.some.injEq, hpb, hl1, wd_l103, wd_l104, wd_l105, wd_l106, wd_l107, wd_l108, wd_l109, wd_l110, wd_l111, wd_l112, wd_l113, wd_l114, wd_l115, wd_l116, wd_l117, wd_l118, wd_l119, wd_l120, wd_l121, wd_l122, wd_l123, wd_l124]); omega)))); (focus (first | exact Or.inl rfl | exact Or.inr rfl)); (intro v9 hv9; (try simp (disch := omega) only [ab_tI, ab_c0, wd_ix12, wd_ix8, wd_ix10, wd_up_self, wd_up_eq, wd_up_ne, Int.toNat_natCast, Int.toNat_of_nonneg, not_true_eq_false, not_false_eq_true, Option.some.injEq, hpb, hl1] at hv9); subst hv9))
    | (refine And.intro trivial ?_)
    | (refine And.intro (Or.inl rfl) ?_)
    | (refine And.intro (Or.inr rfl) ?_)
    | (refine And.intro (by ((try simp (disch := omega) only [ab_tI, ab_c0, wd_ix12, wd_ix8, wd_ix10, wd_up_self, wd_up_eq, wd_up_ne, Int.toNat_natCast, Int.toNat_of_nonneg, not_true_eq_false, not_false_eq_true, Option.some.injEq, hpb, hl1]); omega)) ?_)
    | fail)
        all_goals first | exact hQ | (exfalso; omega)
      · rw [if_neg c3] at hQ
        refine wd_rnC rfl ?_
        intro C9 X9 hC9 hX9
        (have chk9 := @hpb; clear chk9); (have chk9 := @hl1; clear chk9); repeat' ((conv => whnf); first
    | (apply i_getN; (focus (first | exact hpc)); (focus (exact rfl)); (intro v9 hv9; (try simp (disch := omega) only [ab_tI, ab_c0, wd_ix12, wd_ix8, wd_ix10, wd_up_self, wd_up_eq, wd_up_ne, Int.toNat_natCast, Int.toNat_of_nonneg, not_true_eq_false, not_false_eq_true, Option.some.injEq, hpb, hl1] at hv9); subst hv9))
    | (apply i_cv; (focus (first | exact hpc)))
    | (apply i_len; (focus (first | exact congrArg ab_len (hpc))))
    | (apply i_ialN; (focus (first | exact hpc)); (focus (first | exact Or.inl rfl | exact Or.inr rfl)); (focus (exact (by first | exact ⟨by decide, by decide⟩ | ((try simp (disch := omega) only [ab_tI, ab_c0, wd_ix12, wd_ix8, wd_ix10, wd_up_self, wd_up_eq, wd_up_ne, Int.toNat_natCast, Int.toNat_of_nonneg, not_true_eq_false, not_false_eq_true, Option.some.injEq, hpb, hl1, wd_l103, wd_l104, wd_l105, wd_l106, wd_l107, wd_l108, wd_l109, wd_l110, wd_l111, wd_l112, wd_l113, wd_l114, wd_l115, wd_l116, wd_l117, wd_l118, wd_l119, wd_l120, wd_l121, wd_l122, wd_l123, wd_l124]); omega)))); (intro v9 hv9; (try simp (disch := omega) only [ab_tI, ab_c0, wd_ix12, wd_ix8, wd_ix10, wd_up_self, wd_up_eq, wd_up_ne, Int.toNat_natCast, Int.toNat_of_nonneg, not_true_eq_false, not_false_eq_true, Option.some.injEq, hpb, hl1] at hv9); subst hv9))
    | (apply i_aalN; (focus (first | exact hpc)); (focus (exact (by first | exact ⟨by decide, by decide⟩ | ((try simp (disch := omega) only [ab_tI, ab_c0, wd_ix12, wd_ix8, wd_ix10, wd_up_self, wd_up_eq, wd_up_ne, Int.toNat_natCast, Int.toNat_of_nonneg, not_true_eq_false, not_false_eq_true, Option.some.injEq, hpb, hl1, wd_l103, wd_l104, wd_l105, wd_l106, wd_l107, wd_l108, wd_l109, wd_l110, wd_l111, wd_l112, wd_l113, wd_l114, wd_l115, wd_l116, wd_l117, wd_l118, wd_l119, wd_l120, wd_l121, wd_l122, wd_l123, wd_l124]); omega)))); (intro v9 hv9; (try simp (disch := omega) only [ab_tI, ab_c0, wd_ix12, wd_ix8, wd_ix10, wd_up_self, wd_up_eq, wd_up_ne, Int.toNat_natCast, Int.toNat_of_nonneg, not_true_eq_false, not_false_eq_true, Option.some.injEq, hpb, hl1] at hv9); subst hv9))
    | (refine hC9 21 _ _ _ (hfi _ ?_))
    | (refine hC9 24 _ _ _ (y_fsz (by omega) ?_))
    | (refine hC9 35 _ _ _ (hal _ (fun q => by rw [c2] at q; cases q) (fun _ => ?_)))
    | (refine hC9 93 _ _ _ (hlk _ (fun q => absurd q c3) (fun _ => ?_)))
    | (intro v9 hv9; (try simp (disch := omega) only [ab_tI, ab_c0, wd_ix12, wd_ix8, wd_ix10, wd_up_self, wd_up_eq, wd_up_ne, Int.toNat_natCast, Int.toNat_of_nonneg, not_true_eq_false, not_false_eq_true, Option.some.injEq, hpb, hl1] at hv9); subst hv9)
    | (apply i_get; (focus (exact rfl)); (focus (exact rfl)))
    | (refine hX9 _ _ _ _ (wd_rnC rfl ?_); clear hC9 hX9 X9 C9; intro C9 X9 hC9 hX9)
    | (apply w_ialM; (focus (exact rfl)); (focus (exact (by first | exact ⟨by decide, by decide⟩ | ((try simp (disch := omega) only [ab_tI, ab_c0, wd_ix12, wd_ix8, wd_ix10, wd_up_self, wd_up_eq, wd_up_ne, Int.toNat_natCast, Int.toNat_of_nonneg, not_true_eq_false, not_false_eq_true, Option.some.injEq, hpb, hl1, wd_l103, wd_l104, wd_l105, wd_l106, wd_l107, wd_l108, wd_l109, wd_l110, wd_l111, wd_l112, wd_l113, wd_l114, wd_l115, wd_l116, wd_l117, wd_l118, wd_l119, wd_l120, wd_l121, wd_l122, wd_l123, wd_l124]); omega)))); (intro v9 hv9; (try simp (disch := omega) only [ab_tI, ab_c0, wd_ix12, wd_ix8, wd_ix10, wd_up_self, wd_up_eq, wd_up_ne, Int.toNat_natCast, Int.toNat_of_nonneg, not_true_eq_false, not_false_eq_true, Option.some.injEq, hpb, hl1] at hv9); subst hv9))
    | (apply w_putM; (focus (exact rfl)); (focus (first | exact trivial | exact Or.inl rfl | exact Or.inr rfl)); (focus (exact rfl)))
    | (apply w_iasM; (focus (exact rfl)); (focus (exact (by first | exact ⟨by decide, by decide⟩ | ((try simp (disch := omega) only [ab_tI, ab_c0, wd_ix12, wd_ix8, wd_ix10, wd_up_self, wd_up_eq, wd_up_ne, Int.toNat_natCast, Int.toNat_of_nonneg, not_true_eq_false, not_false_eq_true, Option.some.injEq, hpb, hl1, wd_l103, wd_l104, wd_l105, wd_l106, wd_l107, wd_l108, wd_l109, wd_l110, wd_l111, wd_l112, wd_l113, wd_l114, wd_l115, wd_l116, wd_l117, wd_l118, wd_l119, wd_l120, wd_l121, wd_l122, wd_l123, wd_l124]); omega)))); (intro v9 hv9; (try simp (disch := omega) only [ab_tI, ab_c0, wd_ix12, wd_ix8, wd_ix10, wd_up_self, wd_up_eq, wd_up_ne, Int.toNat_natCast, Int.toNat_of_nonneg, not_true_eq_false, not_false_eq_true, Option.some.injEq, hpb, hl1] at hv9); subst hv9))
    | (refine i_brF (by decide) ?_)
    | (refine i_brT (by decide) ?_)
    | (refine ⟨fun hc => ?_, fun hc => ?_⟩ <;> (try simp (disch := omega) only [ab_tI, ab_c0, wd_ix12, wd_ix8, wd_ix10, wd_up_self, wd_up_eq, wd_up_ne, Int.toNat_natCast, Int.toNat_of_nonneg, not_true_eq_false, not_false_eq_true, Option.some.injEq, hpb, hl1] at hc) <;> first | (exfalso; omega) | skip)
    | (apply i_cv; (focus (exact rfl)))
    | (apply i_len; (focus (exact rfl)))
    | (apply w_putI; (focus (exact rfl)); (focus (exact rfl)); (focus (exact rfl)); (focus (first | exact trivial | exact Or.inl rfl | exact Or.inr rfl)); (focus (exact rfl)))
    | (apply w_putP; (focus (exact rfl)); (focus (exact rfl)); (focus (exact rfl)); (focus (exact trivial)); (focus (exact rfl)))
    | (apply i_ialN; (focus (exact rfl)); (focus (first | exact Or.inl rfl | exact Or.inr rfl)); (focus (exact (by first | exact ⟨by decide, by decide⟩ | ((try simp (disch := omega) only [ab_tI, ab_c0, wd_ix12, wd_ix8, wd_ix10, wd_up_self, wd_up_eq, wd_up_ne, Int.toNat_natCast, Int.toNat_of_nonneg, not_true_eq_false, not_false_eq_true, Option.some.injEq, hpb, hl1, wd_l103, wd_l104, wd_l105, wd_l106, wd_l107, wd_l108, wd_l109, wd_l110, wd_l111, wd_l112, wd_l113, wd_l114, wd_l115, wd_l116, wd_l117, wd_l118, wd_l119, wd_l120, wd_l121, wd_l122, wd_l123, wd_l124]); omega)))); (intro v9 hv9; (try simp (disch := omega) only [ab_tI, ab_c0, wd_ix12, wd_ix8, wd_ix10, wd_up_self, wd_up_eq, wd_up_ne, Int.toNat_natCast, Int.toNat_of_nonneg, not_true_eq_false, not_false_eq_true, Option.some.injEq, hpb, hl1] at hv9); subst hv9))
    | (apply i_aalN; (focus (exact rfl)); (focus (exact (by first | exact ⟨by decide, by decide⟩ | ((try simp (disch := omega) only [ab_tI, ab_c0, wd_ix12, wd_ix8, wd_ix10, wd_up_self, wd_up_eq, wd_up_ne, Int.toNat_natCast, Int.toNat_of_nonneg, not_true_eq_false, not_false_eq_true, Option.some.injEq, hpb, hl1, wd_l103, wd_l104, wd_l105, wd_l106, wd_l107, wd_l108, wd_l109, wd_l110, wd_l111, wd_l112, wd_l113, wd_l114, wd_l115, wd_l116, wd_l117, wd_l118, wd_l119, wd_l120, wd_l121, wd_l122, wd_l123, wd_l124]); omega)))); (intro v9 hv9; (try simp (disch := omega) only [ab_tI, ab_c0, wd_ix12, wd_ix8, wd_ix10, wd_up_self, wd_up_eq, wd_up_ne, Int.toNat_natCast, Int.toNat_of_nonneg, not_true_eq_false, not_false_eq_true, Option.some.injEq, hpb, hl1] at hv9); subst hv9))
    | (apply w_iasI; (focus (exact rfl)); (focus (exact rfl)); (focus (exact (by first | exact ⟨by decide, by decide⟩ | ((try simp (disch := omega) only [ab_tI, ab_c0, wd_ix12, wd_ix8, wd_ix10, wd_up_self, wd_up_eq, wd_up_ne, Int.toNat_natCast, Int.toNat_of_nonneg, not_true_eq_false, not_false_eq_true, Option.some.injEq, hpb, hl1, wd_l103, wd_l104, wd_l105, wd_l106, wd_l107, wd_l108, wd_l109, wd_l110, wd_l111, wd_l112, wd_l113, wd_l114, wd_l115, wd_l116, wd_l117, wd_l118, wd_l119, wd_l120, wd_l121, wd_l122, wd_l123, wd_l124]); omega)))); (focus (intro _; exact rfl)); (intro v9 hv9; (try simp (disch := omega) only [ab_tI, ab_c0, wd_ix12, wd_ix8, wd_ix10, wd_up_self, wd_up_eq, wd_up_ne, Int.toNat_natCast, Int.toNat_of_nonneg, not_true_eq_false, not_false_eq_true, Option.some.injEq, hpb, hl1] at hv9); subst hv9))
    | (apply w_balM; (focus (exact (by first | exact ⟨by decide, by decide⟩ | ((try simp (disch := omega) only [ab_tI, ab_c0, wd_ix12, wd_ix8, wd_ix10, wd_up_self, wd_up_eq, wd_up_ne, Int.toNat_natCast, Int.toNat_of_nonneg, not_true_eq_false, not_false_eq_true, Option.some.injEq, hpb, hl1, wd_l103, wd_l104, wd_l105, wd_l106, wd_l107, wd_l108, wd_l109, wd_l110, wd_l111, wd_l112, wd_l113, wd_l114, wd_l115, wd_l116, wd_l117, wd_l118, wd_l119, wd_l120, wd_l121, wd_l122, wd_l123, wd_l124]); omega)))); (intro v9 hv9; (try simp (disch := omega) only [ab_tI, ab_c0, wd_ix12, wd_ix8, wd_ix10, wd_up_self, wd_up_eq, wd_up_ne, Int.toNat_natCast, Int.toNat_of_nonneg, not_true_eq_false, not_false_eq_true, Option.some.injEq, hpb, hl1] at hv9); subst hv9))
    | (apply w_basM; (focus (exact (by first | exact ⟨by decide, by decide⟩ | ((try simp (disch := omega) only [ab_tI, ab_c0, wd_ix12, wd_ix8, wd_ix10, wd_up_self, wd_up_eq, wd_up_ne, Int.toNat_natCast, Int.toNat_of_nonneg, not_true_eq_false, not_false_eq_true, Option.some.injEq, hpb, hl1, wd_l103, wd_l104, wd_l105, wd_l106, wd_l107, wd_l108, wd_l109, wd_l110, wd_l111, wd_l112, wd_l113, wd_l114, wd_l115, wd_l116, wd_l117, wd_l118, wd_l119, wd_l120, wd_l121, wd_l122, wd_l123, wd_l124]); omega)))); (focus (first | exact Or.inl rfl | exact Or.inr rfl)); (intro v9 hv9; (try simp (disch := omega) only [ab_tI, ab_c0, wd_ix12, wd_ix8, wd_ix10, wd_up_self, wd_up_eq, wd_up_ne, Int.toNat_natCast, Int.toNat_of_nonneg, not_true_eq_false, not_false_eq_true, Option.some.injEq, hpb, hl1] at hv9); subst hv9))
    | (refine And.intro trivial ?_)
    | (refine And.intro (Or.inl rfl) ?_)
    | (refine And.intro (Or.inr rfl) ?_)
    | (refine And.intro (by ((try simp (disch := omega) only [ab_tI, ab_c0, wd_ix12, wd_ix8, wd_ix10, wd_up_self, wd_up_eq, wd_up_ne, Int.toNat_natCast, Int.toNat_of_nonneg, not_true_eq_false, not_false_eq_true, Option.some.injEq, hpb, hl1]); omega)) ?_)
    | fail)
        all_goals first | exact hQ | (exfalso; omega)
end
end
section
/-! ===== the class: fit, whole (own text) ===== -/
section
variable {d : Nat} {I : wd_I} {P : wd_P} {M : wd_I} {g : Nat → ab_C} {k z : Nat} {Q : ab_Q} {T : Nat → Prop}
theorem c_7 : (ab_ii 7).toInt = 7 := by decide
set_option maxHeartbeats 4000000 in
set_option maxRecDepth 100000 in
theorem y_fit_b (hd : 96 ≤ d) {T1 : Nat → Prop} {g1 : Nat → ab_C} {I1 : wd_I} {k1 z1 x1 p gv : Nat} {s w : Int32} (hW1 : c_W T1 g1 k1) (h125 : 125 ≤ k1) (h0 : 0 ≤ (I1 9 0).toInt ∧ (I1 9 0).toInt ≤ 3000) (hro : c_ro 82 (I1, g1, k1, z1)) (hx1 : T1 x1) (hgv : T1 gv) (hwp : p_wf g1 k1 p) {pp : Int32} (hpp : c_pp pp) (hpb : P 8 pp.toInt.toNat = some p) (hm : ¬ ((c_R gv p x1 (ab_ii 7) (ab_ii 0) (I1, g1, k1, z1)).2.1 10 6).toInt = 0 → Q (some (.inl (ab_ii (-17)))) (c_S (c_fP P p gv) M (c_R gv p x1 (ab_ii 7) (ab_ii 0) (I1, g1, k1, z1)).2)) (hf : ((c_R gv p x1 (ab_ii 7) (ab_ii 0) (I1, g1, k1, z1)).2.1 10 6).toInt = 0 → c_tooM (c_R gv p x1 (ab_ii 7) (ab_ii 0) (I1, g1, k1, z1)).2.2.1 (c_R gv p x1 (ab_ii 7) (ab_ii 0) (I1, g1, k1, z1)).1 → Q (some (.inl (ab_ii (-4)))) (c_S (c_fP P p gv) M (c_R gv p x1 (ab_ii 7) (ab_ii 0) (I1, g1, k1, z1)).2)) (hy : ((c_R gv p x1 (ab_ii 7) (ab_ii 0) (I1, g1, k1, z1)).2.1 10 6).toInt = 0 → ¬ c_tooM (c_R gv p x1 (ab_ii 7) (ab_ii 0) (I1, g1, k1, z1)).2.2.1 (c_R gv p x1 (ab_ii 7) (ab_ii 0) (I1, g1, k1, z1)).1 → Q (some (.inl (c_fA (c_R gv p x1 (ab_ii 7) (ab_ii 0) (I1, g1, k1, z1)).2.2.1 (c_fs41 (c_R gv p x1 (ab_ii 7) (ab_ii 0) (I1, g1, k1, z1)).2.2.1 p x1) gv x1 (c_R gv p x1 (ab_ii 7) (ab_ii 0) (I1, g1, k1, z1)).1 (I1 10 5).toInt))) (c_S (f_fnd (c_R gv p x1 (ab_ii 7) (ab_ii 0) (I1, g1, k1, z1)).2.1 (c_fP P p gv) (c_R gv p x1 (ab_ii 7) (ab_ii 0) (I1, g1, k1, z1)).2.2.1 p x1).2 M ((f_fnd (c_R gv p x1 (ab_ii 7) (ab_ii 0) (I1, g1, k1, z1)).2.1 (c_fP P p gv) (c_R gv p x1 (ab_ii 7) (ab_ii 0) (I1, g1, k1, z1)).2.2.1 p x1).1, (c_R gv p x1 (ab_ii 7) (ab_ii 0) (I1, g1, k1, z1)).2.2))) : ab_WB d 119 Q 82 [(0, wd_v 0), (1, .inl s), (2, .inl pp), (3, .inl w), (4, wd_v gv), (5, wd_v x1)] [] (wd I1 P M g1, k1, z1) := by
  obtain ⟨hp0, hp1⟩ := id hpp
  have hgd := c_R_gd (z := z1) (how := ab_ii 7) (n := ab_ii 0) (p := p) hW1 h125 hx1 h0 (fun q => hgv)
  have hch := fun (Q : ab_Q) q1 q2 => y_change (d := d - 1) (I := I1) (P := P) (M := M) (g := g1) (k := k1) (z := z1) (Q := Q) (n := ab_ii 0) (how := ab_ii 7) (gv := gv) (o := some gv) (by omega) hW1 h125 hx1 hwp h0 (by rw [c_7]; omega) (fun _ => ⟨hgv, rfl⟩) hro q1 q2
  change ∀ (Q : ab_Q), (((c_R gv p x1 (ab_ii 7) (ab_ii 0) (I1, g1, k1, z1)).2.1 10 6).toInt = 0 → Q (some (wd_v (c_R gv p x1 (ab_ii 7) (ab_ii 0) (I1, g1, k1, z1)).1)) (c_S (c_fP P p gv) M (c_R gv p x1 (ab_ii 7) (ab_ii 0) (I1, g1, k1, z1)).2)) → (¬ ((c_R gv p x1 (ab_ii 7) (ab_ii 0) (I1, g1, k1, z1)).2.1 10 6).toInt = 0 → Q (some (.inr (.inr none))) (c_S (c_fP P p gv) M (c_R gv p x1 (ab_ii 7) (ab_ii 0) (I1, g1, k1, z1)).2)) → _ at hch
  obtain ⟨T2, a1, a2, a3⟩ := hgd
  generalize c_R gv p x1 (ab_ii 7) (ab_ii 0) (I1, g1, k1, z1) = R at *
  obtain ⟨x2, I2, g2, k2, z2⟩ := R
  unfold c_S at *
  dsimp only at *
  have hW2 : c_W T2 g2 k2 := a1.wf
  have hkk : k1 ≤ k2 := a1.kk
  have hwp2 := (p_wf_xt hwp a1.ofr hkk).1
  have hpc := p_c (I := I1) (P := P) (M := M) (z := z1) (k' := k1) hwp c_ofr.rf
  have h3 := fun (I' : wd_I) (P' : wd_P) => c_W_c (I := I') (P := P') (M := M) (z := z2) hW2 a2
  have hpb2 : c_fP P p gv 8 pp.toInt.toNat = some p := (c_cP_ne (by omega)).trans hpb
  by_cases hsp : (I2 10 6).toInt = 0
  · have hch := fun Q hq => hch Q (fun _ => hq) (fun q => absurd hsp q)
    have hf := hf hsp
    have hy := hy hsp
    by_cases htm : c_tooM g2 x2
    · have hf := hf htm
      unfold c_tooM at htm
      clear hm hy
      refine wd_rnC rfl ?_
      intro C9 X9 hC9 hX9
      (have chk9 := @hpb; clear chk9); repeat' ((conv => whnf); first
    | (apply i_getN; (focus (first | exact hpc | exact h3 _ _)); (focus (exact rfl)); (intro v9 hv9; (try simp (disch := omega) only [ab_tI, ab_c0, wd_ix12, wd_ix8, wd_ix10, wd_up_self, wd_up_eq, wd_up_ne, Int.toNat_natCast, Int.toNat_of_nonneg, not_true_eq_false, not_false_eq_true, Option.some.injEq, hpb] at hv9); subst hv9))
    | (apply i_cv; (focus (first | exact hpc | exact h3 _ _)))
    | (apply i_len; (focus (first | exact congrArg ab_len (hpc) | exact congrArg ab_len (h3 _ _))))
    | (apply i_ialN; (focus (first | exact hpc | exact h3 _ _)); (focus (first | exact Or.inl rfl | exact Or.inr rfl)); (focus (exact (by first | exact ⟨by decide, by decide⟩ | ((try simp (disch := omega) only [ab_tI, ab_c0, wd_ix12, wd_ix8, wd_ix10, wd_up_self, wd_up_eq, wd_up_ne, Int.toNat_natCast, Int.toNat_of_nonneg, not_true_eq_false, not_false_eq_true, Option.some.injEq, hpb, wd_l103, wd_l104, wd_l105, wd_l106, wd_l107, wd_l108, wd_l109, wd_l110, wd_l111, wd_l112, wd_l113, wd_l114, wd_l115, wd_l116, wd_l117, wd_l118, wd_l119, wd_l120, wd_l121, wd_l122, wd_l123, wd_l124]); omega)))); (intro v9 hv9; (try simp (disch := omega) only [ab_tI, ab_c0, wd_ix12, wd_ix8, wd_ix10, wd_up_self, wd_up_eq, wd_up_ne, Int.toNat_natCast, Int.toNat_of_nonneg, not_true_eq_false, not_false_eq_true, Option.some.injEq, hpb] at hv9); subst hv9))
    | (apply i_aalN; (focus (first | exact hpc | exact h3 _ _)); (focus (exact (by first | exact ⟨by decide, by decide⟩ | ((try simp (disch := omega) only [ab_tI, ab_c0, wd_ix12, wd_ix8, wd_ix10, wd_up_self, wd_up_eq, wd_up_ne, Int.toNat_natCast, Int.toNat_of_nonneg, not_true_eq_false, not_false_eq_true, Option.some.injEq, hpb, wd_l103, wd_l104, wd_l105, wd_l106, wd_l107, wd_l108, wd_l109, wd_l110, wd_l111, wd_l112, wd_l113, wd_l114, wd_l115, wd_l116, wd_l117, wd_l118, wd_l119, wd_l120, wd_l121, wd_l122, wd_l123, wd_l124]); omega)))); (intro v9 hv9; (try simp (disch := omega) only [ab_tI, ab_c0, wd_ix12, wd_ix8, wd_ix10, wd_up_self, wd_up_eq, wd_up_ne, Int.toNat_natCast, Int.toNat_of_nonneg, not_true_eq_false, not_false_eq_true, Option.some.injEq, hpb] at hv9); subst hv9))
    | (refine hC9 2 _ _ _ (y_focusCount (by omega) ?_))
    | (refine hC9 1 _ _ _ (hch _ ?_))
    | (refine hC9 91 _ _ _ (y_isTooMuch (by omega) hW2 a2 (fun _ => ?_) (fun q1 q2 q3 => by exfalso; omega)))
    | (intro v9 hv9; (try simp (disch := omega) only [ab_tI, ab_c0, wd_ix12, wd_ix8, wd_ix10, wd_up_self, wd_up_eq, wd_up_ne, Int.toNat_natCast, Int.toNat_of_nonneg, not_true_eq_false, not_false_eq_true, Option.some.injEq, hpb] at hv9); subst hv9)
    | (apply i_get; (focus (exact rfl)); (focus (exact rfl)))
    | (refine hX9 _ _ _ _ (wd_rnC rfl ?_); clear hC9 hX9 X9 C9; intro C9 X9 hC9 hX9)
    | (apply w_ialM; (focus (exact rfl)); (focus (exact (by first | exact ⟨by decide, by decide⟩ | ((try simp (disch := omega) only [ab_tI, ab_c0, wd_ix12, wd_ix8, wd_ix10, wd_up_self, wd_up_eq, wd_up_ne, Int.toNat_natCast, Int.toNat_of_nonneg, not_true_eq_false, not_false_eq_true, Option.some.injEq, hpb, wd_l103, wd_l104, wd_l105, wd_l106, wd_l107, wd_l108, wd_l109, wd_l110, wd_l111, wd_l112, wd_l113, wd_l114, wd_l115, wd_l116, wd_l117, wd_l118, wd_l119, wd_l120, wd_l121, wd_l122, wd_l123, wd_l124]); omega)))); (intro v9 hv9; (try simp (disch := omega) only [ab_tI, ab_c0, wd_ix12, wd_ix8, wd_ix10, wd_up_self, wd_up_eq, wd_up_ne, Int.toNat_natCast, Int.toNat_of_nonneg, not_true_eq_false, not_false_eq_true, Option.some.injEq, hpb] at hv9); subst hv9))
    | (apply w_putM; (focus (exact rfl)); (focus (first | exact trivial | exact Or.inl rfl | exact Or.inr rfl)); (focus (exact rfl)))
    | (apply w_iasM; (focus (exact rfl)); (focus (exact (by first | exact ⟨by decide, by decide⟩ | ((try simp (disch := omega) only [ab_tI, ab_c0, wd_ix12, wd_ix8, wd_ix10, wd_up_self, wd_up_eq, wd_up_ne, Int.toNat_natCast, Int.toNat_of_nonneg, not_true_eq_false, not_false_eq_true, Option.some.injEq, hpb, wd_l103, wd_l104, wd_l105, wd_l106, wd_l107, wd_l108, wd_l109, wd_l110, wd_l111, wd_l112, wd_l113, wd_l114, wd_l115, wd_l116, wd_l117, wd_l118, wd_l119, wd_l120, wd_l121, wd_l122, wd_l123, wd_l124]); omega)))); (intro v9 hv9; (try simp (disch := omega) only [ab_tI, ab_c0, wd_ix12, wd_ix8, wd_ix10, wd_up_self, wd_up_eq, wd_up_ne, Int.toNat_natCast, Int.toNat_of_nonneg, not_true_eq_false, not_false_eq_true, Option.some.injEq, hpb] at hv9); subst hv9))
    | (refine i_brF (by decide) ?_)
    | (refine i_brT (by decide) ?_)
    | (refine ⟨fun hc => ?_, fun hc => ?_⟩ <;> (try simp (disch := omega) only [ab_tI, ab_c0, wd_ix12, wd_ix8, wd_ix10, wd_up_self, wd_up_eq, wd_up_ne, Int.toNat_natCast, Int.toNat_of_nonneg, not_true_eq_false, not_false_eq_true, Option.some.injEq, hpb] at hc) <;> first | (exfalso; omega) | skip)
    | (apply i_cv; (focus (exact rfl)))
    | (apply i_len; (focus (exact rfl)))
    | (apply w_putI; (focus (exact rfl)); (focus (exact rfl)); (focus (exact rfl)); (focus (first | exact trivial | exact Or.inl rfl | exact Or.inr rfl)); (focus (exact rfl)))
    | (apply w_putP; (focus (exact rfl)); (focus (exact rfl)); (focus (exact rfl)); (focus (exact trivial)); (focus (exact rfl)))
    | (apply i_ialN; (focus (exact rfl)); (focus (first | exact Or.inl rfl | exact Or.inr rfl)); (focus (exact (by first | exact ⟨by decide, by decide⟩ | ((try simp (disch := omega) only [ab_tI, ab_c0, wd_ix12, wd_ix8, wd_ix10, wd_up_self, wd_up_eq, wd_up_ne, Int.toNat_natCast, Int.toNat_of_nonneg, not_true_eq_false, not_false_eq_true, Option.some.injEq, hpb, wd_l103, wd_l104, wd_l105, wd_l106, wd_l107, wd_l108, wd_l109, wd_l110, wd_l111, wd_l112, wd_l113, wd_l114, wd_l115, wd_l116, wd_l117, wd_l118, wd_l119, wd_l120, wd_l121, wd_l122, wd_l123, wd_l124]); omega)))); (intro v9 hv9; (try simp (disch := omega) only [ab_tI, ab_c0, wd_ix12, wd_ix8, wd_ix10, wd_up_self, wd_up_eq, wd_up_ne, Int.toNat_natCast, Int.toNat_of_nonneg, not_true_eq_false, not_false_eq_true, Option.some.injEq, hpb] at hv9); subst hv9))
    | (apply i_aalN; (focus (exact rfl)); (focus (exact (by first | exact ⟨by decide, by decide⟩ | ((try simp (disch := omega) only [ab_tI, ab_c0, wd_ix12, wd_ix8, wd_ix10, wd_up_self, wd_up_eq, wd_up_ne, Int.toNat_natCast, Int.toNat_of_nonneg, not_true_eq_false, not_false_eq_true, Option.some.injEq, hpb, wd_l103, wd_l104, wd_l105, wd_l106, wd_l107, wd_l108, wd_l109, wd_l110, wd_l111, wd_l112, wd_l113, wd_l114, wd_l115, wd_l116, wd_l117, wd_l118, wd_l119, wd_l120, wd_l121, wd_l122, wd_l123, wd_l124]); omega)))); (intro v9 hv9; (try simp (disch := omega) only [ab_tI, ab_c0, wd_ix12, wd_ix8, wd_ix10, wd_up_self, wd_up_eq, wd_up_ne, Int.toNat_natCast, Int.toNat_of_nonneg, not_true_eq_false, not_false_eq_true, Option.some.injEq, hpb] at hv9); subst hv9))
    | (apply w_iasI; (focus (exact rfl)); (focus (exact rfl)); (focus (exact (by first | exact ⟨by decide, by decide⟩ | ((try simp (disch := omega) only [ab_tI, ab_c0, wd_ix12, wd_ix8, wd_ix10, wd_up_self, wd_up_eq, wd_up_ne, Int.toNat_natCast, Int.toNat_of_nonneg, not_true_eq_false, not_false_eq_true, Option.some.injEq, hpb, wd_l103, wd_l104, wd_l105, wd_l106, wd_l107, wd_l108, wd_l109, wd_l110, wd_l111, wd_l112, wd_l113, wd_l114, wd_l115, wd_l116, wd_l117, wd_l118, wd_l119, wd_l120, wd_l121, wd_l122, wd_l123, wd_l124]); omega)))); (focus (intro _; exact rfl)); (intro v9 hv9; (try simp (disch := omega) only [ab_tI, ab_c0, wd_ix12, wd_ix8, wd_ix10, wd_up_self, wd_up_eq, wd_up_ne, Int.toNat_natCast, Int.toNat_of_nonneg, not_true_eq_false, not_false_eq_true, Option.some.injEq, hpb] at hv9); subst hv9))
    | (apply w_balM; (focus (exact (by first | exact ⟨by decide, by decide⟩ | ((try simp (disch := omega) only [ab_tI, ab_c0, wd_ix12, wd_ix8, wd_ix10, wd_up_self, wd_up_eq, wd_up_ne, Int.toNat_natCast, Int.toNat_of_nonneg, not_true_eq_false, not_false_eq_true, Option.some.injEq, hpb, wd_l103, wd_l104, wd_l105, wd_l106, wd_l107, wd_l108, wd_l109, wd_l110, wd_l111, wd_l112, wd_l113, wd_l114, wd_l115, wd_l116, wd_l117, wd_l118, wd_l119, wd_l120, wd_l121, wd_l122, wd_l123, wd_l124]); omega)))); (intro v9 hv9; (try simp (disch := omega) only [ab_tI, ab_c0, wd_ix12, wd_ix8, wd_ix10, wd_up_self, wd_up_eq, wd_up_ne, Int.toNat_natCast, Int.toNat_of_nonneg, not_true_eq_false, not_false_eq_true, Option.some.injEq, hpb] at hv9); subst hv9))
    | (apply w_basM; (focus (exact (by first | exact ⟨by decide, by decide⟩ | ((try simp (disch := omega) only [ab_tI, ab_c0, wd_ix12, wd_ix8, wd_ix10, wd_up_self, wd_up_eq, wd_up_ne, Int.toNat_natCast, Int.toNat_of_nonneg, not_true_eq_false, not_false_eq_true, Option.some.injEq, hpb, wd_l103, wd_l104, wd_l105, wd_l106, wd_l107, wd_l108, wd_l109, wd_l110, wd_l111, wd_l112, wd_l113, wd_l114, wd_l115, wd_l116, wd_l117, wd_l118, wd_l119, wd_l120, wd_l121, wd_l122, wd_l123, wd_l124]); omega)))); (focus (first | exact Or.inl rfl | exact Or.inr rfl)); (intro v9 hv9; (try simp (disch := omega) only [ab_tI, ab_c0, wd_ix12, wd_ix8, wd_ix10, wd_up_self, wd_up_eq, wd_up_ne, Int.toNat_natCast, Int.toNat_of_nonneg, not_true_eq_false, not_false_eq_true, Option.some.injEq, hpb] at hv9); subst hv9))
    | (refine And.intro trivial ?_)
    | (refine And.intro (Or.inl rfl) ?_)
    | (refine And.intro (Or.inr rfl) ?_)
    | (refine And.intro (by ((try simp (disch := omega) only [ab_tI, ab_c0, wd_ix12, wd_ix8, wd_ix10, wd_up_self, wd_up_eq, wd_up_ne, Int.toNat_natCast, Int.toNat_of_nonneg, not_true_eq_false, not_false_eq_true, Option.some.injEq, hpb]); omega)) ?_)
    | fail)
      all_goals first | exact hf | (exfalso; omega)
    · have hy := hy htm
      unfold c_tooM at htm
      have hcc := y_fit_c (d := d) (M := M) (s := s) (w := w) (by omega) (T1 := T1) (I1 := I1) hW2 (a1.inc _ hx1) a2 (a1.inc _ hgv) hwp2 hpp hpb2 hy
      clear hm hf hy
      refine wd_rnC rfl ?_
      intro C9 X9 hC9 hX9
      (have chk9 := @hpb; clear chk9); repeat' ((conv => whnf); first
    | (apply i_getN; (focus (first | exact hpc | exact h3 _ _)); (focus (exact rfl)); (intro v9 hv9; (try simp (disch := omega) only [ab_tI, ab_c0, wd_ix12, wd_ix8, wd_ix10, wd_up_self, wd_up_eq, wd_up_ne, Int.toNat_natCast, Int.toNat_of_nonneg, not_true_eq_false, not_false_eq_true, Option.some.injEq, hpb] at hv9); subst hv9))
    | (apply i_cv; (focus (first | exact hpc | exact h3 _ _)))
    | (apply i_len; (focus (first | exact congrArg ab_len (hpc) | exact congrArg ab_len (h3 _ _))))
    | (apply i_ialN; (focus (first | exact hpc | exact h3 _ _)); (focus (first | exact Or.inl rfl | exact Or.inr rfl)); (focus (exact (by first | exact ⟨by decide, by decide⟩ | ((try simp (disch := omega) only [ab_tI, ab_c0, wd_ix12, wd_ix8, wd_ix10, wd_up_self, wd_up_eq, wd_up_ne, Int.toNat_natCast, Int.toNat_of_nonneg, not_true_eq_false, not_false_eq_true, Option.some.injEq, hpb, wd_l103, wd_l104, wd_l105, wd_l106, wd_l107, wd_l108, wd_l109, wd_l110, wd_l111, wd_l112, wd_l113, wd_l114, wd_l115, wd_l116, wd_l117, wd_l118, wd_l119, wd_l120, wd_l121, wd_l122, wd_l123, wd_l124]); omega)))); (intro v9 hv9; (try simp (disch := omega) only [ab_tI, ab_c0, wd_ix12, wd_ix8, wd_ix10, wd_up_self, wd_up_eq, wd_up_ne, Int.toNat_natCast, Int.toNat_of_nonneg, not_true_eq_false, not_false_eq_true, Option.some.injEq, hpb] at hv9); subst hv9))
    | (apply i_aalN; (focus (first | exact hpc | exact h3 _ _)); (focus (exact (by first | exact ⟨by decide, by decide⟩ | ((try simp (disch := omega) only [ab_tI, ab_c0, wd_ix12, wd_ix8, wd_ix10, wd_up_self, wd_up_eq, wd_up_ne, Int.toNat_natCast, Int.toNat_of_nonneg, not_true_eq_false, not_false_eq_true, Option.some.injEq, hpb, wd_l103, wd_l104, wd_l105, wd_l106, wd_l107, wd_l108, wd_l109, wd_l110, wd_l111, wd_l112, wd_l113, wd_l114, wd_l115, wd_l116, wd_l117, wd_l118, wd_l119, wd_l120, wd_l121, wd_l122, wd_l123, wd_l124]); omega)))); (intro v9 hv9; (try simp (disch := omega) only [ab_tI, ab_c0, wd_ix12, wd_ix8, wd_ix10, wd_up_self, wd_up_eq, wd_up_ne, Int.toNat_natCast, Int.toNat_of_nonneg, not_true_eq_false, not_false_eq_true, Option.some.injEq, hpb] at hv9); subst hv9))
    | (refine hC9 2 _ _ _ (y_focusCount (by omega) ?_))
    | (refine hC9 1 _ _ _ (hch _ ?_))
    | (refine hC9 91 _ _ _ (y_isTooMuch (by omega) hW2 a2 (fun q => absurd q htm) (fun _ _ _ => ?_)))
    | (refine hX9 139 _ _ _ (ab_WB_sub ?_ hcc); (repeat (first | exact ab_sub0 | (refine ab_sub1 ?_ ?_; (focus ((repeat (refine ab_skip rfl ?_)); first | exact List.mem_cons_self))))))
    | (intro v9 hv9; (try simp (disch := omega) only [ab_tI, ab_c0, wd_ix12, wd_ix8, wd_ix10, wd_up_self, wd_up_eq, wd_up_ne, Int.toNat_natCast, Int.toNat_of_nonneg, not_true_eq_false, not_false_eq_true, Option.some.injEq, hpb] at hv9); subst hv9)
    | (apply i_get; (focus (exact rfl)); (focus (exact rfl)))
    | (refine hX9 _ _ _ _ (wd_rnC rfl ?_); clear hC9 hX9 X9 C9; intro C9 X9 hC9 hX9)
    | (apply w_ialM; (focus (exact rfl)); (focus (exact (by first | exact ⟨by decide, by decide⟩ | ((try simp (disch := omega) only [ab_tI, ab_c0, wd_ix12, wd_ix8, wd_ix10, wd_up_self, wd_up_eq, wd_up_ne, Int.toNat_natCast, Int.toNat_of_nonneg, not_true_eq_false, not_false_eq_true, Option.some.injEq, hpb, wd_l103, wd_l104, wd_l105, wd_l106, wd_l107, wd_l108, wd_l109, wd_l110, wd_l111, wd_l112, wd_l113, wd_l114, wd_l115, wd_l116, wd_l117, wd_l118, wd_l119, wd_l120, wd_l121, wd_l122, wd_l123, wd_l124]); omega)))); (intro v9 hv9; (try simp (disch := omega) only [ab_tI, ab_c0, wd_ix12, wd_ix8, wd_ix10, wd_up_self, wd_up_eq, wd_up_ne, Int.toNat_natCast, Int.toNat_of_nonneg, not_true_eq_false, not_false_eq_true, Option.some.injEq, hpb] at hv9); subst hv9))
    | (apply w_putM; (focus (exact rfl)); (focus (first | exact trivial | exact Or.inl rfl | exact Or.inr rfl)); (focus (exact rfl)))
    | (apply w_iasM; (focus (exact rfl)); (focus (exact (by first | exact ⟨by decide, by decide⟩ | ((try simp (disch := omega) only [ab_tI, ab_c0, wd_ix12, wd_ix8, wd_ix10, wd_up_self, wd_up_eq, wd_up_ne, Int.toNat_natCast, Int.toNat_of_nonneg, not_true_eq_false, not_false_eq_true, Option.some.injEq, hpb, wd_l103, wd_l104, wd_l105, wd_l106, wd_l107, wd_l108, wd_l109, wd_l110, wd_l111, wd_l112, wd_l113, wd_l114, wd_l115, wd_l116, wd_l117, wd_l118, wd_l119, wd_l120, wd_l121, wd_l122, wd_l123, wd_l124]); omega)))); (intro v9 hv9; (try simp (disch := omega) only [ab_tI, ab_c0, wd_ix12, wd_ix8, wd_ix10, wd_up_self, wd_up_eq, wd_up_ne, Int.toNat_natCast, Int.toNat_of_nonneg, not_true_eq_false, not_false_eq_true, Option.some.injEq, hpb] at hv9); subst hv9))
    | (refine i_brF (by decide) ?_)
    | (refine i_brT (by decide) ?_)
    | (refine ⟨fun hc => ?_, fun hc => ?_⟩ <;> (try simp (disch := omega) only [ab_tI, ab_c0, wd_ix12, wd_ix8, wd_ix10, wd_up_self, wd_up_eq, wd_up_ne, Int.toNat_natCast, Int.toNat_of_nonneg, not_true_eq_false, not_false_eq_true, Option.some.injEq, hpb] at hc) <;> first | (exfalso; omega) | skip)
    | (apply i_cv; (focus (exact rfl)))
    | (apply i_len; (focus (exact rfl)))
    | (apply w_putI; (focus (exact rfl)); (focus (exact rfl)); (focus (exact rfl)); (focus (first | exact trivial | exact Or.inl rfl | exact Or.inr rfl)); (focus (exact rfl)))
    | (apply w_putP; (focus (exact rfl)); (focus (exact rfl)); (focus (exact rfl)); (focus (exact trivial)); (focus (exact rfl)))
    | (apply i_ialN; (focus (exact rfl)); (focus (first | exact Or.inl rfl | exact Or.inr rfl)); (focus (exact (by first | exact ⟨by decide, by decide⟩ | ((try simp (disch := omega) only [ab_tI, ab_c0, wd_ix12, wd_ix8, wd_ix10, wd_up_self, wd_up_eq, wd_up_ne, Int.toNat_natCast, Int.toNat_of_nonneg, not_true_eq_false, not_false_eq_true, Option.some.injEq, hpb, wd_l103, wd_l104, wd_l105, wd_l106, wd_l107, wd_l108, wd_l109, wd_l110, wd_l111, wd_l112, wd_l113, wd_l114, wd_l115, wd_l116, wd_l117, wd_l118, wd_l119, wd_l120, wd_l121, wd_l122, wd_l123, wd_l124]); omega)))); (intro v9 hv9; (try simp (disch := omega) only [ab_tI, ab_c0, wd_ix12, wd_ix8, wd_ix10, wd_up_self, wd_up_eq, wd_up_ne, Int.toNat_natCast, Int.toNat_of_nonneg, not_true_eq_false, not_false_eq_true, Option.some.injEq, hpb] at hv9); subst hv9))
    | (apply i_aalN; (focus (exact rfl)); (focus (exact (by first | exact ⟨by decide, by decide⟩ | ((try simp (disch := omega) only [ab_tI, ab_c0, wd_ix12, wd_ix8, wd_ix10, wd_up_self, wd_up_eq, wd_up_ne, Int.toNat_natCast, Int.toNat_of_nonneg, not_true_eq_false, not_false_eq_true, Option.some.injEq, hpb, wd_l103, wd_l104, wd_l105, wd_l106, wd_l107, wd_l108, wd_l109, wd_l110, wd_l111, wd_l112, wd_l113, wd_l114, wd_l115, wd_l116, wd_l117, wd_l118, wd_l119, wd_l120, wd_l121, wd_l122, wd_l123, wd_l124]); omega)))); (intro v9 hv9; (try simp (disch := omega) only [ab_tI, ab_c0, wd_ix12, wd_ix8, wd_ix10, wd_up_self, wd_up_eq, wd_up_ne, Int.toNat_natCast, Int.toNat_of_nonneg, not_true_eq_false, not_false_eq_true, Option.some.injEq, hpb] at hv9); subst hv9))
    | (apply w_iasI; (focus (exact rfl)); (focus (exact rfl)); (focus (exact (by first | exact ⟨by decide, by decide⟩ | ((try simp (disch := omega) only [ab_tI, ab_c0, wd_ix12, wd_ix8, wd_ix10, wd_up_self, wd_up_eq, wd_up_ne, Int.toNat_natCast, Int.toNat_of_nonneg, not_true_eq_false, not_false_eq_true, Option.some.injEq, hpb, wd_l103, wd_l104, wd_l105, wd_l106, wd_l107, wd_l108, wd_l109, wd_l110, wd_l111, wd_l112, wd_l113, wd_l114, wd_l115, wd_l116, wd_l117, wd_l118, wd_l119, wd_l120, wd_l121, wd_l122, wd_l123, wd_l124]); omega)))); (focus (intro _; exact rfl)); (intro v9 hv9; (try simp (disch := omega) only [ab_tI, ab_c0, wd_ix12, wd_ix8, wd_ix10, wd_up_self, wd_up_eq, wd_up_ne, Int.toNat_natCast, Int.toNat_of_nonneg, not_true_eq_false, not_false_eq_true, Option.some.injEq, hpb] at hv9); subst hv9))
    | (apply w_balM; (focus (exact (by first | exact ⟨by decide, by decide⟩ | ((try simp (disch := omega) only [ab_tI, ab_c0, wd_ix12, wd_ix8, wd_ix10, wd_up_self, wd_up_eq, wd_up_ne, Int.toNat_natCast, Int.toNat_of_nonneg, not_true_eq_false, not_false_eq_true, Option.some.injEq, hpb, wd_l103, wd_l104, wd_l105, wd_l106, wd_l107, wd_l108, wd_l109, wd_l110, wd_l111, wd_l112, wd_l113, wd_l114, wd_l115, wd_l116, wd_l117, wd_l118, wd_l119, wd_l120, wd_l121, wd_l122, wd_l123, wd_l124]); omega)))); (intro v9 hv9; (try simp (disch := omega) only [ab_tI, ab_c0, wd_ix12, wd_ix8, wd_ix10, wd_up_self, wd_up_eq, wd_up_ne, Int.toNat_natCast, Int.toNat_of_nonneg, not_true_eq_false, not_false_eq_true, Option.some.injEq, hpb] at hv9); subst hv9))
    | (apply w_basM; (focus (exact (by first | exact ⟨by decide, by decide⟩ | ((try simp (disch := omega) only [ab_tI, ab_c0, wd_ix12, wd_ix8, wd_ix10, wd_up_self, wd_up_eq, wd_up_ne, Int.toNat_natCast, Int.toNat_of_nonneg, not_true_eq_false, not_false_eq_true, Option.some.injEq, hpb, wd_l103, wd_l104, wd_l105, wd_l106, wd_l107, wd_l108, wd_l109, wd_l110, wd_l111, wd_l112, wd_l113, wd_l114, wd_l115, wd_l116, wd_l117, wd_l118, wd_l119, wd_l120, wd_l121, wd_l122, wd_l123, wd_l124]); omega)))); (focus (first | exact Or.inl rfl | exact Or.inr rfl)); (intro v9 hv9; (try simp (disch := omega) only [ab_tI, ab_c0, wd_ix12, wd_ix8, wd_ix10, wd_up_self, wd_up_eq, wd_up_ne, Int.toNat_natCast, Int.toNat_of_nonneg, not_true_eq_false, not_false_eq_true, Option.some.injEq, hpb] at hv9); subst hv9))
    | (refine And.intro trivial ?_)
    | (refine And.intro (Or.inl rfl) ?_)
    | (refine And.intro (Or.inr rfl) ?_)
    | (refine And.intro (by ((try simp (disch := omega) only [ab_tI, ab_c0, wd_ix12, wd_ix8, wd_ix10, wd_up_self, wd_up_eq, wd_up_ne, Int.toNat_natCast, Int.toNat_of_nonneg, not_true_eq_false, not_false_eq_true, Option.some.injEq, hpb]); omega)) ?_)
    | fail)
      all_goals (exfalso; omega)
  · have hch := fun Q hq => hch Q (fun q => absurd q hsp) (fun _ => hq)
    have hm := hm hsp
    clear hf hy
    refine wd_rnC rfl ?_
    intro C9 X9 hC9 hX9
    (have chk9 := @hpb; clear chk9); repeat' ((conv => whnf); first
    | (apply i_getN; (focus (first | exact hpc)); (focus (exact rfl)); (intro v9 hv9; (try simp (disch := omega) only [ab_tI, ab_c0, wd_ix12, wd_ix8, wd_ix10, wd_up_self, wd_up_eq, wd_up_ne, Int.toNat_natCast, Int.toNat_of_nonneg, not_true_eq_false, not_false_eq_true, Option.some.injEq, hpb] at hv9); subst hv9))
    | (apply i_cv; (focus (first | exact hpc)))
    | (apply i_len; (focus (first | exact congrArg ab_len (hpc))))
    | (apply i_ialN; (focus (first | exact hpc)); (focus (first | exact Or.inl rfl | exact Or.inr rfl)); (focus (exact (by first | exact ⟨by decide, by decide⟩ | ((try simp (disch := omega) only [ab_tI, ab_c0, wd_ix12, wd_ix8, wd_ix10, wd_up_self, wd_up_eq, wd_up_ne, Int.toNat_natCast, Int.toNat_of_nonneg, not_true_eq_false, not_false_eq_true, Option.some.injEq, hpb, wd_l103, wd_l104, wd_l105, wd_l106, wd_l107, wd_l108, wd_l109, wd_l110, wd_l111, wd_l112, wd_l113, wd_l114, wd_l115, wd_l116, wd_l117, wd_l118, wd_l119, wd_l120, wd_l121, wd_l122, wd_l123, wd_l124]); omega)))); (intro v9 hv9; (try simp (disch := omega) only [ab_tI, ab_c0, wd_ix12, wd_ix8, wd_ix10, wd_up_self, wd_up_eq, wd_up_ne, Int.toNat_natCast, Int.toNat_of_nonneg, not_true_eq_false, not_false_eq_true, Option.some.injEq, hpb] at hv9); subst hv9))
    | (apply i_aalN; (focus (first | exact hpc)); (focus (exact (by first | exact ⟨by decide, by decide⟩ | ((try simp (disch := omega) only [ab_tI, ab_c0, wd_ix12, wd_ix8, wd_ix10, wd_up_self, wd_up_eq, wd_up_ne, Int.toNat_natCast, Int.toNat_of_nonneg, not_true_eq_false, not_false_eq_true, Option.some.injEq, hpb, wd_l103, wd_l104, wd_l105, wd_l106, wd_l107, wd_l108, wd_l109, wd_l110, wd_l111, wd_l112, wd_l113, wd_l114, wd_l115, wd_l116, wd_l117, wd_l118, wd_l119, wd_l120, wd_l121, wd_l122, wd_l123, wd_l124]); omega)))); (intro v9 hv9; (try simp (disch := omega) only [ab_tI, ab_c0, wd_ix12, wd_ix8, wd_ix10, wd_up_self, wd_up_eq, wd_up_ne, Int.toNat_natCast, Int.toNat_of_nonneg, not_true_eq_false, not_false_eq_true, Option.some.injEq, hpb] at hv9); subst hv9))
    | (refine hC9 2 _ _ _ (y_focusCount (by omega) ?_))
    | (refine hC9 1 _ _ _ (hch _ ?_))
    | (intro v9 hv9; (try simp (disch := omega) only [ab_tI, ab_c0, wd_ix12, wd_ix8, wd_ix10, wd_up_self, wd_up_eq, wd_up_ne, Int.toNat_natCast, Int.toNat_of_nonneg, not_true_eq_false, not_false_eq_true, Option.some.injEq, hpb] at hv9); subst hv9)
    | (apply i_get; (focus (exact rfl)); (focus (exact rfl)))
    | (refine hX9 _ _ _ _ (wd_rnC rfl ?_); clear hC9 hX9 X9 C9; intro C9 X9 hC9 hX9)
    | (apply w_ialM; (focus (exact rfl)); (focus (exact (by first | exact ⟨by decide, by decide⟩ | ((try simp (disch := omega) only [ab_tI, ab_c0, wd_ix12, wd_ix8, wd_ix10, wd_up_self, wd_up_eq, wd_up_ne, Int.toNat_natCast, Int.toNat_of_nonneg, not_true_eq_false, not_false_eq_true, Option.some.injEq, hpb, wd_l103, wd_l104, wd_l105, wd_l106, wd_l107, wd_l108, wd_l109, wd_l110, wd_l111, wd_l112, wd_l113, wd_l114, wd_l115, wd_l116, wd_l117, wd_l118, wd_l119, wd_l120, wd_l121, wd_l122, wd_l123, wd_l124]); omega)))); (intro v9 hv9; (try simp (disch := omega) only [ab_tI, ab_c0, wd_ix12, wd_ix8, wd_ix10, wd_up_self, wd_up_eq, wd_up_ne, Int.toNat_natCast, Int.toNat_of_nonneg, not_true_eq_false, not_false_eq_true, Option.some.injEq, hpb] at hv9); subst hv9))
    | (apply w_putM; (focus (exact rfl)); (focus (first | exact trivial | exact Or.inl rfl | exact Or.inr rfl)); (focus (exact rfl)))
    | (apply w_iasM; (focus (exact rfl)); (focus (exact (by first | exact ⟨by decide, by decide⟩ | ((try simp (disch := omega) only [ab_tI, ab_c0, wd_ix12, wd_ix8, wd_ix10, wd_up_self, wd_up_eq, wd_up_ne, Int.toNat_natCast, Int.toNat_of_nonneg, not_true_eq_false, not_false_eq_true, Option.some.injEq, hpb, wd_l103, wd_l104, wd_l105, wd_l106, wd_l107, wd_l108, wd_l109, wd_l110, wd_l111, wd_l112, wd_l113, wd_l114, wd_l115, wd_l116, wd_l117, wd_l118, wd_l119, wd_l120, wd_l121, wd_l122, wd_l123, wd_l124]); omega)))); (intro v9 hv9; (try simp (disch := omega) only [ab_tI, ab_c0, wd_ix12, wd_ix8, wd_ix10, wd_up_self, wd_up_eq, wd_up_ne, Int.toNat_natCast, Int.toNat_of_nonneg, not_true_eq_false, not_false_eq_true, Option.some.injEq, hpb] at hv9); subst hv9))
    | (refine i_brF (by decide) ?_)
    | (refine i_brT (by decide) ?_)
    | (refine ⟨fun hc => ?_, fun hc => ?_⟩ <;> (try simp (disch := omega) only [ab_tI, ab_c0, wd_ix12, wd_ix8, wd_ix10, wd_up_self, wd_up_eq, wd_up_ne, Int.toNat_natCast, Int.toNat_of_nonneg, not_true_eq_false, not_false_eq_true, Option.some.injEq, hpb] at hc) <;> first | (exfalso; omega) | skip)
    | (apply i_cv; (focus (exact rfl)))
    | (apply i_len; (focus (exact rfl)))
    | (apply w_putI; (focus (exact rfl)); (focus (exact rfl)); (focus (exact rfl)); (focus (first | exact trivial | exact Or.inl rfl | exact Or.inr rfl)); (focus (exact rfl)))
    | (apply w_putP; (focus (exact rfl)); (focus (exact rfl)); (focus (exact rfl)); (focus (exact trivial)); (focus (exact rfl)))
    | (apply i_ialN; (focus (exact rfl)); (focus (first | exact Or.inl rfl | exact Or.inr rfl)); (focus (exact (by first | exact ⟨by decide, by decide⟩ | ((try simp (disch := omega) only [ab_tI, ab_c0, wd_ix12, wd_ix8, wd_ix10, wd_up_self, wd_up_eq, wd_up_ne, Int.toNat_natCast, Int.toNat_of_nonneg, not_true_eq_false, not_false_eq_true, Option.some.injEq, hpb, wd_l103, wd_l104, wd_l105, wd_l106, wd_l107, wd_l108, wd_l109, wd_l110, wd_l111, wd_l112, wd_l113, wd_l114, wd_l115, wd_l116, wd_l117, wd_l118, wd_l119, wd_l120, wd_l121, wd_l122, wd_l123, wd_l124]); omega)))); (intro v9 hv9; (try simp (disch := omega) only [ab_tI, ab_c0, wd_ix12, wd_ix8, wd_ix10, wd_up_self, wd_up_eq, wd_up_ne, Int.toNat_natCast, Int.toNat_of_nonneg, not_true_eq_false, not_false_eq_true, Option.some.injEq, hpb] at hv9); subst hv9))
    | (apply i_aalN; (focus (exact rfl)); (focus (exact (by first | exact ⟨by decide, by decide⟩ | ((try simp (disch := omega) only [ab_tI, ab_c0, wd_ix12, wd_ix8, wd_ix10, wd_up_self, wd_up_eq, wd_up_ne, Int.toNat_natCast, Int.toNat_of_nonneg, not_true_eq_false, not_false_eq_true, Option.some.injEq, hpb, wd_l103, wd_l104, wd_l105, wd_l106, wd_l107, wd_l108, wd_l109, wd_l110, wd_l111, wd_l112, wd_l113, wd_l114, wd_l115, wd_l116, wd_l117, wd_l118, wd_l119, wd_l120, wd_l121, wd_l122, wd_l123, wd_l124]); omega)))); (intro v9 hv9; (try simp (disch := omega) only [ab_tI, ab_c0, wd_ix12, wd_ix8, wd_ix10, wd_up_self, wd_up_eq, wd_up_ne, Int.toNat_natCast, Int.toNat_of_nonneg, not_true_eq_false, not_false_eq_true, Option.some.injEq, hpb] at hv9); subst hv9))
    | (apply w_iasI; (focus (exact rfl)); (focus (exact rfl)); (focus (exact (by first | exact ⟨by decide, by decide⟩ | ((try simp (disch := omega) only [ab_tI, ab_c0, wd_ix12, wd_ix8, wd_ix10, wd_up_self, wd_up_eq, wd_up_ne, Int.toNat_natCast, Int.toNat_of_nonneg, not_true_eq_false, not_false_eq_true, Option.some.injEq, hpb, wd_l103, wd_l104, wd_l105, wd_l106, wd_l107, wd_l108, wd_l109, wd_l110, wd_l111, wd_l112, wd_l113, wd_l114, wd_l115, wd_l116, wd_l117, wd_l118, wd_l119, wd_l120, wd_l121, wd_l122, wd_l123, wd_l124]); omega)))); (focus (intro _; exact rfl)); (intro v9 hv9; (try simp (disch := omega) only [ab_tI, ab_c0, wd_ix12, wd_ix8, wd_ix10, wd_up_self, wd_up_eq, wd_up_ne, Int.toNat_natCast, Int.toNat_of_nonneg, not_true_eq_false, not_false_eq_true, Option.some.injEq, hpb] at hv9); subst hv9))
    | (apply w_balM; (focus (exact (by first | exact ⟨by decide, by decide⟩ | ((try simp (disch := omega) only [ab_tI, ab_c0, wd_ix12, wd_ix8, wd_ix10, wd_up_self, wd_up_eq, wd_up_ne, Int.toNat_natCast, Int.toNat_of_nonneg, not_true_eq_false, not_false_eq_true, Option.some.injEq, hpb, wd_l103, wd_l104, wd_l105, wd_l106, wd_l107, wd_l108, wd_l109, wd_l110, wd_l111, wd_l112, wd_l113, wd_l114, wd_l115, wd_l116, wd_l117, wd_l118, wd_l119, wd_l120, wd_l121, wd_l122, wd_l123, wd_l124]); omega)))); (intro v9 hv9; (try simp (disch := omega) only [ab_tI, ab_c0, wd_ix12, wd_ix8, wd_ix10, wd_up_self, wd_up_eq, wd_up_ne, Int.toNat_natCast, Int.toNat_of_nonneg, not_true_eq_false, not_false_eq_true, Option.some.injEq, hpb] at hv9); subst hv9))
    | (apply w_basM; (focus (exact (by first | exact ⟨by decide, by decide⟩ | ((try simp (disch := omega) only [ab_tI, ab_c0, wd_ix12, wd_ix8, wd_ix10, wd_up_self, wd_up_eq, wd_up_ne, Int.toNat_natCast, Int.toNat_of_nonneg, not_true_eq_false, not_false_eq_true, Option.some.injEq, hpb, wd_l103, wd_l104, wd_l105, wd_l106, wd_l107, wd_l108, wd_l109, wd_l110, wd_l111, wd_l112, wd_l113, wd_l114, wd_l115, wd_l116, wd_l117, wd_l118, wd_l119, wd_l120, wd_l121, wd_l122, wd_l123, wd_l124]); omega)))); (focus (first | exact Or.inl rfl | exact Or.inr rfl)); (intro v9 hv9; (try simp (disch := omega) only [ab_tI, ab_c0, wd_ix12, wd_ix8, wd_ix10, wd_up_self, wd_up_eq, wd_up_ne, Int.toNat_natCast, Int.toNat_of_nonneg, not_true_eq_false, not_false_eq_true, Option.some.injEq, hpb] at hv9); subst hv9))
    | (refine And.intro trivial ?_)
    | (refine And.intro (Or.inl rfl) ?_)
    | (refine And.intro (Or.inr rfl) ?_)
    | (refine And.intro (by ((try simp (disch := omega) only [ab_tI, ab_c0, wd_ix12, wd_ix8, wd_ix10, wd_up_self, wd_up_eq, wd_up_ne, Int.toNat_natCast, Int.toNat_of_nonneg, not_true_eq_false, not_false_eq_true, Option.some.injEq, hpb]); omega)) ?_)
    | fail)
    all_goals first | exact hm | (exfalso; omega)
theorem c_cP_cP {P : wd_P} {p : Nat} {o : Option Nat} : c_cP (c_cP P p o) p o = c_cP P p o := by
  unfold c_cP
  rw [wd_up_id (wd_up (wd_up P 10 1 (some p)) 10 4 o) (a := 10) (j := 1) (v := some p) (by rw [wd_up_ne _ _ (by omega), wd_up_self]), wd_up_id _ (wd_up_self _ _ _ _)]
set_option maxHeartbeats 4000000 in
set_option maxRecDepth 100000 in
theorem y_fit (hd : 98 ≤ d) (hW : c_W T g k) (h125 : 125 ≤ k) (h0 : 0 ≤ (I 9 0).toInt ∧ (I 9 0).toInt ≤ 3000) (hro : c_ro 82 (I, g, k, z)) {s pp w : Int32} {a p gv : Nat} (hbad : ¬ (c_sh s ∧ c_pp pp ∧ c_sh w) → Q (some (.inl (ab_ii (-2)))) (wd I P M g, k, z)) (ha : c_sh s → P (18 + 5 * s.toInt.toNat) 2 = some a ∧ T a) (hb : c_pp pp → P 8 pp.toInt.toNat = some p ∧ p_wf g k p) (hg : c_sh w → P (18 + 5 * w.toInt.toNat) 2 = some gv ∧ T gv)
  (hm1 : (c_sh s ∧ c_pp pp ∧ c_sh w) → ¬ ((c_F1 gv p a (I, g, k, z)).2.1 10 6).toInt = 0 → Q (some (.inl (ab_ii (-17)))) (c_S (c_fP P p gv) M (c_F1 gv p a (I, g, k, z)).2))
  (hf1 : (c_sh s ∧ c_pp pp ∧ c_sh w) → ((c_F1 gv p a (I, g, k, z)).2.1 10 6).toInt = 0 → c_tooM (c_F1 gv p a (I, g, k, z)).2.2.1 (c_F1 gv p a (I, g, k, z)).1 → Q (some (.inl (ab_ii (-4)))) (c_S (c_fP P p gv) M (c_F1 gv p a (I, g, k, z)).2))
  (hm2 : (c_sh s ∧ c_pp pp ∧ c_sh w) → ((c_F1 gv p a (I, g, k, z)).2.1 10 6).toInt = 0 → ¬ c_tooM (c_F1 gv p a (I, g, k, z)).2.2.1 (c_F1 gv p a (I, g, k, z)).1 → ¬ ((c_F2 gv p a (I, g, k, z)).2.1 10 6).toInt = 0 → Q (some (.inl (ab_ii (-17)))) (c_S (c_fP P p gv) M (c_F2 gv p a (I, g, k, z)).2))
  (hf2 : (c_sh s ∧ c_pp pp ∧ c_sh w) → ((c_F1 gv p a (I, g, k, z)).2.1 10 6).toInt = 0 → ¬ c_tooM (c_F1 gv p a (I, g, k, z)).2.2.1 (c_F1 gv p a (I, g, k, z)).1 → ((c_F2 gv p a (I, g, k, z)).2.1 10 6).toInt = 0 → c_tooM (c_F2 gv p a (I, g, k, z)).2.2.1 (c_F2 gv p a (I, g, k, z)).1 → Q (some (.inl (ab_ii (-4)))) (c_S (c_fP P p gv) M (c_F2 gv p a (I, g, k, z)).2))
  (hy2 : (c_sh s ∧ c_pp pp ∧ c_sh w) → ((c_F1 gv p a (I, g, k, z)).2.1 10 6).toInt = 0 → ¬ c_tooM (c_F1 gv p a (I, g, k, z)).2.2.1 (c_F1 gv p a (I, g, k, z)).1 → ((c_F2 gv p a (I, g, k, z)).2.1 10 6).toInt = 0 → ¬ c_tooM (c_F2 gv p a (I, g, k, z)).2.2.1 (c_F2 gv p a (I, g, k, z)).1 → Q (some (.inl (c_fA (c_F2 gv p a (I, g, k, z)).2.2.1 (c_fs41 (c_F2 gv p a (I, g, k, z)).2.2.1 p (c_F1 gv p a (I, g, k, z)).1) gv (c_F1 gv p a (I, g, k, z)).1 (c_F2 gv p a (I, g, k, z)).1 ((c_F1 gv p a (I, g, k, z)).2.1 10 5).toInt))) (c_S (f_fnd (c_F2 gv p a (I, g, k, z)).2.1 (c_fP P p gv) (c_F2 gv p a (I, g, k, z)).2.2.1 p (c_F1 gv p a (I, g, k, z)).1).2 M ((f_fnd (c_F2 gv p a (I, g, k, z)).2.1 (c_fP P p gv) (c_F2 gv p a (I, g, k, z)).2.2.1 p (c_F1 gv p a (I, g, k, z)).1).1, (c_F2 gv p a (I, g, k, z)).2.2))) : ab_CT d 119 [wd_v 0, .inl s, .inl pp, .inl w] (wd I P M g, k, z) Q := by
  by_cases hall : c_sh s ∧ c_pp pp ∧ c_sh w
  · obtain ⟨hs9, hp9, hw9⟩ := id hall
    obtain ⟨hs0, hs1⟩ := id hs9
    obtain ⟨hp0, hp1⟩ := id hp9
    obtain ⟨hw0, hw1⟩ := id hw9
    obtain ⟨hpx, hTx⟩ := ha hs9
    obtain ⟨hpb, hwb⟩ := hb hp9
    obtain ⟨hpg, hTg⟩ := hg hw9
    have hm1 := hm1 hall
    have hf1 := hf1 hall
    have hm2 := hm2 hall
    have hf2 := hf2 hall
    have hy2 := hy2 hall
    have hgd := c_R_gd (z := z) (how := ab_ii 7) (n := ab_ii 0) (p := p) hW h125 hTx h0 (fun q => hTg)
    have hch := fun (Q : ab_Q) q1 q2 => y_change (d := d - 1) (I := I) (P := P) (M := M) (g := g) (k := k) (z := z) (Q := Q) (n := ab_ii 0) (how := ab_ii 7) (gv := gv) (o := some gv) (by omega) hW h125 hTx hwb h0 (by rw [c_7]; omega) (fun _ => ⟨hTg, rfl⟩) hro q1 q2
    change ∀ (Q : ab_Q), (((c_F1 gv p a (I, g, k, z)).2.1 10 6).toInt = 0 → Q (some (wd_v (c_F1 gv p a (I, g, k, z)).1)) (c_S (c_fP P p gv) M (c_F1 gv p a (I, g, k, z)).2)) → (¬ ((c_F1 gv p a (I, g, k, z)).2.1 10 6).toInt = 0 → Q (some (.inr (.inr none))) (c_S (c_fP P p gv) M (c_F1 gv p a (I, g, k, z)).2)) → _ at hch
    change c_gd T 82 (c_cI I (ab_ii 7) (ab_ii 0), g, k, z) (c_F1 gv p a (I, g, k, z)) at hgd
    have hcI := c_cI_e (I := I) (how := ab_ii 7) (n := ab_ii 0)
    have hro1 := fun hs => c_ro_gd hgd (by unfold c_ro at *; dsimp only at *; rw [hcI.1]; exact hro) hs
    obtain ⟨T1, a1, a2, a3⟩ := hgd
    unfold c_F2 at hm2 hf2 hy2
    generalize c_F1 gv p a (I, g, k, z) = R at *
    obtain ⟨x1, I1, g1, k1, z1⟩ := R
    dsimp only at *
    have hW1 : c_W T1 g1 k1 := a1.wf
    have hkk : k ≤ k1 := a1.kk
    have hwp1 := (p_wf_xt hwb a1.ofr hkk).1
    have hpc := p_c (I := I) (P := P) (M := M) (z := z) (k' := k) hwb c_ofr.rf
    have h3 := fun (I' : wd_I) (P' : wd_P) => c_W_c (I := I') (P := P') (M := M) (z := z1) hW1 a2
    have hpb1 : c_fP P p gv 8 pp.toInt.toNat = some p := (c_cP_ne (by omega)).trans hpb
    clear hbad ha hb hg
    by_cases hsp : (I1 10 6).toInt = 0
    · have hch := fun Q hq => hch Q (fun _ => hq) (fun q => absurd hsp q)
      have hf1 := hf1 hsp
      have hm2 := hm2 hsp
      have hf2 := hf2 hsp
      have hy2 := hy2 hsp
      by_cases htm : c_tooM g1 x1
      · have hf1 := hf1 htm
        unfold c_tooM at htm
        clear hm1 hm2 hf2 hy2
        unfold c_S at hch hf1
        dsimp only at hch hf1
        refine wd_inC rfl (by omega) rfl ?_
        intro C9 X9 hC9 hX9
        (have chk9 := @hpb; clear chk9); repeat' ((conv => whnf); first
    | (apply i_getN; (focus (first | exact hpc | exact h3 _ _)); (focus (exact rfl)); (intro v9 hv9; (try simp (disch := omega) only [ab_tI, ab_c0, wd_ix12, wd_ix8, wd_ix10, wd_up_self, wd_up_eq, wd_up_ne, Int.toNat_natCast, Int.toNat_of_nonneg, not_true_eq_false, not_false_eq_true, Option.some.injEq, hpb] at hv9); subst hv9))
    | (apply i_cv; (focus (first | exact hpc | exact h3 _ _)))
    | (apply i_len; (focus (first | exact congrArg ab_len (hpc) | exact congrArg ab_len (h3 _ _))))
    | (apply i_ialN; (focus (first | exact hpc | exact h3 _ _)); (focus (first | exact Or.inl rfl | exact Or.inr rfl)); (focus (exact (by first | exact ⟨by decide, by decide⟩ | ((try simp (disch := omega) only [ab_tI, ab_c0, wd_ix12, wd_ix8, wd_ix10, wd_up_self, wd_up_eq, wd_up_ne, Int.toNat_natCast, Int.toNat_of_nonneg, not_true_eq_false, not_false_eq_true, Option.some.injEq, hpb, wd_l103, wd_l104, wd_l105, wd_l106, wd_l107, wd_l108, wd_l109, wd_l110, wd_l111, wd_l112, wd_l113, wd_l114, wd_l115, wd_l116, wd_l117, wd_l118, wd_l119, wd_l120, wd_l121, wd_l122, wd_l123, wd_l124]); omega)))); (intro v9 hv9; (try simp (disch := omega) only [ab_tI, ab_c0, wd_ix12, wd_ix8, wd_ix10, wd_up_self, wd_up_eq, wd_up_ne, Int.toNat_natCast, Int.toNat_of_nonneg, not_true_eq_false, not_false_eq_true, Option.some.injEq, hpb] at hv9); subst hv9))
    | (apply i_aalN; (focus (first | exact hpc | exact h3 _ _)); (focus (exact (by first | exact ⟨by decide, by decide⟩ | ((try simp (disch := omega) only [ab_tI, ab_c0, wd_ix12, wd_ix8, wd_ix10, wd_up_self, wd_up_eq, wd_up_ne, Int.toNat_natCast, Int.toNat_of_nonneg, not_true_eq_false, not_false_eq_true, Option.some.injEq, hpb, wd_l103, wd_l104, wd_l105, wd_l106, wd_l107, wd_l108, wd_l109, wd_l110, wd_l111, wd_l112, wd_l113, wd_l114, wd_l115, wd_l116, wd_l117, wd_l118, wd_l119, wd_l120, wd_l121, wd_l122, wd_l123, wd_l124]); omega)))); (intro v9 hv9; (try simp (disch := omega) only [ab_tI, ab_c0, wd_ix12, wd_ix8, wd_ix10, wd_up_self, wd_up_eq, wd_up_ne, Int.toNat_natCast, Int.toNat_of_nonneg, not_true_eq_false, not_false_eq_true, Option.some.injEq, hpb] at hv9); subst hv9))
    | (refine hC9 123 _ _ _ (y_isShelf (by omega) (fun _ _ => ?_) (fun q => by exfalso; omega)))
    | (refine hC9 124 _ _ _ (y_isPath (by omega) (fun _ _ => ?_) (fun q => by exfalso; omega)))
    | (refine hC9 126 _ _ _ (y_heldS (by omega) hs9 hpx ?_))
    | (refine hC9 126 _ _ _ (y_heldS (by omega) hw9 hpg ?_))
    | (refine hC9 1 _ _ _ (hch _ ?_))
    | (refine hC9 91 _ _ _ (y_isTooMuch (by omega) hW1 a2 (fun _ => ?_) (fun q1 q2 q3 => by exfalso; omega)))
    | (refine hX9 82 _ _ _ ?_; exfalso; omega)
    | (intro v9 hv9; (try simp (disch := omega) only [ab_tI, ab_c0, wd_ix12, wd_ix8, wd_ix10, wd_up_self, wd_up_eq, wd_up_ne, Int.toNat_natCast, Int.toNat_of_nonneg, not_true_eq_false, not_false_eq_true, Option.some.injEq, hpb] at hv9); subst hv9)
    | (apply i_get; (focus (exact rfl)); (focus (exact rfl)))
    | (refine hX9 _ _ _ _ (wd_rnC rfl ?_); clear hC9 hX9 X9 C9; intro C9 X9 hC9 hX9)
    | (apply w_ialM; (focus (exact rfl)); (focus (exact (by first | exact ⟨by decide, by decide⟩ | ((try simp (disch := omega) only [ab_tI, ab_c0, wd_ix12, wd_ix8, wd_ix10, wd_up_self, wd_up_eq, wd_up_ne, Int.toNat_natCast, Int.toNat_of_nonneg, not_true_eq_false, not_false_eq_true, Option.some.injEq, hpb, wd_l103, wd_l104, wd_l105, wd_l106, wd_l107, wd_l108, wd_l109, wd_l110, wd_l111, wd_l112, wd_l113, wd_l114, wd_l115, wd_l116, wd_l117, wd_l118, wd_l119, wd_l120, wd_l121, wd_l122, wd_l123, wd_l124]); omega)))); (intro v9 hv9; (try simp (disch := omega) only [ab_tI, ab_c0, wd_ix12, wd_ix8, wd_ix10, wd_up_self, wd_up_eq, wd_up_ne, Int.toNat_natCast, Int.toNat_of_nonneg, not_true_eq_false, not_false_eq_true, Option.some.injEq, hpb] at hv9); subst hv9))
    | (apply w_putM; (focus (exact rfl)); (focus (first | exact trivial | exact Or.inl rfl | exact Or.inr rfl)); (focus (exact rfl)))
    | (apply w_iasM; (focus (exact rfl)); (focus (exact (by first | exact ⟨by decide, by decide⟩ | ((try simp (disch := omega) only [ab_tI, ab_c0, wd_ix12, wd_ix8, wd_ix10, wd_up_self, wd_up_eq, wd_up_ne, Int.toNat_natCast, Int.toNat_of_nonneg, not_true_eq_false, not_false_eq_true, Option.some.injEq, hpb, wd_l103, wd_l104, wd_l105, wd_l106, wd_l107, wd_l108, wd_l109, wd_l110, wd_l111, wd_l112, wd_l113, wd_l114, wd_l115, wd_l116, wd_l117, wd_l118, wd_l119, wd_l120, wd_l121, wd_l122, wd_l123, wd_l124]); omega)))); (intro v9 hv9; (try simp (disch := omega) only [ab_tI, ab_c0, wd_ix12, wd_ix8, wd_ix10, wd_up_self, wd_up_eq, wd_up_ne, Int.toNat_natCast, Int.toNat_of_nonneg, not_true_eq_false, not_false_eq_true, Option.some.injEq, hpb] at hv9); subst hv9))
    | (refine i_brF (by decide) ?_)
    | (refine i_brT (by decide) ?_)
    | (refine ⟨fun hc => ?_, fun hc => ?_⟩ <;> (try simp (disch := omega) only [ab_tI, ab_c0, wd_ix12, wd_ix8, wd_ix10, wd_up_self, wd_up_eq, wd_up_ne, Int.toNat_natCast, Int.toNat_of_nonneg, not_true_eq_false, not_false_eq_true, Option.some.injEq, hpb] at hc) <;> first | (exfalso; omega) | skip)
    | (apply i_cv; (focus (exact rfl)))
    | (apply i_len; (focus (exact rfl)))
    | (apply w_putI; (focus (exact rfl)); (focus (exact rfl)); (focus (exact rfl)); (focus (first | exact trivial | exact Or.inl rfl | exact Or.inr rfl)); (focus (exact rfl)))
    | (apply w_putP; (focus (exact rfl)); (focus (exact rfl)); (focus (exact rfl)); (focus (exact trivial)); (focus (exact rfl)))
    | (apply i_ialN; (focus (exact rfl)); (focus (first | exact Or.inl rfl | exact Or.inr rfl)); (focus (exact (by first | exact ⟨by decide, by decide⟩ | ((try simp (disch := omega) only [ab_tI, ab_c0, wd_ix12, wd_ix8, wd_ix10, wd_up_self, wd_up_eq, wd_up_ne, Int.toNat_natCast, Int.toNat_of_nonneg, not_true_eq_false, not_false_eq_true, Option.some.injEq, hpb, wd_l103, wd_l104, wd_l105, wd_l106, wd_l107, wd_l108, wd_l109, wd_l110, wd_l111, wd_l112, wd_l113, wd_l114, wd_l115, wd_l116, wd_l117, wd_l118, wd_l119, wd_l120, wd_l121, wd_l122, wd_l123, wd_l124]); omega)))); (intro v9 hv9; (try simp (disch := omega) only [ab_tI, ab_c0, wd_ix12, wd_ix8, wd_ix10, wd_up_self, wd_up_eq, wd_up_ne, Int.toNat_natCast, Int.toNat_of_nonneg, not_true_eq_false, not_false_eq_true, Option.some.injEq, hpb] at hv9); subst hv9))
    | (apply i_aalN; (focus (exact rfl)); (focus (exact (by first | exact ⟨by decide, by decide⟩ | ((try simp (disch := omega) only [ab_tI, ab_c0, wd_ix12, wd_ix8, wd_ix10, wd_up_self, wd_up_eq, wd_up_ne, Int.toNat_natCast, Int.toNat_of_nonneg, not_true_eq_false, not_false_eq_true, Option.some.injEq, hpb, wd_l103, wd_l104, wd_l105, wd_l106, wd_l107, wd_l108, wd_l109, wd_l110, wd_l111, wd_l112, wd_l113, wd_l114, wd_l115, wd_l116, wd_l117, wd_l118, wd_l119, wd_l120, wd_l121, wd_l122, wd_l123, wd_l124]); omega)))); (intro v9 hv9; (try simp (disch := omega) only [ab_tI, ab_c0, wd_ix12, wd_ix8, wd_ix10, wd_up_self, wd_up_eq, wd_up_ne, Int.toNat_natCast, Int.toNat_of_nonneg, not_true_eq_false, not_false_eq_true, Option.some.injEq, hpb] at hv9); subst hv9))
    | (apply w_iasI; (focus (exact rfl)); (focus (exact rfl)); (focus (exact (by first | exact ⟨by decide, by decide⟩ | ((try simp (disch := omega) only [ab_tI, ab_c0, wd_ix12, wd_ix8, wd_ix10, wd_up_self, wd_up_eq, wd_up_ne, Int.toNat_natCast, Int.toNat_of_nonneg, not_true_eq_false, not_false_eq_true, Option.some.injEq, hpb, wd_l103, wd_l104, wd_l105, wd_l106, wd_l107, wd_l108, wd_l109, wd_l110, wd_l111, wd_l112, wd_l113, wd_l114, wd_l115, wd_l116, wd_l117, wd_l118, wd_l119, wd_l120, wd_l121, wd_l122, wd_l123, wd_l124]); omega)))); (focus (intro _; exact rfl)); (intro v9 hv9; (try simp (disch := omega) only [ab_tI, ab_c0, wd_ix12, wd_ix8, wd_ix10, wd_up_self, wd_up_eq, wd_up_ne, Int.toNat_natCast, Int.toNat_of_nonneg, not_true_eq_false, not_false_eq_true, Option.some.injEq, hpb] at hv9); subst hv9))
    | (apply w_balM; (focus (exact (by first | exact ⟨by decide, by decide⟩ | ((try simp (disch := omega) only [ab_tI, ab_c0, wd_ix12, wd_ix8, wd_ix10, wd_up_self, wd_up_eq, wd_up_ne, Int.toNat_natCast, Int.toNat_of_nonneg, not_true_eq_false, not_false_eq_true, Option.some.injEq, hpb, wd_l103, wd_l104, wd_l105, wd_l106, wd_l107, wd_l108, wd_l109, wd_l110, wd_l111, wd_l112, wd_l113, wd_l114, wd_l115, wd_l116, wd_l117, wd_l118, wd_l119, wd_l120, wd_l121, wd_l122, wd_l123, wd_l124]); omega)))); (intro v9 hv9; (try simp (disch := omega) only [ab_tI, ab_c0, wd_ix12, wd_ix8, wd_ix10, wd_up_self, wd_up_eq, wd_up_ne, Int.toNat_natCast, Int.toNat_of_nonneg, not_true_eq_false, not_false_eq_true, Option.some.injEq, hpb] at hv9); subst hv9))
    | (apply w_basM; (focus (exact (by first | exact ⟨by decide, by decide⟩ | ((try simp (disch := omega) only [ab_tI, ab_c0, wd_ix12, wd_ix8, wd_ix10, wd_up_self, wd_up_eq, wd_up_ne, Int.toNat_natCast, Int.toNat_of_nonneg, not_true_eq_false, not_false_eq_true, Option.some.injEq, hpb, wd_l103, wd_l104, wd_l105, wd_l106, wd_l107, wd_l108, wd_l109, wd_l110, wd_l111, wd_l112, wd_l113, wd_l114, wd_l115, wd_l116, wd_l117, wd_l118, wd_l119, wd_l120, wd_l121, wd_l122, wd_l123, wd_l124]); omega)))); (focus (first | exact Or.inl rfl | exact Or.inr rfl)); (intro v9 hv9; (try simp (disch := omega) only [ab_tI, ab_c0, wd_ix12, wd_ix8, wd_ix10, wd_up_self, wd_up_eq, wd_up_ne, Int.toNat_natCast, Int.toNat_of_nonneg, not_true_eq_false, not_false_eq_true, Option.some.injEq, hpb] at hv9); subst hv9))
    | (refine And.intro trivial ?_)
    | (refine And.intro (Or.inl rfl) ?_)
    | (refine And.intro (Or.inr rfl) ?_)
    | (refine And.intro (by ((try simp (disch := omega) only [ab_tI, ab_c0, wd_ix12, wd_ix8, wd_ix10, wd_up_self, wd_up_eq, wd_up_ne, Int.toNat_natCast, Int.toNat_of_nonneg, not_true_eq_false, not_false_eq_true, Option.some.injEq, hpb]); omega)) ?_)
    | fail)
        all_goals first | exact hf1 | (exfalso; omega)
      · have hm2 := hm2 htm
        have hf2 := hf2 htm
        have hy2 := hy2 htm
        have e9 : 0 ≤ (I1 9 0).toInt ∧ (I1 9 0).toInt ≤ 3000 := by
          have h4 := a3.1
          dsimp only at h4
          rw [hcI.1] at h4
          omega
        have hfP : c_fP (c_fP P p gv) p gv = c_fP P p gv := c_cP_cP
        have hbb := y_fit_b (d := d) (M := M) (P := c_fP P p gv) (Q := Q) (s := s) (w := w) (by omega) hW1 (Nat.le_trans h125 hkk) e9 (hro1 hsp) a2 (a1.inc _ hTg) hwp1 hp9 hpb1 (by rw [hfP]; exact hm2) (by rw [hfP]; exact hf2) (by rw [hfP]; exact hy2)
        unfold c_tooM at htm
        clear hm1 hm2 hf2 hy2 hf1
        unfold c_S at hch
        dsimp only at hch
        refine wd_inC rfl (by omega) rfl ?_
        intro C9 X9 hC9 hX9
        (have chk9 := @hpb; clear chk9); repeat' ((conv => whnf); first
    | (apply i_getN; (focus (first | exact hpc | exact h3 _ _)); (focus (exact rfl)); (intro v9 hv9; (try simp (disch := omega) only [ab_tI, ab_c0, wd_ix12, wd_ix8, wd_ix10, wd_up_self, wd_up_eq, wd_up_ne, Int.toNat_natCast, Int.toNat_of_nonneg, not_true_eq_false, not_false_eq_true, Option.some.injEq, hpb] at hv9); subst hv9))
    | (apply i_cv; (focus (first | exact hpc | exact h3 _ _)))
    | (apply i_len; (focus (first | exact congrArg ab_len (hpc) | exact congrArg ab_len (h3 _ _))))
    | (apply i_ialN; (focus (first | exact hpc | exact h3 _ _)); (focus (first | exact Or.inl rfl | exact Or.inr rfl)); (focus (exact (by first | exact ⟨by decide, by decide⟩ | ((try simp (disch := omega) only [ab_tI, ab_c0, wd_ix12, wd_ix8, wd_ix10, wd_up_self, wd_up_eq, wd_up_ne, Int.toNat_natCast, Int.toNat_of_nonneg, not_true_eq_false, not_false_eq_true, Option.some.injEq, hpb, wd_l103, wd_l104, wd_l105, wd_l106, wd_l107, wd_l108, wd_l109, wd_l110, wd_l111, wd_l112, wd_l113, wd_l114, wd_l115, wd_l116, wd_l117, wd_l118, wd_l119, wd_l120, wd_l121, wd_l122, wd_l123, wd_l124]); omega)))); (intro v9 hv9; (try simp (disch := omega) only [ab_tI, ab_c0, wd_ix12, wd_ix8, wd_ix10, wd_up_self, wd_up_eq, wd_up_ne, Int.toNat_natCast, Int.toNat_of_nonneg, not_true_eq_false, not_false_eq_true, Option.some.injEq, hpb] at hv9); subst hv9))
    | (apply i_aalN; (focus (first | exact hpc | exact h3 _ _)); (focus (exact (by first | exact ⟨by decide, by decide⟩ | ((try simp (disch := omega) only [ab_tI, ab_c0, wd_ix12, wd_ix8, wd_ix10, wd_up_self, wd_up_eq, wd_up_ne, Int.toNat_natCast, Int.toNat_of_nonneg, not_true_eq_false, not_false_eq_true, Option.some.injEq, hpb, wd_l103, wd_l104, wd_l105, wd_l106, wd_l107, wd_l108, wd_l109, wd_l110, wd_l111, wd_l112, wd_l113, wd_l114, wd_l115, wd_l116, wd_l117, wd_l118, wd_l119, wd_l120, wd_l121, wd_l122, wd_l123, wd_l124]); omega)))); (intro v9 hv9; (try simp (disch := omega) only [ab_tI, ab_c0, wd_ix12, wd_ix8, wd_ix10, wd_up_self, wd_up_eq, wd_up_ne, Int.toNat_natCast, Int.toNat_of_nonneg, not_true_eq_false, not_false_eq_true, Option.some.injEq, hpb] at hv9); subst hv9))
    | (refine hC9 123 _ _ _ (y_isShelf (by omega) (fun _ _ => ?_) (fun q => by exfalso; omega)))
    | (refine hC9 124 _ _ _ (y_isPath (by omega) (fun _ _ => ?_) (fun q => by exfalso; omega)))
    | (refine hC9 126 _ _ _ (y_heldS (by omega) hs9 hpx ?_))
    | (refine hC9 126 _ _ _ (y_heldS (by omega) hw9 hpg ?_))
    | (refine hC9 1 _ _ _ (hch _ ?_))
    | (refine hC9 91 _ _ _ (y_isTooMuch (by omega) hW1 a2 (fun q => absurd q htm) (fun _ _ _ => ?_)))
    | (refine hX9 82 _ _ _ (ab_WB_sub ?_ hbb); (repeat (first | exact ab_sub0 | (refine ab_sub1 ?_ ?_; (focus ((repeat (refine ab_skip rfl ?_)); first | exact List.mem_cons_self))))))
    | (intro v9 hv9; (try simp (disch := omega) only [ab_tI, ab_c0, wd_ix12, wd_ix8, wd_ix10, wd_up_self, wd_up_eq, wd_up_ne, Int.toNat_natCast, Int.toNat_of_nonneg, not_true_eq_false, not_false_eq_true, Option.some.injEq, hpb] at hv9); subst hv9)
    | (apply i_get; (focus (exact rfl)); (focus (exact rfl)))
    | (refine hX9 _ _ _ _ (wd_rnC rfl ?_); clear hC9 hX9 X9 C9; intro C9 X9 hC9 hX9)
    | (apply w_ialM; (focus (exact rfl)); (focus (exact (by first | exact ⟨by decide, by decide⟩ | ((try simp (disch := omega) only [ab_tI, ab_c0, wd_ix12, wd_ix8, wd_ix10, wd_up_self, wd_up_eq, wd_up_ne, Int.toNat_natCast, Int.toNat_of_nonneg, not_true_eq_false, not_false_eq_true, Option.some.injEq, hpb, wd_l103, wd_l104, wd_l105, wd_l106, wd_l107, wd_l108, wd_l109, wd_l110, wd_l111, wd_l112, wd_l113, wd_l114, wd_l115, wd_l116, wd_l117, wd_l118, wd_l119, wd_l120, wd_l121, wd_l122, wd_l123, wd_l124]); omega)))); (intro v9 hv9; (try simp (disch := omega) only [ab_tI, ab_c0, wd_ix12, wd_ix8, wd_ix10, wd_up_self, wd_up_eq, wd_up_ne, Int.toNat_natCast, Int.toNat_of_nonneg, not_true_eq_false, not_false_eq_true, Option.some.injEq, hpb] at hv9); subst hv9))
    | (apply w_putM; (focus (exact rfl)); (focus (first | exact trivial | exact Or.inl rfl | exact Or.inr rfl)); (focus (exact rfl)))
    | (apply w_iasM; (focus (exact rfl)); (focus (exact (by first | exact ⟨by decide, by decide⟩ | ((try simp (disch := omega) only [ab_tI, ab_c0, wd_ix12, wd_ix8, wd_ix10, wd_up_self, wd_up_eq, wd_up_ne, Int.toNat_natCast, Int.toNat_of_nonneg, not_true_eq_false, not_false_eq_true, Option.some.injEq, hpb, wd_l103, wd_l104, wd_l105, wd_l106, wd_l107, wd_l108, wd_l109, wd_l110, wd_l111, wd_l112, wd_l113, wd_l114, wd_l115, wd_l116, wd_l117, wd_l118, wd_l119, wd_l120, wd_l121, wd_l122, wd_l123, wd_l124]); omega)))); (intro v9 hv9; (try simp (disch := omega) only [ab_tI, ab_c0, wd_ix12, wd_ix8, wd_ix10, wd_up_self, wd_up_eq, wd_up_ne, Int.toNat_natCast, Int.toNat_of_nonneg, not_true_eq_false, not_false_eq_true, Option.some.injEq, hpb] at hv9); subst hv9))
    | (refine i_brF (by decide) ?_)
    | (refine i_brT (by decide) ?_)
    | (refine ⟨fun hc => ?_, fun hc => ?_⟩ <;> (try simp (disch := omega) only [ab_tI, ab_c0, wd_ix12, wd_ix8, wd_ix10, wd_up_self, wd_up_eq, wd_up_ne, Int.toNat_natCast, Int.toNat_of_nonneg, not_true_eq_false, not_false_eq_true, Option.some.injEq, hpb] at hc) <;> first | (exfalso; omega) | skip)
    | (apply i_cv; (focus (exact rfl)))
    | (apply i_len; (focus (exact rfl)))
    | (apply w_putI; (focus (exact rfl)); (focus (exact rfl)); (focus (exact rfl)); (focus (first | exact trivial | exact Or.inl rfl | exact Or.inr rfl)); (focus (exact rfl)))
    | (apply w_putP; (focus (exact rfl)); (focus (exact rfl)); (focus (exact rfl)); (focus (exact trivial)); (focus (exact rfl)))
    | (apply i_ialN; (focus (exact rfl)); (focus (first | exact Or.inl rfl | exact Or.inr rfl)); (focus (exact (by first | exact ⟨by decide, by decide⟩ | ((try simp (disch := omega) only [ab_tI, ab_c0, wd_ix12, wd_ix8, wd_ix10, wd_up_self, wd_up_eq, wd_up_ne, Int.toNat_natCast, Int.toNat_of_nonneg, not_true_eq_false, not_false_eq_true, Option.some.injEq, hpb, wd_l103, wd_l104, wd_l105, wd_l106, wd_l107, wd_l108, wd_l109, wd_l110, wd_l111, wd_l112, wd_l113, wd_l114, wd_l115, wd_l116, wd_l117, wd_l118, wd_l119, wd_l120, wd_l121, wd_l122, wd_l123, wd_l124]); omega)))); (intro v9 hv9; (try simp (disch := omega) only [ab_tI, ab_c0, wd_ix12, wd_ix8, wd_ix10, wd_up_self, wd_up_eq, wd_up_ne, Int.toNat_natCast, Int.toNat_of_nonneg, not_true_eq_false, not_false_eq_true, Option.some.injEq, hpb] at hv9); subst hv9))
    | (apply i_aalN; (focus (exact rfl)); (focus (exact (by first | exact ⟨by decide, by decide⟩ | ((try simp (disch := omega) only [ab_tI, ab_c0, wd_ix12, wd_ix8, wd_ix10, wd_up_self, wd_up_eq, wd_up_ne, Int.toNat_natCast, Int.toNat_of_nonneg, not_true_eq_false, not_false_eq_true, Option.some.injEq, hpb, wd_l103, wd_l104, wd_l105, wd_l106, wd_l107, wd_l108, wd_l109, wd_l110, wd_l111, wd_l112, wd_l113, wd_l114, wd_l115, wd_l116, wd_l117, wd_l118, wd_l119, wd_l120, wd_l121, wd_l122, wd_l123, wd_l124]); omega)))); (intro v9 hv9; (try simp (disch := omega) only [ab_tI, ab_c0, wd_ix12, wd_ix8, wd_ix10, wd_up_self, wd_up_eq, wd_up_ne, Int.toNat_natCast, Int.toNat_of_nonneg, not_true_eq_false, not_false_eq_true, Option.some.injEq, hpb] at hv9); subst hv9))
    | (apply w_iasI; (focus (exact rfl)); (focus (exact rfl)); (focus (exact (by first | exact ⟨by decide, by decide⟩ | ((try simp (disch := omega) only [ab_tI, ab_c0, wd_ix12, wd_ix8, wd_ix10, wd_up_self, wd_up_eq, wd_up_ne, Int.toNat_natCast, Int.toNat_of_nonneg, not_true_eq_false, not_false_eq_true, Option.some.injEq, hpb, wd_l103, wd_l104, wd_l105, wd_l106, wd_l107, wd_l108, wd_l109, wd_l110, wd_l111, wd_l112, wd_l113, wd_l114, wd_l115, wd_l116, wd_l117, wd_l118, wd_l119, wd_l120, wd_l121, wd_l122, wd_l123, wd_l124]); omega)))); (focus (intro _; exact rfl)); (intro v9 hv9; (try simp (disch := omega) only [ab_tI, ab_c0, wd_ix12, wd_ix8, wd_ix10, wd_up_self, wd_up_eq, wd_up_ne, Int.toNat_natCast, Int.toNat_of_nonneg, not_true_eq_false, not_false_eq_true, Option.some.injEq, hpb] at hv9); subst hv9))
    | (apply w_balM; (focus (exact (by first | exact ⟨by decide, by decide⟩ | ((try simp (disch := omega) only [ab_tI, ab_c0, wd_ix12, wd_ix8, wd_ix10, wd_up_self, wd_up_eq, wd_up_ne, Int.toNat_natCast, Int.toNat_of_nonneg, not_true_eq_false, not_false_eq_true, Option.some.injEq, hpb, wd_l103, wd_l104, wd_l105, wd_l106, wd_l107, wd_l108, wd_l109, wd_l110, wd_l111, wd_l112, wd_l113, wd_l114, wd_l115, wd_l116, wd_l117, wd_l118, wd_l119, wd_l120, wd_l121, wd_l122, wd_l123, wd_l124]); omega)))); (intro v9 hv9; (try simp (disch := omega) only [ab_tI, ab_c0, wd_ix12, wd_ix8, wd_ix10, wd_up_self, wd_up_eq, wd_up_ne, Int.toNat_natCast, Int.toNat_of_nonneg, not_true_eq_false, not_false_eq_true, Option.some.injEq, hpb] at hv9); subst hv9))
    | (apply w_basM; (focus (exact (by first | exact ⟨by decide, by decide⟩ | ((try simp (disch := omega) only [ab_tI, ab_c0, wd_ix12, wd_ix8, wd_ix10, wd_up_self, wd_up_eq, wd_up_ne, Int.toNat_natCast, Int.toNat_of_nonneg, not_true_eq_false, not_false_eq_true, Option.some.injEq, hpb, wd_l103, wd_l104, wd_l105, wd_l106, wd_l107, wd_l108, wd_l109, wd_l110, wd_l111, wd_l112, wd_l113, wd_l114, wd_l115, wd_l116, wd_l117, wd_l118, wd_l119, wd_l120, wd_l121, wd_l122, wd_l123, wd_l124]); omega)))); (focus (first | exact Or.inl rfl | exact Or.inr rfl)); (intro v9 hv9; (try simp (disch := omega) only [ab_tI, ab_c0, wd_ix12, wd_ix8, wd_ix10, wd_up_self, wd_up_eq, wd_up_ne, Int.toNat_natCast, Int.toNat_of_nonneg, not_true_eq_false, not_false_eq_true, Option.some.injEq, hpb] at hv9); subst hv9))
    | (refine And.intro trivial ?_)
    | (refine And.intro (Or.inl rfl) ?_)
    | (refine And.intro (Or.inr rfl) ?_)
    | (refine And.intro (by ((try simp (disch := omega) only [ab_tI, ab_c0, wd_ix12, wd_ix8, wd_ix10, wd_up_self, wd_up_eq, wd_up_ne, Int.toNat_natCast, Int.toNat_of_nonneg, not_true_eq_false, not_false_eq_true, Option.some.injEq, hpb]); omega)) ?_)
    | fail)
        all_goals (exfalso; omega)
    · have hch := fun Q hq => hch Q (fun q => absurd q hsp) (fun _ => hq)
      have hm1 := hm1 hsp
      clear hf1 hm2 hf2 hy2
      unfold c_S at hch hm1
      dsimp only at hch hm1
      refine wd_inC rfl (by omega) rfl ?_
      intro C9 X9 hC9 hX9
      (have chk9 := @hpb; clear chk9); repeat' ((conv => whnf); first
    | (apply i_getN; (focus (first | exact hpc)); (focus (exact rfl)); (intro v9 hv9; (try simp (disch := omega) only [ab_tI, ab_c0, wd_ix12, wd_ix8, wd_ix10, wd_up_self, wd_up_eq, wd_up_ne, Int.toNat_natCast, Int.toNat_of_nonneg, not_true_eq_false, not_false_eq_true, Option.some.injEq, hpb] at hv9); subst hv9))
    | (apply i_cv; (focus (first | exact hpc)))
    | (apply i_len; (focus (first | exact congrArg ab_len (hpc))))
    | (apply i_ialN; (focus (first | exact hpc)); (focus (first | exact Or.inl rfl | exact Or.inr rfl)); (focus (exact (by first | exact ⟨by decide, by decide⟩ | ((try simp (disch := omega) only [ab_tI, ab_c0, wd_ix12, wd_ix8, wd_ix10, wd_up_self, wd_up_eq, wd_up_ne, Int.toNat_natCast, Int.toNat_of_nonneg, not_true_eq_false, not_false_eq_true, Option.some.injEq, hpb, wd_l103, wd_l104, wd_l105, wd_l106, wd_l107, wd_l108, wd_l109, wd_l110, wd_l111, wd_l112, wd_l113, wd_l114, wd_l115, wd_l116, wd_l117, wd_l118, wd_l119, wd_l120, wd_l121, wd_l122, wd_l123, wd_l124]); omega)))); (intro v9 hv9; (try simp (disch := omega) only [ab_tI, ab_c0, wd_ix12, wd_ix8, wd_ix10, wd_up_self, wd_up_eq, wd_up_ne, Int.toNat_natCast, Int.toNat_of_nonneg, not_true_eq_false, not_false_eq_true, Option.some.injEq, hpb] at hv9); subst hv9))
    | (apply i_aalN; (focus (first | exact hpc)); (focus (exact (by first | exact ⟨by decide, by decide⟩ | ((try simp (disch := omega) only [ab_tI, ab_c0, wd_ix12, wd_ix8, wd_ix10, wd_up_self, wd_up_eq, wd_up_ne, Int.toNat_natCast, Int.toNat_of_nonneg, not_true_eq_false, not_false_eq_true, Option.some.injEq, hpb, wd_l103, wd_l104, wd_l105, wd_l106, wd_l107, wd_l108, wd_l109, wd_l110, wd_l111, wd_l112, wd_l113, wd_l114, wd_l115, wd_l116, wd_l117, wd_l118, wd_l119, wd_l120, wd_l121, wd_l122, wd_l123, wd_l124]); omega)))); (intro v9 hv9; (try simp (disch := omega) only [ab_tI, ab_c0, wd_ix12, wd_ix8, wd_ix10, wd_up_self, wd_up_eq, wd_up_ne, Int.toNat_natCast, Int.toNat_of_nonneg, not_true_eq_false, not_false_eq_true, Option.some.injEq, hpb] at hv9); subst hv9))
    | (refine hC9 123 _ _ _ (y_isShelf (by omega) (fun _ _ => ?_) (fun q => by exfalso; omega)))
    | (refine hC9 124 _ _ _ (y_isPath (by omega) (fun _ _ => ?_) (fun q => by exfalso; omega)))
    | (refine hC9 126 _ _ _ (y_heldS (by omega) hs9 hpx ?_))
    | (refine hC9 126 _ _ _ (y_heldS (by omega) hw9 hpg ?_))
    | (refine hC9 1 _ _ _ (hch _ ?_))
    | (intro v9 hv9; (try simp (disch := omega) only [ab_tI, ab_c0, wd_ix12, wd_ix8, wd_ix10, wd_up_self, wd_up_eq, wd_up_ne, Int.toNat_natCast, Int.toNat_of_nonneg, not_true_eq_false, not_false_eq_true, Option.some.injEq, hpb] at hv9); subst hv9)
    | (apply i_get; (focus (exact rfl)); (focus (exact rfl)))
    | (refine hX9 _ _ _ _ (wd_rnC rfl ?_); clear hC9 hX9 X9 C9; intro C9 X9 hC9 hX9)
    | (apply w_ialM; (focus (exact rfl)); (focus (exact (by first | exact ⟨by decide, by decide⟩ | ((try simp (disch := omega) only [ab_tI, ab_c0, wd_ix12, wd_ix8, wd_ix10, wd_up_self, wd_up_eq, wd_up_ne, Int.toNat_natCast, Int.toNat_of_nonneg, not_true_eq_false, not_false_eq_true, Option.some.injEq, hpb, wd_l103, wd_l104, wd_l105, wd_l106, wd_l107, wd_l108, wd_l109, wd_l110, wd_l111, wd_l112, wd_l113, wd_l114, wd_l115, wd_l116, wd_l117, wd_l118, wd_l119, wd_l120, wd_l121, wd_l122, wd_l123, wd_l124]); omega)))); (intro v9 hv9; (try simp (disch := omega) only [ab_tI, ab_c0, wd_ix12, wd_ix8, wd_ix10, wd_up_self, wd_up_eq, wd_up_ne, Int.toNat_natCast, Int.toNat_of_nonneg, not_true_eq_false, not_false_eq_true, Option.some.injEq, hpb] at hv9); subst hv9))
    | (apply w_putM; (focus (exact rfl)); (focus (first | exact trivial | exact Or.inl rfl | exact Or.inr rfl)); (focus (exact rfl)))
    | (apply w_iasM; (focus (exact rfl)); (focus (exact (by first | exact ⟨by decide, by decide⟩ | ((try simp (disch := omega) only [ab_tI, ab_c0, wd_ix12, wd_ix8, wd_ix10, wd_up_self, wd_up_eq, wd_up_ne, Int.toNat_natCast, Int.toNat_of_nonneg, not_true_eq_false, not_false_eq_true, Option.some.injEq, hpb, wd_l103, wd_l104, wd_l105, wd_l106, wd_l107, wd_l108, wd_l109, wd_l110, wd_l111, wd_l112, wd_l113, wd_l114, wd_l115, wd_l116, wd_l117, wd_l118, wd_l119, wd_l120, wd_l121, wd_l122, wd_l123, wd_l124]); omega)))); (intro v9 hv9; (try simp (disch := omega) only [ab_tI, ab_c0, wd_ix12, wd_ix8, wd_ix10, wd_up_self, wd_up_eq, wd_up_ne, Int.toNat_natCast, Int.toNat_of_nonneg, not_true_eq_false, not_false_eq_true, Option.some.injEq, hpb] at hv9); subst hv9))
    | (refine i_brF (by decide) ?_)
    | (refine i_brT (by decide) ?_)
    | (refine ⟨fun hc => ?_, fun hc => ?_⟩ <;> (try simp (disch := omega) only [ab_tI, ab_c0, wd_ix12, wd_ix8, wd_ix10, wd_up_self, wd_up_eq, wd_up_ne, Int.toNat_natCast, Int.toNat_of_nonneg, not_true_eq_false, not_false_eq_true, Option.some.injEq, hpb] at hc) <;> first | (exfalso; omega) | skip)
    | (apply i_cv; (focus (exact rfl)))
    | (apply i_len; (focus (exact rfl)))
    | (apply w_putI; (focus (exact rfl)); (focus (exact rfl)); (focus (exact rfl)); (focus (first | exact trivial | exact Or.inl rfl | exact Or.inr rfl)); (focus (exact rfl)))
    | (apply w_putP; (focus (exact rfl)); (focus (exact rfl)); (focus (exact rfl)); (focus (exact trivial)); (focus (exact rfl)))
    | (apply i_ialN; (focus (exact rfl)); (focus (first | exact Or.inl rfl | exact Or.inr rfl)); (focus (exact (by first | exact ⟨by decide, by decide⟩ | ((try simp (disch := omega) only [ab_tI, ab_c0, wd_ix12, wd_ix8, wd_ix10, wd_up_self, wd_up_eq, wd_up_ne, Int.toNat_natCast, Int.toNat_of_nonneg, not_true_eq_false, not_false_eq_true, Option.some.injEq, hpb, wd_l103, wd_l104, wd_l105, wd_l106, wd_l107, wd_l108, wd_l109, wd_l110, wd_l111, wd_l112, wd_l113, wd_l114, wd_l115, wd_l116, wd_l117, wd_l118, wd_l119, wd_l120, wd_l121, wd_l122, wd_l123, wd_l124]); omega)))); (intro v9 hv9; (try simp (disch := omega) only [ab_tI, ab_c0, wd_ix12, wd_ix8, wd_ix10, wd_up_self, wd_up_eq, wd_up_ne, Int.toNat_natCast, Int.toNat_of_nonneg, not_true_eq_false, not_false_eq_true, Option.some.injEq, hpb] at hv9); subst hv9))
    | (apply i_aalN; (focus (exact rfl)); (focus (exact (by first | exact ⟨by decide, by decide⟩ | ((try simp (disch := omega) only [ab_tI, ab_c0, wd_ix12, wd_ix8, wd_ix10, wd_up_self, wd_up_eq, wd_up_ne, Int.toNat_natCast, Int.toNat_of_nonneg, not_true_eq_false, not_false_eq_true, Option.some.injEq, hpb, wd_l103, wd_l104, wd_l105, wd_l106, wd_l107, wd_l108, wd_l109, wd_l110, wd_l111, wd_l112, wd_l113, wd_l114, wd_l115, wd_l116, wd_l117, wd_l118, wd_l119, wd_l120, wd_l121, wd_l122, wd_l123, wd_l124]); omega)))); (intro v9 hv9; (try simp (disch := omega) only [ab_tI, ab_c0, wd_ix12, wd_ix8, wd_ix10, wd_up_self, wd_up_eq, wd_up_ne, Int.toNat_natCast, Int.toNat_of_nonneg, not_true_eq_false, not_false_eq_true, Option.some.injEq, hpb] at hv9); subst hv9))
    | (apply w_iasI; (focus (exact rfl)); (focus (exact rfl)); (focus (exact (by first | exact ⟨by decide, by decide⟩ | ((try simp (disch := omega) only [ab_tI, ab_c0, wd_ix12, wd_ix8, wd_ix10, wd_up_self, wd_up_eq, wd_up_ne, Int.toNat_natCast, Int.toNat_of_nonneg, not_true_eq_false, not_false_eq_true, Option.some.injEq, hpb, wd_l103, wd_l104, wd_l105, wd_l106, wd_l107, wd_l108, wd_l109, wd_l110, wd_l111, wd_l112, wd_l113, wd_l114, wd_l115, wd_l116, wd_l117, wd_l118, wd_l119, wd_l120, wd_l121, wd_l122, wd_l123, wd_l124]); omega)))); (focus (intro _; exact rfl)); (intro v9 hv9; (try simp (disch := omega) only [ab_tI, ab_c0, wd_ix12, wd_ix8, wd_ix10, wd_up_self, wd_up_eq, wd_up_ne, Int.toNat_natCast, Int.toNat_of_nonneg, not_true_eq_false, not_false_eq_true, Option.some.injEq, hpb] at hv9); subst hv9))
    | (apply w_balM; (focus (exact (by first | exact ⟨by decide, by decide⟩ | ((try simp (disch := omega) only [ab_tI, ab_c0, wd_ix12, wd_ix8, wd_ix10, wd_up_self, wd_up_eq, wd_up_ne, Int.toNat_natCast, Int.toNat_of_nonneg, not_true_eq_false, not_false_eq_true, Option.some.injEq, hpb, wd_l103, wd_l104, wd_l105, wd_l106, wd_l107, wd_l108, wd_l109, wd_l110, wd_l111, wd_l112, wd_l113, wd_l114, wd_l115, wd_l116, wd_l117, wd_l118, wd_l119, wd_l120, wd_l121, wd_l122, wd_l123, wd_l124]); omega)))); (intro v9 hv9; (try simp (disch := omega) only [ab_tI, ab_c0, wd_ix12, wd_ix8, wd_ix10, wd_up_self, wd_up_eq, wd_up_ne, Int.toNat_natCast, Int.toNat_of_nonneg, not_true_eq_false, not_false_eq_true, Option.some.injEq, hpb] at hv9); subst hv9))
    | (apply w_basM; (focus (exact (by first | exact ⟨by decide, by decide⟩ | ((try simp (disch := omega) only [ab_tI, ab_c0, wd_ix12, wd_ix8, wd_ix10, wd_up_self, wd_up_eq, wd_up_ne, Int.toNat_natCast, Int.toNat_of_nonneg, not_true_eq_false, not_false_eq_true, Option.some.injEq, hpb, wd_l103, wd_l104, wd_l105, wd_l106, wd_l107, wd_l108, wd_l109, wd_l110, wd_l111, wd_l112, wd_l113, wd_l114, wd_l115, wd_l116, wd_l117, wd_l118, wd_l119, wd_l120, wd_l121, wd_l122, wd_l123, wd_l124]); omega)))); (focus (first | exact Or.inl rfl | exact Or.inr rfl)); (intro v9 hv9; (try simp (disch := omega) only [ab_tI, ab_c0, wd_ix12, wd_ix8, wd_ix10, wd_up_self, wd_up_eq, wd_up_ne, Int.toNat_natCast, Int.toNat_of_nonneg, not_true_eq_false, not_false_eq_true, Option.some.injEq, hpb] at hv9); subst hv9))
    | (refine And.intro trivial ?_)
    | (refine And.intro (Or.inl rfl) ?_)
    | (refine And.intro (Or.inr rfl) ?_)
    | (refine And.intro (by ((try simp (disch := omega) only [ab_tI, ab_c0, wd_ix12, wd_ix8, wd_ix10, wd_up_self, wd_up_eq, wd_up_ne, Int.toNat_natCast, Int.toNat_of_nonneg, not_true_eq_false, not_false_eq_true, Option.some.injEq, hpb]); omega)) ?_)
    | fail)
      all_goals first | exact hm1 | (exfalso; omega)
  · have hbad := hbad hall
    have h3 : ¬ ((0 ≤ s.toInt ∧ s.toInt < 12) ∧ (0 ≤ pp.toInt ∧ pp.toInt < 8) ∧ (0 ≤ w.toInt ∧ w.toInt < 12)) := hall
    clear hm1 hf1 hm2 hf2 hy2 ha hb hg
    refine wd_inC rfl (by omega) rfl ?_
    intro C9 X9 hC9 hX9
    repeat' ((conv => whnf); first
    | (refine hC9 123 _ _ _ (y_isShelf (by omega) (fun q1 q2 => ?_) (fun q => ?_)))
    | (refine hC9 124 _ _ _ (y_isPath (by omega) (fun q1 q2 => ?_) (fun q => ?_)))
    | (intro v9 hv9; (try simp (disch := omega) only [ab_tI, ab_c0, wd_ix12, wd_ix8, wd_ix10, wd_up_self, wd_up_eq, wd_up_ne, Int.toNat_natCast, Int.toNat_of_nonneg, not_true_eq_false, not_false_eq_true, Option.some.injEq] at hv9); subst hv9)
    | (apply i_get; (focus (exact rfl)); (focus (exact rfl)))
    | (refine hX9 _ _ _ _ (wd_rnC rfl ?_); clear hC9 hX9 X9 C9; intro C9 X9 hC9 hX9)
    | (apply w_ialM; (focus (exact rfl)); (focus (exact (by first | exact ⟨by decide, by decide⟩ | ((try simp (disch := omega) only [ab_tI, ab_c0, wd_ix12, wd_ix8, wd_ix10, wd_up_self, wd_up_eq, wd_up_ne, Int.toNat_natCast, Int.toNat_of_nonneg, not_true_eq_false, not_false_eq_true, Option.some.injEq, wd_l103, wd_l104, wd_l105, wd_l106, wd_l107, wd_l108, wd_l109, wd_l110, wd_l111, wd_l112, wd_l113, wd_l114, wd_l115, wd_l116, wd_l117, wd_l118, wd_l119, wd_l120, wd_l121, wd_l122, wd_l123, wd_l124]); omega)))); (intro v9 hv9; (try simp (disch := omega) only [ab_tI, ab_c0, wd_ix12, wd_ix8, wd_ix10, wd_up_self, wd_up_eq, wd_up_ne, Int.toNat_natCast, Int.toNat_of_nonneg, not_true_eq_false, not_false_eq_true, Option.some.injEq] at hv9); subst hv9))
    | (apply w_putM; (focus (exact rfl)); (focus (first | exact trivial | exact Or.inl rfl | exact Or.inr rfl)); (focus (exact rfl)))
    | (apply w_iasM; (focus (exact rfl)); (focus (exact (by first | exact ⟨by decide, by decide⟩ | ((try simp (disch := omega) only [ab_tI, ab_c0, wd_ix12, wd_ix8, wd_ix10, wd_up_self, wd_up_eq, wd_up_ne, Int.toNat_natCast, Int.toNat_of_nonneg, not_true_eq_false, not_false_eq_true, Option.some.injEq, wd_l103, wd_l104, wd_l105, wd_l106, wd_l107, wd_l108, wd_l109, wd_l110, wd_l111, wd_l112, wd_l113, wd_l114, wd_l115, wd_l116, wd_l117, wd_l118, wd_l119, wd_l120, wd_l121, wd_l122, wd_l123, wd_l124]); omega)))); (intro v9 hv9; (try simp (disch := omega) only [ab_tI, ab_c0, wd_ix12, wd_ix8, wd_ix10, wd_up_self, wd_up_eq, wd_up_ne, Int.toNat_natCast, Int.toNat_of_nonneg, not_true_eq_false, not_false_eq_true, Option.some.injEq] at hv9); subst hv9))
    | (refine i_brF (by decide) ?_)
    | (refine i_brT (by decide) ?_)
    | (refine ⟨fun hc => ?_, fun hc => ?_⟩ <;> (try simp (disch := omega) only [ab_tI, ab_c0, wd_ix12, wd_ix8, wd_ix10, wd_up_self, wd_up_eq, wd_up_ne, Int.toNat_natCast, Int.toNat_of_nonneg, not_true_eq_false, not_false_eq_true, Option.some.injEq] at hc) <;> first | (exfalso; omega) | skip)
    | (apply i_cv; (focus (exact rfl)))
    | (apply i_len; (focus (exact rfl)))
    | (apply w_putI; (focus (exact rfl)); (focus (exact rfl)); (focus (exact rfl)); (focus (first | exact trivial | exact Or.inl rfl | exact Or.inr rfl)); (focus (exact rfl)))
    | (apply w_putP; (focus (exact rfl)); (focus (exact rfl)); (focus (exact rfl)); (focus (exact trivial)); (focus (exact rfl)))
    | (apply i_ialN; (focus (exact rfl)); (focus (first | exact Or.inl rfl | exact Or.inr rfl)); (focus (exact (by first | exact ⟨by decide, by decide⟩ | ((try simp (disch := omega) only [ab_tI, ab_c0, wd_ix12, wd_ix8, wd_ix10, wd_up_self, wd_up_eq, wd_up_ne, Int.toNat_natCast, Int.toNat_of_nonneg, not_true_eq_false, not_false_eq_true, Option.some.injEq, wd_l103, wd_l104, wd_l105, wd_l106, wd_l107, wd_l108, wd_l109, wd_l110, wd_l111, wd_l112, wd_l113, wd_l114, wd_l115, wd_l116, wd_l117, wd_l118, wd_l119, wd_l120, wd_l121, wd_l122, wd_l123, wd_l124]); omega)))); (intro v9 hv9; (try simp (disch := omega) only [ab_tI, ab_c0, wd_ix12, wd_ix8, wd_ix10, wd_up_self, wd_up_eq, wd_up_ne, Int.toNat_natCast, Int.toNat_of_nonneg, not_true_eq_false, not_false_eq_true, Option.some.injEq] at hv9); subst hv9))
    | (apply i_aalN; (focus (exact rfl)); (focus (exact (by first | exact ⟨by decide, by decide⟩ | ((try simp (disch := omega) only [ab_tI, ab_c0, wd_ix12, wd_ix8, wd_ix10, wd_up_self, wd_up_eq, wd_up_ne, Int.toNat_natCast, Int.toNat_of_nonneg, not_true_eq_false, not_false_eq_true, Option.some.injEq, wd_l103, wd_l104, wd_l105, wd_l106, wd_l107, wd_l108, wd_l109, wd_l110, wd_l111, wd_l112, wd_l113, wd_l114, wd_l115, wd_l116, wd_l117, wd_l118, wd_l119, wd_l120, wd_l121, wd_l122, wd_l123, wd_l124]); omega)))); (intro v9 hv9; (try simp (disch := omega) only [ab_tI, ab_c0, wd_ix12, wd_ix8, wd_ix10, wd_up_self, wd_up_eq, wd_up_ne, Int.toNat_natCast, Int.toNat_of_nonneg, not_true_eq_false, not_false_eq_true, Option.some.injEq] at hv9); subst hv9))
    | (apply w_iasI; (focus (exact rfl)); (focus (exact rfl)); (focus (exact (by first | exact ⟨by decide, by decide⟩ | ((try simp (disch := omega) only [ab_tI, ab_c0, wd_ix12, wd_ix8, wd_ix10, wd_up_self, wd_up_eq, wd_up_ne, Int.toNat_natCast, Int.toNat_of_nonneg, not_true_eq_false, not_false_eq_true, Option.some.injEq, wd_l103, wd_l104, wd_l105, wd_l106, wd_l107, wd_l108, wd_l109, wd_l110, wd_l111, wd_l112, wd_l113, wd_l114, wd_l115, wd_l116, wd_l117, wd_l118, wd_l119, wd_l120, wd_l121, wd_l122, wd_l123, wd_l124]); omega)))); (focus (intro _; exact rfl)); (intro v9 hv9; (try simp (disch := omega) only [ab_tI, ab_c0, wd_ix12, wd_ix8, wd_ix10, wd_up_self, wd_up_eq, wd_up_ne, Int.toNat_natCast, Int.toNat_of_nonneg, not_true_eq_false, not_false_eq_true, Option.some.injEq] at hv9); subst hv9))
    | (apply w_balM; (focus (exact (by first | exact ⟨by decide, by decide⟩ | ((try simp (disch := omega) only [ab_tI, ab_c0, wd_ix12, wd_ix8, wd_ix10, wd_up_self, wd_up_eq, wd_up_ne, Int.toNat_natCast, Int.toNat_of_nonneg, not_true_eq_false, not_false_eq_true, Option.some.injEq, wd_l103, wd_l104, wd_l105, wd_l106, wd_l107, wd_l108, wd_l109, wd_l110, wd_l111, wd_l112, wd_l113, wd_l114, wd_l115, wd_l116, wd_l117, wd_l118, wd_l119, wd_l120, wd_l121, wd_l122, wd_l123, wd_l124]); omega)))); (intro v9 hv9; (try simp (disch := omega) only [ab_tI, ab_c0, wd_ix12, wd_ix8, wd_ix10, wd_up_self, wd_up_eq, wd_up_ne, Int.toNat_natCast, Int.toNat_of_nonneg, not_true_eq_false, not_false_eq_true, Option.some.injEq] at hv9); subst hv9))
    | (apply w_basM; (focus (exact (by first | exact ⟨by decide, by decide⟩ | ((try simp (disch := omega) only [ab_tI, ab_c0, wd_ix12, wd_ix8, wd_ix10, wd_up_self, wd_up_eq, wd_up_ne, Int.toNat_natCast, Int.toNat_of_nonneg, not_true_eq_false, not_false_eq_true, Option.some.injEq, wd_l103, wd_l104, wd_l105, wd_l106, wd_l107, wd_l108, wd_l109, wd_l110, wd_l111, wd_l112, wd_l113, wd_l114, wd_l115, wd_l116, wd_l117, wd_l118, wd_l119, wd_l120, wd_l121, wd_l122, wd_l123, wd_l124]); omega)))); (focus (first | exact Or.inl rfl | exact Or.inr rfl)); (intro v9 hv9; (try simp (disch := omega) only [ab_tI, ab_c0, wd_ix12, wd_ix8, wd_ix10, wd_up_self, wd_up_eq, wd_up_ne, Int.toNat_natCast, Int.toNat_of_nonneg, not_true_eq_false, not_false_eq_true, Option.some.injEq] at hv9); subst hv9))
    | (refine And.intro trivial ?_)
    | (refine And.intro (Or.inl rfl) ?_)
    | (refine And.intro (Or.inr rfl) ?_)
    | (refine And.intro (by ((try simp (disch := omega) only [ab_tI, ab_c0, wd_ix12, wd_ix8, wd_ix10, wd_up_self, wd_up_eq, wd_up_ne, Int.toNat_natCast, Int.toNat_of_nonneg, not_true_eq_false, not_false_eq_true, Option.some.injEq]); omega)) ?_)
    | fail)
    all_goals first | exact hbad | (exfalso; omega)
end
end
section
/-! ===== the class: a thing read has no more nodes than bytes (own text) ===== -/
def c_nsm (g : Nat → ab_C) (fp : Nat → Option Nat) : Nat → Int
  | 0 => 0
  | j + 1 => c_nsm g fp j + (c_i g ((fp j).getD 0) 2).toInt
def c_n1 (g : Nat → ab_C) (fp : Nat → Option Nat) (n : Nat) : Prop := ∀ j, j < n → 1 ≤ (c_i g ((fp j).getD 0) 2).toInt
theorem c_nsm_0 {g : Nat → ab_C} {fp : Nat → Option Nat} : ∀ n, c_n1 g fp n → 0 ≤ c_nsm g fp n
  | 0, _ => Int.le_refl _
  | n + 1, h => by
    have ih := c_nsm_0 n (fun j hj => h j (by omega))
    have := h n (by omega)
    unfold c_nsm
    omega
theorem c_nods_s {g : Nat → ab_C} {fp : Nat → Option Nat} : ∀ n, c_n1 g fp n → c_nsm g fp n ≤ 1000 → (c_nods g fp n).toInt = 1 + c_nsm g fp n
  | 0, _, _ => by unfold c_nods c_nsm; decide
  | n + 1, h, hl => by
    have h0 := c_nsm_0 n (fun j hj => h j (by omega))
    have h1 := h n (by omega)
    unfold c_nsm at hl
    have ih := c_nods_s n (fun j hj => h j (by omega)) (by omega)
    unfold c_nods c_nsm
    rw [ih, ab_tI (by omega) (by omega)]
    omega
theorem c_nsm_eq {g g' : Nat → ab_C} {fp fp' : Nat → Option Nat} : ∀ n, (∀ j, j < n → (c_i g' ((fp' j).getD 0) 2).toInt = (c_i g ((fp j).getD 0) 2).toInt) → c_nsm g' fp' n = c_nsm g fp n
  | 0, _ => rfl
  | n + 1, h => by
    unfold c_nsm
    rw [c_nsm_eq n (fun j hj => h j (by omega)), h n (by omega)]
theorem c_ins_gt {α : Type} {f : Nat → α} {n p j : Nat} {v : α} (h : p ≤ j) (hj : j < n) : c_ins f n p v (j + 1) = f j := by
  unfold c_ins c_shf
  rw [ab_up_ne _ _ (by omega), if_pos (by omega)]
  rfl
theorem c_nsm_ins {g : Nat → ab_C} {fp : Nat → Option Nat} {n p b : Nat} (hp : p ≤ n) : c_nsm g (c_ins fp n p (some b)) (n + 1) = c_nsm g fp n + (c_i g b 2).toInt := by
  have h1 : ∀ i, i ≤ p → c_nsm g (c_ins fp n p (some b)) i = c_nsm g fp i := fun i hi => c_nsm_eq i (fun j hj => by rw [c_ins_lt (by omega)])
  have h2 : ∀ i, p + i ≤ n → c_nsm g (c_ins fp n p (some b)) (p + i + 1) = c_nsm g fp (p + i) + (c_i g b 2).toInt := by
    intro i
    induction i with
    | zero =>
      intro _
      show c_nsm g _ (p + 0) + _ = _
      rw [Nat.add_zero, h1 p (Nat.le_refl _), c_ins_at]
      rfl
    | succ i ih =>
      intro hi
      have := ih (by omega)
      show c_nsm g _ (p + i + 1) + (c_i g ((c_ins fp n p (some b) (p + i + 1)).getD 0) 2).toInt = c_nsm g fp (p + i) + (c_i g ((fp (p + i)).getD 0) 2).toInt + _
      rw [this, c_ins_gt (by omega) (by omega)]
      omega
  have := h2 (n - p) (by omega)
  rw [show p + (n - p) = n by omega] at this
  exact this
theorem c_n1_ins {g : Nat → ab_C} {fp : Nat → Option Nat} {n p b : Nat} (hp : p ≤ n) (h : c_n1 g fp n) (hb : 1 ≤ (c_i g b 2).toInt) : c_n1 g (c_ins fp n p (some b)) (n + 1) := fun j hj => by
  rcases Nat.lt_trichotomy j p with e | e | e
  · rw [c_ins_lt e]; exact h j (by omega)
  · rw [e, c_ins_at]; exact hb
  · obtain ⟨j', rfl⟩ : ∃ j', j = j' + 1 := ⟨j - 1, by omega⟩
    rw [c_ins_gt (by omega) (by omega)]; exact h j' (by omega)
/-- views are kept: so are the sums -/
theorem c_n1_eq {g g' : Nat → ab_C} {fp fp' : Nat → Option Nat} {n : Nat} (h : c_n1 g fp n) (he : ∀ j, j < n → (c_i g' ((fp' j).getD 0) 2).toInt = (c_i g ((fp j).getD 0) 2).toInt) : c_n1 g' fp' n := fun j hj => by rw [he j hj]; exact h j hj
theorem c_new_i {g h : Nat → ab_C} {x ka pa np : Nat} {kd wo : Int32} {fp : Nat → Option Nat} : c_i (ab_up g x (c_new h kd wo ka pa np fp)) x 0 = kd ∧ c_i (ab_up g x (c_new h kd wo ka pa np fp)) x 1 = wo ∧ c_i (ab_up g x (c_new h kd wo ka pa np fp)) x 2 = c_nods h fp np ∧ c_i (ab_up g x (c_new h kd wo ka pa np fp)) x 3 = ab_ii ((c_hts h fp np).toInt + 1) := by
  unfold c_i
  rw [ab_up_self]
  exact ⟨rfl, rfl, rfl, rfl⟩
theorem c_st_i {T0 T : Nat → Prop} {S0 S : c_St} (h : c_st T0 S0 T S) (h0 : c_W T0 S0.2.1 S0.2.2.1) {a : Nat} (ha : T0 a) (j : Nat) : c_i S.2.1 a j = c_i S0.2.1 a j := (c_wf_xt (h0 a ha) h.ofr h.kk).2.2.2.2.1 j
/-- of a state on: what is read has no more nodes than bytes were read -/
def r_nb (S : c_St) (R : r_O) : Prop := ∀ a, R.1 = some a → 1 ≤ (c_i R.2.2.1 a 2).toInt ∧ (c_i R.2.2.1 a 2).toInt + t_lf R.2.1 ≤ t_lf S.1
def r_nG (G : c_St → r_O) : Prop := r_gG G ∧ ∀ (T : Nat → Prop) (S : c_St), r_pr T S → r_nb S (G S)
theorem r_nb_none {S : c_St} {S' : c_St} : r_nb S (none, S') := fun a h => by cases h
theorem t_lf_b {I : wd_I} (h : t_tp I) : 0 ≤ t_lf I ∧ t_lf I ≤ 100 := by
  obtain ⟨h1, h2, h3⟩ := h
  unfold t_lf
  omega
section
variable {T : Nat → Prop} {S0 S : c_St} {G : c_St → r_O}
theorem r_tog_nb {n : Nat} {kd : Int32} {fk : Nat → Int32} {fp : Nat → Option Nat} (h0 : r_pr T S) (hb0 : t_lf S0.1 ≤ 100) (hf : c_rT T n fp) (h1 : c_n1 S.2.1 fp n) (hs : c_nsm S.2.1 fp n + t_lf S.1 + 1 ≤ t_lf S0.1) : r_nb S0 (r_tog n kd fk fp S) := fun a ha => by
  obtain ⟨I, g, k, z⟩ := S
  obtain ⟨hW, h125, ht⟩ := h0
  cases ha
  dsimp only at *
  have hl := t_lf_b ht
  have he : ∀ j, j < n → (c_i (c_tg2 g k n (c_tm kd n) fk fp) ((c_row fp n j).getD 0) 2).toInt = (c_i g ((fp j).getD 0) 2).toInt := fun j hj => by
    obtain ⟨b, hb, hTb⟩ := hf j hj
    have hbk := (hW b hTb).1.2
    unfold c_row
    rw [if_pos hj, hb]
    show (c_i (ab_up (ab_up g k _) (k + 1) _) b 2).toInt = (c_i g b 2).toInt
    rw [c_i_up (by omega), c_i_up (by omega)]
  have h2 := c_nsm_eq n he
  have h3 := c_n1_eq h1 he
  have h4 := c_nods_s n h3 (by rw [h2]; omega)
  have h5 := c_nsm_0 n h1
  show 1 ≤ (c_i (c_tog g k n (c_tm kd n) kd fk fp) (k + 1 + 1) 2).toInt ∧ (c_i (c_tog g k n (c_tm kd n) kd fk fp) (k + 1 + 1) 2).toInt + t_lf I ≤ _
  unfold c_tog
  rw [c_new_i.2.2.1, h4, h2]
  omega
theorem r_two_nb {a b : Nat} (h0 : r_pr T S) (hb0 : t_lf S0.1 ≤ 100) (ha : T a) (hb : T b) (h1 : 1 ≤ (c_i S.2.1 a 2).toInt ∧ 1 ≤ (c_i S.2.1 b 2).toInt) (hs : (c_i S.2.1 a 2).toInt + (c_i S.2.1 b 2).toInt + t_lf S.1 + 1 ≤ t_lf S0.1) : r_nb S0 (r_two a b S) := fun x hx => by
  obtain ⟨I, g, k, z⟩ := S
  obtain ⟨hW, h125, ht⟩ := h0
  change c_W T g k at hW
  have hW2 : c_W T (c_pu g k c_k2 (c_p2 a b) 2) (k + 1 + 1 + 1) := c_pu_W hW (Nat.le_refl _) (by omega)
  have hab : ∀ y, T y → c_i (c_pu g k c_k2 (c_p2 a b) 2) y 2 = c_i g y 2 := fun y hy => (c_wf_xt (hW y hy) (c_ofr_pu (g := g) (k := k)) (show k ≤ k + 1 + 1 + 1 by omega)).2.2.2.2.1 2
  have e0 : c_p2 a b 0 = some a := (c_ins_lt (by omega)).trans c_ins_at
  have e1 : c_p2 a b 1 = some b := c_ins_at
  have hsm : c_nsm (c_pu g k c_k2 (c_p2 a b) 2) (c_p2 a b) 2 = (c_i g a 2).toInt + (c_i g b 2).toInt := by
    show 0 + (c_i _ ((c_p2 a b 0).getD 0) 2).toInt + (c_i _ ((c_p2 a b 1).getD 0) 2).toInt = _
    rw [e0, e1]
    show 0 + (c_i _ a 2).toInt + (c_i _ b 2).toInt = _
    rw [hab a ha, hab b hb]
    omega
  have hn1 : c_n1 (c_pu g k c_k2 (c_p2 a b) 2) (c_p2 a b) 2 := fun j hj => by
    by_cases e : j = 0
    · subst e; rw [e0]; show 1 ≤ (c_i _ a 2).toInt; rw [hab a ha]; exact h1.1
    · have : j = 1 := by omega
      subst this; rw [e1]; show 1 ≤ (c_i _ b 2).toInt; rw [hab b hb]; exact h1.2
  have := r_tog_nb (S0 := S0) (kd := ab_ii 1) (fk := c_k2) (S := (I, c_pu g k c_k2 (c_p2 a b) 2, k + 1 + 1 + 1, z)) ⟨hW2, (show 125 ≤ k + 1 + 1 + 1 by have : 125 ≤ k := h125; omega), ht⟩ hb0 (c_p2_T ha hb) hn1 (by rw [hsm]; exact hs)
  exact this x hx
theorem r_pair2_nb {R : r_O} {a : Nat} (h0 : r_pr T R.2) (hb0 : t_lf S0.1 ≤ 100) (ha : T a) (hR : ∀ b, R.1 = some b → T b ∧ 1 ≤ (c_i R.2.2.1 b 2).toInt ∧ (c_i R.2.2.1 a 2).toInt + (c_i R.2.2.1 b 2).toInt + t_lf R.2.1 + 1 ≤ t_lf S0.1) (h1 : 1 ≤ (c_i R.2.2.1 a 2).toInt) : r_nb S0 (r_pair2 a R) := by
  obtain ⟨o, S⟩ := R
  cases o with
  | none => exact r_nb_none
  | some b =>
    obtain ⟨b1, b2, b3⟩ := hR b rfl
    have hn := t_needs_tf (b := ab_ii 41) h0.2.2
    have hn3 := hn.2.2
    unfold r_pair2
    dsimp only at *
    split
    · exact r_nb_none
    · exact r_two_nb (T := T) ⟨h0.1, h0.2.1, hn.2.1⟩ hb0 ha b1 ⟨h1, b2⟩ (by dsimp only; omega)
theorem r_pair1_nb (hG : r_nG G) {R : r_O} (h0 : r_pr T R.2) (hb0 : t_lf S0.1 ≤ 100) (hR : ∀ b, R.1 = some b → T b ∧ 1 ≤ (c_i R.2.2.1 b 2).toInt ∧ (c_i R.2.2.1 b 2).toInt + t_lf R.2.1 + 1 ≤ t_lf S0.1) : r_nb S0 (r_pair1 G R) := by
  obtain ⟨o, S⟩ := R
  cases o with
  | none => exact r_nb_none
  | some a =>
    obtain ⟨a1, a2, a3⟩ := hR a rfl
    have hn := t_needs_tf (b := ab_ii 44) h0.2.2
    have hn3 := hn.2.2
    have hp : r_pr T (t_needs S.1 (ab_ii 44), S.2) := ⟨h0.1, h0.2.1, hn.2.1⟩
    unfold r_pair1
    dsimp only at *
    split
    · exact r_nb_none
    · have hb := hG.2 T _ hp
      obtain ⟨T', g1, g2, g3, g4⟩ := hG.1 T _ hp
      have hav := c_st_i g1 h0.1 a1 2
      dsimp only at hav
      refine r_pair2_nb (T := T') ⟨g1.wf, Nat.le_trans h0.2.1 g1.kk, g3.2.1⟩ hb0 (g1.inc a a1) (fun b hb' => ?_) (by rw [hav]; exact a2)
      have hb2 := hb b hb'
      refine ⟨g2 b hb', hb2.1, ?_⟩
      rw [hav]
      have hb3 := hb2.2
      dsimp only at hb3
      omega
theorem r_tag2_nb {R : r_O} {v : Int32} (h0 : r_pr T R.2) (hb0 : t_lf S0.1 ≤ 100) (hR : ∀ b, R.1 = some b → T b ∧ 1 ≤ (c_i R.2.2.1 b 2).toInt ∧ (c_i R.2.2.1 b 2).toInt + t_lf R.2.1 + 1 ≤ t_lf S0.1) : r_nb S0 (r_tag2 v R) := by
  obtain ⟨o, I, g, k, z⟩ := R
  cases o with
  | none => exact r_nb_none
  | some b =>
    obtain ⟨b1, b2, b3⟩ := hR b rfl
    have hl := t_lf_b h0.2.2
    intro a ha
    cases ha
    dsimp only at *
    have hbk := (h0.1 b b1).1.2
    dsimp only at hbk
    have hv : ∀ A B : ab_C, c_i (ab_up (ab_up g k A) (k + 1 + 1) B) b 2 = c_i g b 2 := fun A B => by rw [c_i_up (by omega), c_i_up (by omega)]
    have e0 : ab_up (fun _ => none) 0 (some b) 0 = some b := ab_up_self _ _ _
    have hn1 : ∀ A B : ab_C, c_n1 (ab_up (ab_up g k A) (k + 1 + 1) B) (ab_up (fun _ => none) 0 (some b)) 1 := fun A B j hj => by
      have : j = 0 := by omega
      subst this
      rw [e0]
      show 1 ≤ (c_i _ b 2).toInt
      rw [hv]
      exact b2
    have hsm : ∀ A B : ab_C, c_nsm (ab_up (ab_up g k A) (k + 1 + 1) B) (ab_up (fun _ => none) 0 (some b)) 1 = (c_i g b 2).toInt := fun A B => by
      show 0 + (c_i _ ((ab_up (fun _ => none) 0 (some b) 0).getD 0) 2).toInt = _
      rw [e0]
      show 0 + (c_i _ b 2).toInt = _
      rw [hv]
      omega
    show 1 ≤ (c_i (c_mkg _ (k + 1) (ab_ii 4) v k 1 _) (k + 1) 2).toInt ∧ (c_i (c_mkg _ (k + 1) (ab_ii 4) v k 1 _) (k + 1) 2).toInt + t_lf I ≤ _
    unfold c_mkg
    rw [c_new_i.2.2.1, c_nods_s 1 (hn1 _ _) (by rw [hsm]; omega), hsm]
    omega
theorem r_mnl_nb (hG : r_nG G) (hb0 : t_lf S0.1 ≤ 100) {kd close : Int32} {x : Nat} : ∀ (r n : Nat) (fk : Nat → Int32) (fp : Nat → Option Nat) (T : Nat → Prop) (S : c_St), r_pr T S → c_rT T n fp → c_nq3 T S.2.1 x → x + 3 ≤ S.2.2.1 → c_n1 S.2.1 fp n → c_nsm S.2.1 fp n + t_lf S.1 + 1 ≤ t_lf S0.1 → r_nb S0 (r_mnl G kd close x r n fk fp S)
  | 0, n, fk, fp, T, S, hp, hf, hn, hxk, h1, hs => r_nb_none
  | r + 1, n, fk, fp, T, S, hp, hf, hn, hxk, h1, hs => by
    have hk := r_key_tf (kd := kd) (fk := fk) (n := n) hp.2.2
    have hk3 := hk.2.2
    have hp1 : r_pr T ((r_key kd S.1 fk n).1, S.2) := ⟨hp.1, hp.2.1, hk.2.1⟩
    unfold r_mnl
    split
    · exact r_nb_none
    · have hb := hG.2 T _ hp1
      obtain ⟨T', g1, g2, g3, g4⟩ := hG.1 T _ hp1
      have hav := fun a (ha : T a) => c_st_i g1 hp.1 ha 2
      dsimp only at hav g1 g3
      generalize G ((r_key kd S.1 fk n).1, S.2) = R at *
      obtain ⟨o, S2⟩ := R
      cases o with
      | none => exact r_nb_none
      | some b =>
        have hkk : S.2.2.1 ≤ S2.2.2.1 := g1.kk
        obtain ⟨b1, b2⟩ := hb b rfl
        have hTb := g2 b rfl
        have ht2 : t_tp S2.1 := g3.2.1
        have hst := t_step_tf ht2
        have hst2 := hst.1.2.2
        dsimp only at *
        have hple := r_pp_le (kd := kd) (l := (r_key kd S.1 fk n).2) (fk := fk) (n := n)
        have hn2 : c_nq3 T' S2.2.1 x := ⟨g1.nq x (by show x < S.2.2.1; omega) hn.1, g1.nq (x + 1) (by show x + 1 < S.2.2.1; omega) hn.2.1, g1.nq (x + 2) (by show x + 2 < S.2.2.1; omega) hn.2.2⟩
        have hf2 := c_rT_mo hf g1.inc
        have hf3 := c_ins_T hf2 hple hTb
        have hst9 : c_st T' (c_J, S2.2) T' (c_J, S2.2) := c_st.rf g1.wf
        obtain ⟨I2, gg2, k2, z2⟩ := S2
        dsimp only at *
        have hW2 : c_W T' gg2 k2 := g1.wf
        have hvw : ∀ y, T' y → c_i (c_pu gg2 x (c_ins fk n (r_pp kd (r_key kd S.1 fk n).2 fk n) (r_key kd S.1 fk n).2) (c_ins fp n (r_pp kd (r_key kd S.1 fk n).2 fk n) (some b)) (n + 1)) y 2 = c_i gg2 y 2 := fun y hy => by
          have m0 := (hn2.1 y hy).1
          have m1 := (hn2.2.1 y hy).1
          have m2 := (hn2.2.2 y hy).1
          unfold c_i
          rw [c_pu_o ⟨m0, m1, m2⟩]
        have hfb : ∀ j, j < n → (c_i gg2 ((fp j).getD 0) 2).toInt = (c_i S.2.1 ((fp j).getD 0) 2).toInt := fun j hj => by
          obtain ⟨y, hy, hTy⟩ := hf j hj
          rw [hy]
          show (c_i gg2 y 2).toInt = (c_i S.2.1 y 2).toInt
          rw [hav y hTy]
        have h1a := c_n1_eq h1 hfb
        have hsa := c_nsm_eq n hfb
        have h1b := c_n1_ins hple h1a b1
        have hsb := c_nsm_ins (g := gg2) (fp := fp) (b := b) hple
        have hfc : ∀ j, j < n + 1 → (c_i (c_pu gg2 x (c_ins fk n (r_pp kd (r_key kd S.1 fk n).2 fk n) (r_key kd S.1 fk n).2) (c_ins fp n (r_pp kd (r_key kd S.1 fk n).2 fk n) (some b)) (n + 1)) (((c_ins fp n (r_pp kd (r_key kd S.1 fk n).2 fk n) (some b)) j).getD 0) 2).toInt = (c_i gg2 (((c_ins fp n (r_pp kd (r_key kd S.1 fk n).2 fk n) (some b)) j).getD 0) 2).toInt := fun j hj => by
          obtain ⟨y, hy, hTy⟩ := hf3 j hj
          rw [hy]
          show (c_i _ y 2).toInt = (c_i gg2 y 2).toInt
          rw [hvw y hTy]
        have h1c := c_n1_eq h1b hfc
        have hsc := c_nsm_eq (n + 1) hfc
        have hrows := c_pu_rows (fk := c_ins fk n (r_pp kd (r_key kd S.1 fk n).2 fk n) (r_key kd S.1 fk n).2) (fp := c_ins fp n (r_pp kd (r_key kd S.1 fk n).2 fk n) (some b)) (n := n + 1) (x := x) (T0 := T') (S0 := (c_J, gg2, 0, 0)) (J := c_J) (g := gg2) (k := k2) (z := z2) ⟨fun _ h => h, hW2, fun c hc => absurd hc (Nat.not_lt_zero _), Nat.zero_le _, c_Ifr.rf, fun q hq => absurd hq (Nat.not_lt_zero _)⟩ (Nat.zero_le _) hn2
        have hp3 : r_pr T' (t_step I2, (r_S3 x (r_pp kd (r_key kd S.1 fk n).2 fk n) n (r_key kd S.1 fk n).2 fk fp b (I2, gg2, k2, z2)).2) := ⟨hrows.1.wf, Nat.le_trans hp.2.1 hkk, hst.1.2.1⟩
        have hs3 : c_nsm (c_pu gg2 x (c_ins fk n (r_pp kd (r_key kd S.1 fk n).2 fk n) (r_key kd S.1 fk n).2) (c_ins fp n (r_pp kd (r_key kd S.1 fk n).2 fk n) (some b)) (n + 1)) (c_ins fp n (r_pp kd (r_key kd S.1 fk n).2 fk n) (some b)) (n + 1) + t_lf (t_step I2) + 1 ≤ t_lf S0.1 := by rw [hsc, hsb, hsa]; omega
        split
        · exact r_tog_nb hp3 hb0 hf3 h1c hs3
        · split
          · exact r_nb_none
          · exact r_mnl_nb hG hb0 r (n + 1) _ _ T' _ hp3 hf3 hrows.2 (by show x + 3 ≤ k2; omega) h1c hs3
theorem r_many_nb (hG : r_nG G) (hb0 : t_lf S0.1 ≤ 100) {kd close : Int32} (h0 : r_pr T S) (hs : t_lf S.1 + 1 ≤ t_lf S0.1) : r_nb S0 (r_many G kd close S) := by
  obtain ⟨I, g, k, z⟩ := S
  have h125 : 125 ≤ k := h0.2.1
  have hW : c_W T g k := h0.1
  have hst := t_step_tf h0.2.2
  have hst3 := hst.1.2.2
  have hW2 : c_W T (c_pu g k (fun _ => 0) (fun _ => none) 0) (k + 1 + 1 + 1) := c_pu_W hW (Nat.le_refl _) (by omega)
  dsimp only at *
  unfold r_many
  dsimp only
  split
  · exact r_tog_nb (T := T) ⟨hW2, (show 125 ≤ k + 1 + 1 + 1 by omega), hst.1.2.1⟩ hb0 (fun j hj => absurd hj (Nat.not_lt_zero _)) (fun j hj => absurd hj (Nat.not_lt_zero _)) (by show 0 + t_lf (t_step I) + 1 ≤ _; omega)
  · exact r_mnl_nb hG hb0 12 0 _ _ T _ ⟨hW2, (show 125 ≤ k + 1 + 1 + 1 by omega), h0.2.2⟩ (fun j hj => absurd hj (Nat.not_lt_zero _)) (c_nq3_pu hW) (by show k + 3 ≤ k + 1 + 1 + 1; omega) (fun j hj => absurd hj (Nat.not_lt_zero _)) (by show 0 + t_lf I + 1 ≤ _; omega)
theorem r_num_nb (h0 : r_pr T S) : r_nb S (r_num S) := by
  obtain ⟨h1, h2⟩ := t_signed_tf h0.2.2
  unfold r_num
  split
  · exact r_nb_none
  next hc =>
    intro a ha
    cases ha
    have e : c_i (r_numg S.2.1 S.2.2.1 (t_signed S.1).2) S.2.2.1 2 = ab_ii 1 := by unfold c_i r_numg; rw [ab_up_self]; rfl
    have h3 := h2 (by omega)
    dsimp only
    rw [e, show (ab_ii 1).toInt = 1 from by decide]
    omega
theorem r_rd1_nb (hG : r_nG G) (h0 : r_pr T S) : r_nb S (r_rd1 G S) := by
  have hb0 := (t_lf_b h0.2.2).2
  obtain ⟨s1, s2⟩ := t_step_tf h0.2.2
  have hp : r_pr T (t_step S.1, S.2) := ⟨h0.1, h0.2.1, s1.2.1⟩
  unfold r_rd1
  split
  next hc =>
    have s3 := s2 (t_next_at hc (by omega))
    have hb := hG.2 T _ hp
    obtain ⟨T', g1, g2, g3, g4⟩ := hG.1 T _ hp
    refine r_pair1_nb (T := T') hG ⟨g1.wf, Nat.le_trans h0.2.1 g1.kk, g3.2.1⟩ hb0 (fun b hb' => ?_)
    obtain ⟨b1, b2⟩ := hb b hb'
    dsimp only at b2
    exact ⟨g2 b hb', b1, by omega⟩
  next =>
    split
    next hc => exact r_many_nb hG hb0 hp (by have := s2 (t_next_at hc (by omega)); dsimp only; omega)
    next =>
      split
      next hc => exact r_many_nb hG hb0 hp (by have := s2 (t_next_at hc (by omega)); dsimp only; omega)
      next =>
        split
        next hc =>
          have s3 := s2 (t_next_at hc (by omega))
          have hd := (t_digits_tf (most := 1) s1.2.1 (by omega)).1
          have hd3 := hd.2.2
          have hp2 : r_pr T ((t_digits (t_step S.1) 1).1, S.2) := ⟨h0.1, h0.2.1, hd.2.1⟩
          unfold r_tagg
          dsimp only
          split
          · exact r_nb_none
          · have hb := hG.2 T _ hp2
            obtain ⟨T', g1, g2, g3, g4⟩ := hG.1 T _ hp2
            refine r_tag2_nb (T := T') ⟨g1.wf, Nat.le_trans h0.2.1 g1.kk, g3.2.1⟩ hb0 (fun b hb' => ?_)
            obtain ⟨b1, b2⟩ := hb b hb'
            dsimp only at b2
            exact ⟨g2 b hb', b1, by omega⟩
        next => exact r_num_nb h0
end
theorem r_rd_nb : ∀ f, r_nG (r_rd f)
  | 0 => ⟨r_rd_gd 0, fun T S _ => r_nb_none⟩
  | f + 1 => ⟨r_rd_gd (f + 1), fun T S h0 => r_rd1_nb (r_rd_nb f) h0⟩
/-- a whole reading -/
theorem r_R_nb {T : Nat → Prop} {I : wd_I} {g : Nat → ab_C} {k z : Nat} (hW : c_W T g k) (h125 : 125 ≤ k) (ht : 0 ≤ (I 1 1).toInt ∧ (I 1 1).toInt ≤ 100) {a : Nat} (ha : (r_R (I, g, k, z)).1 = some a) : 1 ≤ (c_i (r_R (I, g, k, z)).2.2.1 a 2).toInt ∧ (c_i (r_R (I, g, k, z)).2.2.1 a 2).toInt ≤ 100 := by
  obtain ⟨hp, hl⟩ := r_R_pr (z := z) hW h125 ht
  obtain ⟨T', -, -, g3, -⟩ := r_rd_gd 13 T _ hp
  have l0 := t_lf_0 g3.2.1
  obtain ⟨h1, h2⟩ := (r_rd_nb 13).2 T _ hp a ha
  unfold r_R
  dsimp only at h1 h2 hl l0 ⊢
  omega
end
section
/-! ===== the class: what holds between calls (own text) ===== -/
def k_ok (T : Nat → Prop) (I : wd_I) (P : wd_P) (g : Nat → ab_C) (k : Nat) : Prop := c_W T g k ∧ 125 ≤ k ∧ (0 ≤ (I 9 0).toInt ∧ (I 9 0).toInt ≤ 3000) ∧ (∀ j, j < 12 → ∃ c, s_ok T I P j c) ∧ c_paT g k (P 8) ∧ (∃ n : Nat, I 1 1 = ab_ii (n : Int) ∧ n ≤ 100) ∧ (¬ (I 0 11).toInt = 0 → c_keT T (P 16) ∧ c_paT g k (P 17))
/-- rows that a call leaves as they are -/
def k_sm (I : wd_I) (P : wd_P) (I' : wd_I) (P' : wd_P) : Prop := (∀ j, j < 12 → I' (18 + 5 * j) 1 = I (18 + 5 * j) 1 ∧ P' (18 + 5 * j) 2 = P (18 + 5 * j) 2 ∧ ∀ i, P' (22 + 5 * j) i = P (22 + 5 * j) i) ∧ (∀ i, P' 8 i = P 8 i) ∧ I' 0 11 = I 0 11 ∧ (∀ i, P' 16 i = P 16 i) ∧ ∀ i, P' 17 i = P 17 i
theorem k_sm.rf {I : wd_I} {P : wd_P} : k_sm I P I P := ⟨fun _ _ => ⟨rfl, rfl, fun _ => rfl⟩, fun _ => rfl, rfl, fun _ => rfl, fun _ => rfl⟩
theorem k_sm.tr {I I' I'' : wd_I} {P P' P'' : wd_P} (h : k_sm I P I' P') (h' : k_sm I' P' I'' P'') : k_sm I P I'' P'' := ⟨fun j hj => ⟨(h'.1 j hj).1.trans (h.1 j hj).1, (h'.1 j hj).2.1.trans (h.1 j hj).2.1, fun i => ((h'.1 j hj).2.2 i).trans ((h.1 j hj).2.2 i)⟩, fun i => (h'.2.1 i).trans (h.2.1 i), h'.2.2.1.trans h.2.2.1, fun i => (h'.2.2.2.1 i).trans (h.2.2.2.1 i), fun i => (h'.2.2.2.2 i).trans (h.2.2.2.2 i)⟩
theorem c_paT_xt {g g' : Nat → ab_C} {k k' : Nat} {F F' : Nat → Option Nat} (h : c_paT g k F) (hx : c_ofr k g g') (hk : k ≤ k') (he : ∀ i, F' i = F i) : c_paT g' k' F' := fun p hp => by
  obtain ⟨b, hb, hw⟩ := h p hp
  exact ⟨b, (he p).trans hb, (p_wf_xt hw hx hk).1⟩
theorem c_keT_mo {T T' : Nat → Prop} {F F' : Nat → Option Nat} (h : c_keT T F) (hT : ∀ b, T b → T' b) (he : ∀ i, F' i = F i) : c_keT T' F' := fun p hp => by
  obtain ⟨b, hb, hw⟩ := h p hp
  exact ⟨b, (he p).trans hb, hT b hw⟩
section
variable {T T' : Nat → Prop} {I I' : wd_I} {P P' : wd_P} {g g' : Nat → ab_C} {k k' : Nat}
theorem k_ok.fr (h : k_ok T I P g k) (hW : c_W T' g' k') (hT : ∀ b, T b → T' b) (hx : c_ofr k g g') (hk : k ≤ k') (hs : k_sm I P I' P') (h9 : 0 ≤ (I' 9 0).toInt ∧ (I' 9 0).toInt ≤ 3000) (ht : ∃ n : Nat, I' 1 1 = ab_ii (n : Int) ∧ n ≤ 100) : k_ok T' I' P' g' k' := by
  obtain ⟨h1, h2, h3, h4, h5, h6, h7⟩ := h
  obtain ⟨s1, s2, s3, s4, s5⟩ := hs
  refine ⟨hW, Nat.le_trans h2 hk, h9, fun j hj => ?_, c_paT_xt h5 hx hk s2, ht, fun q => ?_⟩
  · obtain ⟨c, hc⟩ := h4 j hj
    obtain ⟨a1, a2, a3⟩ := s1 j hj
    exact ⟨c, s_ok_eq (s_ok_mo hc hT) a1 a2 a3⟩
  · rw [s3] at q
    obtain ⟨b1, b2⟩ := h7 q
    exact ⟨c_keT_mo b1 hT s4, c_paT_xt b2 hx hk s5⟩
theorem k_ok.tp (h : k_ok T I P g k) : 0 ≤ (I 1 1).toInt ∧ (I 1 1).toInt ≤ 100 := by
  obtain ⟨n, hn, h1⟩ := h.2.2.2.2.2.1
  rw [hn, ab_tI (by omega) (by omega)]
  omega
theorem k_ok.held (h : k_ok T I P g k) {s : Int32} (hs : c_sh s) : ∃ a, P (18 + 5 * s.toInt.toNat) 2 = some a ∧ T a := by
  obtain ⟨c, hc⟩ := h.2.2.2.1 s.toInt.toNat (by unfold c_sh at hs; omega)
  exact hc.2.2.1
theorem k_ok.sok (h : k_ok T I P g k) {s : Int32} (hs : c_sh s) : ∃ c, s_ok T I P s.toInt.toNat c := h.2.2.2.1 s.toInt.toNat (by unfold c_sh at hs; omega)
theorem k_ok.pth (h : k_ok T I P g k) {p : Int32} (hp : c_pp p) : ∃ b, P 8 p.toInt.toNat = some b ∧ p_wf g k b := h.2.2.2.2.1 p.toInt.toNat (by unfold c_pp at hp; omega)
theorem k_ok.shT (h : k_ok T I P g k) : c_shT T P := fun j hj => by
  obtain ⟨c, hc⟩ := h.2.2.2.1 j hj
  exact hc.2.2.1
/-! a shelf becomes a thing -/
theorem s_becI_ne {s c a j : Nat} (h : ¬ (a = 18 + 5 * s ∧ j = 1)) : s_becI I s c a j = I a j := by
  unfold s_becI
  split
  · rw [wd_up_ne _ _ (by omega), wd_up_ne _ _ (by omega)]
  · rw [wd_up_ne _ _ (by omega)]
theorem s_becP_ne {s c x a j : Nat} (h1 : ¬ (a = 18 + 5 * s ∧ j = 2)) (h2 : a ≠ 22 + 5 * s) : s_becP P s c x a j = P a j := by
  unfold s_becP
  split
  · rw [wd_up_ne _ _ (by omega), wd_up_ne _ _ (by omega), s_shift_ne h2]
  · rw [wd_up_ne _ _ (by omega), wd_up_ne _ _ (by omega)]
theorem s_bec_ok {s c a : Nat} (h : s_ok T I P s c) (ha : T a) : s_ok T (s_becI I s c) (s_becP P s c a) s (if c = 10 then 10 else c + 1) := by
  obtain ⟨h1, h2, ⟨b, h3, h4⟩, h5⟩ := h
  unfold s_becI s_becP
  by_cases hc : c = 10
  · rw [if_pos hc, if_pos hc, if_pos hc]
    refine ⟨wd_up_self _ _ _ _, by omega, ⟨a, wd_up_self _ _ _ _, ha⟩, fun i hi => ?_⟩
    rw [wd_up_ne _ _ (by omega)]
    by_cases e : i = 9
    · subst e; rw [wd_up_self]; exact ⟨b, h3, h4⟩
    · rw [wd_up_ne _ _ (Or.inr e), s_shift_at, if_pos (by omega)]
      exact h5 (i + 1) (by omega)
  · rw [if_neg hc, if_neg hc, if_neg hc]
    refine ⟨(wd_up_self _ _ _ _).trans (by congr 1), by omega, ⟨a, wd_up_self _ _ _ _, ha⟩, fun i hi => ?_⟩
    rw [wd_up_ne _ _ (by omega)]
    by_cases e : i = c
    · subst e; rw [wd_up_self]; exact ⟨b, h3, h4⟩
    · rw [wd_up_ne _ _ (Or.inr e)]
      exact h5 i (by omega)
theorem k_ok.bec (h : k_ok T I P g k) {s c a : Nat} (hs : s < 12) (hc : s_ok T I P s c) (ha : T a) : k_ok T (s_becI I s c) (s_becP P s c a) g k := by
  obtain ⟨h1, h2, h3, h4, h5, h6, h7⟩ := h
  refine ⟨h1, h2, by rw [s_becI_ne (by omega)]; exact h3, fun j hj => ?_, fun p hp => ?_, by rw [s_becI_ne (by omega)]; exact h6, fun q => ?_⟩
  · by_cases e : j = s
    · subst e; exact ⟨_, s_bec_ok hc ha⟩
    · obtain ⟨c', hc'⟩ := h4 j hj
      exact ⟨c', s_ok_eq hc' (s_becI_ne (by omega)) (s_becP_ne (by omega) (by omega)) (fun i => s_becP_ne (by omega) (by omega))⟩
  · rw [s_becP_ne (by omega) (by omega)]; exact h5 p hp
  · rw [s_becI_ne (by omega)] at q
    obtain ⟨q1, q2⟩ := h7 q
    exact ⟨fun p hp => by rw [s_becP_ne (by omega) (by omega)]; exact q1 p hp, fun p hp => by rw [s_becP_ne (by omega) (by omega)]; exact q2 p hp⟩
end
/-! what is spent: no room is left -/
def c_sp (S : c_St) : Prop := (0 ≤ (S.1 9 0).toInt ∧ (S.1 9 0).toInt ≤ 3000) ∧ ((S.1 10 6).toInt = 0 ∨ (S.1 9 0).toInt = 3000)
theorem c_I1_sp {I : wd_I} {G G' : (Nat → ab_C) × Nat × Nat} (h : c_sp (I, G)) (hlt : (I 9 0).toInt < 3000) : c_sp (c_I1 I, G') := by
  obtain ⟨h1, h2⟩ := c_I1_9 (I := I) ⟨h.1.1, hlt⟩
  unfold c_sp at *
  dsimp only at *
  rw [h1, h2]
  omega
theorem c_I0_sp {I : wd_I} {G G' : (Nat → ab_C) × Nat × Nat} (h : c_sp (I, G)) (hlt : ¬ (I 9 0).toInt < 3000) : c_sp (c_I0 I, G') := by
  obtain ⟨h1, h2⟩ := c_I0_9 (I := I)
  unfold c_sp at *
  dsimp only at *
  rw [h1]
  omega
theorem c_mkA_sp {a q np : Nat} {fq : Nat → Option Nat} {S : c_St} (h : c_sp S) : c_sp (c_mkA a q np fq S).2 := by
  unfold c_mkA
  split
  · split
    next hlt => exact c_I1_sp h hlt
    next hlt => exact c_I0_sp h hlt
  · exact h
theorem c_mkN_sp {kd wo : Int32} {q np r : Nat} {fq : Nat → Option Nat} {S : c_St} (h : c_sp S) : c_sp (c_mkN kd wo q np fq r S).2 := by
  unfold c_mkN
  split
  · split
    next hlt => exact c_I1_sp h hlt
    next hlt => exact c_I0_sp h hlt
  · exact h
theorem c_fI_sp {I : wd_I} {G G' : (Nat → ab_C) × Nat × Nat} (h : c_sp (I, G)) : c_sp (c_fI I, G') := by
  obtain ⟨e1, e2, -⟩ := c_fI_9 (I := I)
  unfold c_sp at *
  dsimp only at *
  rw [e1, e2]
  exact h
theorem c_ordr_sp {S : c_St} {a : Nat} (h : c_sp S) : c_sp (c_ordr S a).2 := by
  unfold c_ordr
  split
  · exact c_mkA_sp h
  · split
    · exact c_mkA_sp h
    · split
      · exact c_mkA_sp h
      · exact h
theorem c_foc_sp {gv a : Nat} {S : c_St} (h : c_sp S) : c_sp (c_foc gv S a).2 := by
  obtain ⟨I, G⟩ := S
  have hf : c_sp (c_fI I, G) := c_fI_sp h
  have e9 : (c_fI I 9 0).toInt = (I 9 0).toInt := by rw [c_fI_9.1]
  unfold c_foc
  dsimp only
  split
  · split
    · split
      next hlt => exact c_I1_sp hf (by omega)
      next hlt => exact c_I0_sp hf (by omega)
    · exact hf
  · split
    · split
      next hlt => exact c_mkN_sp (c_I1_sp hf (by omega))
      next hlt => exact c_mkN_sp (c_I0_sp hf (by omega))
    · split
      · exact c_mkN_sp hf
      · split
        · exact c_mkN_sp hf
        · split
          · exact hf
          · exact c_ordr_sp hf
theorem c_chl_sp {F : Nat → c_St → Nat × c_St} {p i a : Nat} (hF : ∀ b S, c_sp S → c_sp (F b S).2) : ∀ (n j : Nat) (o : Option (Nat × (Nat → Option Nat))) (S : c_St), c_sp S → c_sp (c_chl F p i a n j o S).2
  | 0, j, none, S, h => h
  | 0, j, some (q, fq), S, h => c_mkA_sp h
  | n + 1, j, none, S, h => by
    have hf := hF (c_pt S.2.1 a j) S h
    unfold c_chl
    split
    · split
      · exact c_chl_sp hF n _ _ _ hf
      · exact c_chl_sp hF n _ _ _ hf
    · exact c_chl_sp hF n _ _ _ h
  | n + 1, j, some (q, fq), S, h => by
    have hf := hF (c_pt S.2.1 a j) S h
    unfold c_chl
    split
    · split
      · exact c_chl_sp hF n _ _ _ hf
      · exact c_chl_sp hF n _ _ _ hf
    · exact c_chl_sp hF n _ _ _ h
theorem c_chw_sp2 {gv p : Nat} : ∀ (f a i : Nat) (S : c_St), c_sp S → c_sp (c_chw gv p f a i S).2
  | 0, a, i, S, h => h
  | f + 1, a, i, S, h => by
    unfold c_chw
    split
    · split
      · exact c_foc_sp h
      · split
        · exact c_chw_sp2 f a (i + 1) S h
        · exact c_chl_sp (fun b S' h' => c_chw_sp2 f b _ S' h') _ _ _ _ h
    · exact h
theorem c_R_sp {gv p a : Nat} {how n : Int32} {S : c_St} (h0 : 0 ≤ (S.1 9 0).toInt ∧ (S.1 9 0).toInt ≤ 3000) : c_sp (c_R gv p a how n S).2 := by
  obtain ⟨e1, e2, e3, -⟩ := c_cI_e (I := S.1) (how := how) (n := n)
  refine c_chw_sp2 41 a 0 _ ⟨?_, Or.inl ?_⟩
  · dsimp only; rw [e1]; exact h0
  · dsimp only; rw [e3]; decide
/-- room for so many calls more -/
def k_rm (n : Nat) (I : wd_I) (k z : Nat) : Prop := (k : Int) + 8 * (3001 - (I 9 0).toInt) + 700 * n ≤ 600000 ∧ (z : Int) + 170 * (3001 - (I 9 0).toInt) + 7000 * n ≤ 7302250
theorem k_rm.ro {n : Nat} {I : wd_I} {g : Nat → ab_C} {k z : Nat} (h : k_rm (n + 1) I k z) : c_ro 82 (I, g, k, z) := by
  unfold k_rm at h
  unfold c_ro
  dsimp only
  omega
theorem k_rm.le {n : Nat} {I I' : wd_I} {k z k' z' : Nat} (h : k_rm (n + 1) I k z) (h9 : (I 9 0).toInt ≤ (I' 9 0).toInt) (hk : k' ≤ k + 700) (hz : z' ≤ z + 7000) : k_rm n I' k' z' := by
  unfold k_rm at *
  omega
theorem k_rm.b {n : Nat} {I : wd_I} {k z : Nat} (h : k_rm (n + 1) I k z) (h9 : (I 9 0).toInt ≤ 3000) : k + 700 ≤ 600000 ∧ z + 7000 ≤ 7302250 := by
  unfold k_rm at h
  omega
end
section
/-! ===== the class: its calls, safe, with what they leave (own text) ===== -/
def k_q (M : wd_I) (Q : ab_Q) (n : Nat) (t : Int32) : Prop := ∀ (r : Int32) (T' : Nat → Prop) (I' : wd_I) (P' : wd_P) (g' : Nat → ab_C) (k' z' : Nat), k_ok T' I' P' g' k' → I' 1 1 = t → k_rm n I' k' z' → Q (some (.inl r)) (wd I' P' M g', k', z')
def k_ql (M : wd_I) (Q : ab_Q) (n : Nat) (t : Int32) : Prop := ∀ (r : Int64) (T' : Nat → Prop) (I' : wd_I) (P' : wd_P) (g' : Nat → ab_C) (k' z' : Nat), k_ok T' I' P' g' k' → I' 1 1 = t → k_rm n I' k' z' → Q (some (.inr (.inl r))) (wd I' P' M g', k', z')
theorem c_fed_ne {I : wd_I} {w : Int32} {c a i : Nat} (h : a ≠ 2) (h1 : ¬ (a = 1 ∧ i = 1)) : ∀ j, c_fed I w c j a i = I a i
  | 0 => rfl
  | j + 1 => by
    unfold c_fed
    rw [wd_up_ne _ _ (by omega), wd_up_ne _ _ (Or.inl h), c_fed_ne h h1 j]
theorem c_srt_ne {g : Nat → ab_C} {l : List Nat} {o : Int} {I : wd_I} {i a j : Nat} (h : a ≠ 13) : c_srt g l o I i a j = I a j := by rw [c_srt_row h]
theorem d_pushes_ne {a j : Nat} (h1 : a ≠ 15) (h2 : a ≠ 14) : ∀ (l : List Int32) (I : wd_I), d_pushes I l a j = I a j
  | [], I => rfl
  | x :: l, I => by
    show d_pushes (d_push I x) l a j = _
    rw [d_pushes_ne h1 h2 l]
    unfold d_push
    split
    · rw [wd_up_ne _ _ (Or.inl h2), wd_up_ne _ _ (Or.inl h1)]
    · rfl
theorem d_fnd_ne {I : wd_I} {g : Nat → ab_C} {a b x j : Nat} (h1 : x ≠ 15) (h2 : x ≠ 14) : d_fnd I g a b x j = I x j := by
  unfold d_fnd
  rw [d_pushes_ne h1 h2, wd_up_ne _ _ (Or.inl h2)]
theorem k_sm_of {I I' : wd_I} {P P' : wd_P} (hI : ∀ a j, (a = 0 ∨ 18 ≤ a) → I' a j = I a j) (hP : ∀ a j, (a = 8 ∨ 16 ≤ a) → P' a j = P a j) : k_sm I P I' P' := ⟨fun j hj => ⟨hI _ _ (by omega), hP _ _ (by omega), fun i => hP _ _ (by omega)⟩, fun i => hP _ _ (by omega), hI _ _ (by omega), fun i => hP _ _ (by omega), fun i => hP _ _ (by omega)⟩
section
variable {T : Nat → Prop} {I : wd_I} {P : wd_P} {g : Nat → ab_C} {k : Nat}
theorem k_ok.ix (h : k_ok T I P g k) {I' : wd_I} {P' : wd_P} (hI : ∀ a j, (a = 0 ∨ a = 1 ∨ a = 9 ∨ 18 ≤ a) → I' a j = I a j) (hP : ∀ a j, (a = 8 ∨ 16 ≤ a) → P' a j = P a j) : k_ok T I' P' g k := h.fr h.1 (fun _ q => q) c_ofr.rf (Nat.le_refl _) (k_sm_of (fun a j q => hI a j (by omega)) hP) (by rw [hI 9 0 (by omega)]; exact h.2.2.1) (by rw [hI 1 1 (by omega)]; exact h.2.2.2.2.2.1)
theorem k_ok.fnd (h : k_ok T I P g k) {p a : Nat} : k_ok T (f_fnd I P g p a).1 (f_fnd I P g p a).2 g k := h.ix (fun x j hx => f_fnd_ne.1 x j (by omega)) (fun x j hx => f_fnd_ne.2 x j (by omega))
end
section
variable {d : Nat} {T : Nat → Prop} {I : wd_I} {P : wd_P} {M : wd_I} {g : Nat → ab_C} {k z n : Nat} {Q : ab_Q}
theorem kk_undo (hd : 3 ≤ d) (h : k_ok T I P g k) (hr : k_rm (n + 1) I k z) {s : Int32} (hQ : k_q M Q n (I 1 1)) : ab_CT d 111 [wd_v 0, .inl s] (wd I P M g, k, z) Q := by
  by_cases hs : c_sh s
  · obtain ⟨c, hc⟩ := h.sok hs
    have hs' : s.toInt.toNat < 12 := by unfold c_sh at hs; omega
    refine y_undo hd (c := c) (fun q => absurd hs q) (fun _ => hc.1) hc.2.1 (fun _ _ => hQ _ _ _ _ _ _ _ h rfl (hr.le (Int.le_refl _) (by omega) (by omega))) (fun _ c' hcc => ?_)
    obtain ⟨b, hb, hTb⟩ := hc.2.2.2 c' (by omega)
    refine ⟨b, hb, hQ _ T _ _ _ _ _ ?_ (wd_up_ne _ _ (by omega)) (hr.le (by rw [wd_up_ne _ _ (by omega)]; exact Int.le_refl _) (by omega) (by omega))⟩
    obtain ⟨h1, h2, h3, h4, h5, h6, h7⟩ := h
    refine ⟨h1, h2, by rw [wd_up_ne _ _ (by omega)]; exact h3, fun j hj => ?_, fun p hp => ?_, by rw [wd_up_ne _ _ (by omega)]; exact h6, fun q => ?_⟩
    · by_cases e : j = s.toInt.toNat
      · subst e
        refine ⟨c', wd_up_self _ _ _ _, by have := hc.2.1; omega, ⟨b, wd_up_self _ _ _ _, hTb⟩, fun i hi => ?_⟩
        rw [wd_up_ne _ _ (by omega)]
        exact hc.2.2.2 i (by omega)
      · obtain ⟨c2, hc2⟩ := h4 j hj
        exact ⟨c2, s_ok_eq hc2 (wd_up_ne _ _ (by omega)) (wd_up_ne _ _ (by omega)) (fun i => wd_up_ne _ _ (by omega))⟩
    · rw [wd_up_ne _ _ (by omega)]; exact h5 p hp
    · rw [wd_up_ne _ _ (by omega)] at q
      obtain ⟨q1, q2⟩ := h7 q
      exact ⟨fun p hp => by rw [wd_up_ne _ _ (by omega)]; exact q1 p hp, fun p hp => by rw [wd_up_ne _ _ (by omega)]; exact q2 p hp⟩
  · exact y_undo hd (c := 0) (fun _ => hQ _ _ _ _ _ _ _ h rfl (hr.le (Int.le_refl _) (by omega) (by omega))) (fun q => absurd q hs) (by omega) (fun q => absurd q hs) (fun q => absurd q hs)
theorem kk_order (hd : 46 ≤ d) (h : k_ok T I P g k) (hr : k_rm (n + 1) I k z) {s t : Int32} (hQ : k_q M Q n (I 1 1)) : ab_CT d 116 [wd_v 0, .inl s, .inl t] (wd I P M g, k, z) Q := by
  have hq := fun r => hQ r _ _ _ _ _ _ h rfl (hr.le (Int.le_refl _) (Nat.le_add_right _ _) (Nat.le_add_right _ _))
  obtain ⟨a, ha⟩ : ∃ a, c_sh s → P (18 + 5 * s.toInt.toNat) 2 = some a ∧ T a := by
    by_cases hs : c_sh s
    · obtain ⟨a, ha⟩ := h.held hs; exact ⟨a, fun _ => ha⟩
    · exact ⟨0, fun q => absurd q hs⟩
  obtain ⟨b, hb⟩ : ∃ b, c_sh t → P (18 + 5 * t.toInt.toNat) 2 = some b ∧ T b := by
    by_cases hs : c_sh t
    · obtain ⟨a, ha⟩ := h.held hs; exact ⟨a, fun _ => ha⟩
    · exact ⟨0, fun q => absurd q hs⟩
  exact y_order2 hd h.1 (fun _ => hq _) ha hb (fun _ _ => hq _)
theorem kk_shared (hd : 88 ≤ d) (h : k_ok T I P g k) (hr : k_rm (n + 1) I k z) {s t : Int32} (hQ : k_q M Q n (I 1 1)) : ab_CT d 117 [wd_v 0, .inl s, .inl t] (wd I P M g, k, z) Q := by
  have hq := fun r => hQ r _ _ _ _ _ _ h rfl (hr.le (Int.le_refl _) (Nat.le_add_right _ _) (Nat.le_add_right _ _))
  obtain ⟨a, ha⟩ : ∃ a, c_sh s → P (18 + 5 * s.toInt.toNat) 2 = some a ∧ T a := by
    by_cases hs : c_sh s
    · obtain ⟨a, ha⟩ := h.held hs; exact ⟨a, fun _ => ha⟩
    · exact ⟨0, fun q => absurd q hs⟩
  obtain ⟨b, hb⟩ : ∃ b, c_sh t → P (18 + 5 * t.toInt.toNat) 2 = some b ∧ T b := by
    by_cases hs : c_sh t
    · obtain ⟨a, ha⟩ := h.held hs; exact ⟨a, fun _ => ha⟩
    · exact ⟨0, fun q => absurd q hs⟩
  exact y_shared hd h.1 (fun _ => hq _) ha hb (fun _ _ => hq _)
theorem kk_differ (hd : 92 ≤ d) (h : k_ok T I P g k) (hr : k_rm (n + 1) I k z) {s t w : Int32} (hQ : k_q M Q n (I 1 1)) : ab_CT d 118 [wd_v 0, .inl s, .inl t, .inl w] (wd I P M g, k, z) Q := by
  obtain ⟨a, ha⟩ : ∃ a, c_sh s → P (18 + 5 * s.toInt.toNat) 2 = some a ∧ T a := by
    by_cases hs : c_sh s
    · obtain ⟨a, ha⟩ := h.held hs; exact ⟨a, fun _ => ha⟩
    · exact ⟨0, fun q => absurd q hs⟩
  obtain ⟨b, hb⟩ : ∃ b, c_sh t → P (18 + 5 * t.toInt.toNat) 2 = some b ∧ T b := by
    by_cases hs : c_sh t
    · obtain ⟨a, ha⟩ := h.held hs; exact ⟨a, fun _ => ha⟩
    · exact ⟨0, fun q => absurd q hs⟩
  refine y_differ hd h.1 (fun _ => hQ _ _ _ _ _ _ _ h rfl (hr.le (Int.le_refl _) (by omega) (by omega))) ha hb (fun _ _ => hQ _ T _ _ _ _ _ (h.ix (fun x j hx => d_fnd_ne (by omega) (by omega)) (fun _ _ _ => rfl)) (d_fnd_ne (by omega) (by omega)) (hr.le (by rw [d_fnd_ne (by omega) (by omega)]; exact Int.le_refl _) (by omega) (by omega)))
theorem kk_count (hd : 3 ≤ d) (h : k_ok T I P g k) (hr : k_rm (n + 1) I k z) {w : Int32} (hQ : k_q M Q n (I 1 1)) : ab_CT d 122 [wd_v 0, .inl w] (wd I P M g, k, z) Q := by
  have hq := fun r => hQ r _ _ _ _ _ _ h rfl (hr.le (Int.le_refl _) (Nat.le_add_right _ _) (Nat.le_add_right _ _))
  refine y_count hd (fun _ => hq _) (fun _ _ => hq _) (fun h1 h2 => ?_) (fun _ => hq _) (fun _ => hq _)
  obtain ⟨b, hb, hw⟩ := h.2.2.2.2.1 (w.toInt - 12).toNat (by omega)
  exact ⟨b, hb, hw, hq _⟩
theorem k_oks (h : k_ok T I P g k) (s : Int32) : ∃ a c, c_sh s → (P (18 + 5 * s.toInt.toNat) 2 = some a ∧ T a) ∧ s_ok T I P s.toInt.toNat c := by
  by_cases hs : c_sh s
  · obtain ⟨a, ha⟩ := h.held hs
    obtain ⟨c, hc⟩ := h.sok hs
    exact ⟨a, c, fun _ => ⟨ha, hc⟩⟩
  · exact ⟨0, 0, fun q => absurd q hs⟩
theorem k_okp (h : k_ok T I P g k) (p : Int32) : ∃ b, c_pp p → P 8 p.toInt.toNat = some b ∧ p_wf g k b := by
  by_cases hs : c_pp p
  · obtain ⟨a, ha⟩ := h.pth hs; exact ⟨a, fun _ => ha⟩
  · exact ⟨0, fun q => absurd q hs⟩
theorem kk_look (hd : 50 ≤ d) (h : k_ok T I P g k) (hr : k_rm (n + 1) I k z) {s p q w : Int32} (hQ : k_ql M Q n (I 1 1)) : ab_CT d 112 [wd_v 0, .inl s, .inl p, .inl q, .inl w] (wd I P M g, k, z) Q := by
  obtain ⟨a, c, ha⟩ := k_oks h s
  obtain ⟨b, hb⟩ := k_okp h p
  have hq := fun r => hQ r _ _ _ _ _ _ (h.fnd (p := b) (a := a)) (f_fnd_ne.1 _ _ (by omega)) (hr.le (by rw [f_fnd_ne.1 _ _ (by omega)]; exact Int.le_refl _) (Nat.le_add_right _ _) (Nat.le_add_right _ _))
  exact y_look hd h.1 (fun _ => hQ _ _ _ _ _ _ _ h rfl (hr.le (Int.le_refl _) (by omega) (by omega))) (fun hs => (ha hs).1) hb (fun _ _ => hq _) (fun _ _ _ => hq _)
theorem kk_key (hd : 50 ≤ d) (h : k_ok T I P g k) (hr : k_rm (n + 1) I k z) {s p q w : Int32} (hQ : k_q M Q n (I 1 1)) : ab_CT d 113 [wd_v 0, .inl s, .inl p, .inl q, .inl w] (wd I P M g, k, z) Q := by
  obtain ⟨a, c, ha⟩ := k_oks h s
  obtain ⟨b, hb⟩ := k_okp h p
  have hq := fun r => hQ r _ _ _ _ _ _ (h.fnd (p := b) (a := a)) (f_fnd_ne.1 _ _ (by omega)) (hr.le (by rw [f_fnd_ne.1 _ _ (by omega)]; exact Int.le_refl _) (Nat.le_add_right _ _) (Nat.le_add_right _ _))
  exact y_key hd h.1 (fun _ => hQ _ _ _ _ _ _ _ h rfl (hr.le (Int.le_refl _) (by omega) (by omega))) (fun hs => (ha hs).1) hb (fun _ _ => hq _) (fun _ _ _ => hq _)
theorem kk_fold (hd : 50 ≤ d) (h : k_ok T I P g k) (hr : k_rm (n + 1) I k z) {s p q : Int32} (hQ : k_ql M Q n (I 1 1)) : ab_CT d 114 [wd_v 0, .inl s, .inl p, .inl q] (wd I P M g, k, z) Q := by
  obtain ⟨a, c, ha⟩ := k_oks h s
  obtain ⟨b, hb⟩ := k_okp h p
  have hq := fun r => hQ r _ _ _ _ _ _ (h.fnd (p := b) (a := a)) (f_fnd_ne.1 _ _ (by omega)) (hr.le (by rw [f_fnd_ne.1 _ _ (by omega)]; exact Int.le_refl _) (Nat.le_add_right _ _) (Nat.le_add_right _ _))
  exact y_fold hd h.1 (fun _ => hQ _ _ _ _ _ _ _ h rfl (hr.le (Int.le_refl _) (by omega) (by omega))) (fun hs => (ha hs).1) hb (fun _ => hq _)
theorem kk_best (hd : 50 ≤ d) (h : k_ok T I P g k) (hr : k_rm (n + 1) I k z) {s p o q : Int32} (hQ : k_q M Q n (I 1 1)) : ab_CT d 115 [wd_v 0, .inl s, .inl p, .inl o, .inl q] (wd I P M g, k, z) Q := by
  obtain ⟨a, c, ha⟩ := k_oks h s
  obtain ⟨b, hb⟩ := k_okp h p
  have hq := fun r => hQ r _ _ _ _ _ _ (h.fnd (p := b) (a := a)) (f_fnd_ne.1 _ _ (by omega)) (hr.le (by rw [f_fnd_ne.1 _ _ (by omega)]; exact Int.le_refl _) (Nat.le_add_right _ _) (Nat.le_add_right _ _))
  refine y_best hd h.1 (fun _ => hQ _ _ _ _ _ _ _ h rfl (hr.le (Int.le_refl _) (by omega) (by omega))) (fun hs => (ha hs).1) hb (fun _ _ => hq _) (fun _ _ _ => hQ _ T _ _ _ _ _ ((h.fnd (p := b) (a := a)).ix (fun x j hx => c_srt_ne (by omega)) (fun _ _ _ => rfl)) ((c_srt_ne (by omega)).trans (f_fnd_ne.1 _ _ (by omega))) (hr.le (by rw [c_srt_ne (by omega), f_fnd_ne.1 _ _ (by omega)]; exact Int.le_refl _) (by omega) (by omega)))
theorem kk_take (hd : 50 ≤ d) (h : k_ok T I P g k) (hr : k_rm (n + 1) I k z) {s f p q : Int32} (hQ : k_q M Q n (I 1 1)) : ab_CT d 110 [wd_v 0, .inl s, .inl f, .inl p, .inl q] (wd I P M g, k, z) Q := by
  obtain ⟨a0, c, hs⟩ := k_oks h s
  obtain ⟨a, c0, ha⟩ := k_oks h f
  obtain ⟨b, hb⟩ := k_okp h p
  have hq := fun r => hQ r _ _ _ _ _ _ (h.fnd (p := b) (a := a)) (f_fnd_ne.1 _ _ (by omega)) (hr.le (by rw [f_fnd_ne.1 _ _ (by omega)]; exact Int.le_refl _) (Nat.le_add_right _ _) (Nat.le_add_right _ _))
  refine y_take hd h.1 (fun _ => hQ _ _ _ _ _ _ _ h rfl (hr.le (Int.le_refl _) (by omega) (by omega))) (fun q => (hs q).2) (fun q => (ha q).1) hb (fun _ _ => hq _) (fun hall h1 h2 => ?_)
  have hs9 : s.toInt.toNat < 12 := by have := hall.1; unfold c_sh at this; omega
  refine hQ _ T _ _ _ _ _ (k_ok.bec (h.fnd (p := b) (a := a)) hs9 (s_ok_fnd (hs hall.1).2) (c_fs41_T h.1 (ha hall.2.1).1.2 (by omega))) ?_ ?_
  · rw [s_becI_ne (by omega)]; exact f_fnd_ne.1 _ _ (by omega)
  · exact hr.le (by rw [s_becI_ne (by omega), f_fnd_ne.1 _ _ (by omega)]; exact Int.le_refl _) (by omega) (by omega)
theorem kk_image (hd : 5 ≤ d) (h : k_ok T I P g k) (hr : k_rm (n + 1) I k z) (hQ : k_q M Q n (I 1 1)) : ab_CT d 120 [wd_v 0] (wd I P M g, k, z) Q := by
  refine y_image hd h.1 h.shT h.2.2.2.2.1 (hQ _ T _ _ _ _ _ ?_ (wd_up_ne _ _ (by omega)) (hr.le (by unfold c_imI; rw [wd_up_ne _ _ (by omega)]; exact Int.le_refl _) (by omega) (by omega)))
  have hsh := h.shT
  obtain ⟨h1, h2, h3, h4, h5, h6, h7⟩ := h
  unfold c_imI
  refine ⟨h1, h2, by rw [wd_up_ne _ _ (by omega)]; exact h3, fun j hj => ?_, fun p hp => ?_, by rw [wd_up_ne _ _ (by omega)]; exact h6, fun _ => ⟨fun j hj => ?_, fun p hp => ?_⟩⟩
  · obtain ⟨c, hc⟩ := h4 j hj
    exact ⟨c, s_ok_eq hc (wd_up_ne _ _ (by omega)) (c_imP_sh hj) (fun i => by unfold c_imP; rw [c_iP_ne (by omega), c_iT_ne (by omega)])⟩
  · unfold c_imP; rw [c_iP_ne (by omega), c_iT_ne (by omega)]; exact h5 p hp
  · unfold c_imP; rw [c_iP_ne (by omega), c_iT_at 12 hj]; exact hsh j hj
  · unfold c_imP; rw [c_iP_at 8 hp, c_iT_ne (by omega)]; exact h5 p hp
theorem kk_back (hd : 5 ≤ d) (h : k_ok T I P g k) (hr : k_rm (n + 1) I k z) (hQ : k_q M Q n (I 1 1)) : ab_CT d 121 [wd_v 0] (wd I P M g, k, z) Q := by
  refine y_back hd h.1 (fun _ => hQ _ _ _ _ _ _ _ h rfl (hr.le (Int.le_refl _) (by omega) (by omega))) (fun q => h.2.2.2.2.2.2 q) (fun q => hQ _ T _ _ _ _ _ ?_ (by rw [c_bI_ne (fun j hj => by omega) 12 (by omega)]) (hr.le (by rw [c_bI_ne (fun j hj => by omega) 12 (by omega)]; exact Int.le_refl _) (by omega) (by omega)))
  obtain ⟨h1, h2, h3, h4, h5, h6, h7⟩ := h
  obtain ⟨q1, q2⟩ := h7 q
  refine ⟨h1, h2, by rw [c_bI_ne (fun j hj => by omega) 12 (by omega)]; exact h3, fun j hj => ⟨0, c_bI_at 12 hj, by omega, ?_, fun i hi => absurd hi (Nat.not_lt_zero _)⟩, fun p hp => ?_, by rw [c_bI_ne (fun j hj => by omega) 12 (by omega)]; exact h6, fun _ => ⟨fun j hj => ?_, fun p hp => ?_⟩⟩
  · rw [c_baP_sh hj]; exact q1 j hj
  · unfold c_baP; rw [c_bP_at 8 hp, c_bT_ne (fun j hj => by omega) 12 (by omega)]; exact q2 p hp
  · unfold c_baP; rw [c_bP_ne (by omega), c_bT_ne (fun j hj => by omega) 12 (by omega)]; exact q1 j hj
  · unfold c_baP; rw [c_bP_ne (by omega), c_bT_ne (fun j hj => by omega) 12 (by omega)]; exact q2 p hp
theorem k_ok.pset (h : k_ok T I P g k) {g' : Nat → ab_C} {k' b p : Nat} {I' : wd_I} (hx : c_ofr k g g') (hk : k ≤ k') (hb : p_wf g' k' b) (hI : ∀ a j, (a = 0 ∨ a = 9 ∨ 18 ≤ a) → I' a j = I a j) (ht : ∃ n : Nat, I' 1 1 = ab_ii (n : Int) ∧ n ≤ 100) : k_ok T I' (wd_up P 8 p (some b)) g' k' := by
  obtain ⟨h1, h2, h3, h4, h5, h6, h7⟩ := h
  refine ⟨c_W_xt h1 hx hk, Nat.le_trans h2 hk, by rw [hI 9 0 (by omega)]; exact h3, fun j hj => ?_, fun q hq => ?_, ht, fun q => ?_⟩
  · obtain ⟨c, hc⟩ := h4 j hj
    exact ⟨c, s_ok_eq hc (hI _ _ (by omega)) (wd_up_ne _ _ (by omega)) (fun i => wd_up_ne _ _ (by omega))⟩
  · by_cases e : q = p
    · subst e; exact ⟨b, wd_up_self _ _ _ _, hb⟩
    · rw [wd_up_ne _ _ (Or.inr e)]
      obtain ⟨c, hc, hw⟩ := h5 q hq
      exact ⟨c, hc, (p_wf_xt hw hx hk).1⟩
  · rw [hI 0 11 (by omega)] at q
    obtain ⟨q1, q2⟩ := h7 q
    exact ⟨fun j hj => by rw [wd_up_ne _ _ (by omega)]; exact q1 j hj, c_paT_xt q2 hx hk (fun i => wd_up_ne _ _ (by omega))⟩
theorem kk_join (hd : 4 ≤ d) (h : k_ok T I P g k) (hr : k_rm (n + 1) I k z) {p o : Int32} (hQ : k_q M Q n (I 1 1)) : ab_CT d 107 [wd_v 0, .inl p, .inl o] (wd I P M g, k, z) Q := by
  have hq := fun r => hQ r _ _ _ _ _ _ h rfl (hr.le (Int.le_refl _) (Nat.le_add_right _ _) (Nat.le_add_right _ _))
  obtain ⟨a, ha⟩ := k_okp h p
  obtain ⟨b, hb⟩ := k_okp h o
  have hrb := hr.b h.2.2.1.2
  refine y_join hd h.2.1 (fun _ => hq _) ha hb ⟨by omega, by omega⟩ (fun _ _ _ => hq _) (fun _ _ h8 => hQ _ T _ _ _ _ _ (h.pset c_mkp_of (by omega) (c_mkp_wf h.2.1 h8).1 (fun _ _ _ => rfl) h.2.2.2.2.2.1) rfl (hr.le (Int.le_refl _) (by omega) (by omega)))
end
end
section
/-! ===== the class: feed, path, thing, over, put, fit, safe (own text) ===== -/
theorem r_side_tf {I : wd_I} (h : t_tp I) : r_tf I (r_side I).1 := by
  unfold r_side
  split
  · exact (t_step_tf h).1
  · exact t_needs_tf h
theorem r_step_tf {I : wd_I} (h : t_tp I) : r_tf I (r_step I).1 := by
  have hs := (t_step_tf h).1
  have ht := hs.2.1
  unfold r_step
  by_cases c1 : (t_next I).toInt = 42 ∨ (t_next I).toInt = 126 ∨ (t_next I).toInt = 37
  · rw [if_pos c1]; exact hs
  rw [if_neg c1]
  by_cases c2 : (t_next I).toInt = 46
  · rw [if_pos c2]; exact hs.tr (r_side_tf ht)
  rw [if_neg c2]
  by_cases c3 : (t_next I).toInt = 47
  · rw [if_pos c3]; exact hs.tr (t_digits_tf ht (by omega)).1
  rw [if_neg c3]
  by_cases c4 : (t_next I).toInt = 35
  · rw [if_pos c4]; exact hs.tr (t_digits_tf ht (by omega)).1
  rw [if_neg c4]
  by_cases c5 : (t_next I).toInt = 36
  · rw [if_pos c5]
    dsimp only
    have h1 := t_letters_tf ht
    exact (hs.tr h1).tr (t_needs_tf h1.2.1)
  rw [if_neg c5]
  by_cases c6 : (t_next I).toInt = 60
  · rw [if_pos c6]
    dsimp only
    have h1 := (t_digits_tf (most := 2) ht (by omega)).1
    exact (hs.tr h1).tr (t_needs_tf h1.2.1)
  rw [if_neg c6]
  by_cases c7 : (t_next I).toInt = 61
  · rw [if_pos c7]
    dsimp only
    have h1 := (t_signed_tf ht).1
    exact (hs.tr h1).tr (t_needs_tf h1.2.1)
  rw [if_neg c7]
  exact hs.tr (t_fail_tf ht).1
/-- rows 5 and 6, and the tape's two numbers, alone are written -/
def r_pf (I I' : wd_I) : Prop := ∀ a j, a ≠ 5 → a ≠ 6 → ¬ (a = 1 ∧ (j = 2 ∨ j = 3)) → I' a j = I a j
theorem r_pf.tr {I I' I'' : wd_I} (h : r_pf I I') (h' : r_pf I' I'') : r_pf I I'' := fun a j q1 q2 q3 => (h' a j q1 q2 q3).trans (h a j q1 q2 q3)
theorem r_tf.pf {I I' : wd_I} (h : r_tf I I') : r_pf I I' := fun a j _ _ q3 => h.1 a j q3
theorem r_one_pf {I : wd_I} {j : Nat} (h : t_tp I) : r_pf I (r_one I j) := by
  have h1 : r_pf I (wd_up I 5 j (t_next I)) := fun a i q1 _ _ => wd_up_ne _ _ (Or.inl q1)
  have h2 := r_step_tf (t_tp_up (v := t_next I) (j := j) h (show 5 ≠ 1 by omega))
  exact (h1.tr h2.pf).tr (fun a i _ q2 _ => wd_up_ne _ _ (Or.inl q2))
theorem r_loop_pf : ∀ (r : Nat) (I : wd_I) (j : Nat), t_tp I → r_pf I (r_loop r I j).1 ∧ t_tp (r_loop r I j).1
  | 0, I, j, h => ⟨fun _ _ _ _ _ => rfl, h⟩
  | r + 1, I, j, h => by
    unfold r_loop
    split
    · exact ⟨fun _ _ _ _ _ => rfl, h⟩
    · split
      · exact ⟨fun _ _ _ _ _ => rfl, h⟩
      · obtain ⟨h1, h2⟩ := r_loop_pf r (r_one I j) (j + 1) (r_one_tp h)
        exact ⟨(r_one_pf h).tr h1, h2⟩
theorem r_who_pf {I : wd_I} (h : 0 ≤ (I 1 1).toInt ∧ (I 1 1).toInt ≤ 100) : r_pf I (r_who I) ∧ t_tp (r_who I) := by
  have h0 : r_pf I (r_new I) := fun a j _ _ q3 => by unfold r_new; rw [wd_up_ne _ _ (by omega), wd_up_ne _ _ (by omega)]
  obtain ⟨h1, h2⟩ := r_loop_pf 8 (r_new I) 0 (r_new_tp h)
  have h3 := r_end_tf h2
  exact ⟨(h0.tr h1).tr h3.pf, h3.2.1⟩
section
variable {d : Nat} {T : Nat → Prop} {I : wd_I} {P : wd_P} {M : wd_I} {g : Nat → ab_C} {k z n : Nat} {Q : ab_Q}
theorem kk_path (hd : 8 ≤ d) (h : k_ok T I P g k) (hr : k_rm (n + 1) I k z) {p : Int32} (hb : ¬ c_pp p → k_q M Q n (I 1 1)) (hg : c_pp p → k_q M Q n (ab_ii 0)) : ab_CT d 106 [wd_v 0, .inl p] (wd I P M g, k, z) Q := by
  have hrb := hr.b h.2.2.1.2
  obtain ⟨w1, w2⟩ := r_who_pf h.tp
  have h8 : r_len I ≤ 8 := by have := r_loop_le 8 (r_new I) 0; unfold r_len; omega
  have e9 : ∀ v, wd_up (r_who I) 1 1 v 9 0 = I 9 0 := fun v => (wd_up_ne _ _ (by omega)).trans (w1 9 0 (by omega) (by omega) (by omega))
  refine y_path hd h.2.1 h.tp ⟨by omega, by omega⟩ (fun q => hb q _ _ _ _ _ _ _ h rfl (hr.le (Int.le_refl _) (by omega) (by omega))) (fun q _ => hg q _ T _ _ _ _ _ ?_ (wd_up_self _ _ _ _) (hr.le (by rw [e9]; exact Int.le_refl _) (by omega) (by omega))) (fun q _ => hg q _ T _ _ _ _ _ ?_ (wd_up_self _ _ _ _) (hr.le (by rw [e9]; exact Int.le_refl _) (by omega) (by omega)))
  · exact h.fr h.1 (fun _ q => q) c_ofr.rf (Nat.le_refl _) (k_sm_of (fun a j q => (wd_up_ne _ _ (by omega)).trans (w1 a j (by omega) (by omega) (by omega))) (fun _ _ _ => rfl)) (by rw [e9]; exact h.2.2.1) ⟨0, wd_up_self _ _ _ _, by omega⟩
  · exact h.pset c_mkr_of (by omega) (c_mkr_wf h.2.1 h8).1 (fun a j q => (wd_up_ne _ _ (by omega)).trans (w1 a j (by omega) (by omega) (by omega))) ⟨0, wd_up_self _ _ _ _, by omega⟩
theorem kk_thing (hd : 60 ≤ d) (h : k_ok T I P g k) (hr : k_rm (n + 1) I k z) {s : Int32} (hb : ¬ c_sh s → k_q M Q n (I 1 1)) (hg : c_sh s → k_q M Q n (ab_ii 0)) : ab_CT d 105 [wd_v 0, .inl s] (wd I P M g, k, z) Q := by
  have hrb := hr.b h.2.2.1.2
  obtain ⟨a0, c, hs⟩ := k_oks h s
  obtain ⟨T', g1, g2, g3, g4, g5, g6⟩ := r_R_gd (z := z) h.1 h.2.1 h.tp
  have hkk : k ≤ (r_R (I, g, k, z)).2.2.2.1 := g1.kk
  have hJ : ∀ a j, ¬ (a = 1) → r_RJ (I, g, k, z) a j = I a j := fun a j q => (wd_up_ne _ _ (by omega)).trans (g3 a j (by omega))
  have hJ1 : r_RJ (I, g, k, z) 1 1 = ab_ii 0 := wd_up_self _ _ _ _
  have hkJ : ∀ (I' : wd_I), (∀ a j, a ≠ 9 → I' a j = r_RJ (I, g, k, z) a j) → (0 ≤ (I' 9 0).toInt ∧ (I' 9 0).toInt ≤ 3000) → k_ok T' I' P (r_R (I, g, k, z)).2.2.1 (r_R (I, g, k, z)).2.2.2.1 := fun I' hI h9 => h.fr g1.wf g1.inc g1.ofr hkk (k_sm_of (fun a j q => (hI a j (by omega)).trans (hJ a j (by omega))) (fun _ _ _ => rfl)) h9 ⟨0, (hI 1 1 (by omega)).trans hJ1, by omega⟩
  have e9 : r_RJ (I, g, k, z) 9 0 = I 9 0 := hJ 9 0 (by omega)
  have hk0 := hkJ _ (fun _ _ _ => rfl) (by rw [e9]; exact h.2.2.1)
  have hn := fun q r => hg q r T' _ _ _ _ (r_R (I, g, k, z)).2.2.2.2 hk0 hJ1 (hr.le (by rw [e9]; exact Int.le_refl _) (by omega) (by omega))
  have hnd := fun a ha => r_R_nb (z := z) (a := a) h.1 h.2.1 h.tp ha
  refine y_thing hd h.1 h.2.1 h.tp h.2.2.1 ⟨by omega, by omega⟩ (fun q => (hs q).2) (fun q => hb q _ _ _ _ _ _ _ h rfl (hr.le (Int.le_refl _) (by omega) (by omega))) (fun q _ => hn q _) (fun _ a ha _ => ⟨by have := hnd a ha; omega, by have := hnd a ha; omega⟩) (fun q a ha _ _ => hn q _) (fun q a ha hf hle => ?_)
  have hnda := hnd a ha
  have h9 := h.2.2.1
  have e9b : (wd_up (r_RJ (I, g, k, z)) 9 0 (ab_ii ((I 9 0).toInt + (c_i (r_R (I, g, k, z)).2.2.1 a 2).toInt)) 9 0).toInt = (I 9 0).toInt + (c_i (r_R (I, g, k, z)).2.2.1 a 2).toInt := by rw [wd_up_self, ab_tI (by omega) (by omega)]
  have hk1 := hkJ (wd_up (r_RJ (I, g, k, z)) 9 0 (ab_ii ((I 9 0).toInt + (c_i (r_R (I, g, k, z)).2.2.1 a 2).toInt))) (fun a j q => wd_up_ne _ _ (by omega)) (by rw [e9b]; omega)
  have hs9 : s.toInt.toNat < 12 := by unfold c_sh at q; omega
  have hsok : s_ok T' (wd_up (r_RJ (I, g, k, z)) 9 0 (ab_ii ((I 9 0).toInt + (c_i (r_R (I, g, k, z)).2.2.1 a 2).toInt))) P s.toInt.toNat c := s_ok_eq (s_ok_mo (hs q).2 g1.inc) ((wd_up_ne _ _ (by omega)).trans (hJ _ _ (by omega))) rfl (fun _ => rfl)
  refine hg q _ T' _ _ _ _ _ (hk1.bec hs9 hsok (g2 a ha)) ?_ (hr.le ?_ (by dsimp only; omega) (by dsimp only; omega))
  · dsimp only
    rw [s_becI_ne (by omega), wd_up_ne _ _ (by omega)]; exact hJ1
  · dsimp only
    rw [s_becI_ne (by omega), e9b]; omega
/-- room behind OVER -/
theorem k_rm_R {m : Nat} {T : Nat → Prop} {gv p a : Nat} {how v : Int32} (h9 : 0 ≤ (I 9 0).toInt ∧ (I 9 0).toInt ≤ 3000) (hgd : c_gd T 82 (c_cI I how v, g, k, z) (c_R gv p a how v (I, g, k, z))) : (0 ≤ ((c_R gv p a how v (I, g, k, z)).2.1 9 0).toInt ∧ ((c_R gv p a how v (I, g, k, z)).2.1 9 0).toInt ≤ 3000) ∧ ((I 9 0).toInt ≤ ((c_R gv p a how v (I, g, k, z)).2.1 9 0).toInt) ∧ (((c_R gv p a how v (I, g, k, z)).2.2.2.1 : Int) + 8 * (3001 - ((c_R gv p a how v (I, g, k, z)).2.1 9 0).toInt) ≤ k + 8 * (3001 - (I 9 0).toInt) + 90) ∧ (((c_R gv p a how v (I, g, k, z)).2.2.2.2 : Int) + 170 * (3001 - ((c_R gv p a how v (I, g, k, z)).2.1 9 0).toInt) ≤ z + 170 * (3001 - (I 9 0).toInt) + 3450) ∧ k ≤ (c_R gv p a how v (I, g, k, z)).2.2.2.1 := by
  obtain ⟨e1, e2, e3, -⟩ := c_cI_e (I := I) (how := how) (n := v)
  have hsp := c_R_sp (gv := gv) (p := p) (a := a) (how := how) (n := v) (S := (I, g, k, z)) h9
  obtain ⟨T', g1, -, g3⟩ := hgd
  have g4 : k ≤ (c_R gv p a how v (I, g, k, z)).2.2.2.1 := g1.kk
  unfold c_us at g3
  unfold c_sp at hsp
  dsimp only at g3
  rw [e1] at g3
  refine ⟨hsp.1, g3.1.1, ?_, ?_, g4⟩ <;> rcases hsp.2 with q | q <;> omega
theorem k_ok_R {gv p a : Nat} {how v : Int32} {P' : wd_P} (h : k_ok T I P g k) (ha : T a) (hgv : how.toInt = 7 → T gv) (hP : ∀ x j, x ≠ 10 → P' x j = P x j) : ∃ T', k_ok T' (c_R gv p a how v (I, g, k, z)).2.1 P' (c_R gv p a how v (I, g, k, z)).2.2.1 (c_R gv p a how v (I, g, k, z)).2.2.2.1 ∧ T' (c_R gv p a how v (I, g, k, z)).1 ∧ (c_R gv p a how v (I, g, k, z)).2.1 1 1 = I 1 1 ∧ (∀ b, T b → T' b) ∧ ∀ s c, s < 12 → s_ok T I P s c → s_ok T' (c_R gv p a how v (I, g, k, z)).2.1 P' s c := by
  have hgd := c_R_gd (z := z) (n := v) (p := p) h.1 h.2.1 ha h.2.2.1 hgv
  obtain ⟨b1, -, -, -, b5⟩ := k_rm_R (m := 0) h.2.2.1 hgd
  have hfr := c_R_fr hgd
  obtain ⟨T', g1, g2, g3⟩ := hgd
  refine ⟨T', h.fr g1.wf g1.inc g1.ofr b5 (k_sm_of (fun a j q => hfr a j (by omega) (by omega)) (fun a j q => hP a j (by omega))) b1 (by rw [hfr 1 1 (by omega) (by omega)]; exact h.2.2.2.2.2.1), g2, hfr 1 1 (by omega) (by omega), g1.inc, fun s c hs hc => s_ok_eq (s_ok_mo hc g1.inc) (hfr _ _ (by omega) (by omega)) (hP _ _ (by omega)) (fun i => hP _ _ (by omega))⟩
theorem kk_over (hd : 96 ≤ d) (h : k_ok T I P g k) (hr : k_rm (n + 1) I k z) {s f p how v : Int32} (hQ : k_q M Q n (I 1 1)) : ab_CT d 108 [wd_v 0, .inl s, .inl f, .inl p, .inl how, .inl v] (wd I P M g, k, z) Q := by
  obtain ⟨a0, c, hs⟩ := k_oks h s
  obtain ⟨a, c0, ha⟩ := k_oks h f
  obtain ⟨b, hb⟩ := k_okp h p
  obtain ⟨gv, c1, hgv⟩ := k_oks h v
  obtain ⟨o, ho7, hon⟩ : ∃ o : Option Nat, (how.toInt = 7 → o = some gv) ∧ (¬ how.toInt = 7 → o = none) := by
    by_cases h7 : how.toInt = 7
    · exact ⟨some gv, fun _ => rfl, fun q => absurd h7 q⟩
    · exact ⟨none, fun q => absurd q h7, fun _ => rfl⟩
  have hall : ∀ hx : (c_sh s ∧ c_sh f ∧ c_pp p ∧ c_isHow how v), (c_gd T 82 (c_cI I how v, g, k, z) (c_R gv b a how v (I, g, k, z))) ∧ ∃ T', k_ok T' (c_R gv b a how v (I, g, k, z)).2.1 (c_cP P b o) (c_R gv b a how v (I, g, k, z)).2.2.1 (c_R gv b a how v (I, g, k, z)).2.2.2.1 ∧ T' (c_R gv b a how v (I, g, k, z)).1 ∧ (c_R gv b a how v (I, g, k, z)).2.1 1 1 = I 1 1 ∧ (∀ b, T b → T' b) ∧ ∀ s c, s < 12 → s_ok T I P s c → s_ok T' (c_R gv b a how v (I, g, k, z)).2.1 (c_cP P b o) s c := fun hx => by
    have h7 : how.toInt = 7 → T gv := fun q => (hgv (by have := hx.2.2.2; unfold c_isHow at this; rw [if_neg (by omega), if_pos q] at this; exact this)).1.2
    exact ⟨c_R_gd (z := z) (n := v) (p := b) h.1 h.2.1 (ha hx.2.1).1.2 h.2.2.1 h7, k_ok_R h (ha hx.2.1).1.2 h7 (fun x j q => c_cP_ne q)⟩
  have hrm : ∀ hx : (c_sh s ∧ c_sh f ∧ c_pp p ∧ c_isHow how v), k_rm n (c_R gv b a how v (I, g, k, z)).2.1 (c_R gv b a how v (I, g, k, z)).2.2.2.1 (c_R gv b a how v (I, g, k, z)).2.2.2.2 := fun hx => by
    obtain ⟨r1, r2, r3, r4, -⟩ := k_rm_R (m := 0) h.2.2.1 (hall hx).1
    unfold k_rm at *
    omega
  have hpl : (c_sh s ∧ c_sh f ∧ c_pp p ∧ c_isHow how v) → ∀ r, Q (some (.inl r)) (c_S (c_cP P b o) M (c_R gv b a how v (I, g, k, z)).2) := fun hx r => by
    obtain ⟨-, T', k1, k2, k3, -⟩ := hall hx
    exact hQ r T' _ _ _ _ _ k1 k3 (hrm hx)
  refine y_over hd h.1 h.2.1 h.2.2.1 hr.ro (o := o) (fun _ => hQ _ _ _ _ _ _ _ h rfl (hr.le (Int.le_refl _) (by omega) (by omega))) (fun q => (hs q).2) (fun q => (ha q).1) hb (fun h7 q => ⟨(hgv q).1.1, (hgv q).1.2, ho7 h7⟩) hon (fun hx _ => hpl hx _) (fun hx _ _ => hpl hx _) (fun hx _ _ => ?_)
  obtain ⟨-, T', k1, k2, k3, k4, k5⟩ := hall hx
  have hs9 : s.toInt.toNat < 12 := by have := hx.1; unfold c_sh at this; omega
  refine hQ _ T' _ _ _ _ _ (k1.bec hs9 (k5 _ _ hs9 (hs hx.1).2) k2) ?_ ?_
  · show s_becI _ _ _ 1 1 = _
    rw [s_becI_ne (by omega)]; exact k3
  · have := hrm hx
    unfold k_rm at *
    dsimp only
    rw [s_becI_ne (by omega)]
    exact this
theorem kk_put (hd : 10 ≤ d) (h : k_ok T I P g k) (hr : k_rm (n + 1) I k z) {s what a b v : Int32} (hQ : k_q M Q n (I 1 1)) : ab_CT d 109 [wd_v 0, .inl s, .inl what, .inl a, .inl b, .inl v] (wd I P M g, k, z) Q := by
  have hrb := hr.b h.2.2.1.2
  obtain ⟨a0, c, hs⟩ := k_oks h s
  obtain ⟨x, c0, ha⟩ := k_oks h a
  obtain ⟨y, c1, hb⟩ := k_oks h b
  have hq := fun r => hQ r _ _ _ _ _ _ h rfl (hr.le (Int.le_refl _) (Nat.le_add_right _ _) (Nat.le_add_right _ _))
  have hst : ∀ hx : c_pt1 s what a b v, c_st T (c_J, g, k, z) (fun w => T w ∨ w = k + 1 + 1 + 1 + 1 + 1) (c_J, c_ptg g k x y what v, k + 1 + 1 + 1 + 1 + 1 + 1, 0) ∧ c_ptz g z x y what v ≤ z + 61 := fun hx => c_ptg_st h.1 h.2.1 (ha hx.2.1).1.2 (hb hx.2.2.1).1.2
  have hk1 : ∀ hx : c_pt1 s what a b v, ∀ I', (∀ a j, a ≠ 9 → I' a j = I a j) → (0 ≤ (I' 9 0).toInt ∧ (I' 9 0).toInt ≤ 3000) → k_ok (fun w => T w ∨ w = k + 1 + 1 + 1 + 1 + 1) I' P (c_ptg g k x y what v) (k + 1 + 1 + 1 + 1 + 1 + 1) := fun hx I' hI h9 => by
    obtain ⟨g1, -⟩ := hst hx
    exact h.fr g1.wf g1.inc g1.ofr g1.kk (k_sm_of (fun a j q => hI a j (by omega)) (fun _ _ _ => rfl)) h9 (by rw [hI 1 1 (by omega)]; exact h.2.2.2.2.2.1)
  refine y_put hd h.1 h.2.1 h.2.2.1 ⟨by omega, by omega⟩ (fun _ => hq _) (fun q => (hs q).2) (fun q => (ha q).1) (fun q => (hb q).1) (fun _ _ _ => hq _) (fun _ _ _ => hq _) (fun hx _ _ _ => ?_) (fun hx _ hlt _ => ?_)
  · exact hQ _ _ _ _ _ _ _ (hk1 hx I (fun _ _ _ => rfl) h.2.2.1) rfl (hr.le (Int.le_refl _) (by omega) (by have := (hst hx).2; omega))
  · have hs9 : s.toInt.toNat < 12 := by have := hx.1; unfold c_sh at this; omega
    obtain ⟨e1, -⟩ := c_I1_9 (I := I) ⟨h.2.2.1.1, hlt⟩
    have h9 := h.2.2.1
    refine hQ _ _ _ _ _ _ _ ((hk1 hx (c_I1 I) (fun a j q => wd_up_ne _ _ (by omega)) (by rw [e1]; omega)).bec hs9 (s_ok_eq (s_ok_mo (hs hx.1).2 (fun _ q => Or.inl q)) (wd_up_ne _ _ (by omega)) rfl (fun _ => rfl)) (Or.inr rfl)) ?_ (hr.le ?_ (by omega) (by have := (hst hx).2; omega))
    · rw [s_becI_ne (by omega)]; exact wd_up_ne _ _ (by omega)
    · rw [s_becI_ne (by omega), e1]; omega
theorem kk_fit (hd : 98 ≤ d) (h : k_ok T I P g k) (hr : k_rm (n + 1) I k z) {s p w : Int32} (hQ : k_q M Q n (I 1 1)) : ab_CT d 119 [wd_v 0, .inl s, .inl p, .inl w] (wd I P M g, k, z) Q := by
  obtain ⟨a, c, ha⟩ := k_oks h s
  obtain ⟨b, hb⟩ := k_okp h p
  obtain ⟨gv, c1, hgv⟩ := k_oks h w
  have hfP : ∀ x j, x ≠ 10 → c_fP P b gv x j = P x j := fun x j q => c_cP_ne q
  have h1 : ∀ hx : (c_sh s ∧ c_pp p ∧ c_sh w), ∃ T1, k_ok T1 (c_F1 gv b a (I, g, k, z)).2.1 (c_fP P b gv) (c_F1 gv b a (I, g, k, z)).2.2.1 (c_F1 gv b a (I, g, k, z)).2.2.2.1 ∧ T1 (c_F1 gv b a (I, g, k, z)).1 ∧ (c_F1 gv b a (I, g, k, z)).2.1 1 1 = I 1 1 ∧ T1 gv := fun hx => by
    obtain ⟨T1, k1, k2, k3, k4, -⟩ := k_ok_R (gv := gv) (p := b) (a := a) (how := ab_ii 7) (v := ab_ii 0) (z := z) h (ha hx.1).1.2 (fun _ => (hgv hx.2.2).1.2) hfP
    exact ⟨T1, k1, k2, k3, k4 _ (hgv hx.2.2).1.2⟩
  have r1 : ∀ hx : (c_sh s ∧ c_pp p ∧ c_sh w), _ := fun hx => k_rm_R (m := 0) h.2.2.1 (c_R_gd (z := z) (how := ab_ii 7) (n := ab_ii 0) (p := b) h.1 h.2.1 (ha hx.1).1.2 h.2.2.1 (fun _ => (hgv hx.2.2).1.2))
  have hp1 : (c_sh s ∧ c_pp p ∧ c_sh w) → ∀ r, Q (some (.inl r)) (c_S (c_fP P b gv) M (c_F1 gv b a (I, g, k, z)).2) := fun hx r => by
    obtain ⟨T1, k1, k2, k3, -⟩ := h1 hx
    refine hQ r T1 _ _ _ _ _ k1 k3 ?_
    obtain ⟨q1, q2, q3, q4, -⟩ := r1 hx
    unfold c_F1
    unfold k_rm at *
    omega
  have h2 : ∀ hx : (c_sh s ∧ c_pp p ∧ c_sh w), ∃ T2, k_ok T2 (c_F2 gv b a (I, g, k, z)).2.1 (c_fP P b gv) (c_F2 gv b a (I, g, k, z)).2.2.1 (c_F2 gv b a (I, g, k, z)).2.2.2.1 ∧ (c_F2 gv b a (I, g, k, z)).2.1 1 1 = I 1 1 ∧ k_rm n (c_F2 gv b a (I, g, k, z)).2.1 (c_F2 gv b a (I, g, k, z)).2.2.2.1 (c_F2 gv b a (I, g, k, z)).2.2.2.2 := fun hx => by
    obtain ⟨T1, k1, k2, k3, kg⟩ := h1 hx
    obtain ⟨q1, q2, q3, q4, -⟩ := r1 hx
    unfold c_F2
    change (0 ≤ ((c_F1 gv b a (I, g, k, z)).2.1 9 0).toInt ∧ ((c_F1 gv b a (I, g, k, z)).2.1 9 0).toInt ≤ 3000) at q1
    change (I 9 0).toInt ≤ ((c_F1 gv b a (I, g, k, z)).2.1 9 0).toInt at q2
    change ((c_F1 gv b a (I, g, k, z)).2.2.2.1 : Int) + 8 * (3001 - ((c_F1 gv b a (I, g, k, z)).2.1 9 0).toInt) ≤ _ at q3
    change ((c_F1 gv b a (I, g, k, z)).2.2.2.2 : Int) + 170 * (3001 - ((c_F1 gv b a (I, g, k, z)).2.1 9 0).toInt) ≤ _ at q4
    generalize c_F1 gv b a (I, g, k, z) = R at *
    obtain ⟨x1, I1, g1, k1', z1⟩ := R
    dsimp only at *
    obtain ⟨T2, m1, m2, m3, m4, -⟩ := k_ok_R (gv := gv) (p := b) (a := x1) (how := ab_ii 7) (v := ab_ii 0) (z := z1) (P' := c_fP P b gv) k1 k2 (fun _ => kg) (fun _ _ _ => rfl)
    obtain ⟨u1, u2, u3, u4, -⟩ := k_rm_R (m := 0) k1.2.2.1 (c_R_gd (z := z1) (how := ab_ii 7) (n := ab_ii 0) (p := b) (gv := gv) k1.1 k1.2.1 k2 k1.2.2.1 (fun _ => kg))
    refine ⟨T2, m1, m3.trans k3, ?_⟩
    unfold k_rm at *
    omega
  have hp2 : (c_sh s ∧ c_pp p ∧ c_sh w) → ∀ r, Q (some (.inl r)) (c_S (c_fP P b gv) M (c_F2 gv b a (I, g, k, z)).2) := fun hx r => by
    obtain ⟨T2, k1, k3, k5⟩ := h2 hx
    exact hQ r T2 _ _ _ _ _ k1 k3 k5
  refine y_fit hd h.1 h.2.1 h.2.2.1 hr.ro (fun _ => hQ _ _ _ _ _ _ _ h rfl (hr.le (Int.le_refl _) (by omega) (by omega))) (fun q => (ha q).1) hb (fun q => (hgv q).1) (fun hx _ => hp1 hx _) (fun hx _ _ => hp1 hx _) (fun hx _ _ _ => hp2 hx _) (fun hx _ _ _ _ => hp2 hx _) (fun hx _ _ _ _ => ?_)
  obtain ⟨T2, k1, k3, k5⟩ := h2 hx
  refine hQ _ T2 _ _ _ _ _ k1.fnd ((f_fnd_ne.1 _ _ (by omega)).trans k3) ?_
  unfold k_rm at *
  rw [f_fnd_ne.1 _ _ (by omega)]
  exact k5
end
end
