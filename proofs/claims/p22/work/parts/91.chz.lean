/-! ===== the class: OVER within, walked (own text) ===== -/
theorem w_aasH {I : wd_I} {P : wd_P} {M : wd_I} {g : Nat → ab_C} {k z x n t : Nat} {i : Int32} {o : Option Nat} {f : Nat → Option Nat} {K : ab_H → Prop} (hm : wd_mut x = false) (hx : g x = ab_ra t n f) (hi : 0 ≤ i.toInt ∧ i.toInt < n) (ho : ∀ v, o = some v → ∃ fs, (wd I P M g, k, z).1 v = ab_ob (ab_ec t) fs) (hK : ∀ e, e = i.toInt.toNat → K (wd I P M (ab_up g x (ab_ra t n (ab_up f e o))), k, z)) : ∃ t0 n0 f0, (wd I P M g, k, z).1 x = ab_ra t0 n0 f0 ∧ (0 ≤ i.toInt ∧ i.toInt < n0) ∧ (∀ v, o = some v → ∃ fs, (wd I P M g, k, z).1 v = ab_ob (ab_ec t0) fs) ∧ ∀ h', h' = ab_set (wd I P M g, k, z) x (ab_ra t0 n0 (ab_up f0 i.toInt.toNat o)) → K h' := by
  refine ⟨t, n, f, (wd_g hm).trans hx, hi, ho, fun h' hh => ?_⟩
  have e : h' = (wd I P M (ab_up g x (ab_ra t n (ab_up f i.toInt.toNat o))), k, z) := by
    rw [hh]
    show (ab_up (wd I P M g) x _, k, z) = _
    rw [wd_foldg hm]
  rw [e]
  exact hK _ rfl
def c_ro (v : Nat) (S : c_St) : Prop := (S.2.2.1 : Int) + 8 * (3001 - (S.1 9 0).toInt) + v ≤ 600000 ∧ (S.2.2.2 : Int) + 170 * (3001 - (S.1 9 0).toInt) + 40 * v ≤ 5000000
/-- how OVER is asked: it stays so -/
def c_qr (P : wd_P) (gv p : Nat) (S : c_St) : Prop := p_wf S.2.1 S.2.2.1 p ∧ (0 ≤ (S.1 10 2).toInt ∧ (S.1 10 2).toInt ≤ 11) ∧ ((S.1 10 2).toInt = 7 → P 10 4 = some gv) ∧ P 10 1 = some p
theorem c_qr_st {P : wd_P} {gv p : Nat} {T0 T : Nat → Prop} {S0 S : c_St} (h : c_qr P gv p S0) (hst : c_st T0 S0 T S) : c_qr P gv p S ∧ p_n S.2.1 p = p_n S0.2.1 p := by
  obtain ⟨h1, h2, h3, h4⟩ := h
  have e := hst.ifr 10 2 (by omega) (by omega)
  obtain ⟨w, wn, -⟩ := p_wf_xt h1 hst.ofr hst.kk
  refine ⟨⟨w, ?_, ?_, h4⟩, wn⟩
  · rw [e]; exact h2
  · rw [e]; exact h3
section
variable {d : Nat} {P : wd_P} {M : wd_I} {Q : ab_Q} {gv : Nat} {F : Nat → c_St → Nat × c_St} {p i a v dp : Nat} {T0 : Nat → Prop} {S0 : c_St}
set_option maxHeartbeats 4000000 in
set_option maxRecDepth 100000 in
theorem y_chl_s (hd : 6 ≤ d) (hFg : ∀ (T : Nat → Prop) (S : c_St) (b : Nat), c_pr T gv S → T b → c_gd T v S (F b S)) (hFs : ∀ (b : Nat) (S : c_St), ¬ (S.1 10 6).toInt = 0 → F b S = (b, S)) (hF : ∀ (T : Nat → Prop) (S : c_St) (b : Nat) (Q : ab_Q), c_pr T gv S → c_qr P gv p S → i < p_n S.2.1 p → ((S.1 10 6).toInt = 0 → c_ro v S) → T b → Q (some (wd_v (F b S).1)) (c_S P M (F b S).2) → ab_CT (d - 1) 3 [wd_v 10, wd_v b, .inl (ab_ii (p_nx S.2.1 p i : Int)), .inl (ab_ii ((dp : Int) + 1))] (c_S P M S) Q) (h0 : c_pr T0 gv S0) (hq0 : c_qr P gv p S0) (hi : i < p_n S0.2.1 p) (hro : c_ro (v + 2) S0) (hdp : dp ≤ 40) : ∀ (n j : Nat) (T : Nat → Prop) (S : c_St) (q : Nat) (fq : Nat → Option Nat), j + n = c_sz S.2.1 a → T a → c_st T0 S0 T S → c_us 1 (v + 1) S0 S → S0.2.2.1 ≤ q → (wd_mut q = false ∧ q < S.2.2.1) → S.2.1 q = ab_ra 4 (c_sz S.2.1 a) fq → c_rT T (c_sz S.2.1 a) fq → c_nq T S.2.1 q → Q (some (wd_v (c_chl F p i a n j (some (q, fq)) S).1)) (c_S P M (c_chl F p i a n j (some (q, fq)) S).2) → ab_WB d 3 Q 66 [(0, wd_v 10), (1, wd_v a), (2, .inl (ab_ii (i : Int))), (3, .inl (ab_ii (dp : Int))), (4, wd_v q), (5, .inl (ab_ii (j : Int)))] [] (c_S P M S)
  | 0, j, T, S, q, fq, hj, ha, hst, hus, hqq, hq, hqc, hf, hnq, hQ => by
    have hp := c_pr_st h0 hst hus
    obtain ⟨I, g, k, z⟩ := S
    obtain ⟨hW, h125, hm, -⟩ := id hp
    change c_W T g k at hW
    dsimp only at *
    have s1 := c_W_sz hW ha
    have h1 := c_W_c (I := I) (P := P) (M := M) (z := z) hW ha
    have hmk := fun (Q : ab_Q) hy hn hs => y_makeA (d := d - 1) (I := I) (P := P) (M := M) (g := g) (k := k) (z := z) (Q := Q) (by omega) hW (Nat.le_refl _) h125 ha ⟨hq.1, hqc⟩ hq.2 s1 hf hm (by unfold c_us c_ro at *; dsimp only at *; omega) hy hn hs
    have hfin : ∀ Q' : ab_Q, (∀ x h, Q (some (wd_v x)) h → Q' (some (wd_v x)) h) → ab_CT (d - 1) 8 [wd_v 10, wd_v a, wd_v q] (wd I P M g, k, z) Q' := fun Q' hQQ => by
      unfold c_chl c_mkA at hQ
      dsimp only at hQ
      refine hmk Q' (fun h1 h2 => hQQ _ _ ?_) (fun h1 h2 => hQQ _ _ ?_) (fun h1 => hQQ _ _ ?_)
      · rw [if_pos h1, if_pos h2] at hQ; exact hQ
      · rw [if_pos h1, if_neg (by omega)] at hQ; exact hQ
      · rw [if_neg h1] at hQ; exact hQ
    clear hQ hmk
    refine wd_rnC rfl ?_
    intro C9 X9 hC9 hX9
    repeat' ((conv => whnf); first
    | (apply i_getN; (focus (first | exact h1)); (focus (exact rfl)); (intro v9 hv9; (try simp (disch := omega) only [ab_tI, ab_c0, wd_ix12, wd_ix8, wd_ix10, wd_up_self, wd_up_eq, wd_up_ne, Int.toNat_natCast, Int.toNat_of_nonneg, not_true_eq_false, not_false_eq_true, Option.some.injEq] at hv9); subst hv9))
    | (apply i_cv; (focus (first | exact h1)))
    | (apply i_len; (focus (first | exact congrArg ab_len (h1))))
    | (apply i_ialN; (focus (first | exact h1)); (focus (first | exact Or.inl rfl | exact Or.inr rfl)); (focus (exact (by first | exact ⟨by decide, by decide⟩ | ((try simp (disch := omega) only [ab_tI, ab_c0, wd_ix12, wd_ix8, wd_ix10, wd_up_self, wd_up_eq, wd_up_ne, Int.toNat_natCast, Int.toNat_of_nonneg, not_true_eq_false, not_false_eq_true, Option.some.injEq, ab_c0]); omega)))); (intro v9 hv9; (try simp (disch := omega) only [ab_tI, ab_c0, wd_ix12, wd_ix8, wd_ix10, wd_up_self, wd_up_eq, wd_up_ne, Int.toNat_natCast, Int.toNat_of_nonneg, not_true_eq_false, not_false_eq_true, Option.some.injEq] at hv9); subst hv9))
    | (apply i_aalN; (focus (first | exact h1)); (focus (exact (by first | exact ⟨by decide, by decide⟩ | ((try simp (disch := omega) only [ab_tI, ab_c0, wd_ix12, wd_ix8, wd_ix10, wd_up_self, wd_up_eq, wd_up_ne, Int.toNat_natCast, Int.toNat_of_nonneg, not_true_eq_false, not_false_eq_true, Option.some.injEq, ab_c0]); omega)))); (intro v9 hv9; (try simp (disch := omega) only [ab_tI, ab_c0, wd_ix12, wd_ix8, wd_ix10, wd_up_self, wd_up_eq, wd_up_ne, Int.toNat_natCast, Int.toNat_of_nonneg, not_true_eq_false, not_false_eq_true, Option.some.injEq] at hv9); subst hv9))
    | (refine hC9 _ _ _ _ (y_size (by omega) hW ha ?_))
    | (exact hC9 _ _ _ _ (hfin _ (fun _ _ q => q)))
    | (intro v9 hv9; (try simp (disch := omega) only [ab_tI, ab_c0, wd_ix12, wd_ix8, wd_ix10, wd_up_self, wd_up_eq, wd_up_ne, Int.toNat_natCast, Int.toNat_of_nonneg, not_true_eq_false, not_false_eq_true, Option.some.injEq] at hv9); subst hv9)
    | (apply i_get; (focus (exact rfl)); (focus (exact rfl)))
    | (refine hX9 _ _ _ _ (wd_rnC rfl ?_); clear hC9 hX9 X9 C9; intro C9 X9 hC9 hX9)
    | (refine i_brF (by decide) ?_)
    | (refine i_brT (by decide) ?_)
    | (refine ⟨fun hc => ?_, fun hc => ?_⟩ <;> (try simp (disch := omega) only [ab_tI, ab_c0, wd_ix12, wd_ix8, wd_ix10, wd_up_self, wd_up_eq, wd_up_ne, Int.toNat_natCast, Int.toNat_of_nonneg, not_true_eq_false, not_false_eq_true, Option.some.injEq] at hc) <;> first | (exfalso; omega) | skip)
    | (apply i_cv; (focus (exact rfl)))
    | (apply i_len; (focus (exact rfl)))
    | (apply w_putI; (focus (exact rfl)); (focus (exact rfl)); (focus (exact rfl)); (focus (first | exact trivial | exact Or.inl rfl | exact Or.inr rfl)); (focus (exact rfl)))
    | (apply w_putP; (focus (exact rfl)); (focus (exact rfl)); (focus (exact rfl)); (focus (exact trivial)); (focus (exact rfl)))
    | (apply i_ialN; (focus (exact rfl)); (focus (first | exact Or.inl rfl | exact Or.inr rfl)); (focus (exact (by first | exact ⟨by decide, by decide⟩ | ((try simp (disch := omega) only [ab_tI, ab_c0, wd_ix12, wd_ix8, wd_ix10, wd_up_self, wd_up_eq, wd_up_ne, Int.toNat_natCast, Int.toNat_of_nonneg, not_true_eq_false, not_false_eq_true, Option.some.injEq, ab_c0]); omega)))); (intro v9 hv9; (try simp (disch := omega) only [ab_tI, ab_c0, wd_ix12, wd_ix8, wd_ix10, wd_up_self, wd_up_eq, wd_up_ne, Int.toNat_natCast, Int.toNat_of_nonneg, not_true_eq_false, not_false_eq_true, Option.some.injEq] at hv9); subst hv9))
    | (apply i_aalN; (focus (exact rfl)); (focus (exact (by first | exact ⟨by decide, by decide⟩ | ((try simp (disch := omega) only [ab_tI, ab_c0, wd_ix12, wd_ix8, wd_ix10, wd_up_self, wd_up_eq, wd_up_ne, Int.toNat_natCast, Int.toNat_of_nonneg, not_true_eq_false, not_false_eq_true, Option.some.injEq, ab_c0]); omega)))); (intro v9 hv9; (try simp (disch := omega) only [ab_tI, ab_c0, wd_ix12, wd_ix8, wd_ix10, wd_up_self, wd_up_eq, wd_up_ne, Int.toNat_natCast, Int.toNat_of_nonneg, not_true_eq_false, not_false_eq_true, Option.some.injEq] at hv9); subst hv9))
    | (apply w_iasI; (focus (exact rfl)); (focus (exact rfl)); (focus (exact (by first | exact ⟨by decide, by decide⟩ | ((try simp (disch := omega) only [ab_tI, ab_c0, wd_ix12, wd_ix8, wd_ix10, wd_up_self, wd_up_eq, wd_up_ne, Int.toNat_natCast, Int.toNat_of_nonneg, not_true_eq_false, not_false_eq_true, Option.some.injEq, ab_c0]); omega)))); (focus (intro _; exact rfl)); (intro v9 hv9; (try simp (disch := omega) only [ab_tI, ab_c0, wd_ix12, wd_ix8, wd_ix10, wd_up_self, wd_up_eq, wd_up_ne, Int.toNat_natCast, Int.toNat_of_nonneg, not_true_eq_false, not_false_eq_true, Option.some.injEq] at hv9); subst hv9))
    | (refine And.intro trivial ?_)
    | (refine And.intro (Or.inl rfl) ?_)
    | (refine And.intro (Or.inr rfl) ?_)
    | (refine And.intro (by ((try simp (disch := omega) only [ab_tI, ab_c0, wd_ix12, wd_ix8, wd_ix10, wd_up_self, wd_up_eq, wd_up_ne, Int.toNat_natCast, Int.toNat_of_nonneg, not_true_eq_false, not_false_eq_true, Option.some.injEq]); omega)) ?_)
    | fail)
    all_goals (exfalso; omega)
  | n + 1, j, T, S, q, fq, hj, ha, hst, hus, hqq, hq, hqc, hf, hnq, hQ => by
    have hp := c_pr_st h0 hst hus
    obtain ⟨hqr, hpn⟩ := c_qr_st hq0 hst
    have hpnx : i < p_n S.2.1 p := by rw [hpn]; exact hi
    have hro1 : (S.1 10 6).toInt = 0 → c_ro v S := fun hs => by
      unfold c_us c_ro at *
      omega
    have hFj := fun (b : Nat) (hb : T b) (Q : ab_Q) hq => hF T S b Q hp hqr hpnx hro1 hb hq
    have hP1 : P 10 1 = some p := hqr.2.2.2
    have hj1 : j < c_sz S.2.1 a := by omega
    have hTb := c_W_pt hst.wf ha hj1
    have hFj := hFj _ hTb
    have hW : c_W T S.2.1 S.2.2.1 := hst.wf
    have s1 := c_W_sz hW ha
    have h1 := c_W_c (I := S.1) (P := P) (M := M) (z := S.2.2.2) hW ha
    obtain ⟨sa, wa, pn, fs, fw, hcp, p8, -⟩ := p_get hqr.1
    have p1 := (hcp S.1 P M S.2.2.2).1
    by_cases he : p_ent S.2.1 p i a j
    · have hgd := hFg T S (c_pt S.2.1 a j) hp hTb
      unfold c_chl at hQ
      rw [if_pos he] at hQ
      by_cases hs : (S.1 10 6).toInt = 0
      · obtain ⟨T', hst', hR, hus'⟩ := hgd
        generalize hRR : F (c_pt S.2.1 a j) S = R at *
        clear hRR
        obtain ⟨ca, I', g', k', z'⟩ := R
        dsimp only at hQ hFj hst' hR hus'
        obtain ⟨-, esz, -⟩ := c_wf_xt (hst.wf a ha) hst'.ofr hst'.kk
        have hst2 := hst.tr hst'
        have hus2 := (hus.tr hus' hs).mo (Nat.le_refl _) (show v + 1 ≤ v + 1 by omega)
        have hqc' : g' q = ab_ra 4 (c_sz S.2.1 a) fq := (hst'.ofr q hq.2 hq.1).trans hqc
        have hnq' := hst'.nq q hq.2 hnq
        have hkk : S.2.2.1 ≤ k' := hst'.kk
        have ha' := hst'.inc a ha
        have hW' : c_W T' g' k' := hst'.wf
        change c_sz g' a = c_sz S.2.1 a at esz
        by_cases hsame : ca = c_pt S.2.1 a j
        · rw [if_pos hsame] at hQ
          have ih := y_chl_s hd hFg hFs hF h0 hq0 hi hro hdp n (j + 1) T' (I', g', k', z') q fq (by rw [esz]; omega) ha' hst2 hus2 hqq ⟨hq.1, by show q < k'; omega⟩ (by rw [esz]; exact hqc') (by rw [esz]; exact c_rT_mo hf hst'.inc) hnq' hQ
          clear hF hQ
          refine wd_rnC rfl ?_
          intro C9 X9 hC9 hX9
          (have chk9 := @hP1; clear chk9); repeat' ((conv => whnf); first
    | (apply i_getN; (focus (first | exact h1 | exact p1)); (focus (exact rfl)); (intro v9 hv9; (try simp (disch := omega) only [ab_tI, ab_c0, wd_ix12, wd_ix8, wd_ix10, wd_up_self, wd_up_eq, wd_up_ne, Int.toNat_natCast, Int.toNat_of_nonneg, not_true_eq_false, not_false_eq_true, Option.some.injEq, hP1] at hv9); subst hv9))
    | (apply i_cv; (focus (first | exact h1 | exact p1)))
    | (apply i_len; (focus (first | exact congrArg ab_len (h1) | exact congrArg ab_len (p1))))
    | (apply i_ialN; (focus (first | exact h1 | exact p1)); (focus (first | exact Or.inl rfl | exact Or.inr rfl)); (focus (exact (by first | exact ⟨by decide, by decide⟩ | ((try simp (disch := omega) only [ab_tI, ab_c0, wd_ix12, wd_ix8, wd_ix10, wd_up_self, wd_up_eq, wd_up_ne, Int.toNat_natCast, Int.toNat_of_nonneg, not_true_eq_false, not_false_eq_true, Option.some.injEq, hP1, ab_c0]); omega)))); (intro v9 hv9; (try simp (disch := omega) only [ab_tI, ab_c0, wd_ix12, wd_ix8, wd_ix10, wd_up_self, wd_up_eq, wd_up_ne, Int.toNat_natCast, Int.toNat_of_nonneg, not_true_eq_false, not_false_eq_true, Option.some.injEq, hP1] at hv9); subst hv9))
    | (apply i_aalN; (focus (first | exact h1 | exact p1)); (focus (exact (by first | exact ⟨by decide, by decide⟩ | ((try simp (disch := omega) only [ab_tI, ab_c0, wd_ix12, wd_ix8, wd_ix10, wd_up_self, wd_up_eq, wd_up_ne, Int.toNat_natCast, Int.toNat_of_nonneg, not_true_eq_false, not_false_eq_true, Option.some.injEq, hP1, ab_c0]); omega)))); (intro v9 hv9; (try simp (disch := omega) only [ab_tI, ab_c0, wd_ix12, wd_ix8, wd_ix10, wd_up_self, wd_up_eq, wd_up_ne, Int.toNat_natCast, Int.toNat_of_nonneg, not_true_eq_false, not_false_eq_true, Option.some.injEq, hP1] at hv9); subst hv9))
    | (refine hC9 _ _ _ _ (y_size (by omega) hW ha ?_))
    | (apply i_getN; (focus (exact rfl)); (focus (exact rfl)); (intro v9 hv9; (try simp (disch := omega) only [ab_tI, ab_c0, wd_ix12, wd_ix8, wd_ix10, wd_up_self, wd_up_eq, wd_up_ne, Int.toNat_natCast, Int.toNat_of_nonneg, not_true_eq_false, not_false_eq_true, Option.some.injEq, hP1] at hv9); subst hv9))
    | (refine hC9 _ _ _ _ (y_enters (by omega) hW hqr.1 hpnx ha (by omega) (fun _ => ?_) (fun q => absurd he q)))
    | (refine hC9 _ _ _ _ (y_part (by omega) hW ha hj1 ?_))
    | (refine hC9 _ _ _ _ (y_stepWithin (by omega) hqr.1 hpnx ?_))
    | (refine hC9 _ _ _ _ (hFj _ ?_))
    | (refine hX9 66 _ _ _ (ab_WB_sub ?_ ih); (repeat (first | exact ab_sub0 | (refine ab_sub1 ?_ ?_; (focus ((repeat (refine ab_skip rfl ?_)); first | exact List.mem_cons_self))))))
    | (intro v9 hv9; (try simp (disch := omega) only [ab_tI, ab_c0, wd_ix12, wd_ix8, wd_ix10, wd_up_self, wd_up_eq, wd_up_ne, Int.toNat_natCast, Int.toNat_of_nonneg, not_true_eq_false, not_false_eq_true, Option.some.injEq, hP1] at hv9); subst hv9)
    | (apply i_get; (focus (exact rfl)); (focus (exact rfl)))
    | (refine hX9 _ _ _ _ (wd_rnC rfl ?_); clear hC9 hX9 X9 C9; intro C9 X9 hC9 hX9)
    | (refine i_brF (by decide) ?_)
    | (refine i_brT (by decide) ?_)
    | (refine ⟨fun hc => ?_, fun hc => ?_⟩ <;> (try simp (disch := omega) only [ab_tI, ab_c0, wd_ix12, wd_ix8, wd_ix10, wd_up_self, wd_up_eq, wd_up_ne, Int.toNat_natCast, Int.toNat_of_nonneg, not_true_eq_false, not_false_eq_true, Option.some.injEq, hP1] at hc) <;> first | (exfalso; omega) | skip)
    | (apply i_cv; (focus (exact rfl)))
    | (apply i_len; (focus (exact rfl)))
    | (apply w_putI; (focus (exact rfl)); (focus (exact rfl)); (focus (exact rfl)); (focus (first | exact trivial | exact Or.inl rfl | exact Or.inr rfl)); (focus (exact rfl)))
    | (apply w_putP; (focus (exact rfl)); (focus (exact rfl)); (focus (exact rfl)); (focus (exact trivial)); (focus (exact rfl)))
    | (apply i_ialN; (focus (exact rfl)); (focus (first | exact Or.inl rfl | exact Or.inr rfl)); (focus (exact (by first | exact ⟨by decide, by decide⟩ | ((try simp (disch := omega) only [ab_tI, ab_c0, wd_ix12, wd_ix8, wd_ix10, wd_up_self, wd_up_eq, wd_up_ne, Int.toNat_natCast, Int.toNat_of_nonneg, not_true_eq_false, not_false_eq_true, Option.some.injEq, hP1, ab_c0]); omega)))); (intro v9 hv9; (try simp (disch := omega) only [ab_tI, ab_c0, wd_ix12, wd_ix8, wd_ix10, wd_up_self, wd_up_eq, wd_up_ne, Int.toNat_natCast, Int.toNat_of_nonneg, not_true_eq_false, not_false_eq_true, Option.some.injEq, hP1] at hv9); subst hv9))
    | (apply i_aalN; (focus (exact rfl)); (focus (exact (by first | exact ⟨by decide, by decide⟩ | ((try simp (disch := omega) only [ab_tI, ab_c0, wd_ix12, wd_ix8, wd_ix10, wd_up_self, wd_up_eq, wd_up_ne, Int.toNat_natCast, Int.toNat_of_nonneg, not_true_eq_false, not_false_eq_true, Option.some.injEq, hP1, ab_c0]); omega)))); (intro v9 hv9; (try simp (disch := omega) only [ab_tI, ab_c0, wd_ix12, wd_ix8, wd_ix10, wd_up_self, wd_up_eq, wd_up_ne, Int.toNat_natCast, Int.toNat_of_nonneg, not_true_eq_false, not_false_eq_true, Option.some.injEq, hP1] at hv9); subst hv9))
    | (apply w_iasI; (focus (exact rfl)); (focus (exact rfl)); (focus (exact (by first | exact ⟨by decide, by decide⟩ | ((try simp (disch := omega) only [ab_tI, ab_c0, wd_ix12, wd_ix8, wd_ix10, wd_up_self, wd_up_eq, wd_up_ne, Int.toNat_natCast, Int.toNat_of_nonneg, not_true_eq_false, not_false_eq_true, Option.some.injEq, hP1, ab_c0]); omega)))); (focus (intro _; exact rfl)); (intro v9 hv9; (try simp (disch := omega) only [ab_tI, ab_c0, wd_ix12, wd_ix8, wd_ix10, wd_up_self, wd_up_eq, wd_up_ne, Int.toNat_natCast, Int.toNat_of_nonneg, not_true_eq_false, not_false_eq_true, Option.some.injEq, hP1] at hv9); subst hv9))
    | (refine And.intro trivial ?_)
    | (refine And.intro (Or.inl rfl) ?_)
    | (refine And.intro (Or.inr rfl) ?_)
    | (refine And.intro (by ((try simp (disch := omega) only [ab_tI, ab_c0, wd_ix12, wd_ix8, wd_ix10, wd_up_self, wd_up_eq, wd_up_ne, Int.toNat_natCast, Int.toNat_of_nonneg, not_true_eq_false, not_false_eq_true, Option.some.injEq, hP1]); omega)) ?_)
    | fail)
          all_goals (exfalso; omega)
        · rw [if_neg hsame] at hQ
          obtain ⟨-, esz2, -⟩ := c_wf_nq (c := ab_ra 4 (c_sz g' a) (ab_up fq j (some ca))) hst'.wf ha' hnq'
          change c_sz (ab_up g' q (ab_ra 4 (c_sz g' a) (ab_up fq j (some ca)))) a = c_sz g' a at esz2
          have ih := y_chl_s hd hFg hFs hF h0 hq0 hi hro hdp n (j + 1) T' (I', ab_up g' q (ab_ra 4 (c_sz g' a) (ab_up fq j (some ca))), k', z') q (ab_up fq j (some ca)) (by rw [esz2, esz]; omega) ha' (hst2.row hqq hnq') hus2 hqq ⟨hq.1, by show q < k'; omega⟩ (by rw [esz2]; exact ab_up_self _ _ _) (by rw [esz2, esz]; exact c_rT_up (c_rT_mo hf hst'.inc) hR) (c_nq_up hst'.wf hnq' hnq') hQ
          have h3 := c_W_c (I := I') (P := P) (M := M) (z := z') hW' hR
          rw [← esz] at hqc'
          clear hF hQ
          refine wd_rnC rfl ?_
          intro C9 X9 hC9 hX9
          (have chk9 := @hP1; clear chk9); repeat' ((conv => whnf); first
    | (apply i_getN; (focus (first | exact h1 | exact p1)); (focus (exact rfl)); (intro v9 hv9; (try simp (disch := omega) only [ab_tI, ab_c0, wd_ix12, wd_ix8, wd_ix10, wd_up_self, wd_up_eq, wd_up_ne, Int.toNat_natCast, Int.toNat_of_nonneg, not_true_eq_false, not_false_eq_true, Option.some.injEq, hP1] at hv9); subst hv9))
    | (apply i_cv; (focus (first | exact h1 | exact p1)))
    | (apply i_len; (focus (first | exact congrArg ab_len (h1) | exact congrArg ab_len (p1))))
    | (apply i_ialN; (focus (first | exact h1 | exact p1)); (focus (first | exact Or.inl rfl | exact Or.inr rfl)); (focus (exact (by first | exact ⟨by decide, by decide⟩ | ((try simp (disch := omega) only [ab_tI, ab_c0, wd_ix12, wd_ix8, wd_ix10, wd_up_self, wd_up_eq, wd_up_ne, Int.toNat_natCast, Int.toNat_of_nonneg, not_true_eq_false, not_false_eq_true, Option.some.injEq, hP1, ab_c0]); omega)))); (intro v9 hv9; (try simp (disch := omega) only [ab_tI, ab_c0, wd_ix12, wd_ix8, wd_ix10, wd_up_self, wd_up_eq, wd_up_ne, Int.toNat_natCast, Int.toNat_of_nonneg, not_true_eq_false, not_false_eq_true, Option.some.injEq, hP1] at hv9); subst hv9))
    | (apply i_aalN; (focus (first | exact h1 | exact p1)); (focus (exact (by first | exact ⟨by decide, by decide⟩ | ((try simp (disch := omega) only [ab_tI, ab_c0, wd_ix12, wd_ix8, wd_ix10, wd_up_self, wd_up_eq, wd_up_ne, Int.toNat_natCast, Int.toNat_of_nonneg, not_true_eq_false, not_false_eq_true, Option.some.injEq, hP1, ab_c0]); omega)))); (intro v9 hv9; (try simp (disch := omega) only [ab_tI, ab_c0, wd_ix12, wd_ix8, wd_ix10, wd_up_self, wd_up_eq, wd_up_ne, Int.toNat_natCast, Int.toNat_of_nonneg, not_true_eq_false, not_false_eq_true, Option.some.injEq, hP1] at hv9); subst hv9))
    | (refine hC9 _ _ _ _ (y_size (by omega) hW ha ?_))
    | (apply i_getN; (focus (exact rfl)); (focus (exact rfl)); (intro v9 hv9; (try simp (disch := omega) only [ab_tI, ab_c0, wd_ix12, wd_ix8, wd_ix10, wd_up_self, wd_up_eq, wd_up_ne, Int.toNat_natCast, Int.toNat_of_nonneg, not_true_eq_false, not_false_eq_true, Option.some.injEq, hP1] at hv9); subst hv9))
    | (refine hC9 _ _ _ _ (y_enters (by omega) hW hqr.1 hpnx ha (by omega) (fun _ => ?_) (fun q => absurd he q)))
    | (refine hC9 _ _ _ _ (y_part (by omega) hW ha hj1 ?_))
    | (refine hC9 _ _ _ _ (y_stepWithin (by omega) hqr.1 hpnx ?_))
    | (refine hC9 _ _ _ _ (hFj _ ?_))
    | (apply w_aasH hq.1 hqc'; (focus (first | exact ⟨by decide, by decide⟩ | ((try simp (disch := omega) only [ab_tI, ab_c0, wd_ix12, wd_ix8, wd_ix10, wd_up_self, wd_up_eq, wd_up_ne, Int.toNat_natCast, Int.toNat_of_nonneg, not_true_eq_false, not_false_eq_true, Option.some.injEq]); omega))); (focus (intro v9 hv9; cases hv9; exact i_ex h3)); (intro e9 he9; (try simp (disch := omega) only [ab_tI, ab_c0, wd_ix12, wd_ix8, wd_ix10, wd_up_self, wd_up_eq, wd_up_ne, Int.toNat_natCast, Int.toNat_of_nonneg, not_true_eq_false, not_false_eq_true, Option.some.injEq] at he9); subst he9))
    | (refine hX9 66 _ _ _ (ab_WB_sub ?_ ih); (repeat (first | exact ab_sub0 | (refine ab_sub1 ?_ ?_; (focus ((repeat (refine ab_skip rfl ?_)); first | exact List.mem_cons_self))))))
    | (intro v9 hv9; (try simp (disch := omega) only [ab_tI, ab_c0, wd_ix12, wd_ix8, wd_ix10, wd_up_self, wd_up_eq, wd_up_ne, Int.toNat_natCast, Int.toNat_of_nonneg, not_true_eq_false, not_false_eq_true, Option.some.injEq, hP1] at hv9); subst hv9)
    | (apply i_get; (focus (exact rfl)); (focus (exact rfl)))
    | (refine hX9 _ _ _ _ (wd_rnC rfl ?_); clear hC9 hX9 X9 C9; intro C9 X9 hC9 hX9)
    | (refine i_brF (by decide) ?_)
    | (refine i_brT (by decide) ?_)
    | (refine ⟨fun hc => ?_, fun hc => ?_⟩ <;> (try simp (disch := omega) only [ab_tI, ab_c0, wd_ix12, wd_ix8, wd_ix10, wd_up_self, wd_up_eq, wd_up_ne, Int.toNat_natCast, Int.toNat_of_nonneg, not_true_eq_false, not_false_eq_true, Option.some.injEq, hP1] at hc) <;> first | (exfalso; omega) | skip)
    | (apply i_cv; (focus (exact rfl)))
    | (apply i_len; (focus (exact rfl)))
    | (apply w_putI; (focus (exact rfl)); (focus (exact rfl)); (focus (exact rfl)); (focus (first | exact trivial | exact Or.inl rfl | exact Or.inr rfl)); (focus (exact rfl)))
    | (apply w_putP; (focus (exact rfl)); (focus (exact rfl)); (focus (exact rfl)); (focus (exact trivial)); (focus (exact rfl)))
    | (apply i_ialN; (focus (exact rfl)); (focus (first | exact Or.inl rfl | exact Or.inr rfl)); (focus (exact (by first | exact ⟨by decide, by decide⟩ | ((try simp (disch := omega) only [ab_tI, ab_c0, wd_ix12, wd_ix8, wd_ix10, wd_up_self, wd_up_eq, wd_up_ne, Int.toNat_natCast, Int.toNat_of_nonneg, not_true_eq_false, not_false_eq_true, Option.some.injEq, hP1, ab_c0]); omega)))); (intro v9 hv9; (try simp (disch := omega) only [ab_tI, ab_c0, wd_ix12, wd_ix8, wd_ix10, wd_up_self, wd_up_eq, wd_up_ne, Int.toNat_natCast, Int.toNat_of_nonneg, not_true_eq_false, not_false_eq_true, Option.some.injEq, hP1] at hv9); subst hv9))
    | (apply i_aalN; (focus (exact rfl)); (focus (exact (by first | exact ⟨by decide, by decide⟩ | ((try simp (disch := omega) only [ab_tI, ab_c0, wd_ix12, wd_ix8, wd_ix10, wd_up_self, wd_up_eq, wd_up_ne, Int.toNat_natCast, Int.toNat_of_nonneg, not_true_eq_false, not_false_eq_true, Option.some.injEq, hP1, ab_c0]); omega)))); (intro v9 hv9; (try simp (disch := omega) only [ab_tI, ab_c0, wd_ix12, wd_ix8, wd_ix10, wd_up_self, wd_up_eq, wd_up_ne, Int.toNat_natCast, Int.toNat_of_nonneg, not_true_eq_false, not_false_eq_true, Option.some.injEq, hP1] at hv9); subst hv9))
    | (apply w_iasI; (focus (exact rfl)); (focus (exact rfl)); (focus (exact (by first | exact ⟨by decide, by decide⟩ | ((try simp (disch := omega) only [ab_tI, ab_c0, wd_ix12, wd_ix8, wd_ix10, wd_up_self, wd_up_eq, wd_up_ne, Int.toNat_natCast, Int.toNat_of_nonneg, not_true_eq_false, not_false_eq_true, Option.some.injEq, hP1, ab_c0]); omega)))); (focus (intro _; exact rfl)); (intro v9 hv9; (try simp (disch := omega) only [ab_tI, ab_c0, wd_ix12, wd_ix8, wd_ix10, wd_up_self, wd_up_eq, wd_up_ne, Int.toNat_natCast, Int.toNat_of_nonneg, not_true_eq_false, not_false_eq_true, Option.some.injEq, hP1] at hv9); subst hv9))
    | (refine And.intro trivial ?_)
    | (refine And.intro (Or.inl rfl) ?_)
    | (refine And.intro (Or.inr rfl) ?_)
    | (refine And.intro (by ((try simp (disch := omega) only [ab_tI, ab_c0, wd_ix12, wd_ix8, wd_ix10, wd_up_self, wd_up_eq, wd_up_ne, Int.toNat_natCast, Int.toNat_of_nonneg, not_true_eq_false, not_false_eq_true, Option.some.injEq, hP1]); omega)) ?_)
    | fail)
          all_goals (exfalso; omega)
      · rw [hFs _ S hs, if_pos rfl] at hQ
        rw [hFs _ S hs] at hFj
        have ih := y_chl_s hd hFg hFs hF h0 hq0 hi hro hdp n (j + 1) T S q fq (by omega) ha hst hus hqq hq hqc hf hnq hQ
        clear hF hQ
        refine wd_rnC rfl ?_
        intro C9 X9 hC9 hX9
        (have chk9 := @hP1; clear chk9); repeat' ((conv => whnf); first
    | (apply i_getN; (focus (first | exact h1 | exact p1)); (focus (exact rfl)); (intro v9 hv9; (try simp (disch := omega) only [ab_tI, ab_c0, wd_ix12, wd_ix8, wd_ix10, wd_up_self, wd_up_eq, wd_up_ne, Int.toNat_natCast, Int.toNat_of_nonneg, not_true_eq_false, not_false_eq_true, Option.some.injEq, hP1] at hv9); subst hv9))
    | (apply i_cv; (focus (first | exact h1 | exact p1)))
    | (apply i_len; (focus (first | exact congrArg ab_len (h1) | exact congrArg ab_len (p1))))
    | (apply i_ialN; (focus (first | exact h1 | exact p1)); (focus (first | exact Or.inl rfl | exact Or.inr rfl)); (focus (exact (by first | exact ⟨by decide, by decide⟩ | ((try simp (disch := omega) only [ab_tI, ab_c0, wd_ix12, wd_ix8, wd_ix10, wd_up_self, wd_up_eq, wd_up_ne, Int.toNat_natCast, Int.toNat_of_nonneg, not_true_eq_false, not_false_eq_true, Option.some.injEq, hP1, ab_c0]); omega)))); (intro v9 hv9; (try simp (disch := omega) only [ab_tI, ab_c0, wd_ix12, wd_ix8, wd_ix10, wd_up_self, wd_up_eq, wd_up_ne, Int.toNat_natCast, Int.toNat_of_nonneg, not_true_eq_false, not_false_eq_true, Option.some.injEq, hP1] at hv9); subst hv9))
    | (apply i_aalN; (focus (first | exact h1 | exact p1)); (focus (exact (by first | exact ⟨by decide, by decide⟩ | ((try simp (disch := omega) only [ab_tI, ab_c0, wd_ix12, wd_ix8, wd_ix10, wd_up_self, wd_up_eq, wd_up_ne, Int.toNat_natCast, Int.toNat_of_nonneg, not_true_eq_false, not_false_eq_true, Option.some.injEq, hP1, ab_c0]); omega)))); (intro v9 hv9; (try simp (disch := omega) only [ab_tI, ab_c0, wd_ix12, wd_ix8, wd_ix10, wd_up_self, wd_up_eq, wd_up_ne, Int.toNat_natCast, Int.toNat_of_nonneg, not_true_eq_false, not_false_eq_true, Option.some.injEq, hP1] at hv9); subst hv9))
    | (refine hC9 _ _ _ _ (y_size (by omega) hW ha ?_))
    | (apply i_getN; (focus (exact rfl)); (focus (exact rfl)); (intro v9 hv9; (try simp (disch := omega) only [ab_tI, ab_c0, wd_ix12, wd_ix8, wd_ix10, wd_up_self, wd_up_eq, wd_up_ne, Int.toNat_natCast, Int.toNat_of_nonneg, not_true_eq_false, not_false_eq_true, Option.some.injEq, hP1] at hv9); subst hv9))
    | (refine hC9 _ _ _ _ (y_enters (by omega) hW hqr.1 hpnx ha (by omega) (fun _ => ?_) (fun q => absurd he q)))
    | (refine hC9 _ _ _ _ (y_part (by omega) hW ha hj1 ?_))
    | (refine hC9 _ _ _ _ (y_stepWithin (by omega) hqr.1 hpnx ?_))
    | (refine hC9 _ _ _ _ (hFj _ ?_))
    | (refine hX9 66 _ _ _ (ab_WB_sub ?_ ih); (repeat (first | exact ab_sub0 | (refine ab_sub1 ?_ ?_; (focus ((repeat (refine ab_skip rfl ?_)); first | exact List.mem_cons_self))))))
    | (intro v9 hv9; (try simp (disch := omega) only [ab_tI, ab_c0, wd_ix12, wd_ix8, wd_ix10, wd_up_self, wd_up_eq, wd_up_ne, Int.toNat_natCast, Int.toNat_of_nonneg, not_true_eq_false, not_false_eq_true, Option.some.injEq, hP1] at hv9); subst hv9)
    | (apply i_get; (focus (exact rfl)); (focus (exact rfl)))
    | (refine hX9 _ _ _ _ (wd_rnC rfl ?_); clear hC9 hX9 X9 C9; intro C9 X9 hC9 hX9)
    | (refine i_brF (by decide) ?_)
    | (refine i_brT (by decide) ?_)
    | (refine ⟨fun hc => ?_, fun hc => ?_⟩ <;> (try simp (disch := omega) only [ab_tI, ab_c0, wd_ix12, wd_ix8, wd_ix10, wd_up_self, wd_up_eq, wd_up_ne, Int.toNat_natCast, Int.toNat_of_nonneg, not_true_eq_false, not_false_eq_true, Option.some.injEq, hP1] at hc) <;> first | (exfalso; omega) | skip)
    | (apply i_cv; (focus (exact rfl)))
    | (apply i_len; (focus (exact rfl)))
    | (apply w_putI; (focus (exact rfl)); (focus (exact rfl)); (focus (exact rfl)); (focus (first | exact trivial | exact Or.inl rfl | exact Or.inr rfl)); (focus (exact rfl)))
    | (apply w_putP; (focus (exact rfl)); (focus (exact rfl)); (focus (exact rfl)); (focus (exact trivial)); (focus (exact rfl)))
    | (apply i_ialN; (focus (exact rfl)); (focus (first | exact Or.inl rfl | exact Or.inr rfl)); (focus (exact (by first | exact ⟨by decide, by decide⟩ | ((try simp (disch := omega) only [ab_tI, ab_c0, wd_ix12, wd_ix8, wd_ix10, wd_up_self, wd_up_eq, wd_up_ne, Int.toNat_natCast, Int.toNat_of_nonneg, not_true_eq_false, not_false_eq_true, Option.some.injEq, hP1, ab_c0]); omega)))); (intro v9 hv9; (try simp (disch := omega) only [ab_tI, ab_c0, wd_ix12, wd_ix8, wd_ix10, wd_up_self, wd_up_eq, wd_up_ne, Int.toNat_natCast, Int.toNat_of_nonneg, not_true_eq_false, not_false_eq_true, Option.some.injEq, hP1] at hv9); subst hv9))
    | (apply i_aalN; (focus (exact rfl)); (focus (exact (by first | exact ⟨by decide, by decide⟩ | ((try simp (disch := omega) only [ab_tI, ab_c0, wd_ix12, wd_ix8, wd_ix10, wd_up_self, wd_up_eq, wd_up_ne, Int.toNat_natCast, Int.toNat_of_nonneg, not_true_eq_false, not_false_eq_true, Option.some.injEq, hP1, ab_c0]); omega)))); (intro v9 hv9; (try simp (disch := omega) only [ab_tI, ab_c0, wd_ix12, wd_ix8, wd_ix10, wd_up_self, wd_up_eq, wd_up_ne, Int.toNat_natCast, Int.toNat_of_nonneg, not_true_eq_false, not_false_eq_true, Option.some.injEq, hP1] at hv9); subst hv9))
    | (apply w_iasI; (focus (exact rfl)); (focus (exact rfl)); (focus (exact (by first | exact ⟨by decide, by decide⟩ | ((try simp (disch := omega) only [ab_tI, ab_c0, wd_ix12, wd_ix8, wd_ix10, wd_up_self, wd_up_eq, wd_up_ne, Int.toNat_natCast, Int.toNat_of_nonneg, not_true_eq_false, not_false_eq_true, Option.some.injEq, hP1, ab_c0]); omega)))); (focus (intro _; exact rfl)); (intro v9 hv9; (try simp (disch := omega) only [ab_tI, ab_c0, wd_ix12, wd_ix8, wd_ix10, wd_up_self, wd_up_eq, wd_up_ne, Int.toNat_natCast, Int.toNat_of_nonneg, not_true_eq_false, not_false_eq_true, Option.some.injEq, hP1] at hv9); subst hv9))
    | (refine And.intro trivial ?_)
    | (refine And.intro (Or.inl rfl) ?_)
    | (refine And.intro (Or.inr rfl) ?_)
    | (refine And.intro (by ((try simp (disch := omega) only [ab_tI, ab_c0, wd_ix12, wd_ix8, wd_ix10, wd_up_self, wd_up_eq, wd_up_ne, Int.toNat_natCast, Int.toNat_of_nonneg, not_true_eq_false, not_false_eq_true, Option.some.injEq, hP1]); omega)) ?_)
    | fail)
        all_goals (exfalso; omega)
    · unfold c_chl at hQ
      rw [if_neg he] at hQ
      have ih := y_chl_s hd hFg hFs hF h0 hq0 hi hro hdp n (j + 1) T S q fq (by omega) ha hst hus hqq hq hqc hf hnq hQ
      clear hF hQ
      refine wd_rnC rfl ?_
      intro C9 X9 hC9 hX9
      (have chk9 := @hP1; clear chk9); repeat' ((conv => whnf); first
    | (apply i_getN; (focus (first | exact h1 | exact p1)); (focus (exact rfl)); (intro v9 hv9; (try simp (disch := omega) only [ab_tI, ab_c0, wd_ix12, wd_ix8, wd_ix10, wd_up_self, wd_up_eq, wd_up_ne, Int.toNat_natCast, Int.toNat_of_nonneg, not_true_eq_false, not_false_eq_true, Option.some.injEq, hP1] at hv9); subst hv9))
    | (apply i_cv; (focus (first | exact h1 | exact p1)))
    | (apply i_len; (focus (first | exact congrArg ab_len (h1) | exact congrArg ab_len (p1))))
    | (apply i_ialN; (focus (first | exact h1 | exact p1)); (focus (first | exact Or.inl rfl | exact Or.inr rfl)); (focus (exact (by first | exact ⟨by decide, by decide⟩ | ((try simp (disch := omega) only [ab_tI, ab_c0, wd_ix12, wd_ix8, wd_ix10, wd_up_self, wd_up_eq, wd_up_ne, Int.toNat_natCast, Int.toNat_of_nonneg, not_true_eq_false, not_false_eq_true, Option.some.injEq, hP1, ab_c0]); omega)))); (intro v9 hv9; (try simp (disch := omega) only [ab_tI, ab_c0, wd_ix12, wd_ix8, wd_ix10, wd_up_self, wd_up_eq, wd_up_ne, Int.toNat_natCast, Int.toNat_of_nonneg, not_true_eq_false, not_false_eq_true, Option.some.injEq, hP1] at hv9); subst hv9))
    | (apply i_aalN; (focus (first | exact h1 | exact p1)); (focus (exact (by first | exact ⟨by decide, by decide⟩ | ((try simp (disch := omega) only [ab_tI, ab_c0, wd_ix12, wd_ix8, wd_ix10, wd_up_self, wd_up_eq, wd_up_ne, Int.toNat_natCast, Int.toNat_of_nonneg, not_true_eq_false, not_false_eq_true, Option.some.injEq, hP1, ab_c0]); omega)))); (intro v9 hv9; (try simp (disch := omega) only [ab_tI, ab_c0, wd_ix12, wd_ix8, wd_ix10, wd_up_self, wd_up_eq, wd_up_ne, Int.toNat_natCast, Int.toNat_of_nonneg, not_true_eq_false, not_false_eq_true, Option.some.injEq, hP1] at hv9); subst hv9))
    | (refine hC9 _ _ _ _ (y_size (by omega) hW ha ?_))
    | (apply i_getN; (focus (exact rfl)); (focus (exact rfl)); (intro v9 hv9; (try simp (disch := omega) only [ab_tI, ab_c0, wd_ix12, wd_ix8, wd_ix10, wd_up_self, wd_up_eq, wd_up_ne, Int.toNat_natCast, Int.toNat_of_nonneg, not_true_eq_false, not_false_eq_true, Option.some.injEq, hP1] at hv9); subst hv9))
    | (refine hC9 _ _ _ _ (y_enters (by omega) hW hqr.1 hpnx ha (by omega) (fun q => absurd q he) (fun _ => ?_)))
    | (refine hX9 66 _ _ _ (ab_WB_sub ?_ ih); (repeat (first | exact ab_sub0 | (refine ab_sub1 ?_ ?_; (focus ((repeat (refine ab_skip rfl ?_)); first | exact List.mem_cons_self))))))
    | (intro v9 hv9; (try simp (disch := omega) only [ab_tI, ab_c0, wd_ix12, wd_ix8, wd_ix10, wd_up_self, wd_up_eq, wd_up_ne, Int.toNat_natCast, Int.toNat_of_nonneg, not_true_eq_false, not_false_eq_true, Option.some.injEq, hP1] at hv9); subst hv9)
    | (apply i_get; (focus (exact rfl)); (focus (exact rfl)))
    | (refine hX9 _ _ _ _ (wd_rnC rfl ?_); clear hC9 hX9 X9 C9; intro C9 X9 hC9 hX9)
    | (refine i_brF (by decide) ?_)
    | (refine i_brT (by decide) ?_)
    | (refine ⟨fun hc => ?_, fun hc => ?_⟩ <;> (try simp (disch := omega) only [ab_tI, ab_c0, wd_ix12, wd_ix8, wd_ix10, wd_up_self, wd_up_eq, wd_up_ne, Int.toNat_natCast, Int.toNat_of_nonneg, not_true_eq_false, not_false_eq_true, Option.some.injEq, hP1] at hc) <;> first | (exfalso; omega) | skip)
    | (apply i_cv; (focus (exact rfl)))
    | (apply i_len; (focus (exact rfl)))
    | (apply w_putI; (focus (exact rfl)); (focus (exact rfl)); (focus (exact rfl)); (focus (first | exact trivial | exact Or.inl rfl | exact Or.inr rfl)); (focus (exact rfl)))
    | (apply w_putP; (focus (exact rfl)); (focus (exact rfl)); (focus (exact rfl)); (focus (exact trivial)); (focus (exact rfl)))
    | (apply i_ialN; (focus (exact rfl)); (focus (first | exact Or.inl rfl | exact Or.inr rfl)); (focus (exact (by first | exact ⟨by decide, by decide⟩ | ((try simp (disch := omega) only [ab_tI, ab_c0, wd_ix12, wd_ix8, wd_ix10, wd_up_self, wd_up_eq, wd_up_ne, Int.toNat_natCast, Int.toNat_of_nonneg, not_true_eq_false, not_false_eq_true, Option.some.injEq, hP1, ab_c0]); omega)))); (intro v9 hv9; (try simp (disch := omega) only [ab_tI, ab_c0, wd_ix12, wd_ix8, wd_ix10, wd_up_self, wd_up_eq, wd_up_ne, Int.toNat_natCast, Int.toNat_of_nonneg, not_true_eq_false, not_false_eq_true, Option.some.injEq, hP1] at hv9); subst hv9))
    | (apply i_aalN; (focus (exact rfl)); (focus (exact (by first | exact ⟨by decide, by decide⟩ | ((try simp (disch := omega) only [ab_tI, ab_c0, wd_ix12, wd_ix8, wd_ix10, wd_up_self, wd_up_eq, wd_up_ne, Int.toNat_natCast, Int.toNat_of_nonneg, not_true_eq_false, not_false_eq_true, Option.some.injEq, hP1, ab_c0]); omega)))); (intro v9 hv9; (try simp (disch := omega) only [ab_tI, ab_c0, wd_ix12, wd_ix8, wd_ix10, wd_up_self, wd_up_eq, wd_up_ne, Int.toNat_natCast, Int.toNat_of_nonneg, not_true_eq_false, not_false_eq_true, Option.some.injEq, hP1] at hv9); subst hv9))
    | (apply w_iasI; (focus (exact rfl)); (focus (exact rfl)); (focus (exact (by first | exact ⟨by decide, by decide⟩ | ((try simp (disch := omega) only [ab_tI, ab_c0, wd_ix12, wd_ix8, wd_ix10, wd_up_self, wd_up_eq, wd_up_ne, Int.toNat_natCast, Int.toNat_of_nonneg, not_true_eq_false, not_false_eq_true, Option.some.injEq, hP1, ab_c0]); omega)))); (focus (intro _; exact rfl)); (intro v9 hv9; (try simp (disch := omega) only [ab_tI, ab_c0, wd_ix12, wd_ix8, wd_ix10, wd_up_self, wd_up_eq, wd_up_ne, Int.toNat_natCast, Int.toNat_of_nonneg, not_true_eq_false, not_false_eq_true, Option.some.injEq, hP1] at hv9); subst hv9))
    | (refine And.intro trivial ?_)
    | (refine And.intro (Or.inl rfl) ?_)
    | (refine And.intro (Or.inr rfl) ?_)
    | (refine And.intro (by ((try simp (disch := omega) only [ab_tI, ab_c0, wd_ix12, wd_ix8, wd_ix10, wd_up_self, wd_up_eq, wd_up_ne, Int.toNat_natCast, Int.toNat_of_nonneg, not_true_eq_false, not_false_eq_true, Option.some.injEq, hP1]); omega)) ?_)
    | fail)
      all_goals (exfalso; omega)
end
