/-! ===== what OVER makes of such a thing is such a thing, and not too large (own text) ===== -/
def c_ge (R : Nat × c_St) (B : Int) : Prop := c_EE R.2.2.1 R.1 ∧ (c_i R.2.2.1 R.1 2).toInt ≤ B
theorem c_ge.mo {R : Nat × c_St} {B B' : Int} (h : c_ge R B) (hB : B ≤ B') : c_ge R B' := ⟨h.1, Int.le_trans h.2 hB⟩
theorem c_W_E {T : Nat → Prop} {g : Nat → ab_C} {k : Nat} {m : Int} (hW : c_W T g k) : c_W (fun b => T b ∧ c_EE g b ∧ (c_i g b 2).toInt ≤ m) g k := fun b hb => by
  obtain ⟨m0, kd, wo, nd, ht, ka, pa, nk, np, fk, fp, h1, h2, h3, h4⟩ := hW b hb.1
  have e5 : c_pa g b = pa := by unfold c_pa; rw [h1]; rfl
  have esz : c_sz g b = np := by unfold c_sz; rw [e5, h3.2.1]; rfl
  refine ⟨m0, kd, wo, nd, ht, ka, pa, nk, np, fk, fp, h1, h2, h3, fun j hj => ⟨(h4 j hj).1, (h4 j hj).2, hb.2.1.pt (by omega), ?_⟩⟩
  have := hb.2.1.lt (j := j) (by omega)
  have := hb.2.2
  omega
section
variable {T : Nat → Prop} {g : Nat → ab_C} {k : Nat}
theorem c_mkA_ge {a q np : Nat} {fq : Nat → Option Nat} {S : c_St} {B : Int} (hW : c_W T S.2.1 S.2.2.1) (hE : c_EE S.2.1 a) (hB : (c_i S.2.1 a 2).toInt ≤ B) (hq : q < S.2.2.1) (hqc : S.2.1 q = ab_ra 4 np fq) (hf : ∀ j, j < np → ∃ b, fq j = some b ∧ T b ∧ c_EE S.2.1 b) (hs : 1 + c_nsm S.2.1 fq np ≤ B) (hB2 : B ≤ 2000000000) : c_ge (c_mkA a q np fq S) B := by
  unfold c_mkA
  split
  · split
    · obtain ⟨e1, e2⟩ := c_EE_new (kd := c_i S.2.1 a 0) (wo := c_i S.2.1 a 1) (ka := c_ka S.2.1 a) hW (Nat.le_refl _) hqc (by omega) hf (by omega)
      refine ⟨e1, ?_⟩
      show (c_i (ab_up S.2.1 S.2.2.1 (c_new S.2.1 (c_i S.2.1 a 0) (c_i S.2.1 a 1) (c_ka S.2.1 a) q np fq)) S.2.2.1 2).toInt ≤ B
      rw [e2]
      exact hs
    · exact ⟨hE, hB⟩
  · exact ⟨hE, hB⟩
theorem c_mkg_EE {k0 q np : Nat} {kd wo : Int32} {fq : Nat → Option Nat} (hW : c_W T g k0) (hk : k0 ≤ k) (hq : g q = ab_ra 4 np fq) (hq1 : q ≠ k) (hq2 : q ≠ k + 1) (hf : ∀ j, j < np → ∃ b, fq j = some b ∧ T b ∧ c_EE g b) (hs : c_nsm g fq np ≤ 2000000000) : c_EE (c_mkg g k kd wo q np fq) k ∧ (c_i (c_mkg g k kd wo q np fq) k 2).toInt = 1 + c_nsm g fq np := by
  have hv := c_vw_nq (c := ab_ia 0 0 (fun _ => 0)) hW (c_nq_fr (q := k + 1) hW (by omega))
  have hW1 : c_W T (ab_up g (k + 1) (ab_ia 0 0 (fun _ => 0))) k0 := c_W_up hW (by omega) (Nat.le_refl _)
  have e : c_nsm (ab_up g (k + 1) (ab_ia 0 0 (fun _ => 0))) fq np = c_nsm g fq np := c_nsm_eq np (fun j hj => by
    obtain ⟨b, hb, hT, -⟩ := hf j hj
    rw [hb]
    show (c_i _ b 2).toInt = (c_i g b 2).toInt
    rw [(hv b hT).1])
  have := c_EE_new (kd := kd) (wo := wo) (ka := k + 1) (x := k) hW1 hk ((ab_up_ne _ _ hq2).trans hq) hq1 (fun j hj => by
    obtain ⟨b, hb, hT, hE⟩ := hf j hj
    exact ⟨b, hb, hT, c_EE_vw hW hv hT hE⟩) (by rw [e]; exact hs)
  rw [e] at this
  exact this
theorem c_mkN_ge {kd wo : Int32} {q np r : Nat} {fq : Nat → Option Nat} {S : c_St} {B : Int} (hW : c_W T S.2.1 S.2.2.1) (hE : c_EE S.2.1 r) (hB : (c_i S.2.1 r 2).toInt ≤ B) (hq : q < S.2.2.1) (hqc : S.2.1 q = ab_ra 4 np fq) (hf : ∀ j, j < np → ∃ b, fq j = some b ∧ T b ∧ c_EE S.2.1 b) (hs : 1 + c_nsm S.2.1 fq np ≤ B) (hB2 : B ≤ 2000000000) : c_ge (c_mkN kd wo q np fq r S) B := by
  unfold c_mkN
  split
  · split
    · obtain ⟨e1, e2⟩ := c_mkg_EE (kd := kd) (wo := wo) (k := S.2.2.1) hW (Nat.le_refl _) hqc (by omega) (by omega) hf (by omega)
      exact ⟨e1, by dsimp only; rw [e2]; exact hs⟩
    · exact ⟨hE, hB⟩
  · exact ⟨hE, hB⟩
theorem c_ordr_ge {S : c_St} {a : Nat} (hW : c_W T S.2.1 S.2.2.1) (ha : T a) (hE : c_EE S.2.1 a) (hn : (c_i S.2.1 a 2).toInt ≤ 200) : c_ge (c_ordr S a) (213 * (c_i S.2.1 a 2).toInt) := by
  obtain ⟨I, g, k, z⟩ := S
  change c_W T g k at hW
  change c_EE g a at hE
  change (c_i g a 2).toInt ≤ 200 at hn
  show c_ge (c_ordr (I, g, k, z) a) (213 * (c_i g a 2).toInt)
  have h1 := hE.ex.1
  have hWE := c_W_E (m := (c_i g a 2).toInt) hW
  have haE : T a ∧ c_EE g a ∧ (c_i g a 2).toInt ≤ (c_i g a 2).toInt := ⟨ha, hE, Int.le_refl _⟩
  have hs13 := c_W_sz hW ha
  have hmk : ∀ f, c_rT (fun b => T b ∧ c_EE g b ∧ (c_i g b 2).toInt ≤ (c_i g a 2).toInt) (c_sz g a) f → c_ge (c_mkA a k (c_sz g a) f (c_arr (I, g, k, z) f (c_sz g a))) (213 * (c_i g a 2).toInt) := fun f hf => by
    have hv := c_vw_nq (c := ab_ra 4 (c_sz g a) f) hW (c_nq_fr hW (Nat.le_refl _))
    have e := (hv a ha).1 2
    have hsm : c_nsm (ab_up g k (ab_ra 4 (c_sz g a) f)) f (c_sz g a) ≤ (c_sz g a : Int) * (c_i g a 2).toInt := c_nsm_le _ (fun j hj => by
      obtain ⟨b, hb, hT, -, hle⟩ := hf j hj
      rw [hb]
      show (c_i _ b 2).toInt ≤ _
      rw [(hv b hT).1]
      exact hle)
    have h13 : (c_sz g a : Int) * (c_i g a 2).toInt ≤ 13 * (c_i g a 2).toInt := Int.mul_le_mul_of_nonneg_right (by omega) (by omega)
    refine c_mkA_ge (S := (I, ab_up g k (ab_ra 4 (c_sz g a) f), k + 1, z + c_sz g a)) (T := T) (c_W_up hW (Nat.le_refl _) (Nat.le_succ _)) (c_EE_vw hW hv ha hE) ?_ (Nat.lt_succ_self _) (ab_up_self _ _ _) (fun j hj => ?_) ?_ (by omega)
    · show (c_i (ab_up g k _) a 2).toInt ≤ _
      rw [e]; omega
    · obtain ⟨b, hb, hT, he, -⟩ := hf j hj
      exact ⟨b, hb, hT, c_EE_vw hW hv hT he⟩
    · show 1 + c_nsm (ab_up g k (ab_ra 4 (c_sz g a) f)) f (c_sz g a) ≤ _
      omega
  unfold c_ordr
  dsimp only
  split
  · exact hmk _ (c_rev_T hWE haE)
  · split
    · exact hmk _ (c_sor_T hWE haE)
    · split
      · exact hmk _ (c_trn_T hWE haE)
      · exact ⟨hE, by dsimp only; omega⟩
theorem c_foc_ge {I : wd_I} {z gv a : Nat} (hW : c_W T g k) (h125 : 125 ≤ k) (ha : T a) (hE : c_EE g a) (hn : (c_i g a 2).toInt ≤ 200) (hgv : (I 10 2).toInt = 7 → c_EE g gv ∧ (c_i g gv 2).toInt ≤ 200) : c_ge (c_foc gv (I, g, k, z) a) (213 * (c_i g a 2).toInt) := by
  have h1 := hE.ex.1
  have hak := (hW a ha).1.2
  have hv0 := fun c => c_vw_nq (c := c) hW (c_nq_fr (q := k) hW (Nat.le_refl _))
  have hone : ∀ kd wo, c_ge (c_mkN kd wo k 1 (ab_up (fun _ => none) 0 (some a)) a (c_arr (c_fI I, g, k, z) (ab_up (fun _ => none) 0 (some a)) 1)) (213 * (c_i g a 2).toInt) := fun kd wo => by
    have hv := hv0 (ab_ra 4 1 (ab_up (fun _ => none) 0 (some a)))
    have e := (hv a ha).1 2
    have e0 : ab_up (fun _ => none) 0 (some a) 0 = some a := ab_up_self _ _ _
    have hsm : c_nsm (ab_up g k (ab_ra 4 1 (ab_up (fun _ => none) 0 (some a)))) (ab_up (fun _ => none) 0 (some a)) 1 = (c_i g a 2).toInt := by
      show 0 + (c_i _ ((ab_up (fun _ => none) 0 (some a) 0).getD 0) 2).toInt = _
      rw [e0]
      show 0 + (c_i _ a 2).toInt = _
      rw [e, Int.zero_add]
    refine c_mkN_ge (S := (c_fI I, ab_up g k (ab_ra 4 1 (ab_up (fun _ => none) 0 (some a))), k + 1, z + 1)) (T := T) (c_W_up hW (Nat.le_refl _) (Nat.le_succ _)) (c_EE_vw hW hv ha hE) ?_ (Nat.lt_succ_self _) (ab_up_self _ _ _) (fun j hj => ?_) ?_ (by omega)
    · show (c_i (ab_up g k _) a 2).toInt ≤ _
      rw [e]; omega
    · have : j = 0 := by omega
      subst this
      exact ⟨a, e0, ha, c_EE_vw hW hv ha hE⟩
    · show 1 + c_nsm (ab_up g k (ab_ra 4 1 (ab_up (fun _ => none) 0 (some a)))) (ab_up (fun _ => none) 0 (some a)) 1 ≤ _
      rw [hsm]; omega
  unfold c_foc
  dsimp only
  split
  · split
    · split
      · obtain ⟨e1, e2⟩ := c_mkg_EE (kd := ab_ii 0) (wo := c_fv I (c_i g a 1)) (k := k + 1) (q := k) (np := 0) (fq := fun _ => none) (c_W_up (x := k) (c := ab_ra 4 0 (fun _ => none)) hW (Nat.le_refl _) (Nat.le_refl _)) (Nat.le_succ _) (ab_up_self _ _ _) (by omega) (by omega) (fun j hj => absurd hj (Nat.not_lt_zero _)) (by unfold c_nsm; decide)
        refine ⟨e1, ?_⟩
        show (c_i (c_mkg _ _ _ _ _ _ _) _ 2).toInt ≤ _
        rw [e2]
        show 1 + 0 ≤ _
        omega
      · refine ⟨c_EE_vw hW (hv0 _) ha hE, ?_⟩
        show (c_i (ab_up g k _) a 2).toInt ≤ _
        rw [((hv0 _) a ha).1]; omega
    · exact ⟨hE, by dsimp only; omega⟩
  · split
    next c4 =>
      split
      next hm =>
        have e : c_g4y g k a (I 10 3) = c_mkg (ab_up (ab_up g k (ab_ra 4 2 (c_two a (some (k + 1 + 1))))) (k + 1) (ab_ra 4 0 (fun _ => none))) (k + 1 + 1) (ab_ii 0) (I 10 3) (k + 1) 0 (fun _ => none) := by rw [c_mkg4]; rfl
        have hWu : c_W T (ab_up (ab_up g k (ab_ra 4 2 (c_two a (some (k + 1 + 1))))) (k + 1) (ab_ra 4 0 (fun _ => none))) k := c_W_up (c_W_up hW (Nat.le_refl _) (Nat.le_refl _)) (Nat.le_succ _) (Nat.le_refl _)
        obtain ⟨n1, n2⟩ := c_mkg_EE (kd := ab_ii 0) (wo := I 10 3) (k := k + 1 + 1) (q := k + 1) (np := 0) (fq := fun _ => none) hWu (by omega) (ab_up_self _ _ _) (by omega) (by omega) (fun j hj => absurd hj (Nat.not_lt_zero _)) (by unfold c_nsm; decide)
        rw [← e] at n1 n2
        have hof : c_ofr k g (c_g4y g k a (I 10 3)) := by
          unfold c_g4y
          exact c_ofr_up (c_ofr_up (c_ofr_up (c_ofr_up c_ofr.rf (by omega)) (by omega)) (by omega)) (Nat.le_refl _)
        have hv := c_vw_xt (k' := k + 1 + 1 + 2) hW hof (by omega)
        have ea := (hv a ha).1 2
        have hEa := c_EE_vw hW hv ha hE
        have hW4 := c_g4y_W (a := a) (v := I 10 3) hW (Nat.le_refl k) h125
        have t0 : c_two a (some (k + 1 + 1)) 0 = some a := (ab_up_ne _ _ (by decide)).trans (ab_up_self _ _ _)
        have t1 : c_two a (some (k + 1 + 1)) 1 = some (k + 1 + 1) := ab_up_self _ _ _
        have hsm : c_nsm (c_g4y g k a (I 10 3)) (c_two a (some (k + 1 + 1))) 2 = (c_i g a 2).toInt + 1 := by
          show 0 + (c_i _ ((c_two a (some (k + 1 + 1)) 0).getD 0) 2).toInt + (c_i _ ((c_two a (some (k + 1 + 1)) 1).getD 0) 2).toInt = _
          rw [t0, t1]
          show 0 + (c_i _ a 2).toInt + (c_i _ (k + 1 + 1) 2).toInt = _
          rw [ea, n2]
          show 0 + _ + (1 + 0) = _
          omega
        refine c_mkN_ge (S := (c_I1 (c_fI I), c_g4y g k a (I 10 3), k + 1 + 1 + 2, z + 2 + 0 + 6)) (T := fun b => T b ∨ b = k + 1 + 1) hW4 hEa ?_ (by show k < k + 1 + 1 + 2; omega) (by show c_g4y g k a (I 10 3) k = _; unfold c_g4y; exact ab_up_self _ _ _) (fun j hj => ?_) ?_ (by omega)
        · show (c_i (c_g4y g k a (I 10 3)) a 2).toInt ≤ _
          rw [ea]; omega
        · by_cases q : j = 1
          · subst q; exact ⟨_, t1, Or.inr rfl, n1⟩
          · have : j = 0 := by omega
            subst this; exact ⟨_, t0, Or.inl ha, hEa⟩
        · show 1 + c_nsm (c_g4y g k a (I 10 3)) (c_two a (some (k + 1 + 1))) 2 ≤ _
          rw [hsm]; omega
      next hm =>
        have hof : c_ofr k g (c_g4n g k a) := by
          unfold c_g4n
          exact c_ofr_up (c_ofr_up c_ofr.rf (by omega)) (Nat.le_refl _)
        have hv := c_vw_xt (k' := k + 1 + 1) hW hof (by omega)
        have ea := (hv a ha).1 2
        have hEa := c_EE_vw hW hv ha hE
        have hW4 : c_W T (c_g4n g k a) (k + 1 + 1) := c_W_mono (c_g4n_W (a := a) hW (Nat.le_refl k)) (by omega)
        have t0 : c_two a (some a) 0 = some a := (ab_up_ne _ _ (by decide)).trans (ab_up_self _ _ _)
        have t1 : c_two a (some a) 1 = some a := ab_up_self _ _ _
        have hsm : c_nsm (c_g4n g k a) (c_two a (some a)) 2 = (c_i g a 2).toInt + (c_i g a 2).toInt := by
          show 0 + (c_i _ ((c_two a (some a) 0).getD 0) 2).toInt + (c_i _ ((c_two a (some a) 1).getD 0) 2).toInt = _
          rw [t0, t1]
          show 0 + (c_i _ a 2).toInt + (c_i _ a 2).toInt = _
          rw [ea]
          omega
        refine c_mkN_ge (S := (c_I0 (c_fI I), c_g4n g k a, k + 1 + 1, z + 2 + 0)) (T := T) hW4 hEa ?_ (by show k < k + 1 + 1; omega) (by show c_g4n g k a k = _; unfold c_g4n; exact ab_up_self _ _ _) (fun j hj => ?_) ?_ (by omega)
        · show (c_i (c_g4n g k a) a 2).toInt ≤ _
          rw [ea]; omega
        · by_cases q : j = 1
          · subst q; exact ⟨_, t1, ha, hEa⟩
          · have : j = 0 := by omega
            subst this; exact ⟨_, t0, ha, hEa⟩
        · show 1 + c_nsm (c_g4n g k a) (c_two a (some a)) 2 ≤ _
          rw [hsm]; omega
    next c4 =>
      split
      · exact hone _ _
      split
      · exact hone _ _
      split
      next c7 =>
        obtain ⟨e1, e2⟩ := hgv c7
        exact ⟨e1, by dsimp only; omega⟩
      · exact c_ordr_ge (S := (c_fI I, g, k, z)) hW ha hE hn
end
/-- what is given instead, if a focus is given one -/
def c_pe (gv : Nat) (S : c_St) : Prop := (S.1 10 2).toInt = 7 → c_EE S.2.1 gv ∧ (c_i S.2.1 gv 2).toInt ≤ 200
theorem c_pe_st {T T' : Nat → Prop} {gv : Nat} {S S' : c_St} (hp : c_pr T gv S) (h : c_pe gv S) (hst : c_st T S T' S') : c_pe gv S' := fun q => by
  have q' : (S.1 10 2).toInt = 7 := by rw [← hst.ifr 10 2 (by omega) (by omega)]; exact q
  obtain ⟨e1, e2⟩ := h q'
  have hv := c_vw_xt hp.1 hst.ofr hst.kk
  have ht := hp.2.2.2 q'
  exact ⟨c_EE_vw hp.1 hv ht e1, by rw [(hv gv ht).1]; exact e2⟩
section
variable {gv : Nat} {F : Nat → c_St → Nat × c_St} {p i a v : Nat} {T0 : Nat → Prop} {S0 : c_St}
theorem c_chl_ge_s (hF : ∀ (T : Nat → Prop) (S : c_St) (b : Nat), c_pr T gv S → T b → c_gd T v S (F b S)) (hFs : ∀ (b : Nat) (S : c_St), ¬ (S.1 10 6).toInt = 0 → F b S = (b, S)) (hG : ∀ (T : Nat → Prop) (S : c_St) (b : Nat), c_pr T gv S → c_pe gv S → T b → c_EE S.2.1 b → (c_i S.2.1 b 2).toInt ≤ 200 → c_ge (F b S) (213 * (c_i S.2.1 b 2).toInt)) (h0 : c_pr T0 gv S0) : ∀ (n j : Nat) (T : Nat → Prop) (S : c_St) (q : Nat) (fq : Nat → Option Nat), j + n = c_sz S.2.1 a → T a → c_st T0 S0 T S → c_us 1 (v + 1) S0 S → S0.2.2.1 ≤ q → (wd_mut q = false ∧ q < S.2.2.1) → S.2.1 q = ab_ra 4 (c_sz S.2.1 a) fq → c_nq T S.2.1 q → c_pe gv S → c_EE S.2.1 a → (c_i S.2.1 a 2).toInt ≤ 200 → (∀ i, i < c_sz S.2.1 a → ∃ b, fq i = some b ∧ T b ∧ c_EE S.2.1 b ∧ (c_i S.2.1 b 2).toInt ≤ 213 * (c_i S.2.1 (c_pt S.2.1 a i) 2).toInt) → c_ge (c_chl F p i a n j (some (q, fq)) S) (213 * (c_i S.2.1 a 2).toInt)
  | 0, j, T, S, q, fq, hj, ha, hst, hus, hq0, hq, hqc, hnq, hpe, hE, hn, hf => by
    have h1 := hE.ex.1
    have h1b := hE.ex.2
    have hsm := c_nsm_mul (g := S.2.1) (g' := S.2.1) (fp := c_ptr S.2.1 a) (fp' := fq) (m := 213) (c_sz S.2.1 a) (fun j hj => by
      obtain ⟨b, hb, -, -, hle⟩ := hf j hj
      rw [hb]
      exact hle)
    exact c_mkA_ge (T := T) hst.wf hE (by omega) hq.2 hqc (fun j hj => by
      obtain ⟨b, hb, hT, he, -⟩ := hf j hj
      exact ⟨b, hb, hT, he⟩) (by omega) (by omega)
  | n + 1, j, T, S, q, fq, hj, ha, hst, hus, hq0, hq, hqc, hnq, hpe, hE, hn, hf => by
    have hp := c_pr_st h0 hst hus
    unfold c_chl
    split
    next he =>
      by_cases hs : (S.1 10 6).toInt = 0
      · have hTp := c_W_pt hst.wf ha (show j < c_sz S.2.1 a by omega)
        have hEp := hE.pt (show j < c_sz S.2.1 a by omega)
        have hlt := hE.lt (show j < c_sz S.2.1 a by omega)
        have hge := hG T S _ hp hpe hTp hEp (by omega)
        obtain ⟨T', hst', hR, hus'⟩ := hF T S (c_pt S.2.1 a j) hp hTp
        have hpe' := c_pe_st hp hpe hst'
        generalize F (c_pt S.2.1 a j) S = R at *
        obtain ⟨ca, I, g, k, z⟩ := R
        dsimp only at *
        have hv := c_vw_xt hst.wf hst'.ofr hst'.kk
        change ∀ b, T b → c_vw S.2.1 g b at hv
        obtain ⟨va, esz, vpt⟩ := hv a ha
        have hst2 := hst.tr hst'
        have hus2 := (hus.tr hus' hs).mo (Nat.le_refl _) (show v + 1 ≤ v + 1 by omega)
        have hqc' : g q = ab_ra 4 (c_sz S.2.1 a) fq := (hst'.ofr q hq.2 hq.1).trans hqc
        have hnq' := hst'.nq q hq.2 hnq
        have hkk : S.2.2.1 ≤ k := hst'.kk
        have ha' := hst'.inc a ha
        have hEa : c_EE g a := c_EE_vw hst.wf hv ha hE
        have hna : (c_i g a 2).toInt = (c_i S.2.1 a 2).toInt := by rw [va]
        have hpn : ∀ i, i < c_sz S.2.1 a → (c_i g (c_pt g a i) 2).toInt = (c_i S.2.1 (c_pt S.2.1 a i) 2).toInt := fun i hi => by rw [vpt, (hv _ (c_W_pt hst.wf ha hi)).1]
        have hf' : ∀ i, i < c_sz S.2.1 a → ∃ b, fq i = some b ∧ T' b ∧ c_EE g b ∧ (c_i g b 2).toInt ≤ 213 * (c_i g (c_pt g a i) 2).toInt := fun i hi => by
          obtain ⟨b, hb, hT, hb2, hle⟩ := hf i hi
          exact ⟨b, hb, hst'.inc b hT, c_EE_vw hst.wf hv hT hb2, by rw [(hv b hT).1, hpn i hi]; exact hle⟩
        obtain ⟨hg1, hg2⟩ := hge
        change c_EE g ca at hg1
        change (c_i g ca 2).toInt ≤ _ at hg2
        split
        next hsame =>
          have := c_chl_ge_s hF hFs hG h0 n (j + 1) T' (I, g, k, z) q fq (by show j + 1 + n = c_sz g a; rw [esz]; omega) ha' hst2 hus2 hq0 ⟨hq.1, by show q < k; omega⟩ (by show g q = ab_ra 4 (c_sz g a) fq; rw [esz]; exact hqc') hnq' hpe' hEa (by show (c_i g a 2).toInt ≤ 200; omega) (by show ∀ i, i < c_sz g a → _; rw [esz]; exact hf')
          change c_ge _ (213 * (c_i g a 2).toInt) at this
          rw [hna] at this
          exact this
        next hdiff =>
          have hv2 := c_vw_nq (c := ab_ra 4 (c_sz g a) (ab_up fq j (some ca))) hst'.wf hnq'
          change ∀ b, T' b → c_vw g (ab_up g q (ab_ra 4 (c_sz g a) (ab_up fq j (some ca)))) b at hv2
          obtain ⟨va2, esz2, vpt2⟩ := hv2 a ha'
          have hWg : c_W T' g k := hst'.wf
          have hpn2 : ∀ i, i < c_sz S.2.1 a → (c_i (ab_up g q (ab_ra 4 (c_sz g a) (ab_up fq j (some ca)))) (c_pt (ab_up g q (ab_ra 4 (c_sz g a) (ab_up fq j (some ca)))) a i) 2).toInt = (c_i g (c_pt g a i) 2).toInt := fun i hi => by rw [vpt2, (hv2 _ (c_W_pt hWg ha' (by rw [esz]; exact hi))).1]
          have hf2 : ∀ i, i < c_sz S.2.1 a → ∃ b, ab_up fq j (some ca) i = some b ∧ T' b ∧ c_EE (ab_up g q (ab_ra 4 (c_sz g a) (ab_up fq j (some ca)))) b ∧ (c_i (ab_up g q (ab_ra 4 (c_sz g a) (ab_up fq j (some ca)))) b 2).toInt ≤ 213 * (c_i (ab_up g q (ab_ra 4 (c_sz g a) (ab_up fq j (some ca)))) (c_pt (ab_up g q (ab_ra 4 (c_sz g a) (ab_up fq j (some ca)))) a i) 2).toInt := fun i hi => by
            by_cases e : i = j
            · subst e
              refine ⟨ca, ab_up_self _ _ _, hR, c_EE_vw hWg hv2 hR hg1, ?_⟩
              rw [hpn2 i hi, (hv2 ca hR).1, hpn i hi]
              exact hg2
            · obtain ⟨b, hb, hT, hb2, hle⟩ := hf' i hi
              refine ⟨b, (ab_up_ne _ _ e).trans hb, hT, c_EE_vw hWg hv2 hT hb2, ?_⟩
              rw [hpn2 i hi, (hv2 b hT).1]
              exact hle
          have hpe2 : c_pe gv (I, ab_up g q (ab_ra 4 (c_sz g a) (ab_up fq j (some ca))), k, z) := fun q7 => by
            obtain ⟨x1, x2⟩ := hpe' q7
            have hTg : T' gv := hst'.inc gv (hp.2.2.2 (by rw [← hst'.ifr 10 2 (by omega) (by omega)]; exact q7))
            exact ⟨c_EE_vw hWg hv2 hTg x1, by show (c_i (ab_up g q _) gv 2).toInt ≤ 200; rw [(hv2 gv hTg).1]; exact x2⟩
          have := c_chl_ge_s hF hFs hG h0 n (j + 1) T' (I, ab_up g q (ab_ra 4 (c_sz g a) (ab_up fq j (some ca))), k, z) q (ab_up fq j (some ca)) (by show j + 1 + n = c_sz (ab_up g q _) a; rw [esz2, esz]; omega) ha' (hst2.row hq0 hnq') hus2 hq0 ⟨hq.1, by show q < k; omega⟩ (by show ab_up g q _ q = ab_ra 4 (c_sz (ab_up g q _) a) _; rw [ab_up_self, esz2]) (c_nq_up hWg hnq' hnq') hpe2 (c_EE_vw hWg hv2 ha' hEa) (by show (c_i (ab_up g q _) a 2).toInt ≤ 200; rw [va2]; omega) (fun i hi => hf2 i (by have hi' : i < c_sz (ab_up g q (ab_ra 4 (c_sz g a) (ab_up fq j (some ca)))) a := hi; rw [esz2] at hi'; rw [esz] at hi'; exact hi'))
          change c_ge _ (213 * (c_i (ab_up g q _) a 2).toInt) at this
          rw [va2, hna] at this
          exact this
      · rw [hFs _ S hs, if_pos rfl]
        exact c_chl_ge_s hF hFs hG h0 n (j + 1) T S q fq (by omega) ha hst hus hq0 hq hqc hnq hpe hE hn hf
    next he => exact c_chl_ge_s hF hFs hG h0 n (j + 1) T S q fq (by omega) ha hst hus hq0 hq hqc hnq hpe hE hn hf
theorem c_chl_ge_n (hF : ∀ (T : Nat → Prop) (S : c_St) (b : Nat), c_pr T gv S → T b → c_gd T v S (F b S)) (hFs : ∀ (b : Nat) (S : c_St), ¬ (S.1 10 6).toInt = 0 → F b S = (b, S)) (hG : ∀ (T : Nat → Prop) (S : c_St) (b : Nat), c_pr T gv S → c_pe gv S → T b → c_EE S.2.1 b → (c_i S.2.1 b 2).toInt ≤ 200 → c_ge (F b S) (213 * (c_i S.2.1 b 2).toInt)) (h0 : c_pr T0 gv S0) : ∀ (n j : Nat) (T : Nat → Prop) (S : c_St), j + n = c_sz S.2.1 a → T a → c_st T0 S0 T S → c_us 0 v S0 S → c_pe gv S → c_EE S.2.1 a → (c_i S.2.1 a 2).toInt ≤ 200 → c_ge (c_chl F p i a n j none S) (213 * (c_i S.2.1 a 2).toInt)
  | 0, j, T, S, hj, ha, hst, hus, hpe, hE, hn => ⟨hE, by have := hE.ex.1; show (c_i S.2.1 a 2).toInt ≤ _; omega⟩
  | n + 1, j, T, S, hj, ha, hst, hus, hpe, hE, hn => by
    have hp := c_pr_st h0 hst hus
    unfold c_chl
    split
    next he =>
      by_cases hs : (S.1 10 6).toInt = 0
      · have hTp := c_W_pt hst.wf ha (show j < c_sz S.2.1 a by omega)
        have hEp := hE.pt (show j < c_sz S.2.1 a by omega)
        have hlt := hE.lt (show j < c_sz S.2.1 a by omega)
        have hge := hG T S _ hp hpe hTp hEp (by omega)
        obtain ⟨T', hst', hR, hus'⟩ := hF T S (c_pt S.2.1 a j) hp hTp
        have hpe' := c_pe_st hp hpe hst'
        generalize F (c_pt S.2.1 a j) S = R at *
        obtain ⟨ca, I, g, k, z⟩ := R
        dsimp only at *
        have hv := c_vw_xt hst.wf hst'.ofr hst'.kk
        change ∀ b, T b → c_vw S.2.1 g b at hv
        obtain ⟨va, esz, vpt⟩ := hv a ha
        have hst2 := hst.tr hst'
        have hus2 := (hus.tr hus' hs).mo (Nat.le_refl _) (show v + 0 ≤ v by omega)
        have hp2 := c_pr_st h0 hst2 hus2
        have ha' := hst'.inc a ha
        have hWg : c_W T' g k := hst'.wf
        have h13 := c_W_sz hWg ha'
        have hEa : c_EE g a := c_EE_vw hst.wf hv ha hE
        have hna : (c_i g a 2).toInt = (c_i S.2.1 a 2).toInt := by rw [va]
        have hpn : ∀ i, i < c_sz S.2.1 a → (c_i g (c_pt g a i) 2).toInt = (c_i S.2.1 (c_pt S.2.1 a i) 2).toInt := fun i hi => by rw [vpt, (hv _ (c_W_pt hst.wf ha hi)).1]
        obtain ⟨hg1, hg2⟩ := hge
        change c_EE g ca at hg1
        change (c_i g ca 2).toInt ≤ _ at hg2
        split
        next hsame =>
          have := c_chl_ge_n hF hFs hG h0 n (j + 1) T' (I, g, k, z) (by show j + 1 + n = c_sz g a; rw [esz]; omega) ha' hst2 hus2 hpe' hEa (by show (c_i g a 2).toInt ≤ 200; omega)
          change c_ge _ (213 * (c_i g a 2).toInt) at this
          rw [hna] at this
          exact this
        next hdiff =>
          have hfr := c_nq_fr (q := k) hWg (Nat.le_refl _)
          have hv2 := c_vw_nq (c := ab_ra 4 (c_sz g a) (ab_up (c_row (c_ptr g a) (c_sz g a)) j (some ca))) hWg hfr
          obtain ⟨va2, esz2, vpt2⟩ := hv2 a ha'
          have hpn2 : ∀ i, i < c_sz S.2.1 a → (c_i (ab_up g k (ab_ra 4 (c_sz g a) (ab_up (c_row (c_ptr g a) (c_sz g a)) j (some ca)))) (c_pt (ab_up g k (ab_ra 4 (c_sz g a) (ab_up (c_row (c_ptr g a) (c_sz g a)) j (some ca)))) a i) 2).toInt = (c_i g (c_pt g a i) 2).toInt := fun i hi => by rw [vpt2, (hv2 _ (c_W_pt hWg ha' (by rw [esz]; exact hi))).1]
          have hf2 : ∀ i, i < c_sz S.2.1 a → ∃ b, ab_up (c_row (c_ptr g a) (c_sz g a)) j (some ca) i = some b ∧ T' b ∧ c_EE (ab_up g k (ab_ra 4 (c_sz g a) (ab_up (c_row (c_ptr g a) (c_sz g a)) j (some ca)))) b ∧ (c_i (ab_up g k (ab_ra 4 (c_sz g a) (ab_up (c_row (c_ptr g a) (c_sz g a)) j (some ca)))) b 2).toInt ≤ 213 * (c_i (ab_up g k (ab_ra 4 (c_sz g a) (ab_up (c_row (c_ptr g a) (c_sz g a)) j (some ca)))) (c_pt (ab_up g k (ab_ra 4 (c_sz g a) (ab_up (c_row (c_ptr g a) (c_sz g a)) j (some ca)))) a i) 2).toInt := fun i hi => by
            by_cases e : i = j
            · subst e
              refine ⟨ca, ab_up_self _ _ _, hR, c_EE_vw hWg hv2 hR hg1, ?_⟩
              rw [hpn2 i hi, (hv2 ca hR).1, hpn i hi]
              exact hg2
            · have hi2 : i < c_sz g a := by rw [esz]; exact hi
              have hTi := c_W_pt hWg ha' hi2
              refine ⟨c_pt g a i, (ab_up_ne _ _ e).trans (if_pos hi2), hTi, c_EE_vw hWg hv2 hTi (hEa.pt hi2), ?_⟩
              rw [hpn2 i hi, (hv2 _ hTi).1]
              have := (hEa.pt hi2).ex.1
              omega
          have hpe2 : c_pe gv (c_arr (I, g, k, z) (ab_up (c_row (c_ptr g a) (c_sz g a)) j (some ca)) (c_sz g a)) := fun q7 => by
            obtain ⟨x1, x2⟩ := hpe' q7
            have hTg : T' gv := hst'.inc gv (hp.2.2.2 (by rw [← hst'.ifr 10 2 (by omega) (by omega)]; exact q7))
            exact ⟨c_EE_vw hWg hv2 hTg x1, by show (c_i (ab_up g k _) gv 2).toInt ≤ 200; rw [(hv2 gv hTg).1]; exact x2⟩
          have := c_chl_ge_s (p := p) (i := i) hF hFs hG h0 n (j + 1) T' (c_arr (I, g, k, z) (ab_up (c_row (c_ptr g a) (c_sz g a)) j (some ca)) (c_sz g a)) k (ab_up (c_row (c_ptr g a) (c_sz g a)) j (some ca)) (by show j + 1 + n = c_sz (ab_up g k _) a; rw [esz2, esz]; omega) ha' (c_arr_st hst2) (c_us_arr hus2 h13) hst2.kk ⟨wd_mut_new hp2.2.1, Nat.lt_succ_self _⟩ (by show ab_up g k _ k = ab_ra 4 (c_sz (ab_up g k _) a) _; rw [ab_up_self, esz2]) (c_nq_up hWg hfr hfr) hpe2 (c_EE_vw hWg hv2 ha' hEa) (by show (c_i (ab_up g k _) a 2).toInt ≤ 200; rw [va2]; omega) (fun i hi => hf2 i (by have hi' : i < c_sz (ab_up g k (ab_ra 4 (c_sz g a) (ab_up (c_row (c_ptr g a) (c_sz g a)) j (some ca)))) a := hi; rw [esz2] at hi'; rw [esz] at hi'; exact hi'))
          change c_ge _ (213 * (c_i (ab_up g k _) a 2).toInt) at this
          rw [va2, hna] at this
          exact this
      · rw [hFs _ S hs, if_pos rfl]
        exact c_chl_ge_n hF hFs hG h0 n (j + 1) T S (by omega) ha hst hus hpe hE hn
    next he => exact c_chl_ge_n hF hFs hG h0 n (j + 1) T S (by omega) ha hst hus hpe hE hn
end
theorem c_chw_ge {gv p : Nat} : ∀ (f a i : Nat) (T : Nat → Prop) (S : c_St), c_pr T gv S → c_pe gv S → T a → c_EE S.2.1 a → (c_i S.2.1 a 2).toInt ≤ 200 → c_ge (c_chw gv p f a i S) (213 * (c_i S.2.1 a 2).toInt)
  | 0, a, i, T, S, h0, hpe, ha, hE, hn => ⟨hE, by have := hE.ex.1; show (c_i S.2.1 a 2).toInt ≤ _; omega⟩
  | f + 1, a, i, T, S, h0, hpe, ha, hE, hn => by
    obtain ⟨hW, h125, hm, hgv⟩ := id h0
    have h1 := hE.ex.1
    unfold c_chw
    split
    next hs =>
      split
      · obtain ⟨I, g, k, z⟩ := S
        exact c_foc_ge hW h125 ha hE hn hpe
      · split
        · exact c_chw_ge f a (i + 1) T S h0 hpe ha hE hn
        · exact c_chl_ge_n (v := 2 * f) (fun T S b h1 h2 => c_chw_gd f b _ T S h1 h2) (fun b S hs => c_chw_sp f b _ S hs) (fun T S b q1 q2 q3 q4 q5 => c_chw_ge f b _ T S q1 q2 q3 q4 q5) h0 (c_sz S.2.1 a) 0 T S (by omega) ha (c_st.rf hW) ((c_us.rf hm).mo (Nat.le_refl _) (Nat.zero_le _)) hpe hE hn
    next hs => exact ⟨hE, by show (c_i S.2.1 a 2).toInt ≤ _; omega⟩
/-- OVER, whole -/
theorem c_R_ge {T : Nat → Prop} {I : wd_I} {g : Nat → ab_C} {k z a gv p : Nat} {how n : Int32} (hW : c_W T g k) (h125 : 125 ≤ k) (ha : T a) (h0 : 0 ≤ (I 9 0).toInt ∧ (I 9 0).toInt ≤ 3000) (hgv : how.toInt = 7 → T gv) (hE : c_EE g a) (hn : (c_i g a 2).toInt ≤ 200) (hgE : how.toInt = 7 → c_EE g gv ∧ (c_i g gv 2).toInt ≤ 200) : c_EE (c_R gv p a how n (I, g, k, z)).2.2.1 (c_R gv p a how n (I, g, k, z)).1 := by
  obtain ⟨e1, e2, e3, -⟩ := c_cI_e (I := I) (how := how) (n := n)
  exact (c_chw_ge 41 a 0 T (c_cI I how n, g, k, z) ⟨hW, h125, by dsimp only; rw [e1]; exact h0, fun q => hgv (by dsimp only at q; rw [e2] at q; exact q)⟩ (fun q => hgE (by dsimp only at q; rw [e2] at q; exact q)) ha hE hn).1
