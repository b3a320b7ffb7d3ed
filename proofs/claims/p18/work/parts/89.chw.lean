/-! ===== the class: what comes of a focus is well made; what OVER answers within (own text) ===== -/
section
variable {T : Nat → Prop} {I : wd_I} {g : Nat → ab_C} {k z : Nat}
theorem c_arr_st {T0 : Nat → Prop} {S0 : c_St} {n : Nat} {f : Nat → Option Nat} (h : c_st T0 S0 T (I, g, k, z)) : c_st T0 S0 T (c_arr (I, g, k, z) f n) := c_st.cell h (Nat.le_refl _) (Nat.le_succ _) c_Ifr.rf
theorem c_fI_9 : c_fI I 9 0 = I 9 0 ∧ c_fI I 10 6 = I 10 6 ∧ c_fI I 10 2 = I 10 2 := ⟨wd_up_ne _ _ (by omega), wd_up_ne _ _ (by omega), wd_up_ne _ _ (by omega)⟩
theorem c_ordr_gd {S0 : c_St} (h : c_st T S0 T (I, g, k, z)) (hu : c_us 0 0 S0 (I, g, k, z)) (h125 : 125 ≤ k) {a : Nat} (ha : T a) (hsp : (I 10 6).toInt = 0) (h0 : 0 ≤ (I 9 0).toInt ∧ (I 9 0).toInt ≤ 3000) : c_gd T 0 S0 (c_ordr (I, g, k, z) a) := by
  have hW : c_W T g k := h.wf
  have hk : S0.2.2.1 ≤ k := h.kk
  have hs := c_W_sz hW ha
  have hmk : ∀ f, c_rT T (c_sz g a) f → c_gd T 0 S0 (c_mkA a k (c_sz g a) f (c_arr (I, g, k, z) f (c_sz g a))) := fun f hf => by
    show c_gd T 0 S0 (c_mkA a k (c_sz g a) f (I, ab_up g k (ab_ra 4 (c_sz g a) f), k + 1, z + c_sz g a))
    refine c_mkA_gd (u := 1) (c_arr_st h) ?_ (by omega) (by omega) ha hk ⟨⟨wd_mut_new h125, by omega⟩, ab_up_self _ _ _, hs⟩ hf h0
    unfold c_us at *
    dsimp only at *
    omega
  unfold c_ordr
  dsimp only
  split
  · exact hmk _ (c_rev_T hW ha)
  · split
    · exact hmk _ (c_sor_T hW ha)
    · split
      · exact hmk _ (c_trn_T hW ha)
      · exact ⟨T, h, ha, hu⟩
theorem c_foc_gd (hW : c_W T g k) (h125 : 125 ≤ k) {a gv : Nat} (ha : T a) (h0 : 0 ≤ (I 9 0).toInt ∧ (I 9 0).toInt ≤ 3000) (hsp : (I 10 6).toInt = 0) (hgv : (I 10 2).toInt = 7 → T gv) : c_gd T 0 (I, g, k, z) (c_foc gv (I, g, k, z) a) := by
  obtain ⟨e9, e6, e2⟩ := c_fI_9 (I := I)
  have hst : c_st T (I, g, k, z) T (c_fI I, g, k, z) := (c_st.rf (S := (I, g, k, z)) hW).I c_Ifr_f
  have hus : c_us 0 0 (I, g, k, z) (c_fI I, g, k, z) := by
    unfold c_us
    dsimp only
    rw [e9, e6]
    omega
  have hone : ∀ kd wo, c_gd T 0 (I, g, k, z) (c_mkN kd wo k 1 (ab_up (fun _ => none) 0 (some a)) a (c_arr (c_fI I, g, k, z) (ab_up (fun _ => none) 0 (some a)) 1)) := fun kd wo => by
    show c_gd T 0 (I, g, k, z) (c_mkN kd wo k 1 (ab_up (fun _ => none) 0 (some a)) a (c_fI I, ab_up g k (ab_ra 4 1 (ab_up (fun _ => none) 0 (some a))), k + 1, z + 1))
    refine c_mkN_gd (u := 1) (c_arr_st hst) ?_ (by omega) (by omega) ha (Nat.le_refl _) ⟨⟨wd_mut_new h125, by omega⟩, ab_up_self _ _ _, by omega⟩ (c_one_T ha) (by rw [e9]; exact h0)
    unfold c_us at *
    dsimp only at *
    rw [e9, e6] at *
    omega
  unfold c_foc
  dsimp only
  split
  next h4 =>
    split
    next hn =>
      have hrow : c_st T (I, g, k, z) T (c_fI I, ab_up g k (ab_ra 4 0 (fun _ => none)), k + 1, z + 0) := c_arr_st (f := fun _ => none) (n := 0) hst
      split
      next hm =>
        obtain ⟨u1, u2⟩ := c_I1_9 (I := c_fI I) ⟨by rw [e9]; exact h0.1, by rw [e9]; exact hm⟩
        refine ⟨fun b => T b ∨ b = k + 1, ?_, Or.inr rfl, ?_⟩
        · exact c_mkg_st (q := k) (np := 0) (fq := fun _ => none) hrow (by omega) (Nat.le_refl _) ⟨⟨wd_mut_new h125, by omega⟩, ab_up_self _ _ _, by omega⟩ (fun j hj => absurd hj (Nat.not_lt_zero _)) c_Ifr_1
        · unfold c_us
          dsimp only
          rw [u1, u2, e9]
          omega
      next hm =>
        obtain ⟨u1, u2⟩ := c_I0_9 (I := c_fI I)
        refine ⟨T, c_st.cell hst (Nat.le_refl _) (Nat.le_succ _) c_Ifr_0, ha, ?_⟩
        unfold c_us
        dsimp only
        rw [u1, u2, e9]
        omega
    next hn => exact ⟨T, hst, ha, hus⟩
  next h4 =>
    split
    next c4 =>
      split
      next hm =>
        obtain ⟨u1, u2⟩ := c_I1_9 (I := c_fI I) ⟨by rw [e9]; exact h0.1, by rw [e9]; exact hm⟩
        have hg : c_st T (I, g, k, z) (fun b => T b ∨ b = k + 1 + 1) (c_I1 (c_fI I), c_g4y g k a (I 10 3), k + 1 + 1 + 2, z + 2 + 0 + 6) := by
          have e : c_g4y g k a (I 10 3) = c_mkg (ab_up (ab_up g k (ab_ra 4 2 (c_two a (some (k + 1 + 1))))) (k + 1) (ab_ra 4 0 (fun _ => none))) (k + 1 + 1) (ab_ii 0) (I 10 3) (k + 1) 0 (fun _ => none) := by rw [c_mkg4]; rfl
          rw [e]
          have h1 : c_st T (I, g, k, z) T (c_fI I, ab_up g k (ab_ra 4 2 (c_two a (some (k + 1 + 1)))), k + 1, z + 2) := c_arr_st (f := c_two a (some (k + 1 + 1))) (n := 2) hst
          have h2 : c_st T (I, g, k, z) T (c_fI I, ab_up (ab_up g k (ab_ra 4 2 (c_two a (some (k + 1 + 1))))) (k + 1) (ab_ra 4 0 (fun _ => none)), k + 1 + 1, z + 2 + 0) := c_arr_st (f := fun _ => none) (n := 0) h1
          exact c_mkg_st h2 (by omega) (Nat.le_succ _) ⟨⟨wd_mut_new (by omega), by omega⟩, ab_up_self _ _ _, by omega⟩ (fun j hj => absurd hj (Nat.not_lt_zero _)) c_Ifr_1
        refine c_mkN_gd (u := 0) hg ?_ (by omega) (by omega) (Or.inl ha) (Nat.le_refl _) ⟨⟨wd_mut_new h125, by omega⟩, ab_up_self _ _ _, by omega⟩ (c_two_T (Or.inl ha) (Or.inr rfl)) (by rw [u1, e9]; omega)
        unfold c_us
        dsimp only
        rw [u1, u2, e9]
        omega
      next hm =>
        obtain ⟨u1, u2⟩ := c_I0_9 (I := c_fI I)
        have hg : c_st T (I, g, k, z) T (c_I0 (c_fI I), c_g4n g k a, k + 1 + 1, z + 2 + 0) := by
          unfold c_g4n
          have h1 := c_st.cell hst (x := k + 1) (k' := k) (z' := z) (c := ab_ra 4 0 (fun _ => none)) (I' := c_fI I) (by show k ≤ k + 1; omega) (Nat.le_refl _) c_Ifr.rf
          exact c_st.cell h1 (Nat.le_refl _) (by show k ≤ k + 1 + 1; omega) c_Ifr_0
        refine c_mkN_gd (u := 0) hg ?_ (by omega) (by omega) ha (Nat.le_refl _) ⟨⟨wd_mut_new h125, by omega⟩, ab_up_self _ _ _, by omega⟩ (c_two_T ha ha) (by rw [u1, e9]; exact h0)
        unfold c_us
        dsimp only
        rw [u1, u2, e9]
        omega
    next c4 =>
      split
      · exact hone _ _
      split
      · exact hone _ _
      split
      next c7 => exact ⟨T, hst, hgv c7, hus⟩
      · exact c_ordr_gd hst hus h125 ha (by rw [e6]; exact hsp) (by rw [e9]; exact h0)
end
