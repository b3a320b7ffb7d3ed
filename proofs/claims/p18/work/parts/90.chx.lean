/-! ===== the class: what comes of a thing within, well made (own text) ===== -/
noncomputable def c_chl (F : Nat → c_St → Nat × c_St) (p i a : Nat) : Nat → Nat → Option (Nat × (Nat → Option Nat)) → c_St → Nat × c_St
  | 0, _, none, S => (a, S)
  | 0, _, some (q, fq), S => c_mkA a q (c_sz S.2.1 a) fq S
  | n + 1, j, none, S => @ite (Nat × c_St) (p_ent S.2.1 p i a j) (Classical.propDecidable _) (if (F (c_pt S.2.1 a j) S).1 = c_pt S.2.1 a j then c_chl F p i a n (j + 1) none (F (c_pt S.2.1 a j) S).2 else c_chl F p i a n (j + 1) (some ((F (c_pt S.2.1 a j) S).2.2.2.1, ab_up (c_row (c_ptr (F (c_pt S.2.1 a j) S).2.2.1 a) (c_sz (F (c_pt S.2.1 a j) S).2.2.1 a)) j (some (F (c_pt S.2.1 a j) S).1))) (c_arr (F (c_pt S.2.1 a j) S).2 (ab_up (c_row (c_ptr (F (c_pt S.2.1 a j) S).2.2.1 a) (c_sz (F (c_pt S.2.1 a j) S).2.2.1 a)) j (some (F (c_pt S.2.1 a j) S).1)) (c_sz (F (c_pt S.2.1 a j) S).2.2.1 a))) (c_chl F p i a n (j + 1) none S)
  | n + 1, j, some (q, fq), S => @ite (Nat × c_St) (p_ent S.2.1 p i a j) (Classical.propDecidable _) (if (F (c_pt S.2.1 a j) S).1 = c_pt S.2.1 a j then c_chl F p i a n (j + 1) (some (q, fq)) (F (c_pt S.2.1 a j) S).2 else c_chl F p i a n (j + 1) (some (q, ab_up fq j (some (F (c_pt S.2.1 a j) S).1))) ((F (c_pt S.2.1 a j) S).2.1, ab_up (F (c_pt S.2.1 a j) S).2.2.1 q (ab_ra 4 (c_sz (F (c_pt S.2.1 a j) S).2.2.1 a) (ab_up fq j (some (F (c_pt S.2.1 a j) S).1))), (F (c_pt S.2.1 a j) S).2.2.2)) (c_chl F p i a n (j + 1) (some (q, fq)) S)
noncomputable def c_chw (gv p : Nat) : Nat → Nat → Nat → c_St → Nat × c_St
  | 0, a, _, S => (a, S)
  | f + 1, a, i, S => if (S.1 10 6).toInt = 0 then (if p_n S.2.1 p ≤ i then c_foc gv S a else @ite (Nat × c_St) (p_keep S.2.1 p i a) (Classical.propDecidable _) (c_chw gv p f a (i + 1) S) (c_chl (fun b S' => c_chw gv p f b (p_nx S'.2.1 p i) S') p i a (c_sz S.2.1 a) 0 none S)) else (a, S)
theorem c_gd.mo {T : Nat → Prop} {v v' : Nat} {S : c_St} {R : Nat × c_St} (h : c_gd T v S R) (hv : v ≤ v') : c_gd T v' S R := by
  obtain ⟨T', h1, h2, h3⟩ := h
  exact ⟨T', h1, h2, h3.mo (Nat.le_refl _) hv⟩
theorem c_nq_up {T : Nat → Prop} {g : Nat → ab_C} {k q q' : Nat} {c : ab_C} (hW : c_W T g k) (hn : c_nq T g q) (hn' : c_nq T g q') : c_nq T (ab_up g q c) q' := fun a ha => by
  obtain ⟨-, -, -, -, -, e4, e5⟩ := c_wf_nq (c := c) hW ha hn
  rw [e4, e5]
  exact hn' a ha
theorem c_rT_mo {T T' : Nat → Prop} {n : Nat} {f : Nat → Option Nat} (h : c_rT T n f) (hT : ∀ b, T b → T' b) : c_rT T' n f := fun j hj => by
  obtain ⟨b, hb, hb'⟩ := h j hj
  exact ⟨b, hb, hT b hb'⟩
/-- what a step asks of a state -/
def c_pr (T : Nat → Prop) (gv : Nat) (S : c_St) : Prop := c_W T S.2.1 S.2.2.1 ∧ 125 ≤ S.2.2.1 ∧ (0 ≤ (S.1 9 0).toInt ∧ (S.1 9 0).toInt ≤ 3000) ∧ ((S.1 10 2).toInt = 7 → T gv)
theorem c_pr_st {T0 T : Nat → Prop} {gv : Nat} {u v : Nat} {S0 S : c_St} (h0 : c_pr T0 gv S0) (h : c_st T0 S0 T S) (hu : c_us u v S0 S) : c_pr T gv S := by
  obtain ⟨p1, p2, p3, p4⟩ := h0
  refine ⟨h.wf, Nat.le_trans p2 h.kk, ?_, fun q => h.inc _ (p4 ?_)⟩
  · unfold c_us at hu
    omega
  · rw [← h.ifr 10 2 (by omega) (by omega)]; exact q
theorem c_us_arr {v n : Nat} {S0 S : c_St} {f : Nat → Option Nat} (h : c_us 0 v S0 S) (hn : n ≤ 13) : c_us 1 (v + 1) S0 (c_arr S f n) := by
  obtain ⟨I, g, k, z⟩ := S
  unfold c_us c_arr at *
  dsimp only at *
  omega
section
variable {gv : Nat} {F : Nat → c_St → Nat × c_St} {p i a v : Nat} {T0 : Nat → Prop} {S0 : c_St}
theorem c_chl_gd_s (hF : ∀ (T : Nat → Prop) (S : c_St) (b : Nat), c_pr T gv S → T b → c_gd T v S (F b S)) (hFs : ∀ (b : Nat) (S : c_St), ¬ (S.1 10 6).toInt = 0 → F b S = (b, S)) (h0 : c_pr T0 gv S0) : ∀ (n j : Nat) (T : Nat → Prop) (S : c_St) (q : Nat) (fq : Nat → Option Nat), j + n = c_sz S.2.1 a → T a → c_st T0 S0 T S → c_us 1 (v + 1) S0 S → S0.2.2.1 ≤ q → (wd_mut q = false ∧ q < S.2.2.1) → S.2.1 q = ab_ra 4 (c_sz S.2.1 a) fq → c_rT T (c_sz S.2.1 a) fq → c_nq T S.2.1 q → c_gd T0 (v + 1) S0 (c_chl F p i a n j (some (q, fq)) S)
  | 0, j, T, S, q, fq, hj, ha, hst, hus, hq0, hq, hqc, hf, hnq => by
    obtain ⟨I, g, k, z⟩ := S
    have hp := c_pr_st h0 hst hus
    exact c_mkA_gd hst hus (by omega) hp.2.1 ha hq0 ⟨hq, hqc, c_W_sz hst.wf ha⟩ hf hp.2.2.1
  | n + 1, j, T, S, q, fq, hj, ha, hst, hus, hq0, hq, hqc, hf, hnq => by
    have hp := c_pr_st h0 hst hus
    unfold c_chl
    split
    next he =>
      by_cases hs : (S.1 10 6).toInt = 0
      · obtain ⟨T', hst', hR, hus'⟩ := hF T S (c_pt S.2.1 a j) hp (c_W_pt hst.wf ha (by omega))
        generalize F (c_pt S.2.1 a j) S = R at *
        obtain ⟨ca, I, g, k, z⟩ := R
        dsimp only at *
        obtain ⟨-, esz, -⟩ := c_wf_xt (hst.wf a ha) hst'.ofr hst'.kk
        have hst2 := hst.tr hst'
        have hus2 := (hus.tr hus' hs).mo (Nat.le_refl _) (show v + 1 ≤ v + 1 by omega)
        have hqc' : g q = ab_ra 4 (c_sz S.2.1 a) fq := (hst'.ofr q hq.2 hq.1).trans hqc
        have hnq' := hst'.nq q hq.2 hnq
        have hkk : S.2.2.1 ≤ k := hst'.kk
        have ha' := hst'.inc a ha
        change c_sz g a = c_sz S.2.1 a at esz
        split
        next hsame => exact c_chl_gd_s hF hFs h0 n (j + 1) T' (I, g, k, z) q fq (by rw [esz]; omega) ha' hst2 hus2 hq0 ⟨hq.1, by show q < k; omega⟩ (by rw [esz]; exact hqc') (by rw [esz]; exact c_rT_mo hf hst'.inc) hnq'
        next hdiff =>
          obtain ⟨-, esz2, -⟩ := c_wf_nq (c := ab_ra 4 (c_sz g a) (ab_up fq j (some ca))) hst'.wf ha' hnq'
          change c_sz (ab_up g q (ab_ra 4 (c_sz g a) (ab_up fq j (some ca)))) a = c_sz g a at esz2
          refine c_chl_gd_s hF hFs h0 n (j + 1) T' (I, ab_up g q (ab_ra 4 (c_sz g a) (ab_up fq j (some ca))), k, z) q (ab_up fq j (some ca)) ?_ ha' (hst2.row hq0 hnq') hus2 hq0 ⟨hq.1, by show q < k; omega⟩ ?_ ?_ (c_nq_up hst'.wf hnq' hnq')
          · rw [esz2, esz]; omega
          · rw [esz2]; exact ab_up_self _ _ _
          · rw [esz2, esz]; exact c_rT_up (c_rT_mo hf hst'.inc) hR
      · rw [hFs _ S hs, if_pos rfl]
        exact c_chl_gd_s hF hFs h0 n (j + 1) T S q fq (by omega) ha hst hus hq0 hq hqc hf hnq
    next he => exact c_chl_gd_s hF hFs h0 n (j + 1) T S q fq (by omega) ha hst hus hq0 hq hqc hf hnq
theorem c_chl_gd_n (hF : ∀ (T : Nat → Prop) (S : c_St) (b : Nat), c_pr T gv S → T b → c_gd T v S (F b S)) (hFs : ∀ (b : Nat) (S : c_St), ¬ (S.1 10 6).toInt = 0 → F b S = (b, S)) (h0 : c_pr T0 gv S0) : ∀ (n j : Nat) (T : Nat → Prop) (S : c_St), j + n = c_sz S.2.1 a → T a → c_st T0 S0 T S → c_us 0 v S0 S → c_gd T0 (v + 1) S0 (c_chl F p i a n j none S)
  | 0, j, T, S, hj, ha, hst, hus => ⟨T, hst, ha, hus.mo (Nat.le_refl _) (Nat.le_succ _)⟩
  | n + 1, j, T, S, hj, ha, hst, hus => by
    have hp := c_pr_st h0 hst hus
    unfold c_chl
    split
    next he =>
      by_cases hs : (S.1 10 6).toInt = 0
      · obtain ⟨T', hst', hR, hus'⟩ := hF T S (c_pt S.2.1 a j) hp (c_W_pt hst.wf ha (by omega))
        generalize F (c_pt S.2.1 a j) S = R at *
        obtain ⟨ca, I, g, k, z⟩ := R
        dsimp only at *
        obtain ⟨-, esz, -⟩ := c_wf_xt (hst.wf a ha) hst'.ofr hst'.kk
        have hst2 := hst.tr hst'
        have hus2 := (hus.tr hus' hs).mo (Nat.le_refl _) (show v + 0 ≤ v by omega)
        have hp2 := c_pr_st h0 hst2 hus2
        have ha' := hst'.inc a ha
        have h13 := c_W_sz hst'.wf ha'
        change c_sz g a ≤ 13 at h13
        change c_sz g a = c_sz S.2.1 a at esz
        split
        next hsame => exact c_chl_gd_n hF hFs h0 n (j + 1) T' (I, g, k, z) (by rw [esz]; omega) ha' hst2 hus2
        next hdiff =>
          have hfr := c_nq_fr (q := k) hst'.wf (Nat.le_refl _)
          obtain ⟨-, esz2, -⟩ := c_wf_nq (c := ab_ra 4 (c_sz g a) (ab_up (c_row (c_ptr g a) (c_sz g a)) j (some ca))) hst'.wf ha' hfr
          change c_sz (ab_up g k (ab_ra 4 (c_sz g a) (ab_up (c_row (c_ptr g a) (c_sz g a)) j (some ca)))) a = c_sz g a at esz2
          refine c_chl_gd_s hF hFs h0 n (j + 1) T' (c_arr (I, g, k, z) (ab_up (c_row (c_ptr g a) (c_sz g a)) j (some ca)) (c_sz g a)) k (ab_up (c_row (c_ptr g a) (c_sz g a)) j (some ca)) ?_ ha' (c_arr_st hst2) (c_us_arr hus2 h13) hst2.kk ⟨wd_mut_new hp2.2.1, Nat.lt_succ_self _⟩ ?_ ?_ (c_nq_up hst'.wf hfr hfr)
          · show j + 1 + n = c_sz (ab_up g k _) a
            rw [esz2, esz]; omega
          · show ab_up g k _ k = _
            rw [ab_up_self]
            exact congrArg (fun n => ab_ra 4 n _) esz2.symm
          · show c_rT T' (c_sz (ab_up g k _) a) _
            rw [esz2]
            exact c_rT_up (c_row_T hst'.wf ha') hR
      · rw [hFs _ S hs, if_pos rfl]
        exact c_chl_gd_n hF hFs h0 n (j + 1) T S (by omega) ha hst hus
    next he => exact c_chl_gd_n hF hFs h0 n (j + 1) T S (by omega) ha hst hus
end
theorem c_chw_sp {gv p : Nat} : ∀ (f a i : Nat) (S : c_St), ¬ (S.1 10 6).toInt = 0 → c_chw gv p f a i S = (a, S)
  | 0, a, i, S, hs => rfl
  | f + 1, a, i, S, hs => by
    unfold c_chw
    rw [if_neg hs]
theorem c_chw_gd {gv p : Nat} : ∀ (f a i : Nat) (T : Nat → Prop) (S : c_St), c_pr T gv S → T a → c_gd T (2 * f) S (c_chw gv p f a i S)
  | 0, a, i, T, S, h0, ha => ⟨T, c_st.rf h0.1, ha, c_us.rf h0.2.2.1⟩
  | f + 1, a, i, T, S, h0, ha => by
    obtain ⟨hW, h125, hm, hgv⟩ := id h0
    unfold c_chw
    split
    next hs =>
      split
      · obtain ⟨I, g, k, z⟩ := S
        exact (c_foc_gd hW h125 ha hm hs hgv).mo (Nat.zero_le _)
      · split
        · exact (c_chw_gd f a (i + 1) T S h0 ha).mo (by omega)
        · exact (c_chl_gd_n (v := 2 * f) (fun T S b h1 h2 => c_chw_gd f b _ T S h1 h2) (fun b S hs => c_chw_sp f b _ S hs) h0 (c_sz S.2.1 a) 0 T S (by omega) ha (c_st.rf hW) ((c_us.rf hm).mo (Nat.le_refl _) (Nat.zero_le _))).mo (by omega)
    next hs => exact ⟨T, c_st.rf hW, ha, (c_us.rf hm).mo (Nat.le_refl _) (Nat.zero_le _)⟩
