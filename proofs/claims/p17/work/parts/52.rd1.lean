/-! ===== the reference: reads (own text) ===== -/
theorem m_here_rm1 {M : wd_I} : m_here (m_rm1 M) = m_here M := by
  unfold m_here
  rw [m_rm1_n (by decide), m_rm1_n (by decide), show m_rm1 M 120 = M 120 from wd_up_row _ _ _ (by decide)]
theorem m_stp1_eq {M : wd_I} : wd_up (wd_up M 102 25 (ab_ii ((M 102 25).toInt + 1))) 102 23 (ab_ii ((M 102 23).toInt + 1)) = m_stp (m_rm1 M) := by
  unfold m_stp
  rw [m_rm1_n (by decide)]
  rfl
/-- a step into a thing -/
theorem m_stp1_f {M : wd_I} (hp : m_rp M) (h : 0 ≤ (m_here M).toInt) : m_rg M (m_stp (m_rm1 M)) ∧ m_rp (m_stp (m_rm1 M)) ∧ (m_stp (m_rm1 M) 102 8).toInt + m_pt (m_stp (m_rm1 M)) + 1 ≤ (M 102 8).toInt + m_pt M := by
  have h1 : m_rg M (m_rm1 M) := m_many1_rg hp.1
  have p1 := h1.rp hp
  have e8 : m_rm1 M 102 8 = M 102 8 := m_rm1_n (by decide)
  have ept := m_rm1_pt (M := M)
  have h2 := m_stp_sc p1.1 (m_here_lt (M := m_rm1 M) (by rw [m_here_rm1]; exact h)).1
  refine ⟨h1.tr h2.1.rg, (h1.tr h2.1.rg).rp hp, ?_⟩
  rw [h2.1.2.1 8 (by decide) (by decide), e8]
  have := h2.2
  omega
set_option maxHeartbeats 4000000 in
set_option maxRecDepth 100000 in
theorem x_reads_pair {d : Nat} (hd : 5 ≤ d) {I : wd_I} {P : wd_P} {M : wd_I} {g : Nat → ab_C} {k z dp : Nat} {G : wd_I → wd_I × Int32} (hG : m_rG G) (hdp : dp ≤ 12) (hX : ∀ (N : wd_I) (Q : ab_Q), m_rp N → Q (some (.inl (G N).2)) (wd I P (G N).1 g, k, z) → ab_CT (d - 1) 156 [wd_v 102, .inl (ab_ii ((dp : Int) + 1))] (wd I P N g, k, z) Q) {Q : ab_Q} (hp : m_rp M) (hf : (M 102 24).toInt = -1) (hc : (m_here M).toInt = 40) (hQ : Q (some (.inl (m_rpair G (m_stp (m_rm1 M))).2)) (wd I P (m_rpair G (m_stp (m_rm1 M))).1 g, k, z)) : ab_CT d 156 [wd_v 102, .inl (ab_ii (dp : Int))] (wd I P M g, k, z) Q := by
  obtain ⟨hrg, pS, hlt⟩ := m_stp1_f hp (by omega)
  have eS := m_stp1_eq (M := M)
  generalize m_stp (m_rm1 M) = S at *
  have hr := m_rp_lt pS
  have hn : 0 ≤ (M 102 8).toInt := by have := hp.2.1; omega
  have h0 : 0 ≤ (S 102 8).toInt := by omega
  have ht := hrg.2.2.1
  have b1 := m_pd_begins (sort := ab_ii 1) (v := ab_ii 0) hp hrg hlt
  have p1 := b1.1.rp hp
  have g1 := hG _ p1
  have x1 := fun Q hq => hX _ Q p1 hq
  have c1 := m_pd_rg b1 (by omega) h0 g1.1
  have l1 := m_rr_lt p1 g1
  unfold m_rpair at hQ
  simp only [] at hQ
  generalize G (m_begins S (ab_ii 1) (ab_ii 0) (ab_ii 0)) = R1 at *
  obtain ⟨N1, p⟩ := R1
  dsimp only at c1 l1 hQ x1
  have s1 := c1.2.2.1
  have b2 := m_pd_adds c1 h0 hn ht (by omega) l1
  have hr2 := m_rp_lt (c1.1.rp hp)
  have ht2 := c1.2.1
  have o1 := fun Q hq => x_one (d := d - 1) (by omega) (I := I) (P := P) (g := g) (k := k) (z := z) (Q := Q) (M := m_adds N1 (S 102 8) (ab_ii 0) p 0) (lo := ab_ii 44) (hi := ab_ii 44) (b2.1.rp hp).1 hq
  have b3 := m_pd_rg b2 (by omega) h0 (m_one_sc (lo := ab_ii 44) (hi := ab_ii 44) (b2.1.rp hp).1 (by decide)).1.rg
  generalize m_one (m_adds N1 (S 102 8) (ab_ii 0) p 0) (ab_ii 44) (ab_ii 44) = O1 at *
  obtain ⟨N2, v1⟩ := O1
  dsimp only at b3 hQ o1
  have p3 := b3.1.rp hp
  have g3 := hG _ p3
  have x3 := fun Q hq => hX _ Q p3 hq
  have c3 := m_pd_rg b3 (by omega) h0 g3.1
  have l3 := m_rr_lt p3 g3
  generalize G N2 = R2 at *
  obtain ⟨N3, q⟩ := R2
  dsimp only at c3 l3 hQ x3
  have s3 := c3.2.2.1
  have hr3 := m_rp_lt (c3.1.rp hp)
  have ht3 := c3.2.1
  have b4 := m_pd_adds c3 h0 hn ht (by omega) l3
  have o2 := fun Q hq => x_one (d := d - 1) (by omega) (I := I) (P := P) (g := g) (k := k) (z := z) (Q := Q) (M := m_adds N3 (S 102 8) (ab_ii 0) q 1) (lo := ab_ii 41) (hi := ab_ii 41) (b4.1.rp hp).1 hq
  have b5 := m_pd_rg b4 (by omega) h0 (m_one_sc (lo := ab_ii 41) (hi := ab_ii 41) (b4.1.rp hp).1 (by decide)).1.rg
  generalize m_one (m_adds N3 (S 102 8) (ab_ii 0) q 1) (ab_ii 41) (ab_ii 41) = O2 at *
  obtain ⟨N4, v2⟩ := O2
  dsimp only at b5 hQ o2
  have s5 := b5.2.2.1
  have hr5 := m_rp_lt (b5.1.rp hp)
  have ht5 := b5.2.1
  have pr5 := b5.2.2.2
  clear hX hG
  refine wd_inC rfl (by omega) rfl ?_
  intro C9 X9 hC9 hX9
  repeat' ((conv => whnf); first
    | (refine hC9 143 _ _ _ (x_here (by omega) hp.1 ?_))
    | (refine hC9 145 _ _ _ (x_isFault (M := M) (by omega) (fun hc => ?_) (fun hc => ?_)); (try (exfalso; omega)))
    | (rw [eS]; refine hC9 136 _ _ _ (x_begins (M := S) (by omega) h0 (by omega) ?_))
    | (refine hC9 156 _ _ _ (x1 _ ?_))
    | (refine hC9 151 _ _ _ (x_adds (s := 0) (by omega) h0 (by omega) s1 (by omega) ?_))
    | (refine hC9 146 _ _ _ (o1 _ ?_))
    | (refine hC9 156 _ _ _ (x3 _ ?_))
    | (refine hC9 151 _ _ _ (x_adds (s := 1) (by omega) h0 (by omega) s3 (by omega) ?_))
    | (refine hC9 146 _ _ _ (o2 _ ?_))
    | (refine hC9 137 _ _ _ (x_ends (s := 2) (by omega) h0 (by omega) s5 (by omega) pr5 ?_))
    | (intro v9 hv9; (try simp (disch := omega) only [ab_tI, ab_c0, wd_ix12, wd_ix8, wd_ix10, wd_up_self, wd_up_eq, wd_up_ne, Int.toNat_natCast, Int.toNat_of_nonneg, not_true_eq_false, not_false_eq_true, Option.some.injEq] at hv9); subst hv9)
    | (apply i_get; (focus (exact rfl)); (focus (exact rfl)))
    | (refine hX9 _ _ _ _ (wd_rnC rfl ?_); clear hC9 hX9 X9 C9; intro C9 X9 hC9 hX9)
    | (apply w_ialM; (focus (exact rfl)); (focus (exact (by first | exact ⟨by decide, by decide⟩ | ((try simp (disch := omega) only [ab_tI, ab_c0, wd_ix12, wd_ix8, wd_ix10, wd_up_self, wd_up_eq, wd_up_ne, Int.toNat_natCast, Int.toNat_of_nonneg, not_true_eq_false, not_false_eq_true, Option.some.injEq, wd_l103, wd_l104, wd_l105, wd_l106, wd_l107, wd_l108, wd_l109, wd_l110, wd_l111, wd_l112, wd_l113, wd_l114, wd_l115, wd_l116, wd_l117, wd_l118, wd_l119, wd_l120, wd_l121, wd_l122, wd_l123, wd_l124]); omega)))); (intro v9 hv9; (try simp (disch := omega) only [ab_tI, ab_c0, wd_ix12, wd_ix8, wd_ix10, wd_up_self, wd_up_eq, wd_up_ne, Int.toNat_natCast, Int.toNat_of_nonneg, not_true_eq_false, not_false_eq_true, Option.some.injEq] at hv9); subst hv9))
    | (apply w_putM; (focus (exact rfl)); (focus (first | exact trivial | exact Or.inl rfl | exact Or.inr rfl)); (focus (exact rfl)))
    | (apply w_iasM; (focus (exact rfl)); (focus (exact (by first | exact ⟨by decide, by decide⟩ | ((try simp (disch := omega) only [ab_tI, ab_c0, wd_ix12, wd_ix8, wd_ix10, wd_up_self, wd_up_eq, wd_up_ne, Int.toNat_natCast, Int.toNat_of_nonneg, not_true_eq_false, not_false_eq_true, Option.some.injEq, wd_l103, wd_l104, wd_l105, wd_l106, wd_l107, wd_l108, wd_l109, wd_l110, wd_l111, wd_l112, wd_l113, wd_l114, wd_l115, wd_l116, wd_l117, wd_l118, wd_l119, wd_l120, wd_l121, wd_l122, wd_l123, wd_l124]); omega)))); (intro v9 hv9; (try simp (disch := omega) only [ab_tI, ab_c0, wd_ix12, wd_ix8, wd_ix10, wd_up_self, wd_up_eq, wd_up_ne, Int.toNat_natCast, Int.toNat_of_nonneg, not_true_eq_false, not_false_eq_true, Option.some.injEq] at hv9); subst hv9))
    | (refine i_brF (by decide) ?_)
    | (refine i_brT (by decide) ?_)
    | (refine ⟨fun hc => ?_, fun hc => ?_⟩ <;> (try simp (disch := omega) only [ab_tI, ab_c0, wd_ix12, wd_ix8, wd_ix10, wd_up_self, wd_up_eq, wd_up_ne, Int.toNat_natCast, Int.toNat_of_nonneg, not_true_eq_false, not_false_eq_true, Option.some.injEq] at hc) <;> first | (exfalso; omega) | skip)
    | (apply i_cv; (focus (exact rfl)))
    | (apply w_balM; (focus (exact (by first | exact ⟨by decide, by decide⟩ | ((try simp (disch := omega) only [ab_tI, ab_c0, wd_ix12, wd_ix8, wd_ix10, wd_up_self, wd_up_eq, wd_up_ne, Int.toNat_natCast, Int.toNat_of_nonneg, not_true_eq_false, not_false_eq_true, Option.some.injEq, wd_l103, wd_l104, wd_l105, wd_l106, wd_l107, wd_l108, wd_l109, wd_l110, wd_l111, wd_l112, wd_l113, wd_l114, wd_l115, wd_l116, wd_l117, wd_l118, wd_l119, wd_l120, wd_l121, wd_l122, wd_l123, wd_l124]); omega)))); (intro v9 hv9; (try simp (disch := omega) only [ab_tI, ab_c0, wd_ix12, wd_ix8, wd_ix10, wd_up_self, wd_up_eq, wd_up_ne, Int.toNat_natCast, Int.toNat_of_nonneg, not_true_eq_false, not_false_eq_true, Option.some.injEq] at hv9); subst hv9))
    | (apply w_basM; (focus (exact (by first | exact ⟨by decide, by decide⟩ | ((try simp (disch := omega) only [ab_tI, ab_c0, wd_ix12, wd_ix8, wd_ix10, wd_up_self, wd_up_eq, wd_up_ne, Int.toNat_natCast, Int.toNat_of_nonneg, not_true_eq_false, not_false_eq_true, Option.some.injEq, wd_l103, wd_l104, wd_l105, wd_l106, wd_l107, wd_l108, wd_l109, wd_l110, wd_l111, wd_l112, wd_l113, wd_l114, wd_l115, wd_l116, wd_l117, wd_l118, wd_l119, wd_l120, wd_l121, wd_l122, wd_l123, wd_l124]); omega)))); (focus (first | exact Or.inl rfl | exact Or.inr rfl)); (intro v9 hv9; (try simp (disch := omega) only [ab_tI, ab_c0, wd_ix12, wd_ix8, wd_ix10, wd_up_self, wd_up_eq, wd_up_ne, Int.toNat_natCast, Int.toNat_of_nonneg, not_true_eq_false, not_false_eq_true, Option.some.injEq] at hv9); subst hv9))
    | (refine And.intro trivial ?_)
    | (refine And.intro (Or.inl rfl) ?_)
    | (refine And.intro (Or.inr rfl) ?_)
    | (refine And.intro (by ((try simp (disch := omega) only [ab_tI, ab_c0, wd_ix12, wd_ix8, wd_ix10, wd_up_self, wd_up_eq, wd_up_ne, Int.toNat_natCast, Int.toNat_of_nonneg, not_true_eq_false, not_false_eq_true, Option.some.injEq]); omega)) ?_)
    | fail)
  all_goals first | exact hQ | (exfalso; omega)
set_option maxHeartbeats 4000000 in
set_option maxRecDepth 100000 in
theorem x_reads_many {d : Nat} (hd : 6 ≤ d) {I : wd_I} {P : wd_P} {M : wd_I} {g : Nat → ab_C} {k z dp : Nat} {G : wd_I → wd_I × Int32} (hG : m_rG G) (hdp : dp ≤ 12) (hX2 : ∀ (N : wd_I) (Q : ab_Q), m_rp N → Q (some (.inl (G N).2)) (wd I P (G N).1 g, k, z) → ab_CT (d - 1 - 2) 156 [wd_v 102, .inl (ab_ii ((dp : Int) + 1))] (wd I P N g, k, z) Q) (hX1 : ∀ (N : wd_I) (Q : ab_Q), m_rp N → Q (some (.inl (G N).2)) (wd I P (G N).1 g, k, z) → ab_CT (d - 1 - 1) 156 [wd_v 102, .inl (ab_ii ((dp : Int) + 1))] (wd I P N g, k, z) Q) {Q : ab_Q} (hp : m_rp M) (hf : (M 102 24).toInt = -1) {sort close : Int32} (hc : ((m_here M).toInt = 91 ∧ sort = ab_ii 2 ∧ close = ab_ii 93) ∨ ((m_here M).toInt = 123 ∧ sort = ab_ii 3 ∧ close = ab_ii 125)) (hQ : Q (some (.inl (m_rmany G (m_stp (m_rm1 M)) sort close).2)) (wd I P (m_rmany G (m_stp (m_rm1 M)) sort close).1 g, k, z)) : ab_CT d 156 [wd_v 102, .inl (ab_ii (dp : Int))] (wd I P M g, k, z) Q := by
  obtain ⟨hrg, pS, hlt⟩ := m_stp1_f hp (by omega)
  have hcl : 0 ≤ close.toInt := by rcases hc with ⟨-, -, rfl⟩ | ⟨-, -, rfl⟩ <;> decide
  have eS := m_stp1_eq (M := M)
  generalize m_stp (m_rm1 M) = S at *
  have hr := m_rp_lt pS
  have hn : 0 ≤ (M 102 8).toInt := by have := hp.2.1; omega
  have h0 : 0 ≤ (S 102 8).toInt := by omega
  have ht := hrg.2.2.1
  have b1 := m_pd_begins (sort := sort) (v := ab_ii 0) hp hrg hlt
  have hk : (m_begins S sort (ab_ii 0) (ab_ii 0) 103 (S 102 8).toInt.toNat).toInt = sort.toInt := by
    unfold m_begins
    rw [wd_up_row _ _ _ (by decide), wd_up_row _ _ _ (by decide), wd_up_row _ _ _ (by decide), wd_up_self]
  have xA := fun Q hq => x_readsAll (d := d - 1) (by omega) (close := close) (Q := Q) hG hdp hX2 hX1 hp b1 h0 ht (by omega) hcl hk hq
  obtain ⟨s', b2, q2⟩ := m_pd_all hG (mp := sort.toInt) hp b1 h0 ht (by omega) hcl
  unfold m_rmany at hQ
  simp only [] at hQ
  rw [m_pd_sz b2] at hQ
  generalize m_all G sort.toInt (m_begins S sort (ab_ii 0) (ab_ii 0)) (S 102 8) close = A at *
  have s2 := b2.2.2.1
  have ht2 := b2.2.1
  have pr2 := b2.2.2.2
  clear hX2 hX1 hG
  rcases hc with ⟨hc, rfl, rfl⟩ | ⟨hc, rfl, rfl⟩
  · refine wd_inC rfl (by omega) rfl ?_
    intro C9 X9 hC9 hX9
    repeat' ((conv => whnf); first
    | (refine hC9 143 _ _ _ (x_here (by omega) hp.1 ?_))
    | (refine hC9 145 _ _ _ (x_isFault (M := M) (by omega) (fun hc => ?_) (fun hc => ?_)); (try (exfalso; omega)))
    | (rw [eS]; refine hC9 136 _ _ _ (x_begins (M := S) (by omega) h0 (by omega) ?_))
    | (refine hC9 155 _ _ _ (xA _ ?_))
    | (refine hC9 137 _ _ _ (x_ends (s := s') (by omega) h0 (by omega) s2 q2 pr2 ?_))
    | (intro v9 hv9; (try simp (disch := omega) only [ab_tI, ab_c0, wd_ix12, wd_ix8, wd_ix10, wd_up_self, wd_up_eq, wd_up_ne, Int.toNat_natCast, Int.toNat_of_nonneg, not_true_eq_false, not_false_eq_true, Option.some.injEq] at hv9); subst hv9)
    | (apply i_get; (focus (exact rfl)); (focus (exact rfl)))
    | (refine hX9 _ _ _ _ (wd_rnC rfl ?_); clear hC9 hX9 X9 C9; intro C9 X9 hC9 hX9)
    | (apply w_ialM; (focus (exact rfl)); (focus (exact (by first | exact ⟨by decide, by decide⟩ | ((try simp (disch := omega) only [ab_tI, ab_c0, wd_ix12, wd_ix8, wd_ix10, wd_up_self, wd_up_eq, wd_up_ne, Int.toNat_natCast, Int.toNat_of_nonneg, not_true_eq_false, not_false_eq_true, Option.some.injEq, wd_l103, wd_l104, wd_l105, wd_l106, wd_l107, wd_l108, wd_l109, wd_l110, wd_l111, wd_l112, wd_l113, wd_l114, wd_l115, wd_l116, wd_l117, wd_l118, wd_l119, wd_l120, wd_l121, wd_l122, wd_l123, wd_l124]); omega)))); (intro v9 hv9; (try simp (disch := omega) only [ab_tI, ab_c0, wd_ix12, wd_ix8, wd_ix10, wd_up_self, wd_up_eq, wd_up_ne, Int.toNat_natCast, Int.toNat_of_nonneg, not_true_eq_false, not_false_eq_true, Option.some.injEq] at hv9); subst hv9))
    | (apply w_putM; (focus (exact rfl)); (focus (first | exact trivial | exact Or.inl rfl | exact Or.inr rfl)); (focus (exact rfl)))
    | (apply w_iasM; (focus (exact rfl)); (focus (exact (by first | exact ⟨by decide, by decide⟩ | ((try simp (disch := omega) only [ab_tI, ab_c0, wd_ix12, wd_ix8, wd_ix10, wd_up_self, wd_up_eq, wd_up_ne, Int.toNat_natCast, Int.toNat_of_nonneg, not_true_eq_false, not_false_eq_true, Option.some.injEq, wd_l103, wd_l104, wd_l105, wd_l106, wd_l107, wd_l108, wd_l109, wd_l110, wd_l111, wd_l112, wd_l113, wd_l114, wd_l115, wd_l116, wd_l117, wd_l118, wd_l119, wd_l120, wd_l121, wd_l122, wd_l123, wd_l124]); omega)))); (intro v9 hv9; (try simp (disch := omega) only [ab_tI, ab_c0, wd_ix12, wd_ix8, wd_ix10, wd_up_self, wd_up_eq, wd_up_ne, Int.toNat_natCast, Int.toNat_of_nonneg, not_true_eq_false, not_false_eq_true, Option.some.injEq] at hv9); subst hv9))
    | (refine i_brF (by decide) ?_)
    | (refine i_brT (by decide) ?_)
    | (refine ⟨fun hc => ?_, fun hc => ?_⟩ <;> (try simp (disch := omega) only [ab_tI, ab_c0, wd_ix12, wd_ix8, wd_ix10, wd_up_self, wd_up_eq, wd_up_ne, Int.toNat_natCast, Int.toNat_of_nonneg, not_true_eq_false, not_false_eq_true, Option.some.injEq] at hc) <;> first | (exfalso; omega) | skip)
    | (apply i_cv; (focus (exact rfl)))
    | (apply w_balM; (focus (exact (by first | exact ⟨by decide, by decide⟩ | ((try simp (disch := omega) only [ab_tI, ab_c0, wd_ix12, wd_ix8, wd_ix10, wd_up_self, wd_up_eq, wd_up_ne, Int.toNat_natCast, Int.toNat_of_nonneg, not_true_eq_false, not_false_eq_true, Option.some.injEq, wd_l103, wd_l104, wd_l105, wd_l106, wd_l107, wd_l108, wd_l109, wd_l110, wd_l111, wd_l112, wd_l113, wd_l114, wd_l115, wd_l116, wd_l117, wd_l118, wd_l119, wd_l120, wd_l121, wd_l122, wd_l123, wd_l124]); omega)))); (intro v9 hv9; (try simp (disch := omega) only [ab_tI, ab_c0, wd_ix12, wd_ix8, wd_ix10, wd_up_self, wd_up_eq, wd_up_ne, Int.toNat_natCast, Int.toNat_of_nonneg, not_true_eq_false, not_false_eq_true, Option.some.injEq] at hv9); subst hv9))
    | (apply w_basM; (focus (exact (by first | exact ⟨by decide, by decide⟩ | ((try simp (disch := omega) only [ab_tI, ab_c0, wd_ix12, wd_ix8, wd_ix10, wd_up_self, wd_up_eq, wd_up_ne, Int.toNat_natCast, Int.toNat_of_nonneg, not_true_eq_false, not_false_eq_true, Option.some.injEq, wd_l103, wd_l104, wd_l105, wd_l106, wd_l107, wd_l108, wd_l109, wd_l110, wd_l111, wd_l112, wd_l113, wd_l114, wd_l115, wd_l116, wd_l117, wd_l118, wd_l119, wd_l120, wd_l121, wd_l122, wd_l123, wd_l124]); omega)))); (focus (first | exact Or.inl rfl | exact Or.inr rfl)); (intro v9 hv9; (try simp (disch := omega) only [ab_tI, ab_c0, wd_ix12, wd_ix8, wd_ix10, wd_up_self, wd_up_eq, wd_up_ne, Int.toNat_natCast, Int.toNat_of_nonneg, not_true_eq_false, not_false_eq_true, Option.some.injEq] at hv9); subst hv9))
    | (refine And.intro trivial ?_)
    | (refine And.intro (Or.inl rfl) ?_)
    | (refine And.intro (Or.inr rfl) ?_)
    | (refine And.intro (by ((try simp (disch := omega) only [ab_tI, ab_c0, wd_ix12, wd_ix8, wd_ix10, wd_up_self, wd_up_eq, wd_up_ne, Int.toNat_natCast, Int.toNat_of_nonneg, not_true_eq_false, not_false_eq_true, Option.some.injEq]); omega)) ?_)
    | fail)
    all_goals first | exact hQ | (exfalso; omega)
  · refine wd_inC rfl (by omega) rfl ?_
    intro C9 X9 hC9 hX9
    repeat' ((conv => whnf); first
    | (refine hC9 143 _ _ _ (x_here (by omega) hp.1 ?_))
    | (refine hC9 145 _ _ _ (x_isFault (M := M) (by omega) (fun hc => ?_) (fun hc => ?_)); (try (exfalso; omega)))
    | (rw [eS]; refine hC9 136 _ _ _ (x_begins (M := S) (by omega) h0 (by omega) ?_))
    | (refine hC9 155 _ _ _ (xA _ ?_))
    | (refine hC9 137 _ _ _ (x_ends (s := s') (by omega) h0 (by omega) s2 q2 pr2 ?_))
    | (intro v9 hv9; (try simp (disch := omega) only [ab_tI, ab_c0, wd_ix12, wd_ix8, wd_ix10, wd_up_self, wd_up_eq, wd_up_ne, Int.toNat_natCast, Int.toNat_of_nonneg, not_true_eq_false, not_false_eq_true, Option.some.injEq] at hv9); subst hv9)
    | (apply i_get; (focus (exact rfl)); (focus (exact rfl)))
    | (refine hX9 _ _ _ _ (wd_rnC rfl ?_); clear hC9 hX9 X9 C9; intro C9 X9 hC9 hX9)
    | (apply w_ialM; (focus (exact rfl)); (focus (exact (by first | exact ⟨by decide, by decide⟩ | ((try simp (disch := omega) only [ab_tI, ab_c0, wd_ix12, wd_ix8, wd_ix10, wd_up_self, wd_up_eq, wd_up_ne, Int.toNat_natCast, Int.toNat_of_nonneg, not_true_eq_false, not_false_eq_true, Option.some.injEq, wd_l103, wd_l104, wd_l105, wd_l106, wd_l107, wd_l108, wd_l109, wd_l110, wd_l111, wd_l112, wd_l113, wd_l114, wd_l115, wd_l116, wd_l117, wd_l118, wd_l119, wd_l120, wd_l121, wd_l122, wd_l123, wd_l124]); omega)))); (intro v9 hv9; (try simp (disch := omega) only [ab_tI, ab_c0, wd_ix12, wd_ix8, wd_ix10, wd_up_self, wd_up_eq, wd_up_ne, Int.toNat_natCast, Int.toNat_of_nonneg, not_true_eq_false, not_false_eq_true, Option.some.injEq] at hv9); subst hv9))
    | (apply w_putM; (focus (exact rfl)); (focus (first | exact trivial | exact Or.inl rfl | exact Or.inr rfl)); (focus (exact rfl)))
    | (apply w_iasM; (focus (exact rfl)); (focus (exact (by first | exact ⟨by decide, by decide⟩ | ((try simp (disch := omega) only [ab_tI, ab_c0, wd_ix12, wd_ix8, wd_ix10, wd_up_self, wd_up_eq, wd_up_ne, Int.toNat_natCast, Int.toNat_of_nonneg, not_true_eq_false, not_false_eq_true, Option.some.injEq, wd_l103, wd_l104, wd_l105, wd_l106, wd_l107, wd_l108, wd_l109, wd_l110, wd_l111, wd_l112, wd_l113, wd_l114, wd_l115, wd_l116, wd_l117, wd_l118, wd_l119, wd_l120, wd_l121, wd_l122, wd_l123, wd_l124]); omega)))); (intro v9 hv9; (try simp (disch := omega) only [ab_tI, ab_c0, wd_ix12, wd_ix8, wd_ix10, wd_up_self, wd_up_eq, wd_up_ne, Int.toNat_natCast, Int.toNat_of_nonneg, not_true_eq_false, not_false_eq_true, Option.some.injEq] at hv9); subst hv9))
    | (refine i_brF (by decide) ?_)
    | (refine i_brT (by decide) ?_)
    | (refine ⟨fun hc => ?_, fun hc => ?_⟩ <;> (try simp (disch := omega) only [ab_tI, ab_c0, wd_ix12, wd_ix8, wd_ix10, wd_up_self, wd_up_eq, wd_up_ne, Int.toNat_natCast, Int.toNat_of_nonneg, not_true_eq_false, not_false_eq_true, Option.some.injEq] at hc) <;> first | (exfalso; omega) | skip)
    | (apply i_cv; (focus (exact rfl)))
    | (apply w_balM; (focus (exact (by first | exact ⟨by decide, by decide⟩ | ((try simp (disch := omega) only [ab_tI, ab_c0, wd_ix12, wd_ix8, wd_ix10, wd_up_self, wd_up_eq, wd_up_ne, Int.toNat_natCast, Int.toNat_of_nonneg, not_true_eq_false, not_false_eq_true, Option.some.injEq, wd_l103, wd_l104, wd_l105, wd_l106, wd_l107, wd_l108, wd_l109, wd_l110, wd_l111, wd_l112, wd_l113, wd_l114, wd_l115, wd_l116, wd_l117, wd_l118, wd_l119, wd_l120, wd_l121, wd_l122, wd_l123, wd_l124]); omega)))); (intro v9 hv9; (try simp (disch := omega) only [ab_tI, ab_c0, wd_ix12, wd_ix8, wd_ix10, wd_up_self, wd_up_eq, wd_up_ne, Int.toNat_natCast, Int.toNat_of_nonneg, not_true_eq_false, not_false_eq_true, Option.some.injEq] at hv9); subst hv9))
    | (apply w_basM; (focus (exact (by first | exact ⟨by decide, by decide⟩ | ((try simp (disch := omega) only [ab_tI, ab_c0, wd_ix12, wd_ix8, wd_ix10, wd_up_self, wd_up_eq, wd_up_ne, Int.toNat_natCast, Int.toNat_of_nonneg, not_true_eq_false, not_false_eq_true, Option.some.injEq, wd_l103, wd_l104, wd_l105, wd_l106, wd_l107, wd_l108, wd_l109, wd_l110, wd_l111, wd_l112, wd_l113, wd_l114, wd_l115, wd_l116, wd_l117, wd_l118, wd_l119, wd_l120, wd_l121, wd_l122, wd_l123, wd_l124]); omega)))); (focus (first | exact Or.inl rfl | exact Or.inr rfl)); (intro v9 hv9; (try simp (disch := omega) only [ab_tI, ab_c0, wd_ix12, wd_ix8, wd_ix10, wd_up_self, wd_up_eq, wd_up_ne, Int.toNat_natCast, Int.toNat_of_nonneg, not_true_eq_false, not_false_eq_true, Option.some.injEq] at hv9); subst hv9))
    | (refine And.intro trivial ?_)
    | (refine And.intro (Or.inl rfl) ?_)
    | (refine And.intro (Or.inr rfl) ?_)
    | (refine And.intro (by ((try simp (disch := omega) only [ab_tI, ab_c0, wd_ix12, wd_ix8, wd_ix10, wd_up_self, wd_up_eq, wd_up_ne, Int.toNat_natCast, Int.toNat_of_nonneg, not_true_eq_false, not_false_eq_true, Option.some.injEq]); omega)) ?_)
    | fail)
    all_goals first | exact hQ | (exfalso; omega)
set_option maxHeartbeats 4000000 in
set_option maxRecDepth 100000 in
theorem x_reads_tag {d : Nat} (hd : 5 ≤ d) {I : wd_I} {P : wd_P} {M : wd_I} {g : Nat → ab_C} {k z dp : Nat} {G : wd_I → wd_I × Int32} (hG : m_rG G) (hdp : dp ≤ 12) (hX : ∀ (N : wd_I) (Q : ab_Q), m_rp N → Q (some (.inl (G N).2)) (wd I P (G N).1 g, k, z) → ab_CT (d - 1) 156 [wd_v 102, .inl (ab_ii ((dp : Int) + 1))] (wd I P N g, k, z) Q) {Q : ab_Q} (hp : m_rp M) (hf : (M 102 24).toInt = -1) (hc : (m_here M).toInt = 35) (hQ : Q (some (.inl (m_rtag G (m_stp (m_rm1 M))).2)) (wd I P (m_rtag G (m_stp (m_rm1 M))).1 g, k, z)) : ab_CT d 156 [wd_v 102, .inl (ab_ii (dp : Int))] (wd I P M g, k, z) Q := by
  obtain ⟨hrg, pS, hlt⟩ := m_stp1_f hp (by omega)
  have eS := m_stp1_eq (M := M)
  generalize m_stp (m_rm1 M) = S at *
  have hn : 0 ≤ (M 102 8).toInt := by have := hp.2.1; omega
  have s1 := (m_one_sc (lo := ab_ii 48) (hi := ab_ii 57) pS.1 (by decide)).1
  have o1 := fun Q hq => x_one (d := d - 1) (by omega) (I := I) (P := P) (g := g) (k := k) (z := z) (Q := Q) (M := S) (lo := ab_ii 48) (hi := ab_ii 57) pS.1 hq
  have hA := hrg.tr s1.rg
  have e8 : (m_one S (ab_ii 48) (ab_ii 57)).1 102 8 = S 102 8 := s1.2.1 8 (by decide) (by decide)
  have hr := m_rp_lt (hA.rp hp)
  have hlt2 := s1.2.2.2
  have hlt3 : ((m_one S (ab_ii 48) (ab_ii 57)).1 102 8).toInt + m_pt (m_one S (ab_ii 48) (ab_ii 57)).1 + 1 ≤ (M 102 8).toInt + m_pt M := by rw [e8]; omega
  unfold m_rtag at hQ
  simp only [] at hQ
  clear s1 e8 hlt2 hlt
  generalize m_one S (ab_ii 48) (ab_ii 57) = O1 at *
  obtain ⟨A, v⟩ := O1
  dsimp only at hA hr hlt3 hQ o1
  have h0 : 0 ≤ (A 102 8).toInt := by omega
  have ht := hA.2.2.1
  have b1 := m_pd_begins (sort := ab_ii 4) (v := ab_ii (v.toInt - 48)) hp hA hlt3
  have p1 := b1.1.rp hp
  have g1 := hG _ p1
  have x1 := fun Q hq => hX _ Q p1 hq
  have c1 := m_pd_rg b1 (by omega) h0 g1.1
  have l1 := m_rr_lt p1 g1
  generalize G (m_begins A (ab_ii 4) (ab_ii (v.toInt - 48)) (ab_ii 0)) = R1 at *
  obtain ⟨N1, p⟩ := R1
  dsimp only at c1 l1 hQ x1
  have s1 := c1.2.2.1
  have hr1 := m_rp_lt (c1.1.rp hp)
  have ht1 := c1.2.1
  have b2 := m_pd_adds c1 h0 hn ht (by omega) l1
  have s2 := b2.2.2.1
  have ht2 := b2.2.1
  have hr2 := m_rp_lt (b2.1.rp hp)
  have pr2 := b2.2.2.2
  clear hX hG
  refine wd_inC rfl (by omega) rfl ?_
  intro C9 X9 hC9 hX9
  repeat' ((conv => whnf); first
    | (refine hC9 143 _ _ _ (x_here (by omega) hp.1 ?_))
    | (refine hC9 145 _ _ _ (x_isFault (M := M) (by omega) (fun hc => ?_) (fun hc => ?_)); (try (exfalso; omega)))
    | (rw [eS]; refine hC9 146 _ _ _ (o1 _ ?_))
    | (refine hC9 136 _ _ _ (x_begins (M := A) (by omega) h0 (by omega) ?_))
    | (refine hC9 156 _ _ _ (x1 _ ?_))
    | (refine hC9 151 _ _ _ (x_adds (s := 0) (by omega) h0 (by omega) s1 (by omega) ?_))
    | (refine hC9 137 _ _ _ (x_ends (s := 1) (by omega) h0 (by omega) s2 (by omega) pr2 ?_))
    | (intro v9 hv9; (try simp (disch := omega) only [ab_tI, ab_c0, wd_ix12, wd_ix8, wd_ix10, wd_up_self, wd_up_eq, wd_up_ne, Int.toNat_natCast, Int.toNat_of_nonneg, not_true_eq_false, not_false_eq_true, Option.some.injEq] at hv9); subst hv9)
    | (apply i_get; (focus (exact rfl)); (focus (exact rfl)))
    | (refine hX9 _ _ _ _ (wd_rnC rfl ?_); clear hC9 hX9 X9 C9; intro C9 X9 hC9 hX9)
    | (apply w_ialM; (focus (exact rfl)); (focus (exact (by first | exact ⟨by decide, by decide⟩ | ((try simp (disch := omega) only [ab_tI, ab_c0, wd_ix12, wd_ix8, wd_ix10, wd_up_self, wd_up_eq, wd_up_ne, Int.toNat_natCast, Int.toNat_of_nonneg, not_true_eq_false, not_false_eq_true, Option.some.injEq, wd_l103, wd_l104, wd_l105, wd_l106, wd_l107, wd_l108, wd_l109, wd_l110, wd_l111, wd_l112, wd_l113, wd_l114, wd_l115, wd_l116, wd_l117, wd_l118, wd_l119, wd_l120, wd_l121, wd_l122, wd_l123, wd_l124]); omega)))); (intro v9 hv9; (try simp (disch := omega) only [ab_tI, ab_c0, wd_ix12, wd_ix8, wd_ix10, wd_up_self, wd_up_eq, wd_up_ne, Int.toNat_natCast, Int.toNat_of_nonneg, not_true_eq_false, not_false_eq_true, Option.some.injEq] at hv9); subst hv9))
    | (apply w_putM; (focus (exact rfl)); (focus (first | exact trivial | exact Or.inl rfl | exact Or.inr rfl)); (focus (exact rfl)))
    | (apply w_iasM; (focus (exact rfl)); (focus (exact (by first | exact ⟨by decide, by decide⟩ | ((try simp (disch := omega) only [ab_tI, ab_c0, wd_ix12, wd_ix8, wd_ix10, wd_up_self, wd_up_eq, wd_up_ne, Int.toNat_natCast, Int.toNat_of_nonneg, not_true_eq_false, not_false_eq_true, Option.some.injEq, wd_l103, wd_l104, wd_l105, wd_l106, wd_l107, wd_l108, wd_l109, wd_l110, wd_l111, wd_l112, wd_l113, wd_l114, wd_l115, wd_l116, wd_l117, wd_l118, wd_l119, wd_l120, wd_l121, wd_l122, wd_l123, wd_l124]); omega)))); (intro v9 hv9; (try simp (disch := omega) only [ab_tI, ab_c0, wd_ix12, wd_ix8, wd_ix10, wd_up_self, wd_up_eq, wd_up_ne, Int.toNat_natCast, Int.toNat_of_nonneg, not_true_eq_false, not_false_eq_true, Option.some.injEq] at hv9); subst hv9))
    | (refine i_brF (by decide) ?_)
    | (refine i_brT (by decide) ?_)
    | (refine ⟨fun hc => ?_, fun hc => ?_⟩ <;> (try simp (disch := omega) only [ab_tI, ab_c0, wd_ix12, wd_ix8, wd_ix10, wd_up_self, wd_up_eq, wd_up_ne, Int.toNat_natCast, Int.toNat_of_nonneg, not_true_eq_false, not_false_eq_true, Option.some.injEq] at hc) <;> first | (exfalso; omega) | skip)
    | (apply i_cv; (focus (exact rfl)))
    | (apply w_balM; (focus (exact (by first | exact ⟨by decide, by decide⟩ | ((try simp (disch := omega) only [ab_tI, ab_c0, wd_ix12, wd_ix8, wd_ix10, wd_up_self, wd_up_eq, wd_up_ne, Int.toNat_natCast, Int.toNat_of_nonneg, not_true_eq_false, not_false_eq_true, Option.some.injEq, wd_l103, wd_l104, wd_l105, wd_l106, wd_l107, wd_l108, wd_l109, wd_l110, wd_l111, wd_l112, wd_l113, wd_l114, wd_l115, wd_l116, wd_l117, wd_l118, wd_l119, wd_l120, wd_l121, wd_l122, wd_l123, wd_l124]); omega)))); (intro v9 hv9; (try simp (disch := omega) only [ab_tI, ab_c0, wd_ix12, wd_ix8, wd_ix10, wd_up_self, wd_up_eq, wd_up_ne, Int.toNat_natCast, Int.toNat_of_nonneg, not_true_eq_false, not_false_eq_true, Option.some.injEq] at hv9); subst hv9))
    | (apply w_basM; (focus (exact (by first | exact ⟨by decide, by decide⟩ | ((try simp (disch := omega) only [ab_tI, ab_c0, wd_ix12, wd_ix8, wd_ix10, wd_up_self, wd_up_eq, wd_up_ne, Int.toNat_natCast, Int.toNat_of_nonneg, not_true_eq_false, not_false_eq_true, Option.some.injEq, wd_l103, wd_l104, wd_l105, wd_l106, wd_l107, wd_l108, wd_l109, wd_l110, wd_l111, wd_l112, wd_l113, wd_l114, wd_l115, wd_l116, wd_l117, wd_l118, wd_l119, wd_l120, wd_l121, wd_l122, wd_l123, wd_l124]); omega)))); (focus (first | exact Or.inl rfl | exact Or.inr rfl)); (intro v9 hv9; (try simp (disch := omega) only [ab_tI, ab_c0, wd_ix12, wd_ix8, wd_ix10, wd_up_self, wd_up_eq, wd_up_ne, Int.toNat_natCast, Int.toNat_of_nonneg, not_true_eq_false, not_false_eq_true, Option.some.injEq] at hv9); subst hv9))
    | (refine And.intro trivial ?_)
    | (refine And.intro (Or.inl rfl) ?_)
    | (refine And.intro (Or.inr rfl) ?_)
    | (refine And.intro (by ((try simp (disch := omega) only [ab_tI, ab_c0, wd_ix12, wd_ix8, wd_ix10, wd_up_self, wd_up_eq, wd_up_ne, Int.toNat_natCast, Int.toNat_of_nonneg, not_true_eq_false, not_false_eq_true, Option.some.injEq]); omega)) ?_)
    | fail)
  all_goals first | exact hQ | (exfalso; omega)
set_option maxHeartbeats 4000000 in
set_option maxRecDepth 100000 in
theorem x_reads_num {d : Nat} (hd : 6 ≤ d) {I : wd_I} {P : wd_P} {M : wd_I} {g : Nat → ab_C} {k z dp : Nat} (hdp : dp ≤ 12) {Q : ab_Q} (hp : m_rp M) (hf : (M 102 24).toInt = -1) (hc : ¬ (m_here M).toInt = 40 ∧ ¬ (m_here M).toInt = 91 ∧ ¬ (m_here M).toInt = 123 ∧ ¬ (m_here M).toInt = 35) (hQ : Q (some (.inl ((m_signed (m_rm1 M)).1 102 8))) (wd I P (m_number (m_signed (m_rm1 M)).1 (m_signed (m_rm1 M)).2) g, k, z)) : ab_CT d 156 [wd_v 102, .inl (ab_ii (dp : Int))] (wd I P M g, k, z) Q := by
  have h1 : m_rg M (m_rm1 M) := m_many1_rg hp.1
  have p1 := h1.rp hp
  have h2 := (m_signed_sc p1.1).1
  have hr := m_rp_lt (h2.rg.rp p1)
  have eS : wd_up M 102 25 (ab_ii ((M 102 25).toInt + 1)) = m_rm1 M := rfl
  have xs := fun Q hq => x_signed (d := d - 1) (by omega) (I := I) (P := P) (g := g) (k := k) (z := z) (Q := Q) (M := m_rm1 M) p1.1 hq
  clear h2
  generalize m_signed (m_rm1 M) = R at *
  obtain ⟨N, v⟩ := R
  dsimp only at hr hQ xs
  refine wd_inC rfl (by omega) rfl ?_
  intro C9 X9 hC9 hX9
  repeat' ((conv => whnf); first
    | (refine hC9 143 _ _ _ (x_here (by omega) hp.1 ?_))
    | (refine hC9 145 _ _ _ (x_isFault (M := M) (by omega) (fun hc => ?_) (fun hc => ?_)); (try (exfalso; omega)))
    | (rw [eS]; refine hC9 149 _ _ _ (xs _ ?_))
    | (refine hC9 138 _ _ _ (x_number (M := N) (by omega) (by omega) (by omega) ?_))
    | (intro v9 hv9; (try simp (disch := omega) only [ab_tI, ab_c0, wd_ix12, wd_ix8, wd_ix10, wd_up_self, wd_up_eq, wd_up_ne, Int.toNat_natCast, Int.toNat_of_nonneg, not_true_eq_false, not_false_eq_true, Option.some.injEq] at hv9); subst hv9)
    | (apply i_get; (focus (exact rfl)); (focus (exact rfl)))
    | (refine hX9 _ _ _ _ (wd_rnC rfl ?_); clear hC9 hX9 X9 C9; intro C9 X9 hC9 hX9)
    | (apply w_ialM; (focus (exact rfl)); (focus (exact (by first | exact ⟨by decide, by decide⟩ | ((try simp (disch := omega) only [ab_tI, ab_c0, wd_ix12, wd_ix8, wd_ix10, wd_up_self, wd_up_eq, wd_up_ne, Int.toNat_natCast, Int.toNat_of_nonneg, not_true_eq_false, not_false_eq_true, Option.some.injEq, wd_l103, wd_l104, wd_l105, wd_l106, wd_l107, wd_l108, wd_l109, wd_l110, wd_l111, wd_l112, wd_l113, wd_l114, wd_l115, wd_l116, wd_l117, wd_l118, wd_l119, wd_l120, wd_l121, wd_l122, wd_l123, wd_l124]); omega)))); (intro v9 hv9; (try simp (disch := omega) only [ab_tI, ab_c0, wd_ix12, wd_ix8, wd_ix10, wd_up_self, wd_up_eq, wd_up_ne, Int.toNat_natCast, Int.toNat_of_nonneg, not_true_eq_false, not_false_eq_true, Option.some.injEq] at hv9); subst hv9))
    | (apply w_putM; (focus (exact rfl)); (focus (first | exact trivial | exact Or.inl rfl | exact Or.inr rfl)); (focus (exact rfl)))
    | (apply w_iasM; (focus (exact rfl)); (focus (exact (by first | exact ⟨by decide, by decide⟩ | ((try simp (disch := omega) only [ab_tI, ab_c0, wd_ix12, wd_ix8, wd_ix10, wd_up_self, wd_up_eq, wd_up_ne, Int.toNat_natCast, Int.toNat_of_nonneg, not_true_eq_false, not_false_eq_true, Option.some.injEq, wd_l103, wd_l104, wd_l105, wd_l106, wd_l107, wd_l108, wd_l109, wd_l110, wd_l111, wd_l112, wd_l113, wd_l114, wd_l115, wd_l116, wd_l117, wd_l118, wd_l119, wd_l120, wd_l121, wd_l122, wd_l123, wd_l124]); omega)))); (intro v9 hv9; (try simp (disch := omega) only [ab_tI, ab_c0, wd_ix12, wd_ix8, wd_ix10, wd_up_self, wd_up_eq, wd_up_ne, Int.toNat_natCast, Int.toNat_of_nonneg, not_true_eq_false, not_false_eq_true, Option.some.injEq] at hv9); subst hv9))
    | (refine i_brF (by decide) ?_)
    | (refine i_brT (by decide) ?_)
    | (refine ⟨fun hc => ?_, fun hc => ?_⟩ <;> (try simp (disch := omega) only [ab_tI, ab_c0, wd_ix12, wd_ix8, wd_ix10, wd_up_self, wd_up_eq, wd_up_ne, Int.toNat_natCast, Int.toNat_of_nonneg, not_true_eq_false, not_false_eq_true, Option.some.injEq] at hc) <;> first | (exfalso; omega) | skip)
    | (apply i_cv; (focus (exact rfl)))
    | (apply w_balM; (focus (exact (by first | exact ⟨by decide, by decide⟩ | ((try simp (disch := omega) only [ab_tI, ab_c0, wd_ix12, wd_ix8, wd_ix10, wd_up_self, wd_up_eq, wd_up_ne, Int.toNat_natCast, Int.toNat_of_nonneg, not_true_eq_false, not_false_eq_true, Option.some.injEq, wd_l103, wd_l104, wd_l105, wd_l106, wd_l107, wd_l108, wd_l109, wd_l110, wd_l111, wd_l112, wd_l113, wd_l114, wd_l115, wd_l116, wd_l117, wd_l118, wd_l119, wd_l120, wd_l121, wd_l122, wd_l123, wd_l124]); omega)))); (intro v9 hv9; (try simp (disch := omega) only [ab_tI, ab_c0, wd_ix12, wd_ix8, wd_ix10, wd_up_self, wd_up_eq, wd_up_ne, Int.toNat_natCast, Int.toNat_of_nonneg, not_true_eq_false, not_false_eq_true, Option.some.injEq] at hv9); subst hv9))
    | (apply w_basM; (focus (exact (by first | exact ⟨by decide, by decide⟩ | ((try simp (disch := omega) only [ab_tI, ab_c0, wd_ix12, wd_ix8, wd_ix10, wd_up_self, wd_up_eq, wd_up_ne, Int.toNat_natCast, Int.toNat_of_nonneg, not_true_eq_false, not_false_eq_true, Option.some.injEq, wd_l103, wd_l104, wd_l105, wd_l106, wd_l107, wd_l108, wd_l109, wd_l110, wd_l111, wd_l112, wd_l113, wd_l114, wd_l115, wd_l116, wd_l117, wd_l118, wd_l119, wd_l120, wd_l121, wd_l122, wd_l123, wd_l124]); omega)))); (focus (first | exact Or.inl rfl | exact Or.inr rfl)); (intro v9 hv9; (try simp (disch := omega) only [ab_tI, ab_c0, wd_ix12, wd_ix8, wd_ix10, wd_up_self, wd_up_eq, wd_up_ne, Int.toNat_natCast, Int.toNat_of_nonneg, not_true_eq_false, not_false_eq_true, Option.some.injEq] at hv9); subst hv9))
    | (refine And.intro trivial ?_)
    | (refine And.intro (Or.inl rfl) ?_)
    | (refine And.intro (Or.inr rfl) ?_)
    | (refine And.intro (by ((try simp (disch := omega) only [ab_tI, ab_c0, wd_ix12, wd_ix8, wd_ix10, wd_up_self, wd_up_eq, wd_up_ne, Int.toNat_natCast, Int.toNat_of_nonneg, not_true_eq_false, not_false_eq_true, Option.some.injEq]); omega)) ?_)
    | fail)
  all_goals first | exact hQ | (exfalso; omega)
set_option maxHeartbeats 4000000 in
set_option maxRecDepth 100000 in
theorem x_reads {I : wd_I} {P : wd_P} {g : Nat → ab_C} {k z : Nat} : ∀ (f d dp : Nat), 3 * f + 6 ≤ d → dp + f = 13 → ∀ (M : wd_I) (Q : ab_Q), m_rp M → Q (some (.inl (m_rd f M).2)) (wd I P (m_rd f M).1 g, k, z) → ab_CT d 156 [wd_v 102, .inl (ab_ii (dp : Int))] (wd I P M g, k, z) Q
  | 0, d, dp, hd, hdp, M, Q, hp, hQ => by
    change Q (some (.inl (ab_ii 0))) (wd I P (m_fails M (M 102 23)) g, k, z) at hQ
    refine wd_inC rfl (by omega) rfl ?_
    intro C9 X9 hC9 hX9
    repeat' ((conv => whnf); first
    | (refine hC9 143 _ _ _ (x_here (by omega) hp.1 ?_))
    | (refine hC9 145 _ _ _ (x_isFault (M := M) (by omega) (fun hc => ?_) (fun hc => ?_)))
    | (refine hC9 144 _ _ _ (x_fails (M := M) (by omega) ?_))
    | (intro v9 hv9; (try simp (disch := omega) only [ab_tI, ab_c0, wd_ix12, wd_ix8, wd_ix10, wd_up_self, wd_up_eq, wd_up_ne, Int.toNat_natCast, Int.toNat_of_nonneg, not_true_eq_false, not_false_eq_true, Option.some.injEq] at hv9); subst hv9)
    | (apply i_get; (focus (exact rfl)); (focus (exact rfl)))
    | (refine hX9 _ _ _ _ (wd_rnC rfl ?_); clear hC9 hX9 X9 C9; intro C9 X9 hC9 hX9)
    | (apply w_ialM; (focus (exact rfl)); (focus (exact (by first | exact ⟨by decide, by decide⟩ | ((try simp (disch := omega) only [ab_tI, ab_c0, wd_ix12, wd_ix8, wd_ix10, wd_up_self, wd_up_eq, wd_up_ne, Int.toNat_natCast, Int.toNat_of_nonneg, not_true_eq_false, not_false_eq_true, Option.some.injEq, wd_l103, wd_l104, wd_l105, wd_l106, wd_l107, wd_l108, wd_l109, wd_l110, wd_l111, wd_l112, wd_l113, wd_l114, wd_l115, wd_l116, wd_l117, wd_l118, wd_l119, wd_l120, wd_l121, wd_l122, wd_l123, wd_l124]); omega)))); (intro v9 hv9; (try simp (disch := omega) only [ab_tI, ab_c0, wd_ix12, wd_ix8, wd_ix10, wd_up_self, wd_up_eq, wd_up_ne, Int.toNat_natCast, Int.toNat_of_nonneg, not_true_eq_false, not_false_eq_true, Option.some.injEq] at hv9); subst hv9))
    | (apply w_putM; (focus (exact rfl)); (focus (first | exact trivial | exact Or.inl rfl | exact Or.inr rfl)); (focus (exact rfl)))
    | (apply w_iasM; (focus (exact rfl)); (focus (exact (by first | exact ⟨by decide, by decide⟩ | ((try simp (disch := omega) only [ab_tI, ab_c0, wd_ix12, wd_ix8, wd_ix10, wd_up_self, wd_up_eq, wd_up_ne, Int.toNat_natCast, Int.toNat_of_nonneg, not_true_eq_false, not_false_eq_true, Option.some.injEq, wd_l103, wd_l104, wd_l105, wd_l106, wd_l107, wd_l108, wd_l109, wd_l110, wd_l111, wd_l112, wd_l113, wd_l114, wd_l115, wd_l116, wd_l117, wd_l118, wd_l119, wd_l120, wd_l121, wd_l122, wd_l123, wd_l124]); omega)))); (intro v9 hv9; (try simp (disch := omega) only [ab_tI, ab_c0, wd_ix12, wd_ix8, wd_ix10, wd_up_self, wd_up_eq, wd_up_ne, Int.toNat_natCast, Int.toNat_of_nonneg, not_true_eq_false, not_false_eq_true, Option.some.injEq] at hv9); subst hv9))
    | (refine i_brF (by decide) ?_)
    | (refine i_brT (by decide) ?_)
    | (refine ⟨fun hc => ?_, fun hc => ?_⟩ <;> (try simp (disch := omega) only [ab_tI, ab_c0, wd_ix12, wd_ix8, wd_ix10, wd_up_self, wd_up_eq, wd_up_ne, Int.toNat_natCast, Int.toNat_of_nonneg, not_true_eq_false, not_false_eq_true, Option.some.injEq] at hc) <;> first | (exfalso; omega) | skip)
    | (apply i_cv; (focus (exact rfl)))
    | (apply w_balM; (focus (exact (by first | exact ⟨by decide, by decide⟩ | ((try simp (disch := omega) only [ab_tI, ab_c0, wd_ix12, wd_ix8, wd_ix10, wd_up_self, wd_up_eq, wd_up_ne, Int.toNat_natCast, Int.toNat_of_nonneg, not_true_eq_false, not_false_eq_true, Option.some.injEq, wd_l103, wd_l104, wd_l105, wd_l106, wd_l107, wd_l108, wd_l109, wd_l110, wd_l111, wd_l112, wd_l113, wd_l114, wd_l115, wd_l116, wd_l117, wd_l118, wd_l119, wd_l120, wd_l121, wd_l122, wd_l123, wd_l124]); omega)))); (intro v9 hv9; (try simp (disch := omega) only [ab_tI, ab_c0, wd_ix12, wd_ix8, wd_ix10, wd_up_self, wd_up_eq, wd_up_ne, Int.toNat_natCast, Int.toNat_of_nonneg, not_true_eq_false, not_false_eq_true, Option.some.injEq] at hv9); subst hv9))
    | (apply w_basM; (focus (exact (by first | exact ⟨by decide, by decide⟩ | ((try simp (disch := omega) only [ab_tI, ab_c0, wd_ix12, wd_ix8, wd_ix10, wd_up_self, wd_up_eq, wd_up_ne, Int.toNat_natCast, Int.toNat_of_nonneg, not_true_eq_false, not_false_eq_true, Option.some.injEq, wd_l103, wd_l104, wd_l105, wd_l106, wd_l107, wd_l108, wd_l109, wd_l110, wd_l111, wd_l112, wd_l113, wd_l114, wd_l115, wd_l116, wd_l117, wd_l118, wd_l119, wd_l120, wd_l121, wd_l122, wd_l123, wd_l124]); omega)))); (focus (first | exact Or.inl rfl | exact Or.inr rfl)); (intro v9 hv9; (try simp (disch := omega) only [ab_tI, ab_c0, wd_ix12, wd_ix8, wd_ix10, wd_up_self, wd_up_eq, wd_up_ne, Int.toNat_natCast, Int.toNat_of_nonneg, not_true_eq_false, not_false_eq_true, Option.some.injEq] at hv9); subst hv9))
    | (refine And.intro trivial ?_)
    | (refine And.intro (Or.inl rfl) ?_)
    | (refine And.intro (Or.inr rfl) ?_)
    | (refine And.intro (by ((try simp (disch := omega) only [ab_tI, ab_c0, wd_ix12, wd_ix8, wd_ix10, wd_up_self, wd_up_eq, wd_up_ne, Int.toNat_natCast, Int.toNat_of_nonneg, not_true_eq_false, not_false_eq_true, Option.some.injEq]); omega)) ?_)
    | fail)
    all_goals first | exact hQ | (exfalso; omega)
  | f + 1, d, dp, hd, hdp, M, Q, hp, hQ => by
    unfold m_rd at hQ
    by_cases hf : (M 102 24).toInt = -1
    · rw [if_neg (fun q => q hf)] at hQ
      unfold m_rd1 at hQ
      rw [m_here_rm1] at hQ
      have hX : ∀ (e : Nat), 3 * f + 6 ≤ e → ∀ (N : wd_I) (Q : ab_Q), m_rp N → Q (some (.inl (m_rd f N).2)) (wd I P (m_rd f N).1 g, k, z) → ab_CT e 156 [wd_v 102, .inl (ab_ii ((dp : Int) + 1))] (wd I P N g, k, z) Q := fun e he N Q hN hq => x_reads f e (dp + 1) he (by omega) N Q hN hq
      by_cases c1 : (m_here M).toInt = 40
      · rw [if_pos c1] at hQ
        exact x_reads_pair (by omega) (m_rd_rr f) (by omega) (hX _ (by omega)) hp hf c1 hQ
      rw [if_neg c1] at hQ
      by_cases c2 : (m_here M).toInt = 91
      · rw [if_pos c2] at hQ
        exact x_reads_many (by omega) (m_rd_rr f) (by omega) (hX _ (by omega)) (hX _ (by omega)) hp hf (Or.inl ⟨c2, rfl, rfl⟩) hQ
      rw [if_neg c2] at hQ
      by_cases c3 : (m_here M).toInt = 123
      · rw [if_pos c3] at hQ
        exact x_reads_many (by omega) (m_rd_rr f) (by omega) (hX _ (by omega)) (hX _ (by omega)) hp hf (Or.inr ⟨c3, rfl, rfl⟩) hQ
      rw [if_neg c3] at hQ
      by_cases c4 : (m_here M).toInt = 35
      · rw [if_pos c4] at hQ
        exact x_reads_tag (by omega) (m_rd_rr f) (by omega) (hX _ (by omega)) hp hf c4 hQ
      rw [if_neg c4] at hQ
      exact x_reads_num (by omega) (by omega) hp hf ⟨c1, c2, c3, c4⟩ hQ
    · rw [if_pos hf] at hQ
      refine wd_inC rfl (by omega) rfl ?_
      intro C9 X9 hC9 hX9
      repeat' ((conv => whnf); first
    | (refine hC9 143 _ _ _ (x_here (by omega) hp.1 ?_))
    | (refine hC9 145 _ _ _ (x_isFault (M := M) (by omega) (fun hc => ?_) (fun hc => ?_)); (try (exfalso; omega)))
    | (refine hC9 144 _ _ _ (x_fails (M := M) (by omega) ?_))
    | (intro v9 hv9; (try simp (disch := omega) only [ab_tI, ab_c0, wd_ix12, wd_ix8, wd_ix10, wd_up_self, wd_up_eq, wd_up_ne, Int.toNat_natCast, Int.toNat_of_nonneg, not_true_eq_false, not_false_eq_true, Option.some.injEq] at hv9); subst hv9)
    | (apply i_get; (focus (exact rfl)); (focus (exact rfl)))
    | (refine hX9 _ _ _ _ (wd_rnC rfl ?_); clear hC9 hX9 X9 C9; intro C9 X9 hC9 hX9)
    | (apply w_ialM; (focus (exact rfl)); (focus (exact (by first | exact ⟨by decide, by decide⟩ | ((try simp (disch := omega) only [ab_tI, ab_c0, wd_ix12, wd_ix8, wd_ix10, wd_up_self, wd_up_eq, wd_up_ne, Int.toNat_natCast, Int.toNat_of_nonneg, not_true_eq_false, not_false_eq_true, Option.some.injEq, wd_l103, wd_l104, wd_l105, wd_l106, wd_l107, wd_l108, wd_l109, wd_l110, wd_l111, wd_l112, wd_l113, wd_l114, wd_l115, wd_l116, wd_l117, wd_l118, wd_l119, wd_l120, wd_l121, wd_l122, wd_l123, wd_l124]); omega)))); (intro v9 hv9; (try simp (disch := omega) only [ab_tI, ab_c0, wd_ix12, wd_ix8, wd_ix10, wd_up_self, wd_up_eq, wd_up_ne, Int.toNat_natCast, Int.toNat_of_nonneg, not_true_eq_false, not_false_eq_true, Option.some.injEq] at hv9); subst hv9))
    | (apply w_putM; (focus (exact rfl)); (focus (first | exact trivial | exact Or.inl rfl | exact Or.inr rfl)); (focus (exact rfl)))
    | (apply w_iasM; (focus (exact rfl)); (focus (exact (by first | exact ⟨by decide, by decide⟩ | ((try simp (disch := omega) only [ab_tI, ab_c0, wd_ix12, wd_ix8, wd_ix10, wd_up_self, wd_up_eq, wd_up_ne, Int.toNat_natCast, Int.toNat_of_nonneg, not_true_eq_false, not_false_eq_true, Option.some.injEq, wd_l103, wd_l104, wd_l105, wd_l106, wd_l107, wd_l108, wd_l109, wd_l110, wd_l111, wd_l112, wd_l113, wd_l114, wd_l115, wd_l116, wd_l117, wd_l118, wd_l119, wd_l120, wd_l121, wd_l122, wd_l123, wd_l124]); omega)))); (intro v9 hv9; (try simp (disch := omega) only [ab_tI, ab_c0, wd_ix12, wd_ix8, wd_ix10, wd_up_self, wd_up_eq, wd_up_ne, Int.toNat_natCast, Int.toNat_of_nonneg, not_true_eq_false, not_false_eq_true, Option.some.injEq] at hv9); subst hv9))
    | (refine i_brF (by decide) ?_)
    | (refine i_brT (by decide) ?_)
    | (refine ⟨fun hc => ?_, fun hc => ?_⟩ <;> (try simp (disch := omega) only [ab_tI, ab_c0, wd_ix12, wd_ix8, wd_ix10, wd_up_self, wd_up_eq, wd_up_ne, Int.toNat_natCast, Int.toNat_of_nonneg, not_true_eq_false, not_false_eq_true, Option.some.injEq] at hc) <;> first | (exfalso; omega) | skip)
    | (apply i_cv; (focus (exact rfl)))
    | (apply w_balM; (focus (exact (by first | exact ⟨by decide, by decide⟩ | ((try simp (disch := omega) only [ab_tI, ab_c0, wd_ix12, wd_ix8, wd_ix10, wd_up_self, wd_up_eq, wd_up_ne, Int.toNat_natCast, Int.toNat_of_nonneg, not_true_eq_false, not_false_eq_true, Option.some.injEq, wd_l103, wd_l104, wd_l105, wd_l106, wd_l107, wd_l108, wd_l109, wd_l110, wd_l111, wd_l112, wd_l113, wd_l114, wd_l115, wd_l116, wd_l117, wd_l118, wd_l119, wd_l120, wd_l121, wd_l122, wd_l123, wd_l124]); omega)))); (intro v9 hv9; (try simp (disch := omega) only [ab_tI, ab_c0, wd_ix12, wd_ix8, wd_ix10, wd_up_self, wd_up_eq, wd_up_ne, Int.toNat_natCast, Int.toNat_of_nonneg, not_true_eq_false, not_false_eq_true, Option.some.injEq] at hv9); subst hv9))
    | (apply w_basM; (focus (exact (by first | exact ⟨by decide, by decide⟩ | ((try simp (disch := omega) only [ab_tI, ab_c0, wd_ix12, wd_ix8, wd_ix10, wd_up_self, wd_up_eq, wd_up_ne, Int.toNat_natCast, Int.toNat_of_nonneg, not_true_eq_false, not_false_eq_true, Option.some.injEq, wd_l103, wd_l104, wd_l105, wd_l106, wd_l107, wd_l108, wd_l109, wd_l110, wd_l111, wd_l112, wd_l113, wd_l114, wd_l115, wd_l116, wd_l117, wd_l118, wd_l119, wd_l120, wd_l121, wd_l122, wd_l123, wd_l124]); omega)))); (focus (first | exact Or.inl rfl | exact Or.inr rfl)); (intro v9 hv9; (try simp (disch := omega) only [ab_tI, ab_c0, wd_ix12, wd_ix8, wd_ix10, wd_up_self, wd_up_eq, wd_up_ne, Int.toNat_natCast, Int.toNat_of_nonneg, not_true_eq_false, not_false_eq_true, Option.some.injEq] at hv9); subst hv9))
    | (refine And.intro trivial ?_)
    | (refine And.intro (Or.inl rfl) ?_)
    | (refine And.intro (Or.inr rfl) ?_)
    | (refine And.intro (by ((try simp (disch := omega) only [ab_tI, ab_c0, wd_ix12, wd_ix8, wd_ix10, wd_up_self, wd_up_eq, wd_up_ne, Int.toNat_natCast, Int.toNat_of_nonneg, not_true_eq_false, not_false_eq_true, Option.some.injEq]); omega)) ?_)
    | fail)
      all_goals first | exact hQ | (exfalso; omega)
