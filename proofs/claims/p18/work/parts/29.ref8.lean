/-! ===== the reference: what looks (own text) ===== -/
/-- alike but for what is written anew before it is read -/
def m_eqv (M M' : wd_I) : Prop := (∀ a, 103 ≤ a → a ≤ 120 → M' a = M a) ∧ M' 102 8 = M 102 8 ∧ M' 102 9 = M 102 9 ∧ M' 102 20 = M 102 20 ∧ M' 102 22 = M 102 22
theorem m_eqv.rf {M : wd_I} : m_eqv M M := ⟨fun _ _ _ => rfl, rfl, rfl, rfl, rfl⟩
theorem m_eqv.tr {M M' M'' : wd_I} (h : m_eqv M M') (h' : m_eqv M' M'') : m_eqv M M'' := ⟨fun a h1 h2 => (h'.1 a h1 h2).trans (h.1 a h1 h2), h'.2.1.trans h.2.1, h'.2.2.1.trans h.2.2.1, h'.2.2.2.1.trans h.2.2.2.1, h'.2.2.2.2.trans h.2.2.2.2⟩
theorem m_eqv.sa {M M' : wd_I} (h : m_eqv M M') : m_same M M' := fun a h1 h2 => h.1 a h1 (by omega)
theorem m_eqv.sp {M M' : wd_I} (h : m_eqv M M') : m_samp M M' := fun a h1 h2 => h.1 a (by omega) (by omega)
/-- a number that is scratch -/
theorem m_eqv_w {M M' : wd_I} (h : m_eqv M M') {j : Nat} {x : Int32} (hj : 22 < j) : m_eqv M (wd_up M' 102 j x) := ⟨fun a h1 h2 => (wd_up_row _ _ _ (by omega)).trans (h.1 a h1 h2), (wd_up_ne _ _ (Or.inr (by omega))).trans h.2.1, (wd_up_ne _ _ (Or.inr (by omega))).trans h.2.2.1, (wd_up_ne _ _ (Or.inr (by omega))).trans h.2.2.2.1, (wd_up_ne _ _ (Or.inr (by omega))).trans h.2.2.2.2⟩
theorem m_eqv_r {M M' : wd_I} (h : m_eqv M M') {a j : Nat} {x : Int32} (hj : 120 < a) : m_eqv M (wd_up M' a j x) := ⟨fun b h1 h2 => (wd_up_row _ _ _ (by omega)).trans (h.1 b h1 h2), (wd_up_ne _ _ (Or.inl (by omega))).trans h.2.1, (wd_up_ne _ _ (Or.inl (by omega))).trans h.2.2.1, (wd_up_ne _ _ (Or.inl (by omega))).trans h.2.2.2.1, (wd_up_ne _ _ (Or.inl (by omega))).trans h.2.2.2.2⟩
theorem m_pushes_e {M : wd_I} : ∀ {l : List Int32} {M' : wd_I}, m_eqv M M' → m_eqv M (m_pushes M' l)
  | [], _, h => h
  | t :: l, M', h => by
    show m_eqv M (m_pushes (m_push M' t) l)
    exact m_pushes_e (m_eqv_w (m_eqv_r h (by decide)) (by decide))
theorem m_lk0_e {M : wd_I} {p : Int32} : m_eqv M (m_lk0 M p) := m_eqv_w (m_eqv_w m_eqv.rf (by decide)) (by decide)
theorem m_looks_e {M : wd_I} {t p : Int32} : m_eqv M (m_looks M t p) := m_pushes_e m_lk0_e
/-- the foci of a path in a thing -/
noncomputable def m_fs (M : wd_I) (p t : Int32) : List Int32 := m_fo M p.toInt.toNat 21 t 0
theorem m_fs_c {M M' : wd_I} (h : m_eqv M M') {p t : Int32} : m_fs M' p t = m_fs M p t := m_fo_c h.sa h.sp _ _ _
theorem m_pushes_at : ∀ {l : List Int32} {M : wd_I} {n j : Nat}, M 102 31 = ab_ii (n : Int) → n + l.length ≤ 200 → j < n + l.length → m_pushes M l 123 j = if j < n then M 123 j else l.getD (j - n) 0
  | [], M, n, j, hn, hl, hj => by
    rw [List.length_nil] at hj
    rw [if_pos (by omega)]
    rfl
  | t :: l, M, n, j, hn, hl, hj => by
    rw [List.length_cons] at hl hj
    show m_pushes (m_push M t) l 123 j = _
    have h2 : m_push M t 102 31 = ab_ii ((n + 1 : Nat) : Int) := by
      unfold m_push
      rw [wd_up_self, hn, ab_tI (by omega) (by omega)]
      rfl
    rw [m_pushes_at h2 (by omega) (by omega)]
    have h3 : m_push M t 123 j = if j = n then t else M 123 j := by
      unfold m_push
      rw [wd_up_ne _ _ (Or.inl (by decide)), hn, ab_tI (by omega) (by omega), Int.toNat_natCast]
      by_cases e : j = n
      · subst e; rw [wd_up_self, if_pos rfl]
      · rw [wd_up_ne _ _ (Or.inr e), if_neg e]
    by_cases h4 : j < n
    · rw [if_pos (by omega), if_pos h4, h3, if_neg (by omega)]
    · rw [if_neg h4]
      by_cases h5 : j = n
      · subst h5
        rw [if_pos (by omega), h3, if_pos rfl, Nat.sub_self]
        rfl
      · rw [if_neg (by omega), show j - n = (j - (n + 1)) + 1 by omega]
        rfl
theorem m_looks_fs {M : wd_I} {t p : Int32} : m_fo (m_lk0 M p) p.toInt.toNat 21 t 0 = m_fs M p t := m_fo_c m_lk0_e.sa m_lk0_e.sp _ _ _
theorem m_looks_n {M : wd_I} {t p : Int32} (hl : (m_fs M p t).length ≤ 200) : m_looks M t p 102 31 = ab_ii ((m_fs M p t).length : Int) := by
  unfold m_looks
  rw [m_looks_fs, m_pushes_n (M := m_lk0 M p) (n := 0) (wd_up_self _ _ _ _) (by omega), Nat.zero_add]
theorem m_looks_at {M : wd_I} {t p : Int32} (hl : (m_fs M p t).length ≤ 200) {j : Nat} (hj : j < (m_fs M p t).length) : m_looks M t p 123 j = (m_fs M p t).getD j 0 := by
  unfold m_looks
  rw [m_looks_fs, m_pushes_at (M := m_lk0 M p) (n := 0) (wd_up_self _ _ _ _) (by omega) (by omega), if_neg (Nat.not_lt_zero _), Nat.sub_zero]
/-- foci are things of the table -/
theorem m_fol_in {F : Int32 → List Int32} {M : wd_I} {n : Int} {p t i s : Nat} (hF : ∀ j, j < s → ∀ q ∈ F (M 108 (12 * t + j)), 0 ≤ q.toInt ∧ q.toInt < n) : ∀ m j, j + m = s → ∀ q ∈ m_fol F M p t i m j, 0 ≤ q.toInt ∧ q.toInt < n
  | 0, j, hj, q, hq => by cases hq
  | m + 1, j, hj, q, hq => by
    unfold m_fol at hq
    rcases List.mem_append.mp hq with hq | hq
    · split at hq
      · exact hF j (by omega) q hq
      · cases hq
    · exact m_fol_in hF m (j + 1) (by omega) q hq
theorem m_fo_in {M : wd_I} {n : Int} (h : m_cl M n) {p : Nat} : ∀ f (t : Int32) i, 0 ≤ t.toInt → t.toInt < n → ∀ q ∈ m_fo M p f t i, 0 ≤ q.toInt ∧ q.toInt < n
  | 0, t, i, h0, h1, q, hq => by cases hq
  | f + 1, t, i, h0, h1, q, hq => by
    obtain ⟨s, hs, b2, b3, b4, b5⟩ := h.2 t.toInt.toNat (by omega)
    unfold m_fo at hq
    split at hq
    · cases List.mem_singleton.mp hq
      exact ⟨h0, h1⟩
    · rcases List.mem_append.mp hq with hq | hq
      · split at hq
        · exact m_fo_in h f t (i + 1) h0 h1 q hq
        · cases hq
      · rw [hs, Int.toNat_natCast] at hq
        exact m_fol_in (s := s) (fun j hj q hq => m_fo_in h f _ _ (b5 j hj).1 (b5 j hj).2.1 q hq) s 0 (by omega) q hq
theorem m_getD_in {l : List Int32} {n : Int} (h : ∀ q ∈ l, 0 ≤ q.toInt ∧ q.toInt < n) {j : Nat} (hj : j < l.length) : 0 ≤ (l.getD j 0).toInt ∧ (l.getD j 0).toInt < n := by
  refine h _ ?_
  rw [List.getD_eq_getElem?_getD, List.getElem?_eq_getElem hj]
  exact List.getElem_mem hj
theorem m_fs_len {M : wd_I} {n : Int} (h : m_tb M n) {p t : Int32} (h0 : 0 ≤ t.toInt) (h1 : t.toInt < n) : (m_fs M p t).length ≤ 200 := by
  have := m_fo_len h (p := p.toInt.toNat) 21 t 0 h0 h1
  have h2 := (h.2 t.toInt.toNat (by omega)).2.1
  unfold m_fs
  omega
set_option maxHeartbeats 4000000 in
set_option maxRecDepth 100000 in
theorem x_looks {M : wd_I} {n : Int} (h : m_tb M n) {I : wd_I} {P : wd_P} {g : Nat → ab_C} {k z : Nat} {t p : Int32} (hp : m_ph M p) {d : Nat} (hd : 23 ≤ d) {Q : ab_Q} (h0 : 0 ≤ t.toInt) (h1 : t.toInt < n) (hQ : ∀ M', m_eqv M M' → M' 102 31 = ab_ii ((m_fs M p t).length : Int) → (∀ j, j < (m_fs M p t).length → M' 123 j = (m_fs M p t).getD j 0) → Q none (wd I P M' g, k, z)) : ab_CT d 165 [wd_v 102, .inl t, .inl p] (wd I P M g, k, z) Q := by
  have hl := m_fs_len h h0 h1 (p := p)
  exact x_looksFor (m_cl_c m_lk0_e.sa h.1) (m_ph_c m_lk0_e.sp hp) hd h0 h1 (by rw [m_looks_fs]; exact hl) (hQ _ m_looks_e (m_looks_n hl) (fun j hj => m_looks_at hl hj))
/-- what holds of the reference between two calls, so far as looking needs it -/
def m_lok (M : wd_I) : Prop := m_tb M (M 102 8).toInt ∧ (∀ j, j < 12 → 0 ≤ (M 110 j).toInt ∧ (M 110 j).toInt < (M 102 8).toInt) ∧ (∀ p : Int32, 0 ≤ p.toInt → p.toInt ≤ 7 → m_ph M p)
/-- focus k of a path in what a shelf holds, -1 where there is none -/
noncomputable def m_foc (M : wd_I) (s p n : Int32) : Int32 := @ite Int32 ((0 ≤ s.toInt ∧ s.toInt ≤ 11 ∧ 0 ≤ p.toInt ∧ p.toInt ≤ 7) ∧ 0 ≤ n.toInt ∧ n.toInt < ((m_fs M p (M 110 s.toInt.toNat)).length : Int)) (Classical.propDecidable _) ((m_fs M p (M 110 s.toInt.toNat)).getD n.toInt.toNat 0) (ab_ii (-1))
set_option maxHeartbeats 4000000 in
set_option maxRecDepth 100000 in
theorem x_focusOf {d : Nat} (hd : 24 ≤ d) {I : wd_I} {P : wd_P} {M : wd_I} {g : Nat → ab_C} {k z : Nat} {s p n : Int32} {Q : ab_Q} (hok : m_lok M) (hQ : ∀ M', m_eqv M M' → Q (some (.inl (m_foc M s p n))) (wd I P M' g, k, z)) : ab_CT d 178 [wd_v 102, .inl s, .inl p, .inl n] (wd I P M g, k, z) Q := by
  obtain ⟨o1, o2, o3⟩ := hok
  refine wd_inC rfl (by omega) rfl ?_
  unfold m_foc at hQ
  intro C9 X9 hC9 hX9
  repeat' ((conv => whnf); first
    | (refine hC9 134 _ _ _ (x_isShelf (by omega) (fun hc hc2 => ?_) (fun hc => ?_)))
    | (refine hC9 135 _ _ _ (x_isPath (by omega) (fun hc hc2 => ?_) (fun hc => ?_)))
    | (refine hC9 165 _ _ _ (x_looks o1 (o3 _ (by omega) (by omega)) (by omega) (o2 _ (by omega)).1 (o2 _ (by omega)).2 ?_))
    | (intro v9 hv9; (try simp (disch := omega) only [ab_tI, ab_c0, wd_ix12, wd_ix8, wd_ix10, wd_up_self, wd_up_eq, wd_up_ne, Int.toNat_natCast, Int.toNat_of_nonneg, not_true_eq_false, not_false_eq_true, Option.some.injEq] at hv9); subst hv9)
    | (apply i_get; (focus (exact rfl)); (focus (exact rfl)))
    | (refine hX9 _ _ _ _ (wd_rnC rfl ?_); clear hC9 hX9 X9 C9; intro C9 X9 hC9 hX9)
    | (apply w_ialM; (focus (exact rfl)); (focus (exact (by first | exact ⟨by decide, by decide⟩ | ((try simp (disch := omega) only [ab_tI, ab_c0, wd_ix12, wd_ix8, wd_ix10, wd_up_self, wd_up_eq, wd_up_ne, Int.toNat_natCast, Int.toNat_of_nonneg, not_true_eq_false, not_false_eq_true, Option.some.injEq, wd_l103, wd_l104, wd_l105, wd_l106, wd_l107, wd_l108, wd_l109, wd_l110, wd_l111, wd_l112, wd_l113, wd_l114, wd_l115, wd_l116, wd_l117, wd_l118, wd_l119, wd_l120, wd_l121, wd_l122, wd_l123, wd_l124]); omega)))); (intro v9 hv9; (try simp (disch := omega) only [ab_tI, ab_c0, wd_ix12, wd_ix8, wd_ix10, wd_up_self, wd_up_eq, wd_up_ne, Int.toNat_natCast, Int.toNat_of_nonneg, not_true_eq_false, not_false_eq_true, Option.some.injEq] at hv9); subst hv9))
    | (apply w_putM; (focus (exact rfl)); (focus (first | exact trivial | exact Or.inl rfl | exact Or.inr rfl)); (focus (exact rfl)))
    | (apply w_iasM; (focus (exact rfl)); (focus (exact (by first | exact ⟨by decide, by decide⟩ | ((try simp (disch := omega) only [ab_tI, ab_c0, wd_ix12, wd_ix8, wd_ix10, wd_up_self, wd_up_eq, wd_up_ne, Int.toNat_natCast, Int.toNat_of_nonneg, not_true_eq_false, not_false_eq_true, Option.some.injEq, wd_l103, wd_l104, wd_l105, wd_l106, wd_l107, wd_l108, wd_l109, wd_l110, wd_l111, wd_l112, wd_l113, wd_l114, wd_l115, wd_l116, wd_l117, wd_l118, wd_l119, wd_l120, wd_l121, wd_l122, wd_l123, wd_l124]); omega)))); (intro v9 hv9; (try simp (disch := omega) only [ab_tI, ab_c0, wd_ix12, wd_ix8, wd_ix10, wd_up_self, wd_up_eq, wd_up_ne, Int.toNat_natCast, Int.toNat_of_nonneg, not_true_eq_false, not_false_eq_true, Option.some.injEq] at hv9); subst hv9))
    | (refine i_brF (by decide) ?_)
    | (refine i_brT (by decide) ?_)
    | (refine ⟨fun hc => ?_, fun hc => ?_⟩ <;> (try simp (disch := omega) only [ab_tI, ab_c0, wd_ix12, wd_ix8, wd_ix10, wd_up_self, wd_up_eq, wd_up_ne, Int.toNat_natCast, Int.toNat_of_nonneg, not_true_eq_false, not_false_eq_true, Option.some.injEq] at hc) <;> first | (exfalso; omega) | skip)
    | (apply i_cv; (focus (exact rfl)))
    | (apply w_balM; (focus (exact (by first | exact ⟨by decide, by decide⟩ | ((try simp (disch := omega) only [ab_tI, ab_c0, wd_ix12, wd_ix8, wd_ix10, wd_up_self, wd_up_eq, wd_up_ne, Int.toNat_natCast, Int.toNat_of_nonneg, not_true_eq_false, not_false_eq_true, Option.some.injEq, wd_l103, wd_l104, wd_l105, wd_l106, wd_l107, wd_l108, wd_l109, wd_l110, wd_l111, wd_l112, wd_l113, wd_l114, wd_l115, wd_l116, wd_l117, wd_l118, wd_l119, wd_l120, wd_l121, wd_l122, wd_l123, wd_l124]); omega)))); (intro v9 hv9; (try simp (disch := omega) only [ab_tI, ab_c0, wd_ix12, wd_ix8, wd_ix10, wd_up_self, wd_up_eq, wd_up_ne, Int.toNat_natCast, Int.toNat_of_nonneg, not_true_eq_false, not_false_eq_true, Option.some.injEq] at hv9); subst hv9))
    | (apply w_basM; (focus (exact (by first | exact ⟨by decide, by decide⟩ | ((try simp (disch := omega) only [ab_tI, ab_c0, wd_ix12, wd_ix8, wd_ix10, wd_up_self, wd_up_eq, wd_up_ne, Int.toNat_natCast, Int.toNat_of_nonneg, not_true_eq_false, not_false_eq_true, Option.some.injEq, wd_l103, wd_l104, wd_l105, wd_l106, wd_l107, wd_l108, wd_l109, wd_l110, wd_l111, wd_l112, wd_l113, wd_l114, wd_l115, wd_l116, wd_l117, wd_l118, wd_l119, wd_l120, wd_l121, wd_l122, wd_l123, wd_l124]); omega)))); (focus (first | exact Or.inl rfl | exact Or.inr rfl)); (intro v9 hv9; (try simp (disch := omega) only [ab_tI, ab_c0, wd_ix12, wd_ix8, wd_ix10, wd_up_self, wd_up_eq, wd_up_ne, Int.toNat_natCast, Int.toNat_of_nonneg, not_true_eq_false, not_false_eq_true, Option.some.injEq] at hv9); subst hv9))
    | (refine And.intro trivial ?_)
    | (refine And.intro (Or.inl rfl) ?_)
    | (refine And.intro (Or.inr rfl) ?_)
    | (refine And.intro (by ((try simp (disch := omega) only [ab_tI, ab_c0, wd_ix12, wd_ix8, wd_ix10, wd_up_self, wd_up_eq, wd_up_ne, Int.toNat_natCast, Int.toNat_of_nonneg, not_true_eq_false, not_false_eq_true, Option.some.injEq]); omega)) ?_)
    | fail)
  all_goals try (rw [if_neg (by omega)] at hQ; exact hQ M m_eqv.rf)
  intro M1 hE1 hn1 hat1
  have hl := m_fs_len o1 (o2 s.toInt.toNat (by omega)).1 (o2 s.toInt.toNat (by omega)).2 (p := p)
  (have chk9 := @hn1; clear chk9); repeat' ((conv => whnf); first
    | (refine hC9 133 _ _ _ (x_in (by omega) (fun hc hc2 => ?_) (fun hc => ?_)) <;> (try simp (disch := omega) only [ab_tI, ab_c0, wd_ix12, wd_ix8, wd_ix10, wd_up_self, wd_up_eq, wd_up_ne, Int.toNat_natCast, Int.toNat_of_nonneg, not_true_eq_false, not_false_eq_true, Option.some.injEq] at hc) <;> (try simp (disch := omega) only [ab_tI, ab_c0, wd_ix12, wd_ix8, wd_ix10, wd_up_self, wd_up_eq, wd_up_ne, Int.toNat_natCast, Int.toNat_of_nonneg, not_true_eq_false, not_false_eq_true, Option.some.injEq] at hc2))
    | (intro v9 hv9; (try simp (disch := omega) only [ab_tI, ab_c0, wd_ix12, wd_ix8, wd_ix10, wd_up_self, wd_up_eq, wd_up_ne, Int.toNat_natCast, Int.toNat_of_nonneg, not_true_eq_false, not_false_eq_true, Option.some.injEq, hn1] at hv9); subst hv9)
    | (apply i_get; (focus (exact rfl)); (focus (exact rfl)))
    | (refine hX9 _ _ _ _ (wd_rnC rfl ?_); clear hC9 hX9 X9 C9; intro C9 X9 hC9 hX9)
    | (apply w_ialM; (focus (exact rfl)); (focus (exact (by first | exact ⟨by decide, by decide⟩ | ((try simp (disch := omega) only [ab_tI, ab_c0, wd_ix12, wd_ix8, wd_ix10, wd_up_self, wd_up_eq, wd_up_ne, Int.toNat_natCast, Int.toNat_of_nonneg, not_true_eq_false, not_false_eq_true, Option.some.injEq, hn1, wd_l103, wd_l104, wd_l105, wd_l106, wd_l107, wd_l108, wd_l109, wd_l110, wd_l111, wd_l112, wd_l113, wd_l114, wd_l115, wd_l116, wd_l117, wd_l118, wd_l119, wd_l120, wd_l121, wd_l122, wd_l123, wd_l124]); omega)))); (intro v9 hv9; (try simp (disch := omega) only [ab_tI, ab_c0, wd_ix12, wd_ix8, wd_ix10, wd_up_self, wd_up_eq, wd_up_ne, Int.toNat_natCast, Int.toNat_of_nonneg, not_true_eq_false, not_false_eq_true, Option.some.injEq, hn1] at hv9); subst hv9))
    | (apply w_putM; (focus (exact rfl)); (focus (first | exact trivial | exact Or.inl rfl | exact Or.inr rfl)); (focus (exact rfl)))
    | (apply w_iasM; (focus (exact rfl)); (focus (exact (by first | exact ⟨by decide, by decide⟩ | ((try simp (disch := omega) only [ab_tI, ab_c0, wd_ix12, wd_ix8, wd_ix10, wd_up_self, wd_up_eq, wd_up_ne, Int.toNat_natCast, Int.toNat_of_nonneg, not_true_eq_false, not_false_eq_true, Option.some.injEq, hn1, wd_l103, wd_l104, wd_l105, wd_l106, wd_l107, wd_l108, wd_l109, wd_l110, wd_l111, wd_l112, wd_l113, wd_l114, wd_l115, wd_l116, wd_l117, wd_l118, wd_l119, wd_l120, wd_l121, wd_l122, wd_l123, wd_l124]); omega)))); (intro v9 hv9; (try simp (disch := omega) only [ab_tI, ab_c0, wd_ix12, wd_ix8, wd_ix10, wd_up_self, wd_up_eq, wd_up_ne, Int.toNat_natCast, Int.toNat_of_nonneg, not_true_eq_false, not_false_eq_true, Option.some.injEq, hn1] at hv9); subst hv9))
    | (refine i_brF (by decide) ?_)
    | (refine i_brT (by decide) ?_)
    | (refine ⟨fun hc => ?_, fun hc => ?_⟩ <;> (try simp (disch := omega) only [ab_tI, ab_c0, wd_ix12, wd_ix8, wd_ix10, wd_up_self, wd_up_eq, wd_up_ne, Int.toNat_natCast, Int.toNat_of_nonneg, not_true_eq_false, not_false_eq_true, Option.some.injEq, hn1] at hc) <;> first | (exfalso; omega) | skip)
    | (apply i_cv; (focus (exact rfl)))
    | (apply w_balM; (focus (exact (by first | exact ⟨by decide, by decide⟩ | ((try simp (disch := omega) only [ab_tI, ab_c0, wd_ix12, wd_ix8, wd_ix10, wd_up_self, wd_up_eq, wd_up_ne, Int.toNat_natCast, Int.toNat_of_nonneg, not_true_eq_false, not_false_eq_true, Option.some.injEq, hn1, wd_l103, wd_l104, wd_l105, wd_l106, wd_l107, wd_l108, wd_l109, wd_l110, wd_l111, wd_l112, wd_l113, wd_l114, wd_l115, wd_l116, wd_l117, wd_l118, wd_l119, wd_l120, wd_l121, wd_l122, wd_l123, wd_l124]); omega)))); (intro v9 hv9; (try simp (disch := omega) only [ab_tI, ab_c0, wd_ix12, wd_ix8, wd_ix10, wd_up_self, wd_up_eq, wd_up_ne, Int.toNat_natCast, Int.toNat_of_nonneg, not_true_eq_false, not_false_eq_true, Option.some.injEq, hn1] at hv9); subst hv9))
    | (apply w_basM; (focus (exact (by first | exact ⟨by decide, by decide⟩ | ((try simp (disch := omega) only [ab_tI, ab_c0, wd_ix12, wd_ix8, wd_ix10, wd_up_self, wd_up_eq, wd_up_ne, Int.toNat_natCast, Int.toNat_of_nonneg, not_true_eq_false, not_false_eq_true, Option.some.injEq, hn1, wd_l103, wd_l104, wd_l105, wd_l106, wd_l107, wd_l108, wd_l109, wd_l110, wd_l111, wd_l112, wd_l113, wd_l114, wd_l115, wd_l116, wd_l117, wd_l118, wd_l119, wd_l120, wd_l121, wd_l122, wd_l123, wd_l124]); omega)))); (focus (first | exact Or.inl rfl | exact Or.inr rfl)); (intro v9 hv9; (try simp (disch := omega) only [ab_tI, ab_c0, wd_ix12, wd_ix8, wd_ix10, wd_up_self, wd_up_eq, wd_up_ne, Int.toNat_natCast, Int.toNat_of_nonneg, not_true_eq_false, not_false_eq_true, Option.some.injEq, hn1] at hv9); subst hv9))
    | (refine And.intro trivial ?_)
    | (refine And.intro (Or.inl rfl) ?_)
    | (refine And.intro (Or.inr rfl) ?_)
    | (refine And.intro (by ((try simp (disch := omega) only [ab_tI, ab_c0, wd_ix12, wd_ix8, wd_ix10, wd_up_self, wd_up_eq, wd_up_ne, Int.toNat_natCast, Int.toNat_of_nonneg, not_true_eq_false, not_false_eq_true, Option.some.injEq, hn1]); omega)) ?_)
    | fail)
  all_goals first
    | (rw [if_pos (by omega)] at hQ; rw [hat1 _ (by omega)]; exact hQ M1 hE1)
    | (rw [if_neg (by omega)] at hQ; exact hQ M1 hE1)
