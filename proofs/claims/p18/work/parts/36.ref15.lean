/-! ===== the reference: differ, join, back (own text) ===== -/
theorem m_like_c {M M' : wd_I} (h : m_same M M') {p q : Nat} : m_like M' p q ↔ m_like M p q := by
  unfold m_like
  rw [h 103 (by decide) (by decide), h 104 (by decide) (by decide), h 105 (by decide) (by decide), h 109 (by decide) (by decide)]
theorem m_dil_c {M M' : wd_I} (h : m_same M M') {F F' : Int32 → Int32 → Int32 → List Int32} (hF : ∀ x y z, F' x y z = F x y z) {p q : Nat} : ∀ n j a, m_dil F' M' p q n j a = m_dil F M p q n j a
  | 0, _, _ => rfl
  | n + 1, j, a => by
    unfold m_dil
    rw [m_dil_c h hF n, hF, h 106 (by decide) (by decide), h 108 (by decide) (by decide)]
theorem m_dif_c {M M' : wd_I} (h : m_same M M') : ∀ f p q a, m_dif M' f p q a = m_dif M f p q a
  | 0, _, _, _ => rfl
  | f + 1, p, q, a => by
    unfold m_dif
    rw [m_dil_c h (m_dif_c h f), m_cmp_c h, h 105 (by decide) (by decide), m_ite_c (m_like_c h)]
theorem m_dil_len {F : Int32 → Int32 → Int32 → List Int32} {M : wd_I} {p q s : Nat} (hF : ∀ j, j < s → ∀ a, ((F (M 108 (12 * p + j)) (M 108 (12 * q + j)) a).length : Int) ≤ (M 106 (M 108 (12 * p + j)).toInt.toNat).toInt) : ∀ n j a, j + n = s → ((m_dil F M p q n j a).length : Int) + m_nds M p j ≤ m_nds M p s
  | 0, j, a, hj => by
    have e : j = s := by omega
    subst e
    show ((0 : Nat) : Int) + _ ≤ _
    omega
  | n + 1, j, a, hj => by
    have ih := m_dil_len hF n (j + 1) (ab_ii (a.toInt + (M 106 (M 108 (12 * p + j)).toInt.toNat).toInt)) (by omega)
    have h1 := hF j (by omega) a
    have e2 : m_nds M p (j + 1) = m_nds M p j + (M 106 (M 108 (12 * p + j)).toInt.toNat).toInt := rfl
    rw [e2] at ih
    unfold m_dil
    rw [List.length_append]
    omega
theorem m_dif_len {M : wd_I} {n : Int} (h : m_tb M n) : ∀ f (p q a : Int32), 0 ≤ p.toInt → p.toInt < n → ((m_dif M f p q a).length : Int) ≤ (M 106 p.toInt.toNat).toInt
  | 0, p, q, a, h0, h1 => by
    have := (h.2 p.toInt.toNat (by omega)).1
    show ((0 : Nat) : Int) ≤ _
    omega
  | f + 1, p, q, a, h0, h1 => by
    obtain ⟨a1, a2, a3, a4⟩ := h.2 p.toInt.toNat (by omega)
    obtain ⟨s, hs, b2, b3, b4, b5⟩ := h.1.2 p.toInt.toNat (by omega)
    rw [hs, Int.toNat_natCast] at a3
    have hl := m_dil_len (F := m_dif M f) (M := M) (p := p.toInt.toNat) (q := q.toInt.toNat) (s := s) (fun j hj a => m_dif_len h f _ _ a (b5 j hj).1 (b5 j hj).2.1) s 0 (ab_ii (a.toInt + 1)) (by omega)
    have e1 : m_nds M p.toInt.toNat 0 = 1 := rfl
    unfold m_dif
    rw [hs, Int.toNat_natCast]
    split
    · show ((0 : Nat) : Int) ≤ _
      omega
    · split
      · omega
      · show ((1 : Nat) : Int) ≤ _
        omega
theorem m_dputs_n : ∀ {l : List Int32} {M : wd_I} {n : Nat}, M 102 38 = ab_ii (n : Int) → n + l.length ≤ 1000 → m_dputs M l 102 38 = ab_ii ((n + l.length : Nat) : Int)
  | [], M, n, h, _ => h
  | t :: l, M, n, h, hl => by
    show m_dputs (m_dput M t) l 102 38 = _
    rw [List.length_cons] at hl ⊢
    have h2 : m_dput M t 102 38 = ab_ii ((n + 1 : Nat) : Int) := by
      unfold m_dput
      rw [wd_up_self, h, ab_tI (by omega) (by omega)]
      rfl
    rw [m_dputs_n h2 (by omega)]
    congr 2
    omega
theorem m_dputs_39 : ∀ {l : List Int32} {M : wd_I}, m_dputs M l 102 39 = M 102 39
  | [], _ => rfl
  | t :: l, M => by
    show m_dputs (m_dput M t) l 102 39 = _
    rw [m_dputs_39]
    unfold m_dput
    rw [wd_up_ne _ _ (Or.inr (by decide)), wd_up_ne _ _ (Or.inr (by decide))]
theorem m_dputs_at : ∀ {l : List Int32} {M : wd_I} {n : Nat}, M 102 38 = ab_ii (n : Int) → n + l.length ≤ 1000 → m_dputs M l 102 40 = if (n : Int) ≤ (M 102 39).toInt ∧ (M 102 39).toInt < (n : Int) + (l.length : Int) then l.getD ((M 102 39).toInt.toNat - n) 0 else M 102 40
  | [], M, n, h, _ => by
    rw [if_neg (by rw [List.length_nil]; omega)]
    rfl
  | t :: l, M, n, h, hl => by
    show m_dputs (m_dput M t) l 102 40 = _
    rw [List.length_cons] at hl ⊢
    have h2 : m_dput M t 102 38 = ab_ii ((n + 1 : Nat) : Int) := by
      unfold m_dput
      rw [wd_up_self, h, ab_tI (by omega) (by omega)]
      rfl
    have h39 : m_dput M t 102 39 = M 102 39 := m_dputs_39 (l := [t])
    have h40 : m_dput M t 102 40 = if (n : Int) = (M 102 39).toInt then t else M 102 40 := by
      unfold m_dput
      rw [wd_up_ne _ _ (Or.inr (by decide)), wd_up_self, h, ab_tI (by omega) (by omega)]
    rw [m_dputs_at h2 (by omega), h39, h40]
    by_cases e : (n : Int) = (M 102 39).toInt
    · rw [if_neg (by omega), if_pos e, if_pos (by omega), show (M 102 39).toInt.toNat - n = 0 by omega]
      rfl
    · rw [if_neg e]
      by_cases e2 : (n : Int) ≤ (M 102 39).toInt ∧ (M 102 39).toInt < (n : Int) + ((l.length + 1 : Nat) : Int)
      · rw [if_pos e2, if_pos (by omega), show (M 102 39).toInt.toNat - n = ((M 102 39).toInt.toNat - (n + 1)) + 1 by omega]
        rfl
      · rw [if_neg e2, if_neg (by omega)]
noncomputable def m_dl (M : wd_I) (p q : Int32) : List Int32 := m_dif M 13 p q (ab_ii 0)
noncomputable def m_dans (l : List Int32) (k : Int) : Int32 := if k = -1 then ab_ii (l.length : Int) else if k < -1 then ab_ii (-1) else if k < (l.length : Int) then l.getD k.toNat 0 else ab_ii (-1)
set_option maxHeartbeats 4000000 in
set_option maxRecDepth 100000 in
theorem x_differ {d : Nat} (hd : 28 ≤ d) {I : wd_I} {P : wd_P} {M : wd_I} {g : Nat → ab_C} {k z : Nat} {a b w : Int32} {Q : ab_Q} (hok : m_lok M) (hb : ¬ (0 ≤ a.toInt ∧ a.toInt ≤ 11 ∧ 0 ≤ b.toInt ∧ b.toInt ≤ 11) → Q (some (.inl (ab_ii (-2)))) (wd I P M g, k, z)) (hQ : (0 ≤ a.toInt ∧ a.toInt ≤ 11 ∧ 0 ≤ b.toInt ∧ b.toInt ≤ 11) → ∀ M', m_eqv M M' → Q (some (.inl (m_dans (m_dl M (M 110 a.toInt.toNat) (M 110 b.toInt.toNat)) w.toInt))) (wd I P M' g, k, z)) : ab_CT d 192 [wd_v 102, .inl a, .inl b, .inl w] (wd I P M g, k, z) Q := by
  obtain ⟨o1, o2, o3⟩ := id hok
  by_cases hg : 0 ≤ a.toInt ∧ a.toInt ≤ 11 ∧ 0 ≤ b.toInt ∧ b.toInt ≤ 11
  · have h1 := o2 a.toInt.toNat (by omega)
    have h2 := o2 b.toInt.toNat (by omega)
    generalize hN : wd_up (wd_up (wd_up M 102 38 (ab_ii 0)) 102 39 w) 102 40 (ab_ii (-1)) = N
    have hEN : m_eqv M N := by
      rw [← hN]
      exact m_eqv_w (m_eqv_w (m_eqv_w m_eqv.rf (by decide)) (by decide)) (by decide)
    have n38 : N 102 38 = ab_ii ((0 : Nat) : Int) := by rw [← hN, wd_up_ne _ _ (Or.inr (by decide)), wd_up_ne _ _ (Or.inr (by decide)), wd_up_self]; rfl
    have n39 : N 102 39 = w := by rw [← hN, wd_up_ne _ _ (Or.inr (by decide)), wd_up_self]
    have n40 : N 102 40 = ab_ii (-1) := by rw [← hN, wd_up_self]
    have e110 := hEN.1 110 (by decide) (by decide)
    have hlen := m_dif_len o1 13 (M 110 a.toInt.toNat) (M 110 b.toInt.toNat) (ab_ii 0) h1.1 h1.2
    have hl200 := (o1.2 (M 110 a.toInt.toNat).toInt.toNat (by omega)).2.1
    have hE : ∀ l : List Int32, m_eqv M (m_dputs N l) := fun l => by
      have : ∀ (l : List Int32) (N' : wd_I), m_eqv M N' → m_eqv M (m_dputs N' l) := by
        intro l
        induction l with
        | nil => intro N' h; exact h
        | cons x l ih => intro N' h; exact ih _ (m_eqv_w (m_eqv_w h (by decide)) (by decide))
      exact this l N hEN
    have hQ1 := hQ hg _ (hE (m_dl M (M 110 a.toInt.toNat) (M 110 b.toInt.toNat)))
    generalize hL : m_dl M (M 110 a.toInt.toNat) (M 110 b.toInt.toNat) = L at hQ1
    have hLl : L.length ≤ 200 := by rw [← hL]; unfold m_dl; omega
    have r38 : m_dputs N L 102 38 = ab_ii (L.length : Int) := by rw [m_dputs_n n38 (by omega), Nat.zero_add]
    have r40 : m_dputs N L 102 40 = if 0 ≤ w.toInt ∧ w.toInt < (L.length : Int) then L.getD w.toInt.toNat 0 else ab_ii (-1) := by
      rw [m_dputs_at n38 (by omega), n39, n40]
      congr 1
      · apply propext
        constructor <;> (intro; omega)
    have hD := fun Q hQ => x_differsIn (T := N) (n := (M 102 8).toInt) (m_cl_c hEN.sa o1.1) (I := I) (P := P) (g := g) (k := k) (z := z) 13 (d - 1) (by omega) N (M 110 a.toInt.toNat) (M 110 b.toInt.toNat) (ab_ii 0) Q (fun _ _ => rfl) h1.1 h1.2 h2.1 h2.2 (m_ht13 (m_cl_c hEN.sa o1.1) h1.1 h1.2) hQ
    rw [m_dif_c hEN.sa, show m_dif M 13 (M 110 a.toInt.toNat) (M 110 b.toInt.toNat) (ab_ii 0) = L from hL] at hD
    unfold m_dans at hQ1
    refine wd_inC rfl (by omega) rfl ?_
    intro C9 X9 hC9 hX9
    repeat' ((conv => whnf); first
    | (refine hC9 134 _ _ _ (x_isShelf (by omega) (fun hc hc2 => ?_) (fun hc => ?_)))
    | (rw [hN]; refine hC9 191 _ _ _ (hD _ ?_))
    | (intro v9 hv9; (try simp (disch := omega) only [ab_tI, ab_c0, wd_ix12, wd_ix8, wd_ix10, wd_up_self, wd_up_eq, wd_up_ne, Int.toNat_natCast, Int.toNat_of_nonneg, not_true_eq_false, not_false_eq_true, Option.some.injEq, r38, r40] at hv9); subst hv9)
    | (apply i_get; (focus (exact rfl)); (focus (exact rfl)))
    | (refine hX9 _ _ _ _ (wd_rnC rfl ?_); clear hC9 hX9 X9 C9; intro C9 X9 hC9 hX9)
    | (apply w_ialM; (focus (exact rfl)); (focus (exact (by first | exact ⟨by decide, by decide⟩ | ((try simp (disch := omega) only [ab_tI, ab_c0, wd_ix12, wd_ix8, wd_ix10, wd_up_self, wd_up_eq, wd_up_ne, Int.toNat_natCast, Int.toNat_of_nonneg, not_true_eq_false, not_false_eq_true, Option.some.injEq, r38, r40, wd_l103, wd_l104, wd_l105, wd_l106, wd_l107, wd_l108, wd_l109, wd_l110, wd_l111, wd_l112, wd_l113, wd_l114, wd_l115, wd_l116, wd_l117, wd_l118, wd_l119, wd_l120, wd_l121, wd_l122, wd_l123, wd_l124]); omega)))); (intro v9 hv9; (try simp (disch := omega) only [ab_tI, ab_c0, wd_ix12, wd_ix8, wd_ix10, wd_up_self, wd_up_eq, wd_up_ne, Int.toNat_natCast, Int.toNat_of_nonneg, not_true_eq_false, not_false_eq_true, Option.some.injEq, r38, r40] at hv9); subst hv9))
    | (apply w_putM; (focus (exact rfl)); (focus (first | exact trivial | exact Or.inl rfl | exact Or.inr rfl)); (focus (exact rfl)))
    | (apply w_iasM; (focus (exact rfl)); (focus (exact (by first | exact ⟨by decide, by decide⟩ | ((try simp (disch := omega) only [ab_tI, ab_c0, wd_ix12, wd_ix8, wd_ix10, wd_up_self, wd_up_eq, wd_up_ne, Int.toNat_natCast, Int.toNat_of_nonneg, not_true_eq_false, not_false_eq_true, Option.some.injEq, r38, r40, wd_l103, wd_l104, wd_l105, wd_l106, wd_l107, wd_l108, wd_l109, wd_l110, wd_l111, wd_l112, wd_l113, wd_l114, wd_l115, wd_l116, wd_l117, wd_l118, wd_l119, wd_l120, wd_l121, wd_l122, wd_l123, wd_l124]); omega)))); (intro v9 hv9; (try simp (disch := omega) only [ab_tI, ab_c0, wd_ix12, wd_ix8, wd_ix10, wd_up_self, wd_up_eq, wd_up_ne, Int.toNat_natCast, Int.toNat_of_nonneg, not_true_eq_false, not_false_eq_true, Option.some.injEq, r38, r40] at hv9); subst hv9))
    | (refine i_brF (by decide) ?_)
    | (refine i_brT (by decide) ?_)
    | (refine ⟨fun hc => ?_, fun hc => ?_⟩ <;> (try simp (disch := omega) only [ab_tI, ab_c0, wd_ix12, wd_ix8, wd_ix10, wd_up_self, wd_up_eq, wd_up_ne, Int.toNat_natCast, Int.toNat_of_nonneg, not_true_eq_false, not_false_eq_true, Option.some.injEq, r38, r40] at hc) <;> first | (exfalso; omega) | skip)
    | (apply i_cv; (focus (exact rfl)))
    | (apply w_balM; (focus (exact (by first | exact ⟨by decide, by decide⟩ | ((try simp (disch := omega) only [ab_tI, ab_c0, wd_ix12, wd_ix8, wd_ix10, wd_up_self, wd_up_eq, wd_up_ne, Int.toNat_natCast, Int.toNat_of_nonneg, not_true_eq_false, not_false_eq_true, Option.some.injEq, r38, r40, wd_l103, wd_l104, wd_l105, wd_l106, wd_l107, wd_l108, wd_l109, wd_l110, wd_l111, wd_l112, wd_l113, wd_l114, wd_l115, wd_l116, wd_l117, wd_l118, wd_l119, wd_l120, wd_l121, wd_l122, wd_l123, wd_l124]); omega)))); (intro v9 hv9; (try simp (disch := omega) only [ab_tI, ab_c0, wd_ix12, wd_ix8, wd_ix10, wd_up_self, wd_up_eq, wd_up_ne, Int.toNat_natCast, Int.toNat_of_nonneg, not_true_eq_false, not_false_eq_true, Option.some.injEq, r38, r40] at hv9); subst hv9))
    | (apply w_basM; (focus (exact (by first | exact ⟨by decide, by decide⟩ | ((try simp (disch := omega) only [ab_tI, ab_c0, wd_ix12, wd_ix8, wd_ix10, wd_up_self, wd_up_eq, wd_up_ne, Int.toNat_natCast, Int.toNat_of_nonneg, not_true_eq_false, not_false_eq_true, Option.some.injEq, r38, r40, wd_l103, wd_l104, wd_l105, wd_l106, wd_l107, wd_l108, wd_l109, wd_l110, wd_l111, wd_l112, wd_l113, wd_l114, wd_l115, wd_l116, wd_l117, wd_l118, wd_l119, wd_l120, wd_l121, wd_l122, wd_l123, wd_l124]); omega)))); (focus (first | exact Or.inl rfl | exact Or.inr rfl)); (intro v9 hv9; (try simp (disch := omega) only [ab_tI, ab_c0, wd_ix12, wd_ix8, wd_ix10, wd_up_self, wd_up_eq, wd_up_ne, Int.toNat_natCast, Int.toNat_of_nonneg, not_true_eq_false, not_false_eq_true, Option.some.injEq, r38, r40] at hv9); subst hv9))
    | (refine And.intro trivial ?_)
    | (refine And.intro (Or.inl rfl) ?_)
    | (refine And.intro (Or.inr rfl) ?_)
    | (refine And.intro (by ((try simp (disch := omega) only [ab_tI, ab_c0, wd_ix12, wd_ix8, wd_ix10, wd_up_self, wd_up_eq, wd_up_ne, Int.toNat_natCast, Int.toNat_of_nonneg, not_true_eq_false, not_false_eq_true, Option.some.injEq, r38, r40]); omega)) ?_)
    | fail)
    all_goals first | (exfalso; omega) | skip
    all_goals (repeat' (split at hQ1)) <;> first | exact hQ1 | (exfalso; omega) | (rw [r40, if_pos (by omega)]; exact hQ1) | (rw [r40, if_neg (by omega)]; exact hQ1) | (rw [r38]; exact hQ1)
  · refine wd_inC rfl (by omega) rfl ?_
    intro C9 X9 hC9 hX9
    repeat' ((conv => whnf); first
    | (refine hC9 134 _ _ _ (x_isShelf (by omega) (fun hc hc2 => ?_) (fun hc => ?_)))
    | (refine hC9 191 _ _ _ ?_; exfalso; omega)
    | (intro v9 hv9; (try simp (disch := omega) only [ab_tI, ab_c0, wd_ix12, wd_ix8, wd_ix10, wd_up_self, wd_up_eq, wd_up_ne, Int.toNat_natCast, Int.toNat_of_nonneg, not_true_eq_false, not_false_eq_true, Option.some.injEq] at hv9); subst hv9)
    | (apply i_get; (focus (exact rfl)); (focus (exact rfl)))
    | (refine hX9 _ _ _ _ (wd_rnC rfl ?_); clear hC9 hX9 X9 C9; intro C9 X9 hC9 hX9)
    | (apply w_ialM; (focus (exact rfl)); (focus (exact (by first | exact ⟨by decide, by decide⟩ | ((try simp (disch := omega) only [ab_tI, ab_c0, wd_ix12, wd_ix8, wd_ix10, wd_up_self, wd_up_eq, wd_up_ne, Int.toNat_natCast, Int.toNat_of_nonneg, not_true_eq_false, not_false_eq_true, Option.some.injEq, wd_l103, wd_l104, wd_l105, wd_l106, wd_l107, wd_l108, wd_l109, wd_l110, wd_l111, wd_l112, wd_l113, wd_l114, wd_l115, wd_l116, wd_l117, wd_l118, wd_l119, wd_l120, wd_l121, wd_l122, wd_l123, wd_l124]); omega)))); (intro v9 hv9; (try simp (disch := omega) only [ab_tI, ab_c0, wd_ix12, wd_ix8, wd_ix10, wd_up_self, wd_up_eq, wd_up_ne, Int.toNat_natCast, Int.toNat_of_nonneg, not_true_eq_false, not_false_eq_true, Option.some.injEq] at hv9); subst hv9))
    | (apply w_putM; (focus (exact rfl)); (focus (first | exact trivial | exact Or.inl rfl | exact Or.inr rfl)); (focus (exact rfl)))
    | (apply w_iasM; (focus (exact rfl)); (focus (exact (by first | exact ⟨by decide, by decide⟩ | ((try simp (disch := omega) only [ab_tI, ab_c0, wd_ix12, wd_ix8, wd_ix10, wd_up_self, wd_up_eq, wd_up_ne, Int.toNat_natCast, Int.toNat_of_nonneg, not_true_eq_false, not_false_eq_true, Option.some.injEq, wd_l103, wd_l104, wd_l105, wd_l106, wd_l107, wd_l108, wd_l109, wd_l110, wd_l111, wd_l112, wd_l113, wd_l114, wd_l115, wd_l116, wd_l117, wd_l118, wd_l119, wd_l120, wd_l121, wd_l122, wd_l123, wd_l124]); omega)))); (intro v9 hv9; (try simp (disch := omega) only [ab_tI, ab_c0, wd_ix12, wd_ix8, wd_ix10, wd_up_self, wd_up_eq, wd_up_ne, Int.toNat_natCast, Int.toNat_of_nonneg, not_true_eq_false, not_false_eq_true, Option.some.injEq] at hv9); subst hv9))
    | (refine i_brF (by decide) ?_)
    | (refine i_brT (by decide) ?_)
    | (refine ⟨fun hc => ?_, fun hc => ?_⟩ <;> (try simp (disch := omega) only [ab_tI, ab_c0, wd_ix12, wd_ix8, wd_ix10, wd_up_self, wd_up_eq, wd_up_ne, Int.toNat_natCast, Int.toNat_of_nonneg, not_true_eq_false, not_false_eq_true, Option.some.injEq] at hc) <;> first | (exfalso; omega) | skip)
    | (apply i_cv; (focus (exact rfl)))
    | (apply w_balM; (focus (exact (by first | exact ⟨by decide, by decide⟩ | ((try simp (disch := omega) only [ab_tI, ab_c0, wd_ix12, wd_ix8, wd_ix10, wd_up_self, wd_up_eq, wd_up_ne, Int.toNat_natCast, Int.toNat_of_nonneg, not_true_eq_false, not_false_eq_true, Option.some.injEq, wd_l103, wd_l104, wd_l105, wd_l106, wd_l107, wd_l108, wd_l109, wd_l110, wd_l111, wd_l112, wd_l113, wd_l114, wd_l115, wd_l116, wd_l117, wd_l118, wd_l119, wd_l120, wd_l121, wd_l122, wd_l123, wd_l124]); omega)))); (intro v9 hv9; (try simp (disch := omega) only [ab_tI, ab_c0, wd_ix12, wd_ix8, wd_ix10, wd_up_self, wd_up_eq, wd_up_ne, Int.toNat_natCast, Int.toNat_of_nonneg, not_true_eq_false, not_false_eq_true, Option.some.injEq] at hv9); subst hv9))
    | (apply w_basM; (focus (exact (by first | exact ⟨by decide, by decide⟩ | ((try simp (disch := omega) only [ab_tI, ab_c0, wd_ix12, wd_ix8, wd_ix10, wd_up_self, wd_up_eq, wd_up_ne, Int.toNat_natCast, Int.toNat_of_nonneg, not_true_eq_false, not_false_eq_true, Option.some.injEq, wd_l103, wd_l104, wd_l105, wd_l106, wd_l107, wd_l108, wd_l109, wd_l110, wd_l111, wd_l112, wd_l113, wd_l114, wd_l115, wd_l116, wd_l117, wd_l118, wd_l119, wd_l120, wd_l121, wd_l122, wd_l123, wd_l124]); omega)))); (focus (first | exact Or.inl rfl | exact Or.inr rfl)); (intro v9 hv9; (try simp (disch := omega) only [ab_tI, ab_c0, wd_ix12, wd_ix8, wd_ix10, wd_up_self, wd_up_eq, wd_up_ne, Int.toNat_natCast, Int.toNat_of_nonneg, not_true_eq_false, not_false_eq_true, Option.some.injEq] at hv9); subst hv9))
    | (refine And.intro trivial ?_)
    | (refine And.intro (Or.inl rfl) ?_)
    | (refine And.intro (Or.inr rfl) ?_)
    | (refine And.intro (by ((try simp (disch := omega) only [ab_tI, ab_c0, wd_ix12, wd_ix8, wd_ix10, wd_up_self, wd_up_eq, wd_up_ne, Int.toNat_natCast, Int.toNat_of_nonneg, not_true_eq_false, not_false_eq_true, Option.some.injEq]); omega)) ?_)
    | fail)
    all_goals first | exact hb hg | (exfalso; omega)
