/-! ===== the reference: reading, what it does (own text) ===== -/
theorem m_psh_8 {t : Nat} : ∀ (r q : Nat) (N : wd_I), r ≤ q → ∀ i, m_psh t r q N 108 i = if 12 * t + (q - r) < i ∧ i ≤ 12 * t + q then N 108 (i - 1) else N 108 i
  | 0, q, N, _, i => by rw [if_neg (by omega)]; rfl
  | r + 1, 0, N, h, i => by omega
  | r + 1, q + 1, N, h, i => by
    unfold m_psh
    rw [m_psh_8 r (q + 1 - 1) _ (by omega) i]
    simp only [Nat.add_sub_cancel]
    rw [wd_up_row _ _ _ (by decide)]
    by_cases e : i = 12 * t + (q + 1)
    · subst e
      rw [if_neg (by omega), wd_up_self, if_pos (by omega)]
      exact congrArg _ (by omega)
    · rw [wd_up_ne _ _ (Or.inr e)]
      by_cases h2 : 12 * t + (q - r) < i ∧ i ≤ 12 * t + q
      · rw [if_pos h2, if_pos (by omega), wd_up_ne _ _ (Or.inr (by omega))]
      · rw [if_neg h2, if_neg (by omega)]
theorem m_psh_9 {t : Nat} : ∀ (r q : Nat) (N : wd_I), r ≤ q → ∀ i, m_psh t r q N 109 i = if 12 * t + (q - r) < i ∧ i ≤ 12 * t + q then N 109 (i - 1) else N 109 i
  | 0, q, N, _, i => by rw [if_neg (by omega)]; rfl
  | r + 1, 0, N, h, i => by omega
  | r + 1, q + 1, N, h, i => by
    unfold m_psh
    rw [m_psh_9 r (q + 1 - 1) _ (by omega) i]
    simp only [Nat.add_sub_cancel]
    by_cases e : i = 12 * t + (q + 1)
    · subst e
      rw [if_neg (by omega), wd_up_self, if_pos (by omega)]
      exact congrArg _ (by omega)
    · by_cases h2 : 12 * t + (q - r) < i ∧ i ≤ 12 * t + q
      · rw [if_pos h2, if_pos (by omega), wd_up_ne _ _ (Or.inr (by omega)), wd_up_row _ _ _ (by decide)]
      · rw [if_neg h2, if_neg (by omega), wd_up_ne _ _ (Or.inr e), wd_up_row _ _ _ (by decide)]
/-- nothing but rows from n on and four numbers of the reading are written -/
def m_frt (n : Int) (M M' : wd_I) : Prop := m_sb n M M' ∧ (∀ a, 110 ≤ a → M' a = M a) ∧ (∀ j, j ≠ 8 → j ≠ 23 → j ≠ 24 → j ≠ 25 → M' 102 j = M 102 j)
theorem m_frt.rf {n : Int} {M : wd_I} : m_frt n M M := ⟨m_sb.rf, fun _ _ => rfl, fun _ _ _ _ _ => rfl⟩
theorem m_frt.tr {n n' : Int} {M M' M'' : wd_I} (h : m_frt n M M') (h' : m_frt n' M' M'') (hn : n ≤ n') : m_frt n M M'' :=
  ⟨h.1.tr h'.1 hn, fun a ha => (h'.2.1 a ha).trans (h.2.1 a ha), fun j h1 h2 h3 h4 => (h'.2.2 j h1 h2 h3 h4).trans (h.2.2 j h1 h2 h3 h4)⟩
def m_wrt (n : Int) (a j : Nat) : Prop := (103 ≤ a ∧ a ≤ 107 ∧ n ≤ (j : Int)) ∨ ((a = 108 ∨ a = 109) ∧ 12 * n ≤ (j : Int)) ∨ (a = 102 ∧ (j = 8 ∨ j = 23 ∨ j = 24 ∨ j = 25))
theorem m_frt_up {n : Int} {M N : wd_I} {a j : Nat} {x : Int32} (h : m_frt n M N) (hw : m_wrt n a j) : m_frt n M (wd_up N a j x) := by
  unfold m_wrt at hw
  refine ⟨⟨fun t ht => ?_, fun i hi => ?_⟩, fun b hb => ?_, fun i h1 h2 h3 h4 => ?_⟩
  · rw [wd_up_ne _ _ (by omega), wd_up_ne _ _ (by omega), wd_up_ne _ _ (by omega), wd_up_ne _ _ (by omega), wd_up_ne _ _ (by omega)]
    exact h.1.1 t ht
  · rw [wd_up_ne _ _ (by omega), wd_up_ne _ _ (by omega)]
    exact h.1.2 i hi
  · rw [wd_up_row _ _ _ (by omega)]
    exact h.2.1 b hb
  · rw [wd_up_ne _ _ (by omega)]
    exact h.2.2 i h1 h2 h3 h4
/-- what the scanning leaves: two numbers are written, and it goes on or fails -/
def m_pt (M : wd_I) : Int := (if (M 102 24).toInt = -1 then 1 else 0) - (M 102 23).toInt
def m_sc (M N : wd_I) : Prop := (∀ a, a ≠ 102 → N a = M a) ∧ (∀ j, j ≠ 23 → j ≠ 24 → N 102 j = M 102 j) ∧ m_tp N ∧ m_pt N ≤ m_pt M
theorem m_sc.rf {M : wd_I} (h : m_tp M) : m_sc M M := ⟨fun _ _ => rfl, fun _ _ _ => rfl, h, Int.le_refl _⟩
theorem m_sc.tr {M M' M'' : wd_I} (h : m_sc M M') (h' : m_sc M' M'') : m_sc M M'' := ⟨fun a ha => (h'.1 a ha).trans (h.1 a ha), fun j h1 h2 => (h'.2.1 j h1 h2).trans (h.2.1 j h1 h2), h'.2.2.1, Int.le_trans h'.2.2.2 h.2.2.2⟩
theorem m_stp_sc {M : wd_I} (h : m_tp M) (h2 : (M 102 23).toInt < (M 102 22).toInt) : m_sc M (m_stp M) ∧ m_pt (m_stp M) + 1 = m_pt M := by
  have ht := m_stp_tp h h2
  obtain ⟨t1, t2, t3⟩ := h
  have e : m_pt (m_stp M) + 1 = m_pt M := by
    unfold m_pt m_stp
    rw [wd_up_self, wd_up_ne _ _ (Or.inr (by decide)), ab_tI (by omega) (by omega)]
    omega
  refine ⟨⟨fun a ha => wd_up_row _ _ _ ha, fun j h1 _ => wd_up_ne _ _ (Or.inr h1), ht, by omega⟩, e⟩
theorem m_fails_sc {M : wd_I} {p : Int32} (h : m_tp M) (hp : 0 ≤ p.toInt) : m_sc M (m_fails M p) ∧ ((M 102 24).toInt = -1 → m_pt (m_fails M p) + 1 = m_pt M) := by
  have ht := m_fails_tp h (p := p)
  have e : m_pt (m_fails M p) ≤ m_pt M ∧ ((M 102 24).toInt = -1 → m_pt (m_fails M p) + 1 = m_pt M) := by
    unfold m_pt m_fails
    rw [wd_up_self, wd_up_ne _ _ (Or.inr (by decide))]
    by_cases hf : (M 102 24).toInt = -1
    · rw [if_pos hf, if_pos hf, if_neg (by omega)]
      omega
    · rw [if_neg hf, if_neg hf]
      omega
  exact ⟨⟨fun a ha => wd_up_row _ _ _ ha, fun j _ h1 => wd_up_ne _ _ (Or.inr h1), ht, e.1⟩, e.2⟩
theorem m_one_sc {M : wd_I} {lo hi : Int32} (h : m_tp M) (hlo : 0 ≤ lo.toInt) : m_sc M (m_one M lo hi).1 ∧ ((M 102 24).toInt = -1 → m_pt (m_one M lo hi).1 + 1 = m_pt M) := by
  unfold m_one
  split
  next hc =>
    have := m_stp_sc h (m_here_lt (by omega)).1
    exact ⟨this.1, fun _ => this.2⟩
  next => exact m_fails_sc h h.1
theorem m_dgl_sc : ∀ (r : Nat) {M : wd_I} {n : Int32}, m_tp M → m_sc M (m_dgl r M n).1
  | 0, M, n, h => m_sc.rf h
  | r + 1, M, n, h => by
    unfold m_dgl
    split
    next hc =>
      have h1 := m_stp_sc h (m_here_lt (by omega)).1
      exact h1.1.tr (m_dgl_sc r h1.1.2.2.1)
    next => exact m_sc.rf h
theorem m_digits_sc {M : wd_I} {most : Nat} (h : m_tp M) : m_sc M (m_digits M most).1 ∧ ((M 102 24).toInt = -1 → m_pt (m_digits M most).1 + 1 ≤ m_pt M) := by
  have h1 := m_one_sc (lo := ab_ii 48) (hi := ab_ii 57) h (by decide)
  have h2 := m_dgl_sc (most - 1) (n := (ab_ii ((m_one M (ab_ii 48) (ab_ii 57)).2.toInt - 48))) h1.1.2.2.1
  exact ⟨h1.1.tr h2, fun hf => by have := h1.2 hf; have := h2.2.2.2; show m_pt (m_dgl _ _ _).1 + 1 ≤ _; omega⟩
theorem m_signed_sc {M : wd_I} (h : m_tp M) : m_sc M (m_signed M).1 ∧ ((M 102 24).toInt = -1 → m_pt (m_signed M).1 + 1 ≤ m_pt M) := by
  unfold m_signed
  split
  next hc =>
    have h1 := m_stp_sc h (m_here_lt (by omega)).1
    have h2 := m_digits_sc (most := 6) h1.1.2.2.1
    exact ⟨h1.1.tr h2.1, fun hf => by have := h2.1.2.2.2; have := h1.2; show m_pt (m_digits _ _).1 + 1 ≤ _; omega⟩
  next => exact m_digits_sc h
theorem m_ltl_sc : ∀ (r : Nat) {M : wd_I} {n : Int32}, m_tp M → m_sc M (m_ltl r M n).1
  | 0, M, n, h => m_sc.rf h
  | r + 1, M, n, h => by
    unfold m_ltl
    split
    next hc =>
      have h1 := m_stp_sc h (m_here_lt (by omega)).1
      exact h1.1.tr (m_ltl_sc r h1.1.2.2.1)
    next => exact m_sc.rf h
theorem m_letters_sc {M : wd_I} (h : m_tp M) : m_sc M (m_letters M).1 := by
  have h1 := m_one_sc (lo := ab_ii 97) (hi := ab_ii 122) h (by decide)
  exact h1.1.tr (m_ltl_sc 2 h1.1.2.2.1)
/-- a reading may begin; what it leaves -/
def m_rp (M : wd_I) : Prop := m_tp M ∧ 1 ≤ (M 102 8).toInt ∧ (M 102 8).toInt + m_pt M ≤ 3013
def m_rg (M N : wd_I) : Prop := m_frt (M 102 8).toInt M N ∧ m_tp N ∧ (M 102 8).toInt ≤ (N 102 8).toInt ∧ (N 102 8).toInt + m_pt N ≤ (M 102 8).toInt + m_pt M
theorem m_rg.rf {M : wd_I} (h : m_tp M) : m_rg M M := ⟨m_frt.rf, h, Int.le_refl _, Int.le_refl _⟩
theorem m_rg.tr {M M' M'' : wd_I} (h : m_rg M M') (h' : m_rg M' M'') : m_rg M M'' := ⟨h.1.tr h'.1 h.2.2.1, h'.2.1, Int.le_trans h.2.2.1 h'.2.2.1, Int.le_trans h'.2.2.2 h.2.2.2⟩
theorem m_rg.rp {M N : wd_I} (hp : m_rp M) (h : m_rg M N) : m_rp N := ⟨h.2.1, by have := hp.2.1; have := h.2.2.1; omega, by have := hp.2.2; have := h.2.2.2; omega⟩
theorem m_rp_lt {M : wd_I} (h : m_rp M) : 1 ≤ (M 102 8).toInt ∧ (M 102 8).toInt ≤ 3113 := by
  obtain ⟨⟨t1, t2, t3⟩, h2, h3⟩ := h
  unfold m_pt at h3
  split at h3 <;> omega
theorem m_sc.rg {M N : wd_I} (h : m_sc M N) : m_rg M N := by
  obtain ⟨h1, h2, h3, h4⟩ := h
  have e8 : N 102 8 = M 102 8 := h2 8 (by decide) (by decide)
  exact ⟨⟨⟨fun t _ => ⟨by rw [h1 103 (by decide)], by rw [h1 104 (by decide)], by rw [h1 105 (by decide)], by rw [h1 106 (by decide)], by rw [h1 107 (by decide)]⟩, fun i _ => ⟨by rw [h1 108 (by decide)], by rw [h1 109 (by decide)]⟩⟩, fun a ha => h1 a (by omega), fun j _ j2 j3 _ => h2 j j2 j3⟩, h3, by rw [e8]; exact Int.le_refl _, by rw [e8]; omega⟩
/-- rows from n on only -/
def m_rw (n : Int) (M N : wd_I) : Prop := m_sb n M N ∧ (∀ a, 110 ≤ a → N a = M a) ∧ N 102 = M 102
theorem m_rw_up {n : Int} {M N : wd_I} {a j : Nat} {x : Int32} (h : m_rw n M N) (hw : (103 ≤ a ∧ a ≤ 107 ∧ n ≤ (j : Int)) ∨ ((a = 108 ∨ a = 109) ∧ 12 * n ≤ (j : Int))) : m_rw n M (wd_up N a j x) := by
  refine ⟨⟨fun t ht => ?_, fun i hi => ?_⟩, fun b hb => ?_, ?_⟩
  · rw [wd_up_ne _ _ (by omega), wd_up_ne _ _ (by omega), wd_up_ne _ _ (by omega), wd_up_ne _ _ (by omega), wd_up_ne _ _ (by omega)]
    exact h.1.1 t ht
  · rw [wd_up_ne _ _ (by omega), wd_up_ne _ _ (by omega)]
    exact h.1.2 i hi
  · rw [wd_up_row _ _ _ (by omega)]
    exact h.2.1 b hb
  · rw [wd_up_row _ _ _ (by omega)]
    exact h.2.2
theorem m_rw.rf {n : Int} {M : wd_I} : m_rw n M M := ⟨m_sb.rf, fun _ _ => rfl, rfl⟩
theorem m_psh_rw {n : Int} {t : Nat} {M : wd_I} (hn : n ≤ (t : Int)) : ∀ (r q : Nat) (N : wd_I), m_rw n M N → m_rw n M (m_psh t r q N)
  | 0, _, _, h => h
  | r + 1, q, N, h => by
    unfold m_psh
    exact m_psh_rw hn r (q - 1) _ (m_rw_up (m_rw_up h (by omega)) (by omega))
theorem m_puts_rw {n : Int} {t key p : Int32} {s : Nat} {M : wd_I} (h0 : 0 ≤ n) (hn : n ≤ t.toInt) : m_rw n M (m_puts M t key p s) := by
  have h1 : m_rw n M (m_puts1 M t.toInt.toNat key s (m_ppos M t.toInt.toNat key s 0)) := by
    unfold m_puts1
    split
    · exact m_rw_up (m_psh_rw (by omega) _ _ _ m_rw.rf) (by omega)
    · exact m_rw.rf
  unfold m_puts
  exact m_rw_up (m_rw_up h1 (by omega)) (by omega)
theorem m_adds_rw {n : Int} {t key p : Int32} {s : Nat} {M : wd_I} (h0 : 0 ≤ n) (hn : n ≤ t.toInt) : m_rw n M (m_adds M t key p s) := by
  unfold m_adds
  exact m_rw_up (m_rw_up (m_rw_up m_rw.rf (by omega)) (by omega)) (by omega)
theorem m_ends_rw {n : Int} {t : Int32} {s : Nat} {M : wd_I} (h0 : 0 ≤ n) (hn : n ≤ t.toInt) : m_rw n M (m_ends M t s) := by
  unfold m_ends
  exact m_rw_up (m_rw_up m_rw.rf (by omega)) (by omega)
theorem m_rw.rg {M N N' : wd_I} (h : m_rg M N) (h' : m_rw (M 102 8).toInt N N') : m_rg M N' := by
  obtain ⟨h1, h2, h3, h4⟩ := h
  obtain ⟨g1, g2, g3⟩ := h'
  refine ⟨⟨h1.1.tr g1 (Int.le_refl _), fun a ha => (g2 a ha).trans (h1.2.1 a ha), fun j a1 a2 a3 a4 => by rw [g3]; exact h1.2.2 j a1 a2 a3 a4⟩, ?_, by rw [g3]; exact h3, ?_⟩
  · unfold m_tp at h2 ⊢
    rw [g3]
    exact h2
  · unfold m_pt at h4 ⊢
    rw [g3]
    exact h4
theorem m_begins_rg {M N : wd_I} {s v m : Int32} (hp : m_rp M) (h : m_rg M N) (hlt : (N 102 8).toInt + m_pt N + 1 ≤ (M 102 8).toInt + m_pt M) : m_rg M (m_begins N s v m) := by
  have hr := m_rp_lt (h.rp hp)
  obtain ⟨h1, h2, h3, h4⟩ := h
  have e8 := m_begins_8 (M := N) (s := s) (v := v) (m := m)
  have e8i : (m_begins N s v m 102 8).toInt = (N 102 8).toInt + 1 := by rw [e8, ab_tI (by omega) (by omega)]
  have e23 : m_begins N s v m 102 23 = N 102 23 := m_begins_n (by decide)
  have e24 : m_begins N s v m 102 24 = N 102 24 := m_begins_n (by decide)
  have e22 : m_begins N s v m 102 22 = N 102 22 := m_begins_n (by decide)
  refine ⟨?_, ?_, by omega, ?_⟩
  · unfold m_begins
    exact m_frt_up (m_frt_up (m_frt_up (m_frt_up h1 (by unfold m_wrt; omega)) (by unfold m_wrt; omega)) (by unfold m_wrt; omega)) (by unfold m_wrt; omega)
  · unfold m_tp at h2 ⊢
    rw [e23, e22]
    exact h2
  · have e : m_pt (m_begins N s v m) = m_pt N := by unfold m_pt; rw [e23, e24]
    rw [e, e8i]
    omega
theorem m_many1_rg {M : wd_I} {x : Int32} (h : m_tp M) : m_rg M (wd_up M 102 25 x) := by
  have e8 : wd_up M 102 25 x 102 8 = M 102 8 := wd_up_ne _ _ (Or.inr (by decide))
  refine ⟨m_frt_up m_frt.rf (by unfold m_wrt; omega), ?_, by rw [e8]; exact Int.le_refl _, ?_⟩
  · unfold m_tp at h ⊢
    rw [wd_up_ne _ _ (Or.inr (by decide)), wd_up_ne _ _ (Or.inr (by decide))]
    exact h
  · unfold m_pt
    rw [e8, wd_up_ne _ _ (Or.inr (by decide)), wd_up_ne _ _ (Or.inr (by decide))]
    exact Int.le_refl _
