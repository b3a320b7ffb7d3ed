/-! ===== both objects: the shelves between calls (own text) ===== -/
def v_s1 (F : Nat → Int32 → Prop) (I : wd_I) (P : wd_P) (M : wd_I) (s c : Nat) : Prop := I (18 + 5 * s) 1 = ab_ii (c : Int) ∧ M 112 s = ab_ii (c : Int) ∧ c ≤ 10 ∧ (∃ a, P (18 + 5 * s) 2 = some a ∧ F a (M 110 s)) ∧ ∀ i, i < c → ∃ b, P (22 + 5 * s) i = some b ∧ F b (M 111 (10 * s + i))
def v_sh (F : Nat → Int32 → Prop) (I : wd_I) (P : wd_P) (M : wd_I) : Prop := ∀ s, s < 12 → ∃ c, v_s1 F I P M s c
def v_ke (F : Nat → Int32 → Prop) (I : wd_I) (P : wd_P) (M : wd_I) : Prop := ¬ (I 0 11).toInt = 0 → ∀ s, s < 12 → ∃ a, P 16 s = some a ∧ F a (M 116 s)
section
variable {F F' : Nat → Int32 → Prop} {T : Nat → Prop} {I I' : wd_I} {P P' : wd_P} {M M' : wd_I} {g : Nat → ab_C} {k : Nat}
theorem v_s1.mv {s c : Nat} (h : v_s1 F I P M s c) (hF : ∀ b u, F b u → F' b u) (h1 : I' (18 + 5 * s) 1 = I (18 + 5 * s) 1) (h2 : P' (18 + 5 * s) 2 = P (18 + 5 * s) 2) (h3 : ∀ i, i < 10 → P' (22 + 5 * s) i = P (22 + 5 * s) i) (m0 : M' 110 s = M 110 s) (m1 : ∀ i, i < 10 → M' 111 (10 * s + i) = M 111 (10 * s + i)) (m2 : M' 112 s = M 112 s) : v_s1 F' I' P' M' s c := by
  obtain ⟨a1, a2, a3, ⟨a, a4, a5⟩, a6⟩ := h
  refine ⟨h1.trans a1, m2.trans a2, a3, ⟨a, h2.trans a4, by rw [m0]; exact hF _ _ a5⟩, fun i hi => ?_⟩
  obtain ⟨b, b1, b2⟩ := a6 i hi
  exact ⟨b, (h3 i (by omega)).trans b1, by rw [m1 i (by omega)]; exact hF _ _ b2⟩
theorem v_sh.mv (h : v_sh F I P M) (hF : ∀ b u, F b u → F' b u) (h1 : ∀ s, s < 12 → I' (18 + 5 * s) 1 = I (18 + 5 * s) 1 ∧ P' (18 + 5 * s) 2 = P (18 + 5 * s) 2 ∧ ∀ i, P' (22 + 5 * s) i = P (22 + 5 * s) i) (m : ∀ x, 110 ≤ x → x ≤ 112 → M' x = M x) : v_sh F' I' P' M' := fun s hs => by
  obtain ⟨c, hc⟩ := h s hs
  obtain ⟨e1, e2, e3⟩ := h1 s hs
  exact ⟨c, hc.mv hF e1 e2 (fun i _ => e3 i) (by rw [m 110 (by decide) (by decide)]) (fun i _ => by rw [m 111 (by decide) (by decide)]) (by rw [m 112 (by decide) (by decide)])⟩
theorem v_ke.mv (h : v_ke F I P M) (hF : ∀ b u, F b u → F' b u) (h0 : I' 0 11 = I 0 11) (hP : ∀ i, P' 16 i = P 16 i) (m : M' 116 = M 116) : v_ke F' I' P' M' := fun q s hs => by
  rw [h0] at q
  obtain ⟨a, a1, a2⟩ := h q s hs
  exact ⟨a, (hP s).trans a1, by rw [m]; exact hF _ _ a2⟩
/-- a shelf becomes a thing -/
theorem v_sh.bec (h : v_sh F I P M) {s c a : Nat} {t : Int32} (hs : s < 12) (hc : v_s1 F I P M s c) (ha : F a t) : v_sh F (s_becI I s c) (s_becP P s c a) (m_becomes M s t c) := fun j hj => by
  by_cases e : j = s
  · subst e
    obtain ⟨a1, a2, a3, ⟨b, a4, a5⟩, a6⟩ := hc
    refine ⟨m_bc c, ?_, by rw [m_becomes_112, if_pos rfl], by unfold m_bc; split <;> omega, ⟨a, ?_, by rw [m_becomes_110, if_pos rfl]; exact ha⟩, fun i hi => ?_⟩
    · unfold s_becI m_bc
      split
      · rw [wd_up_self]; rfl
      · rw [wd_up_self]; rfl
    · unfold s_becP
      split
      · exact wd_up_self _ _ _ _
      · exact wd_up_self _ _ _ _
    · have hi9 : i ≤ 9 := by unfold m_bc at hi; split at hi <;> omega
      rw [m_becomes_111 a3 hi9, if_pos rfl]
      unfold s_becP
      by_cases h10 : c = 10
      · rw [if_pos h10, if_pos h10, wd_up_ne _ _ (by omega)]
        by_cases e9 : i = 9
        · subst e9
          rw [wd_up_self, if_pos rfl]
          exact ⟨b, a4, a5⟩
        · rw [wd_up_ne _ _ (Or.inr e9), s_shift_at, if_pos (by omega), if_neg e9]
          exact a6 (i + 1) (by omega)
      · rw [if_neg h10, if_neg h10, wd_up_ne _ _ (by omega)]
        by_cases ec : i = c
        · subst ec
          rw [wd_up_self, if_pos rfl]
          exact ⟨b, a4, a5⟩
        · rw [wd_up_ne _ _ (Or.inr ec), if_neg ec]
          exact a6 i (by unfold m_bc at hi; rw [if_neg h10] at hi; omega)
  · obtain ⟨c', hc'⟩ := h j hj
    have a3 := hc.2.2.1
    exact ⟨c', hc'.mv (fun _ _ q => q) (s_becI_ne (by omega)) (s_becP_ne (by omega) (by omega)) (fun i _ => s_becP_ne (by omega) (by omega)) (by rw [m_becomes_110, if_neg e]) (fun i hi => by rw [m_becomes_111 a3 (by omega), if_neg e]) (by rw [m_becomes_112, if_neg e])⟩
/-- undone -/
theorem v_sh.un (h : v_sh F I P M) {s c b : Nat} (hs : s < 12) (hc : v_s1 F I P M s (c + 1)) (hb : P (22 + 5 * s) c = some b) : v_sh F (wd_up I (18 + 5 * s) 1 (ab_ii (c : Int))) (wd_up P (18 + 5 * s) 2 (some b)) (m_undo M s c) := fun j hj => by
  have e0 : ∀ i, m_undo M s c 110 i = if i = s then M 111 (10 * s + c) else M 110 i := fun i => by
    unfold m_undo
    by_cases e : i = s
    · subst e; rw [wd_up_self, if_pos rfl]
    · rw [wd_up_ne _ _ (Or.inr e), wd_up_row _ _ _ (by decide), if_neg e]
  have e1 : ∀ i, m_undo M s c 111 i = M 111 i := fun i => by
    unfold m_undo
    rw [wd_up_row _ _ _ (by decide), wd_up_row _ _ _ (by decide)]
  have e2 : ∀ i, m_undo M s c 112 i = if i = s then ab_ii (c : Int) else M 112 i := fun i => by
    unfold m_undo
    rw [wd_up_row _ _ _ (by decide)]
    by_cases e : i = s
    · subst e; rw [wd_up_self, if_pos rfl]
    · rw [wd_up_ne _ _ (Or.inr e), if_neg e]
  by_cases e : j = s
  · subst e
    obtain ⟨a1, a2, a3, ⟨a, a4, a5⟩, a6⟩ := hc
    obtain ⟨b', b1, b2⟩ := a6 c (by omega)
    rw [hb] at b1
    cases b1
    refine ⟨c, wd_up_self _ _ _ _, by rw [e2, if_pos rfl], by omega, ⟨b, wd_up_self _ _ _ _, by rw [e0, if_pos rfl]; exact b2⟩, fun i hi => ?_⟩
    rw [wd_up_ne _ _ (by omega), e1]
    exact a6 i (by omega)
  · obtain ⟨c', hc'⟩ := h j hj
    exact ⟨c', hc'.mv (fun _ _ q => q) (wd_up_ne _ _ (by omega)) (wd_up_ne _ _ (by omega)) (fun i _ => wd_up_ne _ _ (by omega)) (by rw [e0, if_neg e]) (fun i _ => e1 _) (by rw [e2, if_neg e])⟩
/-- kept, and back -/
theorem v_im (h : v_sh F I P M) : v_sh F (c_imI I) (c_imP P) (m_image M) ∧ v_ke F (c_imI I) (c_imP P) (m_image M) := by
  have er : ∀ a j, a ≠ 102 → a ≠ 116 → a ≠ 117 → a ≠ 118 → a ≠ 119 → m_image M a j = M a j := fun a j a1 a2 a3 a4 a5 => by
    unfold m_image
    rw [wd_up_row _ _ _ a1, m_cp_ne a5, m_cq_ne ⟨a3, a4⟩, m_cp_ne a2]
  have e16 : ∀ i, i < 12 → m_image M 116 i = M 110 i := fun i hi => by
    unfold m_image
    rw [wd_up_row _ _ _ (by decide), m_cp_ne (by decide), m_cq_ne ⟨by decide, by decide⟩, m_cp_at, if_pos hi]
  have eP : ∀ a i, a ≠ 16 → a ≠ 17 → c_imP P a i = P a i := fun a i h1 h2 => by unfold c_imP; rw [c_iP_ne h2, c_iT_ne h1]
  refine ⟨fun s hs => ?_, fun _ s hs => ?_⟩
  · obtain ⟨c, hc⟩ := h s hs
    exact ⟨c, hc.mv (fun _ _ q => q) (wd_up_ne _ _ (by omega)) (eP _ _ (by omega) (by omega)) (fun i _ => eP _ _ (by omega) (by omega)) (er _ _ (by decide) (by decide) (by decide) (by decide) (by decide)) (fun i _ => er _ _ (by decide) (by decide) (by decide) (by decide) (by decide)) (er _ _ (by decide) (by decide) (by decide) (by decide) (by decide))⟩
  · obtain ⟨c, -, -, -, ⟨a, a4, a5⟩, -⟩ := h s hs
    refine ⟨a, ?_, by rw [e16 s hs]; exact a5⟩
    unfold c_imP
    rw [c_iP_ne (by omega), c_iT_at 12 hs]
    exact a4
theorem v_cz_at {s : Nat} : ∀ n, s < n → m_cz M n 110 s = M 116 s ∧ m_cz M n 112 s = ab_ii 0
  | 0, h => absurd h (Nat.not_lt_zero _)
  | n + 1, h => by
    unfold m_cz
    rw [wd_up_row _ _ _ (show 110 ≠ 112 by decide)]
    by_cases e : s = n
    · subst e
      rw [wd_up_self, wd_up_self]
      exact ⟨rfl, rfl⟩
    · rw [wd_up_ne _ _ (Or.inr e), wd_up_ne _ _ (Or.inr e), wd_up_row _ _ _ (show 112 ≠ 110 by decide)]
      exact v_cz_at n (by omega)
theorem v_bk (h : v_ke F I P M) (hf : ¬ (I 0 11).toInt = 0) : v_sh F (c_bI I 12) (c_baP P) (m_back M) ∧ v_ke F (c_bI I 12) (c_baP P) (m_back M) := by
  have e10 : ∀ s, s < 12 → m_back M 110 s = M 116 s ∧ m_back M 112 s = ab_ii 0 := fun s hs => by
    unfold m_back
    rw [m_cp_ne (by decide), m_cq_ne ⟨by decide, by decide⟩, m_cp_ne (by decide), m_cq_ne ⟨by decide, by decide⟩]
    exact v_cz_at 12 hs
  have e16 : m_back M 116 = M 116 := by
    funext j
    unfold m_back
    rw [m_cp_ne (by decide), m_cq_ne ⟨by decide, by decide⟩, m_cz_ne ⟨by decide, by decide⟩]
  refine ⟨fun s hs => ?_, h.mv (fun _ _ q => q) (by rw [c_bI_ne (fun j hj => by omega) 12 (by omega)]) (fun i => by unfold c_baP; rw [c_bP_ne (by omega), c_bT_ne (fun j hj => by omega) 12 (by omega)]) e16⟩
  obtain ⟨a, a1, a2⟩ := h hf s hs
  exact ⟨0, c_bI_at 12 hs, (e10 s hs).2, by omega, ⟨a, (c_baP_sh hs).trans a1, by rw [(e10 s hs).1]; exact a2⟩, fun i hi => absurd hi (Nat.not_lt_zero _)⟩
end
