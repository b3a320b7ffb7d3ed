section
/-! ===== both objects: the shelves between calls (own text) ===== -/
def v_s1 (F : Nat → Int32 → Prop) (I : wd_I) (P : wd_P) (M : wd_I) (s c : Nat) : Prop := I (18 + 5 * s) 1 = ab_ii (c : Int) ∧ M 112 s = ab_ii (c : Int) ∧ c ≤ 10 ∧ (∃ a, P (18 + 5 * s) 2 = some a ∧ F a (M 110 s)) ∧ ∀ i, i < c → ∃ b, P (22 + 5 * s) i = some b ∧ F b (M 111 (10 * s + i))
def v_sh (F : Nat → Int32 → Prop) (I : wd_I) (P : wd_P) (M : wd_I) : Prop := ∀ s, s < 12 → ∃ c, v_s1 F I P M s c
def v_ke (F : Nat → Int32 → Prop) (I : wd_I) (P : wd_P) (M : wd_I) : Prop := ¬ (I 0 11).toInt = 0 → ∀ s, s < 12 → ∃ a, P 16 s = some a ∧ F a (M 116 s)
section
variable {F F' : Nat → Int32 → Prop} {T : Nat → Prop} {I I' : wd_I} {P P' : wd_P} {M M' : wd_I} {g : Nat → ab_C} {k : Nat}
theorem v_s1.mv {s c : Nat} (h : v_s1 F I P M s c) (hF : ∀ b u, F b u → F' b u) (h1 : I' (18 + 5 * s) 1 = I (18 + 5 * s) 1) (h2 : P' (18 + 5 * s) 2 = P (18 + 5 * s) 2) (h3 : ∀ i, i < 10 → P' (22 + 5 * s) i = P (22 + 5 * s) i) (m0 : M' 110 s = M 110 s) (m1 : ∀ i, i < 10 → M' 111 (10 * s + i) = M 111 (10 * s + i)) (m2 : M' 112 s = M 112 s) : v_s1 F' I' P' M' s c := by
  obtain ⟨a1, a2, a3, ⟨a, a4, a5⟩, a6⟩ := h
  refine ⟨h1.trans a1, m2.trans a2, a3, ⟨a, h2.trans a4, by rw [m0]; exact hF _ _ a5⟩, fun i hi => ?_⟩
  obtain ⟨b, b1, b2⟩ := a6 i hi
  exact ⟨b, (h3 i (by omega)).trans b1, by rw [m1 i (by omega)]; exact hF _ _ b2⟩
theorem v_sh.mv (h : v_sh F I P M) (hF : ∀ b u, F b u → F' b u) (h1 : ∀ s, s < 12 → I' (18 + 5 * s) 1 = I (18 + 5 * s) 1 ∧ P' (18 + 5 * s) 2 = P (18 + 5 * s) 2 ∧ ∀ i, P' (22 + 5 * s) i = P (22 + 5 * s) i) (m : ∀ x, 110 ≤ x → x ≤ 112 → M' x = M x) : v_sh F' I' P' M' := fun s hs => by
  obtain ⟨c, hc⟩ := h s hs
  obtain ⟨e1, e2, e3⟩ := h1 s hs
  exact ⟨c, hc.mv hF e1 e2 (fun i _ => e3 i) (by rw [m 110 (by decide) (by decide)]) (fun i _ => by rw [m 111 (by decide) (by decide)]) (by rw [m 112 (by decide) (by decide)])⟩
theorem v_ke.mv (h : v_ke F I P M) (hF : ∀ b u, F b u → F' b u) (h0 : I' 0 11 = I 0 11) (hP : ∀ i, P' 16 i = P 16 i) (m : M' 116 = M 116) : v_ke F' I' P' M' := fun q s hs => by
  rw [h0] at q
  obtain ⟨a, a1, a2⟩ := h q s hs
  exact ⟨a, (hP s).trans a1, by rw [m]; exact hF _ _ a2⟩
/-- a shelf becomes a thing -/
theorem v_sh.bec (h : v_sh F I P M) {s c a : Nat} {t : Int32} (hs : s < 12) (hc : v_s1 F I P M s c) (ha : F a t) : v_sh F (s_becI I s c) (s_becP P s c a) (m_becomes M s t c) := fun j hj => by
  by_cases e : j = s
  · subst e
    obtain ⟨a1, a2, a3, ⟨b, a4, a5⟩, a6⟩ := hc
    refine ⟨m_bc c, ?_, by rw [m_becomes_112, if_pos rfl], by unfold m_bc; split <;> omega, ⟨a, ?_, by rw [m_becomes_110, if_pos rfl]; exact ha⟩, fun i hi => ?_⟩
    · unfold s_becI m_bc
      split
      · rw [wd_up_self]; rfl
      · rw [wd_up_self]; rfl
    · unfold s_becP
      split
      · exact wd_up_self _ _ _ _
      · exact wd_up_self _ _ _ _
    · have hi9 : i ≤ 9 := by unfold m_bc at hi; split at hi <;> omega
      rw [m_becomes_111 a3 hi9, if_pos rfl]
      unfold s_becP
      by_cases h10 : c = 10
      · rw [if_pos h10, if_pos h10, wd_up_ne _ _ (by omega)]
        by_cases e9 : i = 9
        · subst e9
          rw [wd_up_self, if_pos rfl]
          exact ⟨b, a4, a5⟩
        · rw [wd_up_ne _ _ (Or.inr e9), s_shift_at, if_pos (by omega), if_neg e9]
          exact a6 (i + 1) (by omega)
      · rw [if_neg h10, if_neg h10, wd_up_ne _ _ (by omega)]
        by_cases ec : i = c
        · subst ec
          rw [wd_up_self, if_pos rfl]
          exact ⟨b, a4, a5⟩
        · rw [wd_up_ne _ _ (Or.inr ec), if_neg ec]
          exact a6 i (by unfold m_bc at hi; rw [if_neg h10] at hi; omega)
  · obtain ⟨c', hc'⟩ := h j hj
    have a3 := hc.2.2.1
    exact ⟨c', hc'.mv (fun _ _ q => q) (s_becI_ne (by omega)) (s_becP_ne (by omega) (by omega)) (fun i _ => s_becP_ne (by omega) (by omega)) (by rw [m_becomes_110, if_neg e]) (fun i hi => by rw [m_becomes_111 a3 (by omega), if_neg e]) (by rw [m_becomes_112, if_neg e])⟩
/-- undone -/
theorem v_sh.un (h : v_sh F I P M) {s c b : Nat} (hs : s < 12) (hc : v_s1 F I P M s (c + 1)) (hb : P (22 + 5 * s) c = some b) : v_sh F (wd_up I (18 + 5 * s) 1 (ab_ii (c : Int))) (wd_up P (18 + 5 * s) 2 (some b)) (m_undo M s c) := fun j hj => by
  have e0 : ∀ i, m_undo M s c 110 i = if i = s then M 111 (10 * s + c) else M 110 i := fun i => by
    unfold m_undo
    by_cases e : i = s
    · subst e; rw [wd_up_self, if_pos rfl]
    · rw [wd_up_ne _ _ (Or.inr e), wd_up_row _ _ _ (by decide), if_neg e]
  have e1 : ∀ i, m_undo M s c 111 i = M 111 i := fun i => by
    unfold m_undo
    rw [wd_up_row _ _ _ (by decide), wd_up_row _ _ _ (by decide)]
  have e2 : ∀ i, m_undo M s c 112 i = if i = s then ab_ii (c : Int) else M 112 i := fun i => by
    unfold m_undo
    rw [wd_up_row _ _ _ (by decide)]
    by_cases e : i = s
    · subst e; rw [wd_up_self, if_pos rfl]
    · rw [wd_up_ne _ _ (Or.inr e), if_neg e]
  by_cases e : j = s
  · subst e
    obtain ⟨a1, a2, a3, ⟨a, a4, a5⟩, a6⟩ := hc
    obtain ⟨b', b1, b2⟩ := a6 c (by omega)
    rw [hb] at b1
    cases b1
    refine ⟨c, wd_up_self _ _ _ _, by rw [e2, if_pos rfl], by omega, ⟨b, wd_up_self _ _ _ _, by rw [e0, if_pos rfl]; exact b2⟩, fun i hi => ?_⟩
    rw [wd_up_ne _ _ (by omega), e1]
    exact a6 i (by omega)
  · obtain ⟨c', hc'⟩ := h j hj
    exact ⟨c', hc'.mv (fun _ _ q => q) (wd_up_ne _ _ (by omega)) (wd_up_ne _ _ (by omega)) (fun i _ => wd_up_ne _ _ (by omega)) (by rw [e0, if_neg e]) (fun i _ => e1 _) (by rw [e2, if_neg e])⟩
/-- kept, and back -/
theorem v_im (h : v_sh F I P M) : v_sh F (c_imI I) (c_imP P) (m_image M) ∧ v_ke F (c_imI I) (c_imP P) (m_image M) := by
  have er : ∀ a j, a ≠ 102 → a ≠ 116 → a ≠ 117 → a ≠ 118 → a ≠ 119 → m_image M a j = M a j := fun a j a1 a2 a3 a4 a5 => by
    unfold m_image
    rw [wd_up_row _ _ _ a1, m_cp_ne a5, m_cq_ne ⟨a3, a4⟩, m_cp_ne a2]
  have e16 : ∀ i, i < 12 → m_image M 116 i = M 110 i := fun i hi => by
    unfold m_image
    rw [wd_up_row _ _ _ (by decide), m_cp_ne (by decide), m_cq_ne ⟨by decide, by decide⟩, m_cp_at, if_pos hi]
  have eP : ∀ a i, a ≠ 16 → a ≠ 17 → c_imP P a i = P a i := fun a i h1 h2 => by unfold c_imP; rw [c_iP_ne h2, c_iT_ne h1]
  refine ⟨fun s hs => ?_, fun _ s hs => ?_⟩
  · obtain ⟨c, hc⟩ := h s hs
    exact ⟨c, hc.mv (fun _ _ q => q) (wd_up_ne _ _ (by omega)) (eP _ _ (by omega) (by omega)) (fun i _ => eP _ _ (by omega) (by omega)) (er _ _ (by decide) (by decide) (by decide) (by decide) (by decide)) (fun i _ => er _ _ (by decide) (by decide) (by decide) (by decide) (by decide)) (er _ _ (by decide) (by decide) (by decide) (by decide) (by decide))⟩
  · obtain ⟨c, -, -, -, ⟨a, a4, a5⟩, -⟩ := h s hs
    refine ⟨a, ?_, by rw [e16 s hs]; exact a5⟩
    unfold c_imP
    rw [c_iP_ne (by omega), c_iT_at 12 hs]
    exact a4
theorem v_cz_at {s : Nat} : ∀ n, s < n → m_cz M n 110 s = M 116 s ∧ m_cz M n 112 s = ab_ii 0
  | 0, h => absurd h (Nat.not_lt_zero _)
  | n + 1, h => by
    unfold m_cz
    rw [wd_up_row _ _ _ (show 110 ≠ 112 by decide)]
    by_cases e : s = n
    · subst e
      rw [wd_up_self, wd_up_self]
      exact ⟨rfl, rfl⟩
    · rw [wd_up_ne _ _ (Or.inr e), wd_up_ne _ _ (Or.inr e), wd_up_row _ _ _ (show 112 ≠ 110 by decide)]
      exact v_cz_at n (by omega)
theorem v_bk (h : v_ke F I P M) (hf : ¬ (I 0 11).toInt = 0) : v_sh F (c_bI I 12) (c_baP P) (m_back M) ∧ v_ke F (c_bI I 12) (c_baP P) (m_back M) := by
  have e10 : ∀ s, s < 12 → m_back M 110 s = M 116 s ∧ m_back M 112 s = ab_ii 0 := fun s hs => by
    unfold m_back
    rw [m_cp_ne (by decide), m_cq_ne ⟨by decide, by decide⟩, m_cp_ne (by decide), m_cq_ne ⟨by decide, by decide⟩]
    exact v_cz_at 12 hs
  have e16 : m_back M 116 = M 116 := by
    funext j
    unfold m_back
    rw [m_cp_ne (by decide), m_cq_ne ⟨by decide, by decide⟩, m_cz_ne ⟨by decide, by decide⟩]
  refine ⟨fun s hs => ?_, h.mv (fun _ _ q => q) (by rw [c_bI_ne (fun j hj => by omega) 12 (by omega)]) (fun i => by unfold c_baP; rw [c_bP_ne (by omega), c_bT_ne (fun j hj => by omega) 12 (by omega)]) e16⟩
  obtain ⟨a, a1, a2⟩ := h hf s hs
  exact ⟨0, c_bI_at 12 hs, (e10 s hs).2, by omega, ⟨a, (c_baP_sh hs).trans a1, by rw [(e10 s hs).1]; exact a2⟩, fun i hi => absurd hi (Nat.not_lt_zero _)⟩
end
end
section
/-! ===== both objects between calls (own text) ===== -/
def w_In (F : Nat → Int32 → Prop) (T : Nat → Prop) (I : wd_I) (P : wd_P) (M : wd_I) (g : Nat → ab_C) (k : Nat) : Prop := m_ok M ∧ k_ok T I P g k ∧ h_k F T g M (M 102 8).toInt ∧ h_tp I M ∧ I 9 0 = M 102 9 ∧ v_sh F I P M ∧ v_ke F I P M ∧ v_pa I P M g
/-- the reference's call answers r, and they stay alike -/
def w_ref (rm need : Nat) (args : List ab_V) (r : ab_V) (F : Nat → Int32 → Prop) (T : Nat → Prop) (I : wd_I) (P : wd_P) (M : wd_I) (g : Nat → ab_C) (k z : Nat) : Prop := ∀ (d : Nat) (Q : ab_Q), need ≤ d → (∀ M', w_In F T I P M' g k → Q (some r) (wd I P M' g, k, z)) → ab_CT d rm args (wd I P M g, k, z) Q
def w_res (rm need : Nat) (args : List ab_V) (n : Nat) (M : wd_I) (Q : ab_Q) : Prop := ∀ (r : Int32) (F' : Nat → Int32 → Prop) (T' : Nat → Prop) (I' : wd_I) (P' : wd_P) (g' : Nat → ab_C) (k' z' : Nat), w_ref rm need args (.inl r) F' T' I' P' M g' k' z' → k_rm n I' k' z' → Q (some (.inl r)) (wd I' P' M g', k', z')
def w_resL (rm need : Nat) (args : List ab_V) (n : Nat) (M : wd_I) (Q : ab_Q) : Prop := ∀ (r : Int64) (F' : Nat → Int32 → Prop) (T' : Nat → Prop) (I' : wd_I) (P' : wd_P) (g' : Nat → ab_C) (k' z' : Nat), w_ref rm need args (.inr (.inl r)) F' T' I' P' M g' k' z' → k_rm n I' k' z' → Q (some (.inr (.inl r))) (wd I' P' M g', k', z')
section
variable {F : Nat → Int32 → Prop} {T : Nat → Prop} {I I' : wd_I} {P P' : wd_P} {M M' : wd_I} {g : Nat → ab_C} {k z n d : Nat} {Q : ab_Q}
theorem m_eqv.ra (hE : m_eqv M M') {q : Nat} : m_ra M M' q := ⟨by rw [hE.1 103 (by decide) (by decide)], by rw [hE.1 104 (by decide) (by decide)], by rw [hE.1 105 (by decide) (by decide)], by rw [hE.1 106 (by decide) (by decide)], by rw [hE.1 107 (by decide) (by decide)], fun j _ => ⟨by rw [hE.1 108 (by decide) (by decide)], by rw [hE.1 109 (by decide) (by decide)]⟩⟩
theorem w_In.eqv (h : w_In F T I P M g k) (hE : m_eqv M M') : w_In F T I P M' g k := by
  obtain ⟨h1, h2, h3, h4, h5, h6, h7, h8⟩ := h
  have e8 := hE.2.1
  exact ⟨m_ok_eqv h1 hE, h2, h3.mv (fun _ q => q) (fun _ _ => h_sm.rf) (fun _ _ _ => hE.ra) (by rw [e8]; exact Int.le_refl _), h4.fr (fun _ => ⟨rfl, rfl⟩) ⟨hE.2.2.2.2, hE.1 120 (by decide) (by decide)⟩, by rw [hE.2.2.1]; exact h5, h6.mv (fun _ _ q => q) (fun _ _ => ⟨rfl, rfl, fun _ => rfl⟩) (fun x x1 x2 => hE.1 x (by omega) (by omega)), h7.mv (fun _ _ q => q) rfl (fun _ => rfl) (hE.1 116 (by decide) (by decide)), h8.fr h2 .rf (.eqv hE)⟩
theorem w_In.ix (h : w_In F T I P M g k) (hI : ∀ a j, (a = 0 ∨ a = 1 ∨ a = 2 ∨ a = 9 ∨ 18 ≤ a) → I' a j = I a j) (hP : ∀ a j, (a = 8 ∨ 16 ≤ a) → P' a j = P a j) : w_In F T I' P' M g k := by
  obtain ⟨h1, h2, h3, h4, h5, h6, h7, h8⟩ := h
  exact ⟨h1, h2.ix (fun a j q => hI a j (by omega)) hP, h3, h4.fr (fun j => ⟨(hI 1 1 (by omega)).symm, hI 2 j (by omega)⟩) ⟨rfl, rfl⟩, by rw [hI 9 0 (by omega)]; exact h5, h6.mv (fun _ _ q => q) (fun s hs => ⟨hI _ _ (by omega), hP _ _ (by omega), fun i => hP _ _ (by omega)⟩) (fun _ _ _ => rfl), h7.mv (fun _ _ q => q) (hI 0 11 (by omega)) (fun i => hP _ _ (by omega)) rfl, h8.fr h2 (.of (fun a j q => hI a j (by omega)) c_ofr.rf (fun a j q => hP a j (by omega))) .rf⟩
/-- the things on a shelf -/
theorem w_In.sh (h : w_In F T I P M g k) (s : Int32) : ∃ a, c_sh s → (P (18 + 5 * s.toInt.toNat) 2 = some a ∧ T a) ∧ F a (M 110 s.toInt.toNat) := by
  by_cases hs : c_sh s
  · obtain ⟨c, -, -, -, ⟨a, a1, a2⟩, -⟩ := h.2.2.2.2.2.1 s.toInt.toNat (by unfold c_sh at hs; omega)
    exact ⟨a, fun _ => ⟨⟨a1, (h.2.2.1.in a2).1⟩, a2⟩⟩
  · exact ⟨0, fun q => absurd q hs⟩
theorem w_In.tab (h : w_In F T I P M g k) : m_T M (M 102 8).toInt := h.1.1
theorem w_ref_bad {rm need : Nat} {args : List ab_V} {r : ab_V} (h : w_In F T I P M g k) (hx : ∀ (d : Nat) (Q : ab_Q), need ≤ d → Q (some r) (wd I P M g, k, z) → ab_CT d rm args (wd I P M g, k, z) Q) : w_ref rm need args r F T I P M g k z := fun d Q hd hQ => hx d Q hd (hQ M h)
theorem hc_order (hd : 46 ≤ d) (h : w_In F T I P M g k) (hr : k_rm (n + 1) I k z) {s t : Int32} (hQ : w_res 186 14 [wd_v 102, .inl s, .inl t] n M Q) : ab_CT d 116 [wd_v 0, .inl s, .inl t] (wd I P M g, k, z) Q := by
  have hr0 : k_rm n I k z := hr.le (Int.le_refl _) (Nat.le_add_right _ _) (Nat.le_add_right _ _)
  obtain ⟨a, ha⟩ := h.sh s
  obtain ⟨b, hb⟩ := h.sh t
  refine y_order2 hd h.2.1.1 (fun q => ?_) (fun q => (ha q).1) (fun q => (hb q).1) (fun q1 q2 => ?_)
  · refine hQ _ F T _ _ _ _ _ (w_ref_bad h (fun d Q hd hq => ?_)) hr0
    exact x_order hd h.1.1.tb.1 h.1.2.2.2.1 (fun _ => hq) (fun e1 e2 e3 e4 => absurd ⟨⟨e1, by omega⟩, e3, by omega⟩ q)
  · refine hQ _ F T _ _ _ _ _ (w_ref_bad h (fun d Q hd hq => ?_)) hr0
    refine x_order hd h.1.1.tb.1 h.1.2.2.2.1 (fun e => ?_) (fun e1 e2 e3 e4 => ?_)
    · unfold c_sh at q1 q2; exfalso; omega
    · rw [← h_cmp41 (f' := 13) h.2.2.1.1 h.tab (by omega) (ha q1).2 (hb q2).2]
      exact hq
theorem hc_shared (hd : 88 ≤ d) (h : w_In F T I P M g k) (hr : k_rm (n + 1) I k z) {s t : Int32} (hQ : w_res 189 17 [wd_v 102, .inl s, .inl t] n M Q) : ab_CT d 117 [wd_v 0, .inl s, .inl t] (wd I P M g, k, z) Q := by
  have hr0 : k_rm n I k z := hr.le (Int.le_refl _) (Nat.le_add_right _ _) (Nat.le_add_right _ _)
  obtain ⟨a, ha⟩ := h.sh s
  obtain ⟨b, hb⟩ := h.sh t
  refine y_shared hd h.2.1.1 (fun q => ?_) (fun q => (ha q).1) (fun q => (hb q).1) (fun q1 q2 => ?_)
  · refine hQ _ F T _ _ _ _ _ (w_ref_bad h (fun d Q hd hq => ?_)) hr0
    exact x_shared hd h.1.1.tb.1 h.1.2.2.2.1 (fun _ => hq) (fun e => absurd ⟨⟨e.1, by omega⟩, e.2.2.1, by omega⟩ q)
  · refine hQ _ F T _ _ _ _ _ (fun d Q hd hq => ?_) hr0
    refine x_shared hd h.1.1.tb.1 h.1.2.2.2.1 (fun e => ?_) (fun e M' hE => ?_)
    · unfold c_sh at q1 q2; exfalso; omega
    · rw [← h_shared h.2.2.1.1 h.tab (ha q1).2 (hb q2).2]
      exact hq M' (h.eqv hE)
theorem hc_differ (hd : 92 ≤ d) (h : w_In F T I P M g k) (hr : k_rm (n + 1) I k z) {s t w : Int32} (hQ : w_res 192 28 [wd_v 102, .inl s, .inl t, .inl w] n M Q) : ab_CT d 118 [wd_v 0, .inl s, .inl t, .inl w] (wd I P M g, k, z) Q := by
  have hr0 : k_rm n I k z := hr.le (Int.le_refl _) (Nat.le_add_right _ _) (Nat.le_add_right _ _)
  obtain ⟨a, ha⟩ := h.sh s
  obtain ⟨b, hb⟩ := h.sh t
  refine y_differ hd h.2.1.1 (fun q => ?_) (fun q => (ha q).1) (fun q => (hb q).1) (fun q1 q2 => ?_)
  · refine hQ _ F T _ _ _ _ _ (w_ref_bad h (fun d Q hd hq => ?_)) hr0
    exact x_differ hd h.1.lok (fun _ => hq) (fun e => absurd ⟨⟨e.1, by omega⟩, e.2.2.1, by omega⟩ q)
  · refine hQ _ F T _ _ _ _ _ (fun d Q hd hq => ?_) (hr.le (by rw [d_fnd_ne (by omega) (by omega)]; exact Int.le_refl _) (Nat.le_add_right _ _) (Nat.le_add_right _ _))
    have h' : w_In F T (d_fnd I g a b) P M g k := h.ix (fun x j hx => d_fnd_ne (by omega) (by omega)) (fun _ _ _ => rfl)
    refine x_differ hd h.1.lok (fun e => ?_) (fun e M' hE => ?_)
    · unfold c_sh at q1 q2; exfalso; omega
    · rw [← h_dfr h.2.2.1.1 h.tab (I := I) (ha q1).2 (hb q2).2]
      exact hq M' (h'.eqv hE)
end
end
section
/-! ===== both objects: looks and folds answer alike (own text) ===== -/
section
variable {F : Nat → Int32 → Prop} {T : Nat → Prop} {I : wd_I} {P : wd_P} {M : wd_I} {g : Nat → ab_C} {k z n d : Nat} {Q : ab_Q}
theorem w_In.pa (h : w_In F T I P M g k) (p : Int32) : ∃ b, c_pp p → (P 8 p.toInt.toNat = some b ∧ p_wf g k b) ∧ h_pt g M 113 114 115 b p.toInt.toNat := by
  by_cases hs : c_pp p
  · have hp8 : p.toInt.toNat < 8 := by unfold c_pp at hs; omega
    obtain ⟨b, b1, b2⟩ := h.2.2.2.2.2.2.2.1 p.toInt.toNat hp8
    obtain ⟨b', b1', b2'⟩ := h.2.1.2.2.2.2.1 p.toInt.toNat hp8
    rw [b1] at b1'
    cases b1'
    exact ⟨b, fun _ => ⟨⟨b1, b2'⟩, b2⟩⟩
  · exact ⟨0, fun q => absurd q hs⟩
theorem w_In.fnd (h : w_In F T I P M g k) {p a : Nat} : w_In F T (f_fnd I P g p a).1 (f_fnd I P g p a).2 M g k := h.ix (fun x j hx => f_fnd_ne.1 x j (by omega)) (fun x j hx => f_fnd_ne.2 x j (by omega))
/-- the focus meant -/
theorem w_foc (h : w_In F T I P M g k) {s p q : Int32} {a b : Nat} (hs : c_sh s) (hp : c_pp p) (ha : F a (M 110 s.toInt.toNat)) (hb : h_pt g M 113 114 115 b p.toInt.toNat) : (0 ≤ q.toInt → q.toInt < ((c_fs41 g b a).length : Int) → F ((c_fs41 g b a).getD q.toInt.toNat 0) (m_foc M s p q)) ∧ ((q.toInt < 0 ∨ ((c_fs41 g b a).length : Int) ≤ q.toInt) → m_foc M s p q = ab_ii (-1)) := by
  have hl := h_fs h.2.2.1.1 h.tab hb ha
  have hlen := hl.len
  unfold c_sh at hs
  unfold c_pp at hp
  refine ⟨fun q1 q2 => ?_, fun q1 => ?_⟩
  · unfold m_foc
    rw [if_pos ⟨⟨by omega, by omega, by omega, by omega⟩, q1, by omega⟩]
    exact hl.at _ (by omega)
  · unfold m_foc
    rw [if_neg (fun e => by omega)]
theorem m_foc_bad {s p q : Int32} (h : ¬ (c_sh s ∧ c_pp p)) : m_foc M s p q = ab_ii (-1) := by
  unfold m_foc
  rw [if_neg (fun e => h ⟨⟨e.1.1, by omega⟩, e.1.2.2.1, by omega⟩)]
theorem h_look {S P' Q' W : Int32} (h : w_In F T I P M g k) {x : Nat} (hx : F x (m_foc M S P' Q')) : c_look g x W.toInt = m_look M S P' Q' W := by
  have hb := h.2.2.1.in hx
  obtain ⟨e0, e1, e2, e3, e4, -⟩ := h.2.2.1.1.p hx
  have e5 : ab_ii (c_sz g x : Int) = M 105 (m_foc M S P' Q').toInt.toNat := by rw [e4]; exact ab_ii_toInt _
  unfold c_look m_look
  rw [e0, e1, e2, e3, e5]
  by_cases w0 : W.toInt = 0
  · rw [if_pos w0, if_neg (by omega), if_pos w0]
  rw [if_neg w0]
  by_cases w1 : W.toInt = 1
  · have hng : ¬ ((m_foc M S P' Q').toInt = -1 ∨ W.toInt < 0 ∨ 3 < W.toInt) := by omega
    rw [if_pos w1, if_neg hng, if_neg w0, if_pos w1]
    by_cases c : (M 103 (m_foc M S P' Q').toInt.toNat).toInt = 0 ∨ (M 103 (m_foc M S P' Q').toInt.toNat).toInt = 4
    · rw [if_pos c, if_pos c]
    · rw [if_neg c, if_neg c]
  rw [if_neg w1]
  by_cases w2 : W.toInt = 2
  · rw [if_pos w2, if_neg (by omega), if_neg w0, if_neg w1, if_pos w2]
  rw [if_neg w2]
  by_cases w3 : W.toInt = 3
  · rw [if_pos w3, if_neg (by omega), if_neg w0, if_neg w1, if_neg w2]
  · rw [if_neg w3, if_pos (by omega)]
    rfl
theorem h_key {S P' Q' W : Int32} (h : w_In F T I P M g k) {x : Nat} (hx : F x (m_foc M S P' Q')) : c_key g x W.toInt = m_key M S P' Q' W := by
  have hb := h.2.2.1.in hx
  obtain ⟨e0, e1, e2, e3, e4, e5⟩ := h.2.2.1.1.p hx
  unfold c_key m_key
  rw [e0]
  by_cases c : (M 103 (m_foc M S P' Q').toInt.toNat).toInt = 3 ∧ 0 ≤ W.toInt ∧ W.toInt < (c_sz g x : Int)
  · rw [if_pos c, if_pos ⟨by omega, c.1, c.2.1, by omega⟩]
    exact (e5 _ (by omega)).1
  · rw [if_neg c, if_neg (fun q => c ⟨q.2.1, q.2.2.1, by have := q.2.2.2; omega⟩)]
theorem hc_look (hd : 50 ≤ d) (h : w_In F T I P M g k) (hr : k_rm (n + 1) I k z) {s p q w : Int32} (hQ : w_resL 179 25 [wd_v 102, .inl s, .inl p, .inl q, .inl w] n M Q) : ab_CT d 112 [wd_v 0, .inl s, .inl p, .inl q, .inl w] (wd I P M g, k, z) Q := by
  have hr0 : k_rm n I k z := hr.le (Int.le_refl _) (Nat.le_add_right _ _) (Nat.le_add_right _ _)
  obtain ⟨a, ha⟩ := h.sh s
  obtain ⟨b, hb⟩ := h.pa p
  have hrf : k_rm n (f_fnd I P g b a).1 k z := hr.le (by rw [f_fnd_ne.1 _ _ (by omega)]; exact Int.le_refl _) (Nat.le_add_right _ _) (Nat.le_add_right _ _)
  have hno : m_foc M s p q = ab_ii (-1) → m_look M s p q w = c_NO := fun e => by
    unfold m_look
    rw [if_pos (Or.inl (by rw [e]; rfl))]
    rfl
  refine y_look hd h.2.1.1 (fun e => ?_) (fun e => (ha e).1) (fun e => (hb e).1) (fun e e2 => ?_) (fun e e2 e3 => ?_)
  · refine hQ _ F T _ _ _ _ _ (fun d Q hd hq => x_look hd h.1.lok (fun M' hE => ?_)) hr0
    rw [hno (m_foc_bad e)]
    exact hq M' (h.eqv hE)
  · refine hQ _ F T _ _ _ _ _ (fun d Q hd hq => x_look hd h.1.lok (fun M' hE => ?_)) hrf
    rw [hno ((w_foc h e.1 e.2 (ha e.1).2 (hb e.2).2).2 e2)]
    exact hq M' (h.fnd.eqv hE)
  · refine hQ _ F T _ _ _ _ _ (fun d Q hd hq => x_look hd h.1.lok (fun M' hE => ?_)) hrf
    rw [← h_look h ((w_foc h e.1 e.2 (ha e.1).2 (hb e.2).2).1 e2 e3)]
    exact hq M' (h.fnd.eqv hE)
theorem hc_key (hd : 50 ≤ d) (h : w_In F T I P M g k) (hr : k_rm (n + 1) I k z) {s p q w : Int32} (hQ : w_res 180 25 [wd_v 102, .inl s, .inl p, .inl q, .inl w] n M Q) : ab_CT d 113 [wd_v 0, .inl s, .inl p, .inl q, .inl w] (wd I P M g, k, z) Q := by
  have hr0 : k_rm n I k z := hr.le (Int.le_refl _) (Nat.le_add_right _ _) (Nat.le_add_right _ _)
  obtain ⟨a, ha⟩ := h.sh s
  obtain ⟨b, hb⟩ := h.pa p
  have hrf : k_rm n (f_fnd I P g b a).1 k z := hr.le (by rw [f_fnd_ne.1 _ _ (by omega)]; exact Int.le_refl _) (Nat.le_add_right _ _) (Nat.le_add_right _ _)
  have hno : m_foc M s p q = ab_ii (-1) → m_key M s p q w = ab_ii (-1) := fun e => by
    unfold m_key
    rw [if_neg (fun q => q.1 (by rw [e]; rfl))]
  refine y_key hd h.2.1.1 (fun e => ?_) (fun e => (ha e).1) (fun e => (hb e).1) (fun e e2 => ?_) (fun e e2 e3 => ?_)
  · refine hQ _ F T _ _ _ _ _ (fun d Q hd hq => x_key hd h.1.lok (fun M' hE => ?_)) hr0
    rw [hno (m_foc_bad e)]
    exact hq M' (h.eqv hE)
  · refine hQ _ F T _ _ _ _ _ (fun d Q hd hq => x_key hd h.1.lok (fun M' hE => ?_)) hrf
    rw [hno ((w_foc h e.1 e.2 (ha e.1).2 (hb e.2).2).2 e2)]
    exact hq M' (h.fnd.eqv hE)
  · refine hQ _ F T _ _ _ _ _ (fun d Q hd hq => x_key hd h.1.lok (fun M' hE => ?_)) hrf
    rw [← h_key h ((w_foc h e.1 e.2 (ha e.1).2 (hb e.2).2).1 e2 e3)]
    exact hq M' (h.fnd.eqv hE)
theorem hc_fold (hd : 50 ≤ d) (h : w_In F T I P M g k) (hr : k_rm (n + 1) I k z) {s p c : Int32} (hQ : w_resL 183 25 [wd_v 102, .inl s, .inl p, .inl c] n M Q) : ab_CT d 114 [wd_v 0, .inl s, .inl p, .inl c] (wd I P M g, k, z) Q := by
  have hr0 : k_rm n I k z := hr.le (Int.le_refl _) (Nat.le_add_right _ _) (Nat.le_add_right _ _)
  obtain ⟨a, ha⟩ := h.sh s
  obtain ⟨b, hb⟩ := h.pa p
  have hrf : k_rm n (f_fnd I P g b a).1 k z := hr.le (by rw [f_fnd_ne.1 _ _ (by omega)]; exact Int.le_refl _) (Nat.le_add_right _ _) (Nat.le_add_right _ _)
  refine y_fold hd h.2.1.1 (fun e => ?_) (fun e => (ha e).1) (fun e => (hb e).1) (fun e => ?_)
  · refine hQ _ F T _ _ _ _ _ (fun d Q hd hq => x_fold hd h.1.lok (fun M' hE => ?_)) hr0
    have e1 : m_fold M s p c = c_NO := by
      unfold m_fold
      rw [if_neg (fun q => e ⟨⟨q.1.1, by omega⟩, q.1.2.2.1, by omega⟩)]
      rfl
    rw [e1]
    exact hq M' (h.eqv hE)
  · refine hQ _ F T _ _ _ _ _ (fun d Q hd hq => x_fold hd h.1.lok (fun M' hE => ?_)) hrf
    have hl := h_fs h.2.2.1.1 h.tab (hb e.2).2 (ha e.1).2
    have h200 : (c_fs41 g b a).length ≤ 200 := by unfold c_fs41; exact List.length_take_le _ _
    have e1 : m_fold M s p c = c_fold g (c_fs41 g b a) c.toInt := by
      rw [h_fold h.2.2.1.1 h.tab hl h200]
      obtain ⟨e2, e3⟩ := e
      unfold c_sh at e2
      unfold c_pp at e3
      unfold m_fold
      by_cases q : (0 ≤ c.toInt ∧ c.toInt ≤ 6) ∧ ¬ ((m_fs M p (M 110 s.toInt.toNat)).length = 0 ∧ (c.toInt = 2 ∨ c.toInt = 3 ∨ c.toInt = 5))
      · rw [if_pos q, if_pos ⟨⟨by omega, by omega, by omega, by omega, q.1.1, q.1.2⟩, q.2⟩]
      · rw [if_neg q, if_neg (fun q2 => q ⟨⟨q2.1.2.2.2.2.1, q2.1.2.2.2.2.2⟩, q2.2⟩)]
    rw [e1]
    exact hq M' (h.fnd.eqv hE)
end
end
section
/-! ===== both objects: undo, take, count, image, back, join alike (own text) ===== -/
section
variable {F : Nat → Int32 → Prop} {T : Nat → Prop} {I I' : wd_I} {P P' : wd_P} {M M' : wd_I} {g : Nat → ab_C} {k z n d : Nat} {Q : ab_Q}
theorem k_ok_undo (h : k_ok T I P g k) {s c b : Nat} (hs' : s < 12) (hc : s_ok T I P s (c + 1)) (hb : P (22 + 5 * s) c = some b) : k_ok T (wd_up I (18 + 5 * s) 1 (ab_ii (c : Int))) (wd_up P (18 + 5 * s) 2 (some b)) g k := by
  obtain ⟨b', hb', hTb⟩ := hc.2.2.2 c (by omega)
  rw [hb] at hb'
  cases hb'
  obtain ⟨h1, h2, h3, h4, h5, h6, h7⟩ := h
  refine ⟨h1, h2, by rw [wd_up_ne _ _ (by omega)]; exact h3, fun j hj => ?_, fun p hp => ?_, by rw [wd_up_ne _ _ (by omega)]; exact h6, fun q => ?_⟩
  · by_cases e : j = s
    · subst e
      refine ⟨c, wd_up_self _ _ _ _, by have := hc.2.1; omega, ⟨b, wd_up_self _ _ _ _, hTb⟩, fun i hi => ?_⟩
      rw [wd_up_ne _ _ (by omega)]
      exact hc.2.2.2 i (by omega)
    · obtain ⟨c2, hc2⟩ := h4 j hj
      exact ⟨c2, s_ok_eq hc2 (wd_up_ne _ _ (by omega)) (wd_up_ne _ _ (by omega)) (fun i => wd_up_ne _ _ (by omega))⟩
  · rw [wd_up_ne _ _ (by omega)]; exact h5 p hp
  · rw [wd_up_ne _ _ (by omega)] at q
    obtain ⟨q1, q2⟩ := h7 q
    exact ⟨fun p hp => by rw [wd_up_ne _ _ (by omega)]; exact q1 p hp, fun p hp => by rw [wd_up_ne _ _ (by omega)]; exact q2 p hp⟩
/-- rows of things the same -/
theorem m_ra_of {q : Nat} (h : ∀ a, 103 ≤ a → a ≤ 109 → M' a = M a) : m_ra M M' q := ⟨by rw [h 103 (by decide) (by decide)], by rw [h 104 (by decide) (by decide)], by rw [h 105 (by decide) (by decide)], by rw [h 106 (by decide) (by decide)], by rw [h 107 (by decide) (by decide)], fun j _ => ⟨by rw [h 108 (by decide) (by decide)], by rw [h 109 (by decide) (by decide)]⟩⟩
theorem v_s1.ok {s c : Nat} {n0 : Int} (h : v_s1 F I P M s c) (hk : h_k F T g M n0) : s_ok T I P s c := by
  obtain ⟨a1, a2, a3, ⟨a, a4, a5⟩, a6⟩ := h
  exact ⟨a1, a3, ⟨a, a4, (hk.in a5).1⟩, fun i hi => by obtain ⟨b, b1, b2⟩ := a6 i hi; exact ⟨b, b1, (hk.in b2).1⟩⟩
theorem hc_undo (hd : 3 ≤ d) (h : w_In F T I P M g k) (hr : k_rm (n + 1) I k z) {s : Int32} (hQ : w_res 177 3 [wd_v 102, .inl s] n M Q) : ab_CT d 111 [wd_v 0, .inl s] (wd I P M g, k, z) Q := by
  have hr0 : k_rm n I k z := hr.le (Int.le_refl _) (Nat.le_add_right _ _) (Nat.le_add_right _ _)
  by_cases hs : c_sh s
  · have hs2 := hs
    unfold c_sh at hs2
    have hs' : s.toInt.toNat < 12 := by omega
    obtain ⟨c, hc⟩ := h.2.2.2.2.2.1 s.toInt.toNat hs'
    have hok := hc.ok h.2.2.1
    refine y_undo hd (c := c) (fun q => absurd hs q) (fun _ => hc.1) hc.2.2.1 (fun _ e => ?_) (fun _ c' e => ?_)
    · subst e
      exact hQ _ F T _ _ _ _ _ (w_ref_bad h (fun d Q hd hq => x_undo_0 hd hs2.1 (by omega) hc.2.1 hq)) hr0
    · subst e
      obtain ⟨b, b1, b2⟩ := hc.2.2.2.2 c' (by omega)
      refine ⟨b, b1, hQ _ F T _ _ _ _ _ (fun d Q hd hq => ?_) (hr.le (by rw [wd_up_ne _ _ (by omega)]; exact Int.le_refl _) (Nat.le_add_right _ _) (Nat.le_add_right _ _))⟩
      have hc9 : c' ≤ 9 := by have := hc.2.2.1; omega
      have hm : M 112 s.toInt.toNat = ab_ii ((c' : Int) + 1) := hc.2.1
      refine x_undo hd hs2.1 (by omega) hm hc9 (hq _ ?_)
      obtain ⟨h1, h2, h3, h4, h5, h6, h7, h8⟩ := h
      have er : ∀ a, a ≠ 110 → a ≠ 112 → m_undo M s.toInt.toNat c' a = M a := fun a a1 a2 => by unfold m_undo; rw [wd_up_row _ _ _ a1, wd_up_row _ _ _ a2]
      have e102 := er 102 (by decide) (by decide)
      exact ⟨m_ok_undo h1 hs' hm hc9, k_ok_undo h2 hs' hok b1, h3.mv (fun _ q => q) (fun _ _ => h_sm.rf) (fun _ _ _ => m_ra_of (fun a a1 a2 => er a (by omega) (by omega))) (by rw [e102]; exact Int.le_refl _), h4.fr (fun j => ⟨(wd_up_ne _ _ (by omega)).symm, wd_up_ne _ _ (by omega)⟩) ⟨by rw [e102], er 120 (by decide) (by decide)⟩, by rw [wd_up_ne _ _ (by omega), e102]; exact h5, h6.un hs' hc b1, h7.mv (fun _ _ q => q) (wd_up_ne _ _ (by omega)) (fun i => wd_up_ne _ _ (by omega)) (er 116 (by decide) (by decide)), h8.fr h2 (.of (fun _ _ q => wd_up_ne _ _ (by omega)) c_ofr.rf (fun _ _ q => wd_up_ne _ _ (by omega))) ⟨fun a a1 a2 a3 => er a (by omega) (by omega), by rw [e102]⟩⟩
  · refine y_undo hd (c := 0) (fun _ => ?_) (fun q => absurd q hs) (by omega) (fun q => absurd q hs) (fun q => absurd q hs)
    exact hQ _ F T _ _ _ _ _ (w_ref_bad h (fun d Q hd hq => x_undo_b hd (by unfold c_sh at hs; omega) hq)) hr0
theorem hc_take (hd : 50 ≤ d) (h : w_In F T I P M g k) (hr : k_rm (n + 1) I k z) {s f p q : Int32} (hQ : w_res 176 25 [wd_v 102, .inl s, .inl f, .inl p, .inl q] n M Q) : ab_CT d 110 [wd_v 0, .inl s, .inl f, .inl p, .inl q] (wd I P M g, k, z) Q := by
  have hr0 : k_rm n I k z := hr.le (Int.le_refl _) (Nat.le_add_right _ _) (Nat.le_add_right _ _)
  obtain ⟨a, ha⟩ := h.sh f
  obtain ⟨b, hb⟩ := h.pa p
  obtain ⟨c, hc⟩ : ∃ c, c_sh s → v_s1 F I P M s.toInt.toNat c := by
    by_cases hs : c_sh s
    · obtain ⟨c, hc⟩ := h.2.2.2.2.2.1 s.toInt.toNat (by unfold c_sh at hs; omega)
      exact ⟨c, fun _ => hc⟩
    · exact ⟨0, fun q => absurd q hs⟩
  obtain ⟨c9, hc9⟩ : ∃ c9 : Nat, (c_sh s → c9 = c) ∧ c9 ≤ 10 := by
    by_cases hs : c_sh s
    · exact ⟨c, fun _ => rfl, (hc hs).2.2.1⟩
    · exact ⟨0, fun q => absurd q hs, by omega⟩
  have hpm : 0 ≤ s.toInt → s.toInt ≤ 11 → M 112 s.toInt.toNat = ab_ii (c9 : Int) := fun q1 q2 => by
    have hs : c_sh s := ⟨q1, by omega⟩
    rw [hc9.1 hs]
    exact (hc hs).2.1
  have hrf : k_rm n (f_fnd I P g b a).1 k z := hr.le (by rw [f_fnd_ne.1 _ _ (by omega)]; exact Int.le_refl _) (Nat.le_add_right _ _) (Nat.le_add_right _ _)
  have hx := fun (I' : wd_I) (P' : wd_P) (d : Nat) (Q : ab_Q) (hd : 25 ≤ d) => x_take (d := d) (I := I') (P := P') (M := M) (g := g) (k := k) (z := z) (c := c9) (s := s) (f := f) (p := p) (n := q) (Q := Q) hd h.1.lok hpm hc9.2
  have hall : (0 ≤ s.toInt ∧ s.toInt ≤ 11 ∧ 0 ≤ f.toInt ∧ f.toInt ≤ 11 ∧ 0 ≤ p.toInt ∧ p.toInt ≤ 7) ↔ (c_sh s ∧ c_sh f ∧ c_pp p) := by unfold c_sh c_pp; omega
  have hm1 : (ab_ii (-1)).toInt = -1 := rfl
  refine y_take hd h.2.1.1 (fun e => ?_) (fun e => (hc e).ok h.2.2.1) (fun e => (ha e).1) (fun e => (hb e).1) (fun e e2 => ?_) (fun e e2 e3 => ?_)
  · exact hQ _ F T _ _ _ _ _ (w_ref_bad h (fun d Q hd hq => hx I P d Q hd (fun _ => hq) (fun q => absurd (hall.mp q) e) (fun q => absurd (hall.mp q) e))) hr0
  · have hf := (w_foc h e.2.1 e.2.2 (ha e.2.1).2 (hb e.2.2).2).2 e2
    exact hQ _ F T _ _ _ _ _ (fun d Q hd hq => hx _ _ d Q hd (fun q => absurd (hall.mpr e) q) (fun _ _ M' hE => hq M' (h.fnd.eqv hE)) (fun _ q => absurd (by rw [hf]; exact hm1) q)) hrf
  · have hf := (w_foc h e.2.1 e.2.2 (ha e.2.1).2 (hb e.2.2).2).1 e2 e3
    have hcs := hc e.1
    have ec := hc9.1 e.1
    subst ec
    have hs9 : s.toInt.toNat < 12 := by have := e.1; unfold c_sh at this; omega
    have hb0 := h.2.2.1.in hf
    refine hQ _ F T _ _ _ _ _ (fun d Q hd hq => ?_) (hr.le (by rw [s_becI_ne (by omega), f_fnd_ne.1 _ _ (by omega)]; exact Int.le_refl _) (Nat.le_add_right _ _) (Nat.le_add_right _ _))
    refine hx _ _ d Q hd (fun q => absurd (hall.mpr e) q) (fun _ q => by exfalso; omega) (fun _ _ M' hE => ?_)
    rw [← (h.2.2.1.1.p hf).2.2.1]
    refine hq _ ?_
    obtain ⟨h1, h2, h3, h4, h5, h6, h7, h8⟩ := (h.fnd (p := b) (a := a)).eqv hE
    obtain ⟨c', hc'⟩ := h6 s.toInt.toNat hs9
    have ec' : c' = c9 := by
      have e1 := hc'.1
      have e4 := hcs.1
      rw [f_fnd_ne.1 _ _ (by omega), e4] at e1
      have e5 := congrArg Int32.toInt e1
      have b1 := hc'.2.2.1
      rw [ab_tI (by omega) (by omega), ab_tI (by omega) (by omega)] at e5
      omega
    subst ec'
    have er : ∀ x, x ≠ 110 → x ≠ 111 → x ≠ 112 → m_becomes M' s.toInt.toNat (m_foc M f p q) c' x = M' x := fun x x1 x2 x3 => m_becomes_row x1 x2 x3
    have e102 := er 102 (by decide) (by decide) (by decide)
    have hTx := (h3.in (show F ((c_fs41 g b a).getD q.toInt.toNat 0) (m_foc M f p q) from hf)).1
    exact ⟨m_ok_bec h1 hs9 hc'.2.1 hc'.2.2.1 (by rw [hE.2.1]; exact hb0.2), h2.bec hs9 (hc'.ok h3) hTx, h3.mv (fun _ q => q) (fun _ _ => h_sm.rf) (fun _ _ _ => m_ra_of (fun a a1 a2 => er a (by omega) (by omega) (by omega))) (by rw [e102]; exact Int.le_refl _), h4.fr (fun j => ⟨(s_becI_ne (by omega)).symm, s_becI_ne (by omega)⟩) ⟨by rw [e102], er 120 (by decide) (by decide) (by decide)⟩, by rw [s_becI_ne (by omega), e102]; exact h5, h6.bec hs9 hc' hf, h7.mv (fun _ _ q => q) (s_becI_ne (by omega)) (fun i => s_becP_ne (by omega) (by omega)) (er 116 (by decide) (by decide) (by decide)), h8.fr h2 (.of (fun _ _ q => s_becI_fp q) c_ofr.rf (fun _ _ q => s_becP_fp q)) (r_fp.rf.bec)⟩
theorem hc_count (hd : 3 ≤ d) (h : w_In F T I P M g k) (hr : k_rm (n + 1) I k z) {w : Int32} (hQ : w_res 197 2 [wd_v 102, .inl w] n M Q) : ab_CT d 122 [wd_v 0, .inl w] (wd I P M g, k, z) Q := by
  have hr0 : k_rm n I k z := hr.le (Int.le_refl _) (Nat.le_add_right _ _) (Nat.le_add_right _ _)
  have hgo : ∀ r : Int32, (∀ (d : Nat) (Q : ab_Q), 2 ≤ d → Q (some (.inl r)) (wd I P M g, k, z) → ab_CT d 197 [wd_v 102, .inl w] (wd I P M g, k, z) Q) → Q (some (.inl r)) (wd I P M g, k, z) := fun r hx => hQ _ F T _ _ _ _ _ (w_ref_bad h hx) hr0
  refine y_count hd (fun e => hgo _ (fun d Q hd hq => ?_)) (fun e1 e2 => hgo _ (fun d Q hd hq => ?_)) (fun e1 e2 => ?_) (fun e => hgo _ (fun d Q hd hq => ?_)) (fun e => hgo _ (fun d Q hd hq => ?_))
  · exact x_count hd (fun q => by exfalso; omega) (fun q => by exfalso; omega) (fun q1 q2 => by exfalso; omega) (fun q1 q2 => by exfalso; omega) (fun _ => hq)
  · obtain ⟨c, hc⟩ := h.2.2.2.2.2.1 w.toInt.toNat (by omega)
    rw [hc.1] at hq
    exact x_count hd (fun q => by exfalso; omega) (fun q => by exfalso; omega) (fun q1 q2 => by rw [hc.2.1]; exact hq) (fun q1 q2 => by exfalso; omega) (fun q => by exfalso; omega)
  · obtain ⟨b, b1, b2⟩ := h.2.2.2.2.2.2.2.1 (w.toInt - 12).toNat (by omega)
    obtain ⟨b', b1', b2'⟩ := h.2.1.2.2.2.2.1 (w.toInt - 12).toNat (by omega)
    rw [b1] at b1'
    cases b1'
    refine ⟨b, b1, b2', hgo _ (fun d Q hd hq => ?_)⟩
    have e : M 115 (w.toInt - 12).toNat = ab_ii (p_n g b : Int) := by rw [b2.1]; exact (ab_ii_toInt _).symm
    exact x_count hd (fun q => by exfalso; omega) (fun q => by exfalso; omega) (fun q1 q2 => by exfalso; omega) (fun q1 q2 => by rw [e]; exact hq) (fun q => by exfalso; omega)
  · rw [h.2.2.2.1.1] at hq
    exact x_count hd (fun _ => hq) (fun q => by exfalso; omega) (fun q1 q2 => by exfalso; omega) (fun q1 q2 => by exfalso; omega) (fun q => by exfalso; omega)
  · rw [h.2.2.2.2.1] at hq
    exact x_count hd (fun q => by exfalso; omega) (fun _ => hq) (fun q1 q2 => by exfalso; omega) (fun q1 q2 => by exfalso; omega) (fun q => by exfalso; omega)
end
end
section
/-! ===== both objects: image, back, join alike (own text) ===== -/
section
variable {F : Nat → Int32 → Prop} {T : Nat → Prop} {I I' : wd_I} {P P' : wd_P} {M M' : wd_I} {g : Nat → ab_C} {k z n d : Nat} {Q : ab_Q}
theorem h_an {n0 : Int} (h : v_sh F I P M) (hk : h_k F T g M n0) : ∀ j, j ≤ 12 → c_an g P j = m_alln M j
  | 0, _ => rfl
  | j + 1, hj => by
    obtain ⟨c, -, -, -, ⟨a, a1, a2⟩, -⟩ := h j (by omega)
    unfold c_an m_alln
    rw [h_an h hk j (by omega), a1, show (some a).getD 0 = a from rfl, (hk.1.p a2).2.2.1]
theorem k_ok_image (h : k_ok T I P g k) : k_ok T (c_imI I) (c_imP P) g k := by
  have hsh := h.shT
  obtain ⟨h1, h2, h3, h4, h5, h6, h7⟩ := h
  unfold c_imI
  refine ⟨h1, h2, by rw [wd_up_ne _ _ (by omega)]; exact h3, fun j hj => ?_, fun p hp => ?_, by rw [wd_up_ne _ _ (by omega)]; exact h6, fun _ => ⟨fun j hj => ?_, fun p hp => ?_⟩⟩
  · obtain ⟨c, hc⟩ := h4 j hj
    exact ⟨c, s_ok_eq hc (wd_up_ne _ _ (by omega)) (c_imP_sh hj) (fun i => by unfold c_imP; rw [c_iP_ne (by omega), c_iT_ne (by omega)])⟩
  · unfold c_imP; rw [c_iP_ne (by omega), c_iT_ne (by omega)]; exact h5 p hp
  · unfold c_imP; rw [c_iP_ne (by omega), c_iT_at 12 hj]; exact hsh j hj
  · unfold c_imP; rw [c_iP_at 8 hp, c_iT_ne (by omega)]; exact h5 p hp
theorem k_ok_back (h : k_ok T I P g k) (q : ¬ (I 0 11).toInt = 0) : k_ok T (c_bI I 12) (c_baP P) g k := by
  obtain ⟨h1, h2, h3, h4, h5, h6, h7⟩ := h
  obtain ⟨q1, q2⟩ := h7 q
  refine ⟨h1, h2, by rw [c_bI_ne (fun j hj => by omega) 12 (by omega)]; exact h3, fun j hj => ⟨0, c_bI_at 12 hj, by omega, ?_, fun i hi => absurd hi (Nat.not_lt_zero _)⟩, fun p hp => ?_, by rw [c_bI_ne (fun j hj => by omega) 12 (by omega)]; exact h6, fun _ => ⟨fun j hj => ?_, fun p hp => ?_⟩⟩
  · rw [c_baP_sh hj]; exact q1 j hj
  · unfold c_baP; rw [c_bP_at 8 hp, c_bT_ne (fun j hj => by omega) 12 (by omega)]; exact q2 p hp
  · unfold c_baP; rw [c_bP_ne (by omega), c_bT_ne (fun j hj => by omega) 12 (by omega)]; exact q1 j hj
  · unfold c_baP; rw [c_bP_ne (by omega), c_bT_ne (fun j hj => by omega) 12 (by omega)]; exact q2 p hp
theorem w_In.im (h : w_In F T I P M g k) : w_In F T (c_imI I) (c_imP P) (m_image M) g k := by
  obtain ⟨h1, h2, h3, h4, h5, h6, h7, h8⟩ := h
  have er : ∀ a, a ≠ 102 → a ≠ 116 → a ≠ 117 → a ≠ 118 → a ≠ 119 → m_image M a = M a := fun a a1 a2 a3 a4 a5 => by
    funext j
    unfold m_image
    rw [wd_up_row _ _ _ a1, m_cp_ne a5, m_cq_ne ⟨a3, a4⟩, m_cp_ne a2]
  have en : ∀ j, j ≠ 20 → m_image M 102 j = M 102 j := fun j hj => by
    unfold m_image
    rw [wd_up_ne _ _ (Or.inr hj), m_cp_ne (by decide), m_cq_ne ⟨by decide, by decide⟩, m_cp_ne (by decide)]
  obtain ⟨s1, s2⟩ := v_im h6
  exact ⟨(m_ok_image h1).1, k_ok_image h2, h3.mv (fun _ q => q) (fun _ _ => h_sm.rf) (fun _ _ _ => m_ra_of (fun a a1 a2 => er a (by omega) (by omega) (by omega) (by omega) (by omega))) (by rw [en 8 (by decide)]; exact Int.le_refl _), h4.fr (fun j => ⟨(wd_up_ne _ _ (by omega)).symm, wd_up_ne _ _ (by omega)⟩) ⟨en 22 (by decide), er 120 (by decide) (by decide) (by decide) (by decide) (by decide)⟩, by rw [en 9 (by decide), ← h5]; exact wd_up_ne _ _ (by omega), s1, s2, h8.im h2⟩
theorem w_In.bk (h : w_In F T I P M g k) (q : ¬ (I 0 11).toInt = 0) : w_In F T (c_bI I 12) (c_baP P) (m_back M) g k := by
  obtain ⟨h1, h2, h3, h4, h5, h6, h7, h8⟩ := h
  have q2 : ¬ (M 102 20).toInt = 0 := fun e => q (h8.2.1.mpr e)
  have er : ∀ a, a ≠ 110 → a ≠ 112 → a ≠ 113 → a ≠ 114 → a ≠ 115 → m_back M a = M a := fun a a1 a2 a3 a4 a5 => by
    funext j
    unfold m_back
    rw [m_cp_ne a5, m_cq_ne ⟨a3, a4⟩, m_cz_ne ⟨a1, a2⟩]
  have e102 := er 102 (by decide) (by decide) (by decide) (by decide) (by decide)
  have eI : ∀ a j, (∀ i, i < 12 → a ≠ 18 + 5 * i) → c_bI I 12 a j = I a j := fun a j ha => by rw [c_bI_ne ha 12 (by omega)]
  obtain ⟨s1, s2⟩ := v_bk h7 q
  exact ⟨(m_ok_back h1 q2).1, k_ok_back h2 q, h3.mv (fun _ q => q) (fun _ _ => h_sm.rf) (fun _ _ _ => m_ra_of (fun a a1 a2 => er a (by omega) (by omega) (by omega) (by omega) (by omega))) (by rw [e102]; exact Int.le_refl _), h4.fr (fun j => ⟨(eI 1 1 (fun i _ => by omega)).symm, eI 2 j (fun i _ => by omega)⟩) ⟨by rw [e102], er 120 (by decide) (by decide) (by decide) (by decide) (by decide)⟩, by rw [e102, ← h5]; exact eI 9 0 (fun i _ => by omega), s1, s2, h8.bk h2 q⟩
theorem hc_image (hd : 5 ≤ d) (h : w_In F T I P M g k) (hr : k_rm (n + 1) I k z) (hQ : w_res 195 2 [wd_v 102] n M Q) : ab_CT d 120 [wd_v 0] (wd I P M g, k, z) Q := by
  have h' := h.im
  refine y_image hd h.2.1.1 h.2.1.shT h.2.1.2.2.2.2.1 (hQ _ F T _ _ _ _ _ (fun d Q hd hq => x_image hd (m_ok_sh3 h.1) ?_) (hr.le (by unfold c_imI; rw [wd_up_ne _ _ (by omega)]; exact Int.le_refl _) (Nat.le_add_right _ _) (Nat.le_add_right _ _)))
  rw [← h_an h'.2.2.2.2.2.1 h'.2.2.1 12 (Nat.le_refl _)]
  exact hq _ h'
theorem hc_back (hd : 5 ≤ d) (h : w_In F T I P M g k) (hr : k_rm (n + 1) I k z) (hQ : w_res 196 2 [wd_v 102] n M Q) : ab_CT d 121 [wd_v 0] (wd I P M g, k, z) Q := by
  have hr0 : k_rm n I k z := hr.le (Int.le_refl _) (Nat.le_add_right _ _) (Nat.le_add_right _ _)
  have hfl := h.2.2.2.2.2.2.2.2.1
  refine y_back hd h.2.1.1 (fun q => ?_) (fun q => h.2.1.2.2.2.2.2.2 q) (fun q => ?_)
  · refine hQ _ F T _ _ _ _ _ (w_ref_bad h (fun d Q hd hq => ?_)) hr0
    exact x_back hd (fun _ => hq) (fun e => absurd (hfl.mp q) e) (fun e => absurd (hfl.mp q) e)
  · have h' := h.bk q
    have q2 : ¬ (M 102 20).toInt = 0 := fun e => q (hfl.mpr e)
    refine hQ _ F T _ _ _ _ _ (fun d Q hd hq => x_back hd (fun e => absurd e q2) (fun e => m_ok_sh3 (m_ok_back h.1 e).1) (fun e => ?_)) (hr.le (by rw [c_bI_ne (fun j hj => by omega) 12 (by omega)]; exact Int.le_refl _) (Nat.le_add_right _ _) (Nat.le_add_right _ _))
    rw [← h_an h'.2.2.2.2.2.1 h'.2.2.1 12 (Nat.le_refl _)]
    exact hq _ h'
end
end
section
/-! ===== both objects: join, feed alike (own text) ===== -/
section
variable {F : Nat → Int32 → Prop} {T : Nat → Prop} {I I' : wd_I} {P P' : wd_P} {M M' : wd_I} {g : Nat → ab_C} {k z n d : Nat} {Q : ab_Q}
theorem hc_join (hd : 4 ≤ d) (h : w_In F T I P M g k) (hr : k_rm (n + 1) I k z) {p o : Int32} (hQ : w_res 160 3 [wd_v 102, .inl p, .inl o] n M Q) : ab_CT d 107 [wd_v 0, .inl p, .inl o] (wd I P M g, k, z) Q := by
  have hr0 : k_rm n I k z := hr.le (Int.le_refl _) (Nat.le_add_right _ _) (Nat.le_add_right _ _)
  have hrb := hr.b h.2.1.2.2.1.2
  obtain ⟨a, ha⟩ := h.pa p
  obtain ⟨b, hb⟩ := h.pa o
  have hall : (0 ≤ p.toInt ∧ p.toInt ≤ 7 ∧ 0 ≤ o.toInt ∧ o.toInt ≤ 7) ↔ (c_pp p ∧ c_pp o) := by unfold c_pp; omega
  have hpn : ∀ (q : Int32) (x : Nat), h_pt g M 113 114 115 x q.toInt.toNat → M 115 q.toInt.toNat = ab_ii (p_n g x : Int) := fun q x hx => by rw [hx.1]; exact (ab_ii_toInt _).symm
  refine y_join hd h.2.1.2.1 (fun e => ?_) (fun e => (ha e).1) (fun e => (hb e).1) ⟨by omega, by omega⟩ (fun e1 e2 e3 => ?_) (fun e1 e2 e3 => ?_)
  · exact hQ _ F T _ _ _ _ _ (w_ref_bad h (fun d Q hd hq => x_join_b hd (fun q => e (hall.mp q)) hq)) hr0
  · have pa := (ha e1).2
    have pb := (hb e2).2
    exact hQ _ F T _ _ _ _ _ (w_ref_bad h (fun d Q hd hq => x_join hd (hpn p a pa) (hpn o b pb) pa.2.1 pb.2.1 (fun q => absurd (hall.mpr ⟨e1, e2⟩) q) (fun _ _ => hq) (fun _ q => by exfalso; omega))) hr0
  · have pa := (ha e1).2
    have pb := (hb e2).2
    refine hQ _ F T _ _ _ _ _ (fun d Q hd hq => x_join hd (hpn p a pa) (hpn o b pb) pa.2.1 pb.2.1 (fun q => absurd (hall.mpr ⟨e1, e2⟩) q) (fun _ q => by exfalso; omega) (fun _ _ => ?_)) (hr.le (Int.le_refl _) (by omega) (by omega))
    have hp8 : p.toInt.toNat < 8 := by unfold c_pp at e1; omega
    have ho8 : o.toInt.toNat < 8 := by unfold c_pp at e2; omega
    refine hq _ ?_
    obtain ⟨h1, h2, h3, h4, h5, h6, h7, h8⟩ := h
    have er : ∀ x, x ≠ 113 → x ≠ 114 → x ≠ 115 → m_joins M p.toInt.toNat o.toInt.toNat (p_n g a) (p_n g b) x = M x := fun x x1 x2 x3 => m_joins_row x1 x2 x3 _
    have e102 := er 102 (by decide) (by decide) (by decide)
    exact ⟨m_ok_joins h1 hp8 (hpn p a pa) e3, h2.pset c_mkp_of (by omega) (c_mkp_wf h2.2.1 e3).1 (fun _ _ _ => rfl) h2.2.2.2.2.2.1, h3.mv (fun _ q => q) (fun x hx => h_sm_wf (c_wf_xt (k' := k + 3) (h2.1 x hx) c_mkp_of (by omega))) (fun _ _ _ => m_ra_of (fun x x1 x2 => er x (by omega) (by omega) (by omega))) (by rw [e102]; exact Int.le_refl _), h4.fr (fun _ => ⟨rfl, rfl⟩) ⟨by rw [e102], er 120 (by decide) (by decide) (by decide)⟩, by rw [e102]; exact h5, h6.mv (fun _ _ q => q) (fun s hs => ⟨rfl, wd_up_ne _ _ (by omega), fun i => wd_up_ne _ _ (by omega)⟩) (fun x x1 x2 => er x (by omega) (by omega) (by omega)), h7.mv (fun _ _ q => q) rfl (fun i => wd_up_ne _ _ (by omega)) (er 116 (by decide) (by decide) (by decide)), h8.jn h2 hp8 ho8 (ha e1).1.1 (hb e2).1.1 e3⟩
theorem k_ok_fed2 {c j : Nat} {w : Int32} (h : k_ok T I P g k) (hn : I 1 1 = ab_ii (c : Int)) (hj : c + j ≤ 100) : k_ok T (c_fed I w c j) P g k := h.fr h.1 (fun _ q => q) c_ofr.rf (Nat.le_refl _) (k_sm_of (fun a i q => c_fed_ne (by omega) (by omega) j) (fun _ _ _ => rfl)) (by rw [c_fed_ne (by omega) (by omega) j]; exact h.2.2.1) ⟨c + j, c_fed_n hn j, hj⟩
theorem v_fed_row {w : Int32} {c a : Nat} (h1 : a ≠ 102) (h2 : a ≠ 120) : ∀ j, m_fed M w c j a = M a
  | 0 => rfl
  | j + 1 => by
    unfold m_fed
    rw [wd_up_row _ _ _ h1, wd_up_row _ _ _ h2, v_fed_row h1 h2 j]
theorem v_fed_102 {w : Int32} {c i : Nat} (h1 : i ≠ 22) : ∀ j, m_fed M w c j 102 i = M 102 i
  | 0 => rfl
  | j + 1 => by
    unfold m_fed
    rw [wd_up_ne _ _ (Or.inr h1), wd_up_row _ _ _ (by decide), v_fed_102 h1 j]
theorem hc_feed (hd : 3 ≤ d) (h : w_In F T I P M g k) (hr : k_rm (n + 1) I k z) {a w : Int32} (hQ : w_res 142 2 [wd_v 102, .inl a, .inl w] n M Q) : ab_CT d 104 [wd_v 0, .inl a, .inl w] (wd I P M g, k, z) Q := by
  have hr0 : k_rm n I k z := hr.le (Int.le_refl _) (Nat.le_add_right _ _) (Nat.le_add_right _ _)
  obtain ⟨c, hc, hc1⟩ := h.2.1.2.2.2.2.2.1
  have hm : M 102 22 = ab_ii (c : Int) := h.2.2.2.1.1.symm.trans hc
  refine y_feed hd hc hc1 (fun e => ?_) (fun e1 e2 e3 => ?_) (fun e1 e2 e3 => ?_)
  · exact hQ _ F T _ _ _ _ _ (w_ref_bad h (fun d Q hd hq => x_feed hd hm hc1 (fun _ => hq) (fun q1 q2 q3 => by exfalso; omega) (fun q1 q2 q3 => by exfalso; omega))) hr0
  · exact hQ _ F T _ _ _ _ _ (w_ref_bad h (fun d Q hd hq => x_feed hd hm hc1 (fun q => by exfalso; omega) (fun _ _ _ => hq) (fun q1 q2 q3 => by exfalso; omega))) hr0
  · have hj : c + a.toInt.toNat ≤ 100 := by omega
    have hne : ∀ x i, x ≠ 2 → ¬ (x = 1 ∧ i = 1) → c_fed I w c a.toInt.toNat x i = I x i := fun x i q1 q2 => c_fed_ne q1 q2 _
    refine hQ _ F T _ _ _ _ _ (fun d Q hd hq => x_feed hd hm hc1 (fun q => by exfalso; omega) (fun q1 q2 q3 => by exfalso; omega) (fun _ _ _ => hq _ ?_)) (hr.le (by rw [hne 9 0 (by omega) (by omega)]; exact Int.le_refl _) (Nat.le_add_right _ _) (Nat.le_add_right _ _))
    obtain ⟨h1, h2, h3, h4, h5, h6, h7, h8⟩ := h
    have er : ∀ x, x ≠ 102 → x ≠ 120 → m_fed M w c a.toInt.toNat x = M x := fun x x1 x2 => v_fed_row x1 x2 _
    have htb := v_tb.fed (I := I) (M := M) (w := w) (c := c) (j := a.toInt.toNat) h4.2 hm hj (by omega)
    have en : ∀ i, i ≠ 22 → m_fed M w c a.toInt.toNat 102 i = M 102 i := fun i hi => v_fed_102 hi _
    refine ⟨m_ok_fed h1 hm hj, k_ok_fed2 h2 hc hj, h3.mv (fun _ q => q) (fun _ _ => h_sm.rf) (fun _ _ _ => m_ra_of (fun x x1 x2 => er x (by omega) (by omega))) (by rw [en 8 (by decide)]; exact Int.le_refl _), ⟨by rw [c_fed_n hc, m_fed_n hm]; congr 1, htb⟩, by rw [en 9 (by decide), hne 9 0 (by omega) (by omega)]; exact h5, h6.mv (fun _ _ q => q) (fun s hs => ⟨hne _ _ (by omega) (by omega), rfl, fun _ => rfl⟩) (fun x x1 x2 => er x (by omega) (by omega)), h7.mv (fun _ _ q => q) (hne 0 11 (by omega) (by omega)) (fun _ => rfl) (er 116 (by decide) (by decide)), ?_⟩
    obtain ⟨u1, u2, u3⟩ := h8
    have e0 := hne 0 11 (by omega) (by omega)
    refine ⟨u1.fr h2.2.2.2.2.1 c_ofr.rf (fun _ _ => rfl) (fun i _ => by rw [er 113 (by decide) (by decide)]) (fun i _ => by rw [er 114 (by decide) (by decide)]) (fun i _ => by rw [er 115 (by decide) (by decide)]), by rw [e0, en 20 (by decide)]; exact u2, fun q => ?_⟩
    rw [e0] at q
    exact (u3 q).fr (h2.2.2.2.2.2.2 q).2 c_ofr.rf (fun _ _ => rfl) (fun i _ => by rw [er 117 (by decide) (by decide)]) (fun i _ => by rw [er 118 (by decide) (by decide)]) (fun i _ => by rw [er 119 (by decide) (by decide)])
end
end
section
/-! ===== both objects: path alike (own text) ===== -/
section
variable {F : Nat → Int32 → Prop} {T : Nat → Prop} {I I' : wd_I} {P P' : wd_P} {M M' : wd_I} {g : Nat → ab_C} {k z n d : Nat} {Q : ab_Q}
theorem v_p2_n (hb : 0 ≤ (M 102 22).toInt ∧ (M 102 22).toInt ≤ 100) {j : Nat} (j1 : j ≠ 22) (j2 : j ≠ 23) (j3 : j ≠ 24) (j4 : j ≠ 26) (j5 : j ≠ 27) : m_p2 M 102 j = M 102 j := by
  have ht : m_tp (m_p0 M) := by
    have e1 : m_p0 M 102 23 = ab_ii 0 := by unfold m_p0; rw [wd_up_ne _ _ (by omega), wd_up_self]
    have e3 : m_p0 M 102 22 = M 102 22 := by unfold m_p0; rw [wd_up_ne _ _ (by omega), wd_up_ne _ _ (by omega)]
    unfold m_tp
    rw [e1, e3]
    exact ⟨by decide, hb.1, hb.2⟩
  obtain ⟨g1, g2, -⟩ := (m_pl_pg 102 0 (m_p0 M) ht (by omega)).1
  unfold m_p2
  rw [wd_up_ne _ _ (Or.inr j1)]
  show (m_pl 102 0 (m_p0 M)).1 102 j = _
  rw [g2 j j2 j3 j4 j5]
  unfold m_p0
  rw [wd_up_ne _ _ (Or.inr j3), wd_up_ne _ _ (Or.inr j2)]
theorem v_p3_r {p : Nat} {a : Nat} (a1 : a ≠ 113) (a2 : a ≠ 114) (a3 : a ≠ 115) : m_p3 M p a = m_p2 M a := by
  unfold m_p3
  rw [wd_up_row _ _ _ a3, m_pcp_row a1 a2]
theorem hc_path (hd : 8 ≤ d) (h : w_In F T I P M g k) (hr : k_rm (n + 1) I k z) {p : Int32} (hQ : w_res 159 6 [wd_v 102, .inl p] n M Q) : ab_CT d 106 [wd_v 0, .inl p] (wd I P M g, k, z) Q := by
  have hr0 : k_rm n I k z := hr.le (Int.le_refl _) (Nat.le_add_right _ _) (Nat.le_add_right _ _)
  have hrb := hr.b h.2.1.2.2.1.2
  have htp := h.2.1.tp
  have ht := h.2.2.2.1
  have hb2 : 0 ≤ (M 102 22).toInt ∧ (M 102 22).toInt ≤ 100 := by rw [← ht.1]; exact htp
  obtain ⟨w1, w2⟩ := r_who_pf htp
  obtain ⟨v1, v2⟩ := h_who ht htp
  have h8 : r_len I ≤ 8 := by have := r_loop_le 8 (r_new I) 0; unfold r_len; omega
  obtain ⟨r1, r2⟩ := m_p2_r hb2
  have rn := fun j => v_p2_n (j := j) hb2
  have hJ : ∀ a j, a ≠ 5 → a ≠ 6 → a ≠ 1 → wd_up (r_who I) 1 1 (ab_ii 0) a j = I a j := fun a j q1 q2 q3 => (wd_up_ne _ _ (Or.inl q3)).trans (w1 a j q1 q2 (fun e => q3 e.1))
  have e1 : wd_up (r_who I) 1 1 (ab_ii 0) 1 1 = ab_ii 0 := wd_up_self _ _ _ _
  have hr1 : ∀ k' z', k' ≤ k + 700 → z' ≤ z + 7000 → k_rm n (wd_up (r_who I) 1 1 (ab_ii 0)) k' z' := fun k' z' q1 q2 => hr.le (by rw [hJ 9 0 (by omega) (by omega) (by omega)]; exact Int.le_refl _) q1 q2
  have htp0 : ∀ M', M' 102 22 = ab_ii 0 → h_tp (wd_up (r_who I) 1 1 (ab_ii 0)) M' := fun M' e => ⟨e1.trans e.symm, v_tb_0 e⟩
  have h24 : m_p2 M 102 24 = (m_p1 M).1 102 24 := by unfold m_p2; exact wd_up_ne _ _ (Or.inr (by decide))
  refine y_path hd h.2.1.2.1 htp ⟨by omega, by omega⟩ (fun e => ?_) (fun e e2 => ?_) (fun e e2 => ?_)
  · exact hQ _ F T _ _ _ _ _ (w_ref_bad h (fun d Q hd hq => x_pathS hd ht htp (fun _ => hq) (fun q => absurd q e) (fun q => absurd q e))) hr0
  · refine hQ _ F T _ _ _ _ _ (fun d Q hd hq => x_pathS hd ht htp (fun q => absurd e q) (fun _ _ => hq _ ?_) (fun _ q => by exfalso; omega)) (hr1 _ _ (by omega) (by omega))
    obtain ⟨h1, h2, h3, h4, h5, h6, h7, h8'⟩ := h
    exact ⟨(m_ok_p2 h1).1, h2.fr h2.1 (fun _ q => q) c_ofr.rf (Nat.le_refl _) (k_sm_of (fun a j q => hJ a j (by omega) (by omega) (by omega)) (fun _ _ _ => rfl)) (by rw [hJ 9 0 (by omega) (by omega) (by omega)]; exact h2.2.2.1) ⟨0, e1, by omega⟩, h3.mv (fun _ q => q) (fun _ _ => h_sm.rf) (fun _ _ _ => m_ra_of (fun x x1 x2 => r1 x (by omega) (by omega) (by omega))) (by rw [rn 8 (by decide) (by decide) (by decide) (by decide) (by decide)]; exact Int.le_refl _), htp0 _ (m_ok_p2 h1).2.2, by rw [hJ 9 0 (by omega) (by omega) (by omega), rn 9 (by decide) (by decide) (by decide) (by decide) (by decide)]; exact h5, h6.mv (fun _ _ q => q) (fun s hs => ⟨hJ _ _ (by omega) (by omega) (by omega), rfl, fun _ => rfl⟩) (fun x x1 x2 => r1 x (by omega) (by omega) (by omega)), h7.mv (fun _ _ q => q) (hJ 0 11 (by omega) (by omega) (by omega)) (fun _ => rfl) (r1 116 (by decide) (by decide) (by decide)), h8'.ptf h2 hb2 (hJ 0 11 (by omega) (by omega) (by omega))⟩
  · have hp8 : p.toInt.toNat < 8 := by unfold c_pp at e; omega
    refine hQ _ F T _ _ _ _ _ (fun d Q hd hq => x_pathS hd ht htp (fun q => absurd e q) (fun _ q => by exfalso; omega) (fun _ _ => hq _ ?_)) (hr1 _ _ (by omega) (by omega))
    obtain ⟨h1, h2, h3, h4, h5, h6, h7, h8'⟩ := h
    have hp3 := m_ok_p3 h1 (p := p.toInt.toNat) hp8
    have hu : (m_p2 M 102 24).toInt = -1 := by
      rw [h24]
      have e3 := v1.2.2.2.1
      rcases v1.f0 with q | q
      · exact q
      · rw [← e3] at q; omega
    have er : ∀ x, x ≠ 102 → x ≠ 113 → x ≠ 114 → x ≠ 115 → x ≠ 121 → x ≠ 122 → m_p3 M p.toInt.toNat x = M x := fun x x0 x1 x2 x3 x4 x5 => (v_p3_r x1 x2 x3).trans (r1 x x0 x4 x5)
    have en : ∀ j, j ≠ 22 → j ≠ 23 → j ≠ 24 → j ≠ 26 → j ≠ 27 → m_p3 M p.toInt.toNat 102 j = M 102 j := fun j j1 j2 j3 j4 j5 => by rw [v_p3_r (by decide) (by decide) (by decide)]; exact rn j j1 j2 j3 j4 j5
    exact ⟨hp3.1, h2.pset c_mkr_of (by omega) (c_mkr_wf h2.2.1 h8).1 (fun a j q => hJ a j (by omega) (by omega) (by omega)) ⟨0, e1, by omega⟩, h3.mv (fun _ q => q) (fun x hx => h_sm_wf (c_wf_xt (k' := k + 1 + 1 + 1) (h2.1 x hx) c_mkr_of (by omega))) (fun _ _ _ => m_ra_of (fun x x1 x2 => er x (by omega) (by omega) (by omega) (by omega) (by omega) (by omega))) (by rw [en 8 (by decide) (by decide) (by decide) (by decide) (by decide)]; exact Int.le_refl _), htp0 _ hp3.2, by rw [hJ 9 0 (by omega) (by omega) (by omega), en 9 (by decide) (by decide) (by decide) (by decide) (by decide)]; exact h5, h6.mv (fun _ _ q => q) (fun s hs => ⟨hJ _ _ (by omega) (by omega) (by omega), wd_up_ne _ _ (by omega), fun _ => wd_up_ne _ _ (by omega)⟩) (fun x x1 x2 => er x (by omega) (by omega) (by omega) (by omega) (by omega) (by omega)), h7.mv (fun _ _ q => q) (hJ 0 11 (by omega) (by omega) (by omega)) (fun _ => wd_up_ne _ _ (by omega)) (er 116 (by decide) (by decide) (by decide) (by decide) (by decide) (by decide)), h8'.pth h2 ht htp hp8 hu (hJ 0 11 (by omega) (by omega) (by omega))⟩
end
end
section
/-! ===== both objects: thing alike (own text) ===== -/
section
variable {F : Nat → Int32 → Prop} {T : Nat → Prop} {I I' : wd_I} {P P' : wd_P} {M M' : wd_I} {g : Nat → ab_C} {k z n d : Nat} {Q : ab_Q}
theorem w_In.hk9 (h : w_In F T I P M g k) : 1 ≤ (M 102 8).toInt ∧ (M 102 8).toInt ≤ 3012 := by have := m_ok_b h.1; omega
/-- what a reading leaves, and nothing kept of it -/
theorem w_thn (h : w_In F T I P M g k) : ∃ T', w_In F T' (r_RJ (I, g, k, z)) P (m_rs M (m_th2 M)) (r_R (I, g, k, z)).2.2.1 (r_R (I, g, k, z)).2.2.2.1 ∧ (r_R (I, g, k, z)).2.2.2.1 ≤ k + 600 ∧ (r_R (I, g, k, z)).2.2.2.2 ≤ z + 6100 := by
  obtain ⟨h1, h2, h3, h4, h5, h6, h7, h8⟩ := h
  obtain ⟨T', g1, g2, g3, g4, g5, g6⟩ := r_R_gd (z := z) h2.1 h2.2.1 h2.tp
  have hb := m_ok_b h1
  have htp : 0 ≤ (M 102 22).toInt ∧ (M 102 22).toInt ≤ 100 := by rw [← h4.1]; exact h2.tp
  have hp := m_th0_rp (M := M) (by omega) hb.2.1 htp
  have hrr := m_rd_rr 13 (m_th0 M) hp
  have hfr := hrr.1.1
  rw [m_th0_n (by decide)] at hfr
  have hsb : m_sb (M 102 8).toInt M (m_th2 M) := by
    refine ⟨fun t ht => ?_, fun i hi => ?_⟩
    · rw [m_th2_row (by decide), m_th2_row (by decide), m_th2_row (by decide), m_th2_row (by decide), m_th2_row (by decide)]
      have := hfr.1.1 t ht
      rw [m_th0_row (by decide), m_th0_row (by decide), m_th0_row (by decide), m_th0_row (by decide), m_th0_row (by decide)] at this
      exact this
    · rw [m_th2_row (by decide), m_th2_row (by decide)]
      have := hfr.1.2 i hi
      rw [m_th0_row (by decide), m_th0_row (by decide)] at this
      exact this
  have hrow : ∀ a, 110 ≤ a → a ≤ 120 → m_th2 M a = M a := fun a a1 a2 => by
    rw [m_th2_row (by omega), show (m_th1 M).1 a = m_th0 M a from hfr.2.1 a a1, m_th0_row (by omega)]
  have hnn : ∀ j, j ≠ 8 → j ≠ 22 → j ≠ 23 → j ≠ 24 → j ≠ 25 → m_th2 M 102 j = M 102 j := fun j j1 j2 j3 j4 j5 => by
    rw [m_th2_n ⟨j2, j4⟩, show (m_th1 M).1 102 j = m_th0 M 102 j from hfr.2.2 j j1 j3 j4 j5, m_th0_n ⟨j3, j4, j5⟩]
  have e9 := hnn 9 (by decide) (by decide) (by decide) (by decide) (by decide)
  have e20 := hnn 20 (by decide) (by decide) (by decide) (by decide) (by decide)
  have e22 : m_th2 M 102 22 = ab_ii 0 := by unfold m_th2; rw [wd_up_self]
  have hrs : m_ok (m_rs M (m_th2 M)) := m_ok_rs h1 hsb (m_9_e e9) (by rw [e9]; exact hb.2.2.2) (fun a a1 a2 => hrow a a1 (by omega)) e20 ⟨0, e22, by omega⟩
  have er : ∀ a, a ≠ 102 → m_rs M (m_th2 M) a = m_th2 M a := fun a ha => by unfold m_rs; rw [wd_up_row _ _ _ ha]
  have en : ∀ j, j ≠ 8 → m_rs M (m_th2 M) 102 j = m_th2 M 102 j := fun j hj => by unfold m_rs; rw [wd_up_ne _ _ (Or.inr hj)]
  have en8 : m_rs M (m_th2 M) 102 8 = M 102 8 := by unfold m_rs; rw [wd_up_self]
  have hJ : ∀ a j, ¬ (a = 1) → r_RJ (I, g, k, z) a j = I a j := fun a j q => (wd_up_ne _ _ (by omega)).trans (g3 a j (by omega))
  have hJ1 : r_RJ (I, g, k, z) 1 1 = ab_ii 0 := wd_up_self _ _ _ _
  have hk0 : k_ok T' (r_RJ (I, g, k, z)) P (r_R (I, g, k, z)).2.2.1 (r_R (I, g, k, z)).2.2.2.1 := h2.fr (c_hs_wf g1) g1.inc (c_hs_ofr g1) (c_hs_kk g1) (k_sm_of (fun a j q => hJ a j (by omega)) (fun _ _ _ => rfl)) (by rw [hJ 9 0 (by omega)]; exact h2.2.2.1) ⟨0, hJ1, by omega⟩
  exact ⟨T', ⟨hrs, hk0, h3.mv g1.inc (h_sm_st (S := (I, g, k, z)) h2.1 g1) (fun b u q => by
    have := (h3.in q)
    have ra := hsb.ra (q := u.toInt.toNat) (by omega)
    exact ra.tr (m_ra_of (fun a a1 a2 => er a (by omega)))) (by rw [en8]; exact Int.le_refl _), ⟨hJ1.trans ((en 22 (by decide)).trans e22).symm, v_tb_0 ((en 22 (by decide)).trans e22)⟩, by rw [hJ 9 0 (by omega), en 9 (by decide), e9]; exact h5, h6.mv (fun _ _ q => q) (fun s hs => ⟨hJ _ _ (by omega), rfl, fun _ => rfl⟩) (fun x x1 x2 => (er x (by omega)).trans (hrow x x1 (by omega))), h7.mv (fun _ _ q => q) (hJ 0 11 (by omega)) (fun _ => rfl) ((er 116 (by decide)).trans (hrow 116 (by decide) (by decide))), h8.fr h2 (.of (fun a j q => hJ a j (by omega)) (c_hs_ofr g1) (fun _ _ _ => rfl)) (.rs hrow e20)⟩, g5, g6⟩
end
end
section
/-! ===== both objects: thing kept (own text) ===== -/
section
variable {F F' : Nat → Int32 → Prop} {T T' : Nat → Prop} {I I' : wd_I} {P P' : wd_P} {M M' : wd_I} {g : Nat → ab_C} {k z n d : Nat} {Q : ab_Q}
theorem w_thy (h : w_In F T I P M g k) (hu : (m_th2 M 102 24).toInt = -1) {a s c : Nat} {v : Int32} (hs : s < 12) (hc : v_s1 F I P M s c) (g1 : c_hs T (I, g, k, z) T' (r_R (I, g, k, z)).2) (hF : ∀ b u, F b u → F' b u) (hk' : h_k F' T' (r_R (I, g, k, z)).2.2.1 (m_th2 M) (m_th2 M 102 8).toInt) (ha : F' a (m_th1 M).2) (hv : v = m_th3 M) (hle : (m_th3 M).toInt ≤ 3000) : w_In F' T' (s_becI (wd_up (r_RJ (I, g, k, z)) 9 0 v) s c) (s_becP P s c a) (m_becomes (wd_up (m_th2 M) 102 9 (m_th3 M)) s (m_th1 M).2 c) (r_R (I, g, k, z)).2.2.1 (r_R (I, g, k, z)).2.2.2.1 := by
  have hh9 := h.hk9
  obtain ⟨h1, h2, h3, h4, h5, h6, h7, h8⟩ := h
  obtain ⟨-, -, -, g3, g4, g5, g6⟩ := r_R_gd (z := z) h2.1 h2.2.1 h2.tp
  have hb := m_ok_b h1
  have htp : 0 ≤ (M 102 22).toInt ∧ (M 102 22).toInt ≤ 100 := by rw [← h4.1]; exact h2.tp
  have hp := m_th0_rp (M := M) (by omega) hb.2.1 htp
  have hrr := m_rd_rr 13 (m_th0 M) hp
  have hfr := hrr.1.1
  rw [m_th0_n (by decide)] at hfr
  have hrow : ∀ a, 110 ≤ a → a ≤ 120 → m_th2 M a = M a := fun a a1 a2 => by
    rw [m_th2_row (by omega), show (m_th1 M).1 a = m_th0 M a from hfr.2.1 a a1, m_th0_row (by omega)]
  have hnn : ∀ j, j ≠ 8 → j ≠ 22 → j ≠ 23 → j ≠ 24 → j ≠ 25 → m_th2 M 102 j = M 102 j := fun j j1 j2 j3 j4 j5 => by
    rw [m_th2_n ⟨j2, j4⟩, show (m_th1 M).1 102 j = m_th0 M 102 j from hfr.2.2 j j1 j3 j4 j5, m_th0_n ⟨j3, j4, j5⟩]
  have e9 := hnn 9 (by decide) (by decide) (by decide) (by decide) (by decide)
  have e20 := hnn 20 (by decide) (by decide) (by decide) (by decide) (by decide)
  have e22 : m_th2 M 102 22 = ab_ii 0 := by unfold m_th2; rw [wd_up_self]
  obtain ⟨t1, t2, t3, t4, t5, t6, t7⟩ := m_th_T h1.1 (by omega) hb.2.1 htp hu
  have e3 : (m_th3 M).toInt = (M 102 9).toInt + (m_th2 M 102 25).toInt := by unfold m_th3; rw [e9, ab_tI (by omega) (by omega)]
  have hrm := h1.2.2.1
  unfold m_rm at hrm
  have u8 : ∀ j, j ≠ 9 → wd_up (m_th2 M) 102 9 (m_th3 M) 102 j = m_th2 M 102 j := fun j hj => wd_up_ne _ _ (Or.inr hj)
  have u9 : wd_up (m_th2 M) 102 9 (m_th3 M) 102 9 = m_th3 M := wd_up_self _ _ _ _
  have ur : ∀ a, a ≠ 102 → wd_up (m_th2 M) 102 9 (m_th3 M) a = m_th2 M a := fun a ha => wd_up_row _ _ _ ha
  have hN : m_ok (wd_up (m_th2 M) 102 9 (m_th3 M)) := by
    refine m_ok_of h1 ?_ (by rw [u8 8 (by decide)]; omega) (by unfold m_9; rw [u9]; omega) ?_ (fun a h1 h2 => by rw [ur a (by omega)]; exact hrow a h1 (by omega)) (by rw [u8 20 (by decide)]; exact e20) ⟨0, by rw [u8 22 (by decide)]; exact e22, by omega⟩
    · rw [u8 8 (by decide)]
      exact m_T_c (fun a h1 h2 => ur a (by omega)) t1
    · unfold m_rm
      rw [u8 8 (by decide), u9]
      omega
  have hJ : ∀ a j, ¬ (a = 1) → ¬ (a = 9) → wd_up (r_RJ (I, g, k, z)) 9 0 v a j = I a j := fun a j q q9 => (wd_up_ne _ _ (Or.inl q9)).trans ((wd_up_ne _ _ (by omega)).trans (g3 a j (by omega)))
  have hJ1 : wd_up (r_RJ (I, g, k, z)) 9 0 v 1 1 = ab_ii 0 := (wd_up_ne _ _ (by omega)).trans (wd_up_self _ _ _ _)
  have hJ9 : wd_up (r_RJ (I, g, k, z)) 9 0 v 9 0 = v := wd_up_self _ _ _ _
  have hk0 : k_ok T' (wd_up (r_RJ (I, g, k, z)) 9 0 v) P (r_R (I, g, k, z)).2.2.1 (r_R (I, g, k, z)).2.2.2.1 := h2.fr (c_hs_wf g1) g1.inc (c_hs_ofr g1) (c_hs_kk g1) (k_sm_of (fun a j q => hJ a j (by omega) (by omega)) (fun _ _ _ => rfl)) (by rw [hJ9, hv]; omega) ⟨0, hJ1, by omega⟩
  have hc2 : v_s1 F' (wd_up (r_RJ (I, g, k, z)) 9 0 v) P (wd_up (m_th2 M) 102 9 (m_th3 M)) s c := hc.mv hF (hJ _ _ (by omega) (by omega)) rfl (fun _ _ => rfl) (by rw [ur 110 (by decide), hrow 110 (by decide) (by decide)]) (fun _ _ => by rw [ur 111 (by decide), hrow 111 (by decide) (by decide)]) (by rw [ur 112 (by decide), hrow 112 (by decide) (by decide)])
  have hs2 : v_sh F' (wd_up (r_RJ (I, g, k, z)) 9 0 v) P (wd_up (m_th2 M) 102 9 (m_th3 M)) := h6.mv hF (fun s hs => ⟨hJ _ _ (by omega) (by omega), rfl, fun _ => rfl⟩) (fun x x1 x2 => by rw [ur x (by omega), hrow x x1 (by omega)])
  have hk2 : h_k F' T' (r_R (I, g, k, z)).2.2.1 (wd_up (m_th2 M) 102 9 (m_th3 M)) (m_th2 M 102 8).toInt := hk'.mv (fun _ q => q) (fun _ _ => h_sm.rf) (fun _ _ _ => m_ra_of (fun x x1 x2 => ur x (by omega))) (Int.le_refl _)
  have eb : ∀ x, x ≠ 110 → x ≠ 111 → x ≠ 112 → m_becomes (wd_up (m_th2 M) 102 9 (m_th3 M)) s (m_th1 M).2 c x = wd_up (m_th2 M) 102 9 (m_th3 M) x := fun x x1 x2 x3 => m_becomes_row x1 x2 x3
  have eb2 := eb 102 (by decide) (by decide) (by decide)
  exact ⟨m_ok_bec hN hs hc2.2.1 hc2.2.2.1 (by rw [u8 8 (by decide)]; omega), hk0.bec hs (hc2.ok hk2) (hk'.in ha).1, hk2.mv (fun _ q => q) (fun _ _ => h_sm.rf) (fun _ _ _ => m_ra_of (fun x x1 x2 => eb x (by omega) (by omega) (by omega))) (by rw [eb2, u8 8 (by decide)]; exact Int.le_refl _), ⟨by rw [s_becI_ne (by omega), hJ1, eb2, u8 22 (by decide), e22], v_tb_0 (by rw [eb2, u8 22 (by decide), e22])⟩, by rw [s_becI_ne (by omega), hJ9, eb2, u9]; exact hv, hs2.bec hs hc2 ha, h7.mv hF ((s_becI_ne (by omega)).trans (hJ 0 11 (by omega) (by omega))) (fun i => s_becP_ne (by omega) (by omega)) (by rw [eb 116 (by decide) (by decide) (by decide), ur 116 (by decide), hrow 116 (by decide) (by decide)]), h8.fr h2 ((k_fp.of (fun a j q => hJ a j (by omega) (by omega)) (c_hs_ofr g1) (fun _ _ _ => rfl)).to (fun _ _ q => s_becI_fp q) (fun _ _ q => s_becP_fp q)) ((r_fp.of hrow e20).up (by decide)).bec⟩
end
end
section
/-! ===== both objects: thing answers alike (own text) ===== -/
section
variable {F : Nat → Int32 → Prop} {T : Nat → Prop} {I : wd_I} {P : wd_P} {M : wd_I} {g : Nat → ab_C} {k z n d : Nat} {Q : ab_Q}
theorem hc_thing (hd : 60 ≤ d) (h : w_In F T I P M g k) (hr : k_rm (n + 1) I k z) {s : Int32} (hQ : w_res 157 46 [wd_v 102, .inl s] n M Q) : ab_CT d 105 [wd_v 0, .inl s] (wd I P M g, k, z) Q := by
  have hr0 : k_rm n I k z := hr.le (Int.le_refl _) (Nat.le_add_right _ _) (Nat.le_add_right _ _)
  have hrb := hr.b h.2.1.2.2.1.2
  have hk9 := h.hk9
  have hb := m_ok_b h.1
  have htp := h.2.1.tp
  have htm : 0 ≤ (M 102 22).toInt ∧ (M 102 22).toInt ≤ 100 := by rw [← h.2.2.2.1.1]; exact htp
  have esh : c_sh s ↔ m_sh s := by unfold c_sh m_sh; omega
  obtain ⟨e1, e2, e3, e4⟩ := h_Rd (z := z) h.2.2.2.1 htp h.2.1.1 h.2.1.2.1 hk9.1 hk9.2 h.2.2.1
  obtain ⟨T0, w0, b1, b2⟩ := w_thn (z := z) h
  obtain ⟨-, -, -, g3, -⟩ := r_R_gd (z := z) h.2.1.1 h.2.1.2.1 htp
  have hJ9 : r_RJ (I, g, k, z) 9 0 = I 9 0 := (wd_up_ne _ _ (by omega)).trans (g3 9 0 (by omega))
  have hrJ : k_rm n (r_RJ (I, g, k, z)) (r_R (I, g, k, z)).2.2.2.1 (r_R (I, g, k, z)).2.2.2.2 := hr.le (by rw [hJ9]; exact Int.le_refl _) (by omega) (by omega)
  obtain ⟨c, hc⟩ : ∃ c, c_sh s → v_s1 F I P M s.toInt.toNat c := by
    by_cases hs : c_sh s
    · obtain ⟨c, hc⟩ := h.2.2.2.2.2.1 s.toInt.toNat (by unfold c_sh at hs; omega)
      exact ⟨c, fun _ => hc⟩
    · exact ⟨0, fun q => absurd q hs⟩
  have hun : (r_RI (I, g, k, z) 1 3).toInt < 0 → (m_th2 M 102 24).toInt = -1 := fun q => by
    rw [e1] at q
    rcases e2 with e | e
    · exact e
    · omega
  have hnd : ∀ a, (r_R (I, g, k, z)).1 = some a → (m_th2 M 102 24).toInt = -1 → c_i (r_R (I, g, k, z)).2.2.1 a 2 = m_th2 M 106 (m_th1 M).2.toInt.toNat ∧ (m_th3 M).toInt = (I 9 0).toInt + (c_i (r_R (I, g, k, z)).2.2.1 a 2).toInt ∧ 1 ≤ (c_i (r_R (I, g, k, z)).2.2.1 a 2).toInt ∧ (c_i (r_R (I, g, k, z)).2.2.1 a 2).toInt ≤ 101 := fun a ha hu => by
    obtain ⟨T', F', a', s1, s2, s3, s4, s5, s6⟩ := e4 hu
    rw [ha] at s1
    cases s1
    have ei := (s5.1.p s6).2.2.1
    obtain ⟨t1, t2, t3, t4, t5, t6, t7⟩ := m_th_T h.1.1 hk9.1 hb.2.1 htm hu
    have e9 : m_th2 M 102 9 = I 9 0 := by
      have q := w0.2.2.2.2.1
      rw [hJ9] at q
      rw [q]
      unfold m_rs
      exact (wd_up_ne _ _ (Or.inr (by decide))).symm
    have h9 := h.2.1.2.2.1
    rw [ei]
    refine ⟨rfl, ?_, t4.1, t4.2⟩
    unfold m_th3
    rw [e9, ab_tI (by omega) (by omega)]
    omega
  refine y_thing hd h.2.1.1 h.2.1.2.1 htp h.2.1.2.2.1 ⟨by omega, by omega⟩ (fun q => (hc q).ok h.2.2.1) (fun q => ?_) (fun q q2 => ?_) (fun q a ha hu => ?_) (fun q a ha hu hlt => ?_) (fun q a ha hu hle => ?_)
  · exact hQ _ F T _ _ _ _ _ (w_ref_bad h (fun d Q hd hq => x_thing_b hd (fun e => q (esh.mpr e)) hq)) hr0
  · have hf : ¬ (m_th2 M 102 24).toInt = -1 := fun e => by
      rcases q2 with q2 | q2
      · rw [e1, e] at q2; omega
      · obtain ⟨T', F', a', s1, -⟩ := e4 e
        rw [q2] at s1
        cases s1
    refine hQ _ F T0 _ _ _ _ _ (fun d Q hd hq => x_thing hd hk9.1 hk9.2 htm (hc q).2.1 (hc q).2.2.1 (fun e => absurd (esh.mp q) e) (fun _ _ => ?_) (fun _ e => absurd e hf) (fun _ e => absurd e hf)) hrJ
    rw [← e1]
    exact hq _ w0
  · have := hnd a ha (hun hu)
    omega
  · have hu' := hun hu
    have hn := hnd a ha hu'
    exact hQ _ F T0 _ _ _ _ _ (fun d Q hd hq => x_thing hd hk9.1 hk9.2 htm (hc q).2.1 (hc q).2.2.1 (fun e => absurd (esh.mp q) e) (fun _ e => absurd hu' e) (fun _ _ _ => hq _ w0) (fun _ _ e => by exfalso; omega)) hrJ
  · have hu' := hun hu
    have hn := hnd a ha hu'
    have h9 := h.2.1.2.2.1
    obtain ⟨T', F', a', s1, s2, s3, s4, s5, s6⟩ := e4 hu'
    rw [ha] at s1
    cases s1
    have hs9 : s.toInt.toNat < 12 := by unfold c_sh at q; omega
    have ev : ab_ii ((I 9 0).toInt + (c_i (r_R (I, g, k, z)).2.2.1 a 2).toInt) = m_th3 M := by rw [← hn.2.1]; exact ab_ii_toInt _
    have hw := w_thy (z := z) h hu' hs9 (hc q) s2 s3 s5 s6 ev (by omega)
    refine hQ _ F' T' _ _ _ _ _ (fun d Q hd hq => x_thing hd hk9.1 hk9.2 htm (hc q).2.1 (hc q).2.2.1 (fun e => absurd (esh.mp q) e) (fun _ e => absurd hu' e) (fun _ _ e => by exfalso; omega) (fun _ _ _ => ?_)) (hr.le ?_ (by dsimp only; omega) (by dsimp only; omega))
    · rw [← hn.1]
      exact hq _ hw
    · dsimp only
      rw [s_becI_ne (by omega), wd_up_self, ab_tI (by omega) (by omega)]
      omega
end
end
section
/-! ===== OVER on both sides: what is counted (own text) ===== -/
/-- counted: at most 3000, and 3000 as soon as nothing more may be made -/
def o_ns (S : c_St) : Prop := (0 ≤ (S.1 9 0).toInt ∧ (S.1 9 0).toInt ≤ 3000) ∧ (¬ (S.1 10 6).toInt = 0 → (S.1 9 0).toInt = 3000)
def o_mo (S S' : c_St) : Prop := o_ns S → o_ns S' ∧ (S.1 9 0).toInt ≤ (S'.1 9 0).toInt ∧ (¬ (S.1 10 6).toInt = 0 → ¬ (S'.1 10 6).toInt = 0)
/-- one more, or nothing more may be made -/
def o_m1 (S S' : c_St) : Prop := o_ns S → ¬ (S'.1 10 6).toInt = 0 ∨ (S.1 9 0).toInt + 1 ≤ (S'.1 9 0).toInt
theorem o_mo.rf {S : c_St} : o_mo S S := fun h => ⟨h, Int.le_refl _, fun q => q⟩
theorem o_mo.tr {S S' S'' : c_St} (h : o_mo S S') (h' : o_mo S' S'') : o_mo S S'' := fun q => by
  obtain ⟨a1, a2, a3⟩ := h q
  obtain ⟨b1, b2, b3⟩ := h' a1
  exact ⟨b1, Int.le_trans a2 b2, fun e => b3 (a3 e)⟩
theorem o_m1.of {S S' S'' : c_St} (h : o_mo S S') (h' : o_m1 S' S'') : o_m1 S S'' := fun q => by
  obtain ⟨a1, a2, -⟩ := h q
  rcases h' a1 with e | e
  · exact Or.inl e
  · exact Or.inr (by omega)
theorem o_m1.be {S S' S'' : c_St} (h0 : o_mo S S') (h : o_m1 S S') (h' : o_mo S' S'') : o_m1 S S'' := fun q => by
  obtain ⟨a1, -, -⟩ := h0 q
  obtain ⟨b1, b2, b3⟩ := h' a1
  rcases h q with e | e
  · exact Or.inl (b3 e)
  · exact Or.inr (by omega)
theorem o_eq {S S' : c_St} (e9 : S'.1 9 0 = S.1 9 0) (e6 : S'.1 10 6 = S.1 10 6) : o_mo S S' := fun h => by
  unfold o_ns at *
  rw [e9, e6]
  exact ⟨h, Int.le_refl _, fun q => q⟩
theorem o_I1 {S S' : c_St} (hm : (S.1 9 0).toInt < 3000) (e : S'.1 = c_I1 S.1) : o_mo S S' ∧ o_m1 S S' := by
  refine ⟨fun h => ?_, fun h => ?_⟩
  · obtain ⟨u1, u2⟩ := c_I1_9 (I := S.1) ⟨h.1.1, hm⟩
    unfold o_ns at *
    rw [e, u1, u2]
    omega
  · obtain ⟨u1, u2⟩ := c_I1_9 (I := S.1) ⟨h.1.1, hm⟩
    rw [e, u1]
    exact Or.inr (Int.le_refl _)
theorem o_I0 {S S' : c_St} (hm : ¬ (S.1 9 0).toInt < 3000) (e : S'.1 = c_I0 S.1) : o_mo S S' ∧ o_m1 S S' := by
  obtain ⟨u1, u2⟩ := c_I0_9 (I := S.1)
  refine ⟨fun h => ?_, fun h => ?_⟩
  · unfold o_ns at *
    rw [e, u1, u2]
    omega
  · rw [e, u2]
    exact Or.inl (by decide)
theorem o_mkA {a q np : Nat} {fq : Nat → Option Nat} {S : c_St} : o_mo S (c_mkA a q np fq S).2 ∧ o_m1 S (c_mkA a q np fq S).2 := by
  unfold c_mkA
  split
  next hs =>
    split
    next hm => exact o_I1 hm rfl
    next hm => exact o_I0 hm rfl
  next hs => exact ⟨o_mo.rf, fun _ => Or.inl hs⟩
theorem o_mkN {kd wo : Int32} {q np r : Nat} {fq : Nat → Option Nat} {S : c_St} : o_mo S (c_mkN kd wo q np fq r S).2 ∧ o_m1 S (c_mkN kd wo q np fq r S).2 := by
  unfold c_mkN
  split
  next hs =>
    split
    next hm => exact o_I1 hm rfl
    next hm => exact o_I0 hm rfl
  next hs => exact ⟨o_mo.rf, fun _ => Or.inl hs⟩
theorem o_ordr {S : c_St} {a : Nat} : o_mo S (c_ordr S a).2 := by
  unfold c_ordr
  split
  · exact o_mo.tr (S' := c_arr S _ _) (o_eq rfl rfl) o_mkA.1
  · split
    · exact o_mo.tr (S' := c_arr S _ _) (o_eq rfl rfl) o_mkA.1
    · split
      · exact o_mo.tr (S' := c_arr S _ _) (o_eq rfl rfl) o_mkA.1
      · exact o_mo.rf
theorem o_fI {I : wd_I} {r : (Nat → ab_C) × Nat × Nat} : o_mo (I, r) (c_fI I, r) := fun h => by
  obtain ⟨f9, f6, -⟩ := c_fI_9 (I := I)
  unfold o_ns at *
  dsimp only at *
  rw [f9, f6]
  exact ⟨h, Int.le_refl _, fun q => q⟩
theorem o_foc {gv a : Nat} {S : c_St} : o_mo S (c_foc gv S a).2 := by
  obtain ⟨I, g, k, z⟩ := S
  have e9 : c_fI I 9 0 = I 9 0 := (c_fI_9 (I := I)).1
  have hfI : o_mo (I, g, k, z) (c_fI I, g, k, z) := o_fI
  have hI1 : ∀ S' : c_St, (I 9 0).toInt < 3000 → S'.1 = c_I1 (c_fI I) → o_mo (I, g, k, z) S' := fun S' hm e => hfI.tr (o_I1 (S := (c_fI I, g, k, z)) (by dsimp only; rw [e9]; exact hm) e).1
  have hI0 : ∀ S' : c_St, ¬ (I 9 0).toInt < 3000 → S'.1 = c_I0 (c_fI I) → o_mo (I, g, k, z) S' := fun S' hm e => hfI.tr (o_I0 (S := (c_fI I, g, k, z)) (by dsimp only; rw [e9]; exact hm) e).1
  have harr : ∀ f n, o_mo (I, g, k, z) (c_arr (c_fI I, g, k, z) f n) := fun f n => hfI.tr (o_eq rfl rfl)
  unfold c_foc
  dsimp only
  split
  · split
    · split
      next hm => exact hI1 _ hm rfl
      next hm => exact hI0 _ hm rfl
    · exact hfI
  · split
    · split
      next hm => exact (hI1 (c_I1 (c_fI I), c_g4y g k a (I 10 3), k + 1 + 1 + 2, z + 2 + 0 + 6) hm rfl).tr o_mkN.1
      next hm => exact (hI0 (c_I0 (c_fI I), c_g4n g k a, k + 1 + 1, z + 2 + 0) hm rfl).tr o_mkN.1
    · split
      · exact (harr _ _).tr o_mkN.1
      · split
        · exact (harr _ _).tr o_mkN.1
        · split
          · exact hfI
          · exact hfI.tr o_ordr
theorem o_chl {F : Nat → c_St → Nat × c_St} {p i a : Nat} (hF : ∀ b S, o_mo S (F b S).2) : ∀ (n j : Nat) (o : Option (Nat × (Nat → Option Nat))) (S : c_St), o_mo S (c_chl F p i a n j o S).2 ∧ (¬ o = none → o_m1 S (c_chl F p i a n j o S).2)
  | 0, j, none, S => ⟨o_mo.rf, fun q => absurd rfl q⟩
  | 0, j, some (q, fq), S => ⟨o_mkA.1, fun _ => o_mkA.2⟩
  | n + 1, j, none, S => by
    have h1 := hF (c_pt S.2.1 a j) S
    refine ⟨?_, fun q => absurd rfl q⟩
    unfold c_chl
    split
    · split
      · exact h1.tr (o_chl hF n (j + 1) none _).1
      · exact (h1.tr (o_eq (S' := c_arr (F (c_pt S.2.1 a j) S).2 _ _) rfl rfl)).tr (o_chl hF n (j + 1) (some _) _).1
    · exact (o_chl hF n (j + 1) none S).1
  | n + 1, j, some (q, fq), S => by
    have h1 := hF (c_pt S.2.1 a j) S
    unfold c_chl
    split
    · split
      · have h2 := o_chl (p := p) (i := i) (a := a) hF n (j + 1) (some (q, fq)) (F (c_pt S.2.1 a j) S).2
        exact ⟨h1.tr h2.1, fun _ => o_m1.of h1 (h2.2 (by simp))⟩
      · have h2 := o_chl (p := p) (i := i) (a := a) hF n (j + 1) (some (q, ab_up fq j (some (F (c_pt S.2.1 a j) S).1))) ((F (c_pt S.2.1 a j) S).2.1, ab_up (F (c_pt S.2.1 a j) S).2.2.1 q (ab_ra 4 (c_sz (F (c_pt S.2.1 a j) S).2.2.1 a) (ab_up fq j (some (F (c_pt S.2.1 a j) S).1))), (F (c_pt S.2.1 a j) S).2.2.2)
        have h3 := h1.tr (o_eq (S' := ((F (c_pt S.2.1 a j) S).2.1, ab_up (F (c_pt S.2.1 a j) S).2.2.1 q (ab_ra 4 (c_sz (F (c_pt S.2.1 a j) S).2.2.1 a) (ab_up fq j (some (F (c_pt S.2.1 a j) S).1))), (F (c_pt S.2.1 a j) S).2.2.2)) rfl rfl)
        exact ⟨h3.tr h2.1, fun _ => o_m1.of h3 (h2.2 (by simp))⟩
    · have h2 := o_chl (p := p) (i := i) (a := a) hF n (j + 1) (some (q, fq)) S
      exact ⟨h2.1, fun _ => h2.2 (by simp)⟩
theorem o_chw {gv p : Nat} : ∀ (f a i : Nat) (S : c_St), o_mo S (c_chw gv p f a i S).2
  | 0, a, i, S => o_mo.rf
  | f + 1, a, i, S => by
    unfold c_chw
    split
    · split
      · exact o_foc
      · split
        · exact o_chw f a (i + 1) S
        · exact (o_chl (fun b S' => o_chw f b _ S') _ 0 none S).1
    · exact o_mo.rf
/-! the reference -/
def o_rs (M : wd_I) : Prop := ¬ (M 102 36).toInt = 0 → (M 102 9).toInt = 3000
section
variable {M N : wd_I}
theorem o_rs_no (h : o_rs M) (hc : ¬ m_can M) : o_rs (m_nomk M) := fun _ => by
  rw [m_nomk_9]
  unfold m_can at hc
  by_cases e : (M 102 36).toInt = 0
  · omega
  · exact h e
theorem o_rs_s1 (hc : m_can M) (h : m_s1 (m_mk M) N) : o_rs N := fun q => by
  rw [h.2 36 (by decide), show m_mk M 102 36 = M 102 36 from wd_up_ne _ _ (Or.inr (by decide))] at q
  exact absurd hc.1 q
theorem o_cp_s1 {t x : Int32} {s i : Nat} : m_s1 M (wd_up (m_copyOf M t s) 108 i x) := by
  have e : wd_up (m_copyOf M t s) 108 i x 102 = m_copyOf M t s 102 := wd_up_row _ _ _ (by decide)
  refine ⟨?_, fun k hk => ?_⟩
  · rw [e, m_copyOf_8]
  · rw [e]
    unfold m_copyOf
    rw [m_cpl_row (by decide) (by decide), m_begins_n hk]
theorem o_rs_numb {v : Int32} (h : o_rs M) : o_rs (m_numb M v).1 := by
  unfold m_numb
  by_cases hc : m_can M
  · rw [m_cani_t hc]
    exact o_rs_s1 hc m_number_s1
  · rw [m_cani_f hc]
    exact o_rs_no h hc
theorem o_rs_bec {how : Int} {hw f t : Int32} {s : Nat} (h : o_rs M) : o_rs (m_bec M how hw f t s).1 := by
  unfold m_bec
  split
  · split
    · exact o_rs_numb h
    · exact h
  · split
    · exact h
    · split
      · by_cases hc : m_can (m_numb M hw).1
        · rw [m_cani_t hc]
          exact o_rs_s1 hc m_pair_s1
        · rw [m_cani_f hc]
          exact o_rs_no (o_rs_numb h) hc
      · split
        · by_cases hc : m_can M
          · rw [m_cani_t hc]
            split
            · exact o_rs_s1 hc m_around_s1
            · split
              · exact o_rs_s1 hc m_around_s1
              · exact o_rs_s1 hc m_changed_s1
          · rw [m_cani_f hc]
            exact o_rs_no h hc
        · exact h
theorem o_rs_became {t : Int32} {s : Nat} (h : o_rs M) : o_rs (m_became M t s).1 := by
  unfold m_became
  refine o_rs_bec ?_
  unfold o_rs at *
  rw [show m_ov1 M 102 36 = M 102 36 from wd_up_ne _ _ (Or.inr (by decide)), show m_ov1 M 102 9 = M 102 9 from wd_up_ne _ _ (Or.inr (by decide))]
  exact h
theorem o_rs_row {a i : Nat} {x : Int32} (ha : 102 ≠ a) (h : o_rs N) : o_rs (wd_up N a i x) := by
  unfold o_rs at *
  rw [wd_up_row _ _ _ ha]
  exact h
theorem o_rs_ovs {G : wd_I → Int32 → wd_I × Int32} (hG : ∀ N q, o_rs N → o_rs (G N q).1) {p i s j : Nat} {t : Int32} {r : wd_I × Int32} (h : o_rs r.1) : o_rs (m_ovs G p i s t j r).1 := by
  have h1 := hG r.1 (r.1 108 (12 * t.toInt.toNat + j)) h
  unfold m_ovs
  split
  · split
    · exact h1
    · split
      · by_cases hc : m_can (G r.1 (r.1 108 (12 * t.toInt.toNat + j))).1
        · rw [m_cani_t hc]
          have h2 := o_cp_s1 (M := m_mk (G r.1 (r.1 108 (12 * t.toInt.toNat + j))).1) (t := t) (x := (G r.1 (r.1 108 (12 * t.toInt.toNat + j))).2) (s := s) (i := 12 * ((G r.1 (r.1 108 (12 * t.toInt.toNat + j))).1 102 8).toInt.toNat + j)
          exact o_rs_s1 hc h2
        · rw [m_cani_f hc]
          exact o_rs_no h1 hc
      · exact o_rs_row (by decide) h1
  · exact h
theorem o_rs_ovl {G : wd_I → Int32 → wd_I × Int32} (hG : ∀ N q, o_rs N → o_rs (G N q).1) {p i s : Nat} {t : Int32} : ∀ (n j : Nat) (r : wd_I × Int32), o_rs r.1 → o_rs (m_ovl G p i s t n j r).1
  | 0, _, _, h => h
  | n + 1, j, r, h => by
    unfold m_ovl
    exact o_rs_ovl hG n (j + 1) _ (o_rs_ovs hG h)
theorem o_rs_fin {s : Nat} {t : Int32} {r : wd_I × Int32} (h : o_rs r.1) : o_rs (m_fin s t r).1 := by
  unfold m_fin
  split
  · exact h
  · show o_rs (m_ends r.1 r.2 s)
    unfold o_rs at *
    rw [m_ends_row (by decide) (by decide)]
    exact h
theorem o_rs_ov {p : Nat} : ∀ (f : Nat) (M : wd_I) (t : Int32) (i : Nat), o_rs M → o_rs (m_ov p f M t i).1
  | 0, M, t, i, h => h
  | f + 1, M, t, i, h => by
    unfold m_ov
    split
    · split
      · exact o_rs_became h
      · split
        · exact o_rs_ov f M t (i + 1) h
        · exact o_rs_fin (o_rs_ovl (fun N q hN => o_rs_ov f N q _ hN) _ 0 _ h)
    · exact h
end
end
section
/-! ===== OVER on both sides: things made alike (own text) ===== -/
/-- paired, with bounds of sizes and of heights on the way -/
def o_k (F : Nat → Int32 → Prop) (T : Nat → Prop) (g : Nat → ab_C) (M : wd_I) (n : Int) : Prop := h_ok F T g M n ∧ ∀ a t, F a t → c_sz g a ≤ 12 ∧ 0 ≤ (M 107 t.toInt.toNat).toInt ∧ (M 107 t.toInt.toNat).toInt ≤ 1000 ∧ ((M 103 t.toInt.toNat).toInt = 3 → M 104 t.toInt.toNat = ab_ii 0)
section
variable {F F' : Nat → Int32 → Prop} {T T' : Nat → Prop} {g g' : Nat → ab_C} {M N : wd_I} {n n' : Int} {k : Nat}
theorem h_k.o (h : h_k F T g M n) : o_k F T g M n := ⟨h.1, fun a t ha => by
  obtain ⟨a1, a2, a3, a4⟩ := h.2 a t ha
  exact ⟨a1, a2, by omega, a4⟩⟩
theorem o_k.in (h : o_k F T g M n) {a : Nat} {t : Int32} (ha : F a t) : T a ∧ 0 ≤ t.toInt ∧ t.toInt < n := (h.1.1 a t ha).1
theorem o_k.mv (h : o_k F T g M n) (hT : ∀ b, T b → T' b) (hg : ∀ a, T a → h_sm g g' a) (hs : ∀ b u, F b u → m_ra M N u.toInt.toNat) (hn : n ≤ n') : o_k F T' g' N n' := by
  obtain ⟨⟨h1, h2, h3⟩, h4⟩ := h
  refine ⟨⟨fun a t ha => ?_, h2, h3⟩, fun a t ha => ?_⟩
  · obtain ⟨⟨b1, b2, b3⟩, p0, p1, p2, p3, p4, p5⟩ := h1 a t ha
    obtain ⟨g1, g2, g3, g4⟩ := hg a b1
    obtain ⟨s3, s4, s5, s6, s7, s8⟩ := hs a t ha
    have s12 := (h4 a t ha).1
    refine ⟨⟨hT a b1, b2, by omega⟩, by rw [g4, s3]; exact p0, by rw [g4, s4]; exact p1, by rw [g4, s6]; exact p2, by rw [g4, s7]; exact p3, by rw [g1, s5]; exact p4, fun j hj => ?_⟩
    rw [g1] at hj
    obtain ⟨q8, q9⟩ := s8 j (by omega)
    rw [g2, g3, q8, q9]
    exact p5 j hj
  · obtain ⟨⟨b1, b2, b3⟩, -⟩ := h1 a t ha
    obtain ⟨g1, -⟩ := hg a b1
    obtain ⟨s3, s4, -, -, s7, -⟩ := hs a t ha
    rw [g1, s7, s3, s4]
    exact h4 a t ha
theorem o_k.add (h : o_k F T g M n) {a : Nat} {t : Int32} (ha : T a) (ht : 0 ≤ t.toInt ∧ t.toInt < n) (hr : h_pr F g M a t) (hs : c_sz g a ≤ 12) (hh : 0 ≤ (M 107 t.toInt.toNat).toInt ∧ (M 107 t.toInt.toNat).toInt ≤ 1000) (hna : ∀ u, ¬ F a u) (hnt : ∀ b, ¬ F b t) (hz : (M 103 t.toInt.toNat).toInt = 3 → M 104 t.toInt.toNat = ab_ii 0) : o_k (h_and F a t) T g M n := by
  obtain ⟨⟨h1, h2, h3⟩, h4⟩ := h
  have hm : ∀ b u, h_pr F g M b u → h_pr (h_and F a t) g M b u := fun b u q => ⟨q.1, q.2.1, q.2.2.1, q.2.2.2.1, q.2.2.2.2.1, fun j hj => ⟨(q.2.2.2.2.2 j hj).1, Or.inl (q.2.2.2.2.2 j hj).2⟩⟩
  refine ⟨⟨fun b u q => ?_, fun b u u' q q' => ?_, fun b b' u q q' => ?_⟩, fun b u q => ?_⟩
  · rcases q with q | ⟨q1, q2⟩
    · exact ⟨(h1 b u q).1, hm _ _ (h1 b u q).2⟩
    · rw [q1, q2]; exact ⟨⟨ha, ht⟩, hm _ _ hr⟩
  · rcases q with q | ⟨q1, q2⟩ <;> rcases q' with q' | ⟨q1', q2'⟩
    · exact h2 b u u' q q'
    · rw [q1'] at q; exact absurd q (hna u)
    · rw [q1] at q'; exact absurd q' (hna u')
    · rw [q2, q2']
  · rcases q with q | ⟨q1, q2⟩ <;> rcases q' with q' | ⟨q1', q2'⟩
    · exact h3 b b' u q q'
    · rw [q2'] at q; exact absurd q (hnt b)
    · rw [q2] at q'; exact absurd q' (hnt b')
    · rw [q1, q1']
  · rcases q with q | ⟨q1, q2⟩
    · exact h4 b u q
    · rw [q1, q2]; exact ⟨hs, hh.1, hh.2, hz⟩
theorem o_hts {fp : Nat → Option Nat} {t : Int32} : ∀ s, (∀ j, j < s → c_i g ((fp j).getD 0) 3 = M 107 (M 108 (12 * t.toInt.toNat + j)).toInt.toNat ∧ 0 ≤ (M 107 (M 108 (12 * t.toInt.toNat + j)).toInt.toNat).toInt ∧ (M 107 (M 108 (12 * t.toInt.toNat + j)).toInt.toNat).toInt ≤ 1000) → (c_hts g fp s).toInt + 1 = (m_high M t s).toInt ∧ -1 ≤ (c_hts g fp s).toInt ∧ (c_hts g fp s).toInt ≤ 1000
  | 0, _ => ⟨by show (ab_ii (-1)).toInt + 1 = (ab_ii 0).toInt; decide, by show -1 ≤ (ab_ii (-1)).toInt; decide, by show (ab_ii (-1)).toInt ≤ 1000; decide⟩
  | s + 1, h => by
    obtain ⟨i1, i2, i3⟩ := o_hts s (fun j hj => h j (by omega))
    obtain ⟨j1, j2, j3⟩ := h s (by omega)
    unfold c_hts m_high
    rw [j1]
    have e := ab_tI (z := (M 107 (M 108 (12 * t.toInt.toNat + s)).toInt.toNat).toInt + 1) (by omega) (by omega)
    by_cases c : (c_hts g fp s).toInt < (M 107 (M 108 (12 * t.toInt.toNat + s)).toInt.toNat).toInt
    · rw [m_mx_t c, m_mx_t (by omega), e]
      omega
    · rw [m_mx_f c, m_mx_f (by omega)]
      omega
/-- a row is ended, and the class's object made -/
theorem o_fin (h : o_k F T g M n) {t : Int32} {s a ka pa nk : Nat} {fk2 : Nat → Int32} {fp2 : Nat → Option Nat} {kd wo : Int32} {g2 : Nat → ab_C} (hsz : (M 105 t.toInt.toNat).toInt = (s : Int)) (hpt : ∀ j, j < s → ∃ b, fp2 j = some b ∧ F b (M 108 (12 * t.toInt.toNat + j)) ∧ M 109 (12 * t.toInt.toNat + j) = (if j < nk then fk2 j else ab_ii 0)) (h12 : s ≤ 12) (ht : 0 ≤ t.toInt ∧ t.toInt < n) (hnt : ∀ b, ¬ F b t) (hna : ∀ u, ¬ F a u) (hT : ∀ b, T b → T' b) (hTa : T' a) (hsm : ∀ b, T b → h_sm g g' b) (hv : g' a = ab_ob 9 [.inl kd, .inl wo, .inl (c_nods g2 fp2 s), .inl (ab_ii ((c_hts g2 fp2 s).toInt + 1)), wd_v ka, wd_v pa]) (h2 : g' ka = ab_ia 0 nk fk2) (h3 : g' pa = ab_ra 4 s fp2) (hg2 : ∀ b, T b → ∀ j, c_i g2 b j = c_i g b j) (hkd : M 103 t.toInt.toNat = kd) (hwo : M 104 t.toInt.toNat = wo) (hB : (m_ends M t s 107 t.toInt.toNat).toInt ≤ 1000) (hz : kd.toInt = 3 → wo = ab_ii 0) : o_k (h_and F a t) T' g' (m_ends M t s) n := by
  have er : ∀ x, x ≠ 106 → x ≠ 107 → m_ends M t s x = M x := fun x h1 h2 => m_ends_row h1 h2
  have e6 : m_ends M t s 106 t.toInt.toNat = m_many M t s := by unfold m_ends; rw [wd_up_row _ _ _ (by decide), wd_up_self]
  have e7 : m_ends M t s 107 t.toInt.toNat = m_high M t s := by unfold m_ends; rw [wd_up_self]
  have hci : ∀ j, j < s → ∀ i, c_i g2 ((fp2 j).getD 0) i = c_i g ((fp2 j).getD 0) i ∧ F ((fp2 j).getD 0) (M 108 (12 * t.toInt.toNat + j)) := fun j hj i => by
    obtain ⟨b, b1, b2, -⟩ := hpt j hj
    rw [b1]
    exact ⟨hg2 b (h.in b2).1 i, b2⟩
  have hn := h_nods (g := g2) (M := M) (fp := fp2) (t := t) s (fun j hj => by
    obtain ⟨c1, c2⟩ := hci j hj 2
    rw [c1]
    exact (h.1.1 _ _ c2).2.2.2.1)
  have hh := o_hts (g := g2) (M := M) (fp := fp2) (t := t) s (fun j hj => by
    obtain ⟨c1, c2⟩ := hci j hj 3
    rw [c1]
    exact ⟨(h.1.1 _ _ c2).2.2.2.2.1, (h.2 _ _ c2).2.1, (h.2 _ _ c2).2.2.1⟩)
  obtain ⟨v0, v1, v2, v3⟩ := h_vw hv h2 h3
  have hM := h.mv hT hsm (N := m_ends M t s) (n' := n) (fun b u q => m_ends_ra (fun e => by
    have e1 := (h.in q).2.1
    have e2 : u = t := Int32.toInt_inj.mp (by omega)
    rw [e2] at q
    exact hnt b q)) (Int.le_refl _)
  have h7 : 0 ≤ (m_ends M t s 107 t.toInt.toNat).toInt := by rw [e7]; omega
  refine hM.add hTa ht ⟨?_, ?_, ?_, ?_, ?_, fun j hj => ?_⟩ (by rw [v1]; exact h12) ⟨h7, hB⟩ hna hnt (by rw [er 103 (by decide) (by decide), er 104 (by decide) (by decide), hkd, hwo]; exact hz)
  · rw [v0.1, er 103 (by decide) (by decide)]; exact hkd.symm
  · rw [v0.2.1, er 104 (by decide) (by decide)]; exact hwo.symm
  · rw [v0.2.2.1, e6]; exact hn
  · rw [v0.2.2.2, e7, hh.1]; exact ab_ii_toInt _
  · rw [v1, er 105 (by decide) (by decide)]; exact hsz.symm
  · rw [v1] at hj
    obtain ⟨b, b1, b2, b3⟩ := hpt j hj
    rw [v2, v3, er 108 (by decide) (by decide), er 109 (by decide) (by decide), b3, b1]
    exact ⟨rfl, b2⟩
theorem o_pt {rs rw' rn p q : Nat} (h : h_pt g M rs rw' rn p q) (e1 : p_n g' p = p_n g p) (e2 : ∀ i, p_sg g' p i = p_sg g p i) (e3 : ∀ i, p_wd g' p i = p_wd g p i) : h_pt g' M rs rw' rn p q := by
  obtain ⟨a1, a2, a3⟩ := h
  refine ⟨by rw [e1]; exact a1, by rw [e1]; exact a2, fun i hi => ?_⟩
  rw [e1] at hi
  rw [e2, e3]
  exact a3 i hi
end
/-- more things, all well made; old cells as they were -/
def o_st (T0 : Nat → Prop) (S0 : c_St) (T : Nat → Prop) (S : c_St) : Prop := (∀ b, T0 b → T b) ∧ c_W T S.2.1 S.2.2.1 ∧ c_ofr S0.2.2.1 S0.2.1 S.2.1 ∧ S0.2.2.1 ≤ S.2.2.1 ∧ c_Ifr S0.1 S.1
theorem c_st.o {T0 T : Nat → Prop} {S0 S : c_St} (h : c_st T0 S0 T S) : o_st T0 S0 T S := ⟨h.inc, h.wf, h.ofr, h.kk, h.ifr⟩
/-! where OVER stands, on both sides; u copies are counted by the reference alone -/
def o_in (F0 : Nat → Int32 → Prop) (M0 : wd_I) (n0 : Int) (p q gv u : Nat) (F : Nat → Int32 → Prop) (T : Nat → Prop) (S : c_St) (M : wd_I) : Prop :=
  (c_pr T gv S ∧ h_k F0 T S.2.1 M0 n0 ∧ p_wf S.2.1 S.2.2.1 p ∧ h_pt S.2.1 M0 113 114 115 p q) ∧
  (m_fr n0 M0 M ∧ m_rm M ∧ n0 ≤ (M 102 8).toInt) ∧
  (o_k F T S.2.1 M (M 102 8).toInt ∧ ∀ b t, F0 b t → F b t) ∧
  ((S.1 10 6).toInt = 0 ∧ (M 102 36).toInt = 0 ∧ S.1 10 5 = M 102 35 ∧ (S.1 9 0).toInt + (u : Int) = (M 102 9).toInt ∧ S.1 10 2 = M0 102 33 ∧ ((M0 102 33).toInt = 7 ∨ S.1 10 3 = M0 102 34))
/-- what holds of the beginning -/
def o_cx (F0 : Nat → Int32 → Prop) (M0 : wd_I) (n0 : Int) (gv : Nat) : Prop := m_op n0 M0 ∧ m_T M0 n0 ∧ ((M0 102 33).toInt = 7 → F0 gv (M0 110 (M0 102 34).toInt.toNat))
def o_res (F0 : Nat → Int32 → Prop) (M0 : wd_I) (n0 : Int) (p q gv u : Nat) (F : Nat → Int32 → Prop) (T : Nat → Prop) (S : c_St) (M : wd_I) (R : Nat × c_St) (N : wd_I × Int32) : Prop :=
  ((N.1 102 36).toInt = 0 → ∃ (F' : Nat → Int32 → Prop) (T' : Nat → Prop), c_st T S T' R.2 ∧ o_in F0 M0 n0 p q gv u F' T' R.2 N.1 ∧ (∀ b t, F b t → F' b t) ∧ (∀ b t, F' b t → F b t ∨ (M 102 8).toInt ≤ t.toInt) ∧ F' R.1 N.2) ∧
  (¬ (N.1 102 36).toInt = 0 → ¬ (R.2.1 10 6).toInt = 0 ∨ 3001 ≤ (R.2.1 9 0).toInt + (u : Int))
section
variable {F0 F F' : Nat → Int32 → Prop} {M0 M M' A : wd_I} {n0 : Int} {p q gv u u' : Nat} {T T' : Nat → Prop} {S S' : c_St}
theorem o_in.mv (h : o_in F0 M0 n0 p q gv u F T S M) (hst : o_st T S T' S') (h9 : 0 ≤ (S'.1 9 0).toInt ∧ (S'.1 9 0).toInt ≤ 3000) (hfr : m_fr n0 M0 M') (hrm : m_rm M') (h8 : n0 ≤ (M' 102 8).toInt) (hk : o_k F' T' S'.2.1 M' (M' 102 8).toInt) (hF : ∀ b t, F b t → F' b t) (hs : (S'.1 10 6).toInt = 0) (hM : (M' 102 36).toInt = 0) (h5 : S'.1 10 5 = M' 102 35) (hu : (S'.1 9 0).toInt + (u' : Int) = (M' 102 9).toInt) : o_in F0 M0 n0 p q gv u' F' T' S' M' := by
  obtain ⟨⟨a1, a2, a3, a4⟩, -, ⟨d1, d2⟩, -, -, -, -, e5, e6⟩ := h
  obtain ⟨s1, s2, s3, s4, s5⟩ := hst
  have i2 := s5 10 2 (by omega) (by omega)
  have i3 := s5 10 3 (by omega) (by omega)
  obtain ⟨p1, p2, p3, p4⟩ := p_wf_xt a3 s3 s4
  obtain ⟨w1, w2, w3, w4⟩ := a1
  exact ⟨⟨⟨s2, Nat.le_trans w2 s4, h9, fun e => s1 _ (w4 (by rw [← i2]; exact e))⟩, a2.mv s1 (fun a ha => h_sm_wf (c_wf_xt (w1 a ha) s3 s4)) (fun _ _ _ => m_ra.rf) (Int.le_refl _), p1, o_pt a4 p2 p3 p4⟩, ⟨hfr, hrm, h8⟩, ⟨hk, fun b t e => hF b t (d2 b t e)⟩, hs, hM, h5, hu, i2.trans e5, e6.imp id (fun e => i3.trans e)⟩
theorem o_in.sm (h : o_in F0 M0 n0 p q gv u F T S M) (hst : o_st T S T' S') : ∀ a, T a → h_sm S.2.1 S'.2.1 a := fun a ha => h_sm_wf (c_wf_xt (h.1.1.1 a ha) hst.2.2.1 hst.2.2.2.1)
theorem o_in.ns (h : o_in F0 M0 n0 p q gv u F T S M) : o_ns S := ⟨h.1.1.2.2.1, fun e => absurd h.2.2.2.1 e⟩
/-- the reference begins a row -/
theorem o_in.beg (h : o_in F0 M0 n0 p q gv u F T S M) (h0 : 0 ≤ n0) (hc : m_can M) (hs1 : m_s1 (m_mk M) A) (hfr : m_fr (M 102 8).toInt M A) : o_in F0 M0 n0 p q gv (u + 1) F T S A ∧ (A 102 8).toInt = (M 102 8).toInt + 1 ∧ (M 102 8).toInt < 3012 := by
  obtain ⟨⟨a1, a2, a3, a4⟩, ⟨b1, b2, b3⟩, ⟨d1, d2⟩, e1, e2, e3, e4, e5, e6⟩ := id h
  obtain ⟨r1, r2⟩ := m_rm_s1 b2 hc hs1
  have hlt := m_can_lt b2 hc
  have e36 : A 102 36 = M 102 36 := (hs1.2 36 (by decide)).trans (wd_up_ne _ _ (Or.inr (by decide)))
  have e35 : A 102 35 = M 102 35 := (hs1.2 35 (by decide)).trans (wd_up_ne _ _ (Or.inr (by decide)))
  have e9 : A 102 9 = ab_ii ((M 102 9).toInt + 1) := (hs1.2 9 (by decide)).trans (wd_up_self _ _ _ _)
  have hsum := a1.2.2.1
  refine ⟨h.mv (c_st.rf a1.1).o hsum (b1.tr hfr b3) r1 (by omega) (d1.mv (fun _ e => e) (fun _ _ => h_sm.rf) (fun b t e => hfr.1.ra (by have := d1.in e; omega)) (by omega)) (fun _ _ e => e) e1 (by rw [e36]; exact e2) (by rw [e35]; exact e3) ?_, r2, hlt.1⟩
  rw [e9, ab_tI (by omega) (by omega)]
  omega
/-- a row of the reference is ended, the class makes its thing -/
theorem o_in.mk (h : o_in F0 M0 n0 p q gv (u + 1) F T S A) {c : Int32} {s x ka pa nk : Nat} {fk2 : Nat → Int32} {fp2 : Nat → Option Nat} {kd wo : Int32} {g2 : Nat → ab_C} (hc : n0 ≤ c.toInt ∧ 0 ≤ c.toInt ∧ c.toInt < (A 102 8).toInt) (hnt : ∀ b, ¬ F b c) (hst : o_st T S (fun b => T b ∨ b = x) S') (hx : S.2.2.1 ≤ x) (hv : S'.2.1 x = ab_ob 9 [.inl kd, .inl wo, .inl (c_nods g2 fp2 s), .inl (ab_ii ((c_hts g2 fp2 s).toInt + 1)), wd_v ka, wd_v pa]) (h2 : S'.2.1 ka = ab_ia 0 nk fk2) (h3 : S'.2.1 pa = ab_ra 4 s fp2) (hg2 : ∀ b, T b → ∀ j, c_i g2 b j = c_i S.2.1 b j) (h12 : s ≤ 12) (hsz : (A 105 c.toInt.toNat).toInt = (s : Int)) (hkd : A 103 c.toInt.toNat = kd) (hwo : A 104 c.toInt.toNat = wo) (hpt : ∀ j, j < s → ∃ b, fp2 j = some b ∧ F b (A 108 (12 * c.toInt.toNat + j)) ∧ A 109 (12 * c.toInt.toNat + j) = (if j < nk then fk2 j else ab_ii 0)) (h9 : (S'.1 9 0).toInt = (S.1 9 0).toInt + 1) (h6 : S'.1 10 6 = S.1 10 6) (h5 : S'.1 10 5 = S.1 10 5) (hB : (m_ends A c s 107 c.toInt.toNat).toInt ≤ 1000) (hz : kd.toInt = 3 → wo = ab_ii 0) : o_in F0 M0 n0 p q gv u (h_and F x c) (fun b => T b ∨ b = x) S' (m_ends A c s) := by
  obtain ⟨⟨a1, a2, a3, a4⟩, ⟨b1, b2, b3⟩, ⟨d1, d2⟩, e1, e2, e3, e4, e5, e6⟩ := id h
  have er : m_ends A c s 102 = A 102 := m_ends_row (by decide) (by decide)
  have hsm := h.sm hst
  have hna : ∀ t, ¬ F x t := fun t e => by
    have := (a1.1 x (d1.in e).1).1.2
    omega
  have hk := o_fin (T' := fun b => T b ∨ b = x) (g' := S'.2.1) d1 hsz hpt h12 hc.2 hnt hna (fun _ e => Or.inl e) (Or.inr rfl) hsm hv h2 h3 hg2 hkd hwo hB hz
  have hsum := a1.2.2.1
  obtain ⟨m1, m2, m3⟩ := id b2
  refine h.mv hst ⟨by omega, by omega⟩ (m_ends_fr b1 hc.1) ?_ (by rw [er]; exact b3) (by rw [er]; exact hk) (fun _ _ e => Or.inl e) (by rw [h6]; exact e1) (by rw [er]; exact e2) (by rw [h5, er]; exact e3) (by rw [er]; omega)
  unfold m_rm
  rw [er]
  exact b2
end
end
section
/-! ===== OVER on both sides: one thing made (own text) ===== -/
section
variable {F0 F F' : Nat → Int32 → Prop} {M0 M M' A : wd_I} {n0 : Int} {p q gv u u' : Nat} {T T' T0 : Nat → Prop} {S S' S0 : c_St} {I : wd_I} {g : Nat → ab_C} {k z : Nat}
theorem o_high {M : wd_I} {t : Int32} {hb : Int} (hb0 : 0 ≤ hb ∧ hb ≤ 1000) : ∀ s, (∀ j, j < s → 0 ≤ (M 107 (M 108 (12 * t.toInt.toNat + j)).toInt.toNat).toInt ∧ (M 107 (M 108 (12 * t.toInt.toNat + j)).toInt.toNat).toInt ≤ hb) → 0 ≤ (m_high M t s).toInt ∧ (m_high M t s).toInt ≤ hb + 1
  | 0, _ => ⟨by show 0 ≤ (ab_ii 0).toInt; decide, by show (ab_ii 0).toInt ≤ hb + 1; rw [show (ab_ii 0).toInt = 0 from rfl]; omega⟩
  | s + 1, h => by
    obtain ⟨i1, i2⟩ := o_high hb0 s (fun j hj => h j (by omega))
    obtain ⟨j1, j2⟩ := h s (by omega)
    unfold m_high
    have e := ab_tI (z := (M 107 (M 108 (12 * t.toInt.toNat + s)).toInt.toNat).toInt + 1) (by omega) (by omega)
    by_cases c : (m_high M t s).toInt < (ab_ii ((M 107 (M 108 (12 * t.toInt.toNat + s)).toInt.toNat).toInt + 1)).toInt
    · rw [m_mx_t c, e]
      omega
    · rw [m_mx_f c]
      omega
theorem o_highB {M : wd_I} {t : Int32} {s : Nat} (h : ∀ j, j < s → 0 ≤ (M 107 (M 108 (12 * t.toInt.toNat + j)).toInt.toNat).toInt ∧ (M 107 (M 108 (12 * t.toInt.toNat + j)).toInt.toNat).toInt ≤ 100) : (m_ends M t s 107 t.toInt.toNat).toInt ≤ 1000 := by
  have e7 : m_ends M t s 107 t.toInt.toNat = m_high M t s := by unfold m_ends; rw [wd_up_self]
  have := o_high (hb := 100) ⟨by omega, by omega⟩ s h
  rw [e7]
  omega
/-- the focus is counted -/
theorem o_in.bump (h : o_in F0 M0 n0 p q gv u F T (I, g, k, z) M) : o_in F0 M0 n0 p q gv u F T (c_fI I, g, k, z) (m_ov1 M) ∧ c_st T (I, g, k, z) T (c_fI I, g, k, z) := by
  obtain ⟨⟨a1, a2, a3, a4⟩, ⟨b1, b2, b3⟩, ⟨d1, d2⟩, e1, e2, e3, e4, e5, e6⟩ := id h
  obtain ⟨f9, f6, f2⟩ := c_fI_9 (I := I)
  have hst : c_st T (I, g, k, z) T (c_fI I, g, k, z) := (c_st.rf (S := (I, g, k, z)) a1.1).I c_Ifr_f
  have hfr : m_fr (M 102 8).toInt M (m_ov1 M) := m_ov1_fr
  have h36 : m_ov1 M 102 36 = M 102 36 := wd_up_ne _ _ (Or.inr (by decide))
  have h09 : m_ov1 M 102 9 = M 102 9 := wd_up_ne _ _ (Or.inr (by decide))
  change I 10 5 = M 102 35 at e3
  refine ⟨h.mv hst.o ?_ (b1.tr hfr b3) (m_ov1_rm b2) (by rw [m_ov1_8]; exact b3) (d1.mv (fun _ e => e) (fun _ _ => h_sm.rf) (fun b t e => hfr.1.ra (by have := d1.in e; omega)) (by rw [m_ov1_8]; exact Int.le_refl _)) (fun _ _ e => e) ?_ (by rw [h36]; exact e2) ?_ ?_, hst⟩
  · show 0 ≤ (c_fI I 9 0).toInt ∧ (c_fI I 9 0).toInt ≤ 3000
    rw [f9]
    exact a1.2.2.1
  · show (c_fI I 10 6).toInt = 0
    rw [f6]
    exact e1
  · show c_fI I 10 5 = m_ov1 M 102 35
    unfold c_fI m_ov1
    rw [wd_up_self, wd_up_self, e3]
  · show (c_fI I 9 0).toInt + (u : Int) = (m_ov1 M 102 9).toInt
    rw [f9, h09]
    exact e4
theorem o_res.bump {R : Nat × c_St} {N : wd_I × Int32} (h : o_res F0 M0 n0 p q gv u F T (c_fI I, g, k, z) (m_ov1 M) R N) (hst : c_st T (I, g, k, z) T (c_fI I, g, k, z)) : o_res F0 M0 n0 p q gv u F T (I, g, k, z) M R N := by
  refine ⟨fun e => ?_, h.2⟩
  obtain ⟨F', T', h1, h2, h3, h4, h5⟩ := h.1 e
  exact ⟨F', T', hst.tr h1, h2, h3, fun b t q => by have := h4 b t q; rw [m_ov1_8] at this; exact this, h5⟩
/-- a thing made, or no more -/
theorem o_cani (h : o_in F0 M0 n0 p q gv u F T S M) {X Y : wd_I × Int32} {R : Nat × c_St} (hY : Y.1 = m_nomk M) (h1 : m_can M → (S.1 9 0).toInt < 3000 → o_res F0 M0 n0 p q gv u F T S M R X) (hm : o_m1 S R.2) : o_res F0 M0 n0 p q gv u F T S M R (m_cani M X Y) := by
  have hns := h.ns
  obtain ⟨⟨a1, -⟩, ⟨-, ⟨b1, b2, b3⟩, -⟩, -, e1, e2, e3, e4, -⟩ := id h
  by_cases hc : m_can M
  · rw [m_cani_t hc]
    refine h1 hc ?_
    unfold m_can at hc
    omega
  · rw [m_cani_f hc]
    have e36 : (Y.1 102 36).toInt = 1 := by rw [hY]; exact m_nomk_36
    refine ⟨fun e => ?_, fun _ => ?_⟩
    · rw [e36] at e
      exact absurd e (by decide)
    · unfold m_can at hc
      rcases hm hns with e | e
      · exact Or.inl e
      · exact Or.inr (by omega)
/-- nothing is made: the thing itself, or another one -/
theorem o_res.same (h : o_in F0 M0 n0 p q gv u F T S M) {a : Nat} {t : Int32} (ha : F a t) : o_res F0 M0 n0 p q gv u F T S M (a, S) (M, t) :=
  ⟨fun _ => ⟨F, T, c_st.rf h.1.1.1, h, fun _ _ e => e, fun _ _ e => Or.inl e, ha⟩, fun e => absurd h.2.2.2.2.1 e⟩
/-- a row of parts laid -/
theorem o_in.arr (h : o_in F0 M0 n0 p q gv u F T (I, g, k, z) M) {f : Nat → Option Nat} {n : Nat} : o_in F0 M0 n0 p q gv u F T (I, ab_up g k (ab_ra 4 n f), k + 1, z + n) M ∧ c_st T (I, g, k, z) T (I, ab_up g k (ab_ra 4 n f), k + 1, z + n) := by
  obtain ⟨⟨a1, a2, a3, a4⟩, ⟨b1, b2, b3⟩, ⟨d1, d2⟩, e1, e2, e3, e4, e5, e6⟩ := id h
  have hst : c_st T (I, g, k, z) T (I, ab_up g k (ab_ra 4 n f), k + 1, z + n) := c_arr_st (c_st.rf (S := (I, g, k, z)) a1.1)
  exact ⟨h.mv hst.o a1.2.2.1 b1 b2 b3 (d1.mv (fun _ e => e) (h.sm hst.o) (fun _ _ _ => m_ra.rf) (Int.le_refl _)) (fun _ _ e => e) e1 e2 e3 e4, hst⟩
/-- a thing without keys -/
theorem o_mkg (h : o_in F0 M0 n0 p q gv (u + 1) F T (I, g, k, z) A) (hst : c_st T0 S0 T (I, g, k, z)) {c kd wo : Int32} {r s z' : Nat} {fq : Nat → Option Nat} (hr0 : S0.2.2.1 ≤ r) (hr : (wd_mut r = false ∧ r < k) ∧ g r = ab_ra 4 s fq) (h12 : s ≤ 12) (hc : n0 ≤ c.toInt ∧ 0 ≤ c.toInt ∧ c.toInt < (A 102 8).toInt) (hnt : ∀ b, ¬ F b c) (hsz : (A 105 c.toInt.toNat).toInt = (s : Int)) (hkd : A 103 c.toInt.toNat = kd) (hwo : A 104 c.toInt.toNat = wo) (hpt : ∀ j, j < s → ∃ b, fq j = some b ∧ F b (A 108 (12 * c.toInt.toNat + j)) ∧ A 109 (12 * c.toInt.toNat + j) = ab_ii 0) (hB : (m_ends A c s 107 c.toInt.toNat).toInt ≤ 1000) (hz : kd.toInt = 3 → wo = ab_ii 0) : o_in F0 M0 n0 p q gv u (h_and F k c) (fun b => T b ∨ b = k) (c_I1 I, c_mkg g k kd wo r s fq, k + 2, z') (m_ends A c s) ∧ c_st T0 S0 (fun b => T b ∨ b = k) (c_I1 I, c_mkg g k kd wo r s fq, k + 2, z') := by
  obtain ⟨⟨a1, a2, a3, a4⟩, ⟨b1, ⟨b4, b5, b6⟩, b3⟩, ⟨d1, d2⟩, e1, e2, e3, e4, e5, e6⟩ := id h
  have hW : c_W T g k := a1.1
  have h125 : 125 ≤ k := a1.2.1
  have hs3 := a1.2.2.1
  change 0 ≤ (I 9 0).toInt ∧ (I 9 0).toInt ≤ 3000 at hs3
  change (I 9 0).toInt + ((u + 1 : Nat) : Int) = (A 102 9).toInt at e4
  have hf : c_rT T s fq := fun j hj => by
    obtain ⟨b, q1, q2, -⟩ := hpt j hj
    exact ⟨b, q1, (d1.in q2).1⟩
  have hst2 := c_mkg_st (z' := z') (kd := kd) (wo := wo) hst h125 hr0 ⟨hr.1, hr.2, by omega⟩ hf (c_Ifr_1 (I := I))
  have hst3 : o_st T (I, g, k, z) (fun b => T b ∨ b = k) (c_I1 I, c_mkg g k kd wo r s fq, k + 2, z') := ⟨fun _ e => Or.inl e, hst2.wf, c_ofr_up (c_ofr_up c_ofr.rf (Nat.le_succ _)) (Nat.le_refl _), Nat.le_add_right _ _, c_Ifr_1⟩
  obtain ⟨u1, u2⟩ := c_I1_9 (I := I) ⟨hs3.1, by omega⟩
  have u3 : c_I1 I 10 5 = I 10 5 := wd_up_ne _ _ (by omega)
  refine ⟨o_in.mk (ka := k + 1) (pa := r) (nk := 0) (fk2 := fun _ => 0) (g2 := ab_up g (k + 1) (ab_ia 0 0 (fun _ => 0))) h hc hnt hst3 (Nat.le_refl _) (ab_up_self _ _ _) ((ab_up_ne _ _ (by omega)).trans (ab_up_self _ _ _)) ?_ (fun b hb j => ?_) h12 hsz hkd hwo (fun j hj => ?_) u1 u2 u3 hB hz, hst2⟩
  · show c_mkg g k kd wo r s fq r = _
    unfold c_mkg
    rw [ab_up_ne _ _ (by omega), ab_up_ne _ _ (by omega)]
    exact hr.2
  · have := (hW b hb).1.2
    unfold c_i
    rw [ab_up_ne _ _ (by omega)]
  · rw [if_neg (Nat.not_lt_zero _)]
    exact hpt j hj
/-- a thing with another one's keys -/
theorem o_mka (h : o_in F0 M0 n0 p q gv (u + 1) F T (I, g, k, z) A) (hst : c_st T0 S0 T (I, g, k, z)) {c : Int32} {a r s z' : Nat} {fq : Nat → Option Nat} (ha : T a) (hr0 : S0.2.2.1 ≤ r) (hr : (wd_mut r = false ∧ r < k) ∧ g r = ab_ra 4 s fq) (h12 : s ≤ 12) (hc : n0 ≤ c.toInt ∧ 0 ≤ c.toInt ∧ c.toInt < (A 102 8).toInt) (hnt : ∀ b, ¬ F b c) (hsz : (A 105 c.toInt.toNat).toInt = (s : Int)) (hkd : A 103 c.toInt.toNat = c_i g a 0) (hwo : A 104 c.toInt.toNat = c_i g a 1) (hpt : ∀ j, j < s → ∃ b, fq j = some b ∧ F b (A 108 (12 * c.toInt.toNat + j)) ∧ A 109 (12 * c.toInt.toNat + j) = c_ky g a j) (hB : (m_ends A c s 107 c.toInt.toNat).toInt ≤ 1000) (hz : (c_i g a 0).toInt = 3 → c_i g a 1 = ab_ii 0) : o_in F0 M0 n0 p q gv u (h_and F k c) (fun b => T b ∨ b = k) (c_I1 I, c_mka g k a r s fq, k + 1, z') (m_ends A c s) ∧ c_st T0 S0 (fun b => T b ∨ b = k) (c_I1 I, c_mka g k a r s fq, k + 1, z') := by
  obtain ⟨⟨a1, a2, a3, a4⟩, ⟨b1, ⟨b4, b5, b6⟩, b3⟩, ⟨d1, d2⟩, e1, e2, e3, e4, e5, e6⟩ := id h
  have hW : c_W T g k := a1.1
  have h125 : 125 ≤ k := a1.2.1
  have hs3 := a1.2.2.1
  change 0 ≤ (I 9 0).toInt ∧ (I 9 0).toInt ≤ 3000 at hs3
  change (I 9 0).toInt + ((u + 1 : Nat) : Int) = (A 102 9).toInt at e4
  have hf : c_rT T s fq := fun j hj => by
    obtain ⟨b, q1, q2, -⟩ := hpt j hj
    exact ⟨b, q1, (d1.in q2).1⟩
  obtain ⟨ka, pa, nk, np', fk, fp, hcc, ⟨hnk, -⟩, -, -, -, -, ⟨f4, -⟩, ⟨-, m2, -⟩, ⟨l1, l2, -⟩⟩ := c_W_get hW ha
  have hka : g ka = ab_ia 0 nk fk := (wd_g (I := I) (P := fun _ _ => none) (M := I) m2).symm.trans (hcc I (fun _ _ => none) I 0).2.1
  have hky : ∀ j, (if j < nk then fk j else ab_ii 0) = c_ky g a j := fun j => by unfold c_ky; rw [f4, hka]; rfl
  have hst2 : c_st T0 S0 (fun b => T b ∨ b = k) (c_I1 I, c_mka g k a r s fq, k + 1, z') := c_st.thg (fk := fk) (nk := nk) hst (Nat.le_refl _) (Nat.lt_succ_self _) (wd_mut_new h125) (by rw [f4]; exact ⟨⟨m2, by show ka < k + 1; omega⟩, hka, hnk⟩) ⟨⟨hr.1.1, by have := hr.1.2; omega⟩, hr.2, by omega⟩ ⟨by rw [f4]; omega, by have := hr.1.2; omega⟩ hf (Or.inr ⟨a, ha, rfl⟩) hr0 c_Ifr_1
  have hst3 : o_st T (I, g, k, z) (fun b => T b ∨ b = k) (c_I1 I, c_mka g k a r s fq, k + 1, z') := ⟨fun _ e => Or.inl e, hst2.wf, c_ofr_up c_ofr.rf (Nat.le_refl _), Nat.le_add_right _ _, c_Ifr_1⟩
  obtain ⟨u1, u2⟩ := c_I1_9 (I := I) ⟨hs3.1, by omega⟩
  have u3 : c_I1 I 10 5 = I 10 5 := wd_up_ne _ _ (by omega)
  refine ⟨o_in.mk (kd := c_i g a 0) (wo := c_i g a 1) (ka := ka) (pa := r) (nk := nk) (fk2 := fk) (fp2 := fq) (g2 := g) h hc hnt hst3 (Nat.le_refl _) ?_ ?_ ?_ (fun b hb j => rfl) h12 hsz hkd hwo (fun j hj => ?_) u1 u2 u3 hB hz, hst2⟩
  · show c_mka g k a r s fq k = _
    unfold c_mka
    rw [ab_up_self, f4]
    rfl
  · exact (ab_up_ne _ _ (by omega)).trans hka
  · exact (ab_up_ne _ _ (by have := hr.1.2; omega)).trans hr.2
  · rw [hky]
    exact hpt j hj
/-- what the reference's new row is -/
def o_nr (K A : wd_I) (s : Nat) (kd wo : Int32) : Prop := m_s1 (m_mk K) A ∧ m_fr (K 102 8).toInt K A ∧ (A 105 (K 102 8).toInt.toNat).toInt = (s : Int) ∧ A 103 (K 102 8).toInt.toNat = kd ∧ A 104 (K 102 8).toInt.toNat = wo
/-- a row of parts, and a thing of them, without keys -/
theorem o_mkg1 (h0 : 0 ≤ n0) (h : o_in F0 M0 n0 p q gv u F T (I, g, k, z) M) {kd wo t : Int32} {s r : Nat} {fq : Nat → Option Nat} (h12 : s ≤ 12) (hA : o_nr M A s kd wo) (hpt : ∀ j, j < s → ∃ b, fq j = some b ∧ F b (A 108 (12 * (M 102 8).toInt.toNat + j)) ∧ A 109 (12 * (M 102 8).toInt.toNat + j) = ab_ii 0) (hB : (m_ends A (M 102 8) s 107 (M 102 8).toInt.toNat).toInt ≤ 1000) (hz : kd.toInt = 3 → wo = ab_ii 0) : o_res F0 M0 n0 p q gv u F T (I, g, k, z) M (c_mkN kd wo k s fq r (c_arr (I, g, k, z) fq s)) (m_cani M (m_ends A (M 102 8) s, M 102 8) (m_nomk M, t)) := by
  obtain ⟨A1, A2, A3, A4, A5⟩ := hA
  refine o_cani h rfl (fun hc hm => ?_) (o_m1.of (o_eq (S := (I, g, k, z)) (S' := c_arr (I, g, k, z) fq s) rfl rfl) o_mkN.2)
  obtain ⟨c1, c2, c3⟩ := h.beg h0 hc A1 A2
  obtain ⟨r1, r2⟩ := c1.arr (f := fq) (n := s)
  have h125 : 125 ≤ k := h.1.1.2.1
  have hle := h.2.1.2.2
  have hin := h.2.2.1.1
  have hsp : (I 10 6).toInt = 0 := h.2.2.2.1
  have hmk := o_mkg (z' := z + s + 6) (r := k) r1 r2 (Nat.le_refl _) ⟨⟨wd_mut_new h125, Nat.lt_succ_self _⟩, ab_up_self _ _ _⟩ h12 ⟨hle, by omega, by omega⟩ (fun b e => by have := (hin.in e).2.2; omega) A3 A4 A5 hpt hB hz
  have e : c_mkN kd wo k s fq r (c_arr (I, g, k, z) fq s) = (k + 1, (c_I1 I, c_mkg (ab_up g k (ab_ra 4 s fq)) (k + 1) kd wo k s fq, k + 1 + 2, z + s + 6)) := by
    unfold c_mkN c_arr
    dsimp only
    rw [if_pos hsp, if_pos hm]
  rw [e]
  refine ⟨fun _ => ⟨_, _, hmk.2, hmk.1, fun _ _ q => Or.inl q, fun b t q => ?_, Or.inr ⟨rfl, rfl⟩⟩, fun q => absurd hmk.1.2.2.2.2.1 q⟩
  rcases q with q | ⟨-, q⟩
  · exact Or.inl q
  · rw [q]
    exact Or.inr (Int.le_refl _)
/-- a row of parts, and a thing of them, with another one's keys -/
theorem o_mka1 (h0 : 0 ≤ n0) (h : o_in F0 M0 n0 p q gv u F T (I, g, k, z) M) {t : Int32} {a s : Nat} {fq : Nat → Option Nat} (ha : T a) (h12 : s ≤ 12) (hA : o_nr M A s (c_i g a 0) (c_i g a 1)) (hpt : ∀ j, j < s → ∃ b, fq j = some b ∧ F b (A 108 (12 * (M 102 8).toInt.toNat + j)) ∧ A 109 (12 * (M 102 8).toInt.toNat + j) = c_ky g a j) (hB : (m_ends A (M 102 8) s 107 (M 102 8).toInt.toNat).toInt ≤ 1000) (hz : (c_i g a 0).toInt = 3 → c_i g a 1 = ab_ii 0) : o_res F0 M0 n0 p q gv u F T (I, g, k, z) M (c_mkA a k s fq (c_arr (I, g, k, z) fq s)) (m_cani M (m_ends A (M 102 8) s, M 102 8) (m_nomk M, t)) := by
  obtain ⟨A1, A2, A3, A4, A5⟩ := hA
  refine o_cani h rfl (fun hc hm => ?_) (o_m1.of (o_eq (S := (I, g, k, z)) (S' := c_arr (I, g, k, z) fq s) rfl rfl) o_mkA.2)
  obtain ⟨c1, c2, c3⟩ := h.beg h0 hc A1 A2
  obtain ⟨r1, r2⟩ := c1.arr (f := fq) (n := s)
  have h125 : 125 ≤ k := h.1.1.2.1
  have hle := h.2.1.2.2
  have hin := h.2.2.1.1
  have hsp : (I 10 6).toInt = 0 := h.2.2.2.1
  obtain ⟨-, -, v3, v4⟩ := h.sm r2.o a ha
  have hmk := o_mka (z' := z + s + 6) (r := k) (a := a) r1 r2 ha (Nat.le_refl _) ⟨⟨wd_mut_new h125, Nat.lt_succ_self _⟩, ab_up_self _ _ _⟩ h12 ⟨hle, by omega, by omega⟩ (fun b e => by have := (hin.in e).2.2; omega) A3 (by rw [A4]; exact (v4 0).symm) (by rw [A5]; exact (v4 1).symm) (fun j hj => by
    obtain ⟨b, b1, b2, b3⟩ := hpt j hj
    exact ⟨b, b1, b2, b3.trans (v3 j).symm⟩) hB (by rw [v4 0, v4 1]; exact hz)
  have e : c_mkA a k s fq (c_arr (I, g, k, z) fq s) = (k + 1, (c_I1 I, c_mka (ab_up g k (ab_ra 4 s fq)) (k + 1) a k s fq, k + 1 + 1, z + s + 6)) := by
    unfold c_mkA c_arr
    dsimp only
    rw [if_pos hsp, if_pos hm]
  rw [e]
  refine ⟨fun _ => ⟨_, _, hmk.2, hmk.1, fun _ _ q => Or.inl q, fun b t q => ?_, Or.inr ⟨rfl, rfl⟩⟩, fun q => absurd hmk.1.2.2.2.2.1 q⟩
  rcases q with q | ⟨-, q⟩
  · exact Or.inl q
  · rw [q]
    exact Or.inr (Int.le_refl _)
end
end
section
/-! ===== OVER on both sides: what is put in another order (own text) ===== -/
theorem o_lex_an {G : Int32 → Int32 → Int} {M : wd_I} {a b : Nat} (hG : ∀ x y, G x y = - G y x) : ∀ n k, m_lex G M a b n k = - m_lex G M b a n k
  | 0, k => by
    unfold m_lex
    by_cases h1 : (M 105 a).toInt < (M 105 b).toInt
    · rw [if_pos h1, if_neg (by omega), if_pos h1]
    · rw [if_neg h1]
      by_cases h2 : (M 105 b).toInt < (M 105 a).toInt
      · rw [if_pos h2, if_pos h2]; omega
      · rw [if_neg h2, if_neg h2, if_neg h1]; omega
  | n + 1, k => by
    have ih := o_lex_an (M := M) (a := a) (b := b) hG n (k + 1)
    have h2 := hG (M 108 (12 * a + k)) (M 108 (12 * b + k))
    unfold m_lex
    by_cases e : (M 109 (12 * a + k)).toInt = (M 109 (12 * b + k)).toInt
    · rw [if_pos e, if_pos e.symm]
      by_cases e2 : G (M 108 (12 * a + k)) (M 108 (12 * b + k)) = 0
      · rw [if_pos e2, if_pos (by omega), ih]
      · rw [if_neg e2, if_neg (by omega)]
        exact h2
    · have e' : ¬ (M 109 (12 * b + k)).toInt = (M 109 (12 * a + k)).toInt := fun q => e q.symm
      rw [if_neg e, if_neg e']
      by_cases e3 : (M 109 (12 * a + k)).toInt < (M 109 (12 * b + k)).toInt
      · rw [if_pos e3, if_neg (by omega)]
      · rw [if_neg e3, if_pos (by omega)]; omega
theorem o_an {M : wd_I} : ∀ (f : Nat) (a b : Int32), m_cmp M f a b = - m_cmp M f b a
  | 0, a, b => rfl
  | f + 1, a, b => by
    have hl := o_lex_an (M := M) (a := a.toInt.toNat) (b := b.toInt.toNat) (fun x y => o_an (M := M) f x y) (min (M 105 a.toInt.toNat).toInt.toNat (M 105 b.toInt.toNat).toInt.toNat) 0
    unfold m_cmp
    by_cases e : a.toInt = b.toInt
    · rw [if_pos e, if_pos e.symm]; rfl
    · have e' : ¬ b.toInt = a.toInt := fun q => e q.symm
      rw [if_neg e, if_neg e']
      by_cases e1 : (M 103 a.toInt.toNat).toInt = (M 103 b.toInt.toNat).toInt
      · rw [if_pos e1, if_pos e1.symm]
        by_cases e2 : (M 104 a.toInt.toNat).toInt = (M 104 b.toInt.toNat).toInt
        · rw [if_pos e2, if_pos e2.symm, hl, Nat.min_comm]
        · have e2' : ¬ (M 104 b.toInt.toNat).toInt = (M 104 a.toInt.toNat).toInt := fun q => e2 q.symm
          rw [if_neg e2, if_neg e2']
          by_cases e3 : (M 104 a.toInt.toNat).toInt < (M 104 b.toInt.toNat).toInt
          · rw [if_pos e3, if_neg (by omega)]
          · rw [if_neg e3, if_pos (by omega)]; omega
      · have e1' : ¬ (M 103 b.toInt.toNat).toInt = (M 103 a.toInt.toNat).toInt := fun q => e1 q.symm
        rw [if_neg e1, if_neg e1']
        by_cases e3 : (M 103 a.toInt.toNat).toInt < (M 103 b.toInt.toNat).toInt
        · rw [if_pos e3, if_neg (by omega)]
        · rw [if_neg e3, if_pos (by omega)]; omega
/-! turned round -/
theorem o_chl_t {how : Int} {s c t m j : Nat} {N : wd_I} (htc : t < c) (hj : j < 12) : m_chl how s c t N m 108 (12 * t + j) = N 108 (12 * t + j) := ((m_chl_fr (n := (c : Int)) (how := how) (s := s) (t := t) (Int.le_refl _) (m_fr.rf (M := N)) m).1.2 (12 * t + j) (by omega)).1
theorem o_rv {how : Int} (hh : how = 8 ∨ how = 9) {s c t : Nat} (htc : t < c) (h12 : s ≤ 12) {N : wd_I} : ∀ m, m ≤ s → ∀ j, j < s → m_chl how s c t N m 108 (12 * c + j) = if s - m ≤ j then N 108 (12 * t + (s - 1 - j)) else N 108 (12 * c + j)
  | 0, hm, j, hj => by
    rw [if_neg (by omega)]
    rfl
  | m + 1, hm, j, hj => by
    have ih := o_rv hh htc h12 (N := N) m (by omega) j hj
    have hf := o_chl_t (how := how) (s := s) (m := m) (N := N) htc (show m < 12 by omega)
    show m_ch1 how s c t (m_chl how s c t N m) m 108 (12 * c + j) = _
    unfold m_ch1
    rw [if_pos hh, hf]
    by_cases e : s - 1 - m = j
    · rw [e, wd_up_self, if_pos (by omega), show s - 1 - j = m by omega]
    · rw [wd_up_ne _ _ (Or.inr (by omega)), ih]
      by_cases e2 : s - m ≤ j
      · rw [if_pos e2, if_pos (by omega)]
      · rw [if_neg e2, if_neg (by omega)]
theorem o_tn {how : Int} (hh : how = 11) {s c t : Nat} (htc : t < c) (h12 : s ≤ 12) {N : wd_I} : ∀ m, m ≤ s → ∀ j, j < s → m_chl how s c t N m 108 (12 * c + j) = if j = 0 then (if m = s then N 108 (12 * t + (s - 1)) else N 108 (12 * c + 0)) else if j ≤ m then N 108 (12 * t + (j - 1)) else N 108 (12 * c + j)
  | 0, hm, j, hj => by
    show N 108 (12 * c + j) = _
    by_cases e : j = 0
    · rw [if_pos e, if_neg (by omega), e]
    · rw [if_neg e, if_neg (by omega)]
  | m + 1, hm, j, hj => by
    have ih := o_tn hh htc h12 (N := N) m (by omega) j hj
    have hf := o_chl_t (how := how) (s := s) (m := m) (N := N) htc (show m < 12 by omega)
    show m_ch1 how s c t (m_chl how s c t N m) m 108 (12 * c + j) = _
    unfold m_ch1
    rw [if_neg (by omega), if_pos hh, hf]
    by_cases e : m + 1 = s
    · rw [show (m + 1) % s = 0 by rw [e]; exact Nat.mod_self s]
      by_cases ej : j = 0
      · rw [ej, wd_up_self, if_pos rfl, if_pos e, show s - 1 = m by omega]
      · rw [wd_up_ne _ _ (Or.inr (by omega)), ih, if_neg ej, if_neg ej, if_pos (by omega), if_pos (by omega)]
    · rw [show (m + 1) % s = m + 1 from Nat.mod_eq_of_lt (by omega)]
      by_cases ej : j = m + 1
      · rw [ej, wd_up_self, if_neg (by omega), if_pos (by omega), show m + 1 - 1 = m by omega]
      · rw [wd_up_ne _ _ (Or.inr (by omega)), ih]
        by_cases e0 : j = 0
        · rw [if_pos e0, if_pos e0, if_neg (by omega), if_neg e]
        · rw [if_neg e0, if_neg e0]
          by_cases e1 : j ≤ m
          · rw [if_pos e1, if_pos (by omega)]
          · rw [if_neg e1, if_neg (by omega)]
/-! sorted -/
def o_rr (F0 : Nat → Int32 → Prop) (s c : Nat) (f : Nat → Option Nat) (N : wd_I) : Prop := ∀ j, j < s → ∃ b, f j = some b ∧ F0 b (N 108 (12 * c + j))
section
variable {F0 : Nat → Int32 → Prop} {T : Nat → Prop} {g : Nat → ab_C} {M0 N : wd_I} {n0 : Int} {s c : Nat} {f : Nat → Option Nat}
theorem o_rr_up (h : o_rr F0 s c f N) {b i : Nat} {x : Int32} (hb : F0 b x) : o_rr F0 s c (ab_up f i (some b)) (wd_up N 108 (12 * c + i) x) := fun j hj => by
  by_cases e : j = i
  · rw [e, ab_up_self, wd_up_self]
    exact ⟨b, rfl, hb⟩
  · rw [ab_up_ne _ _ e, wd_up_ne _ _ (Or.inr (by omega))]
    exact h j hj
theorem o_si_gt {mv : Nat} : ∀ (q : Nat) (f : Nat → Option Nat) (j : Nat), q < j → c_si g mv q f j = f j
  | 0, f, j, hj => ab_up_ne _ _ (by omega)
  | q + 1, f, j, hj => by
    unfold c_si
    split
    · rw [o_si_gt q _ j (by omega), ab_up_ne _ _ (by omega)]
    · exact ab_up_ne _ _ (by omega)
theorem o_sins (hk : h_ok F0 T g M0 n0) (hT : m_T M0 n0) (hc : n0 ≤ (c : Int)) {mv : Nat} {p : Int32} (hp : F0 mv p) : ∀ (q : Nat) (f : Nat → Option Nat) (N : wd_I), q < s → m_fr n0 M0 N → o_rr F0 s c f N → o_rr F0 s c (c_si g mv q f) (m_ins c p q N)
  | 0, f, N, hq, hf, hr => o_rr_up hr hp
  | q + 1, f, N, hq, hf, hr => by
    obtain ⟨b, b1, b2⟩ := hr q (by omega)
    have hx := hk.b b2
    have hpb := hk.b hp
    have e1 := h_cmp41 (f' := 13) hk hT (by omega) hp b2
    have e2 := m_cmp_sb hf.1 hT.tb.1 13 (N 108 (12 * c + q)) p hx.1 hx.2 hpb.1 hpb.2
    have e3 := o_an (M := M0) 13 p (N 108 (12 * c + q))
    unfold c_si m_ins
    rw [b1]
    simp only [Option.getD_some]
    by_cases hlt : c_cmp g 41 mv b < 0
    · rw [if_pos hlt, if_pos (show 0 < m_cmp N 13 (N 108 (12 * c + q)) p by omega)]
      exact o_sins hk hT hc hp q _ _ (by omega) (m_fr_up hf (by unfold m_wr; omega)) (o_rr_up hr b2)
    · rw [if_neg hlt, if_neg (show ¬ 0 < m_cmp N 13 (N 108 (12 * c + q)) p by omega)]
      exact o_rr_up hr hp
theorem o_sort (hk : h_ok F0 T g M0 n0) (hT : m_T M0 n0) (hc : n0 ≤ (c : Int)) {how : Int} (hh : ¬ (how = 8 ∨ how = 9) ∧ ¬ how = 11) {t : Nat} (htc : t < c) (h12 : s ≤ 12) (hN : m_fr n0 M0 N) (hr : o_rr F0 s c f N) (ht : ∀ j, j < s → N 108 (12 * c + j) = N 108 (12 * t + j)) : ∀ m, m + 1 ≤ s → o_rr F0 s c (c_ss g f m) (m_chl how s c t N (m + 1)) ∧ ∀ j, m < j → c_ss g f m j = f j
  | 0, hm => by
    refine ⟨?_, fun _ _ => rfl⟩
    show o_rr F0 s c f (m_ch1 how s c t N 0)
    unfold m_ch1
    rw [if_neg hh.1, if_neg hh.2]
    intro j hj
    obtain ⟨b, b1, b2⟩ := hr j hj
    refine ⟨b, b1, ?_⟩
    show F0 b (wd_up N 108 (12 * c + 0) (N 108 (12 * t + 0)) 108 (12 * c + j))
    by_cases e : j = 0
    · subst e
      rw [wd_up_self, ← ht 0 hj]
      exact b2
    · rw [wd_up_ne _ _ (Or.inr (by omega))]
      exact b2
  | m + 1, hm => by
    obtain ⟨i1, i2⟩ := o_sort hk hT hc hh htc h12 hN hr ht m (by omega)
    obtain ⟨b, b1, b2⟩ := hr (m + 1) (by omega)
    have e1 : (c_ss g f m (m + 1)).getD 0 = b := by rw [i2 (m + 1) (by omega), b1]; rfl
    have e2 := o_chl_t (how := how) (s := s) (m := m + 1) (N := N) htc (show m + 1 < 12 by omega)
    have hfr : m_fr n0 M0 (m_chl how s c t N (m + 1)) := m_chl_fr (by omega) hN (m + 1)
    refine ⟨?_, fun j hj => ?_⟩
    · show o_rr F0 s c (c_si g ((c_ss g f m (m + 1)).getD 0) (m + 1) (c_ss g f m)) (m_ch1 how s c t (m_chl how s c t N (m + 1)) (m + 1))
      unfold m_ch1
      rw [if_neg hh.1, if_neg hh.2, e1, e2, ← ht (m + 1) (by omega)]
      exact o_sins hk hT hc b2 (m + 1) _ _ (by omega) hfr i1
    · show c_si g ((c_ss g f m (m + 1)).getD 0) (m + 1) (c_ss g f m) j = f j
      rw [o_si_gt _ _ _ hj]
      exact i2 j (by omega)
end
end
