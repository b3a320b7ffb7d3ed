/-! ===== both objects between calls (own text) ===== -/
def w_In (F : Nat → Int32 → Prop) (T : Nat → Prop) (I : wd_I) (P : wd_P) (M : wd_I) (g : Nat → ab_C) (k : Nat) : Prop := m_ok M ∧ k_ok T I P g k ∧ h_k F T g M (M 102 8).toInt ∧ h_tp I M ∧ I 9 0 = M 102 9 ∧ v_sh F I P M ∧ v_ke F I P M ∧ v_pa I P M g
/-- the reference's call answers r, and they stay alike -/
def w_ref (rm need : Nat) (args : List ab_V) (r : ab_V) (F : Nat → Int32 → Prop) (T : Nat → Prop) (I : wd_I) (P : wd_P) (M : wd_I) (g : Nat → ab_C) (k z : Nat) : Prop := ∀ (d : Nat) (Q : ab_Q), need ≤ d → (∀ M', w_In F T I P M' g k → Q (some r) (wd I P M' g, k, z)) → ab_CT d rm args (wd I P M g, k, z) Q
def w_res (rm need : Nat) (args : List ab_V) (n : Nat) (M : wd_I) (Q : ab_Q) : Prop := ∀ (r : Int32) (F' : Nat → Int32 → Prop) (T' : Nat → Prop) (I' : wd_I) (P' : wd_P) (g' : Nat → ab_C) (k' z' : Nat), w_ref rm need args (.inl r) F' T' I' P' M g' k' z' → k_rm n I' k' z' → Q (some (.inl r)) (wd I' P' M g', k', z')
def w_resL (rm need : Nat) (args : List ab_V) (n : Nat) (M : wd_I) (Q : ab_Q) : Prop := ∀ (r : Int64) (F' : Nat → Int32 → Prop) (T' : Nat → Prop) (I' : wd_I) (P' : wd_P) (g' : Nat → ab_C) (k' z' : Nat), w_ref rm need args (.inr (.inl r)) F' T' I' P' M g' k' z' → k_rm n I' k' z' → Q (some (.inr (.inl r))) (wd I' P' M g', k', z')
section
variable {F : Nat → Int32 → Prop} {T : Nat → Prop} {I I' : wd_I} {P P' : wd_P} {M M' : wd_I} {g : Nat → ab_C} {k z n d : Nat} {Q : ab_Q}
theorem m_eqv.ra (hE : m_eqv M M') {q : Nat} : m_ra M M' q := ⟨by rw [hE.1 103 (by decide) (by decide)], by rw [hE.1 104 (by decide) (by decide)], by rw [hE.1 105 (by decide) (by decide)], by rw [hE.1 106 (by decide) (by decide)], by rw [hE.1 107 (by decide) (by decide)], fun j _ => ⟨by rw [hE.1 108 (by decide) (by decide)], by rw [hE.1 109 (by decide) (by decide)]⟩⟩
theorem w_In.eqv (h : w_In F T I P M g k) (hE : m_eqv M M') : w_In F T I P M' g k := by
  obtain ⟨h1, h2, h3, h4, h5, h6, h7, h8⟩ := h
  have e8 := hE.2.1
  exact ⟨m_ok_eqv h1 hE, h2, h3.mv (fun _ q => q) (fun _ _ => h_sm.rf) (fun _ _ _ => hE.ra) (by rw [e8]; exact Int.le_refl _), h4.fr (fun _ => ⟨rfl, rfl⟩) ⟨hE.2.2.2.2, hE.1 120 (by decide) (by decide)⟩, by rw [hE.2.2.1]; exact h5, h6.mv (fun _ _ q => q) (fun _ _ => ⟨rfl, rfl, fun _ => rfl⟩) (fun x x1 x2 => hE.1 x (by omega) (by omega)), h7.mv (fun _ _ q => q) rfl (fun _ => rfl) (hE.1 116 (by decide) (by decide)), h8.fr h2 .rf (.eqv hE)⟩
theorem w_In.ix (h : w_In F T I P M g k) (hI : ∀ a j, (a = 0 ∨ a = 1 ∨ a = 2 ∨ a = 9 ∨ 18 ≤ a) → I' a j = I a j) (hP : ∀ a j, (a = 8 ∨ 16 ≤ a) → P' a j = P a j) : w_In F T I' P' M g k := by
  obtain ⟨h1, h2, h3, h4, h5, h6, h7, h8⟩ := h
  exact ⟨h1, h2.ix (fun a j q => hI a j (by omega)) hP, h3, h4.fr (fun j => ⟨(hI 1 1 (by omega)).symm, hI 2 j (by omega)⟩) ⟨rfl, rfl⟩, by rw [hI 9 0 (by omega)]; exact h5, h6.mv (fun _ _ q => q) (fun s hs => ⟨hI _ _ (by omega), hP _ _ (by omega), fun i => hP _ _ (by omega)⟩) (fun _ _ _ => rfl), h7.mv (fun _ _ q => q) (hI 0 11 (by omega)) (fun i => hP _ _ (by omega)) rfl, h8.fr h2 (.of (fun a j q => hI a j (by omega)) c_ofr.rf (fun a j q => hP a j (by omega))) .rf⟩
/-- the things on a shelf -/
theorem w_In.sh (h : w_In F T I P M g k) (s : Int32) : ∃ a, c_sh s → (P (18 + 5 * s.toInt.toNat) 2 = some a ∧ T a) ∧ F a (M 110 s.toInt.toNat) := by
  by_cases hs : c_sh s
  · obtain ⟨c, -, -, -, ⟨a, a1, a2⟩, -⟩ := h.2.2.2.2.2.1 s.toInt.toNat (by unfold c_sh at hs; omega)
    exact ⟨a, fun _ => ⟨⟨a1, (h.2.2.1.in a2).1⟩, a2⟩⟩
  · exact ⟨0, fun q => absurd q hs⟩
theorem w_In.tab (h : w_In F T I P M g k) : m_T M (M 102 8).toInt := h.1.1
theorem w_ref_bad {rm need : Nat} {args : List ab_V} {r : ab_V} (h : w_In F T I P M g k) (hx : ∀ (d : Nat) (Q : ab_Q), need ≤ d → Q (some r) (wd I P M g, k, z) → ab_CT d rm args (wd I P M g, k, z) Q) : w_ref rm need args r F T I P M g k z := fun d Q hd hQ => hx d Q hd (hQ M h)
theorem hc_order (hd : 46 ≤ d) (h : w_In F T I P M g k) (hr : k_rm (n + 1) I k z) {s t : Int32} (hQ : w_res 186 14 [wd_v 102, .inl s, .inl t] n M Q) : ab_CT d 116 [wd_v 0, .inl s, .inl t] (wd I P M g, k, z) Q := by
  have hr0 : k_rm n I k z := hr.le (Int.le_refl _) (Nat.le_add_right _ _) (Nat.le_add_right _ _)
  obtain ⟨a, ha⟩ := h.sh s
  obtain ⟨b, hb⟩ := h.sh t
  refine y_order2 hd h.2.1.1 (fun q => ?_) (fun q => (ha q).1) (fun q => (hb q).1) (fun q1 q2 => ?_)
  · refine hQ _ F T _ _ _ _ _ (w_ref_bad h (fun d Q hd hq => ?_)) hr0
    exact x_order hd h.1.1.tb.1 h.1.2.2.2.1 (fun _ => hq) (fun e1 e2 e3 e4 => absurd ⟨⟨e1, by omega⟩, e3, by omega⟩ q)
  · refine hQ _ F T _ _ _ _ _ (w_ref_bad h (fun d Q hd hq => ?_)) hr0
    refine x_order hd h.1.1.tb.1 h.1.2.2.2.1 (fun e => ?_) (fun e1 e2 e3 e4 => ?_)
    · unfold c_sh at q1 q2; exfalso; omega
    · rw [← h_cmp41 (f' := 13) h.2.2.1.1 h.tab (by omega) (ha q1).2 (hb q2).2]
      exact hq
theorem hc_shared (hd : 88 ≤ d) (h : w_In F T I P M g k) (hr : k_rm (n + 1) I k z) {s t : Int32} (hQ : w_res 189 17 [wd_v 102, .inl s, .inl t] n M Q) : ab_CT d 117 [wd_v 0, .inl s, .inl t] (wd I P M g, k, z) Q := by
  have hr0 : k_rm n I k z := hr.le (Int.le_refl _) (Nat.le_add_right _ _) (Nat.le_add_right _ _)
  obtain ⟨a, ha⟩ := h.sh s
  obtain ⟨b, hb⟩ := h.sh t
  refine y_shared hd h.2.1.1 (fun q => ?_) (fun q => (ha q).1) (fun q => (hb q).1) (fun q1 q2 => ?_)
  · refine hQ _ F T _ _ _ _ _ (w_ref_bad h (fun d Q hd hq => ?_)) hr0
    exact x_shared hd h.1.1.tb.1 h.1.2.2.2.1 (fun _ => hq) (fun e => absurd ⟨⟨e.1, by omega⟩, e.2.2.1, by omega⟩ q)
  · refine hQ _ F T _ _ _ _ _ (fun d Q hd hq => ?_) hr0
    refine x_shared hd h.1.1.tb.1 h.1.2.2.2.1 (fun e => ?_) (fun e M' hE => ?_)
    · unfold c_sh at q1 q2; exfalso; omega
    · rw [← h_shared h.2.2.1.1 h.tab (ha q1).2 (hb q2).2]
      exact hq M' (h.eqv hE)
theorem hc_differ (hd : 92 ≤ d) (h : w_In F T I P M g k) (hr : k_rm (n + 1) I k z) {s t w : Int32} (hQ : w_res 192 28 [wd_v 102, .inl s, .inl t, .inl w] n M Q) : ab_CT d 118 [wd_v 0, .inl s, .inl t, .inl w] (wd I P M g, k, z) Q := by
  have hr0 : k_rm n I k z := hr.le (Int.le_refl _) (Nat.le_add_right _ _) (Nat.le_add_right _ _)
  obtain ⟨a, ha⟩ := h.sh s
  obtain ⟨b, hb⟩ := h.sh t
  refine y_differ hd h.2.1.1 (fun q => ?_) (fun q => (ha q).1) (fun q => (hb q).1) (fun q1 q2 => ?_)
  · refine hQ _ F T _ _ _ _ _ (w_ref_bad h (fun d Q hd hq => ?_)) hr0
    exact x_differ hd h.1.lok (fun _ => hq) (fun e => absurd ⟨⟨e.1, by omega⟩, e.2.2.1, by omega⟩ q)
  · refine hQ _ F T _ _ _ _ _ (fun d Q hd hq => ?_) (hr.le (by rw [d_fnd_ne (by omega) (by omega)]; exact Int.le_refl _) (Nat.le_add_right _ _) (Nat.le_add_right _ _))
    have h' : w_In F T (d_fnd I g a b) P M g k := h.ix (fun x j hx => d_fnd_ne (by omega) (by omega)) (fun _ _ _ => rfl)
    refine x_differ hd h.1.lok (fun e => ?_) (fun e M' hE => ?_)
    · unfold c_sh at q1 q2; exfalso; omega
    · rw [← h_dfr h.2.2.1.1 h.tab (I := I) (ha q1).2 (hb q2).2]
      exact hq M' (h'.eqv hE)
end
