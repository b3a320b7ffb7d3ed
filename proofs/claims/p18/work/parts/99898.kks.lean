/-! ===== the class: its calls, safe, with what they leave (own text) ===== -/
def k_q (M : wd_I) (Q : ab_Q) (n : Nat) (t : Int32) : Prop := ∀ (r : Int32) (T' : Nat → Prop) (I' : wd_I) (P' : wd_P) (g' : Nat → ab_C) (k' z' : Nat), k_ok T' I' P' g' k' → I' 1 1 = t → k_rm n I' k' z' → Q (some (.inl r)) (wd I' P' M g', k', z')
def k_ql (M : wd_I) (Q : ab_Q) (n : Nat) (t : Int32) : Prop := ∀ (r : Int64) (T' : Nat → Prop) (I' : wd_I) (P' : wd_P) (g' : Nat → ab_C) (k' z' : Nat), k_ok T' I' P' g' k' → I' 1 1 = t → k_rm n I' k' z' → Q (some (.inr (.inl r))) (wd I' P' M g', k', z')
theorem c_fed_ne {I : wd_I} {w : Int32} {c a i : Nat} (h : a ≠ 2) (h1 : ¬ (a = 1 ∧ i = 1)) : ∀ j, c_fed I w c j a i = I a i
  | 0 => rfl
  | j + 1 => by
    unfold c_fed
    rw [wd_up_ne _ _ (by omega), wd_up_ne _ _ (Or.inl h), c_fed_ne h h1 j]
theorem c_srt_ne {g : Nat → ab_C} {l : List Nat} {o : Int} {I : wd_I} {i a j : Nat} (h : a ≠ 13) : c_srt g l o I i a j = I a j := by rw [c_srt_row h]
theorem d_pushes_ne {a j : Nat} (h1 : a ≠ 15) (h2 : a ≠ 14) : ∀ (l : List Int32) (I : wd_I), d_pushes I l a j = I a j
  | [], I => rfl
  | x :: l, I => by
    show d_pushes (d_push I x) l a j = _
    rw [d_pushes_ne h1 h2 l]
    unfold d_push
    split
    · rw [wd_up_ne _ _ (Or.inl h2), wd_up_ne _ _ (Or.inl h1)]
    · rfl
theorem d_fnd_ne {I : wd_I} {g : Nat → ab_C} {a b x j : Nat} (h1 : x ≠ 15) (h2 : x ≠ 14) : d_fnd I g a b x j = I x j := by
  unfold d_fnd
  rw [d_pushes_ne h1 h2, wd_up_ne _ _ (Or.inl h2)]
theorem k_sm_of {I I' : wd_I} {P P' : wd_P} (hI : ∀ a j, (a = 0 ∨ 18 ≤ a) → I' a j = I a j) (hP : ∀ a j, (a = 8 ∨ 16 ≤ a) → P' a j = P a j) : k_sm I P I' P' := ⟨fun j hj => ⟨hI _ _ (by omega), hP _ _ (by omega), fun i => hP _ _ (by omega)⟩, fun i => hP _ _ (by omega), hI _ _ (by omega), fun i => hP _ _ (by omega), fun i => hP _ _ (by omega)⟩
section
variable {T : Nat → Prop} {I : wd_I} {P : wd_P} {g : Nat → ab_C} {k : Nat}
theorem k_ok.ix (h : k_ok T I P g k) {I' : wd_I} {P' : wd_P} (hI : ∀ a j, (a = 0 ∨ a = 1 ∨ a = 9 ∨ 18 ≤ a) → I' a j = I a j) (hP : ∀ a j, (a = 8 ∨ 16 ≤ a) → P' a j = P a j) : k_ok T I' P' g k := h.fr h.1 (fun _ q => q) c_ofr.rf (Nat.le_refl _) (k_sm_of (fun a j q => hI a j (by omega)) hP) (by rw [hI 9 0 (by omega)]; exact h.2.2.1) (by rw [hI 1 1 (by omega)]; exact h.2.2.2.2.2.1)
theorem k_ok.fnd (h : k_ok T I P g k) {p a : Nat} : k_ok T (f_fnd I P g p a).1 (f_fnd I P g p a).2 g k := h.ix (fun x j hx => f_fnd_ne.1 x j (by omega)) (fun x j hx => f_fnd_ne.2 x j (by omega))
end
section
variable {d : Nat} {T : Nat → Prop} {I : wd_I} {P : wd_P} {M : wd_I} {g : Nat → ab_C} {k z n : Nat} {Q : ab_Q}
theorem kk_undo (hd : 3 ≤ d) (h : k_ok T I P g k) (hr : k_rm (n + 1) I k z) {s : Int32} (hQ : k_q M Q n (I 1 1)) : ab_CT d 111 [wd_v 0, .inl s] (wd I P M g, k, z) Q := by
  by_cases hs : c_sh s
  · obtain ⟨c, hc⟩ := h.sok hs
    have hs' : s.toInt.toNat < 12 := by unfold c_sh at hs; omega
    refine y_undo hd (c := c) (fun q => absurd hs q) (fun _ => hc.1) hc.2.1 (fun _ _ => hQ _ _ _ _ _ _ _ h rfl (hr.le (Int.le_refl _) (by omega) (by omega))) (fun _ c' hcc => ?_)
    obtain ⟨b, hb, hTb⟩ := hc.2.2.2 c' (by omega)
    refine ⟨b, hb, hQ _ T _ _ _ _ _ ?_ (wd_up_ne _ _ (by omega)) (hr.le (by rw [wd_up_ne _ _ (by omega)]; exact Int.le_refl _) (by omega) (by omega))⟩
    obtain ⟨h1, h2, h3, h4, h5, h6, h7⟩ := h
    refine ⟨h1, h2, by rw [wd_up_ne _ _ (by omega)]; exact h3, fun j hj => ?_, fun p hp => ?_, by rw [wd_up_ne _ _ (by omega)]; exact h6, fun q => ?_⟩
    · by_cases e : j = s.toInt.toNat
      · subst e
        refine ⟨c', wd_up_self _ _ _ _, by have := hc.2.1; omega, ⟨b, wd_up_self _ _ _ _, hTb⟩, fun i hi => ?_⟩
        rw [wd_up_ne _ _ (by omega)]
        exact hc.2.2.2 i (by omega)
      · obtain ⟨c2, hc2⟩ := h4 j hj
        exact ⟨c2, s_ok_eq hc2 (wd_up_ne _ _ (by omega)) (wd_up_ne _ _ (by omega)) (fun i => wd_up_ne _ _ (by omega))⟩
    · rw [wd_up_ne _ _ (by omega)]; exact h5 p hp
    · rw [wd_up_ne _ _ (by omega)] at q
      obtain ⟨q1, q2⟩ := h7 q
      exact ⟨fun p hp => by rw [wd_up_ne _ _ (by omega)]; exact q1 p hp, fun p hp => by rw [wd_up_ne _ _ (by omega)]; exact q2 p hp⟩
  · exact y_undo hd (c := 0) (fun _ => hQ _ _ _ _ _ _ _ h rfl (hr.le (Int.le_refl _) (by omega) (by omega))) (fun q => absurd q hs) (by omega) (fun q => absurd q hs) (fun q => absurd q hs)
theorem kk_order (hd : 46 ≤ d) (h : k_ok T I P g k) (hr : k_rm (n + 1) I k z) {s t : Int32} (hQ : k_q M Q n (I 1 1)) : ab_CT d 116 [wd_v 0, .inl s, .inl t] (wd I P M g, k, z) Q := by
  have hq := fun r => hQ r _ _ _ _ _ _ h rfl (hr.le (Int.le_refl _) (Nat.le_add_right _ _) (Nat.le_add_right _ _))
  obtain ⟨a, ha⟩ : ∃ a, c_sh s → P (18 + 5 * s.toInt.toNat) 2 = some a ∧ T a := by
    by_cases hs : c_sh s
    · obtain ⟨a, ha⟩ := h.held hs; exact ⟨a, fun _ => ha⟩
    · exact ⟨0, fun q => absurd q hs⟩
  obtain ⟨b, hb⟩ : ∃ b, c_sh t → P (18 + 5 * t.toInt.toNat) 2 = some b ∧ T b := by
    by_cases hs : c_sh t
    · obtain ⟨a, ha⟩ := h.held hs; exact ⟨a, fun _ => ha⟩
    · exact ⟨0, fun q => absurd q hs⟩
  exact y_order2 hd h.1 (fun _ => hq _) ha hb (fun _ _ => hq _)
theorem kk_shared (hd : 88 ≤ d) (h : k_ok T I P g k) (hr : k_rm (n + 1) I k z) {s t : Int32} (hQ : k_q M Q n (I 1 1)) : ab_CT d 117 [wd_v 0, .inl s, .inl t] (wd I P M g, k, z) Q := by
  have hq := fun r => hQ r _ _ _ _ _ _ h rfl (hr.le (Int.le_refl _) (Nat.le_add_right _ _) (Nat.le_add_right _ _))
  obtain ⟨a, ha⟩ : ∃ a, c_sh s → P (18 + 5 * s.toInt.toNat) 2 = some a ∧ T a := by
    by_cases hs : c_sh s
    · obtain ⟨a, ha⟩ := h.held hs; exact ⟨a, fun _ => ha⟩
    · exact ⟨0, fun q => absurd q hs⟩
  obtain ⟨b, hb⟩ : ∃ b, c_sh t → P (18 + 5 * t.toInt.toNat) 2 = some b ∧ T b := by
    by_cases hs : c_sh t
    · obtain ⟨a, ha⟩ := h.held hs; exact ⟨a, fun _ => ha⟩
    · exact ⟨0, fun q => absurd q hs⟩
  exact y_shared hd h.1 (fun _ => hq _) ha hb (fun _ _ => hq _)
theorem kk_differ (hd : 92 ≤ d) (h : k_ok T I P g k) (hr : k_rm (n + 1) I k z) {s t w : Int32} (hQ : k_q M Q n (I 1 1)) : ab_CT d 118 [wd_v 0, .inl s, .inl t, .inl w] (wd I P M g, k, z) Q := by
  obtain ⟨a, ha⟩ : ∃ a, c_sh s → P (18 + 5 * s.toInt.toNat) 2 = some a ∧ T a := by
    by_cases hs : c_sh s
    · obtain ⟨a, ha⟩ := h.held hs; exact ⟨a, fun _ => ha⟩
    · exact ⟨0, fun q => absurd q hs⟩
  obtain ⟨b, hb⟩ : ∃ b, c_sh t → P (18 + 5 * t.toInt.toNat) 2 = some b ∧ T b := by
    by_cases hs : c_sh t
    · obtain ⟨a, ha⟩ := h.held hs; exact ⟨a, fun _ => ha⟩
    · exact ⟨0, fun q => absurd q hs⟩
  refine y_differ hd h.1 (fun _ => hQ _ _ _ _ _ _ _ h rfl (hr.le (Int.le_refl _) (by omega) (by omega))) ha hb (fun _ _ => hQ _ T _ _ _ _ _ (h.ix (fun x j hx => d_fnd_ne (by omega) (by omega)) (fun _ _ _ => rfl)) (d_fnd_ne (by omega) (by omega)) (hr.le (by rw [d_fnd_ne (by omega) (by omega)]; exact Int.le_refl _) (by omega) (by omega)))
theorem kk_count (hd : 3 ≤ d) (h : k_ok T I P g k) (hr : k_rm (n + 1) I k z) {w : Int32} (hQ : k_q M Q n (I 1 1)) : ab_CT d 122 [wd_v 0, .inl w] (wd I P M g, k, z) Q := by
  have hq := fun r => hQ r _ _ _ _ _ _ h rfl (hr.le (Int.le_refl _) (Nat.le_add_right _ _) (Nat.le_add_right _ _))
  refine y_count hd (fun _ => hq _) (fun _ _ => hq _) (fun h1 h2 => ?_) (fun _ => hq _) (fun _ => hq _)
  obtain ⟨b, hb, hw⟩ := h.2.2.2.2.1 (w.toInt - 12).toNat (by omega)
  exact ⟨b, hb, hw, hq _⟩
theorem k_oks (h : k_ok T I P g k) (s : Int32) : ∃ a c, c_sh s → (P (18 + 5 * s.toInt.toNat) 2 = some a ∧ T a) ∧ s_ok T I P s.toInt.toNat c := by
  by_cases hs : c_sh s
  · obtain ⟨a, ha⟩ := h.held hs
    obtain ⟨c, hc⟩ := h.sok hs
    exact ⟨a, c, fun _ => ⟨ha, hc⟩⟩
  · exact ⟨0, 0, fun q => absurd q hs⟩
theorem k_okp (h : k_ok T I P g k) (p : Int32) : ∃ b, c_pp p → P 8 p.toInt.toNat = some b ∧ p_wf g k b := by
  by_cases hs : c_pp p
  · obtain ⟨a, ha⟩ := h.pth hs; exact ⟨a, fun _ => ha⟩
  · exact ⟨0, fun q => absurd q hs⟩
theorem kk_look (hd : 50 ≤ d) (h : k_ok T I P g k) (hr : k_rm (n + 1) I k z) {s p q w : Int32} (hQ : k_ql M Q n (I 1 1)) : ab_CT d 112 [wd_v 0, .inl s, .inl p, .inl q, .inl w] (wd I P M g, k, z) Q := by
  obtain ⟨a, c, ha⟩ := k_oks h s
  obtain ⟨b, hb⟩ := k_okp h p
  have hq := fun r => hQ r _ _ _ _ _ _ (h.fnd (p := b) (a := a)) (f_fnd_ne.1 _ _ (by omega)) (hr.le (by rw [f_fnd_ne.1 _ _ (by omega)]; exact Int.le_refl _) (Nat.le_add_right _ _) (Nat.le_add_right _ _))
  exact y_look hd h.1 (fun _ => hQ _ _ _ _ _ _ _ h rfl (hr.le (Int.le_refl _) (by omega) (by omega))) (fun hs => (ha hs).1) hb (fun _ _ => hq _) (fun _ _ _ => hq _)
theorem kk_key (hd : 50 ≤ d) (h : k_ok T I P g k) (hr : k_rm (n + 1) I k z) {s p q w : Int32} (hQ : k_q M Q n (I 1 1)) : ab_CT d 113 [wd_v 0, .inl s, .inl p, .inl q, .inl w] (wd I P M g, k, z) Q := by
  obtain ⟨a, c, ha⟩ := k_oks h s
  obtain ⟨b, hb⟩ := k_okp h p
  have hq := fun r => hQ r _ _ _ _ _ _ (h.fnd (p := b) (a := a)) (f_fnd_ne.1 _ _ (by omega)) (hr.le (by rw [f_fnd_ne.1 _ _ (by omega)]; exact Int.le_refl _) (Nat.le_add_right _ _) (Nat.le_add_right _ _))
  exact y_key hd h.1 (fun _ => hQ _ _ _ _ _ _ _ h rfl (hr.le (Int.le_refl _) (by omega) (by omega))) (fun hs => (ha hs).1) hb (fun _ _ => hq _) (fun _ _ _ => hq _)
theorem kk_fold (hd : 50 ≤ d) (h : k_ok T I P g k) (hr : k_rm (n + 1) I k z) {s p q : Int32} (hQ : k_ql M Q n (I 1 1)) : ab_CT d 114 [wd_v 0, .inl s, .inl p, .inl q] (wd I P M g, k, z) Q := by
  obtain ⟨a, c, ha⟩ := k_oks h s
  obtain ⟨b, hb⟩ := k_okp h p
  have hq := fun r => hQ r _ _ _ _ _ _ (h.fnd (p := b) (a := a)) (f_fnd_ne.1 _ _ (by omega)) (hr.le (by rw [f_fnd_ne.1 _ _ (by omega)]; exact Int.le_refl _) (Nat.le_add_right _ _) (Nat.le_add_right _ _))
  exact y_fold hd h.1 (fun _ => hQ _ _ _ _ _ _ _ h rfl (hr.le (Int.le_refl _) (by omega) (by omega))) (fun hs => (ha hs).1) hb (fun _ => hq _)
theorem kk_best (hd : 50 ≤ d) (h : k_ok T I P g k) (hr : k_rm (n + 1) I k z) {s p o q : Int32} (hQ : k_q M Q n (I 1 1)) : ab_CT d 115 [wd_v 0, .inl s, .inl p, .inl o, .inl q] (wd I P M g, k, z) Q := by
  obtain ⟨a, c, ha⟩ := k_oks h s
  obtain ⟨b, hb⟩ := k_okp h p
  have hq := fun r => hQ r _ _ _ _ _ _ (h.fnd (p := b) (a := a)) (f_fnd_ne.1 _ _ (by omega)) (hr.le (by rw [f_fnd_ne.1 _ _ (by omega)]; exact Int.le_refl _) (Nat.le_add_right _ _) (Nat.le_add_right _ _))
  refine y_best hd h.1 (fun _ => hQ _ _ _ _ _ _ _ h rfl (hr.le (Int.le_refl _) (by omega) (by omega))) (fun hs => (ha hs).1) hb (fun _ _ => hq _) (fun _ _ _ => hQ _ T _ _ _ _ _ ((h.fnd (p := b) (a := a)).ix (fun x j hx => c_srt_ne (by omega)) (fun _ _ _ => rfl)) ((c_srt_ne (by omega)).trans (f_fnd_ne.1 _ _ (by omega))) (hr.le (by rw [c_srt_ne (by omega), f_fnd_ne.1 _ _ (by omega)]; exact Int.le_refl _) (by omega) (by omega)))
theorem kk_take (hd : 50 ≤ d) (h : k_ok T I P g k) (hr : k_rm (n + 1) I k z) {s f p q : Int32} (hQ : k_q M Q n (I 1 1)) : ab_CT d 110 [wd_v 0, .inl s, .inl f, .inl p, .inl q] (wd I P M g, k, z) Q := by
  obtain ⟨a0, c, hs⟩ := k_oks h s
  obtain ⟨a, c0, ha⟩ := k_oks h f
  obtain ⟨b, hb⟩ := k_okp h p
  have hq := fun r => hQ r _ _ _ _ _ _ (h.fnd (p := b) (a := a)) (f_fnd_ne.1 _ _ (by omega)) (hr.le (by rw [f_fnd_ne.1 _ _ (by omega)]; exact Int.le_refl _) (Nat.le_add_right _ _) (Nat.le_add_right _ _))
  refine y_take hd h.1 (fun _ => hQ _ _ _ _ _ _ _ h rfl (hr.le (Int.le_refl _) (by omega) (by omega))) (fun q => (hs q).2) (fun q => (ha q).1) hb (fun _ _ => hq _) (fun hall h1 h2 => ?_)
  have hs9 : s.toInt.toNat < 12 := by have := hall.1; unfold c_sh at this; omega
  refine hQ _ T _ _ _ _ _ (k_ok.bec (h.fnd (p := b) (a := a)) hs9 (s_ok_fnd (hs hall.1).2) (c_fs41_T h.1 (ha hall.2.1).1.2 (by omega))) ?_ ?_
  · rw [s_becI_ne (by omega)]; exact f_fnd_ne.1 _ _ (by omega)
  · exact hr.le (by rw [s_becI_ne (by omega), f_fnd_ne.1 _ _ (by omega)]; exact Int.le_refl _) (by omega) (by omega)
theorem kk_image (hd : 5 ≤ d) (h : k_ok T I P g k) (hr : k_rm (n + 1) I k z) (hQ : k_q M Q n (I 1 1)) : ab_CT d 120 [wd_v 0] (wd I P M g, k, z) Q := by
  refine y_image hd h.1 h.shT h.2.2.2.2.1 (hQ _ T _ _ _ _ _ ?_ (wd_up_ne _ _ (by omega)) (hr.le (by unfold c_imI; rw [wd_up_ne _ _ (by omega)]; exact Int.le_refl _) (by omega) (by omega)))
  have hsh := h.shT
  obtain ⟨h1, h2, h3, h4, h5, h6, h7⟩ := h
  unfold c_imI
  refine ⟨h1, h2, by rw [wd_up_ne _ _ (by omega)]; exact h3, fun j hj => ?_, fun p hp => ?_, by rw [wd_up_ne _ _ (by omega)]; exact h6, fun _ => ⟨fun j hj => ?_, fun p hp => ?_⟩⟩
  · obtain ⟨c, hc⟩ := h4 j hj
    exact ⟨c, s_ok_eq hc (wd_up_ne _ _ (by omega)) (c_imP_sh hj) (fun i => by unfold c_imP; rw [c_iP_ne (by omega), c_iT_ne (by omega)])⟩
  · unfold c_imP; rw [c_iP_ne (by omega), c_iT_ne (by omega)]; exact h5 p hp
  · unfold c_imP; rw [c_iP_ne (by omega), c_iT_at 12 hj]; exact hsh j hj
  · unfold c_imP; rw [c_iP_at 8 hp, c_iT_ne (by omega)]; exact h5 p hp
theorem kk_back (hd : 5 ≤ d) (h : k_ok T I P g k) (hr : k_rm (n + 1) I k z) (hQ : k_q M Q n (I 1 1)) : ab_CT d 121 [wd_v 0] (wd I P M g, k, z) Q := by
  refine y_back hd h.1 (fun _ => hQ _ _ _ _ _ _ _ h rfl (hr.le (Int.le_refl _) (by omega) (by omega))) (fun q => h.2.2.2.2.2.2 q) (fun q => hQ _ T _ _ _ _ _ ?_ (by rw [c_bI_ne (fun j hj => by omega) 12 (by omega)]) (hr.le (by rw [c_bI_ne (fun j hj => by omega) 12 (by omega)]; exact Int.le_refl _) (by omega) (by omega)))
  obtain ⟨h1, h2, h3, h4, h5, h6, h7⟩ := h
  obtain ⟨q1, q2⟩ := h7 q
  refine ⟨h1, h2, by rw [c_bI_ne (fun j hj => by omega) 12 (by omega)]; exact h3, fun j hj => ⟨0, c_bI_at 12 hj, by omega, ?_, fun i hi => absurd hi (Nat.not_lt_zero _)⟩, fun p hp => ?_, by rw [c_bI_ne (fun j hj => by omega) 12 (by omega)]; exact h6, fun _ => ⟨fun j hj => ?_, fun p hp => ?_⟩⟩
  · rw [c_baP_sh hj]; exact q1 j hj
  · unfold c_baP; rw [c_bP_at 8 hp, c_bT_ne (fun j hj => by omega) 12 (by omega)]; exact q2 p hp
  · unfold c_baP; rw [c_bP_ne (by omega), c_bT_ne (fun j hj => by omega) 12 (by omega)]; exact q1 j hj
  · unfold c_baP; rw [c_bP_ne (by omega), c_bT_ne (fun j hj => by omega) 12 (by omega)]; exact q2 p hp
theorem k_ok.pset (h : k_ok T I P g k) {g' : Nat → ab_C} {k' b p : Nat} {I' : wd_I} (hx : c_ofr k g g') (hk : k ≤ k') (hb : p_wf g' k' b) (hI : ∀ a j, (a = 0 ∨ a = 9 ∨ 18 ≤ a) → I' a j = I a j) (ht : ∃ n : Nat, I' 1 1 = ab_ii (n : Int) ∧ n ≤ 100) : k_ok T I' (wd_up P 8 p (some b)) g' k' := by
  obtain ⟨h1, h2, h3, h4, h5, h6, h7⟩ := h
  refine ⟨c_W_xt h1 hx hk, Nat.le_trans h2 hk, by rw [hI 9 0 (by omega)]; exact h3, fun j hj => ?_, fun q hq => ?_, ht, fun q => ?_⟩
  · obtain ⟨c, hc⟩ := h4 j hj
    exact ⟨c, s_ok_eq hc (hI _ _ (by omega)) (wd_up_ne _ _ (by omega)) (fun i => wd_up_ne _ _ (by omega))⟩
  · by_cases e : q = p
    · subst e; exact ⟨b, wd_up_self _ _ _ _, hb⟩
    · rw [wd_up_ne _ _ (Or.inr e)]
      obtain ⟨c, hc, hw⟩ := h5 q hq
      exact ⟨c, hc, (p_wf_xt hw hx hk).1⟩
  · rw [hI 0 11 (by omega)] at q
    obtain ⟨q1, q2⟩ := h7 q
    exact ⟨fun j hj => by rw [wd_up_ne _ _ (by omega)]; exact q1 j hj, c_paT_xt q2 hx hk (fun i => wd_up_ne _ _ (by omega))⟩
theorem kk_join (hd : 4 ≤ d) (h : k_ok T I P g k) (hr : k_rm (n + 1) I k z) {p o : Int32} (hQ : k_q M Q n (I 1 1)) : ab_CT d 107 [wd_v 0, .inl p, .inl o] (wd I P M g, k, z) Q := by
  have hq := fun r => hQ r _ _ _ _ _ _ h rfl (hr.le (Int.le_refl _) (Nat.le_add_right _ _) (Nat.le_add_right _ _))
  obtain ⟨a, ha⟩ := k_okp h p
  obtain ⟨b, hb⟩ := k_okp h o
  have hrb := hr.b h.2.2.1.2
  refine y_join hd h.2.1 (fun _ => hq _) ha hb ⟨by omega, by omega⟩ (fun _ _ _ => hq _) (fun _ _ h8 => hQ _ T _ _ _ _ _ (h.pset c_mkp_of (by omega) (c_mkp_wf h.2.1 h8).1 (fun _ _ _ => rfl) h.2.2.2.2.2.1) rfl (hr.le (Int.le_refl _) (by omega) (by omega)))
end
