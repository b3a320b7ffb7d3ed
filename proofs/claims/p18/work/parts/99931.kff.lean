/-! ===== the class: its calls, with what they leave of paths and tape (own text; by frames.py) ===== -/
def k_fp (I : wd_I) (P : wd_P) (g : Nat → ab_C) (k : Nat) (I' : wd_I) (P' : wd_P) (g' : Nat → ab_C) : Prop := (∀ j, I' 2 j = I 2 j) ∧ c_ofr k g g' ∧ (∀ i, P' 8 i = P 8 i) ∧ (∀ i, P' 17 i = P 17 i) ∧ I' 0 11 = I 0 11
theorem k_fp.rf {I : wd_I} {P : wd_P} {g : Nat → ab_C} {k : Nat} : k_fp I P g k I P g := ⟨fun _ => rfl, c_ofr.rf, fun _ => rfl, fun _ => rfl, rfl⟩
theorem k_fp.of {I I' : wd_I} {P P' : wd_P} {g g' : Nat → ab_C} {k : Nat} (hI : ∀ a j, (a = 2 ∨ (a = 0 ∧ j = 11)) → I' a j = I a j) (hx : c_ofr k g g') (hP : ∀ a j, (a = 8 ∨ a = 17) → P' a j = P a j) : k_fp I P g k I' P' g' := ⟨fun j => hI _ _ (by omega), hx, fun i => hP _ _ (by omega), fun i => hP _ _ (by omega), hI _ _ (by omega)⟩
theorem k_fp.to {I I' I'' : wd_I} {P P' P'' : wd_P} {g g' : Nat → ab_C} {k : Nat} (h : k_fp I P g k I' P' g') (hI : ∀ a j, (a = 2 ∨ (a = 0 ∧ j = 11)) → I'' a j = I' a j) (hP : ∀ a j, (a = 8 ∨ a = 17) → P'' a j = P' a j) : k_fp I P g k I'' P'' g' := ⟨fun j => (hI _ _ (by omega)).trans (h.1 j), h.2.1, fun i => (hP _ _ (by omega)).trans (h.2.2.1 i), fun i => (hP _ _ (by omega)).trans (h.2.2.2.1 i), (hI _ _ (by omega)).trans h.2.2.2.2⟩
def kf_q (I0 : wd_I) (P0 : wd_P) (g0 : Nat → ab_C) (k0 : Nat) (M : wd_I) (Q : ab_Q) (n : Nat) (t : Int32) : Prop := ∀ (r : Int32) (T' : Nat → Prop) (I' : wd_I) (P' : wd_P) (g' : Nat → ab_C) (k' z' : Nat), k_ok T' I' P' g' k' → k_fp I0 P0 g0 k0 I' P' g' → I' 1 1 = t → k_rm n I' k' z' → Q (some (.inl r)) (wd I' P' M g', k', z')
def kf_ql (I0 : wd_I) (P0 : wd_P) (g0 : Nat → ab_C) (k0 : Nat) (M : wd_I) (Q : ab_Q) (n : Nat) (t : Int32) : Prop := ∀ (r : Int64) (T' : Nat → Prop) (I' : wd_I) (P' : wd_P) (g' : Nat → ab_C) (k' z' : Nat), k_ok T' I' P' g' k' → k_fp I0 P0 g0 k0 I' P' g' → I' 1 1 = t → k_rm n I' k' z' → Q (some (.inr (.inl r))) (wd I' P' M g', k', z')
theorem s_becI_fp {I : wd_I} {s c a j : Nat} (h : a = 2 ∨ (a = 0 ∧ j = 11)) : s_becI I s c a j = I a j := s_becI_ne (by omega)
theorem s_becP_fp {P : wd_P} {s c x a j : Nat} (h : a = 8 ∨ a = 17) : s_becP P s c x a j = P a j := s_becP_ne (by omega) (by omega)
theorem f_fnd_fp {I : wd_I} {P : wd_P} {g : Nat → ab_C} {k p a : Nat} : k_fp I P g k (f_fnd I P g p a).1 (f_fnd I P g p a).2 g := .of (fun _ _ q => f_fnd_ne.1 _ _ (by omega)) c_ofr.rf (fun _ _ q => f_fnd_ne.2 _ _ (by omega))
section
variable {d : Nat} {T : Nat → Prop} {I : wd_I} {P : wd_P} {M : wd_I} {g : Nat → ab_C} {k z n : Nat} {Q : ab_Q}
theorem kf_undo (hd : 3 ≤ d) (h : k_ok T I P g k) (hr : k_rm (n + 1) I k z) {s : Int32} (hQ : kf_q I P g k M Q n (I 1 1)) : ab_CT d 111 [wd_v 0, .inl s] (wd I P M g, k, z) Q := by
  by_cases hs : c_sh s
  · obtain ⟨c, hc⟩ := h.sok hs
    have hs' : s.toInt.toNat < 12 := by unfold c_sh at hs; omega
    refine y_undo hd (c := c) (fun q => absurd hs q) (fun _ => hc.1) hc.2.1 (fun _ _ => hQ _ _ _ _ _ _ _ h .rf rfl (hr.le (Int.le_refl _) (by omega) (by omega))) (fun _ c' hcc => ?_)
    obtain ⟨b, hb, hTb⟩ := hc.2.2.2 c' (by omega)
    refine ⟨b, hb, hQ _ T _ _ _ _ _ ?_ (.of (fun _ _ q => wd_up_ne _ _ (by omega)) c_ofr.rf (fun _ _ q => wd_up_ne _ _ (by omega))) (wd_up_ne _ _ (by omega)) (hr.le (by rw [wd_up_ne _ _ (by omega)]; exact Int.le_refl _) (by omega) (by omega))⟩
    obtain ⟨h1, h2, h3, h4, h5, h6, h7⟩ := h
    refine ⟨h1, h2, by rw [wd_up_ne _ _ (by omega)]; exact h3, fun j hj => ?_, fun p hp => ?_, by rw [wd_up_ne _ _ (by omega)]; exact h6, fun q => ?_⟩
    · by_cases e : j = s.toInt.toNat
      · subst e
        refine ⟨c', wd_up_self _ _ _ _, by have := hc.2.1; omega, ⟨b, wd_up_self _ _ _ _, hTb⟩, fun i hi => ?_⟩
        rw [wd_up_ne _ _ (by omega)]
        exact hc.2.2.2 i (by omega)
      · obtain ⟨c2, hc2⟩ := h4 j hj
        exact ⟨c2, s_ok_eq hc2 (wd_up_ne _ _ (by omega)) (wd_up_ne _ _ (by omega)) (fun i => wd_up_ne _ _ (by omega))⟩
    · rw [wd_up_ne _ _ (by omega)]; exact h5 p hp
    · rw [wd_up_ne _ _ (by omega)] at q
      obtain ⟨q1, q2⟩ := h7 q
      exact ⟨fun p hp => by rw [wd_up_ne _ _ (by omega)]; exact q1 p hp, fun p hp => by rw [wd_up_ne _ _ (by omega)]; exact q2 p hp⟩
  · exact y_undo hd (c := 0) (fun _ => hQ _ _ _ _ _ _ _ h .rf rfl (hr.le (Int.le_refl _) (by omega) (by omega))) (fun q => absurd q hs) (by omega) (fun q => absurd q hs) (fun q => absurd q hs)
theorem kf_order (hd : 46 ≤ d) (h : k_ok T I P g k) (hr : k_rm (n + 1) I k z) {s t : Int32} (hQ : kf_q I P g k M Q n (I 1 1)) : ab_CT d 116 [wd_v 0, .inl s, .inl t] (wd I P M g, k, z) Q := by
  have hq := fun r => hQ r _ _ _ _ _ _ h .rf rfl (hr.le (Int.le_refl _) (Nat.le_add_right _ _) (Nat.le_add_right _ _))
  obtain ⟨a, ha⟩ : ∃ a, c_sh s → P (18 + 5 * s.toInt.toNat) 2 = some a ∧ T a := by
    by_cases hs : c_sh s
    · obtain ⟨a, ha⟩ := h.held hs; exact ⟨a, fun _ => ha⟩
    · exact ⟨0, fun q => absurd q hs⟩
  obtain ⟨b, hb⟩ : ∃ b, c_sh t → P (18 + 5 * t.toInt.toNat) 2 = some b ∧ T b := by
    by_cases hs : c_sh t
    · obtain ⟨a, ha⟩ := h.held hs; exact ⟨a, fun _ => ha⟩
    · exact ⟨0, fun q => absurd q hs⟩
  exact y_order2 hd h.1 (fun _ => hq _) ha hb (fun _ _ => hq _)
theorem kf_shared (hd : 88 ≤ d) (h : k_ok T I P g k) (hr : k_rm (n + 1) I k z) {s t : Int32} (hQ : kf_q I P g k M Q n (I 1 1)) : ab_CT d 117 [wd_v 0, .inl s, .inl t] (wd I P M g, k, z) Q := by
  have hq := fun r => hQ r _ _ _ _ _ _ h .rf rfl (hr.le (Int.le_refl _) (Nat.le_add_right _ _) (Nat.le_add_right _ _))
  obtain ⟨a, ha⟩ : ∃ a, c_sh s → P (18 + 5 * s.toInt.toNat) 2 = some a ∧ T a := by
    by_cases hs : c_sh s
    · obtain ⟨a, ha⟩ := h.held hs; exact ⟨a, fun _ => ha⟩
    · exact ⟨0, fun q => absurd q hs⟩
  obtain ⟨b, hb⟩ : ∃ b, c_sh t → P (18 + 5 * t.toInt.toNat) 2 = some b ∧ T b := by
    by_cases hs : c_sh t
    · obtain ⟨a, ha⟩ := h.held hs; exact ⟨a, fun _ => ha⟩
    · exact ⟨0, fun q => absurd q hs⟩
  exact y_shared hd h.1 (fun _ => hq _) ha hb (fun _ _ => hq _)
theorem kf_differ (hd : 92 ≤ d) (h : k_ok T I P g k) (hr : k_rm (n + 1) I k z) {s t w : Int32} (hQ : kf_q I P g k M Q n (I 1 1)) : ab_CT d 118 [wd_v 0, .inl s, .inl t, .inl w] (wd I P M g, k, z) Q := by
  obtain ⟨a, ha⟩ : ∃ a, c_sh s → P (18 + 5 * s.toInt.toNat) 2 = some a ∧ T a := by
    by_cases hs : c_sh s
    · obtain ⟨a, ha⟩ := h.held hs; exact ⟨a, fun _ => ha⟩
    · exact ⟨0, fun q => absurd q hs⟩
  obtain ⟨b, hb⟩ : ∃ b, c_sh t → P (18 + 5 * t.toInt.toNat) 2 = some b ∧ T b := by
    by_cases hs : c_sh t
    · obtain ⟨a, ha⟩ := h.held hs; exact ⟨a, fun _ => ha⟩
    · exact ⟨0, fun q => absurd q hs⟩
  refine y_differ hd h.1 (fun _ => hQ _ _ _ _ _ _ _ h .rf rfl (hr.le (Int.le_refl _) (by omega) (by omega))) ha hb (fun _ _ => hQ _ T _ _ _ _ _ (h.ix (fun x j hx => d_fnd_ne (by omega) (by omega)) (fun _ _ _ => rfl)) (.of (fun _ _ q => d_fnd_ne (by omega) (by omega)) c_ofr.rf (fun _ _ _ => rfl)) (d_fnd_ne (by omega) (by omega)) (hr.le (by rw [d_fnd_ne (by omega) (by omega)]; exact Int.le_refl _) (by omega) (by omega)))
theorem kf_count (hd : 3 ≤ d) (h : k_ok T I P g k) (hr : k_rm (n + 1) I k z) {w : Int32} (hQ : kf_q I P g k M Q n (I 1 1)) : ab_CT d 122 [wd_v 0, .inl w] (wd I P M g, k, z) Q := by
  have hq := fun r => hQ r _ _ _ _ _ _ h .rf rfl (hr.le (Int.le_refl _) (Nat.le_add_right _ _) (Nat.le_add_right _ _))
  refine y_count hd (fun _ => hq _) (fun _ _ => hq _) (fun h1 h2 => ?_) (fun _ => hq _) (fun _ => hq _)
  obtain ⟨b, hb, hw⟩ := h.2.2.2.2.1 (w.toInt - 12).toNat (by omega)
  exact ⟨b, hb, hw, hq _⟩
theorem kf_look (hd : 50 ≤ d) (h : k_ok T I P g k) (hr : k_rm (n + 1) I k z) {s p q w : Int32} (hQ : kf_ql I P g k M Q n (I 1 1)) : ab_CT d 112 [wd_v 0, .inl s, .inl p, .inl q, .inl w] (wd I P M g, k, z) Q := by
  obtain ⟨a, c, ha⟩ := k_oks h s
  obtain ⟨b, hb⟩ := k_okp h p
  have hq := fun r => hQ r _ _ _ _ _ _ (h.fnd (p := b) (a := a)) f_fnd_fp (f_fnd_ne.1 _ _ (by omega)) (hr.le (by rw [f_fnd_ne.1 _ _ (by omega)]; exact Int.le_refl _) (Nat.le_add_right _ _) (Nat.le_add_right _ _))
  exact y_look hd h.1 (fun _ => hQ _ _ _ _ _ _ _ h .rf rfl (hr.le (Int.le_refl _) (by omega) (by omega))) (fun hs => (ha hs).1) hb (fun _ _ => hq _) (fun _ _ _ => hq _)
theorem kf_key (hd : 50 ≤ d) (h : k_ok T I P g k) (hr : k_rm (n + 1) I k z) {s p q w : Int32} (hQ : kf_q I P g k M Q n (I 1 1)) : ab_CT d 113 [wd_v 0, .inl s, .inl p, .inl q, .inl w] (wd I P M g, k, z) Q := by
  obtain ⟨a, c, ha⟩ := k_oks h s
  obtain ⟨b, hb⟩ := k_okp h p
  have hq := fun r => hQ r _ _ _ _ _ _ (h.fnd (p := b) (a := a)) f_fnd_fp (f_fnd_ne.1 _ _ (by omega)) (hr.le (by rw [f_fnd_ne.1 _ _ (by omega)]; exact Int.le_refl _) (Nat.le_add_right _ _) (Nat.le_add_right _ _))
  exact y_key hd h.1 (fun _ => hQ _ _ _ _ _ _ _ h .rf rfl (hr.le (Int.le_refl _) (by omega) (by omega))) (fun hs => (ha hs).1) hb (fun _ _ => hq _) (fun _ _ _ => hq _)
theorem kf_fold (hd : 50 ≤ d) (h : k_ok T I P g k) (hr : k_rm (n + 1) I k z) {s p q : Int32} (hQ : kf_ql I P g k M Q n (I 1 1)) : ab_CT d 114 [wd_v 0, .inl s, .inl p, .inl q] (wd I P M g, k, z) Q := by
  obtain ⟨a, c, ha⟩ := k_oks h s
  obtain ⟨b, hb⟩ := k_okp h p
  have hq := fun r => hQ r _ _ _ _ _ _ (h.fnd (p := b) (a := a)) f_fnd_fp (f_fnd_ne.1 _ _ (by omega)) (hr.le (by rw [f_fnd_ne.1 _ _ (by omega)]; exact Int.le_refl _) (Nat.le_add_right _ _) (Nat.le_add_right _ _))
  exact y_fold hd h.1 (fun _ => hQ _ _ _ _ _ _ _ h .rf rfl (hr.le (Int.le_refl _) (by omega) (by omega))) (fun hs => (ha hs).1) hb (fun _ => hq _)
theorem kf_best (hd : 50 ≤ d) (h : k_ok T I P g k) (hr : k_rm (n + 1) I k z) {s p o q : Int32} (hQ : kf_q I P g k M Q n (I 1 1)) : ab_CT d 115 [wd_v 0, .inl s, .inl p, .inl o, .inl q] (wd I P M g, k, z) Q := by
  obtain ⟨a, c, ha⟩ := k_oks h s
  obtain ⟨b, hb⟩ := k_okp h p
  have hq := fun r => hQ r _ _ _ _ _ _ (h.fnd (p := b) (a := a)) f_fnd_fp (f_fnd_ne.1 _ _ (by omega)) (hr.le (by rw [f_fnd_ne.1 _ _ (by omega)]; exact Int.le_refl _) (Nat.le_add_right _ _) (Nat.le_add_right _ _))
  refine y_best hd h.1 (fun _ => hQ _ _ _ _ _ _ _ h .rf rfl (hr.le (Int.le_refl _) (by omega) (by omega))) (fun hs => (ha hs).1) hb (fun _ _ => hq _) (fun _ _ _ => hQ _ T _ _ _ _ _ ((h.fnd (p := b) (a := a)).ix (fun x j hx => c_srt_ne (by omega)) (fun _ _ _ => rfl)) (f_fnd_fp.to (fun _ _ q => c_srt_ne (by omega)) (fun _ _ _ => rfl)) ((c_srt_ne (by omega)).trans (f_fnd_ne.1 _ _ (by omega))) (hr.le (by rw [c_srt_ne (by omega), f_fnd_ne.1 _ _ (by omega)]; exact Int.le_refl _) (by omega) (by omega)))
theorem kf_take (hd : 50 ≤ d) (h : k_ok T I P g k) (hr : k_rm (n + 1) I k z) {s f p q : Int32} (hQ : kf_q I P g k M Q n (I 1 1)) : ab_CT d 110 [wd_v 0, .inl s, .inl f, .inl p, .inl q] (wd I P M g, k, z) Q := by
  obtain ⟨a0, c, hs⟩ := k_oks h s
  obtain ⟨a, c0, ha⟩ := k_oks h f
  obtain ⟨b, hb⟩ := k_okp h p
  have hq := fun r => hQ r _ _ _ _ _ _ (h.fnd (p := b) (a := a)) f_fnd_fp (f_fnd_ne.1 _ _ (by omega)) (hr.le (by rw [f_fnd_ne.1 _ _ (by omega)]; exact Int.le_refl _) (Nat.le_add_right _ _) (Nat.le_add_right _ _))
  refine y_take hd h.1 (fun _ => hQ _ _ _ _ _ _ _ h .rf rfl (hr.le (Int.le_refl _) (by omega) (by omega))) (fun q => (hs q).2) (fun q => (ha q).1) hb (fun _ _ => hq _) (fun hall h1 h2 => ?_)
  have hs9 : s.toInt.toNat < 12 := by have := hall.1; unfold c_sh at this; omega
  refine hQ _ T _ _ _ _ _ (k_ok.bec (h.fnd (p := b) (a := a)) hs9 (s_ok_fnd (hs hall.1).2) (c_fs41_T h.1 (ha hall.2.1).1.2 (by omega))) (f_fnd_fp.to (fun _ _ q => s_becI_fp q) (fun _ _ q => s_becP_fp q)) ?_ ?_
  · rw [s_becI_ne (by omega)]; exact f_fnd_ne.1 _ _ (by omega)
  · exact hr.le (by rw [s_becI_ne (by omega), f_fnd_ne.1 _ _ (by omega)]; exact Int.le_refl _) (by omega) (by omega)
theorem kf_thing (hd : 60 ≤ d) (h : k_ok T I P g k) (hr : k_rm (n + 1) I k z) {s : Int32} (hb : ¬ c_sh s → kf_q I P g k M Q n (I 1 1)) (hg : c_sh s → kf_q I P g k M Q n (ab_ii 0)) : ab_CT d 105 [wd_v 0, .inl s] (wd I P M g, k, z) Q := by
  have hrb := hr.b h.2.2.1.2
  obtain ⟨a0, c, hs⟩ := k_oks h s
  obtain ⟨T', g1, g2, g3, g4, g5, g6⟩ := r_R_gd (z := z) h.1 h.2.1 h.tp
  have hkk : k ≤ (r_R (I, g, k, z)).2.2.2.1 := g1.kk
  have hJ : ∀ a j, ¬ (a = 1) → r_RJ (I, g, k, z) a j = I a j := fun a j q => (wd_up_ne _ _ (by omega)).trans (g3 a j (by omega))
  have hJ1 : r_RJ (I, g, k, z) 1 1 = ab_ii 0 := wd_up_self _ _ _ _
  have hkJ : ∀ (I' : wd_I), (∀ a j, a ≠ 9 → I' a j = r_RJ (I, g, k, z) a j) → (0 ≤ (I' 9 0).toInt ∧ (I' 9 0).toInt ≤ 3000) → k_ok T' I' P (r_R (I, g, k, z)).2.2.1 (r_R (I, g, k, z)).2.2.2.1 := fun I' hI h9 => h.fr g1.wf g1.inc g1.ofr hkk (k_sm_of (fun a j q => (hI a j (by omega)).trans (hJ a j (by omega))) (fun _ _ _ => rfl)) h9 ⟨0, (hI 1 1 (by omega)).trans hJ1, by omega⟩
  have e9 : r_RJ (I, g, k, z) 9 0 = I 9 0 := hJ 9 0 (by omega)
  have hk0 := hkJ _ (fun _ _ _ => rfl) (by rw [e9]; exact h.2.2.1)
  have hn := fun q r => hg q r T' _ _ _ _ (r_R (I, g, k, z)).2.2.2.2 hk0 (.of (fun a j q => hJ a j (by omega)) g1.ofr (fun _ _ _ => rfl)) hJ1 (hr.le (by rw [e9]; exact Int.le_refl _) (by omega) (by omega))
  have hnd := fun a ha => r_R_nb (z := z) (a := a) h.1 h.2.1 h.tp ha
  refine y_thing hd h.1 h.2.1 h.tp h.2.2.1 ⟨by omega, by omega⟩ (fun q => (hs q).2) (fun q => hb q _ _ _ _ _ _ _ h .rf rfl (hr.le (Int.le_refl _) (by omega) (by omega))) (fun q _ => hn q _) (fun _ a ha _ => ⟨by have := hnd a ha; omega, by have := hnd a ha; omega⟩) (fun q a ha _ _ => hn q _) (fun q a ha hf hle => ?_)
  have hnda := hnd a ha
  have h9 := h.2.2.1
  have e9b : (wd_up (r_RJ (I, g, k, z)) 9 0 (ab_ii ((I 9 0).toInt + (c_i (r_R (I, g, k, z)).2.2.1 a 2).toInt)) 9 0).toInt = (I 9 0).toInt + (c_i (r_R (I, g, k, z)).2.2.1 a 2).toInt := by rw [wd_up_self, ab_tI (by omega) (by omega)]
  have hk1 := hkJ (wd_up (r_RJ (I, g, k, z)) 9 0 (ab_ii ((I 9 0).toInt + (c_i (r_R (I, g, k, z)).2.2.1 a 2).toInt))) (fun a j q => wd_up_ne _ _ (by omega)) (by rw [e9b]; omega)
  have hs9 : s.toInt.toNat < 12 := by unfold c_sh at q; omega
  have hsok : s_ok T' (wd_up (r_RJ (I, g, k, z)) 9 0 (ab_ii ((I 9 0).toInt + (c_i (r_R (I, g, k, z)).2.2.1 a 2).toInt))) P s.toInt.toNat c := s_ok_eq (s_ok_mo (hs q).2 g1.inc) ((wd_up_ne _ _ (by omega)).trans (hJ _ _ (by omega))) rfl (fun _ => rfl)
  refine hg q _ T' _ _ _ _ _ (hk1.bec hs9 hsok (g2 a ha)) ((k_fp.of (fun a j q => (wd_up_ne _ _ (by omega)).trans (hJ a j (by omega))) g1.ofr (fun _ _ _ => rfl)).to (fun _ _ q => s_becI_fp q) (fun _ _ q => s_becP_fp q)) ?_ (hr.le ?_ (by dsimp only; omega) (by dsimp only; omega))
  · dsimp only
    rw [s_becI_ne (by omega), wd_up_ne _ _ (by omega)]; exact hJ1
  · dsimp only
    rw [s_becI_ne (by omega), e9b]; omega
theorem kf_ok_R {gv p a : Nat} {how v : Int32} {P' : wd_P} (h : k_ok T I P g k) (ha : T a) (hgv : how.toInt = 7 → T gv) (hP : ∀ x j, x ≠ 10 → P' x j = P x j) : ∃ T', k_ok T' (c_R gv p a how v (I, g, k, z)).2.1 P' (c_R gv p a how v (I, g, k, z)).2.2.1 (c_R gv p a how v (I, g, k, z)).2.2.2.1 ∧ T' (c_R gv p a how v (I, g, k, z)).1 ∧ k_fp I P g k (c_R gv p a how v (I, g, k, z)).2.1 P' (c_R gv p a how v (I, g, k, z)).2.2.1 ∧ (c_R gv p a how v (I, g, k, z)).2.1 1 1 = I 1 1 ∧ (∀ b, T b → T' b) ∧ ∀ s c, s < 12 → s_ok T I P s c → s_ok T' (c_R gv p a how v (I, g, k, z)).2.1 P' s c := by
  have hgd := c_R_gd (z := z) (n := v) (p := p) h.1 h.2.1 ha h.2.2.1 hgv
  obtain ⟨b1, -, -, -, b5⟩ := k_rm_R (m := 0) h.2.2.1 hgd
  have hfr := c_R_fr hgd
  obtain ⟨T', g1, g2, g3⟩ := hgd
  refine ⟨T', h.fr g1.wf g1.inc g1.ofr b5 (k_sm_of (fun a j q => hfr a j (by omega) (by omega)) (fun a j q => hP a j (by omega))) b1 (by rw [hfr 1 1 (by omega) (by omega)]; exact h.2.2.2.2.2.1), g2, .of (fun a j q => hfr a j (by omega) (by omega)) g1.ofr (fun a j q => hP a j (by omega)), hfr 1 1 (by omega) (by omega), g1.inc, fun s c hs hc => s_ok_eq (s_ok_mo hc g1.inc) (hfr _ _ (by omega) (by omega)) (hP _ _ (by omega)) (fun i => hP _ _ (by omega))⟩
theorem kf_over (hd : 96 ≤ d) (h : k_ok T I P g k) (hr : k_rm (n + 1) I k z) {s f p how v : Int32} (hQ : kf_q I P g k M Q n (I 1 1)) : ab_CT d 108 [wd_v 0, .inl s, .inl f, .inl p, .inl how, .inl v] (wd I P M g, k, z) Q := by
  obtain ⟨a0, c, hs⟩ := k_oks h s
  obtain ⟨a, c0, ha⟩ := k_oks h f
  obtain ⟨b, hb⟩ := k_okp h p
  obtain ⟨gv, c1, hgv⟩ := k_oks h v
  obtain ⟨o, ho7, hon⟩ : ∃ o : Option Nat, (how.toInt = 7 → o = some gv) ∧ (¬ how.toInt = 7 → o = none) := by
    by_cases h7 : how.toInt = 7
    · exact ⟨some gv, fun _ => rfl, fun q => absurd h7 q⟩
    · exact ⟨none, fun q => absurd q h7, fun _ => rfl⟩
  have hall : ∀ hx : (c_sh s ∧ c_sh f ∧ c_pp p ∧ c_isHow how v), (c_gd T 82 (c_cI I how v, g, k, z) (c_R gv b a how v (I, g, k, z))) ∧ ∃ T', k_ok T' (c_R gv b a how v (I, g, k, z)).2.1 (c_cP P b o) (c_R gv b a how v (I, g, k, z)).2.2.1 (c_R gv b a how v (I, g, k, z)).2.2.2.1 ∧ T' (c_R gv b a how v (I, g, k, z)).1 ∧ k_fp I P g k (c_R gv b a how v (I, g, k, z)).2.1 (c_cP P b o) (c_R gv b a how v (I, g, k, z)).2.2.1 ∧ (c_R gv b a how v (I, g, k, z)).2.1 1 1 = I 1 1 ∧ (∀ b, T b → T' b) ∧ ∀ s c, s < 12 → s_ok T I P s c → s_ok T' (c_R gv b a how v (I, g, k, z)).2.1 (c_cP P b o) s c := fun hx => by
    have h7 : how.toInt = 7 → T gv := fun q => (hgv (by have := hx.2.2.2; unfold c_isHow at this; rw [if_neg (by omega), if_pos q] at this; exact this)).1.2
    exact ⟨c_R_gd (z := z) (n := v) (p := b) h.1 h.2.1 (ha hx.2.1).1.2 h.2.2.1 h7, kf_ok_R h (ha hx.2.1).1.2 h7 (fun x j q => c_cP_ne q)⟩
  have hrm : ∀ hx : (c_sh s ∧ c_sh f ∧ c_pp p ∧ c_isHow how v), k_rm n (c_R gv b a how v (I, g, k, z)).2.1 (c_R gv b a how v (I, g, k, z)).2.2.2.1 (c_R gv b a how v (I, g, k, z)).2.2.2.2 := fun hx => by
    obtain ⟨r1, r2, r3, r4, -⟩ := k_rm_R (m := 0) h.2.2.1 (hall hx).1
    unfold k_rm at *
    omega
  have hpl : (c_sh s ∧ c_sh f ∧ c_pp p ∧ c_isHow how v) → ∀ r, Q (some (.inl r)) (c_S (c_cP P b o) M (c_R gv b a how v (I, g, k, z)).2) := fun hx r => by
    obtain ⟨-, T', k1, k2, kf, k3, -⟩ := hall hx
    exact hQ r T' _ _ _ _ _ k1 kf k3 (hrm hx)
  refine y_over hd h.1 h.2.1 h.2.2.1 hr.ro (o := o) (fun _ => hQ _ _ _ _ _ _ _ h .rf rfl (hr.le (Int.le_refl _) (by omega) (by omega))) (fun q => (hs q).2) (fun q => (ha q).1) hb (fun h7 q => ⟨(hgv q).1.1, (hgv q).1.2, ho7 h7⟩) hon (fun hx _ => hpl hx _) (fun hx _ _ => hpl hx _) (fun hx _ _ => ?_)
  obtain ⟨-, T', k1, k2, kf, k3, k4, k5⟩ := hall hx
  have hs9 : s.toInt.toNat < 12 := by have := hx.1; unfold c_sh at this; omega
  refine hQ _ T' _ _ _ _ _ (k1.bec hs9 (k5 _ _ hs9 (hs hx.1).2) k2) (kf.to (fun _ _ q => s_becI_fp q) (fun _ _ q => s_becP_fp q)) ?_ ?_
  · show s_becI _ _ _ 1 1 = _
    rw [s_becI_ne (by omega)]; exact k3
  · have := hrm hx
    unfold k_rm at *
    dsimp only
    rw [s_becI_ne (by omega)]
    exact this
theorem kf_put (hd : 10 ≤ d) (h : k_ok T I P g k) (hr : k_rm (n + 1) I k z) {s what a b v : Int32} (hQ : kf_q I P g k M Q n (I 1 1)) : ab_CT d 109 [wd_v 0, .inl s, .inl what, .inl a, .inl b, .inl v] (wd I P M g, k, z) Q := by
  have hrb := hr.b h.2.2.1.2
  obtain ⟨a0, c, hs⟩ := k_oks h s
  obtain ⟨x, c0, ha⟩ := k_oks h a
  obtain ⟨y, c1, hb⟩ := k_oks h b
  have hq := fun r => hQ r _ _ _ _ _ _ h .rf rfl (hr.le (Int.le_refl _) (Nat.le_add_right _ _) (Nat.le_add_right _ _))
  have hst : ∀ hx : c_pt1 s what a b v, c_st T (c_J, g, k, z) (fun w => T w ∨ w = k + 1 + 1 + 1 + 1 + 1) (c_J, c_ptg g k x y what v, k + 1 + 1 + 1 + 1 + 1 + 1, 0) ∧ c_ptz g z x y what v ≤ z + 61 := fun hx => c_ptg_st h.1 h.2.1 (ha hx.2.1).1.2 (hb hx.2.2.1).1.2
  have hk1 : ∀ hx : c_pt1 s what a b v, ∀ I', (∀ a j, a ≠ 9 → I' a j = I a j) → (0 ≤ (I' 9 0).toInt ∧ (I' 9 0).toInt ≤ 3000) → k_ok (fun w => T w ∨ w = k + 1 + 1 + 1 + 1 + 1) I' P (c_ptg g k x y what v) (k + 1 + 1 + 1 + 1 + 1 + 1) := fun hx I' hI h9 => by
    obtain ⟨g1, -⟩ := hst hx
    exact h.fr g1.wf g1.inc g1.ofr g1.kk (k_sm_of (fun a j q => hI a j (by omega)) (fun _ _ _ => rfl)) h9 (by rw [hI 1 1 (by omega)]; exact h.2.2.2.2.2.1)
  refine y_put hd h.1 h.2.1 h.2.2.1 ⟨by omega, by omega⟩ (fun _ => hq _) (fun q => (hs q).2) (fun q => (ha q).1) (fun q => (hb q).1) (fun _ _ _ => hq _) (fun _ _ _ => hq _) (fun hx _ _ _ => ?_) (fun hx _ hlt _ => ?_)
  · exact hQ _ _ _ _ _ _ _ (hk1 hx I (fun _ _ _ => rfl) h.2.2.1) (.of (fun _ _ _ => rfl) (hst hx).1.ofr (fun _ _ _ => rfl)) rfl (hr.le (Int.le_refl _) (by omega) (by have := (hst hx).2; omega))
  · have hs9 : s.toInt.toNat < 12 := by have := hx.1; unfold c_sh at this; omega
    obtain ⟨e1, -⟩ := c_I1_9 (I := I) ⟨h.2.2.1.1, hlt⟩
    have h9 := h.2.2.1
    refine hQ _ _ _ _ _ _ _ ((hk1 hx (c_I1 I) (fun a j q => wd_up_ne _ _ (by omega)) (by rw [e1]; omega)).bec hs9 (s_ok_eq (s_ok_mo (hs hx.1).2 (fun _ q => Or.inl q)) (wd_up_ne _ _ (by omega)) rfl (fun _ => rfl)) (Or.inr rfl)) ((k_fp.of (I' := c_I1 I) (fun _ _ q => wd_up_ne _ _ (by omega)) (hst hx).1.ofr (fun _ _ _ => rfl)).to (fun _ _ q => s_becI_fp q) (fun _ _ q => s_becP_fp q)) ?_ (hr.le ?_ (by omega) (by have := (hst hx).2; omega))
    · rw [s_becI_ne (by omega)]; exact wd_up_ne _ _ (by omega)
    · rw [s_becI_ne (by omega), e1]; omega
theorem kf_fit (hd : 98 ≤ d) (h : k_ok T I P g k) (hr : k_rm (n + 1) I k z) {s p w : Int32} (hQ : kf_q I P g k M Q n (I 1 1)) : ab_CT d 119 [wd_v 0, .inl s, .inl p, .inl w] (wd I P M g, k, z) Q := by
  obtain ⟨a, c, ha⟩ := k_oks h s
  obtain ⟨b, hb⟩ := k_okp h p
  obtain ⟨gv, c1, hgv⟩ := k_oks h w
  have hfP : ∀ x j, x ≠ 10 → c_fP P b gv x j = P x j := fun x j q => c_cP_ne q
  have h1 : ∀ hx : (c_sh s ∧ c_pp p ∧ c_sh w), ∃ T1, k_ok T1 (c_F1 gv b a (I, g, k, z)).2.1 (c_fP P b gv) (c_F1 gv b a (I, g, k, z)).2.2.1 (c_F1 gv b a (I, g, k, z)).2.2.2.1 ∧ T1 (c_F1 gv b a (I, g, k, z)).1 ∧ k_fp I P g k (c_F1 gv b a (I, g, k, z)).2.1 (c_fP P b gv) (c_F1 gv b a (I, g, k, z)).2.2.1 ∧ (c_F1 gv b a (I, g, k, z)).2.1 1 1 = I 1 1 ∧ k ≤ (c_F1 gv b a (I, g, k, z)).2.2.2.1 ∧ T1 gv := fun hx => by
    obtain ⟨T1, k1, k2, kf, k3, k4, -⟩ := kf_ok_R (gv := gv) (p := b) (a := a) (how := ab_ii 7) (v := ab_ii 0) (z := z) h (ha hx.1).1.2 (fun _ => (hgv hx.2.2).1.2) hfP
    exact ⟨T1, k1, k2, kf, k3, (k_rm_R (m := 0) h.2.2.1 (c_R_gd (z := z) (how := ab_ii 7) (n := ab_ii 0) (p := b) h.1 h.2.1 (ha hx.1).1.2 h.2.2.1 (fun _ => (hgv hx.2.2).1.2))).2.2.2.2, k4 _ (hgv hx.2.2).1.2⟩
  have r1 : ∀ hx : (c_sh s ∧ c_pp p ∧ c_sh w), _ := fun hx => k_rm_R (m := 0) h.2.2.1 (c_R_gd (z := z) (how := ab_ii 7) (n := ab_ii 0) (p := b) h.1 h.2.1 (ha hx.1).1.2 h.2.2.1 (fun _ => (hgv hx.2.2).1.2))
  have hp1 : (c_sh s ∧ c_pp p ∧ c_sh w) → ∀ r, Q (some (.inl r)) (c_S (c_fP P b gv) M (c_F1 gv b a (I, g, k, z)).2) := fun hx r => by
    obtain ⟨T1, k1, k2, kf, k3, -⟩ := h1 hx
    refine hQ r T1 _ _ _ _ _ k1 kf k3 ?_
    obtain ⟨q1, q2, q3, q4, -⟩ := r1 hx
    unfold c_F1
    unfold k_rm at *
    omega
  have h2 : ∀ hx : (c_sh s ∧ c_pp p ∧ c_sh w), ∃ T2, k_ok T2 (c_F2 gv b a (I, g, k, z)).2.1 (c_fP P b gv) (c_F2 gv b a (I, g, k, z)).2.2.1 (c_F2 gv b a (I, g, k, z)).2.2.2.1 ∧ k_fp I P g k (c_F2 gv b a (I, g, k, z)).2.1 (c_fP P b gv) (c_F2 gv b a (I, g, k, z)).2.2.1 ∧ (c_F2 gv b a (I, g, k, z)).2.1 1 1 = I 1 1 ∧ k_rm n (c_F2 gv b a (I, g, k, z)).2.1 (c_F2 gv b a (I, g, k, z)).2.2.2.1 (c_F2 gv b a (I, g, k, z)).2.2.2.2 := fun hx => by
    obtain ⟨T1, k1, k2, kf, k3, kkx, kg⟩ := h1 hx
    obtain ⟨q1, q2, q3, q4, -⟩ := r1 hx
    unfold c_F2
    change (0 ≤ ((c_F1 gv b a (I, g, k, z)).2.1 9 0).toInt ∧ ((c_F1 gv b a (I, g, k, z)).2.1 9 0).toInt ≤ 3000) at q1
    change (I 9 0).toInt ≤ ((c_F1 gv b a (I, g, k, z)).2.1 9 0).toInt at q2
    change ((c_F1 gv b a (I, g, k, z)).2.2.2.1 : Int) + 8 * (3001 - ((c_F1 gv b a (I, g, k, z)).2.1 9 0).toInt) ≤ _ at q3
    change ((c_F1 gv b a (I, g, k, z)).2.2.2.2 : Int) + 170 * (3001 - ((c_F1 gv b a (I, g, k, z)).2.1 9 0).toInt) ≤ _ at q4
    generalize c_F1 gv b a (I, g, k, z) = R at *
    obtain ⟨x1, I1, g1, k1', z1⟩ := R
    dsimp only at *
    obtain ⟨T2, m1, m2, mf, m3, m4, -⟩ := kf_ok_R (gv := gv) (p := b) (a := x1) (how := ab_ii 7) (v := ab_ii 0) (z := z1) (P' := c_fP P b gv) k1 k2 (fun _ => kg) (fun _ _ _ => rfl)
    obtain ⟨u1, u2, u3, u4, -⟩ := k_rm_R (m := 0) k1.2.2.1 (c_R_gd (z := z1) (how := ab_ii 7) (n := ab_ii 0) (p := b) (gv := gv) k1.1 k1.2.1 k2 k1.2.2.1 (fun _ => kg))
    refine ⟨T2, m1, ⟨fun j => (mf.1 j).trans (kf.1 j), kf.2.1.tr mf.2.1 kkx, fun i => (mf.2.2.1 i).trans (kf.2.2.1 i), fun i => (mf.2.2.2.1 i).trans (kf.2.2.2.1 i), mf.2.2.2.2.trans kf.2.2.2.2⟩, m3.trans k3, ?_⟩
    unfold k_rm at *
    omega
  have hp2 : (c_sh s ∧ c_pp p ∧ c_sh w) → ∀ r, Q (some (.inl r)) (c_S (c_fP P b gv) M (c_F2 gv b a (I, g, k, z)).2) := fun hx r => by
    obtain ⟨T2, k1, kf, k3, k5⟩ := h2 hx
    exact hQ r T2 _ _ _ _ _ k1 kf k3 k5
  refine y_fit hd h.1 h.2.1 h.2.2.1 hr.ro (fun _ => hQ _ _ _ _ _ _ _ h .rf rfl (hr.le (Int.le_refl _) (by omega) (by omega))) (fun q => (ha q).1) hb (fun q => (hgv q).1) (fun hx _ => hp1 hx _) (fun hx _ _ => hp1 hx _) (fun hx _ _ _ => hp2 hx _) (fun hx _ _ _ _ => hp2 hx _) (fun hx _ _ _ _ => ?_)
  obtain ⟨T2, k1, kf, k3, k5⟩ := h2 hx
  refine hQ _ T2 _ _ _ _ _ k1.fnd (kf.to (fun _ _ q => f_fnd_ne.1 _ _ (by omega)) (fun _ _ q => f_fnd_ne.2 _ _ (by omega))) ((f_fnd_ne.1 _ _ (by omega)).trans k3) ?_
  unfold k_rm at *
  rw [f_fnd_ne.1 _ _ (by omega)]
  exact k5
end
