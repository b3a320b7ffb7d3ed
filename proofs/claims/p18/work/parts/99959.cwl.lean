/-! ===== both objects: looks and folds answer alike (own text) ===== -/
section
variable {F : Nat → Int32 → Prop} {T : Nat → Prop} {I : wd_I} {P : wd_P} {M : wd_I} {g : Nat → ab_C} {k z n d : Nat} {Q : ab_Q}
theorem w_In.pa (h : w_In F T I P M g k) (p : Int32) : ∃ b, c_pp p → (P 8 p.toInt.toNat = some b ∧ p_wf g k b) ∧ h_pt g M 113 114 115 b p.toInt.toNat := by
  by_cases hs : c_pp p
  · have hp8 : p.toInt.toNat < 8 := by unfold c_pp at hs; omega
    obtain ⟨b, b1, b2⟩ := h.2.2.2.2.2.2.2.1 p.toInt.toNat hp8
    obtain ⟨b', b1', b2'⟩ := h.2.1.2.2.2.2.1 p.toInt.toNat hp8
    rw [b1] at b1'
    cases b1'
    exact ⟨b, fun _ => ⟨⟨b1, b2'⟩, b2⟩⟩
  · exact ⟨0, fun q => absurd q hs⟩
theorem w_In.fnd (h : w_In F T I P M g k) {p a : Nat} : w_In F T (f_fnd I P g p a).1 (f_fnd I P g p a).2 M g k := h.ix (fun x j hx => f_fnd_ne.1 x j (by omega)) (fun x j hx => f_fnd_ne.2 x j (by omega))
/-- the focus meant -/
theorem w_foc (h : w_In F T I P M g k) {s p q : Int32} {a b : Nat} (hs : c_sh s) (hp : c_pp p) (ha : F a (M 110 s.toInt.toNat)) (hb : h_pt g M 113 114 115 b p.toInt.toNat) : (0 ≤ q.toInt → q.toInt < ((c_fs41 g b a).length : Int) → F ((c_fs41 g b a).getD q.toInt.toNat 0) (m_foc M s p q)) ∧ ((q.toInt < 0 ∨ ((c_fs41 g b a).length : Int) ≤ q.toInt) → m_foc M s p q = ab_ii (-1)) := by
  have hl := h_fs h.2.2.1.1 h.tab hb ha
  have hlen := hl.len
  unfold c_sh at hs
  unfold c_pp at hp
  refine ⟨fun q1 q2 => ?_, fun q1 => ?_⟩
  · unfold m_foc
    rw [if_pos ⟨⟨by omega, by omega, by omega, by omega⟩, q1, by omega⟩]
    exact hl.at _ (by omega)
  · unfold m_foc
    rw [if_neg (fun e => by omega)]
theorem m_foc_bad {s p q : Int32} (h : ¬ (c_sh s ∧ c_pp p)) : m_foc M s p q = ab_ii (-1) := by
  unfold m_foc
  rw [if_neg (fun e => h ⟨⟨e.1.1, by omega⟩, e.1.2.2.1, by omega⟩)]
theorem h_look {S P' Q' W : Int32} (h : w_In F T I P M g k) {x : Nat} (hx : F x (m_foc M S P' Q')) : c_look g x W.toInt = m_look M S P' Q' W := by
  have hb := h.2.2.1.in hx
  obtain ⟨e0, e1, e2, e3, e4, -⟩ := h.2.2.1.1.p hx
  have e5 : ab_ii (c_sz g x : Int) = M 105 (m_foc M S P' Q').toInt.toNat := by rw [e4]; exact ab_ii_toInt _
  unfold c_look m_look
  rw [e0, e1, e2, e3, e5]
  by_cases w0 : W.toInt = 0
  · rw [if_pos w0, if_neg (by omega), if_pos w0]
  rw [if_neg w0]
  by_cases w1 : W.toInt = 1
  · have hng : ¬ ((m_foc M S P' Q').toInt = -1 ∨ W.toInt < 0 ∨ 3 < W.toInt) := by omega
    rw [if_pos w1, if_neg hng, if_neg w0, if_pos w1]
    by_cases c : (M 103 (m_foc M S P' Q').toInt.toNat).toInt = 0 ∨ (M 103 (m_foc M S P' Q').toInt.toNat).toInt = 4
    · rw [if_pos c, if_pos c]
    · rw [if_neg c, if_neg c]
  rw [if_neg w1]
  by_cases w2 : W.toInt = 2
  · rw [if_pos w2, if_neg (by omega), if_neg w0, if_neg w1, if_pos w2]
  rw [if_neg w2]
  by_cases w3 : W.toInt = 3
  · rw [if_pos w3, if_neg (by omega), if_neg w0, if_neg w1, if_neg w2]
  · rw [if_neg w3, if_pos (by omega)]
    rfl
theorem h_key {S P' Q' W : Int32} (h : w_In F T I P M g k) {x : Nat} (hx : F x (m_foc M S P' Q')) : c_key g x W.toInt = m_key M S P' Q' W := by
  have hb := h.2.2.1.in hx
  obtain ⟨e0, e1, e2, e3, e4, e5⟩ := h.2.2.1.1.p hx
  unfold c_key m_key
  rw [e0]
  by_cases c : (M 103 (m_foc M S P' Q').toInt.toNat).toInt = 3 ∧ 0 ≤ W.toInt ∧ W.toInt < (c_sz g x : Int)
  · rw [if_pos c, if_pos ⟨by omega, c.1, c.2.1, by omega⟩]
    exact (e5 _ (by omega)).1
  · rw [if_neg c, if_neg (fun q => c ⟨q.2.1, q.2.2.1, by have := q.2.2.2; omega⟩)]
theorem hc_look (hd : 50 ≤ d) (h : w_In F T I P M g k) (hr : k_rm (n + 1) I k z) {s p q w : Int32} (hQ : w_resL 179 25 [wd_v 102, .inl s, .inl p, .inl q, .inl w] n M Q) : ab_CT d 112 [wd_v 0, .inl s, .inl p, .inl q, .inl w] (wd I P M g, k, z) Q := by
  have hr0 : k_rm n I k z := hr.le (Int.le_refl _) (Nat.le_add_right _ _) (Nat.le_add_right _ _)
  obtain ⟨a, ha⟩ := h.sh s
  obtain ⟨b, hb⟩ := h.pa p
  have hrf : k_rm n (f_fnd I P g b a).1 k z := hr.le (by rw [f_fnd_ne.1 _ _ (by omega)]; exact Int.le_refl _) (Nat.le_add_right _ _) (Nat.le_add_right _ _)
  have hno : m_foc M s p q = ab_ii (-1) → m_look M s p q w = c_NO := fun e => by
    unfold m_look
    rw [if_pos (Or.inl (by rw [e]; rfl))]
    rfl
  refine y_look hd h.2.1.1 (fun e => ?_) (fun e => (ha e).1) (fun e => (hb e).1) (fun e e2 => ?_) (fun e e2 e3 => ?_)
  · refine hQ _ F T _ _ _ _ _ (fun d Q hd hq => x_look hd h.1.lok (fun M' hE => ?_)) hr0
    rw [hno (m_foc_bad e)]
    exact hq M' (h.eqv hE)
  · refine hQ _ F T _ _ _ _ _ (fun d Q hd hq => x_look hd h.1.lok (fun M' hE => ?_)) hrf
    rw [hno ((w_foc h e.1 e.2 (ha e.1).2 (hb e.2).2).2 e2)]
    exact hq M' (h.fnd.eqv hE)
  · refine hQ _ F T _ _ _ _ _ (fun d Q hd hq => x_look hd h.1.lok (fun M' hE => ?_)) hrf
    rw [← h_look h ((w_foc h e.1 e.2 (ha e.1).2 (hb e.2).2).1 e2 e3)]
    exact hq M' (h.fnd.eqv hE)
theorem hc_key (hd : 50 ≤ d) (h : w_In F T I P M g k) (hr : k_rm (n + 1) I k z) {s p q w : Int32} (hQ : w_res 180 25 [wd_v 102, .inl s, .inl p, .inl q, .inl w] n M Q) : ab_CT d 113 [wd_v 0, .inl s, .inl p, .inl q, .inl w] (wd I P M g, k, z) Q := by
  have hr0 : k_rm n I k z := hr.le (Int.le_refl _) (Nat.le_add_right _ _) (Nat.le_add_right _ _)
  obtain ⟨a, ha⟩ := h.sh s
  obtain ⟨b, hb⟩ := h.pa p
  have hrf : k_rm n (f_fnd I P g b a).1 k z := hr.le (by rw [f_fnd_ne.1 _ _ (by omega)]; exact Int.le_refl _) (Nat.le_add_right _ _) (Nat.le_add_right _ _)
  have hno : m_foc M s p q = ab_ii (-1) → m_key M s p q w = ab_ii (-1) := fun e => by
    unfold m_key
    rw [if_neg (fun q => q.1 (by rw [e]; rfl))]
  refine y_key hd h.2.1.1 (fun e => ?_) (fun e => (ha e).1) (fun e => (hb e).1) (fun e e2 => ?_) (fun e e2 e3 => ?_)
  · refine hQ _ F T _ _ _ _ _ (fun d Q hd hq => x_key hd h.1.lok (fun M' hE => ?_)) hr0
    rw [hno (m_foc_bad e)]
    exact hq M' (h.eqv hE)
  · refine hQ _ F T _ _ _ _ _ (fun d Q hd hq => x_key hd h.1.lok (fun M' hE => ?_)) hrf
    rw [hno ((w_foc h e.1 e.2 (ha e.1).2 (hb e.2).2).2 e2)]
    exact hq M' (h.fnd.eqv hE)
  · refine hQ _ F T _ _ _ _ _ (fun d Q hd hq => x_key hd h.1.lok (fun M' hE => ?_)) hrf
    rw [← h_key h ((w_foc h e.1 e.2 (ha e.1).2 (hb e.2).2).1 e2 e3)]
    exact hq M' (h.fnd.eqv hE)
theorem hc_fold (hd : 50 ≤ d) (h : w_In F T I P M g k) (hr : k_rm (n + 1) I k z) {s p c : Int32} (hQ : w_resL 183 25 [wd_v 102, .inl s, .inl p, .inl c] n M Q) : ab_CT d 114 [wd_v 0, .inl s, .inl p, .inl c] (wd I P M g, k, z) Q := by
  have hr0 : k_rm n I k z := hr.le (Int.le_refl _) (Nat.le_add_right _ _) (Nat.le_add_right _ _)
  obtain ⟨a, ha⟩ := h.sh s
  obtain ⟨b, hb⟩ := h.pa p
  have hrf : k_rm n (f_fnd I P g b a).1 k z := hr.le (by rw [f_fnd_ne.1 _ _ (by omega)]; exact Int.le_refl _) (Nat.le_add_right _ _) (Nat.le_add_right _ _)
  refine y_fold hd h.2.1.1 (fun e => ?_) (fun e => (ha e).1) (fun e => (hb e).1) (fun e => ?_)
  · refine hQ _ F T _ _ _ _ _ (fun d Q hd hq => x_fold hd h.1.lok (fun M' hE => ?_)) hr0
    have e1 : m_fold M s p c = c_NO := by
      unfold m_fold
      rw [if_neg (fun q => e ⟨⟨q.1.1, by omega⟩, q.1.2.2.1, by omega⟩)]
      rfl
    rw [e1]
    exact hq M' (h.eqv hE)
  · refine hQ _ F T _ _ _ _ _ (fun d Q hd hq => x_fold hd h.1.lok (fun M' hE => ?_)) hrf
    have hl := h_fs h.2.2.1.1 h.tab (hb e.2).2 (ha e.1).2
    have h200 : (c_fs41 g b a).length ≤ 200 := by unfold c_fs41; exact List.length_take_le _ _
    have e1 : m_fold M s p c = c_fold g (c_fs41 g b a) c.toInt := by
      rw [h_fold h.2.2.1.1 h.tab hl h200]
      obtain ⟨e2, e3⟩ := e
      unfold c_sh at e2
      unfold c_pp at e3
      unfold m_fold
      by_cases q : (0 ≤ c.toInt ∧ c.toInt ≤ 6) ∧ ¬ ((m_fs M p (M 110 s.toInt.toNat)).length = 0 ∧ (c.toInt = 2 ∨ c.toInt = 3 ∨ c.toInt = 5))
      · rw [if_pos q, if_pos ⟨⟨by omega, by omega, by omega, by omega, q.1.1, q.1.2⟩, q.2⟩]
      · rw [if_neg q, if_neg (fun q2 => q ⟨⟨q2.1.2.2.2.2.1, q2.1.2.2.2.2.2⟩, q2.2⟩)]
    rw [e1]
    exact hq M' (h.fnd.eqv hE)
end
