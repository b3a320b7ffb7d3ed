/-! ===== both objects: folds, what differs, what is shared (own text) ===== -/
theorem i64_s {x : Int32} : x.toInt64.toInt = x.toInt := Int32.toInt_toInt64 x
theorem i64_add {a b : Int64} (h1 : -1000000 ≤ a.toInt ∧ a.toInt ≤ 1000000) (h2 : -1000000 ≤ b.toInt ∧ b.toInt ≤ 1000000) : (a + b).toInt = a.toInt + b.toInt := by
  rw [Int64.toInt_add]
  apply Int.bmod_eq_of_le <;> omega
section
variable {F : Nat → Int32 → Prop} {T : Nat → Prop} {g : Nat → ab_C} {M : wd_I} {n : Int}
theorem h_suml {G : Nat → Int64} {G' : Int32 → Int64} {a : Nat} {t : Int32} (ha : h_pr F g M a t) (hG : ∀ j, j < c_sz g a → G (c_pt g a j) = G' (M 108 (12 * t.toInt.toNat + j))) : ∀ j, j ≤ c_sz g a → c_suml G g a j = m_suml G' M t.toInt.toNat j
  | 0, _ => by
    unfold c_suml m_suml
    rw [ha.1, ha.2.1]
  | j + 1, hj => by
    unfold c_suml m_suml
    rw [h_suml ha hG j (by omega), hG j (by omega)]
theorem h_sum (h : h_ok F T g M n) (hT : m_T M n) : ∀ (f f' : Nat) (a : Nat) (t : Int32), F a t → (M 107 t.toInt.toNat).toInt < (f : Int) → (M 107 t.toInt.toNat).toInt < (f' : Int) → c_sum g f a = m_sum M f' t
  | 0, f', a, t, ha, h1, h2 => by have := (h.row hT ha).2.2.1; omega
  | f + 1, 0, a, t, ha, h1, h2 => by have := (h.row hT ha).2.2.1; omega
  | f + 1, f' + 1, a, t, ha, h1, h2 => by
    obtain ⟨s1, -, -, -, -, -, s7⟩ := h.row hT ha
    have pa := h.p ha
    unfold c_sum m_sum
    rw [s1]
    exact h_suml pa (fun j hj => h_sum h hT f f' _ _ (pa.2.2.2.2.2 j hj).2 (by have := s7 j hj; omega) (by have := s7 j hj; omega)) _ (Nat.le_refl _)
theorem h_fsum (h : h_ok F T g M n) (hT : m_T M n) {l : List Nat} {l' : List Int32} (hl : h_ls F l l') : ∀ j, j ≤ l.length → c_fsum g l j = m_fsu M l' 1 j
  | 0, _ => rfl
  | j + 1, hj => by
    have ha := hl.at j (by omega)
    have hr := (h.row hT ha).2.2.1
    unfold c_fsum m_fsu m_fad
    rw [if_neg (by omega), if_pos rfl, h_fsum h hT hl j (by omega), h_sum h hT 41 13 _ _ ha (by omega) (by omega)]
theorem h_gpl (h : h_ok F T g M n) (hT : m_T M n) {l : List Nat} {l' : List Int32} (hl : h_ls F l l') : ∀ j, j ≤ l.length → c_gpl g l j = m_fpl M l' 2 j ∧ c_lpl g l j = m_fpl M l' 3 j
  | 0, _ => ⟨rfl, rfl⟩
  | j + 1, hj => by
    obtain ⟨i1, i2⟩ := h_gpl h hT hl j (by omega)
    have ha := hl.at j (by omega)
    have b1 := c_gpl_le (g := g) (l := l) j
    have b2 := c_lpl_le (g := g) (l := l) j
    have hg := hl.at (c_gpl g l j) (by omega)
    have hq := hl.at (c_lpl g l j) (by omega)
    unfold c_gpl c_lpl m_fpl
    rw [h_cmp41 h hT (Nat.le_refl 13) ha hg, h_cmp41 h hT (Nat.le_refl 13) ha hq, i1, i2]
    constructor
    · by_cases c : 0 < m_cmp M 13 (l'.getD j 0) (l'.getD (m_fpl M l' 2 j) 0)
      · rw [if_pos c, if_pos (Or.inl ⟨rfl, c⟩)]
      · rw [if_neg c, if_neg (fun q => by rcases q with ⟨-, q⟩ | ⟨q, -⟩; exact c q; omega)]
    · by_cases c : m_cmp M 13 (l'.getD j 0) (l'.getD (m_fpl M l' 3 j) 0) < 0
      · rw [if_pos c, if_pos (Or.inr ⟨rfl, c⟩)]
      · rw [if_neg c, if_neg (fun q => by rcases q with ⟨q, -⟩ | ⟨-, q⟩; omega; exact c q)]
theorem h_fh (h : h_ok F T g M n) {l : List Nat} {l' : List Int32} (hl : h_ls F l l') : ∀ j, j ≤ l.length → c_fh g l j = m_fhi M l' j
  | 0, _ => rfl
  | j + 1, hj => by
    have ha := h.p (hl.at j (by omega))
    unfold c_fh m_fhi
    rw [h_fh h hl j (by omega), ha.2.2.2.1]
theorem c_lk_iff {l : List Nat} {i : Nat} : ∀ r j, c_lk g l i r j = true ↔ ∃ x, j ≤ x ∧ x < j + r ∧ c_cmp g 41 (l.getD x 0) (l.getD i 0) = 0
  | 0, j => by
    constructor
    · intro q; cases q
    · rintro ⟨x, h1, h2, -⟩; omega
  | r + 1, j => by
    have ih := c_lk_iff (l := l) (i := i) r (j + 1)
    unfold c_lk
    by_cases c : c_cmp g 41 (l.getD j 0) (l.getD i 0) = 0
    · rw [if_pos c]
      exact ⟨fun _ => ⟨j, Nat.le_refl _, by omega, c⟩, fun _ => rfl⟩
    · rw [if_neg c, ih]
      constructor
      · rintro ⟨x, h1, h2, h3⟩; exact ⟨x, by omega, by omega, h3⟩
      · rintro ⟨x, h1, h2, h3⟩
        have : x ≠ j := fun e => by subst e; exact c h3
        exact ⟨x, by omega, by omega, h3⟩
theorem m_newv_iff {l' : List Int32} {i : Nat} : ∀ j, (m_newv M l' i j).toInt = 0 ∨ (m_newv M l' i j).toInt = 1
  | 0 => Or.inr (by unfold m_newv; decide)
  | j + 1 => by
    unfold m_newv
    split
    · exact Or.inl (by decide)
    · split
      · exact Or.inl (by decide)
      · exact Or.inr (by decide)
theorem m_newv_0 {l' : List Int32} {i : Nat} : ∀ j, (m_newv M l' i j).toInt = 0 ↔ ∃ x, x < j ∧ m_cmp M 13 (l'.getD x 0) (l'.getD i 0) = 0
  | 0 => by
    constructor
    · intro q; exact absurd q (by unfold m_newv; decide)
    · rintro ⟨x, h1, -⟩; omega
  | j + 1 => by
    have ih := m_newv_0 (l' := l') (i := i) j
    have z0 : (ab_ii 0).toInt = 0 := by decide
    unfold m_newv
    by_cases c : (m_newv M l' i j).toInt = 0
    · rw [if_pos c]
      obtain ⟨x, h1, h2⟩ := ih.mp c
      exact ⟨fun _ => ⟨x, by omega, h2⟩, fun _ => z0⟩
    · rw [if_neg c]
      by_cases c2 : m_cmp M 13 (l'.getD j 0) (l'.getD i 0) = 0
      · rw [if_pos c2]
        exact ⟨fun _ => ⟨j, by omega, c2⟩, fun _ => z0⟩
      · rw [if_neg c2]
        constructor
        · intro q; exact absurd q (by decide)
        · rintro ⟨x, h1, h2⟩
          have : x ≠ j := fun e => by subst e; exact c2 h2
          exact absurd (ih.mpr ⟨x, by omega, h2⟩) c
theorem h_unl (h : h_ok F T g M n) (hT : m_T M n) {l : List Nat} {l' : List Int32} (hl : h_ls F l l') (h200 : l.length ≤ 200) : ∀ j, j ≤ l.length → (0 ≤ (c_unl g l j).toInt ∧ (c_unl g l j).toInt ≤ (j : Int)) ∧ (m_fsu M l' 4 j).toInt = (c_unl g l j).toInt
  | 0, _ => ⟨by unfold c_unl; decide, by unfold c_unl m_fsu; decide⟩
  | j + 1, hj => by
    obtain ⟨⟨b1, b2⟩, ih⟩ := h_unl h hT hl h200 j (by omega)
    have hx : c_lk g l j j 0 = true ↔ (m_newv M l' j j).toInt = 0 := by
      rw [c_lk_iff, m_newv_0]
      constructor
      · rintro ⟨x, -, h2, h3⟩; exact ⟨x, by omega, by rw [← h_cmp41 h hT (Nat.le_refl 13) (hl.at x (by omega)) (hl.at j (by omega))]; exact h3⟩
      · rintro ⟨x, h2, h3⟩; exact ⟨x, by omega, by omega, by rw [h_cmp41 h hT (Nat.le_refl 13) (hl.at x (by omega)) (hl.at j (by omega))]; exact h3⟩
    unfold c_unl m_fsu m_fad
    rw [if_neg (show ¬ (4 : Int) = 0 by omega), if_neg (show ¬ (4 : Int) = 1 by omega)]
    by_cases c : c_lk g l j j 0 = true
    · rw [if_pos c, if_neg (fun q => q.2 (hx.mp c)), if_neg (show ¬ (4 : Int) = 6 by omega), i64_add (by omega) (by decide), ih, ab_tI (by omega) (by omega), show (Int64.ofNat 0).toInt = 0 from by decide]
      exact ⟨⟨by omega, by omega⟩, by omega⟩
    · rw [if_neg c, if_pos ⟨rfl, fun q => c (hx.mpr q)⟩, i64_add (by omega) (by decide), ih, ab_tI (by omega) (by omega), show (Int64.ofNat 1).toInt = 1 from by decide]
      exact ⟨⟨by omega, by omega⟩, by omega⟩
theorem h_fn (h : h_ok F T g M n) (hT : m_T M n) {l : List Nat} {l' : List Int32} (hl : h_ls F l l') (h200 : l.length ≤ 200) : ∀ j, j ≤ l.length → (0 ≤ (c_fn g l j).toInt ∧ (c_fn g l j).toInt ≤ 200 * (j : Int)) ∧ (m_fsu M l' 6 j).toInt = (c_fn g l j).toInt
  | 0, _ => ⟨by unfold c_fn; decide, by unfold c_fn m_fsu; decide⟩
  | j + 1, hj => by
    obtain ⟨⟨b1, b2⟩, ih⟩ := h_fn h hT hl h200 j (by omega)
    have ha := hl.at j (by omega)
    have hr := (h.row hT ha).2.2.2.1
    have hp := h.p ha
    unfold c_fn m_fsu m_fad
    rw [if_neg (show ¬ (6 : Int) = 0 by omega), if_neg (show ¬ (6 : Int) = 1 by omega), if_neg (fun q => by omega), if_pos rfl, hp.2.2.1, i64_add (by omega) (by rw [i64_s]; omega), ih, i64_s, ab_tI (by omega) (by omega)]
    exact ⟨⟨by omega, by omega⟩, rfl⟩
theorem h_cnt {l' : List Int32} : ∀ j, j ≤ 200 → (m_fsu M l' 0 j).toInt = (j : Int)
  | 0, _ => by unfold m_fsu; decide
  | j + 1, hj => by
    have ih := h_cnt (l' := l') j (by omega)
    unfold m_fsu m_fad
    rw [if_pos rfl, i64_add (by omega) (by decide), ih, show (Int64.ofNat 1).toInt = 1 from by decide]
    omega
/-- what fold answers -/
theorem h_fold (h : h_ok F T g M n) (hT : m_T M n) {l : List Nat} {l' : List Int32} (hl : h_ls F l l') (h200 : l.length ≤ 200) {c : Int} : c_fold g l c = if (0 ≤ c ∧ c ≤ 6) ∧ ¬ (l'.length = 0 ∧ (c = 2 ∨ c = 3 ∨ c = 5)) then m_fre M l' c else Int64.ofInt (-9223372036854775808) := by
  have hlen := hl.len
  have e13 := h_gpl h hT hl l.length (Nat.le_refl _)
  unfold c_fold m_fre c_NO
  by_cases c0 : c = 0
  · subst c0
    rw [if_pos rfl, if_pos ⟨by omega, fun q => by omega⟩, if_neg (by omega), if_neg (by omega), ← hlen]
    refine Int64.toInt_inj.mp ?_
    rw [h_cnt _ h200, i64_s, ab_tI (by omega) (by omega)]
  rw [if_neg c0]
  by_cases c1 : c = 1
  · subst c1
    rw [if_pos rfl, if_pos ⟨by omega, fun q => by omega⟩, if_neg (by omega), if_neg (by omega), ← hlen]
    exact h_fsum h hT hl _ (Nat.le_refl _)
  rw [if_neg c1]
  by_cases c2 : c = 2
  · subst c2
    rw [if_pos rfl, ← hlen]
    by_cases e : l.length = 0
    · rw [if_pos e, if_neg (fun q => q.2 ⟨e, Or.inl rfl⟩)]
    · rw [if_neg e, if_pos ⟨by omega, fun q => e q.1⟩, if_pos (Or.inl rfl), e13.1]
  rw [if_neg c2]
  by_cases c3 : c = 3
  · subst c3
    rw [if_pos rfl, ← hlen]
    by_cases e : l.length = 0
    · rw [if_pos e, if_neg (fun q => q.2 ⟨e, Or.inr (Or.inl rfl)⟩)]
    · rw [if_neg e, if_pos ⟨by omega, fun q => e q.1⟩, if_pos (Or.inr rfl), e13.2]
  rw [if_neg c3]
  by_cases c4 : c = 4
  · subst c4
    rw [if_pos rfl, if_pos ⟨by omega, fun q => by omega⟩, if_neg (by omega), if_neg (by omega), ← hlen]
    refine Int64.toInt_inj.mp ?_
    rw [(h_unl h hT hl h200 _ (Nat.le_refl _)).2, i64_s]
  rw [if_neg c4]
  by_cases c5 : c = 5
  · subst c5
    rw [if_pos rfl, ← hlen]
    by_cases e : l.length = 0
    · rw [if_pos e, if_neg (fun q => q.2 ⟨e, Or.inr (Or.inr rfl)⟩)]
    · rw [if_neg e, if_pos ⟨by omega, fun q => e q.1⟩, if_neg (by omega), if_pos rfl, h_fh h hl _ (Nat.le_refl _)]
  rw [if_neg c5]
  by_cases c6 : c = 6
  · subst c6
    rw [if_pos rfl, if_pos ⟨by omega, fun q => by omega⟩, if_neg (by omega), if_neg (by omega), ← hlen]
    refine Int64.toInt_inj.mp ?_
    rw [(h_fn h hT hl h200 _ (Nat.le_refl _)).2, i64_s]
  rw [if_neg c6, if_neg (fun q => by omega)]
/-! what differs -/
theorem c_frl_iff {a b : Nat} : ∀ r j, c_frl g a b r j ↔ ∀ x, j ≤ x → x < j + r → (c_ky g a x).toInt = (c_ky g b x).toInt
  | 0, j => ⟨fun _ x h1 h2 => by omega, fun _ => trivial⟩
  | r + 1, j => by
    have ih := c_frl_iff (a := a) (b := b) r (j + 1)
    constructor
    · rintro ⟨h1, h2⟩ x hx1 hx2
      by_cases e : x = j
      · subst e; exact h1
      · exact ih.mp h2 x (by omega) (by omega)
    · intro h1
      exact ⟨h1 j (Nat.le_refl _) (by omega), ih.mpr (fun x q1 q2 => h1 x (by omega) (by omega))⟩
theorem h_frm {a b : Nat} {t u : Int32} (ha : h_pr F g M a t) (hb : h_pr F g M b u) : c_frm g a b ↔ m_like M t.toInt.toNat u.toInt.toNat := by
  obtain ⟨a0, a1, -, -, a4, a5⟩ := ha
  obtain ⟨b0, b1, -, -, b4, b5⟩ := hb
  unfold c_frm m_like
  rw [a0, a1, b0, b1, c_frl_iff, ← a4, ← b4]
  constructor
  · rintro ⟨h1, h2, h3, h4, h5⟩
    refine ⟨h1, h3, h2, by rw [h4], fun j hj => ?_⟩
    have hj' : j < c_sz g a := by omega
    rw [← (a5 j hj').1, ← (b5 j (by omega)).1]
    exact h5 j (Nat.zero_le _) (by omega)
  · rintro ⟨h1, h3, h2, h4, h5⟩
    refine ⟨h1, h2, h3, by omega, fun j _ hj => ?_⟩
    have hj' : j < c_sz g a := by omega
    rw [(a5 j hj').1, (b5 j (by omega)).1]
    exact h5 j (by omega)
theorem h_dfl {G : Nat → Nat → Int32 → List Int32} {G' : Int32 → Int32 → Int32 → List Int32} (h : h_ok F T g M n) {a b : Nat} {t u : Int32} (ha : h_pr F g M a t) (hb : h_pr F g M b u) (hsz : c_sz g a = c_sz g b) (hG : ∀ j, j < c_sz g a → ∀ w, G (c_pt g a j) (c_pt g b j) w = G' (M 108 (12 * t.toInt.toNat + j)) (M 108 (12 * u.toInt.toNat + j)) w) : ∀ r j w, j + r = c_sz g a → c_dfl G g a b r j w = m_dil G' M t.toInt.toNat u.toInt.toNat r j w
  | 0, j, w, _ => rfl
  | r + 1, j, w, hj => by
    have hp := h.p (ha.2.2.2.2.2 j (by omega)).2
    unfold c_dfl m_dil
    rw [hG j (by omega), h_dfl h ha hb hsz hG r (j + 1) _ (by omega), hp.2.2.1]
theorem h_dif (h : h_ok F T g M n) (hT : m_T M n) : ∀ (f f' : Nat) (a b : Nat) (t u w : Int32), F a t → F b u → (M 107 t.toInt.toNat).toInt < (f : Int) → (M 107 t.toInt.toNat).toInt < (f' : Int) → c_dif g f a b w = m_dif M f' t u w
  | 0, f', a, b, t, u, w, ha, hb, h1, h2 => by have := (h.row hT ha).2.2.1; omega
  | f + 1, 0, a, b, t, u, w, ha, hb, h1, h2 => by have := (h.row hT ha).2.2.1; omega
  | f + 1, f' + 1, a, b, t, u, w, ha, hb, h1, h2 => by
    obtain ⟨s1, -, -, -, -, -, s7⟩ := h.row hT ha
    have pa := h.p ha
    have pb := h.p hb
    have hf := h_frm pa pb
    unfold c_dif m_dif
    rw [h_cmp41 h hT (Nat.le_refl 13) ha hb]
    by_cases c : m_cmp M 13 t u = 0
    · rw [if_pos c, if_pos c]
    · rw [if_neg c, if_neg c]
      by_cases c2 : c_frm g a b
      · rw [if_pos c2, if_pos (hf.mp c2), s1]
        have hsz := c2.2.2.2.1
        exact h_dfl h pa pb hsz (fun j hj w => h_dif h hT f f' _ _ _ _ w (pa.2.2.2.2.2 j hj).2 (pb.2.2.2.2.2 j (by omega)).2 (by have := s7 j hj; omega) (by have := s7 j hj; omega)) _ 0 _ (Nat.zero_add _)
      · rw [if_neg c2, if_neg (fun q => c2 (hf.mpr q))]
/-- the places as they lie -/
theorem d_pushes_at : ∀ {l : List Int32} {I : wd_I} {m : Nat}, I 14 1 = ab_ii (m : Int) → m + l.length ≤ 200 → d_pushes I l 14 1 = ab_ii ((m + l.length : Nat) : Int) ∧ ∀ j, d_pushes I l 15 j = if m ≤ j ∧ j < m + l.length then l.getD (j - m) 0 else I 15 j
  | [], I, m, hm, hl => ⟨hm, fun j => by rw [if_neg (by simp)]; rfl⟩
  | x :: l, I, m, hm, hl => by
    have hl' : m + 1 + l.length ≤ 200 := by simp at hl; omega
    have e1 : (I 14 1).toInt = (m : Int) := by rw [hm, ab_tI (by omega) (by omega)]
    have e : d_push I x = wd_up (wd_up I 15 m x) 14 1 (ab_ii (((m + 1 : Nat)) : Int)) := by
      unfold d_push
      rw [if_pos (by omega), e1]
      rfl
    obtain ⟨h1, h2⟩ := d_pushes_at (l := l) (I := d_push I x) (m := m + 1) (by rw [e, wd_up_self]) hl'
    refine ⟨h1.trans (by congr 2; simp; omega), fun j => ?_⟩
    show d_pushes (d_push I x) l 15 j = _
    rw [h2 j, e, wd_up_ne _ _ (Or.inl (by omega))]
    by_cases c : m + 1 ≤ j ∧ j < m + 1 + l.length
    · rw [if_pos c, if_pos (by simp; omega)]
      obtain ⟨i, hi⟩ : ∃ i, j - m = i + 1 := ⟨j - m - 1, by omega⟩
      rw [hi, show j - (m + 1) = i by omega]
      rfl
    · rw [if_neg c]
      by_cases c2 : j = m
      · subst c2
        rw [wd_up_self, if_pos (by simp), Nat.sub_self]
        rfl
      · rw [wd_up_ne _ _ (Or.inr c2), if_neg (by simp; omega)]
theorem h_dfr (h : h_ok F T g M n) (hT : m_T M n) {I : wd_I} {a b : Nat} {t u : Int32} (ha : F a t) (hb : F b u) {k : Int} : c_dfr I g a b k = m_dans (m_dl M t u) k := by
  have hr := h.row hT ha
  have he : c_dif g 41 a b (ab_ii 0) = m_dl M t u := h_dif h hT 41 13 a b t u (ab_ii 0) ha hb (by omega) (by omega)
  have hbb := h.b ha
  have hlen := m_dif_len hT.tb 13 t u (ab_ii 0) hbb.1 hbb.2
  change ((m_dl M t u).length : Int) ≤ _ at hlen
  obtain ⟨d1, d2⟩ := d_pushes_at (l := m_dl M t u) (I := wd_up I 14 1 (ab_ii 0)) (m := 0) (wd_up_self _ _ _ _) (by omega)
  unfold c_dfr m_dans d_fnd
  rw [he, d1, ab_tI (by omega) (by omega), Nat.zero_add]
  by_cases c1 : k = -1
  · rw [if_pos c1, if_pos c1]
  · rw [if_neg c1, if_neg c1]
    by_cases c2 : 0 ≤ k ∧ k < ((m_dl M t u).length : Int)
    · rw [if_pos c2, if_neg (by omega), if_pos c2.2, d2, if_pos (by omega), Nat.sub_zero]
    · rw [if_neg c2]
      by_cases c3 : k < -1
      · rw [if_pos c3]
      · rw [if_neg c3, if_neg (by omega)]
end
