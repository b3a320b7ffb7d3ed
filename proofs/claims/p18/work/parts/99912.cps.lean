/-! ===== both objects: what is shared (own text) ===== -/
/-- x is a node of t -/
def m_rch (M : wd_I) : Nat → Int32 → Nat → Prop
  | 0, _, _ => False
  | f + 1, t, x => t.toInt.toNat = x ∨ ∃ j, j < (M 105 t.toInt.toNat).toInt.toNat ∧ m_rch M f (M 108 (12 * t.toInt.toNat + j)) x
theorem m_mark_at {T : wd_I} {x : Nat} : ∀ (f : Nat) (M : wd_I) (t : Int32), (m_mark T f M t 124 x).toInt = 0 ↔ (M 124 x).toInt = 0 ∧ ¬ m_rch T f t x
  | 0, M, t => ⟨fun q => ⟨q, fun e => e⟩, fun q => q.1⟩
  | f + 1, M, t => by
    have hl : ∀ (r : Nat) (M : wd_I), (m_mkl (m_mark T f) T t.toInt.toNat r M 124 x).toInt = 0 ↔ (M 124 x).toInt = 0 ∧ ¬ ∃ j, j < r ∧ m_rch T f (T 108 (12 * t.toInt.toNat + j)) x := by
      intro r
      induction r with
      | zero => intro M; exact ⟨fun q => ⟨q, fun ⟨j, hj, _⟩ => absurd hj (Nat.not_lt_zero _)⟩, fun q => q.1⟩
      | succ r ih =>
        intro M
        show (m_mark T f (m_mkl (m_mark T f) T t.toInt.toNat r M) (T 108 (12 * t.toInt.toNat + r)) 124 x).toInt = 0 ↔ _
        rw [m_mark_at f, ih]
        constructor
        · rintro ⟨⟨h1, h2⟩, h3⟩
          refine ⟨h1, fun ⟨j, hj, hr⟩ => ?_⟩
          by_cases e : j = r
          · subst e; exact h3 hr
          · exact h2 ⟨j, by omega, hr⟩
        · rintro ⟨h1, h2⟩
          exact ⟨⟨h1, fun ⟨j, hj, hr⟩ => h2 ⟨j, by omega, hr⟩⟩, fun hr => h2 ⟨r, by omega, hr⟩⟩
    show (m_mkl (m_mark T f) T t.toInt.toNat (T 105 t.toInt.toNat).toInt.toNat (wd_up M 124 t.toInt.toNat (ab_ii 1)) 124 x).toInt = 0 ↔ _
    rw [hl]
    show _ ↔ (M 124 x).toInt = 0 ∧ ¬ (t.toInt.toNat = x ∨ ∃ j, j < (T 105 t.toInt.toNat).toInt.toNat ∧ m_rch T f (T 108 (12 * t.toInt.toNat + j)) x)
    by_cases e : t.toInt.toNat = x
    · subst e
      rw [wd_up_self]
      constructor
      · rintro ⟨h1, -⟩; exact absurd h1 (by decide)
      · rintro ⟨-, h2⟩; exact absurd (Or.inl rfl) h2
    · rw [wd_up_ne _ _ (Or.inr (fun q => e q.symm))]
      constructor
      · rintro ⟨h1, h2⟩; exact ⟨h1, fun q => q.elim e h2⟩
      · rintro ⟨h1, h2⟩; exact ⟨h1, fun q => h2 (Or.inr q)⟩
theorem m_clr_at {M : wd_I} {x : Nat} : ∀ j, x < j → m_clr M j 124 x = ab_ii 0
  | 0, h => absurd h (Nat.not_lt_zero _)
  | j + 1, h => by
    unfold m_clr
    by_cases e : x = j
    · subst e; exact wd_up_self _ _ _ _
    · rw [wd_up_ne _ _ (Or.inr e)]; exact m_clr_at j (by omega)
theorem m_rch_c {M M' : wd_I} (h : ∀ a, a ≠ 124 → M' a = M a) {x : Nat} : ∀ (f : Nat) (t : Int32), m_rch M' f t x ↔ m_rch M f t x
  | 0, _ => Iff.rfl
  | f + 1, t => by
    unfold m_rch
    rw [h 105 (by decide), h 108 (by decide)]
    constructor
    · rintro (q | ⟨j, h1, h2⟩)
      · exact Or.inl q
      · exact Or.inr ⟨j, h1, (m_rch_c h f _).mp h2⟩
    · rintro (q | ⟨j, h1, h2⟩)
      · exact Or.inl q
      · exact Or.inr ⟨j, h1, (m_rch_c h f _).mpr h2⟩
theorem c_hdl_iff {G : Nat → Nat → Bool} {g : Nat → ab_C} {a b : Nat} : ∀ r j, c_hdl G g a b r j = true ↔ ∃ x, j ≤ x ∧ x < j + r ∧ G (c_pt g a x) b = true
  | 0, j => ⟨fun q => (by cases q), fun ⟨x, h1, h2, _⟩ => by omega⟩
  | r + 1, j => by
    have ih := c_hdl_iff (G := G) (g := g) (a := a) (b := b) r (j + 1)
    unfold c_hdl
    rw [Bool.or_eq_true, ih]
    constructor
    · rintro (q | ⟨x, h1, h2, h3⟩)
      · exact ⟨j, Nat.le_refl _, by omega, q⟩
      · exact ⟨x, by omega, by omega, h3⟩
    · rintro ⟨x, h1, h2, h3⟩
      by_cases e : x = j
      · subst e; exact Or.inl h3
      · exact Or.inr ⟨x, by omega, by omega, h3⟩
section
variable {F : Nat → Int32 → Prop} {T : Nat → Prop} {g : Nat → ab_C} {M : wd_I} {n : Int}
theorem h_ok.nods (h : h_ok F T g M n) (hT : m_T M n) {a : Nat} {t : Int32} (hp : F a t) : ∀ j, j < c_sz g a → (M 106 (M 108 (12 * t.toInt.toNat + j)).toInt.toNat).toInt < (M 106 t.toInt.toNat).toInt := fun j hj => by
  obtain ⟨b0, b1⟩ := h.b hp
  obtain ⟨-, -, -, -, e5, -⟩ := h.p hp
  obtain ⟨s, r1, r2, r3, r4, r5, r6, r7, -⟩ := m_T_row hT (t := t.toInt.toNat) (by omega)
  have := m_nds_one (N := M) (q := t.toInt.toNat) (s := s) (fun j hj => by have := (r6 j hj).2.2.2; omega) (j := j) (by omega)
  omega
theorem h_rch (h : h_ok F T g M n) (hT : m_T M n) {a : Nat} {t : Int32} (ha : F a t) : ∀ (f f' : Nat) (o : Nat) (u : Int32), F o u → (M 107 u.toInt.toNat).toInt < (f : Int) → (M 107 u.toInt.toNat).toInt < (f' : Int) → (c_hld g f o a = true ↔ m_rch M f' u t.toInt.toNat) ∧ (m_rch M f' u t.toInt.toNat → (M 106 t.toInt.toNat).toInt ≤ (M 106 u.toInt.toNat).toInt)
  | 0, f', o, u, ho, h1, h2 => by have := (h.row hT ho).2.2.1; omega
  | f + 1, 0, o, u, ho, h1, h2 => by have := (h.row hT ho).2.2.1; omega
  | f + 1, f' + 1, o, u, ho, h1, h2 => by
    obtain ⟨s1, -, -, -, -, -, s7⟩ := h.row hT ho
    have hn := h.nods hT ho
    have po := h.p ho
    have pa := h.p ha
    have he := h.eq ho ha
    have bo := h.b ho
    have ba := h.b ha
    have ih := fun j (hj : j < c_sz g o) => h_rch h hT ha f f' _ _ (po.2.2.2.2.2 j hj).2 (by have := s7 j hj; omega) (by have := s7 j hj; omega)
    unfold c_hld m_rch
    rw [s1]
    by_cases e : o = a
    · rw [if_pos e]
      have hu := he.mp e
      exact ⟨⟨fun _ => Or.inl (by omega), fun _ => rfl⟩, fun _ => by rw [hu]; exact Int.le_refl _⟩
    · rw [if_neg e]
      have hne : ¬ u.toInt.toNat = t.toInt.toNat := fun q => e (he.mpr (by omega))
      have hle : (u.toInt.toNat = t.toInt.toNat ∨ ∃ j, j < c_sz g o ∧ m_rch M f' (M 108 (12 * u.toInt.toNat + j)) t.toInt.toNat) → (M 106 t.toInt.toNat).toInt < (M 106 u.toInt.toNat).toInt := by
        rintro (q | ⟨j, hj, hr⟩)
        · exact absurd q hne
        · have := (ih j hj).2 hr
          have := hn j hj
          omega
      refine ⟨?_, fun q => by have := hle q; omega⟩
      rw [pa.2.2.1, po.2.2.1]
      constructor
      · intro q
        split at q
        · obtain ⟨x, -, hx, h3⟩ := (c_hdl_iff _ 0).mp q
          exact Or.inr ⟨x, by omega, (ih x (by omega)).1.mp h3⟩
        · cases q
      · intro q
        rw [if_pos (hle q)]
        rcases q with q | ⟨j, hj, hr⟩
        · exact absurd q hne
        · exact (c_hdl_iff _ 0).mpr ⟨j, Nat.zero_le _, by omega, (ih j hj).1.mpr hr⟩
theorem h_shl {G : Nat → Nat → Int32} {G' : Int32 → Int32} {a o : Nat} {t : Int32} (ha : h_pr F g M a t) (hG : ∀ j, j < c_sz g a → G (c_pt g a j) o = G' (M 108 (12 * t.toInt.toNat + j))) {M' : wd_I} (hM : ∀ x, x ≠ 124 → M' x = M x) : ∀ j, j ≤ c_sz g a → c_shl G g a o j = m_shl G' M' t.toInt.toNat j
  | 0, _ => rfl
  | j + 1, hj => by
    unfold c_shl m_shl
    rw [h_shl ha hG hM j (by omega), hM 108 (by decide), hG j (by omega)]
theorem h_shn (h : h_ok F T g M n) (hT : m_T M n) {o : Nat} {M' : wd_I} (hM : ∀ x, x ≠ 124 → M' x = M x) (hh : ∀ a t, F a t → (c_hld g 41 o a = true ↔ ¬ (M' 124 t.toInt.toNat).toInt = 0)) : ∀ (f f' : Nat) (a : Nat) (t : Int32), F a t → (M 107 t.toInt.toNat).toInt < (f : Int) → (M 107 t.toInt.toNat).toInt < (f' : Int) → c_shn g f a o = m_shi M' f' t
  | 0, f', a, t, ha, h1, h2 => by have := (h.row hT ha).2.2.1; omega
  | f + 1, 0, a, t, ha, h1, h2 => by have := (h.row hT ha).2.2.1; omega
  | f + 1, f' + 1, a, t, ha, h1, h2 => by
    obtain ⟨s1, -, -, -, -, -, s7⟩ := h.row hT ha
    have pa := h.p ha
    have hx := hh a t ha
    unfold c_shn m_shi
    by_cases c : c_hld g 41 o a = true
    · rw [if_pos c, if_neg (hx.mp c)]
    · rw [if_neg c, if_pos (Decidable.byContradiction (fun q => c (hx.mpr q))), hM 105 (by decide), s1]
      exact h_shl pa (fun j hj => h_shn h hT hM hh f f' _ _ (pa.2.2.2.2.2 j hj).2 (by have := s7 j hj; omega) (by have := s7 j hj; omega)) hM _ (Nat.le_refl _)
theorem h_shared (h : h_ok F T g M n) (hT : m_T M n) {a b : Nat} {t u : Int32} (ha : F a t) (hb : F b u) : c_shn g 41 a b = m_shared M t u := by
  have ra := h.row hT ha
  have rb := h.row hT hb
  have hn3 := hT.1
  have hc : ∀ x, x ≠ 124 → m_clr M 3120 x = M x := fun x hx => m_clr_row hx _
  have hM : ∀ x, x ≠ 124 → m_mark (m_clr M 3120) 13 (m_clr M 3120) u x = M x := fun x hx => (m_mark_row hx 13 _ _).trans (hc x hx)
  refine h_shn h hT hM (fun a' t' ha' => ?_) 41 13 a t ha (by omega) (by omega)
  have hbt := h.b ha'
  rw [(h_rch h hT ha' 41 13 b u hb (by omega) (by omega)).1, m_mark_at, m_clr_at _ (by omega), m_rch_c hc]
  constructor
  · intro q e; exact e.2 q
  · intro q
    exact Classical.byContradiction (fun e => q ⟨by decide, e⟩)
end
