/-! ===== both objects: things alike (own text) ===== -/
/-- a, a thing of the class, and t, one of the reference, hold the same; their parts are paired -/
def h_pr (F : Nat → Int32 → Prop) (g : Nat → ab_C) (M : wd_I) (a : Nat) (t : Int32) : Prop := c_i g a 0 = M 103 t.toInt.toNat ∧ c_i g a 1 = M 104 t.toInt.toNat ∧ c_i g a 2 = M 106 t.toInt.toNat ∧ c_i g a 3 = M 107 t.toInt.toNat ∧ (c_sz g a : Int) = (M 105 t.toInt.toNat).toInt ∧ ∀ j, j < c_sz g a → c_ky g a j = M 109 (12 * t.toInt.toNat + j) ∧ F (c_pt g a j) (M 108 (12 * t.toInt.toNat + j))
def h_ok (F : Nat → Int32 → Prop) (T : Nat → Prop) (g : Nat → ab_C) (M : wd_I) (n : Int) : Prop := (∀ a t, F a t → (T a ∧ 0 ≤ t.toInt ∧ t.toInt < n) ∧ h_pr F g M a t) ∧ (∀ a t t', F a t → F a t' → t = t') ∧ (∀ a a' t, F a t → F a' t → a = a')
section
variable {F : Nat → Int32 → Prop} {T : Nat → Prop} {g : Nat → ab_C} {M : wd_I} {n : Int}
theorem h_ok.inT (h : h_ok F T g M n) {a : Nat} {t : Int32} (hp : F a t) : T a := (h.1 a t hp).1.1
theorem h_ok.b (h : h_ok F T g M n) {a : Nat} {t : Int32} (hp : F a t) : 0 ≤ t.toInt ∧ t.toInt < n := (h.1 a t hp).1.2
theorem h_ok.p (h : h_ok F T g M n) {a : Nat} {t : Int32} (hp : F a t) : h_pr F g M a t := (h.1 a t hp).2
theorem h_ok.eq (h : h_ok F T g M n) {a b : Nat} {t u : Int32} (hp : F a t) (hq : F b u) : a = b ↔ t.toInt = u.toInt := by
  constructor
  · intro e; subst e; rw [h.2.1 a t u hp hq]
  · intro e
    have := Int32.toInt_inj.mp e
    subst this
    exact h.2.2 a b t hp hq
/-- a row's facts, and its parts' heights -/
theorem h_ok.row (h : h_ok F T g M n) (hT : m_T M n) {a : Nat} {t : Int32} (hp : F a t) : (M 105 t.toInt.toNat).toInt.toNat = c_sz g a ∧ c_sz g a ≤ 12 ∧ (0 ≤ (M 107 t.toInt.toNat).toInt ∧ (M 107 t.toInt.toNat).toInt ≤ 12) ∧ (1 ≤ (M 106 t.toInt.toNat).toInt ∧ (M 106 t.toInt.toNat).toInt ≤ 200) ∧ (0 ≤ (M 103 t.toInt.toNat).toInt ∧ (M 103 t.toInt.toNat).toInt ≤ 4) ∧ ((M 103 t.toInt.toNat).toInt = 0 → c_sz g a = 0) ∧ ∀ j, j < c_sz g a → (M 107 (M 108 (12 * t.toInt.toNat + j)).toInt.toNat).toInt < (M 107 t.toInt.toNat).toInt := by
  obtain ⟨b0, b1⟩ := h.b hp
  obtain ⟨-, -, -, -, e5, -⟩ := h.p hp
  obtain ⟨s, r1, r2, r3, r4, r5, r6, -, -, r9, -⟩ := m_T_row hT (t := t.toInt.toNat) (by omega)
  refine ⟨by omega, by omega, r4, r5, r3, fun q => by have := r9 q; omega, fun j hj => (r6 j (by omega)).2.2.1⟩
theorem h_lex {G : Nat → Nat → Int} {G' : Int32 → Int32 → Int} {a b : Nat} {t u : Int32} (ha : h_pr F g M a t) (hb : h_pr F g M b u) (hG : ∀ j, j < c_sz g a → j < c_sz g b → G (c_pt g a j) (c_pt g b j) = G' (M 108 (12 * t.toInt.toNat + j)) (M 108 (12 * u.toInt.toNat + j))) : ∀ r j, j + r = min (c_sz g a) (c_sz g b) → c_lex G g a b r j = m_lex G' M t.toInt.toNat u.toInt.toNat r j
  | 0, j, _ => by
    have e1 := ha.2.2.2.2.1
    have e2 := hb.2.2.2.2.1
    unfold c_lex m_lex
    rw [← e1, ← e2]
    simp only [Int.ofNat_lt]
  | r + 1, j, hj => by
    have ih := h_lex ha hb hG r (j + 1) (by omega)
    obtain ⟨k1, -⟩ := ha.2.2.2.2.2 j (by omega)
    obtain ⟨k2, -⟩ := hb.2.2.2.2.2 j (by omega)
    unfold c_lex m_lex
    rw [k1, k2, ih, hG j (by omega) (by omega)]
theorem h_cmp (h : h_ok F T g M n) (hT : m_T M n) : ∀ (f f' : Nat) (a b : Nat) (t u : Int32), F a t → F b u → (M 107 t.toInt.toNat).toInt < (f : Int) → (M 107 t.toInt.toNat).toInt < (f' : Int) → c_cmp g f a b = m_cmp M f' t u
  | 0, f', a, b, t, u, ha, hb, h1, h2 => by have := (h.row hT ha).2.2.1; omega
  | f + 1, 0, a, b, t, u, ha, hb, h1, h2 => by have := (h.row hT ha).2.2.1; omega
  | f + 1, f' + 1, a, b, t, u, ha, hb, h1, h2 => by
    obtain ⟨s1, -, -, -, -, -, s7⟩ := h.row hT ha
    obtain ⟨u1, -⟩ := h.row hT hb
    have pa := h.p ha
    have pb := h.p hb
    have hl := h_lex (G := c_cmp g f) (G' := m_cmp M f') pa pb (fun j j1 j2 => h_cmp h hT f f' _ _ _ _ (pa.2.2.2.2.2 j j1).2 (pb.2.2.2.2.2 j j2).2 (by have := s7 j j1; omega) (by have := s7 j j1; omega)) _ 0 (Nat.zero_add _)
    have he := h.eq ha hb
    unfold c_cmp m_cmp
    rw [s1, u1, pa.1, pa.2.1, pb.1, pb.2.1, hl]
    by_cases e : a = b
    · rw [if_pos e, if_pos (he.mp e)]
    · rw [if_neg e, if_neg (fun q => e (he.mpr q))]
/-- as the calls ask: enough fuel on both sides -/
theorem h_cmp41 (h : h_ok F T g M n) (hT : m_T M n) {f' : Nat} (hf : 13 ≤ f') {a b : Nat} {t u : Int32} (ha : F a t) (hb : F b u) : c_cmp g 41 a b = m_cmp M f' t u := by
  have := (h.row hT ha).2.2.1
  exact h_cmp h hT 41 f' a b t u ha hb (by omega) (by omega)
end
/-! paths alike -/
def q_s (x : Int) : Int := if x = 46 then 0 else if x = 47 then 1 else if x = 36 then 2 else if x = 35 then 3 else if x = 42 then 4 else if x = 126 then 5 else if x = 37 then 6 else if x = 60 then 7 else if x = 61 then 8 else 9
def h_pt (g : Nat → ab_C) (M : wd_I) (rs rw rn p q : Nat) : Prop := (p_n g p : Int) = (M rn q).toInt ∧ p_n g p ≤ 8 ∧ ∀ i, i < p_n g p → q_s (p_sg g p i).toInt = (M rs (8 * q + i)).toInt ∧ p_wd g p i = M rw (8 * q + i)
section
variable {F : Nat → Int32 → Prop} {T : Nat → Prop} {g : Nat → ab_C} {M : wd_I} {n : Int} {p q : Nat}
theorem h_keep {a i : Nat} {t : Int32} (hp : h_pt g M 113 114 115 p q) (hi : i < p_n g p) (ha : h_pr F g M a t) : p_keep g p i a ↔ m_self M q t.toInt.toNat i := by
  obtain ⟨s1, s2⟩ := hp.2.2 i hi
  obtain ⟨e0, e1, e2, -⟩ := ha
  unfold p_keep m_self
  rw [← s1, ← s2, ← e0, ← e1, ← e2]
  unfold q_s
  constructor
  · rintro (⟨c1, c2⟩ | ⟨c1, c2, c3⟩ | ⟨c1, c2⟩)
    · rw [c1]; exact Or.inr (Or.inl ⟨by decide, c2⟩)
    · rw [c1]; exact Or.inr (Or.inr ⟨by decide, c2, c3⟩)
    · rw [c1]; exact Or.inl ⟨by decide, c2⟩
  · rintro (⟨c1, c2⟩ | ⟨c1, c2⟩ | ⟨c1, c2, c3⟩)
    · exact Or.inr (Or.inr ⟨by revert c1; repeat' split <;> omega, c2⟩)
    · exact Or.inl ⟨by revert c1; repeat' split <;> omega, c2⟩
    · exact Or.inr (Or.inl ⟨by revert c1; repeat' split <;> omega, c2, c3⟩)
theorem q_s_b {x : Int} : (q_s x = 0 ↔ x = 46) ∧ (q_s x = 1 ↔ x = 47) ∧ (q_s x = 2 ↔ x = 36) ∧ (q_s x = 3 ↔ x = 35) ∧ (q_s x = 4 ↔ x = 42) ∧ (q_s x = 5 ↔ x = 126) ∧ (q_s x = 6 ↔ x = 37) ∧ (q_s x = 7 ↔ x = 60) ∧ (q_s x = 8 ↔ x = 61) := by
  unfold q_s
  repeat' split
  all_goals omega
theorem h_ent {a i j : Nat} {t : Int32} (hp : h_pt g M 113 114 115 p q) (hi : i < p_n g p) (ha : h_pr F g M a t) (hj : j < c_sz g a) : p_ent g p i a j ↔ m_part M q t.toInt.toNat i j := by
  obtain ⟨s1, s2⟩ := hp.2.2 i hi
  obtain ⟨e0, e1, -, -, -, e5⟩ := ha
  obtain ⟨k1, -⟩ := e5 j hj
  obtain ⟨q0, q1, q2, q3, q4, q5, q6, -, -⟩ := q_s_b (x := (p_sg g p i).toInt)
  unfold p_ent m_part
  rw [← s1, ← s2, ← e0, ← e1, ← k1, q0, q1, q2, q3, q4, q5, q6]
theorem h_nx {i : Nat} (hp : h_pt g M 113 114 115 p q) (hi : i < p_n g p) : p_nx g p i = m_nxt M q i := by
  obtain ⟨s1, -⟩ := hp.2.2 i hi
  obtain ⟨-, -, -, -, -, -, q6, -⟩ := q_s_b (x := (p_sg g p i).toInt)
  unfold p_nx m_nxt
  rw [← s1]
  by_cases c : (p_sg g p i).toInt = 37
  · rw [if_pos c, if_pos (q6.mpr c)]
  · rw [if_neg c, if_neg (fun e => c (q6.mp e))]
end
/-! rows of things alike -/
def h_ls (F : Nat → Int32 → Prop) : List Nat → List Int32 → Prop
  | [], [] => True
  | a :: l, t :: l' => F a t ∧ h_ls F l l'
  | _, _ => False
theorem h_ls.app {F : Nat → Int32 → Prop} : ∀ {l m : List Nat} {l' m' : List Int32}, h_ls F l l' → h_ls F m m' → h_ls F (l ++ m) (l' ++ m')
  | [], m, [], m', _, h => h
  | a :: l, m, t :: l', m', h1, h2 => ⟨h1.1, h_ls.app h1.2 h2⟩
  | [], _, _ :: _, _, h1, _ => False.elim h1
  | _ :: _, _, [], _, h1, _ => False.elim h1
theorem h_ls.len {F : Nat → Int32 → Prop} : ∀ {l : List Nat} {l' : List Int32}, h_ls F l l' → l.length = l'.length
  | [], [], _ => rfl
  | _ :: l, _ :: l', h => by rw [List.length_cons, List.length_cons, h_ls.len h.2]
  | [], _ :: _, h => False.elim h
  | _ :: _, [], h => False.elim h
theorem h_ls.at {F : Nat → Int32 → Prop} : ∀ {l : List Nat} {l' : List Int32}, h_ls F l l' → ∀ j, j < l.length → F (l.getD j 0) (l'.getD j 0)
  | [], [], _, j, hj => absurd hj (Nat.not_lt_zero _)
  | a :: l, t :: l', h, 0, _ => h.1
  | a :: l, t :: l', h, j + 1, hj => h_ls.at h.2 j (Nat.lt_of_succ_lt_succ hj)
  | [], _ :: _, h, _, _ => False.elim h
  | _ :: _, [], h, _, _ => False.elim h
section
variable {F : Nat → Int32 → Prop} {T : Nat → Prop} {g : Nat → ab_C} {M : wd_I} {n : Int} {p q : Nat}
theorem h_fol {G : Nat → List Nat} {G' : Int32 → List Int32} {a i : Nat} {t : Int32} (hp : h_pt g M 113 114 115 p q) (hi : i < p_n g p) (ha : h_pr F g M a t) (hG : ∀ j, j < c_sz g a → h_ls F (G (c_pt g a j)) (G' (M 108 (12 * t.toInt.toNat + j)))) : ∀ r j, j + r = c_sz g a → h_ls F (c_fol G g p a i r j) (m_fol G' M q t.toInt.toNat i r j)
  | 0, j, _ => trivial
  | r + 1, j, hj => by
    have ih := h_fol hp hi ha hG r (j + 1) (by omega)
    have he := h_ent hp hi ha (show j < c_sz g a by omega)
    unfold c_fol m_fol
    by_cases c : p_ent g p i a j
    · rw [if_pos c, if_pos (he.mp c)]
      exact (hG j (by omega)).app ih
    · rw [if_neg c, if_neg (fun e => c (he.mpr e))]
      exact ih
theorem h_fo (h : h_ok F T g M n) (hT : m_T M n) (hp : h_pt g M 113 114 115 p q) : ∀ (f f' : Nat) (a i : Nat) (t : Int32), F a t → i ≤ p_n g p → (M 107 t.toInt.toNat).toInt + (p_n g p : Int) - (i : Int) < (f : Int) → (M 107 t.toInt.toNat).toInt + (p_n g p : Int) - (i : Int) < (f' : Int) → h_ls F (c_fo g p f a i) (m_fo M q f' t i)
  | 0, f', a, i, t, ha, hi, h1, h2 => by have := (h.row hT ha).2.2.1; omega
  | f + 1, 0, a, i, t, ha, hi, h1, h2 => by have := (h.row hT ha).2.2.1; omega
  | f + 1, f' + 1, a, i, t, ha, hi, h1, h2 => by
    obtain ⟨s1, -, s3, -, -, s6, s7⟩ := h.row hT ha
    have pa := h.p ha
    have hn := hp.1
    unfold c_fo m_fo
    by_cases ci : p_n g p ≤ i
    · rw [if_pos ci, if_pos (show (i : Int) = (M 115 q).toInt by omega)]
      exact ⟨ha, trivial⟩
    · rw [if_neg ci, if_neg (show ¬ (i : Int) = (M 115 q).toInt by omega)]
      have hi' : i < p_n g p := by omega
      have hk := h_keep hp hi' pa
      by_cases ck : p_keep g p i a
      · rw [if_pos ck, if_pos (hk.mp ck)]
        have hnone : m_fol (fun r => m_fo M q f' r (m_nxt M q i)) M q t.toInt.toNat i (M 105 t.toInt.toNat).toInt.toNat 0 = [] := by
          rw [s1]
          rcases hk.mp ck with ⟨-, c2⟩ | ⟨c1, -⟩ | ⟨c1, -, -⟩
          · rw [s6 c2]; rfl
          · exact m_fol_none (fun j hm => by unfold m_part at hm; omega) _ _
          · exact m_fol_none (fun j hm => by unfold m_part at hm; omega) _ _
        rw [hnone, List.append_nil]
        exact h_fo h hT hp f f' a (i + 1) t ha (by omega) (by omega) (by omega)
      · rw [if_neg ck, if_neg (fun e => ck (hk.mpr e)), List.nil_append, s1, ← h_nx hp hi']
        refine h_fol hp hi' pa (fun j hj => ?_) _ 0 (Nat.zero_add _)
        have hh := s7 j hj
        have hx1 : i ≤ p_nx g p i ∧ p_nx g p i ≤ p_n g p := by unfold p_nx; split <;> omega
        exact h_fo h hT hp f f' _ _ _ (pa.2.2.2.2.2 j hj).2 hx1.2 (by omega) (by omega)
/-- the foci, as both find them -/
theorem h_fs (h : h_ok F T g M n) (hT : m_T M n) {pq : Int32} (hp : h_pt g M 113 114 115 p pq.toInt.toNat) {a : Nat} {t : Int32} (ha : F a t) : h_ls F (c_fs41 g p a) (m_fs M pq t) := by
  have hr := h.row hT ha
  have h8 := hp.2.1
  have hl := h_fo h hT hp 41 21 a 0 t ha (by omega) (by omega) (by omega)
  have hb := h.b ha
  have h2 := m_fo_len hT.tb (p := pq.toInt.toNat) 21 t 0 hb.1 hb.2
  have h3 := hl.len
  unfold c_fs41 m_fs
  rw [List.take_of_length_le (by omega)]
  exact hl
end
