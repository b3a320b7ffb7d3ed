/-! ===== both objects: the best by an order (own text) ===== -/
theorem b_lvl {ka kb kc Xab Xbc Xac : Int} (X : Xab ≤ 0 → Xbc ≤ 0 → Xac ≤ 0) (h1 : (if ka = kb then Xab else if ka < kb then -1 else 1) ≤ 0) (h2 : (if kb = kc then Xbc else if kb < kc then -1 else 1) ≤ 0) : (if ka = kc then Xac else if ka < kc then -1 else 1) ≤ 0 := by
  have i1 : (ka = kb ∧ Xab ≤ 0) ∨ ka < kb := by
    by_cases e : ka = kb
    · rw [if_pos e] at h1
      exact Or.inl ⟨e, h1⟩
    · rw [if_neg e] at h1
      by_cases q : ka < kb
      · exact Or.inr q
      · rw [if_neg q] at h1
        omega
  have i2 : (kb = kc ∧ Xbc ≤ 0) ∨ kb < kc := by
    by_cases e : kb = kc
    · rw [if_pos e] at h2
      exact Or.inl ⟨e, h2⟩
    · rw [if_neg e] at h2
      by_cases q : kb < kc
      · exact Or.inr q
      · rw [if_neg q] at h2
        omega
  by_cases e : ka = kc
  · rw [if_pos e]
    exact X (by omega) (by omega)
  · rw [if_neg e, if_pos (by omega)]
    omega
theorem b_two {Gab Gbc Gac Lab Lbc Lac : Int} (g1 : Gab ≤ 0 → Gbc ≤ 0 → Gac ≤ 0) (g2 : Gab < 0 → Gbc ≤ 0 → Gac < 0) (g3 : Gab ≤ 0 → Gbc < 0 → Gac < 0) (g4 : Gab = 0 → Gbc = 0 → Gac = 0) (L : Lab ≤ 0 → Lbc ≤ 0 → Lac ≤ 0) (h1 : (if Gab = 0 then Lab else Gab) ≤ 0) (h2 : (if Gbc = 0 then Lbc else Gbc) ≤ 0) : (if Gac = 0 then Lac else Gac) ≤ 0 := by
  by_cases z1 : Gab = 0
  · rw [if_pos z1] at h1
    by_cases z2 : Gbc = 0
    · rw [if_pos z2] at h2
      rw [if_pos (g4 z1 z2)]
      exact L h1 h2
    · rw [if_neg z2] at h2
      have := g3 (by omega) (by omega)
      rw [if_neg (by omega)]
      omega
  · rw [if_neg z1] at h1
    have hb : Gbc ≤ 0 := by
      by_cases z2 : Gbc = 0
      · omega
      · rw [if_neg z2] at h2
        exact h2
    have := g2 (by omega) hb
    rw [if_neg (by omega)]
    omega
/-- an order's transitivity, from that of what is in the things -/
def b_tr (n : Int) (G : Int32 → Int32 → Int) : Prop := ∀ x y z : Int32, (0 ≤ x.toInt ∧ x.toInt < n) → (0 ≤ y.toInt ∧ y.toInt < n) → (0 ≤ z.toInt ∧ z.toInt < n) → G x y ≤ 0 → G y z ≤ 0 → G x z ≤ 0
theorem b_tr4 {n : Int} {G : Int32 → Int32 → Int} (h : b_tr n G) (ha : ∀ x y, G x y = - G y x) {x y z : Int32} (hx : 0 ≤ x.toInt ∧ x.toInt < n) (hy : 0 ≤ y.toInt ∧ y.toInt < n) (hz : 0 ≤ z.toInt ∧ z.toInt < n) : (G x y ≤ 0 → G y z ≤ 0 → G x z ≤ 0) ∧ (G x y < 0 → G y z ≤ 0 → G x z < 0) ∧ (G x y ≤ 0 → G y z < 0 → G x z < 0) ∧ (G x y = 0 → G y z = 0 → G x z = 0) := by
  have a1 := ha x y
  have a2 := ha y z
  have a3 := ha x z
  have t1 := h x y z hx hy hz
  have t2 := h y z x hy hz hx
  have t3 := h z x y hz hx hy
  have t4 := h z y x hz hy hx
  refine ⟨t1, fun p q => ?_, fun p q => ?_, fun p q => ?_⟩
  · by_cases e : G x z < 0
    · exact e
    · have := t2 q (by omega)
      omega
  · by_cases e : G x z < 0
    · exact e
    · have := t3 (by omega) p
      omega
  · have := t1 (by omega) (by omega)
    have := t4 (by omega) (by omega)
    omega
theorem b_lex {n : Int} {G : Int32 → Int32 → Int} {M : wd_I} {a b c sa sb sc : Nat} (hG : b_tr n G) (hA : ∀ x y, G x y = - G y x) (ea : (M 105 a).toInt = (sa : Int)) (eb : (M 105 b).toInt = (sb : Int)) (ec : (M 105 c).toInt = (sc : Int)) (pa : ∀ j, j < sa → 0 ≤ (M 108 (12 * a + j)).toInt ∧ (M 108 (12 * a + j)).toInt < n) (pb : ∀ j, j < sb → 0 ≤ (M 108 (12 * b + j)).toInt ∧ (M 108 (12 * b + j)).toInt < n) (pc : ∀ j, j < sc → 0 ≤ (M 108 (12 * c + j)).toInt ∧ (M 108 (12 * c + j)).toInt < n) (h12 : sa ≤ 12) : ∀ r j, j + r = 13 → j ≤ sa → j ≤ sb → j ≤ sc → m_lex G M a b (min sa sb - j) j ≤ 0 → m_lex G M b c (min sb sc - j) j ≤ 0 → m_lex G M a c (min sa sc - j) j ≤ 0
  | 0, j, hj, h1, _, _, _, _ => by omega
  | r + 1, j, hj, h1, h2, h3, q1, q2 => by
    by_cases ja : j = sa
    · rw [show min sa sc - j = 0 by omega]
      unfold m_lex
      rw [ea, ec]
      by_cases e : (sa : Int) < (sc : Int)
      · rw [if_pos e]; omega
      · rw [if_neg e, if_neg (by omega)]; omega
    · by_cases jb : j = sb
      · rw [show min sa sb - j = 0 by omega] at q1
        unfold m_lex at q1
        rw [ea, eb, if_neg (by omega), if_pos (by omega)] at q1
        omega
      · by_cases jc : j = sc
        · rw [show min sb sc - j = 0 by omega] at q2
          unfold m_lex at q2
          rw [eb, ec, if_neg (by omega), if_pos (by omega)] at q2
          omega
        · have ih := b_lex hG hA ea eb ec pa pb pc h12 r (j + 1) (by omega) (by omega) (by omega) (by omega)
          obtain ⟨g1, g2, g3, g4⟩ := b_tr4 hG hA (pa j (by omega)) (pb j (by omega)) (pc j (by omega))
          rw [show min sa sb - j = (min sa sb - (j + 1)) + 1 by omega] at q1
          rw [show min sb sc - j = (min sb sc - (j + 1)) + 1 by omega] at q2
          rw [show min sa sc - j = (min sa sc - (j + 1)) + 1 by omega]
          unfold m_lex at q1 q2 ⊢
          exact b_lvl (b_two g1 g2 g3 g4 ih) q1 q2
theorem b_cmp {M : wd_I} {n : Int} (hT : m_T M n) : ∀ f, b_tr n (m_cmp M f)
  | 0 => fun x y z _ _ _ _ _ => Int.le_refl _
  | f + 1 => fun x y z hx hy hz q1 q2 => by
    have hG := b_cmp hT f
    obtain ⟨sa, a1, a2, a3, a4, a5, a6, -⟩ := m_T_row hT (t := x.toInt.toNat) (by omega)
    obtain ⟨sb, b1, b2, b3, b4, b5, b6, -⟩ := m_T_row hT (t := y.toInt.toNat) (by omega)
    obtain ⟨sc, c1, c2, c3, c4, c5, c6, -⟩ := m_T_row hT (t := z.toInt.toNat) (by omega)
    by_cases exy : x.toInt = y.toInt
    · have := Int32.toInt_inj.mp exy
      subst this
      exact q2
    · by_cases eyz : y.toInt = z.toInt
      · have := Int32.toInt_inj.mp eyz
        subst this
        exact q1
      · by_cases exz : x.toInt = z.toInt
        · unfold m_cmp
          rw [if_pos exz]
          omega
        · have hl := b_lex hG (fun x y => o_an f x y) a1 b1 c1 (fun j hj => ⟨(a6 j hj).1, (a6 j hj).2.1⟩) (fun j hj => ⟨(b6 j hj).1, (b6 j hj).2.1⟩) (fun j hj => ⟨(c6 j hj).1, (c6 j hj).2.1⟩) a2 13 0 rfl (Nat.zero_le _) (Nat.zero_le _) (Nat.zero_le _)
          unfold m_cmp at q1 q2 ⊢
          rw [if_neg exy, a1, b1, Int.toNat_natCast, Int.toNat_natCast] at q1
          rw [if_neg eyz, b1, c1, Int.toNat_natCast, Int.toNat_natCast] at q2
          rw [if_neg exz, a1, c1, Int.toNat_natCast, Int.toNat_natCast]
          exact b_lvl (fun p1 p2 => b_lvl hl p1 p2) q1 q2
/-- the orders of best -/
theorem b_ob_an {M : wd_I} {o : Int} (a b : Int32) : m_ob M o a b = - m_ob M o b a := by
  have h := o_an (M := M) 13 a b
  unfold m_ob
  by_cases e1 : o = 2 ∧ ¬ (M 107 a.toInt.toNat).toInt = (M 107 b.toInt.toNat).toInt
  · have e1' : o = 2 ∧ ¬ (M 107 b.toInt.toNat).toInt = (M 107 a.toInt.toNat).toInt := ⟨e1.1, fun q => e1.2 q.symm⟩
    rw [if_pos e1, if_pos e1']
    by_cases e : (M 107 b.toInt.toNat).toInt < (M 107 a.toInt.toNat).toInt
    · rw [if_pos e, if_neg (by omega)]
    · rw [if_neg e, if_pos (by omega)]; omega
  · have e1' : ¬ (o = 2 ∧ ¬ (M 107 b.toInt.toNat).toInt = (M 107 a.toInt.toNat).toInt) := fun q => e1 ⟨q.1, fun p => q.2 p.symm⟩
    rw [if_neg e1, if_neg e1']
    by_cases e2 : 0 < o ∧ ¬ (M 106 a.toInt.toNat).toInt = (M 106 b.toInt.toNat).toInt
    · have e2' : 0 < o ∧ ¬ (M 106 b.toInt.toNat).toInt = (M 106 a.toInt.toNat).toInt := ⟨e2.1, fun q => e2.2 q.symm⟩
      rw [if_pos e2, if_pos e2']
      by_cases e : (M 106 a.toInt.toNat).toInt < (M 106 b.toInt.toNat).toInt
      · rw [if_pos e, if_neg (by omega)]
      · rw [if_neg e, if_pos (by omega)]; omega
    · have e2' : ¬ (0 < o ∧ ¬ (M 106 b.toInt.toNat).toInt = (M 106 a.toInt.toNat).toInt) := fun q => e2 ⟨q.1, fun p => q.2 p.symm⟩
      rw [if_neg e2, if_neg e2']
      by_cases e3 : o = 2
      · rw [if_pos e3, if_pos e3]; rfl
      · rw [if_neg e3, if_neg e3]
        exact h
theorem b_ob {M : wd_I} {n : Int} (hT : m_T M n) {o : Int} : b_tr n (m_ob M o) := fun x y z hx hy hz q1 q2 => by
  have hc := b_cmp hT 13 x y z hx hy hz
  -- as rows of numbers: height the other way round, nodes, then as ordered
  have key : ∀ a b : Int32, m_ob M o a b ≤ 0 ↔ ((o = 2 ∧ (M 107 b.toInt.toNat).toInt < (M 107 a.toInt.toNat).toInt) ∨ ((o = 2 → (M 107 a.toInt.toNat).toInt = (M 107 b.toInt.toNat).toInt) ∧ ((0 < o ∧ (M 106 a.toInt.toNat).toInt < (M 106 b.toInt.toNat).toInt) ∨ ((0 < o → (M 106 a.toInt.toNat).toInt = (M 106 b.toInt.toNat).toInt) ∧ (o = 2 ∨ m_cmp M 13 a b ≤ 0))))) := fun a b => by
    unfold m_ob
    by_cases e1 : o = 2 ∧ ¬ (M 107 a.toInt.toNat).toInt = (M 107 b.toInt.toNat).toInt
    · rw [if_pos e1]
      by_cases e : (M 107 b.toInt.toNat).toInt < (M 107 a.toInt.toNat).toInt
      · rw [if_pos e]; omega
      · rw [if_neg e]; omega
    · rw [if_neg e1]
      by_cases e2 : 0 < o ∧ ¬ (M 106 a.toInt.toNat).toInt = (M 106 b.toInt.toNat).toInt
      · rw [if_pos e2]
        by_cases e : (M 106 a.toInt.toNat).toInt < (M 106 b.toInt.toNat).toInt
        · rw [if_pos e]; omega
        · rw [if_neg e]; omega
      · rw [if_neg e2]
        by_cases e3 : o = 2
        · rw [if_pos e3]; omega
        · rw [if_neg e3]; omega
  rw [key] at q1 q2 ⊢
  omega
/-! sorted by insertion, from the last place on -/
noncomputable def b_in (D : Nat → Nat → Int) (i : Nat) : List Nat → List Nat
  | [] => [i]
  | a :: A => if D i a < 0 then a :: b_in D i A else i :: a :: A
noncomputable def b_A (D : Nat → Nat → Int) : Nat → List Nat
  | 0 => []
  | i + 1 => b_in D i (b_A D i)
def b_R (D : Nat → Nat → Int) (x y : Nat) : Prop := D x y < 0 ∨ (D x y = 0 ∧ x < y)
theorem b_mem : ∀ (A : List Nat) (k : Nat), k < A.length → A.getD k 0 ∈ A
  | [], k, h => absurd h (Nat.not_lt_zero _)
  | a :: A, 0, _ => List.mem_cons_self
  | a :: A, k + 1, h => List.mem_cons_of_mem _ (b_mem A k (Nat.lt_of_succ_lt_succ h))
theorem b_ex {y : Nat} : ∀ A : List Nat, y ∈ A → ∃ k, k < A.length ∧ A.getD k 0 = y
  | [], h => absurd h (by simp)
  | a :: A, h => by
    rcases List.mem_cons.mp h with e | e
    · exact ⟨0, Nat.succ_pos _, e.symm⟩
    · obtain ⟨k, hk, ek⟩ := b_ex A e
      exact ⟨k + 1, Nat.succ_lt_succ hk, ek⟩
/-- each is behind all that come later in the row -/
def b_so (D : Nat → Nat → Int) : List Nat → Prop
  | [] => True
  | a :: A => (∀ y, y ∈ A → b_R D y a) ∧ b_so D A
noncomputable def b_ct (D : Nat → Nat → Int) (x : Nat) : List Nat → Nat
  | [] => 0
  | a :: A => @ite Nat (b_R D a x) (Classical.propDecidable _) (b_ct D x A + 1) (b_ct D x A)
section
variable {D : Nat → Nat → Int} {i x n : Nat}
theorem b_in_mem {y : Nat} : ∀ A : List Nat, y ∈ b_in D i A ↔ (y = i ∨ y ∈ A)
  | [] => by unfold b_in; simp
  | a :: A => by
    have ih := b_in_mem (y := y) A
    unfold b_in
    split
    · rw [List.mem_cons, List.mem_cons, ih]
      constructor
      · rintro (h | h | h)
        · exact Or.inr (Or.inl h)
        · exact Or.inl h
        · exact Or.inr (Or.inr h)
      · rintro (h | h | h)
        · exact Or.inr (Or.inl h)
        · exact Or.inl h
        · exact Or.inr (Or.inr h)
    · rw [List.mem_cons]
theorem b_in_len : ∀ A : List Nat, (b_in D i A).length = A.length + 1
  | [] => rfl
  | a :: A => by
    have ih := b_in_len A
    unfold b_in
    split
    · rw [List.length_cons, List.length_cons, ih]
    · rfl
theorem b_A_mem : ∀ n y, y ∈ b_A D n ↔ y < n
  | 0, y => by
    show y ∈ [] ↔ y < 0
    simp
  | n + 1, y => by
    show y ∈ b_in D n (b_A D n) ↔ _
    rw [b_in_mem, b_A_mem n y]
    omega
theorem b_A_len : ∀ n, (b_A D n).length = n
  | 0 => rfl
  | n + 1 => by
    show (b_in D n (b_A D n)).length = n + 1
    rw [b_in_len, b_A_len n]
theorem b_in_ct : ∀ A : List Nat, b_ct D x (b_in D i A) = b_ct D x (i :: A)
  | [] => rfl
  | a :: A => by
    have ih := b_in_ct A
    unfold b_in
    split
    · show @ite Nat (b_R D a x) (Classical.propDecidable _) (b_ct D x (b_in D i A) + 1) (b_ct D x (b_in D i A)) = @ite Nat (b_R D i x) (Classical.propDecidable _) (@ite Nat (b_R D a x) (Classical.propDecidable _) (b_ct D x A + 1) (b_ct D x A) + 1) (@ite Nat (b_R D a x) (Classical.propDecidable _) (b_ct D x A + 1) (b_ct D x A))
      rw [ih]
      show @ite Nat (b_R D a x) (Classical.propDecidable _) (@ite Nat (b_R D i x) (Classical.propDecidable _) (b_ct D x A + 1) (b_ct D x A) + 1) (@ite Nat (b_R D i x) (Classical.propDecidable _) (b_ct D x A + 1) (b_ct D x A)) = _
      by_cases e1 : b_R D a x
      · by_cases e2 : b_R D i x
        · rw [if_pos e1, if_pos e2, if_pos e2, if_pos e1]
        · rw [if_pos e1, if_neg e2, if_neg e2, if_pos e1]
      · by_cases e2 : b_R D i x
        · rw [if_neg e1, if_pos e2, if_pos e2, if_neg e1]
        · rw [if_neg e1, if_neg e2, if_neg e2, if_neg e1]
    · rfl
/-- what D is, below n -/
def b_D (D : Nat → Nat → Int) (n : Nat) : Prop := (∀ x y, D x y = - D y x) ∧ ∀ x y z, x < n → y < n → z < n → D x y ≤ 0 → D y z ≤ 0 → D x z ≤ 0
theorem b_in_so (h : b_D D n) (hi : i < n) : ∀ A : List Nat, (∀ y, y ∈ A → y < i) → b_so D A → b_so D (b_in D i A)
  | [], _, _ => ⟨fun y hy => absurd hy (by simp), trivial⟩
  | a :: A, hA, hs => by
    obtain ⟨s1, s2⟩ := hs
    have ha := hA a List.mem_cons_self
    have hA' : ∀ y, y ∈ A → y < i := fun y hy => hA y (List.mem_cons_of_mem _ hy)
    unfold b_in
    split
    next hc =>
      refine ⟨fun y hy => ?_, b_in_so h hi A hA' s2⟩
      rw [b_in_mem] at hy
      rcases hy with e | e
      · rw [e]; exact Or.inl hc
      · exact s1 y e
    next hc =>
      have h1 := h.1 a i
      refine ⟨fun y hy => ?_, s1, s2⟩
      rw [List.mem_cons] at hy
      rcases hy with e | e
      · rw [e]
        unfold b_R
        omega
      · have h2 := s1 y e
        have h3 := h.2 y a i (by have := hA' y e; omega) (by omega) hi
        have h4 := hA' y e
        unfold b_R at *
        omega
theorem b_A_so (h : b_D D n) : ∀ i, i ≤ n → b_so D (b_A D i)
  | 0, _ => trivial
  | i + 1, hi => b_in_so h (by omega) _ (fun y hy => (b_A_mem i y).mp hy) (b_A_so h i (by omega))
theorem b_R_as (h : b_D D n) {x y : Nat} (hr : b_R D x y) : ¬ b_R D y x := by
  have := h.1 x y
  unfold b_R at *
  omega
theorem b_ct_all : ∀ A : List Nat, (∀ y, y ∈ A → b_R D y x) → b_ct D x A = A.length
  | [], _ => rfl
  | a :: A, hA => by
    unfold b_ct
    rw [if_pos (hA a List.mem_cons_self), b_ct_all A (fun y hy => hA y (List.mem_cons_of_mem _ hy))]
    rfl
theorem b_ct_at (h : b_D D n) : ∀ (A : List Nat) (k : Nat), b_so D A → k < A.length → b_ct D (A.getD k 0) A = A.length - 1 - k
  | [], k, _, hk => absurd hk (Nat.not_lt_zero _)
  | a :: A, 0, hs, _ => by
    show b_ct D a (a :: A) = (a :: A).length - 1 - 0
    unfold b_ct
    rw [if_neg (fun q => b_R_as h q q), b_ct_all A hs.1, List.length_cons]
    omega
  | a :: A, k + 1, hs, hk => by
    rw [List.length_cons] at hk
    have ih := b_ct_at h A k hs.2 (by omega)
    have hm : A.getD k 0 ∈ A := b_mem A k (by omega)
    show b_ct D (A.getD k 0) (a :: A) = (a :: A).length - 1 - (k + 1)
    unfold b_ct
    rw [if_neg (b_R_as h (hs.1 _ hm)), ih, List.length_cons]
    omega
end
