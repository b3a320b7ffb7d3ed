/-! ===== the table: what holds of its rows (own text) ===== -/
def m_nds (M : wd_I) (t : Nat) : Nat → Int
  | 0 => 1
  | j + 1 => m_nds M t j + (M 106 (M 108 (12 * t + j)).toInt.toNat).toInt
/-- rows below n may be walked, and their nodes are counted -/
def m_tb (M : wd_I) (n : Int) : Prop := m_cl M n ∧ ∀ t : Nat, (t : Int) < n → 1 ≤ (M 106 t).toInt ∧ (M 106 t).toInt ≤ 200 ∧ (M 106 t).toInt = m_nds M t (M 105 t).toInt.toNat ∧ ((M 103 t).toInt = 0 → (M 105 t).toInt = 0)
/-- the rows of the table and the paths are the same -/
def m_same (M M' : wd_I) : Prop := ∀ a, 103 ≤ a → a ≤ 109 → M' a = M a
def m_samp (M M' : wd_I) : Prop := ∀ a, 113 ≤ a → a ≤ 115 → M' a = M a
theorem m_same.sy {M M' : wd_I} (h : m_same M M') : m_same M' M := fun a h1 h2 => (h a h1 h2).symm
theorem m_samp.sy {M M' : wd_I} (h : m_samp M M') : m_samp M' M := fun a h1 h2 => (h a h1 h2).symm
theorem m_same.tr {M M' M'' : wd_I} (h : m_same M M') (h' : m_same M' M'') : m_same M M'' := fun a h1 h2 => (h' a h1 h2).trans (h a h1 h2)
theorem m_samp.tr {M M' M'' : wd_I} (h : m_samp M M') (h' : m_samp M' M'') : m_samp M M'' := fun a h1 h2 => (h' a h1 h2).trans (h a h1 h2)
theorem m_row_c {M M' : wd_I} (h : m_same M M') {n : Int} {t : Nat} (hr : m_row M n t) : m_row M' n t := by
  unfold m_row at hr ⊢
  rw [h 105 (by decide) (by decide), h 103 (by decide) (by decide), h 107 (by decide) (by decide), h 108 (by decide) (by decide)]
  exact hr
theorem m_cl_c {M M' : wd_I} (h : m_same M M') {n : Int} (hr : m_cl M n) : m_cl M' n := ⟨hr.1, fun t ht => m_row_c h (hr.2 t ht)⟩
theorem m_nds_c {M M' : wd_I} (h : m_same M M') {t : Nat} : ∀ j, m_nds M' t j = m_nds M t j
  | 0 => rfl
  | j + 1 => by
    unfold m_nds
    rw [m_nds_c h j, h 106 (by decide) (by decide), h 108 (by decide) (by decide)]
theorem m_tb_c {M M' : wd_I} (h : m_same M M') {n : Int} (hr : m_tb M n) : m_tb M' n := ⟨m_cl_c h hr.1, fun t ht => by
  rw [m_nds_c h, h 106 (by decide) (by decide), h 105 (by decide) (by decide), h 103 (by decide) (by decide)]
  exact hr.2 t ht⟩
theorem m_ph_c {M M' : wd_I} (h : m_samp M M') {p : Int32} (hr : m_ph M p) : m_ph M' p := by
  unfold m_ph at hr ⊢
  rw [h 115 (by decide) (by decide)]
  exact hr
theorem m_self_c {M M' : wd_I} (h : m_same M M') (h2 : m_samp M M') {p t i : Nat} : m_self M' p t i ↔ m_self M p t i := by
  unfold m_self
  rw [h2 113 (by decide) (by decide), h2 114 (by decide) (by decide), h 103 (by decide) (by decide), h 104 (by decide) (by decide), h 106 (by decide) (by decide)]
theorem m_part_c {M M' : wd_I} (h : m_same M M') (h2 : m_samp M M') {p t i j : Nat} : m_part M' p t i j ↔ m_part M p t i j := by
  unfold m_part
  rw [h2 113 (by decide) (by decide), h2 114 (by decide) (by decide), h 103 (by decide) (by decide), h 104 (by decide) (by decide), h 109 (by decide) (by decide)]
theorem m_nxt_c {M M' : wd_I} (h2 : m_samp M M') {p i : Nat} : m_nxt M' p i = m_nxt M p i := by
  unfold m_nxt
  rw [h2 113 (by decide) (by decide)]
theorem m_ite_c {α : Type} {c c' : Prop} {i : Decidable c} {i' : Decidable c'} {a b : α} (h : c ↔ c') : @ite α c i a b = @ite α c' i' a b := by
  by_cases hc : c
  · rw [if_pos hc, if_pos (h.mp hc)]
  · rw [if_neg hc, if_neg (fun q => hc (h.mpr q))]
theorem m_fol_c {M M' : wd_I} (h : m_same M M') (h2 : m_samp M M') {F F' : Int32 → List Int32} (hF : ∀ q, F' q = F q) {p t i : Nat} : ∀ n j, m_fol F' M' p t i n j = m_fol F M p t i n j
  | 0, _ => rfl
  | n + 1, j => by
    unfold m_fol
    rw [m_fol_c h h2 hF n (j + 1), hF, h 108 (by decide) (by decide)]
    exact congrArg (· ++ _) (m_ite_c (m_part_c h h2))
theorem m_fo_c {M M' : wd_I} (h : m_same M M') (h2 : m_samp M M') {p : Nat} : ∀ f t i, m_fo M' p f t i = m_fo M p f t i
  | 0, _, _ => rfl
  | f + 1, t, i => by
    unfold m_fo
    rw [m_fol_c h h2 (F := fun q => m_fo M p f q (m_nxt M p i)) (fun q => by rw [m_nxt_c h2, m_fo_c h h2 f]), m_fo_c h h2 f, h2 115 (by decide) (by decide), h 105 (by decide) (by decide)]
    rw [m_ite_c (m_self_c h h2)]
theorem m_lex_c {M M' : wd_I} (h : m_same M M') {F F' : Int32 → Int32 → Int} (hF : ∀ q r, F' q r = F q r) {a b : Nat} : ∀ n k, m_lex F' M' a b n k = m_lex F M a b n k
  | 0, _ => by unfold m_lex; rw [h 105 (by decide) (by decide)]
  | n + 1, k => by
    unfold m_lex
    rw [m_lex_c h hF n (k + 1), hF, h 108 (by decide) (by decide), h 109 (by decide) (by decide)]
theorem m_cmp_c {M M' : wd_I} (h : m_same M M') : ∀ f a b, m_cmp M' f a b = m_cmp M f a b
  | 0, _, _ => rfl
  | f + 1, a, b => by
    unfold m_cmp
    rw [m_lex_c h (m_cmp_c h f), h 103 (by decide) (by decide), h 104 (by decide) (by decide), h 105 (by decide) (by decide)]
/-- foci of one path are no more than nodes -/
theorem m_fol_none {F : Int32 → List Int32} {M : wd_I} {p t i : Nat} (h : ∀ j, ¬ m_part M p t i j) : ∀ n j, m_fol F M p t i n j = []
  | 0, _ => rfl
  | n + 1, j => by
    unfold m_fol
    rw [if_neg (h j), m_fol_none h n (j + 1)]
    rfl
theorem m_fol_len {F : Int32 → List Int32} {M : wd_I} {p t i s : Nat} (hF : ∀ j, j < s → ((F (M 108 (12 * t + j))).length : Int) ≤ (M 106 (M 108 (12 * t + j)).toInt.toNat).toInt) (h0 : ∀ j, j < s → 0 ≤ (M 106 (M 108 (12 * t + j)).toInt.toNat).toInt) : ∀ n j, j + n = s → ((m_fol F M p t i n j).length : Int) + m_nds M t j ≤ m_nds M t s
  | 0, j, hj => by
    have e : j = s := by omega
    subst e
    show ((0 : Nat) : Int) + _ ≤ _
    omega
  | n + 1, j, hj => by
    have ih := m_fol_len hF h0 n (j + 1) (by omega) (F := F) (p := p) (i := i)
    have h1 := hF j (by omega)
    have h2 := h0 j (by omega)
    have e2 : m_nds M t (j + 1) = m_nds M t j + (M 106 (M 108 (12 * t + j)).toInt.toNat).toInt := rfl
    rw [e2] at ih
    unfold m_fol
    rw [List.length_append]
    by_cases hc : m_part M p t i j
    · rw [if_pos hc]; omega
    · rw [if_neg hc, List.length_nil]; omega
theorem m_fo_len {M : wd_I} {n : Int} (h : m_tb M n) {p : Nat} : ∀ f (t : Int32) i, 0 ≤ t.toInt → t.toInt < n → ((m_fo M p f t i).length : Int) ≤ (M 106 t.toInt.toNat).toInt
  | 0, t, i, h0, h1 => by
    have := (h.2 t.toInt.toNat (by omega)).1
    show ((0 : Nat) : Int) ≤ _
    omega
  | f + 1, t, i, h0, h1 => by
    obtain ⟨a1, a2, a3, a4⟩ := h.2 t.toInt.toNat (by omega)
    obtain ⟨s, hs, b2, b3, b4, b5⟩ := h.1.2 t.toInt.toNat (by omega)
    rw [hs, Int.toNat_natCast] at a3
    unfold m_fo
    split
    · show ((1 : Nat) : Int) ≤ _
      omega
    · have ih := m_fo_len h (p := p) f
      by_cases hse : m_self M p t.toInt.toNat i
      · have e : m_fol (fun q => m_fo M p f q (m_nxt M p i)) M p t.toInt.toNat i (M 105 t.toInt.toNat).toInt.toNat 0 = [] := by
          rcases hse with ⟨_, q⟩ | ⟨q, _⟩ | ⟨q, _⟩
          · rw [a4 q]; rfl
          · exact m_fol_none (fun j hc => by unfold m_part at hc; omega) _ _
          · exact m_fol_none (fun j hc => by unfold m_part at hc; omega) _ _
        rw [e, if_pos hse, List.append_nil]
        exact ih t (i + 1) h0 h1
      · rw [if_neg hse, List.nil_append, hs, Int.toNat_natCast]
        have hl := m_fol_len (F := fun q => m_fo M p f q (m_nxt M p i)) (M := M) (p := p) (t := t.toInt.toNat) (i := i) (s := s) (fun j hj => ih _ _ (b5 j hj).1 (b5 j hj).2.1) (fun j hj => by have := (h.2 (M 108 (12 * t.toInt.toNat + j)).toInt.toNat (by have := b5 j hj; omega)).1; omega) s 0 (by omega)
        have e1 : m_nds M t.toInt.toNat 0 = 1 := rfl
        omega
