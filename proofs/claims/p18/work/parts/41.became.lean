/-! ===== the reference: became (own text) ===== -/
theorem m_ends_row {M : wd_I} {t : Int32} {s a : Nat} (h1 : a ≠ 106) (h2 : a ≠ 107) : m_ends M t s a = M a := by unfold m_ends; rw [wd_up_row _ _ _ h2, wd_up_row _ _ _ h1]
theorem m_adds_102 {M : wd_I} {t key p : Int32} {s : Nat} : m_adds M t key p s 102 = M 102 := by unfold m_adds; rw [wd_up_row _ _ _ (by decide), wd_up_row _ _ _ (by decide), wd_up_row _ _ _ (by decide)]
theorem m_begins_n {M : wd_I} {s v m : Int32} {j : Nat} (h : j ≠ 8) : m_begins M s v m 102 j = M 102 j := by unfold m_begins; rw [wd_up_ne _ _ (Or.inr h), wd_up_row _ _ _ (by decide), wd_up_row _ _ _ (by decide), wd_up_row _ _ _ (by decide)]
theorem m_chl_row {how : Int} {s c t a : Nat} {M : wd_I} (ha : a ≠ 108) : ∀ j, m_chl how s c t M j a = M a := by
  have hins : ∀ (q : Nat) (p : Int32) (N : wd_I), m_ins c p q N a = N a := by
    intro q p
    induction q with
    | zero => intro N; exact wd_up_row _ _ _ ha
    | succ q ih =>
      intro N
      unfold m_ins
      split
      · rw [ih, wd_up_row _ _ _ ha]
      · exact wd_up_row _ _ _ ha
  intro j
  induction j with
  | zero => rfl
  | succ j ih =>
    show m_ch1 how s c t (m_chl how s c t M j) j a = M a
    unfold m_ch1
    split
    · rw [wd_up_row _ _ _ ha, ih]
    · split
      · rw [wd_up_row _ _ _ ha, ih]
      · rw [hins, ih]
/-- one thing more, all other numbers the same -/
def m_s1 (M N : wd_I) : Prop := N 102 8 = ab_ii ((M 102 8).toInt + 1) ∧ ∀ j, j ≠ 8 → N 102 j = M 102 j
theorem m_number_s1 {M : wd_I} {v : Int32} : m_s1 M (m_number M v) := by
  unfold m_number
  refine ⟨?_, fun j hj => ?_⟩
  · rw [m_ends_row (by decide) (by decide), m_begins_8]
  · rw [m_ends_row (by decide) (by decide), m_begins_n hj]
theorem m_around_s1 {M : wd_I} {sort v t : Int32} : m_s1 M (m_around M sort v t) := by
  unfold m_around
  refine ⟨?_, fun j hj => ?_⟩
  · rw [m_ends_row (by decide) (by decide), m_adds_102, m_begins_8]
  · rw [m_ends_row (by decide) (by decide), m_adds_102, m_begins_n hj]
theorem m_changed_s1 {M : wd_I} {t : Int32} {s : Nat} : m_s1 M (m_changed M t s) := by
  unfold m_changed
  refine ⟨?_, fun j hj => ?_⟩
  · rw [m_ends_row (by decide) (by decide), m_chl_row (by decide), m_copyOf_8]
  · rw [m_ends_row (by decide) (by decide), m_chl_row (by decide)]
    unfold m_copyOf
    rw [m_cpl_row (by decide) (by decide), m_begins_n hj]
def m_pair (M : wd_I) (t n : Int32) : wd_I := m_ends (m_adds (m_adds (m_begins M (ab_ii 1) (ab_ii 0) (ab_ii 0)) (M 102 8) (ab_ii 0) t 0) (M 102 8) (ab_ii 0) n 1) (M 102 8) 2
theorem m_pair_s1 {M : wd_I} {t n : Int32} : m_s1 M (m_pair M t n) := by
  unfold m_pair
  refine ⟨?_, fun j hj => ?_⟩
  · rw [m_ends_row (by decide) (by decide), m_adds_102, m_adds_102, m_begins_8]
  · rw [m_ends_row (by decide) (by decide), m_adds_102, m_adds_102, m_begins_n hj]
theorem m_number_fr {n : Int} {M N : wd_I} {v : Int32} (h : m_fr n M N) (hn : n ≤ (N 102 8).toInt) : m_fr n M (m_number N v) := by
  unfold m_number
  exact m_ends_fr (m_begins_fr h hn) hn
theorem m_around_fr {n : Int} {M N : wd_I} {sort v t : Int32} (h : m_fr n M N) (h0 : 0 ≤ n) (hn : n ≤ (N 102 8).toInt) : m_fr n M (m_around N sort v t) := by
  unfold m_around
  exact m_ends_fr (m_adds_fr (m_begins_fr h hn) h0 hn) hn
theorem m_changed_fr {n : Int} {M N : wd_I} {t : Int32} {s : Nat} (h : m_fr n M N) (hn : n ≤ (N 102 8).toInt) : m_fr n M (m_changed N t s) := by
  unfold m_changed
  exact m_ends_fr (m_chl_fr (by omega) (m_copyOf_fr h hn) s) hn
theorem m_pair_fr {n : Int} {M N : wd_I} {t u : Int32} (h : m_fr n M N) (h0 : 0 ≤ n) (hn : n ≤ (N 102 8).toInt) : m_fr n M (m_pair N t u) := by
  unfold m_pair
  exact m_ends_fr (m_adds_fr (m_adds_fr (m_begins_fr h hn) h0 hn) h0 hn) hn
theorem m_mk_fr {n : Int} {M N : wd_I} (h : m_fr n M N) : m_fr n M (m_mk N) := m_fr_up h (by unfold m_wr; omega)
theorem m_nomk_fr {n : Int} {M N : wd_I} (h : m_fr n M N) : m_fr n M (m_nomk N) := m_fr_up h (by unfold m_wr; omega)
theorem m_nomk_can {M : wd_I} : ¬ m_can (m_nomk M) := by
  unfold m_can m_nomk
  rw [wd_up_self]
  intro h
  exact absurd h.1 (by decide)
theorem m_mk_8 {M : wd_I} : m_mk M 102 8 = M 102 8 := wd_up_ne _ _ (Or.inr (by decide))
theorem m_nomk_8 {M : wd_I} : m_nomk M 102 8 = M 102 8 := wd_up_ne _ _ (Or.inr (by decide))
theorem m_nomk_9 {M : wd_I} : m_nomk M 102 9 = M 102 9 := wd_up_ne _ _ (Or.inr (by decide))
theorem m_rm_nomk {M : wd_I} (h : m_rm M) : m_rm (m_nomk M) := by
  unfold m_rm at h ⊢
  rw [m_nomk_8, m_nomk_9]
  exact h
theorem m_can_lt {M : wd_I} (h : m_rm M) (hc : m_can M) : (M 102 8).toInt < 3012 ∧ (M 102 9).toInt < 3000 := by
  unfold m_rm at h
  unfold m_can at hc
  omega
theorem m_rm_s1 {M N : wd_I} (h : m_rm M) (hc : m_can M) (h1 : m_s1 (m_mk M) N) : m_rm N ∧ (N 102 8).toInt = (M 102 8).toInt + 1 := by
  obtain ⟨a1, a2⟩ := m_can_lt h hc
  obtain ⟨b1, b2⟩ := h1
  have e9 : N 102 9 = ab_ii ((M 102 9).toInt + 1) := by
    rw [b2 9 (by decide)]
    exact wd_up_self _ _ _ _
  have e8 : (N 102 8).toInt = (M 102 8).toInt + 1 := by
    rw [b1, m_mk_8, ab_tI (by have := h.1; omega) (by omega)]
  obtain ⟨c1, c2, c3⟩ := id h
  refine ⟨⟨by omega, ?_, ?_⟩, e8⟩
  · rw [e8, e9, ab_tI (by omega) (by omega)]; omega
  · rw [e9, ab_tI (by omega) (by omega)]; omega
noncomputable def m_cani {α : Type} (M : wd_I) (a b : α) : α := @ite α (m_can M) (Classical.propDecidable _) a b
theorem m_cani_t {α : Type} {M : wd_I} {a b : α} (h : m_can M) : m_cani M a b = a := if_pos h
theorem m_cani_f {α : Type} {M : wd_I} {a b : α} (h : ¬ m_can M) : m_cani M a b = b := if_neg h
noncomputable def m_numb (M : wd_I) (v : Int32) : wd_I × Int32 := m_cani M (m_number (m_mk M) v, M 102 8) (m_nomk M, ab_ii 0)
def m_val (how : Int) (w hw f : Int32) : Int32 := if how = 0 then ab_ii (w.toInt + hw.toInt) else if how = 1 then ab_ii (w.toInt * hw.toInt) else if how = 2 then ab_ii (hw.toInt - w.toInt) else ab_ii (w.toInt + f.toInt)
def m_isch (how kd : Int) : Prop := how < 7 ∨ (how = 8 ∧ kd = 1) ∨ ((how = 9 ∨ how = 10) ∧ kd = 2) ∨ (how = 11 ∧ kd = 3)
def m_ov1 (M : wd_I) : wd_I := wd_up M 102 35 (ab_ii ((M 102 35).toInt + 1))
noncomputable def m_bec (M : wd_I) (how : Int) (hw f t : Int32) (s : Nat) : wd_I × Int32 :=
  if how < 4 then (if (M 103 t.toInt.toNat).toInt = 0 then m_numb M (m_val how (M 104 t.toInt.toNat) hw f) else (M, t))
  else if how = 7 then (M, M 110 hw.toInt.toNat)
  else if how = 4 then m_cani (m_numb M hw).1 (m_pair (m_mk (m_numb M hw).1) t (m_numb M hw).2, (m_numb M hw).1 102 8) (m_nomk (m_numb M hw).1, t)
  else @ite (wd_I × Int32) (m_isch how (M 103 t.toInt.toNat).toInt) (Classical.propDecidable _) (m_cani M ((if how = 5 then m_around (m_mk M) (ab_ii 4) hw t else if how = 6 then m_around (m_mk M) (ab_ii 2) (ab_ii 0) t else m_changed (m_mk M) t s), M 102 8) (m_nomk M, t)) (M, t)
noncomputable def m_became (M : wd_I) (t : Int32) (s : Nat) : wd_I × Int32 := m_bec (m_ov1 M) (M 102 33).toInt (M 102 34) (M 102 35) t s
/-- what a step of OVER leaves: rows below n the same, room, its answer a thing -/
def m_good (n : Int) (M : wd_I) (r : wd_I × Int32) : Prop := m_fr n M r.1 ∧ m_rm r.1 ∧ (M 102 8).toInt ≤ (r.1 102 8).toInt ∧ 0 ≤ r.2.toInt ∧ (r.2.toInt < (r.1 102 8).toInt)
theorem m_good_s1 {n : Int} {M N : wd_I} (h0 : 0 ≤ n) (h : m_rm M) (hc : m_can M) (h1 : m_s1 (m_mk M) N) (hf : m_fr n M N) : m_good n M (N, M 102 8) := by
  obtain ⟨a1, a2⟩ := m_rm_s1 h hc h1
  have := h.1
  refine ⟨hf, a1, ?_, this, ?_⟩
  · show _ ≤ (N 102 8).toInt; omega
  · show (M 102 8).toInt < (N 102 8).toInt; omega
theorem m_good_no {n : Int} {M : wd_I} {t : Int32} (h : m_rm M) (ht : 0 ≤ t.toInt ∧ t.toInt < (M 102 8).toInt) : m_good n M (m_nomk M, t) :=
  ⟨m_nomk_fr m_fr.rf, m_rm_nomk h, by show _ ≤ (m_nomk M 102 8).toInt; rw [m_nomk_8]; exact Int.le_refl _, ht.1, by show _ < (m_nomk M 102 8).toInt; rw [m_nomk_8]; exact ht.2⟩
theorem m_numb_good {n : Int} {M : wd_I} {v : Int32} (h0 : 0 ≤ n) (hn : n ≤ (M 102 8).toInt) (hp : 0 < (M 102 8).toInt) (h : m_rm M) : m_good n M (m_numb M v) := by
  unfold m_numb
  by_cases hc : m_can M
  · rw [m_cani_t hc]
    exact m_good_s1 h0 h hc m_number_s1 (m_number_fr (m_mk_fr m_fr.rf) (by rw [m_mk_8]; exact hn))
  · rw [m_cani_f hc]
    exact m_good_no h ⟨by decide, by show (0 : Int) < _; exact hp⟩
theorem m_good.tr {n n' : Int} {M M' : wd_I} {x : Int32} {r : wd_I × Int32} (h : m_good n M (M', x)) (h' : m_good n' M' r) (hn : n ≤ n') : m_good n M r :=
  ⟨h.1.tr h'.1 hn, h'.2.1, Int.le_trans h.2.2.1 h'.2.2.1, h'.2.2.2⟩
theorem m_bec_good {n : Int} {M : wd_I} {how : Int} {hw f t : Int32} {s : Nat} (h0 : 0 ≤ n) (hn : n ≤ (M 102 8).toInt) (h : m_rm M) (ht0 : 0 ≤ t.toInt) (ht1 : t.toInt < n) (h7 : how = 7 → 0 ≤ (M 110 hw.toInt.toNat).toInt ∧ (M 110 hw.toInt.toNat).toInt < n) : m_good n M (m_bec M how hw f t s) := by
  have hsame : m_good n M (M, t) := ⟨m_fr.rf, h, Int.le_refl _, ht0, by show t.toInt < (M 102 8).toInt; omega⟩
  unfold m_bec
  split
  · split
    · exact m_numb_good h0 hn (by omega) h
    · exact hsame
  · split
    · rename_i _ e7
      obtain ⟨a1, a2⟩ := h7 e7
      exact ⟨m_fr.rf, h, Int.le_refl _, a1, by show (M 110 hw.toInt.toNat).toInt < (M 102 8).toInt; omega⟩
    · split
      · have hg := m_numb_good (v := hw) h0 hn (by omega) h
        have hle : (M 102 8).toInt ≤ ((m_numb M hw).1 102 8).toInt := hg.2.2.1
        by_cases hc : m_can (m_numb M hw).1
        · rw [m_cani_t hc]
          have := m_good_s1 (n := n) (N := m_pair (m_mk (m_numb M hw).1) t (m_numb M hw).2) h0 hg.2.1 hc m_pair_s1 (m_pair_fr (m_mk_fr m_fr.rf) h0 (by rw [m_mk_8]; omega))
          exact m_good.tr (x := (m_numb M hw).2) hg this (Int.le_refl _)
        · rw [m_cani_f hc]
          exact m_good.tr (x := (m_numb M hw).2) hg (m_good_no hg.2.1 ⟨ht0, show t.toInt < ((m_numb M hw).1 102 8).toInt by omega⟩) (Int.le_refl _)
      · split
        · by_cases hc : m_can M
          · rw [m_cani_t hc]
            split
            · exact m_good_s1 h0 h hc m_around_s1 (m_around_fr (m_mk_fr m_fr.rf) h0 (by rw [m_mk_8]; exact hn))
            · split
              · exact m_good_s1 h0 h hc m_around_s1 (m_around_fr (m_mk_fr m_fr.rf) h0 (by rw [m_mk_8]; exact hn))
              · exact m_good_s1 h0 h hc m_changed_s1 (m_changed_fr (m_mk_fr m_fr.rf) (by rw [m_mk_8]; exact hn))
          · rw [m_cani_f hc]
            exact m_good_no h ⟨ht0, by omega⟩
        · exact hsame
