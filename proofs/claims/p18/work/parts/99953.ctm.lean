/-! ===== both objects: rows and maps read (own text) ===== -/
theorem h_ppos {M : wd_I} {t : Nat} {key : Int32} {fk : Nat → Int32} {s : Nat} (h : ∀ j, j < s → M 109 (12 * t + j) = fk j) : ∀ r j, j + r = s → c_plc fk key r j = m_ppos M t key r j
  | 0, j, _ => rfl
  | r + 1, j, hj => by
    unfold c_plc m_ppos
    rw [h j (by omega), h_ppos h r (j + 1) (by omega)]
theorem c_plc_lt {fk : Nat → Int32} {l : Int32} : ∀ r i j, i ≤ j → j < c_plc fk l r i → (fk j).toInt < l.toInt
  | 0, i, j, hij, hj => by
    change j < i at hj
    omega
  | r + 1, i, j, hij, hj => by
    unfold c_plc at hj
    split at hj
    next hc =>
      by_cases e : i = j
      · subst e; exact hc
      · exact c_plc_lt r (i + 1) j (by omega) hj
    next hc => omega
theorem c_plc_ge {fk : Nat → Int32} {l : Int32} : ∀ r i, c_plc fk l r i < i + r → l.toInt ≤ (fk (c_plc fk l r i)).toInt
  | 0, i, h => by
    change i < i + 0 at h
    omega
  | r + 1, i, h => by
    unfold c_plc at h ⊢
    split
    next hc =>
      rw [if_pos hc] at h
      exact c_plc_ge r (i + 1) (by omega)
    next hc => omega
/-- keys in their order -/
def h_so (fk : Nat → Int32) (s : Nat) : Prop := ∀ j, j + 1 < s → (fk j).toInt < (fk (j + 1)).toInt
theorem h_so.lt {fk : Nat → Int32} {s : Nat} (h : h_so fk s) : ∀ i j, i < j → j < s → (fk i).toInt < (fk j).toInt
  | i, 0, hi, _ => absurd hi (Nat.not_lt_zero _)
  | i, j + 1, hi, hj => by
    have h1 := h j hj
    by_cases e : i = j
    · subst e; exact h1
    · have := h_so.lt h i j (by omega) (by omega)
      omega
theorem h_has {M : wd_I} {t : Nat} {key : Int32} {fk : Nat → Int32} {s : Nat} (h : ∀ j, j < s → M 109 (12 * t + j) = fk j) (hs : h_so fk s) : c_has fk s key ↔ ¬ (m_hk M t key s).toInt = 0 := by
  have hp := c_plc_le (fk := fk) (l := key) s 0
  constructor
  · rintro ⟨h1, h2⟩ q
    exact m_hk_no s q _ h1 (by rw [h _ h1]; exact h2)
  · intro q
    obtain ⟨j, hj, e⟩ := m_hk_ex s q
    rw [h j hj] at e
    have h1 : ¬ j < c_plc fk key s 0 := fun q => by have := c_plc_lt s 0 j (by omega) q; omega
    have h2 := c_plc_ge (fk := fk) (l := key) s 0 (by omega)
    have h3 : ¬ c_plc fk key s 0 < j := fun q => by have := hs.lt _ j q hj; omega
    have h4 : c_plc fk key s 0 = j := by omega
    exact ⟨by omega, by rw [h4]; exact e⟩
section
variable {F0 F : Nat → Int32 → Prop} {T0 T : Nat → Prop} {S0 S : c_St} {M0 M : wd_I} {t sort wo : Int32} {hb : Int} {s : Nat} {fk : Nat → Int32} {fp : Nat → Option Nat} {G : c_St → r_O} {G' : wd_I → wd_I × Int32}
/-- a key read -/
theorem h_nk {I : wd_I} (h : h_rd I M) (hf : (M 102 24).toInt = -1) (hk : ∀ j, j < s → M 109 (12 * t.toInt.toNat + j) = fk j) (hs : h_so fk s) : h_rd (r_nk I fk s).1 (m_e2 M t s) ∧ ((m_e2 M t s 102 24).toInt = -1 → (r_nk I fk s).2 = (m_letters M).2 ∧ ¬ c_has fk s (m_letters M).2) := by
  obtain ⟨h1, h2⟩ := h_letters h
  have hsc := m_letters_sc h.2.2.1
  have e9 : (m_letters M).1 109 = M 109 := hsc.1 109 (by decide)
  have ek : m_hk (m_letters M).1 t.toInt.toNat (m_letters M).2 s = m_hk M t.toInt.toNat (m_letters M).2 s := by
    have : ∀ s, m_hk (m_letters M).1 t.toInt.toNat (m_letters M).2 s = m_hk M t.toInt.toNat (m_letters M).2 s := by
      intro s
      induction s with
      | zero => rfl
      | succ s ih => unfold m_hk; rw [ih, e9]
    exact this s
  unfold r_nk m_e2 m_e1
  rw [ek]
  by_cases f1 : ((m_letters M).1 102 24).toInt = -1
  · have ev := h2 f1
    have hh := h_has (key := (m_letters M).2) hk hs
    rw [← ev]
    by_cases c : c_has fk s (m_letters M).2
    · rw [if_pos c, if_pos ⟨f1, hh.mp c⟩]
      have h3 := h_fail h1 (p := I 1 2) (p' := M 102 23) (fun _ => ⟨h.at hf, h.2.2.1.1⟩)
      dsimp only
      refine ⟨h_needs (b := ab_ii 58) h3 (by decide), fun q => ?_⟩
      have q2 := m_one_uf q
      unfold m_fails at q2
      rw [wd_up_self, if_pos f1] at q2
      have := h.2.2.1.1
      omega
    · rw [if_neg c, if_neg (fun q => c (hh.mpr q.2))]
      dsimp only
      exact ⟨h_needs (b := ab_ii 58) h1 (by decide), fun _ => ⟨rfl, c⟩⟩
  · have hnf : ¬ (((m_letters M).1 102 24).toInt = -1 ∧ ¬ (m_hk M t.toInt.toNat (m_letters M).2 s).toInt = 0) := fun q => f1 q.1
    rw [if_neg hnf]
    have h3 : h_rd (@ite (wd_I × Int32) (c_has fk s (t_letters I).2) (Classical.propDecidable _) (t_needs (t_fail (t_letters I).1 (I 1 2)) (ab_ii 58), (t_letters I).2) (t_needs (t_letters I).1 (ab_ii 58), (t_letters I).2)).1 (m_one (m_letters M).1 (ab_ii 58) (ab_ii 58)).1 := by
      by_cases c : c_has fk s (t_letters I).2
      · rw [if_pos c]
        have f0 : 0 ≤ ((m_letters M).1 102 24).toInt := by
          rcases h1.f0 with q | q
          · exact absurd q f1
          · exact q
        have e : t_fail (t_letters I).1 (I 1 2) = (t_letters I).1 := by
          unfold t_fail
          rw [if_neg (by rw [h1.2.2.2.1]; omega)]
        dsimp only
        rw [e]
        exact h_needs (b := ab_ii 58) h1 (by decide)
      · rw [if_neg c]
        dsimp only
        exact h_needs (b := ab_ii 58) h1 (by decide)
    exact ⟨h3, fun q => absurd (m_one_uf q) f1⟩
theorem c_ins_v {α : Type} {f : Nat → α} {n p j : Nat} {v : α} : c_ins f n p v j = @ite α (j = p) (Classical.propDecidable _) v (@ite α (p < j ∧ j ≤ n) (Classical.propDecidable _) (f (j - 1)) (f j)) := by
  unfold c_ins c_shf
  by_cases e : j = p
  · subst e
    rw [if_pos rfl, ab_up_self]
  · rw [if_neg e, ab_up_ne _ _ e]
    by_cases c : p < j ∧ j ≤ n
    · rw [if_pos c, if_pos c]
    · rw [if_neg c, if_neg c]
/-- a part put under its key -/
theorem h_at.puts (h : h_at F0 T0 S0 M0 t sort wo hb F T S M s fk fp) (h11 : s ≤ 11) {a : Nat} {u key : Int32} (ha : F a u) (hh : (M 107 u.toInt.toNat).toInt ≤ hb) (hs : h_so fk s) (hno0 : ¬ c_has fk s key) : h_at F0 T0 S0 M0 t sort wo hb F T S (m_puts M t key u s) (s + 1) (c_ins fk s (c_plc fk key s 0) key) (c_ins fp s (c_plc fk key s 0) (some a)) ∧ h_so (c_ins fk s (c_plc fk key s 0) key) (s + 1) := by
  have hnt := h.nt
  obtain ⟨⟨a1, a2, a3, a4, a5⟩, b, c, ⟨d1, d2⟩, e, f, i, k1, k2⟩ := h
  have hu := f.in ha
  have hl := m_rp_lt (b.1.rp a1)
  have e2 : m_puts M t key u s 102 = M 102 := m_puts_102
  have hky : ∀ j, j < s → M 109 (12 * t.toInt.toNat + j) = fk j := fun j hj => by
    obtain ⟨b', b1, b2, b3, b4⟩ := i.2 j hj
    exact b3
  have hno : (m_hk M t.toInt.toNat key s).toInt = 0 := by
    by_cases q : (m_hk M t.toInt.toNat key s).toInt = 0
    · exact q
    · exact absurd ((h_has hky hs).mpr q) hno0
  have epk : m_pk M t key s = c_plc fk key s 0 := (h_ppos hky s 0 (Nat.zero_add _)).symm
  have hle := c_plc_le (fk := fk) (l := key) s 0
  obtain ⟨hpn, hsort⟩ := m_puts_sorted (M := M) (t := t) (key := key) (p := u) (s := s) (fun j hj => by rw [hky j (by omega), hky (j + 1) hj]; exact hs j hj) (fun j hj => m_hk_no s hno j hj)
  have er : ∀ x, x ≠ 105 → x ≠ 108 → x ≠ 109 → m_puts M t key u s x = M x := fun x q1 q2 q3 => by
    unfold m_puts m_puts1
    rw [wd_up_row _ _ _ q3, wd_up_row _ _ _ q2]
    split
    · rw [wd_up_row _ _ _ q1, m_psh_row q2 q3]
    · rfl
  have e5 : m_puts M t key u s 105 t.toInt.toNat = ab_ii ((s : Int) + 1) := by rw [m_puts_5, if_pos hpn]
  have e8 : ∀ j, m_puts M t key u s 108 (12 * t.toInt.toNat + j) = @ite Int32 (j = c_plc fk key s 0) (Classical.propDecidable _) u (@ite Int32 (c_plc fk key s 0 < j ∧ j ≤ s) (Classical.propDecidable _) (M 108 (12 * t.toInt.toNat + (j - 1))) (M 108 (12 * t.toInt.toNat + j))) := fun j => by
    rw [m_puts_8, epk]
    by_cases q : j = c_plc fk key s 0
    · rw [if_pos q, if_pos q]
    · rw [if_neg q, if_neg q]
      by_cases q2 : c_plc fk key s 0 < j ∧ j ≤ s
      · rw [if_pos ⟨hpn, q2⟩, if_pos q2]
      · rw [if_neg (fun q => q2 q.2), if_neg q2]
  have e9 : ∀ j, m_puts M t key u s 109 (12 * t.toInt.toNat + j) = @ite Int32 (j = c_plc fk key s 0) (Classical.propDecidable _) key (@ite Int32 (c_plc fk key s 0 < j ∧ j ≤ s) (Classical.propDecidable _) (M 109 (12 * t.toInt.toNat + (j - 1))) (M 109 (12 * t.toInt.toNat + j))) := fun j => by
    rw [m_puts_9, epk]
    by_cases q : j = c_plc fk key s 0
    · rw [if_pos q, if_pos q]
    · rw [if_neg q, if_neg q]
      by_cases q2 : c_plc fk key s 0 < j ∧ j ≤ s
      · rw [if_pos ⟨hpn, q2⟩, if_pos q2]
      · rw [if_neg (fun q => q2 q.2), if_neg q2]
  have h9 : ∀ j, j < s + 1 → m_puts M t key u s 109 (12 * t.toInt.toNat + j) = c_ins fk s (c_plc fk key s 0) key j := fun j hj => by
    rw [e9, c_ins_v]
    by_cases q : j = c_plc fk key s 0
    · rw [if_pos q, if_pos q]
    · rw [if_neg q, if_neg q]
      by_cases q2 : c_plc fk key s 0 < j ∧ j ≤ s
      · rw [if_pos q2, if_pos q2]; exact hky _ (by omega)
      · rw [if_neg q2, if_neg q2]; exact hky _ (by omega)
  obtain ⟨s', p1, p2, p3⟩ := m_pd_puts (key := key) (p := u) b a3 (by have := a1.2.1; omega) a2 a4 ⟨hu.2.1, by omega⟩
  have hs' : s' = s + 1 := by
    have := p1.2.2.1
    rw [e5, ab_tI (by omega) (by omega)] at this
    omega
  subst hs'
  have hra : ∀ b v, F b v → m_ra M (m_puts M t key u s) v.toInt.toNat := fun b v q => m_puts_ra h11 (by have := hnt b v q; have := (f.in q).2.1; omega)
  refine ⟨⟨⟨a1, a2, a3, by omega, a5⟩, p1, c, ⟨d1.cg (fun j _ => by rw [e2]) (er 120 (by decide) (by decide) (by decide)), by rw [e2]; exact d2⟩, e, f.mv (fun _ q => q) (fun _ _ => h_sm.rf) hra (by rw [e2]; exact Int.le_refl _), ⟨by rw [e5, ab_tI (by omega) (by omega)]; omega, fun j hj => ?_⟩, by rw [er 103 (by decide) (by decide) (by decide)]; exact k1, by rw [er 104 (by decide) (by decide) (by decide)]; exact k2⟩, fun j hj => by rw [← h9 j (by omega), ← h9 (j + 1) hj]; exact hsort j hj⟩
  have h7 : ∀ v : Int32, m_puts M t key u s 107 v.toInt.toNat = M 107 v.toInt.toNat := fun v => by rw [er 107 (by decide) (by decide) (by decide)]
  have h10 := h9 j hj
  rw [c_ins_v (f := fp), h7]
  rw [e8]
  by_cases q : j = c_plc fk key s 0
  · rw [if_pos q, if_pos q]
    exact ⟨a, rfl, ha, h10, hh⟩
  · rw [if_neg q, if_neg q]
    by_cases q2 : c_plc fk key s 0 < j ∧ j ≤ s
    · rw [if_pos q2, if_pos q2]
      obtain ⟨b', b1, b2, b3, b4⟩ := i.2 (j - 1) (by omega)
      exact ⟨b', b1, b2, h10, b4⟩
    · rw [if_neg q2, if_neg q2]
      obtain ⟨b', b1, b2, b3, b4⟩ := i.2 j (by omega)
      exact ⟨b', b1, b2, h10, b4⟩
end
