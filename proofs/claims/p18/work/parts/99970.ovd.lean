/-! ===== OVER on both sides: what is put in another order (own text) ===== -/
theorem o_lex_an {G : Int32 → Int32 → Int} {M : wd_I} {a b : Nat} (hG : ∀ x y, G x y = - G y x) : ∀ n k, m_lex G M a b n k = - m_lex G M b a n k
  | 0, k => by
    unfold m_lex
    by_cases h1 : (M 105 a).toInt < (M 105 b).toInt
    · rw [if_pos h1, if_neg (by omega), if_pos h1]
    · rw [if_neg h1]
      by_cases h2 : (M 105 b).toInt < (M 105 a).toInt
      · rw [if_pos h2, if_pos h2]; omega
      · rw [if_neg h2, if_neg h2, if_neg h1]; omega
  | n + 1, k => by
    have ih := o_lex_an (M := M) (a := a) (b := b) hG n (k + 1)
    have h2 := hG (M 108 (12 * a + k)) (M 108 (12 * b + k))
    unfold m_lex
    by_cases e : (M 109 (12 * a + k)).toInt = (M 109 (12 * b + k)).toInt
    · rw [if_pos e, if_pos e.symm]
      by_cases e2 : G (M 108 (12 * a + k)) (M 108 (12 * b + k)) = 0
      · rw [if_pos e2, if_pos (by omega), ih]
      · rw [if_neg e2, if_neg (by omega)]
        exact h2
    · have e' : ¬ (M 109 (12 * b + k)).toInt = (M 109 (12 * a + k)).toInt := fun q => e q.symm
      rw [if_neg e, if_neg e']
      by_cases e3 : (M 109 (12 * a + k)).toInt < (M 109 (12 * b + k)).toInt
      · rw [if_pos e3, if_neg (by omega)]
      · rw [if_neg e3, if_pos (by omega)]; omega
theorem o_an {M : wd_I} : ∀ (f : Nat) (a b : Int32), m_cmp M f a b = - m_cmp M f b a
  | 0, a, b => rfl
  | f + 1, a, b => by
    have hl := o_lex_an (M := M) (a := a.toInt.toNat) (b := b.toInt.toNat) (fun x y => o_an (M := M) f x y) (min (M 105 a.toInt.toNat).toInt.toNat (M 105 b.toInt.toNat).toInt.toNat) 0
    unfold m_cmp
    by_cases e : a.toInt = b.toInt
    · rw [if_pos e, if_pos e.symm]; rfl
    · have e' : ¬ b.toInt = a.toInt := fun q => e q.symm
      rw [if_neg e, if_neg e']
      by_cases e1 : (M 103 a.toInt.toNat).toInt = (M 103 b.toInt.toNat).toInt
      · rw [if_pos e1, if_pos e1.symm]
        by_cases e2 : (M 104 a.toInt.toNat).toInt = (M 104 b.toInt.toNat).toInt
        · rw [if_pos e2, if_pos e2.symm, hl, Nat.min_comm]
        · have e2' : ¬ (M 104 b.toInt.toNat).toInt = (M 104 a.toInt.toNat).toInt := fun q => e2 q.symm
          rw [if_neg e2, if_neg e2']
          by_cases e3 : (M 104 a.toInt.toNat).toInt < (M 104 b.toInt.toNat).toInt
          · rw [if_pos e3, if_neg (by omega)]
          · rw [if_neg e3, if_pos (by omega)]; omega
      · have e1' : ¬ (M 103 b.toInt.toNat).toInt = (M 103 a.toInt.toNat).toInt := fun q => e1 q.symm
        rw [if_neg e1, if_neg e1']
        by_cases e3 : (M 103 a.toInt.toNat).toInt < (M 103 b.toInt.toNat).toInt
        · rw [if_pos e3, if_neg (by omega)]
        · rw [if_neg e3, if_pos (by omega)]; omega
/-! turned round -/
theorem o_chl_t {how : Int} {s c t m j : Nat} {N : wd_I} (htc : t < c) (hj : j < 12) : m_chl how s c t N m 108 (12 * t + j) = N 108 (12 * t + j) := ((m_chl_fr (n := (c : Int)) (how := how) (s := s) (t := t) (Int.le_refl _) (m_fr.rf (M := N)) m).1.2 (12 * t + j) (by omega)).1
theorem o_rv {how : Int} (hh : how = 8 ∨ how = 9) {s c t : Nat} (htc : t < c) (h12 : s ≤ 12) {N : wd_I} : ∀ m, m ≤ s → ∀ j, j < s → m_chl how s c t N m 108 (12 * c + j) = if s - m ≤ j then N 108 (12 * t + (s - 1 - j)) else N 108 (12 * c + j)
  | 0, hm, j, hj => by
    rw [if_neg (by omega)]
    rfl
  | m + 1, hm, j, hj => by
    have ih := o_rv hh htc h12 (N := N) m (by omega) j hj
    have hf := o_chl_t (how := how) (s := s) (m := m) (N := N) htc (show m < 12 by omega)
    show m_ch1 how s c t (m_chl how s c t N m) m 108 (12 * c + j) = _
    unfold m_ch1
    rw [if_pos hh, hf]
    by_cases e : s - 1 - m = j
    · rw [e, wd_up_self, if_pos (by omega), show s - 1 - j = m by omega]
    · rw [wd_up_ne _ _ (Or.inr (by omega)), ih]
      by_cases e2 : s - m ≤ j
      · rw [if_pos e2, if_pos (by omega)]
      · rw [if_neg e2, if_neg (by omega)]
theorem o_tn {how : Int} (hh : how = 11) {s c t : Nat} (htc : t < c) (h12 : s ≤ 12) {N : wd_I} : ∀ m, m ≤ s → ∀ j, j < s → m_chl how s c t N m 108 (12 * c + j) = if j = 0 then (if m = s then N 108 (12 * t + (s - 1)) else N 108 (12 * c + 0)) else if j ≤ m then N 108 (12 * t + (j - 1)) else N 108 (12 * c + j)
  | 0, hm, j, hj => by
    show N 108 (12 * c + j) = _
    by_cases e : j = 0
    · rw [if_pos e, if_neg (by omega), e]
    · rw [if_neg e, if_neg (by omega)]
  | m + 1, hm, j, hj => by
    have ih := o_tn hh htc h12 (N := N) m (by omega) j hj
    have hf := o_chl_t (how := how) (s := s) (m := m) (N := N) htc (show m < 12 by omega)
    show m_ch1 how s c t (m_chl how s c t N m) m 108 (12 * c + j) = _
    unfold m_ch1
    rw [if_neg (by omega), if_pos hh, hf]
    by_cases e : m + 1 = s
    · rw [show (m + 1) % s = 0 by rw [e]; exact Nat.mod_self s]
      by_cases ej : j = 0
      · rw [ej, wd_up_self, if_pos rfl, if_pos e, show s - 1 = m by omega]
      · rw [wd_up_ne _ _ (Or.inr (by omega)), ih, if_neg ej, if_neg ej, if_pos (by omega), if_pos (by omega)]
    · rw [show (m + 1) % s = m + 1 from Nat.mod_eq_of_lt (by omega)]
      by_cases ej : j = m + 1
      · rw [ej, wd_up_self, if_neg (by omega), if_pos (by omega), show m + 1 - 1 = m by omega]
      · rw [wd_up_ne _ _ (Or.inr (by omega)), ih]
        by_cases e0 : j = 0
        · rw [if_pos e0, if_pos e0, if_neg (by omega), if_neg e]
        · rw [if_neg e0, if_neg e0]
          by_cases e1 : j ≤ m
          · rw [if_pos e1, if_pos (by omega)]
          · rw [if_neg e1, if_neg (by omega)]
/-! sorted -/
def o_rr (F0 : Nat → Int32 → Prop) (s c : Nat) (f : Nat → Option Nat) (N : wd_I) : Prop := ∀ j, j < s → ∃ b, f j = some b ∧ F0 b (N 108 (12 * c + j))
section
variable {F0 : Nat → Int32 → Prop} {T : Nat → Prop} {g : Nat → ab_C} {M0 N : wd_I} {n0 : Int} {s c : Nat} {f : Nat → Option Nat}
theorem o_rr_up (h : o_rr F0 s c f N) {b i : Nat} {x : Int32} (hb : F0 b x) : o_rr F0 s c (ab_up f i (some b)) (wd_up N 108 (12 * c + i) x) := fun j hj => by
  by_cases e : j = i
  · rw [e, ab_up_self, wd_up_self]
    exact ⟨b, rfl, hb⟩
  · rw [ab_up_ne _ _ e, wd_up_ne _ _ (Or.inr (by omega))]
    exact h j hj
theorem o_si_gt {mv : Nat} : ∀ (q : Nat) (f : Nat → Option Nat) (j : Nat), q < j → c_si g mv q f j = f j
  | 0, f, j, hj => ab_up_ne _ _ (by omega)
  | q + 1, f, j, hj => by
    unfold c_si
    split
    · rw [o_si_gt q _ j (by omega), ab_up_ne _ _ (by omega)]
    · exact ab_up_ne _ _ (by omega)
theorem o_sins (hk : h_ok F0 T g M0 n0) (hT : m_T M0 n0) (hc : n0 ≤ (c : Int)) {mv : Nat} {p : Int32} (hp : F0 mv p) : ∀ (q : Nat) (f : Nat → Option Nat) (N : wd_I), q < s → m_fr n0 M0 N → o_rr F0 s c f N → o_rr F0 s c (c_si g mv q f) (m_ins c p q N)
  | 0, f, N, hq, hf, hr => o_rr_up hr hp
  | q + 1, f, N, hq, hf, hr => by
    obtain ⟨b, b1, b2⟩ := hr q (by omega)
    have hx := hk.b b2
    have hpb := hk.b hp
    have e1 := h_cmp41 (f' := 13) hk hT (by omega) hp b2
    have e2 := m_cmp_sb hf.1 hT.tb.1 13 (N 108 (12 * c + q)) p hx.1 hx.2 hpb.1 hpb.2
    have e3 := o_an (M := M0) 13 p (N 108 (12 * c + q))
    unfold c_si m_ins
    rw [b1]
    simp only [Option.getD_some]
    by_cases hlt : c_cmp g 41 mv b < 0
    · rw [if_pos hlt, if_pos (show 0 < m_cmp N 13 (N 108 (12 * c + q)) p by omega)]
      exact o_sins hk hT hc hp q _ _ (by omega) (m_fr_up hf (by unfold m_wr; omega)) (o_rr_up hr b2)
    · rw [if_neg hlt, if_neg (show ¬ 0 < m_cmp N 13 (N 108 (12 * c + q)) p by omega)]
      exact o_rr_up hr hp
theorem o_sort (hk : h_ok F0 T g M0 n0) (hT : m_T M0 n0) (hc : n0 ≤ (c : Int)) {how : Int} (hh : ¬ (how = 8 ∨ how = 9) ∧ ¬ how = 11) {t : Nat} (htc : t < c) (h12 : s ≤ 12) (hN : m_fr n0 M0 N) (hr : o_rr F0 s c f N) (ht : ∀ j, j < s → N 108 (12 * c + j) = N 108 (12 * t + j)) : ∀ m, m + 1 ≤ s → o_rr F0 s c (c_ss g f m) (m_chl how s c t N (m + 1)) ∧ ∀ j, m < j → c_ss g f m j = f j
  | 0, hm => by
    refine ⟨?_, fun _ _ => rfl⟩
    show o_rr F0 s c f (m_ch1 how s c t N 0)
    unfold m_ch1
    rw [if_neg hh.1, if_neg hh.2]
    intro j hj
    obtain ⟨b, b1, b2⟩ := hr j hj
    refine ⟨b, b1, ?_⟩
    show F0 b (wd_up N 108 (12 * c + 0) (N 108 (12 * t + 0)) 108 (12 * c + j))
    by_cases e : j = 0
    · subst e
      rw [wd_up_self, ← ht 0 hj]
      exact b2
    · rw [wd_up_ne _ _ (Or.inr (by omega))]
      exact b2
  | m + 1, hm => by
    obtain ⟨i1, i2⟩ := o_sort hk hT hc hh htc h12 hN hr ht m (by omega)
    obtain ⟨b, b1, b2⟩ := hr (m + 1) (by omega)
    have e1 : (c_ss g f m (m + 1)).getD 0 = b := by rw [i2 (m + 1) (by omega), b1]; rfl
    have e2 := o_chl_t (how := how) (s := s) (m := m + 1) (N := N) htc (show m + 1 < 12 by omega)
    have hfr : m_fr n0 M0 (m_chl how s c t N (m + 1)) := m_chl_fr (by omega) hN (m + 1)
    refine ⟨?_, fun j hj => ?_⟩
    · show o_rr F0 s c (c_si g ((c_ss g f m (m + 1)).getD 0) (m + 1) (c_ss g f m)) (m_ch1 how s c t (m_chl how s c t N (m + 1)) (m + 1))
      unfold m_ch1
      rw [if_neg hh.1, if_neg hh.2, e1, e2, ← ht (m + 1) (by omega)]
      exact o_sins hk hT hc b2 (m + 1) _ _ (by omega) hfr i1
    · show c_si g ((c_ss g f m (m + 1)).getD 0) (m + 1) (c_ss g f m) j = f j
      rw [o_si_gt _ _ _ hj]
      exact i2 j (by omega)
end
