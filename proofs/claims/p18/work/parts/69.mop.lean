/-! ===== the reference: each call leaves what holds between calls (own text) ===== -/
theorem m_shift_at {M : wd_I} {s : Nat} : ∀ (q : Nat), q ≤ 9 → ∀ j i, i ≤ 9 → m_shift M s q 111 (10 * j + i) = if j = s ∧ i < q then M 111 (10 * j + (i + 1)) else M 111 (10 * j + i)
  | 0, _, j, i, _ => by rw [if_neg (by omega)]; rfl
  | q + 1, hq, j, i, hi => by
    show wd_up (m_shift M s q) 111 (10 * s + q) (m_shift M s q 111 (10 * s + (q + 1))) 111 (10 * j + i) = _
    by_cases e : j = s ∧ i = q
    · obtain ⟨rfl, rfl⟩ := e
      rw [wd_up_self, m_shift_at i (by omega) j (i + 1) (by omega), if_neg (by omega), if_pos (by omega)]
    · rw [wd_up_ne _ _ (Or.inr (by omega)), m_shift_at q (by omega) j i hi]
      by_cases h : j = s ∧ i < q
      · rw [if_pos h, if_pos (by omega)]
      · rw [if_neg h, if_neg (by omega)]
theorem m_bec1_row {M : wd_I} {s c a : Nat} {t : Int32} (h1 : a ≠ 110) (h2 : a ≠ 111) (h3 : a ≠ 112) : m_bec1 M s t c a = M a := by
  unfold m_bec1
  rw [wd_up_row _ _ _ h1, wd_up_row _ _ _ h3, wd_up_row _ _ _ h2]
theorem m_becomes_row {M : wd_I} {s c a : Nat} {t : Int32} (h1 : a ≠ 110) (h2 : a ≠ 111) (h3 : a ≠ 112) : m_becomes M s t c a = M a := by
  unfold m_becomes
  split
  · rw [m_bec1_row h1 h2 h3, wd_up_row _ _ _ h3, m_shift_row h2]
  · exact m_bec1_row h1 h2 h3
/-- how many a shelf remembers behind it -/
def m_bc (c : Nat) : Nat := if c = 10 then 10 else c + 1
theorem m_becomes_110 {M : wd_I} {s c j : Nat} {t : Int32} : m_becomes M s t c 110 j = if j = s then t else M 110 j := by
  have h : ∀ N : wd_I, N 110 = M 110 → ∀ c, m_bec1 N s t c 110 j = if j = s then t else M 110 j := fun N hN c => by
    unfold m_bec1
    by_cases e : j = s
    · subst e; rw [wd_up_self, if_pos rfl]
    · rw [wd_up_ne _ _ (Or.inr e), wd_up_row _ _ _ (by decide), wd_up_row _ _ _ (by decide), hN, if_neg e]
  unfold m_becomes
  split
  · exact h _ (by rw [wd_up_row _ _ _ (by decide), m_shift_row (by decide)]) 9
  · exact h M rfl c
theorem m_becomes_112 {M : wd_I} {s c j : Nat} {t : Int32} : m_becomes M s t c 112 j = if j = s then ab_ii (m_bc c : Int) else M 112 j := by
  unfold m_becomes m_bc
  by_cases h10 : c = 10
  · rw [if_pos h10, if_pos h10]
    unfold m_bec1
    by_cases e : j = s
    · subst e; rw [wd_up_row _ _ _ (by decide), wd_up_self, if_pos rfl]; rfl
    · rw [wd_up_row _ _ _ (by decide), wd_up_ne _ _ (Or.inr e), wd_up_row _ _ _ (by decide), wd_up_ne _ _ (Or.inr e), m_shift_row (by decide), if_neg e]
  · rw [if_neg h10, if_neg h10]
    unfold m_bec1
    by_cases e : j = s
    · subst e; rw [wd_up_row _ _ _ (by decide), wd_up_self, if_pos rfl]; rfl
    · rw [wd_up_row _ _ _ (by decide), wd_up_ne _ _ (Or.inr e), wd_up_row _ _ _ (by decide), if_neg e]
theorem m_becomes_111 {M : wd_I} {s c j i : Nat} {t : Int32} (hc : c ≤ 10) (hi : i ≤ 9) : m_becomes M s t c 111 (10 * j + i) = if j = s then (if c = 10 then (if i = 9 then M 110 s else M 111 (10 * j + (i + 1))) else (if i = c then M 110 s else M 111 (10 * j + i))) else M 111 (10 * j + i) := by
  unfold m_becomes
  by_cases h10 : c = 10
  · rw [if_pos h10]
    unfold m_bec1
    rw [wd_up_row _ _ _ (by decide), wd_up_row _ _ _ (by decide), wd_up_row _ _ _ (show (110 : Nat) ≠ 112 by decide), m_shift_row (show (110 : Nat) ≠ 111 by decide)]
    by_cases e : j = s
    · subst e
      rw [if_pos rfl, if_pos h10]
      by_cases e9 : i = 9
      · subst e9; rw [wd_up_self, if_pos rfl]
      · rw [wd_up_ne _ _ (Or.inr (by omega)), wd_up_row _ _ _ (by decide), m_shift_at 9 (by omega) j i hi, if_pos (by omega), if_neg e9]
    · rw [wd_up_ne _ _ (Or.inr (by omega)), wd_up_row _ _ _ (by decide), m_shift_at 9 (by omega) j i hi, if_neg (by omega), if_neg e]
  · rw [if_neg h10]
    unfold m_bec1
    rw [wd_up_row _ _ _ (by decide), wd_up_row _ _ _ (by decide)]
    by_cases e : j = s
    · subst e
      rw [if_pos rfl, if_neg h10]
      by_cases e9 : i = c
      · subst e9; rw [wd_up_self, if_pos rfl]
      · rw [wd_up_ne _ _ (Or.inr (by omega)), if_neg e9]
    · rw [wd_up_ne _ _ (Or.inr (by omega)), if_neg e]
theorem m_ok_same {M N : wd_I} (h : m_ok M) (hsame : ∀ a, 103 ≤ a → a ≤ 109 → N a = M a) (e8 : N 102 8 = M 102 8) (e9 : N 102 9 = M 102 9) (h4 : ∀ j, j < 12 → 0 ≤ (N 110 j).toInt ∧ (N 110 j).toInt < (M 102 8).toInt) (h5 : ∀ p, p < 8 → 0 ≤ (N 115 p).toInt ∧ (N 115 p).toInt ≤ 8) (h6 : ∀ j, j < 12 → ∃ c : Nat, N 112 j = ab_ii (c : Int) ∧ c ≤ 10 ∧ ∀ i, i < c → 0 ≤ (N 111 (10 * j + i)).toInt ∧ (N 111 (10 * j + i)).toInt < (M 102 8).toInt) (h7 : ∃ n : Nat, N 102 22 = ab_ii (n : Int) ∧ n ≤ 100) (h8 : ∀ p, p < 8 → 0 ≤ (N 119 p).toInt ∧ (N 119 p).toInt ≤ 8) (h9 : ¬ (N 102 20).toInt = 0 → ∀ j, j < 12 → 0 ≤ (N 116 j).toInt ∧ (N 116 j).toInt < (M 102 8).toInt) : m_ok N := by
  obtain ⟨a1, a2, a3, -⟩ := h
  refine ⟨by rw [e8]; exact m_T_c hsame a1, by rw [e8, e9]; exact a2, ?_, by rw [e8]; exact h4, h5, by rw [e8]; exact h6, h7, h8, by rw [e8]; exact h9⟩
  unfold m_rm at a3 ⊢
  rw [e8, e9]
  exact a3
theorem m_ok_bec {N : wd_I} (h : m_ok N) {s c : Nat} {t : Int32} (hs : s < 12) (hc : N 112 s = ab_ii (c : Int)) (hc10 : c ≤ 10) (ht : 0 ≤ t.toInt ∧ t.toInt < (N 102 8).toInt) : m_ok (m_becomes N s t c) := by
  have er : ∀ a, a ≠ 110 → a ≠ 111 → a ≠ 112 → m_becomes N s t c a = N a := fun a h1 h2 h3 => m_becomes_row h1 h2 h3
  obtain ⟨a1, a2, a3, a4, a5, a6, a7, a8, a9⟩ := id h
  refine m_ok_same h (fun a h1 h2 => er a (by omega) (by omega) (by omega)) (by rw [er 102 (by decide) (by decide) (by decide)]) (by rw [er 102 (by decide) (by decide) (by decide)]) (fun j hj => ?_) (by rw [er 115 (by decide) (by decide) (by decide)]; exact a5) (fun j hj => ?_) (by rw [er 102 (by decide) (by decide) (by decide)]; exact a7) (by rw [er 119 (by decide) (by decide) (by decide)]; exact a8) (by rw [er 102 (by decide) (by decide) (by decide), er 116 (by decide) (by decide) (by decide)]; exact a9)
  · rw [m_becomes_110]
    split
    · exact ht
    · exact a4 j hj
  · rw [m_becomes_112]
    by_cases e : j = s
    · subst e
      rw [if_pos rfl]
      obtain ⟨c', q1, q2, q3⟩ := a6 j hs
      have ec : c' = c := by
        rw [hc] at q1
        have := congrArg Int32.toInt q1
        rw [ab_tI (by omega) (by omega), ab_tI (by omega) (by omega)] at this
        omega
      subst ec
      have h110 := a4 j hs
      refine ⟨m_bc c', rfl, by unfold m_bc; split <;> omega, fun i hi => ?_⟩
      unfold m_bc at hi
      by_cases h10 : c' = 10
      · rw [if_pos h10] at hi
        rw [m_becomes_111 hc10 (by omega), if_pos rfl, if_pos h10]
        split
        · exact h110
        · exact q3 (i + 1) (by omega)
      · rw [if_neg h10] at hi
        rw [m_becomes_111 hc10 (by omega), if_pos rfl, if_neg h10]
        split
        · exact h110
        · exact q3 i (by omega)
    · rw [if_neg e]
      obtain ⟨c', q1, q2, q3⟩ := a6 j hj
      refine ⟨c', q1, q2, fun i hi => ?_⟩
      rw [m_becomes_111 hc10 (by omega), if_neg e]
      exact q3 i hi
theorem m_ok_undo {M : wd_I} (h : m_ok M) {s c : Nat} (hs : s < 12) (hc : M 112 s = ab_ii ((c : Int) + 1)) (hc9 : c ≤ 9) : m_ok (m_undo M s c) := by
  obtain ⟨a1, a2, a3, a4, a5, a6, a7, a8, a9⟩ := id h
  have er : ∀ a, a ≠ 110 → a ≠ 112 → m_undo M s c a = M a := fun a h1 h2 => by unfold m_undo; rw [wd_up_row _ _ _ h1, wd_up_row _ _ _ h2]
  obtain ⟨c', q1, q2, q3⟩ := a6 s hs
  have ec : c' = c + 1 := by
    rw [hc] at q1
    have := congrArg Int32.toInt q1
    rw [ab_tI (by omega) (by omega), ab_tI (by omega) (by omega)] at this
    omega
  subst ec
  refine m_ok_same h (fun a h1 h2 => er a (by omega) (by omega)) (by rw [er 102 (by decide) (by decide)]) (by rw [er 102 (by decide) (by decide)]) (fun j hj => ?_) (by rw [er 115 (by decide) (by decide)]; exact a5) (fun j hj => ?_) (by rw [er 102 (by decide) (by decide)]; exact a7) (by rw [er 119 (by decide) (by decide)]; exact a8) (by rw [er 102 (by decide) (by decide), er 116 (by decide) (by decide)]; exact a9)
  · unfold m_undo
    by_cases e : j = s
    · subst e; rw [wd_up_self]; exact q3 c (by omega)
    · rw [wd_up_ne _ _ (Or.inr e), wd_up_row _ _ _ (by decide)]; exact a4 j hj
  · rw [er 111 (by decide) (by decide)]
    unfold m_undo
    rw [wd_up_row _ _ _ (by decide)]
    by_cases e : j = s
    · subst e
      rw [wd_up_self]
      exact ⟨c, rfl, by omega, fun i hi => q3 i (by omega)⟩
    · rw [wd_up_ne _ _ (Or.inr e)]; exact a6 j hj
theorem m_fed_row {M : wd_I} {w : Int32} {n a : Nat} (h1 : a ≠ 102) (h2 : a ≠ 120) : ∀ j, m_fed M w n j a = M a
  | 0 => rfl
  | j + 1 => by unfold m_fed; rw [wd_up_row _ _ _ h1, wd_up_row _ _ _ h2, m_fed_row h1 h2 j]
theorem m_fed_m {M : wd_I} {w : Int32} {n i : Nat} (h1 : i ≠ 22) : ∀ j, m_fed M w n j 102 i = M 102 i
  | 0 => rfl
  | j + 1 => by unfold m_fed; rw [wd_up_ne _ _ (Or.inr h1), wd_up_row _ _ _ (by decide), m_fed_m h1 j]
theorem m_ok_fed {M : wd_I} (h : m_ok M) {w : Int32} {n j : Nat} (hn : M 102 22 = ab_ii (n : Int)) (hj : n + j ≤ 100) : m_ok (m_fed M w n j) := by
  obtain ⟨a1, a2, a3, a4, a5, a6, a7, a8, a9⟩ := id h
  refine m_ok_same h (fun a h1 h2 => m_fed_row (by omega) (by omega) j) (m_fed_m (by decide) j) (m_fed_m (by decide) j) (by rw [m_fed_row (by decide) (by decide)]; exact a4) (by rw [m_fed_row (by decide) (by decide)]; exact a5) (by rw [m_fed_row (by decide) (by decide), m_fed_row (by decide) (by decide)]; exact a6) ⟨n + j, by rw [m_fed_n hn]; exact congrArg ab_ii (by omega), hj⟩ (by rw [m_fed_row (by decide) (by decide)]; exact a8) (by rw [m_fed_m (by decide), m_fed_row (by decide) (by decide)]; exact a9)
theorem m_ok_joins {M : wd_I} (h : m_ok M) {p o c n : Nat} (hp : p < 8) (hc : M 115 p = ab_ii (c : Int)) (hcn : c + n ≤ 8) : m_ok (m_joins M p o c n) := by
  obtain ⟨a1, a2, a3, a4, a5, a6, a7, a8, a9⟩ := id h
  have er : ∀ a, a ≠ 113 → a ≠ 114 → a ≠ 115 → m_joins M p o c n a = M a := fun a h1 h2 h3 => m_joins_row h1 h2 h3 n
  refine m_ok_same h (fun a h1 h2 => er a (by omega) (by omega) (by omega)) (by rw [er 102 (by decide) (by decide) (by decide)]) (by rw [er 102 (by decide) (by decide) (by decide)]) (by rw [er 110 (by decide) (by decide) (by decide)]; exact a4) (fun q hq => ?_) (by rw [er 112 (by decide) (by decide) (by decide), er 111 (by decide) (by decide) (by decide)]; exact a6) (by rw [er 102 (by decide) (by decide) (by decide)]; exact a7) (by rw [er 119 (by decide) (by decide) (by decide)]; exact a8) (by rw [er 102 (by decide) (by decide) (by decide), er 116 (by decide) (by decide) (by decide)]; exact a9)
  by_cases e : q = p
  · subst e
    rw [m_joins_n hc, ab_tI (by omega) (by omega)]
    omega
  · have hne : ∀ j, m_joins M p o c j 115 q = M 115 q := fun j => by
      induction j with
      | zero => rfl
      | succ j ih => unfold m_joins; rw [wd_up_ne _ _ (Or.inr e), wd_up_row _ _ _ (by decide), wd_up_row _ _ _ (by decide), ih]
    rw [hne]
    exact a5 q hq
theorem m_ok_p2 {M : wd_I} (h : m_ok M) : m_ok (m_p2 M) ∧ (m_p1 M).2 ≤ 8 ∧ m_p2 M 102 22 = ab_ii 0 := by
  obtain ⟨a1, a2, a3, a4, a5, a6, a7, a8, a9⟩ := id h
  obtain ⟨n, hn, hn100⟩ := a7
  have ht0 : m_tp (m_p0 M) := by
    have e1 : m_p0 M 102 23 = ab_ii 0 := by unfold m_p0; rw [wd_up_ne _ _ (by omega), wd_up_self]
    have e3 : m_p0 M 102 22 = M 102 22 := by unfold m_p0; rw [wd_up_ne _ _ (by omega), wd_up_ne _ _ (by omega)]
    unfold m_tp
    rw [e1, e3, hn, show (ab_ii 0).toInt = 0 by decide, ab_tI (by omega) (by omega)]
    omega
  obtain ⟨hg, h8⟩ := m_pl_pg 102 0 (m_p0 M) ht0 (by omega)
  change m_pg (m_p0 M) (m_p1 M).1 at hg
  obtain ⟨g1, g2, g3⟩ := hg
  have er : ∀ a, a ≠ 102 → a ≠ 121 → a ≠ 122 → m_p2 M a = M a := fun a h1 h2 h3 => by
    unfold m_p2
    rw [wd_up_row _ _ _ h1, g1 a h1 h2 h3]
    unfold m_p0
    rw [wd_up_row _ _ _ h1, wd_up_row _ _ _ h1]
  have en : ∀ j, j ≠ 22 → j ≠ 23 → j ≠ 24 → j ≠ 26 → j ≠ 27 → m_p2 M 102 j = M 102 j := fun j j1 j2 j3 j4 j5 => by
    unfold m_p2
    rw [wd_up_ne _ _ (Or.inr j1), g2 j j2 j3 j4 j5]
    unfold m_p0
    rw [wd_up_ne _ _ (Or.inr j3), wd_up_ne _ _ (Or.inr j2)]
  have e22 : m_p2 M 102 22 = ab_ii 0 := by unfold m_p2; rw [wd_up_self]
  refine ⟨m_ok_same h (fun a h1 h2 => er a (by omega) (by omega) (by omega)) (en 8 (by decide) (by decide) (by decide) (by decide) (by decide)) (en 9 (by decide) (by decide) (by decide) (by decide) (by decide)) (by rw [er 110 (by decide) (by decide) (by decide)]; exact a4) (by rw [er 115 (by decide) (by decide) (by decide)]; exact a5) (by rw [er 112 (by decide) (by decide) (by decide), er 111 (by decide) (by decide) (by decide)]; exact a6) ⟨0, e22, by omega⟩ (by rw [er 119 (by decide) (by decide) (by decide)]; exact a8) (by rw [en 20 (by decide) (by decide) (by decide) (by decide) (by decide), er 116 (by decide) (by decide) (by decide)]; exact a9), h8, e22⟩
theorem m_ok_p3 {M : wd_I} (h : m_ok M) {p : Nat} (hp : p < 8) : m_ok (m_p3 M p) ∧ m_p3 M p 102 22 = ab_ii 0 := by
  obtain ⟨h2, h8, e22⟩ := m_ok_p2 h
  obtain ⟨a1, a2, a3, a4, a5, a6, a7, a8, a9⟩ := id h2
  have er : ∀ a, a ≠ 113 → a ≠ 114 → a ≠ 115 → m_p3 M p a = m_p2 M a := fun a h1 h2 h3 => by
    unfold m_p3
    rw [wd_up_row _ _ _ h3, m_pcp_row h1 h2]
  refine ⟨m_ok_same h2 (fun a h1 h2 => er a (by omega) (by omega) (by omega)) (by rw [er 102 (by decide) (by decide) (by decide)]) (by rw [er 102 (by decide) (by decide) (by decide)]) (by rw [er 110 (by decide) (by decide) (by decide)]; exact a4) (fun q hq => ?_) (by rw [er 112 (by decide) (by decide) (by decide), er 111 (by decide) (by decide) (by decide)]; exact a6) (by rw [er 102 (by decide) (by decide) (by decide)]; exact a7) (by rw [er 119 (by decide) (by decide) (by decide)]; exact a8) (by rw [er 102 (by decide) (by decide) (by decide), er 116 (by decide) (by decide) (by decide)]; exact a9), by rw [er 102 (by decide) (by decide) (by decide)]; exact e22⟩
  unfold m_p3
  by_cases e : q = p
  · subst e
    rw [wd_up_self, ab_tI (by omega) (by omega)]
    omega
  · rw [wd_up_ne _ _ (Or.inr e), m_pcp_row (by decide) (by decide)]
    exact a5 q hq
theorem m_ok_image {M : wd_I} (h : m_ok M) : m_ok (m_image M) ∧ m_image M 102 22 = M 102 22 ∧ m_image M 110 = M 110 := by
  obtain ⟨a1, a2, a3, a4, a5, a6, a7, a8, a9⟩ := id h
  have er : ∀ a, a ≠ 102 → a ≠ 116 → a ≠ 117 → a ≠ 118 → a ≠ 119 → m_image M a = M a := fun a h1 h2 h3 h4 h5 => by
    unfold m_image
    rw [wd_up_row _ _ _ h1, m_cp_row h5, m_cq_row h3 h4, m_cp_row h2]
  have en : ∀ j, j ≠ 20 → m_image M 102 j = M 102 j := fun j hj => by
    unfold m_image
    rw [wd_up_ne _ _ (Or.inr hj), m_cp_row (by decide), m_cq_row (by decide) (by decide), m_cp_row (by decide)]
  have e116 : ∀ j, j < 12 → m_image M 116 j = M 110 j := fun j hj => by
    unfold m_image
    rw [wd_up_row _ _ _ (by decide), m_cp_row (by decide), m_cq_row (by decide) (by decide), m_cp_at, if_pos hj]
  have e119 : ∀ j, j < 8 → m_image M 119 j = M 115 j := fun j hj => by
    unfold m_image
    rw [wd_up_row _ _ _ (by decide), m_cp_at, if_pos hj, m_cq_row (by decide) (by decide), m_cp_row (by decide)]
  refine ⟨m_ok_same h (fun a h1 h2 => er a (by omega) (by omega) (by omega) (by omega) (by omega)) (en 8 (by decide)) (en 9 (by decide)) (by rw [er 110 (by decide) (by decide) (by decide) (by decide) (by decide)]; exact a4) (by rw [er 115 (by decide) (by decide) (by decide) (by decide) (by decide)]; exact a5) (by rw [er 112 (by decide) (by decide) (by decide) (by decide) (by decide), er 111 (by decide) (by decide) (by decide) (by decide) (by decide)]; exact a6) (by rw [en 22 (by decide)]; exact a7) (fun p hp => by rw [e119 p hp]; exact a5 p hp) (fun _ j hj => by rw [e116 j hj]; exact a4 j hj), en 22 (by decide), er 110 (by decide) (by decide) (by decide) (by decide) (by decide)⟩
theorem m_ok_back {M : wd_I} (h : m_ok M) (hi : ¬ (M 102 20).toInt = 0) : m_ok (m_back M) ∧ m_back M 102 22 = M 102 22 := by
  obtain ⟨a1, a2, a3, a4, a5, a6, a7, a8, a9⟩ := id h
  have er : ∀ a, a ≠ 110 → a ≠ 112 → a ≠ 113 → a ≠ 114 → a ≠ 115 → m_back M a = M a := fun a h1 h2 h3 h4 h5 => by
    unfold m_back
    rw [m_cp_row h5, m_cq_row h3 h4, m_cz_row h1 h2]
  have e110 : ∀ j, j < 12 → m_back M 110 j = M 116 j := fun j hj => by
    unfold m_back
    rw [m_cp_row (by decide), m_cq_row (by decide) (by decide), m_cz_at, if_pos hj]
  have e112 : ∀ j, j < 12 → m_back M 112 j = ab_ii 0 := fun j hj => by
    unfold m_back
    rw [m_cp_row (by decide), m_cq_row (by decide) (by decide), m_cz_bt, if_pos hj]
  have e115 : ∀ j, j < 8 → m_back M 115 j = M 119 j := fun j hj => by
    unfold m_back
    rw [m_cp_at, if_pos hj, m_cq_row (by decide) (by decide), m_cz_row (by decide) (by decide)]
  refine ⟨m_ok_same h (fun a h1 h2 => er a (by omega) (by omega) (by omega) (by omega) (by omega)) (by rw [er 102 (by decide) (by decide) (by decide) (by decide) (by decide)]) (by rw [er 102 (by decide) (by decide) (by decide) (by decide) (by decide)]) (fun j hj => by rw [e110 j hj]; exact a9 hi j hj) (fun p hp => by rw [e115 p hp]; exact a8 p hp) (fun j hj => ⟨0, e112 j hj, by omega, fun i hi => absurd hi (Nat.not_lt_zero _)⟩) (by rw [er 102 (by decide) (by decide) (by decide) (by decide) (by decide)]; exact a7) (by rw [er 119 (by decide) (by decide) (by decide) (by decide) (by decide)]; exact a8) (by rw [er 102 (by decide) (by decide) (by decide) (by decide) (by decide), er 116 (by decide) (by decide) (by decide) (by decide) (by decide)]; exact a9), by rw [er 102 (by decide) (by decide) (by decide) (by decide) (by decide)]⟩
