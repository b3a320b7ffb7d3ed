/-! ===== both objects: the paths between calls (own text) ===== -/
def v_pr (g : Nat → ab_C) (M : wd_I) (rs rw rn : Nat) (F : Nat → Option Nat) : Prop := ∀ q, q < 8 → ∃ b, F q = some b ∧ h_pt g M rs rw rn b q
def v_pa (I : wd_I) (P : wd_P) (M : wd_I) (g : Nat → ab_C) : Prop := v_pr g M 113 114 115 (P 8) ∧ ((I 0 11).toInt = 0 ↔ (M 102 20).toInt = 0) ∧ (¬ (I 0 11).toInt = 0 → v_pr g M 117 118 119 (P 17))
section
variable {T : Nat → Prop} {I I' : wd_I} {P P' : wd_P} {M M' : wd_I} {g g' : Nat → ab_C} {k : Nat}
theorem h_pt.fr {rs rw rn rs' rw' rn' p q : Nat} (h : h_pt g M rs rw rn p q) (hw : p_wf g k p) (hx : c_ofr k g g') (hq : q < 8) (e1 : ∀ i, i < 64 → M' rs' i = M rs i) (e2 : ∀ i, i < 64 → M' rw' i = M rw i) (e3 : M' rn' q = M rn q) : h_pt g' M' rs' rw' rn' p q := by
  obtain ⟨-, w1, w2, w3⟩ := p_wf_xt hw hx (Nat.le_refl _)
  obtain ⟨h1, h2, h3⟩ := h
  refine ⟨by rw [w1, e3]; exact h1, by rw [w1]; exact h2, fun i hi => ?_⟩
  rw [w1] at hi
  rw [w2, w3, e1 _ (by omega), e2 _ (by omega)]
  exact h3 i hi
theorem v_pr.fr {rs rw rn rs' rw' rn' : Nat} {F F' : Nat → Option Nat} (h : v_pr g M rs rw rn F) (hw : c_paT g k F) (hx : c_ofr k g g') (hF : ∀ q, q < 8 → F' q = F q) (e1 : ∀ i, i < 64 → M' rs' i = M rs i) (e2 : ∀ i, i < 64 → M' rw' i = M rw i) (e3 : ∀ i, i < 8 → M' rn' i = M rn i) : v_pr g' M' rs' rw' rn' F' := fun q hq => by
  obtain ⟨b, hb, hp⟩ := h q hq
  obtain ⟨b', hb', hw'⟩ := hw q hq
  rw [hb] at hb'
  cases hb'
  exact ⟨b, (hF q hq).trans hb, hp.fr hw' hx hq e1 e2 (e3 q hq)⟩
theorem v_pa.fr (h : v_pa I P M g) (hk : k_ok T I P g k) (hc : k_fp I P g k I' P' g') (hm : r_fp M M') : v_pa I' P' M' g' := by
  obtain ⟨h1, h2, h3⟩ := h
  have e : ∀ a, 113 ≤ a → a ≤ 119 → a ≠ 116 → M' a = M a := fun a a1 a2 a3 => hm.1 a a1 (by omega) a3
  refine ⟨h1.fr hk.2.2.2.2.1 hc.2.1 (fun q _ => hc.2.2.1 q) (fun i _ => by rw [e 113 (by decide) (by decide) (by decide)]) (fun i _ => by rw [e 114 (by decide) (by decide) (by decide)]) (fun i _ => by rw [e 115 (by decide) (by decide) (by decide)]), by rw [hc.2.2.2.2, hm.2]; exact h2, fun q => ?_⟩
  rw [hc.2.2.2.2] at q
  exact (h3 q).fr (hk.2.2.2.2.2.2 q).2 hc.2.1 (fun q _ => hc.2.2.2.1 q) (fun i _ => by rw [e 117 (by decide) (by decide) (by decide)]) (fun i _ => by rw [e 118 (by decide) (by decide) (by decide)]) (fun i _ => by rw [e 119 (by decide) (by decide) (by decide)])
/-- one path set -/
theorem v_pa.st (h : v_pa I P M g) (hk : k_ok T I P g k) (hx : c_ofr k g g') {p b : Nat} (hp : p < 8) (hb : h_pt g' M' 113 114 115 b p) (hI : I' 0 11 = I 0 11) (e0 : M' 102 20 = M 102 20) (e1 : ∀ q i, q < 8 → q ≠ p → i < 8 → M' 113 (8 * q + i) = M 113 (8 * q + i) ∧ M' 114 (8 * q + i) = M 114 (8 * q + i)) (e2 : ∀ q, q ≠ p → M' 115 q = M 115 q) (e3 : ∀ a, 117 ≤ a → a ≤ 119 → M' a = M a) : v_pa I' (wd_up P 8 p (some b)) M' g' := by
  obtain ⟨h1, h2, h3⟩ := h
  refine ⟨fun q hq => ?_, by rw [hI, e0]; exact h2, fun q => ?_⟩
  · by_cases e : q = p
    · subst e
      exact ⟨b, wd_up_self _ _ _ _, hb⟩
    · obtain ⟨c, hc, hpt⟩ := h1 q hq
      obtain ⟨c', hc', hw⟩ := hk.2.2.2.2.1 q hq
      rw [hc] at hc'
      cases hc'
      refine ⟨c, (wd_up_ne _ _ (Or.inr e)).trans hc, ?_⟩
      obtain ⟨-, w1, w2, w3⟩ := p_wf_xt hw hx (Nat.le_refl _)
      obtain ⟨p1, p2, p3⟩ := hpt
      refine ⟨by rw [w1, e2 q e]; exact p1, by rw [w1]; exact p2, fun i hi => ?_⟩
      rw [w1] at hi
      obtain ⟨e4, e5⟩ := e1 q i hq e (by omega)
      rw [w2, w3, e4, e5]
      exact p3 i hi
  · rw [hI] at q
    exact (h3 q).fr (hk.2.2.2.2.2.2 q).2 hx (fun q _ => wd_up_ne _ _ (by omega)) (fun i _ => by rw [e3 117 (by decide) (by decide)]) (fun i _ => by rw [e3 118 (by decide) (by decide)]) (fun i _ => by rw [e3 119 (by decide) (by decide)])
theorem m_p2_r (hb : 0 ≤ (M 102 22).toInt ∧ (M 102 22).toInt ≤ 100) : (∀ a, a ≠ 102 → a ≠ 121 → a ≠ 122 → m_p2 M a = M a) ∧ m_p2 M 102 20 = M 102 20 := by
  have ht : m_tp (m_p0 M) := by
    have e1 : m_p0 M 102 23 = ab_ii 0 := by unfold m_p0; rw [wd_up_ne _ _ (by omega), wd_up_self]
    have e3 : m_p0 M 102 22 = M 102 22 := by unfold m_p0; rw [wd_up_ne _ _ (by omega), wd_up_ne _ _ (by omega)]
    unfold m_tp
    rw [e1, e3]
    exact ⟨by decide, hb.1, hb.2⟩
  obtain ⟨g1, g2, -⟩ := (m_pl_pg 102 0 (m_p0 M) ht (by omega)).1
  refine ⟨fun a a1 a2 a3 => ?_, ?_⟩
  · unfold m_p2
    rw [wd_up_row _ _ _ a1]
    show (m_pl 102 0 (m_p0 M)).1 a = _
    rw [g1 a a1 a2 a3]
    unfold m_p0
    rw [wd_up_row _ _ _ a1, wd_up_row _ _ _ a1]
  · unfold m_p2
    rw [wd_up_ne _ _ (by omega)]
    show (m_pl 102 0 (m_p0 M)).1 102 20 = _
    rw [g2 20 (by decide) (by decide) (by decide) (by decide)]
    unfold m_p0
    rw [wd_up_ne _ _ (by omega), wd_up_ne _ _ (by omega)]
theorem m_pcp_at {p : Nat} {i : Nat} : ∀ n, i < n → m_pcp M p n 113 (8 * p + i) = M 121 i ∧ m_pcp M p n 114 (8 * p + i) = M 122 i
  | 0, h => absurd h (Nat.not_lt_zero _)
  | n + 1, h => by
    unfold m_pcp
    by_cases e : i = n
    · subst e
      rw [wd_up_row _ _ _ (show 113 ≠ 114 by decide), wd_up_self, wd_up_self]
      exact ⟨rfl, rfl⟩
    · rw [wd_up_row _ _ _ (show 113 ≠ 114 by decide), wd_up_ne _ _ (Or.inr (by omega)), wd_up_ne _ _ (Or.inr (by omega)), wd_up_row _ _ _ (show 114 ≠ 113 by decide)]
      exact m_pcp_at n (by omega)
theorem m_pcp_x {p x : Nat} : ∀ n, ¬ (8 * p ≤ x ∧ x < 8 * p + n) → m_pcp M p n 113 x = M 113 x ∧ m_pcp M p n 114 x = M 114 x
  | 0, _ => ⟨rfl, rfl⟩
  | n + 1, h => by
    unfold m_pcp
    rw [wd_up_row _ _ _ (show 113 ≠ 114 by decide), wd_up_ne _ _ (Or.inr (by omega)), wd_up_ne _ _ (Or.inr (by omega)), wd_up_row _ _ _ (show 114 ≠ 113 by decide)]
    exact m_pcp_x n (by omega)
/-- a path read -/
theorem v_pa.ptf (h : v_pa I P M g) (hk : k_ok T I P g k) (hb : 0 ≤ (M 102 22).toInt ∧ (M 102 22).toInt ≤ 100) (hI : I' 0 11 = I 0 11) : v_pa I' P (m_p2 M) g := by
  obtain ⟨r1, r2⟩ := m_p2_r hb
  obtain ⟨h1, h2, h3⟩ := h
  have e : ∀ a, 113 ≤ a → a ≤ 119 → m_p2 M a = M a := fun a a1 a2 => r1 a (by omega) (by omega) (by omega)
  refine ⟨h1.fr hk.2.2.2.2.1 c_ofr.rf (fun q _ => rfl) (fun i _ => by rw [e 113 (by decide) (by decide)]) (fun i _ => by rw [e 114 (by decide) (by decide)]) (fun i _ => by rw [e 115 (by decide) (by decide)]), by rw [hI, r2]; exact h2, fun q => ?_⟩
  rw [hI] at q
  exact (h3 q).fr (hk.2.2.2.2.2.2 q).2 c_ofr.rf (fun q _ => rfl) (fun i _ => by rw [e 117 (by decide) (by decide)]) (fun i _ => by rw [e 118 (by decide) (by decide)]) (fun i _ => by rw [e 119 (by decide) (by decide)])
theorem v_pa.pth (h : v_pa I P M g) (hk : k_ok T I P g k) (ht : h_tp I M) (hb : 0 ≤ (I 1 1).toInt ∧ (I 1 1).toInt ≤ 100) {p : Nat} (hp : p < 8) (hu : (m_p2 M 102 24).toInt = -1) (hI : I' 0 11 = I 0 11) : v_pa I' (wd_up P 8 p (some k)) (m_p3 M p) (c_mkr g k (r_len I) (r_who I)) := by
  have hb2 : 0 ≤ (M 102 22).toInt ∧ (M 102 22).toInt ≤ 100 := by rw [← ht.1]; exact hb
  obtain ⟨r1, r2⟩ := m_p2_r hb2
  obtain ⟨w1, w2⟩ := h_who ht hb
  have hu1 : ((m_p1 M).1 102 24).toInt = -1 := by
    unfold m_p2 at hu
    rw [wd_up_ne _ _ (by omega)] at hu
    exact hu
  obtain ⟨w3, w4⟩ := w2 hu1
  have h8 : r_len I ≤ 8 := by have := r_loop_le 8 (r_new I) 0; unfold r_len; omega
  obtain ⟨-, c1, c2, c3⟩ := c_mkr_wf (g := g) (I := r_who I) hk.2.1 h8
  have e13 : ∀ x, m_p3 M p 113 x = m_pcp (m_p2 M) p (m_p1 M).2 113 x := fun x => by unfold m_p3; rw [wd_up_row _ _ _ (by decide)]
  have e14 : ∀ x, m_p3 M p 114 x = m_pcp (m_p2 M) p (m_p1 M).2 114 x := fun x => by unfold m_p3; rw [wd_up_row _ _ _ (by decide)]
  have er : ∀ a, a ≠ 113 → a ≠ 114 → a ≠ 115 → m_p3 M p a = m_p2 M a := fun a a1 a2 a3 => by unfold m_p3; rw [wd_up_row _ _ _ a3, m_pcp_row a1 a2]
  have e21 : ∀ i, m_p2 M 121 i = (m_p1 M).1 121 i ∧ m_p2 M 122 i = (m_p1 M).1 122 i := fun i => by
    unfold m_p2
    rw [wd_up_row _ _ _ (by decide), wd_up_row _ _ _ (by decide)]
    exact ⟨rfl, rfl⟩
  refine h.st hk c_mkr_of hp ⟨?_, by rw [c1]; exact h8, fun i hi => ?_⟩ hI (by rw [er 102 (by decide) (by decide) (by decide)]; exact r2) (fun q i hq hne hi => ?_) (fun q hq => ?_) (fun a a1 a2 => by rw [er a (by omega) (by omega) (by omega)]; exact r1 a (by omega) (by omega) (by omega))
  · rw [c1]
    unfold m_p3
    rw [wd_up_self, w3, ab_tI (by omega) (by omega)]
  · rw [c1] at hi
    obtain ⟨a1, a2⟩ := m_pcp_at (M := m_p2 M) (p := p) (i := i) (m_p1 M).2 (by omega)
    obtain ⟨b1, b2⟩ := w4 i hi
    rw [c2, c3, e13, e14, a1, a2, (e21 i).1, (e21 i).2]
    unfold c_rwi
    rw [if_pos hi, if_pos hi]
    exact ⟨b1, b2⟩
  · rw [e13, e14]
    obtain ⟨a1, a2⟩ := m_pcp_x (M := m_p2 M) (p := p) (x := 8 * q + i) (m_p1 M).2 (by omega)
    rw [a1, a2, r1 113 (by decide) (by decide) (by decide), r1 114 (by decide) (by decide) (by decide)]
    exact ⟨rfl, rfl⟩
  · unfold m_p3
    rw [wd_up_ne _ _ (Or.inr hq), m_pcp_row (by decide) (by decide), r1 115 (by decide) (by decide) (by decide)]
theorem m_joins_at {p o c n : Nat} (hp : p < 8) (ho : o < 8) (hcn : c + n ≤ 8) (hpo : o = p → n ≤ c) : ∀ j, j ≤ n → (∀ x, m_joins M p o c j 113 x = if 8 * p + c ≤ x ∧ x < 8 * p + c + j then M 113 (8 * o + (x - (8 * p + c))) else M 113 x) ∧ (∀ x, m_joins M p o c j 114 x = if 8 * p + c ≤ x ∧ x < 8 * p + c + j then M 114 (8 * o + (x - (8 * p + c))) else M 114 x) ∧ ∀ x, x ≠ p → m_joins M p o c j 115 x = M 115 x
  | 0, _ => ⟨fun x => by rw [if_neg (by omega)]; rfl, fun x => by rw [if_neg (by omega)]; rfl, fun _ _ => rfl⟩
  | j + 1, hj => by
    obtain ⟨i1, i2, i3⟩ := m_joins_at hp ho hcn hpo j (by omega)
    have hne : ¬ (8 * p + c ≤ 8 * o + j ∧ 8 * o + j < 8 * p + c + j) := by
      by_cases e : o = p
      · have := hpo e; omega
      · omega
    have s1 : m_joins M p o c j 113 (8 * o + j) = M 113 (8 * o + j) := by rw [i1, if_neg hne]
    have s2 : m_joins M p o c j 114 (8 * o + j) = M 114 (8 * o + j) := by rw [i2, if_neg hne]
    refine ⟨fun x => ?_, fun x => ?_, fun x hx => ?_⟩
    · unfold m_joins
      rw [s1, s2, wd_up_row _ _ _ (show 113 ≠ 115 by decide), wd_up_row _ _ _ (show 113 ≠ 114 by decide)]
      by_cases e : x = 8 * p + (c + j)
      · subst e
        rw [wd_up_self, if_pos (by omega)]
        congr 1
        omega
      · rw [wd_up_ne _ _ (Or.inr e), i1]
        by_cases e2 : 8 * p + c ≤ x ∧ x < 8 * p + c + j
        · rw [if_pos e2, if_pos (by omega)]
        · rw [if_neg e2, if_neg (by omega)]
    · unfold m_joins
      rw [s1, s2, wd_up_row _ _ _ (show 114 ≠ 115 by decide)]
      by_cases e : x = 8 * p + (c + j)
      · subst e
        rw [wd_up_self, if_pos (by omega)]
        congr 1
        omega
      · rw [wd_up_ne _ _ (Or.inr e), wd_up_row _ _ _ (show 114 ≠ 113 by decide), i2]
        by_cases e2 : 8 * p + c ≤ x ∧ x < 8 * p + c + j
        · rw [if_pos e2, if_pos (by omega)]
        · rw [if_neg e2, if_neg (by omega)]
    · unfold m_joins
      rw [wd_up_ne _ _ (Or.inr hx), wd_up_row _ _ _ (show 115 ≠ 114 by decide), wd_up_row _ _ _ (show 115 ≠ 113 by decide)]
      exact i3 x hx
/-- two paths joined -/
theorem v_pa.jn (h : v_pa I P M g) (hk : k_ok T I P g k) {p o a b : Nat} (hp : p < 8) (ho : o < 8) (ha : P 8 p = some a) (hb : P 8 o = some b) (h8 : p_n g a + p_n g b ≤ 8) : v_pa I (wd_up P 8 p (some (k + 2))) (m_joins M p o (p_n g a) (p_n g b)) (c_jng g k a b) := by
  obtain ⟨a', ha', hpa⟩ := h.1 p hp
  rw [ha] at ha'
  cases ha'
  obtain ⟨b', hb', hpb⟩ := h.1 o ho
  rw [hb] at hb'
  cases hb'
  have hpo : o = p → p_n g b ≤ p_n g a := fun e => by
    subst e
    rw [ha] at hb
    cases hb
    exact Nat.le_refl _
  have hn : M 115 p = ab_ii (p_n g a : Int) := by rw [hpa.1]; exact (ab_ii_toInt _).symm
  obtain ⟨j1, j2, j3⟩ := m_joins_at (M := M) hp ho h8 hpo (p_n g b) (Nat.le_refl _)
  obtain ⟨-, c1, c2, c3⟩ := c_mkp_wf (g := g) (k := k) (f1 := c_rwi (c_jn (p_sg g a) (p_sg g b) (p_n g a)) (p_n g a + p_n g b)) (f2 := c_rwi (c_jn (p_wd g a) (p_wd g b) (p_n g a)) (p_n g a + p_n g b)) hk.2.1 h8
  change p_n (c_jng g k a b) (k + 2) = _ at c1
  change ∀ i, p_sg (c_jng g k a b) (k + 2) i = _ at c2
  change ∀ i, p_wd (c_jng g k a b) (k + 2) i = _ at c3
  refine v_pa.st (g' := c_jng g k a b) h hk c_mkp_of hp ⟨?_, by rw [c1]; exact h8, fun i hi => ?_⟩ rfl (by rw [m_joins_row (by decide) (by decide) (by decide)]) (fun q i hq hne hi => ?_) (fun q hq => j3 q hq) (fun x x1 x2 => m_joins_row (by omega) (by omega) (by omega) _)
  · rw [c1, m_joins_n hn, ab_tI (by omega) (by omega)]
    omega
  · rw [c1] at hi
    rw [c2, c3, j1, j2]
    unfold c_rwi c_jn
    rw [if_pos hi, if_pos hi]
    by_cases e : i < p_n g a
    · rw [if_pos e, if_pos e, if_neg (by omega), if_neg (by omega)]
      exact hpa.2.2 i e
    · rw [if_neg e, if_neg e, if_pos (by omega), if_pos (by omega)]
      have := hpb.2.2 (i - p_n g a) (by omega)
      rw [show 8 * p + i - (8 * p + p_n g a) = i - p_n g a by omega]
      exact this
  · rw [j1, j2, if_neg (by omega), if_neg (by omega)]
    exact ⟨rfl, rfl⟩
end
section
variable {T : Nat → Prop} {I I' : wd_I} {P P' : wd_P} {M M' : wd_I} {g g' : Nat → ab_C} {k : Nat}
theorem v_pa.im (h : v_pa I P M g) (hk : k_ok T I P g k) : v_pa (c_imI I) (c_imP P) (m_image M) g := by
  obtain ⟨h1, h2, h3⟩ := h
  have er : ∀ a j, a ≠ 102 → a ≠ 116 → a ≠ 117 → a ≠ 118 → a ≠ 119 → m_image M a j = M a j := fun a j a1 a2 a3 a4 a5 => by
    unfold m_image
    rw [wd_up_row _ _ _ a1, m_cp_ne a5, m_cq_ne ⟨a3, a4⟩, m_cp_ne a2]
  have e20 : m_image M 102 20 = ab_ii 1 := wd_up_self _ _ _ _
  have eI : c_imI I 0 11 = ab_ii 1 := wd_up_self _ _ _ _
  have e17 : ∀ i, i < 64 → m_image M 117 i = M 113 i := fun i hi => by
    unfold m_image
    rw [wd_up_row _ _ _ (by decide), m_cp_ne (by decide), m_cq_at (by decide), if_pos hi, m_cp_ne (by decide)]
  have e18 : ∀ i, i < 64 → m_image M 118 i = M 114 i := fun i hi => by
    unfold m_image
    rw [wd_up_row _ _ _ (by decide), m_cp_ne (by decide), m_cq_bt (by decide), if_pos hi, m_cp_ne (by decide)]
  have e19 : ∀ i, i < 8 → m_image M 119 i = M 115 i := fun i hi => by
    unfold m_image
    rw [wd_up_row _ _ _ (by decide), m_cp_at, if_pos hi, m_cq_ne ⟨by decide, by decide⟩, m_cp_ne (by decide)]
  refine ⟨h1.fr hk.2.2.2.2.1 c_ofr.rf (fun q _ => by unfold c_imP; rw [c_iP_ne (by omega), c_iT_ne (by omega)]) (fun i _ => er 113 i (by decide) (by decide) (by decide) (by decide) (by decide)) (fun i _ => er 114 i (by decide) (by decide) (by decide) (by decide) (by decide)) (fun i _ => er 115 i (by decide) (by decide) (by decide) (by decide) (by decide)), by rw [e20, eI], fun _ => h1.fr hk.2.2.2.2.1 c_ofr.rf (fun q hq => by unfold c_imP; rw [c_iP_at 8 hq, c_iT_ne (by omega)]) e17 e18 e19⟩
theorem v_pa.bk (h : v_pa I P M g) (hk : k_ok T I P g k) (hf : ¬ (I 0 11).toInt = 0) : v_pa (c_bI I 12) (c_baP P) (m_back M) g := by
  obtain ⟨h1, h2, h3⟩ := h
  have er : ∀ a j, a ≠ 110 → a ≠ 112 → a ≠ 113 → a ≠ 114 → a ≠ 115 → m_back M a j = M a j := fun a j a1 a2 a3 a4 a5 => by
    unfold m_back
    rw [m_cp_ne a5, m_cq_ne ⟨a3, a4⟩, m_cz_ne ⟨a1, a2⟩]
  have e13 : ∀ i, i < 64 → m_back M 113 i = M 117 i := fun i hi => by
    unfold m_back
    rw [m_cp_ne (by decide), m_cq_at (by decide), if_pos hi, m_cz_ne ⟨by decide, by decide⟩]
  have e14 : ∀ i, i < 64 → m_back M 114 i = M 118 i := fun i hi => by
    unfold m_back
    rw [m_cp_ne (by decide), m_cq_bt (by decide), if_pos hi, m_cz_ne ⟨by decide, by decide⟩]
  have e15 : ∀ i, i < 8 → m_back M 115 i = M 119 i := fun i hi => by
    unfold m_back
    rw [m_cp_at, if_pos hi, m_cq_ne ⟨by decide, by decide⟩, m_cz_ne ⟨by decide, by decide⟩]
  have eI : c_bI I 12 0 11 = I 0 11 := by rw [c_bI_ne (fun j hj => by omega) 12 (by omega)]
  have h3' := h3 hf
  have hw := (hk.2.2.2.2.2.2 hf).2
  refine ⟨h3'.fr hw c_ofr.rf (fun q hq => by unfold c_baP; rw [c_bP_at 8 hq, c_bT_ne (fun j hj => by omega) 12 (by omega)]) e13 e14 e15, by rw [eI, er 102 20 (by decide) (by decide) (by decide) (by decide) (by decide)]; exact h2, fun _ => h3'.fr hw c_ofr.rf (fun q hq => by unfold c_baP; rw [c_bP_ne (by omega), c_bT_ne (fun j hj => by omega) 12 (by omega)]) (fun i _ => er 117 i (by decide) (by decide) (by decide) (by decide) (by decide)) (fun i _ => er 118 i (by decide) (by decide) (by decide) (by decide) (by decide)) (fun i _ => er 119 i (by decide) (by decide) (by decide) (by decide) (by decide))⟩
end
