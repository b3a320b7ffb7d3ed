/-! ===== the reference: OVER goes over a thing (own text) ===== -/
/-- one part: the part, or what comes of it; the thing made anew, if it is due -/
noncomputable def m_ovs (G : wd_I → Int32 → wd_I × Int32) (p i s : Nat) (t : Int32) (j : Nat) (r : wd_I × Int32) : wd_I × Int32 :=
  @ite (wd_I × Int32) (m_part r.1 p t.toInt.toNat i j) (Classical.propDecidable _)
    (if (G r.1 (r.1 108 (12 * t.toInt.toNat + j))).2.toInt = (r.1 108 (12 * t.toInt.toNat + j)).toInt then ((G r.1 (r.1 108 (12 * t.toInt.toNat + j))).1, r.2)
    else if r.2.toInt = -1 then m_cani (G r.1 (r.1 108 (12 * t.toInt.toNat + j))).1 (wd_up (m_copyOf (m_mk (G r.1 (r.1 108 (12 * t.toInt.toNat + j))).1) t s) 108 (12 * ((G r.1 (r.1 108 (12 * t.toInt.toNat + j))).1 102 8).toInt.toNat + j) (G r.1 (r.1 108 (12 * t.toInt.toNat + j))).2, (G r.1 (r.1 108 (12 * t.toInt.toNat + j))).1 102 8) (m_nomk (G r.1 (r.1 108 (12 * t.toInt.toNat + j))).1, r.2)
    else (wd_up (G r.1 (r.1 108 (12 * t.toInt.toNat + j))).1 108 (12 * r.2.toInt.toNat + j) (G r.1 (r.1 108 (12 * t.toInt.toNat + j))).2, r.2)) r
noncomputable def m_ovl (G : wd_I → Int32 → wd_I × Int32) (p i s : Nat) (t : Int32) : Nat → Nat → wd_I × Int32 → wd_I × Int32
  | 0, _, r => r
  | n + 1, j, r => m_ovl G p i s t n (j + 1) (m_ovs G p i s t j r)
def m_fin (s : Nat) (t : Int32) (r : wd_I × Int32) : wd_I × Int32 := if r.2.toInt = -1 then (r.1, t) else (m_ends r.1 r.2 s, r.2)
noncomputable def m_ov (p : Nat) : Nat → wd_I → Int32 → Nat → wd_I × Int32
  | 0, M, t, _ => (M, t)
  | f + 1, M, t, i => if (M 102 36).toInt = 0 then (if (i : Int) = (M 115 p).toInt then m_became M t (M 105 t.toInt.toNat).toInt.toNat else @ite (wd_I × Int32) (m_self M p t.toInt.toNat i) (Classical.propDecidable _) (m_ov p f M t (i + 1)) (m_fin (M 105 t.toInt.toNat).toInt.toNat t (m_ovl (fun N q => m_ov p f N q (m_nxt M p i)) p i (M 105 t.toInt.toNat).toInt.toNat t (M 105 t.toInt.toNat).toInt.toNat 0 (M, ab_ii (-1))))) else (M, t)
/-- what OVER needs of the table -/
def m_op (n : Int) (M : wd_I) : Prop := m_cl M n ∧ 0 ≤ n ∧ n ≤ (M 102 8).toInt ∧ m_rm M ∧ (0 ≤ (M 102 33).toInt ∧ (M 102 33).toInt ≤ 11) ∧ ((M 102 33).toInt = 7 → (0 ≤ (M 102 34).toInt ∧ (M 102 34).toInt ≤ 11) ∧ 0 ≤ (M 110 (M 102 34).toInt.toNat).toInt ∧ (M 110 (M 102 34).toInt.toNat).toInt < n)
theorem m_op_fr {n n' : Int} {M M' : wd_I} (h : m_op n M) (hf : m_fr n' M M') (hn : n ≤ n') (hr : m_rm M') (h8 : (M 102 8).toInt ≤ (M' 102 8).toInt) : m_op n M' := by
  obtain ⟨a1, a2, a3, a4, a5, a6⟩ := h
  refine ⟨m_cl_sb (hf.le hn).1 a1, a2, by omega, hr, ?_, ?_⟩
  · rw [hf.2.2 33 (by decide) (by decide) (by decide) (by decide)]; exact a5
  · rw [hf.2.2 33 (by decide) (by decide) (by decide) (by decide), hf.2.2 34 (by decide) (by decide) (by decide) (by decide), hf.2.1 110 (by decide)]; exact a6
theorem m_became_good {n : Int} {M : wd_I} (h : m_op n M) {t : Int32} {s : Nat} (h0 : 0 ≤ t.toInt) (h1 : t.toInt < n) : m_good (M 102 8).toInt M (m_became M t s) := by
  obtain ⟨a1, a2, a3, a4, a5, a6⟩ := h
  have hg := m_bec_good (n := (M 102 8).toInt) (M := m_ov1 M) (how := (M 102 33).toInt) (hw := M 102 34) (f := M 102 35) (t := t) (s := s) (by omega) (by rw [m_ov1_8]; exact Int.le_refl _) (m_ov1_rm a4) h0 (by omega) (fun h7 => by
    rw [m_ov1_row (by decide)]
    have := a6 h7
    omega)
  unfold m_became
  exact m_good.tr (M' := m_ov1 M) (x := t) ⟨m_ov1_fr, m_ov1_rm a4, by show (M 102 8).toInt ≤ (m_ov1 M 102 8).toInt; rw [m_ov1_8]; exact Int.le_refl _, h0, by show t.toInt < (m_ov1 M 102 8).toInt; rw [m_ov1_8]; omega⟩ hg (Int.le_refl _)
def m_li (s : Nat) (M : wd_I) (r : wd_I × Int32) : Prop := m_fr (M 102 8).toInt M r.1 ∧ m_rm r.1 ∧ (M 102 8).toInt ≤ (r.1 102 8).toInt ∧ (r.2.toInt = -1 ∨ ((M 102 8).toInt ≤ r.2.toInt ∧ r.2.toInt < (r.1 102 8).toInt ∧ (r.1 105 r.2.toInt.toNat).toInt = (s : Int) ∧ m_pr (r.1 102 8).toInt r.2.toInt.toNat s r.1))
theorem m_pr_le {n n' : Int} {c s : Nat} {N : wd_I} (h : m_pr n c s N) (hn : n ≤ n') : m_pr n' c s N := fun j hj => ⟨(h j hj).1, by have := (h j hj).2; omega⟩
theorem m_li_fr {s : Nat} {M N : wd_I} {a x : Int32} {M' : wd_I} (h0 : 0 ≤ (M 102 8).toInt) (h12 : s ≤ 12) (h : m_li s M (M', a)) (hg : m_good (M' 102 8).toInt M' (N, x)) : m_li s M (N, a) := by
  obtain ⟨hf, hr, h8, hA⟩ := h
  obtain ⟨gf, gr, g8, gx⟩ := hg
  change m_fr (M 102 8).toInt M M' at hf
  change (M 102 8).toInt ≤ (M' 102 8).toInt at h8
  change m_fr (M' 102 8).toInt M' N at gf
  change (M' 102 8).toInt ≤ (N 102 8).toInt at g8
  refine ⟨hf.tr gf h8, gr, Int.le_trans h8 g8, ?_⟩
  rcases hA with hA | ⟨b1, b2, b3, b4⟩
  · exact Or.inl hA
  · right
    change (M 102 8).toInt ≤ a.toInt at b1
    change a.toInt < (M' 102 8).toInt at b2
    change (M' 105 a.toInt.toNat).toInt = (s : Int) at b3
    change m_pr (M' 102 8).toInt a.toInt.toNat s M' at b4
    refine ⟨b1, show a.toInt < (N 102 8).toInt by omega, ?_, ?_⟩
    · show (N 105 a.toInt.toNat).toInt = (s : Int)
      rw [(gf.1.1 a.toInt.toNat (by omega)).2.2.1]
      exact b3
    · intro j hj
      show 0 ≤ (N 108 (12 * a.toInt.toNat + j)).toInt ∧ (N 108 (12 * a.toInt.toNat + j)).toInt < (N 102 8).toInt
      rw [(gf.1.2 (12 * a.toInt.toNat + j) (by omega)).1]
      have := b4 j hj
      omega
theorem m_li_new {s j : Nat} {M N : wd_I} {t x a : Int32} {n : Int} (hop : m_op n M) (ht0 : 0 ≤ t.toInt) (ht1 : t.toInt < n) (hs : (M 105 t.toInt.toNat).toInt = (s : Int)) (h12 : s ≤ 12) (hpt : ∀ j, j < s → 0 ≤ (M 108 (12 * t.toInt.toNat + j)).toInt ∧ (M 108 (12 * t.toInt.toNat + j)).toInt < n) (h : m_li s M (N, a)) (hx : 0 ≤ x.toInt ∧ x.toInt < (N 102 8).toInt) (hc : m_can N) : m_li s M (wd_up (m_copyOf (m_mk N) t s) 108 (12 * (N 102 8).toInt.toNat + j) x, N 102 8) := by
  obtain ⟨hf, hr, h8, -⟩ := h
  obtain ⟨o1, o2, o3, o4, o5, o6⟩ := id hop
  change m_fr (M 102 8).toInt M N at hf
  change (M 102 8).toInt ≤ (N 102 8).toInt at h8
  change m_rm N at hr
  have hlt := m_can_lt hr hc
  have hfK : m_fr (M 102 8).toInt M (m_copyOf (m_mk N) t s) := m_copyOf_fr (m_mk_fr hf) (by rw [m_mk_8]; exact h8)
  have hfW : m_fr (M 102 8).toInt M (wd_up (m_copyOf (m_mk N) t s) 108 (12 * (N 102 8).toInt.toNat + j) x) := m_fr_up hfK (by unfold m_wr; omega)
  have hs1 : m_s1 (m_mk N) (wd_up (m_copyOf (m_mk N) t s) 108 (12 * (N 102 8).toInt.toNat + j) x) := by
    refine ⟨?_, fun k hk => ?_⟩
    · rw [wd_up_row _ _ _ (by decide), m_copyOf_8]
    · rw [wd_up_row _ _ _ (by decide)]
      unfold m_copyOf
      rw [m_cpl_row (by decide) (by decide), m_begins_n hk]
  obtain ⟨r1, r2⟩ := m_rm_s1 hr hc hs1
  refine ⟨hfW, r1, show (M 102 8).toInt ≤ _ by rw [r2]; omega, Or.inr ⟨h8, show (N 102 8).toInt < _ by rw [r2]; omega, ?_, ?_⟩⟩
  · show (wd_up (m_copyOf (m_mk N) t s) 108 (12 * (N 102 8).toInt.toNat + j) x 105 (N 102 8).toInt.toNat).toInt = (s : Int)
    have e := m_copyOf_sz (M := m_mk N) (t := t) (s := s)
    rw [m_mk_8] at e
    rw [wd_up_row _ _ _ (by decide), e, show m_mk N 105 = N 105 from wd_up_row _ _ _ (by decide), (hf.1.1 t.toInt.toNat (by omega)).2.2.1]
    exact hs
  · refine m_pr_up (fun k hk => ?_) ⟨hx.1, by show x.toInt < _; rw [r2]; omega⟩
    have e := m_copyOf_pt (M := m_mk N) (t := t) (s := s) ht0 (by rw [m_mk_8]; omega) h12 hk
    rw [m_mk_8] at e
    rw [e, show m_mk N 108 = N 108 from wd_up_row _ _ _ (by decide), (hf.1.2 (12 * t.toInt.toNat + k) (by omega)).1]
    have := hpt k hk
    refine ⟨this.1, ?_⟩
    show _ < (wd_up (m_copyOf (m_mk N) t s) 108 (12 * (N 102 8).toInt.toNat + j) x 102 8).toInt
    rw [r2]
    omega
theorem m_li_up {s j : Nat} {M N : wd_I} {x a : Int32} (h0 : 0 ≤ (M 102 8).toInt) (h : m_li s M (N, a)) (ha : ¬ a.toInt = -1) (hx : 0 ≤ x.toInt ∧ x.toInt < (N 102 8).toInt) : m_li s M (wd_up N 108 (12 * a.toInt.toNat + j) x, a) := by
  obtain ⟨hf, hr, h8, hA⟩ := h
  change m_fr (M 102 8).toInt M N at hf
  change (M 102 8).toInt ≤ (N 102 8).toInt at h8
  change m_rm N at hr
  have e102 : wd_up N 108 (12 * a.toInt.toNat + j) x 102 = N 102 := wd_up_row _ _ _ (by decide)
  rcases hA with hA | ⟨b1, b2, b3, b4⟩
  · exact absurd hA ha
  · change (M 102 8).toInt ≤ a.toInt at b1
    change a.toInt < (N 102 8).toInt at b2
    refine ⟨m_fr_up hf (by unfold m_wr; omega), ?_, ?_, Or.inr ⟨b1, ?_, ?_, ?_⟩⟩
    · show m_rm (wd_up N 108 (12 * a.toInt.toNat + j) x)
      unfold m_rm
      rw [e102]
      exact hr
    · show (M 102 8).toInt ≤ (wd_up N 108 (12 * a.toInt.toNat + j) x 102 8).toInt
      rw [e102]; exact h8
    · show a.toInt < (wd_up N 108 (12 * a.toInt.toNat + j) x 102 8).toInt
      rw [e102]; exact b2
    · show (wd_up N 108 (12 * a.toInt.toNat + j) x 105 a.toInt.toNat).toInt = _
      rw [wd_up_row _ _ _ (by decide)]; exact b3
    · show m_pr (wd_up N 108 (12 * a.toInt.toNat + j) x 102 8).toInt a.toInt.toNat s (wd_up N 108 (12 * a.toInt.toNat + j) x)
      rw [e102]
      exact m_pr_up b4 hx
theorem m_li_nomk {s : Nat} {M N : wd_I} {a : Int32} (h0 : 0 ≤ (M 102 8).toInt) (h12 : s ≤ 12) (h : m_li s M (N, a)) (hp : 0 < (N 102 8).toInt) : m_li s M (m_nomk N, a) := m_li_fr h0 h12 h (m_good_no (t := ab_ii 0) h.2.1 ⟨by decide, by show (0 : Int) < _; exact hp⟩)
theorem m_ovs_li {G : wd_I → Int32 → wd_I × Int32} {p i s j : Nat} {M : wd_I} {t : Int32} {n : Int} (hop : m_op n M) (ht0 : 0 ≤ t.toInt) (ht1 : t.toInt < n) (hs : (M 105 t.toInt.toNat).toInt = (s : Int)) (h12 : s ≤ 12) (hpt : ∀ j, j < s → 0 ≤ (M 108 (12 * t.toInt.toNat + j)).toInt ∧ (M 108 (12 * t.toInt.toNat + j)).toInt < n) (hj : j < s)
    (hG : ∀ N q, m_op n N → 0 ≤ q.toInt → q.toInt < n → m_good (N 102 8).toInt N (G N q)) {M' : wd_I} {a : Int32} (h : m_li s M (M', a)) : m_li s M (m_ovs G p i s t j (M', a)) := by
  obtain ⟨o1, o2, o3, o4, o5, o6⟩ := id hop
  have hf : m_fr (M 102 8).toInt M M' := h.1
  have h8 : (M 102 8).toInt ≤ (M' 102 8).toInt := h.2.2.1
  have hopN := m_op_fr hop hf o3 h.2.1 h8
  have eq : M' 108 (12 * t.toInt.toNat + j) = M 108 (12 * t.toInt.toNat + j) := (hf.1.2 _ (by omega)).1
  have hq := hpt j hj
  have hg := hG M' (M' 108 (12 * t.toInt.toNat + j)) hopN (by rw [eq]; exact hq.1) (by rw [eq]; exact hq.2)
  have hli := m_li_fr (x := (G M' (M' 108 (12 * t.toInt.toNat + j))).2) (N := (G M' (M' 108 (12 * t.toInt.toNat + j))).1) (by omega) h12 h hg
  obtain ⟨g1, g2, g3, g4, g5⟩ := hg
  have hNp : 0 < ((G M' (M' 108 (12 * t.toInt.toNat + j))).1 102 8).toInt := by omega
  unfold m_ovs
  split
  · split
    · exact hli
    · split
      · by_cases hc : m_can (G M' (M' 108 (12 * t.toInt.toNat + j))).1
        · rw [m_cani_t hc]
          exact m_li_new hop ht0 ht1 hs h12 hpt hli ⟨g4, g5⟩ hc
        · rw [m_cani_f hc]
          exact m_li_nomk (by omega) h12 hli hNp
      · rename_i ha
        exact m_li_up (by omega) hli ha ⟨g4, g5⟩
  · exact h
