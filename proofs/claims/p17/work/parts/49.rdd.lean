section
/-! ===== the reference: reading a thing, as a function (own text) ===== -/
def m_sz (M : wd_I) (t : Int32) : Nat := (M 105 t.toInt.toNat).toInt.toNat
def m_e1 (M : wd_I) (t : Int32) (s : Nat) : wd_I := if ((m_letters M).1 102 24).toInt = -1 ∧ ¬ (m_hk (m_letters M).1 t.toInt.toNat (m_letters M).2 s).toInt = 0 then m_fails (m_letters M).1 (M 102 23) else (m_letters M).1
def m_e2 (M : wd_I) (t : Int32) (s : Nat) : wd_I := (m_one (m_e1 M t s) (ab_ii 58) (ab_ii 58)).1
def m_e3 (R : wd_I × Int32) (t key : Int32) (s : Nat) : wd_I := if (R.1 102 24).toInt = -1 then m_puts R.1 t key R.2 s else R.1
def m_ent (G : wd_I → wd_I × Int32) (M : wd_I) (t : Int32) (s : Nat) : wd_I × Int32 := (m_e3 (G (m_e2 M t s)) t (m_letters M).2 s, (G (m_e2 M t s)).2)
def m_item (G : wd_I → wd_I × Int32) (mp : Int) (M : wd_I) (t : Int32) (s : Nat) : wd_I := if mp = 3 then (m_ent G M t s).1 else m_adds (G M).1 t (ab_ii 0) (G M).2 s
def m_itl (G : wd_I → wd_I × Int32) (mp : Int) (t : Int32) : Nat → wd_I → wd_I
  | 0, M => M
  | n + 1, M => if (M 102 24).toInt = -1 ∧ (m_here M).toInt = 44 ∧ m_sz M t < 12 then m_itl G mp t n (m_item G mp (m_stp M) t (m_sz M t)) else M
def m_all (G : wd_I → wd_I × Int32) (mp : Int) (M : wd_I) (t close : Int32) : wd_I := if (M 102 24).toInt = -1 ∧ (m_here M).toInt = close.toInt then m_stp M else (m_one (m_itl G mp t 102 (m_item G mp M t (m_sz M t))) close close).1
def m_rpair (G : wd_I → wd_I × Int32) (M : wd_I) : wd_I × Int32 :=
  let A := m_adds (G (m_begins M (ab_ii 1) (ab_ii 0) (ab_ii 0))).1 (M 102 8) (ab_ii 0) (G (m_begins M (ab_ii 1) (ab_ii 0) (ab_ii 0))).2 0
  let B := (m_one A (ab_ii 44) (ab_ii 44)).1
  let C := m_adds (G B).1 (M 102 8) (ab_ii 0) (G B).2 1
  (m_ends (m_one C (ab_ii 41) (ab_ii 41)).1 (M 102 8) 2, M 102 8)
def m_rmany (G : wd_I → wd_I × Int32) (M : wd_I) (sort close : Int32) : wd_I × Int32 :=
  let A := m_all G sort.toInt (m_begins M sort (ab_ii 0) (ab_ii 0)) (M 102 8) close
  (m_ends A (M 102 8) (m_sz A (M 102 8)), M 102 8)
def m_rtag (G : wd_I → wd_I × Int32) (M : wd_I) : wd_I × Int32 :=
  let A := (m_one M (ab_ii 48) (ab_ii 57)).1
  let B := m_begins A (ab_ii 4) (ab_ii ((m_one M (ab_ii 48) (ab_ii 57)).2.toInt - 48)) (ab_ii 0)
  let C := m_adds (G B).1 (A 102 8) (ab_ii 0) (G B).2 0
  (m_ends C (A 102 8) 1, A 102 8)
def m_rd1 (G : wd_I → wd_I × Int32) (M : wd_I) : wd_I × Int32 :=
  if (m_here M).toInt = 40 then m_rpair G (m_stp M)
  else if (m_here M).toInt = 91 then m_rmany G (m_stp M) (ab_ii 2) (ab_ii 93)
  else if (m_here M).toInt = 123 then m_rmany G (m_stp M) (ab_ii 3) (ab_ii 125)
  else if (m_here M).toInt = 35 then m_rtag G (m_stp M)
  else (m_number (m_signed M).1 (m_signed M).2, (m_signed M).1 102 8)
def m_rm1 (M : wd_I) : wd_I := wd_up M 102 25 (ab_ii ((M 102 25).toInt + 1))
def m_rd : Nat → wd_I → wd_I × Int32
  | 0, M => (m_fails M (M 102 23), ab_ii 0)
  | f + 1, M => if ¬ (M 102 24).toInt = -1 then (m_fails M (M 102 23), ab_ii 0) else m_rd1 (m_rd f) (m_rm1 M)
/-- what a reading leaves -/
def m_rr (M : wd_I) (R : wd_I × Int32) : Prop := m_rg M R.1 ∧ 0 ≤ R.2.toInt ∧ R.2.toInt < (R.1 102 8).toInt
def m_rG (G : wd_I → wd_I × Int32) : Prop := ∀ N, m_rp N → m_rr N (G N)
/-- a thing in the making: how many parts, where they lie -/
def m_pd (M0 M : wd_I) (t : Int32) (s : Nat) : Prop := m_rg M0 M ∧ t.toInt < (M 102 8).toInt ∧ (M 105 t.toInt.toNat).toInt = (s : Int) ∧ m_pr 3120 t.toInt.toNat s M
theorem m_pd_rg {M0 M N : wd_I} {t : Int32} {s : Nat} (h : m_pd M0 M t s) (h12 : s ≤ 12) (h0 : 0 ≤ t.toInt) (hg : m_rg M N) : m_pd M0 N t s := by
  obtain ⟨a1, a0, a2, a3⟩ := h
  refine ⟨a1.tr hg, by have := hg.2.2.1; omega, by rw [(hg.1.1.1 t.toInt.toNat (by omega)).2.2.1]; exact a2, fun j hj => ?_⟩
  rw [(hg.1.1.2 (12 * t.toInt.toNat + j) (by omega)).1]
  exact a3 j hj
theorem m_pd_adds {M0 M : wd_I} {t p : Int32} {s : Nat} (h : m_pd M0 M t s) (h0 : 0 ≤ t.toInt) (hn : 0 ≤ (M0 102 8).toInt) (ht : (M0 102 8).toInt ≤ t.toInt) (h11 : s ≤ 11) (hp : 0 ≤ p.toInt ∧ p.toInt < 3120) : m_pd M0 (m_adds M t (ab_ii 0) p s) t (s + 1) := by
  obtain ⟨a1, a0, a2, a3⟩ := h
  refine ⟨m_rw.rg a1 (m_adds_rw hn ht), by rw [m_adds_102]; exact a0, ?_, fun j hj => ?_⟩
  · rw [m_adds_sz, ab_tI (by omega) (by omega)]; omega
  · by_cases e : j = s
    · subst e
      rw [m_adds_pt]
      exact hp
    · rw [m_adds_pn (by omega)]
      exact a3 j (by omega)
/-- where a key goes, and whether it is a new one -/
def m_pk (M : wd_I) (t key : Int32) (s : Nat) : Nat := m_ppos M t.toInt.toNat key s 0
def m_pn (M : wd_I) (t key : Int32) (s : Nat) : Prop := m_pk M t key s = s ∨ ¬ (M 109 (12 * t.toInt.toNat + m_pk M t key s)).toInt = key.toInt
theorem m_pk_le {M : wd_I} {t key : Int32} {s : Nat} : m_pk M t key s ≤ s := by
  have := (m_ppos_b (M := M) (t := t.toInt.toNat) (key := key) s 0).2
  unfold m_pk
  omega
theorem m_puts_8 {M : wd_I} {t key p : Int32} {s j : Nat} : m_puts M t key p s 108 (12 * t.toInt.toNat + j) = @ite Int32 (j = m_pk M t key s) (Classical.propDecidable _) p (@ite Int32 (m_pn M t key s ∧ m_pk M t key s < j ∧ j ≤ s) (Classical.propDecidable _) (M 108 (12 * t.toInt.toNat + (j - 1))) (M 108 (12 * t.toInt.toNat + j))) := by
  have hle := m_pk_le (M := M) (t := t) (key := key) (s := s)
  unfold m_puts
  rw [wd_up_row _ _ _ (by decide)]
  change (wd_up (m_puts1 M t.toInt.toNat key s (m_pk M t key s)) 108 (12 * t.toInt.toNat + m_pk M t key s) p) 108 (12 * t.toInt.toNat + j) = _
  unfold m_pn
  generalize m_pk M t key s = kk at *
  by_cases e : j = kk
  · subst e
    rw [if_pos rfl, wd_up_self]
  · rw [if_neg e, wd_up_ne _ _ (Or.inr (by omega))]
    unfold m_puts1
    by_cases hn : kk = s ∨ ¬ (M 109 (12 * t.toInt.toNat + kk)).toInt = key.toInt
    · rw [if_pos hn, wd_up_row _ _ _ (by decide), m_psh_8 (s - kk) s M (by omega)]
      by_cases h2 : kk < j ∧ j ≤ s
      · rw [if_pos (by omega), if_pos ⟨hn, h2⟩]
        exact congrArg _ (by omega)
      · rw [if_neg (by omega), if_neg (fun q => h2 q.2)]
    · rw [if_neg hn, if_neg (fun q => hn q.1)]
theorem m_puts_9 {M : wd_I} {t key p : Int32} {s j : Nat} : m_puts M t key p s 109 (12 * t.toInt.toNat + j) = @ite Int32 (j = m_pk M t key s) (Classical.propDecidable _) key (@ite Int32 (m_pn M t key s ∧ m_pk M t key s < j ∧ j ≤ s) (Classical.propDecidable _) (M 109 (12 * t.toInt.toNat + (j - 1))) (M 109 (12 * t.toInt.toNat + j))) := by
  have hle := m_pk_le (M := M) (t := t) (key := key) (s := s)
  unfold m_puts
  change (wd_up (wd_up (m_puts1 M t.toInt.toNat key s (m_pk M t key s)) 108 (12 * t.toInt.toNat + m_pk M t key s) p) 109 (12 * t.toInt.toNat + m_pk M t key s) key) 109 (12 * t.toInt.toNat + j) = _
  unfold m_pn
  generalize m_pk M t key s = kk at *
  by_cases e : j = kk
  · subst e
    rw [if_pos rfl, wd_up_self]
  · rw [if_neg e, wd_up_ne _ _ (Or.inr (by omega)), wd_up_row _ _ _ (by decide)]
    unfold m_puts1
    by_cases hn : kk = s ∨ ¬ (M 109 (12 * t.toInt.toNat + kk)).toInt = key.toInt
    · rw [if_pos hn, wd_up_row _ _ _ (by decide), m_psh_9 (s - kk) s M (by omega)]
      by_cases h2 : kk < j ∧ j ≤ s
      · rw [if_pos (by omega), if_pos ⟨hn, h2⟩]
        exact congrArg _ (by omega)
      · rw [if_neg (by omega), if_neg (fun q => h2 q.2)]
    · rw [if_neg hn, if_neg (fun q => hn q.1)]
theorem m_puts_5 {M : wd_I} {t key p : Int32} {s : Nat} : m_puts M t key p s 105 t.toInt.toNat = @ite Int32 (m_pn M t key s) (Classical.propDecidable _) (ab_ii ((s : Int) + 1)) (M 105 t.toInt.toNat) := by
  unfold m_puts
  rw [wd_up_row _ _ _ (by decide), wd_up_row _ _ _ (by decide)]
  change m_puts1 M t.toInt.toNat key s (m_pk M t key s) 105 t.toInt.toNat = _
  unfold m_pn m_puts1
  split
  next h => exact wd_up_self _ _ _ _
  next h => rfl
theorem m_pd_puts {M0 M : wd_I} {t key p : Int32} {s : Nat} (h : m_pd M0 M t s) (h0 : 0 ≤ t.toInt) (hn : 0 ≤ (M0 102 8).toInt) (ht : (M0 102 8).toInt ≤ t.toInt) (h12 : s ≤ 12) (hp : 0 ≤ p.toInt ∧ p.toInt < 3120) : ∃ s', m_pd M0 (m_puts M t key p s) t s' ∧ s ≤ s' ∧ s' ≤ s + 1 := by
  obtain ⟨a1, a0, a2, a3⟩ := h
  have hle := m_pk_le (M := M) (t := t) (key := key) (s := s)
  have hrw : m_rw (M0 102 8).toInt M (m_puts M t key p s) := m_puts_rw hn ht
  by_cases hc : m_pn M t key s
  · refine ⟨s + 1, ⟨m_rw.rg a1 hrw, by rw [hrw.2.2]; exact a0, ?_, fun j hj => ?_⟩, by omega, by omega⟩
    · rw [m_puts_5, if_pos hc, ab_tI (by omega) (by omega)]; omega
    · rw [m_puts_8]
      split
      · exact hp
      · split
        · exact a3 _ (by omega)
        · next h1 h2 => exact a3 _ (by
            by_cases e : j = s
            · exact absurd ⟨hc, by omega, by omega⟩ h2
            · omega)
  · refine ⟨s, ⟨m_rw.rg a1 hrw, by rw [hrw.2.2]; exact a0, ?_, fun j hj => ?_⟩, by omega, by omega⟩
    · rw [m_puts_5, if_neg hc]; exact a2
    · rw [m_puts_8]
      split
      · exact hp
      · rw [if_neg (fun q => hc q.1)]
        exact a3 _ hj
theorem m_e1_sc {M : wd_I} {t : Int32} {s : Nat} (h : m_tp M) : m_sc M (m_e1 M t s) := by
  unfold m_e1
  split
  · exact (m_letters_sc h).tr (m_fails_sc (m_letters_sc h).2.2.1 h.1).1
  · exact m_letters_sc h
theorem m_e2_sc {M : wd_I} {t : Int32} {s : Nat} (h : m_tp M) : m_sc M (m_e2 M t s) := (m_e1_sc h).tr (m_one_sc (m_e1_sc h).2.2.1 (by decide)).1
theorem m_rr_lt {M : wd_I} {R : wd_I × Int32} (hp : m_rp M) (h : m_rr M R) : 0 ≤ R.2.toInt ∧ R.2.toInt < 3120 := ⟨h.2.1, by have := (m_rp_lt (h.1.rp hp)).2; have := h.2.2; omega⟩
theorem m_pd_item {G : wd_I → wd_I × Int32} (hG : m_rG G) {mp : Int} {M0 M : wd_I} {t : Int32} {s : Nat} (hp0 : m_rp M0) (h : m_pd M0 M t s) (h0 : 0 ≤ t.toInt) (ht : (M0 102 8).toInt ≤ t.toInt) (h11 : s ≤ 11) : ∃ s', m_pd M0 (m_item G mp M t s) t s' ∧ s' ≤ s + 1 := by
  have hp := h.1.rp hp0
  have hn : 0 ≤ (M0 102 8).toInt := by have := hp0.2.1; omega
  unfold m_item
  split
  · have h2 := m_e2_sc (t := t) (s := s) hp.1
    have h2g := h2.rg
    have hp2 := h2g.rp hp
    have hg := hG _ hp2
    have hpg := m_pd_rg (m_pd_rg h (by omega) h0 h2g) (by omega) h0 hg.1
    have hlt := m_rr_lt hp2 hg
    unfold m_ent m_e3
    split
    · obtain ⟨s', q1, q2, q3⟩ := m_pd_puts (key := (m_letters M).2) hpg h0 hn ht (by omega) hlt
      exact ⟨s', q1, q3⟩
    · exact ⟨s, hpg, by omega⟩
  · have hg := hG _ hp
    have hpg := m_pd_rg h (by omega) h0 hg.1
    have hlt := m_rr_lt hp hg
    exact ⟨s + 1, m_pd_adds hpg h0 hn ht h11 hlt, by omega⟩
theorem m_pd_sz {M0 M : wd_I} {t : Int32} {s : Nat} (h : m_pd M0 M t s) : m_sz M t = s := by
  unfold m_sz
  rw [h.2.2.1]
  omega
theorem m_pd_itl {G : wd_I → wd_I × Int32} (hG : m_rG G) {mp : Int} {M0 : wd_I} {t : Int32} (hp0 : m_rp M0) (h0 : 0 ≤ t.toInt) (ht : (M0 102 8).toInt ≤ t.toInt) : ∀ (n : Nat) (M : wd_I) (s : Nat), m_pd M0 M t s → s ≤ 12 → ∃ s', m_pd M0 (m_itl G mp t n M) t s' ∧ s' ≤ 12
  | 0, M, s, h, h12 => ⟨s, h, h12⟩
  | n + 1, M, s, h, h12 => by
    unfold m_itl
    split
    next hc =>
      have hs := m_pd_sz h
      have hp := h.1.rp hp0
      have hst := (m_stp_sc hp.1 (m_here_lt (by omega)).1).1.rg
      have h2 := m_pd_rg h (by omega) h0 hst
      rw [hs]
      obtain ⟨s', q1, q2⟩ := m_pd_item hG (mp := mp) hp0 h2 h0 ht (by omega)
      exact m_pd_itl hG hp0 h0 ht n _ s' q1 (by omega)
    next => exact ⟨s, h, h12⟩
theorem m_pd_all {G : wd_I → wd_I × Int32} (hG : m_rG G) {mp : Int} {M0 M : wd_I} {t close : Int32} {s : Nat} (hp0 : m_rp M0) (h : m_pd M0 M t s) (h0 : 0 ≤ t.toInt) (ht : (M0 102 8).toInt ≤ t.toInt) (h11 : s ≤ 11) (hcl : 0 ≤ close.toInt) : ∃ s', m_pd M0 (m_all G mp M t close) t s' ∧ s' ≤ 12 := by
  have hp := h.1.rp hp0
  unfold m_all
  split
  next hc => exact ⟨s, m_pd_rg h (by omega) h0 (m_stp_sc hp.1 (m_here_lt (by omega)).1).1.rg, by omega⟩
  next =>
    rw [m_pd_sz h]
    obtain ⟨s1, q1, q2⟩ := m_pd_item hG (mp := mp) hp0 h h0 ht h11
    obtain ⟨s2, r1, r2⟩ := m_pd_itl hG (mp := mp) hp0 h0 ht 102 _ s1 q1 (by omega)
    exact ⟨s2, m_pd_rg r1 (by omega) h0 (m_one_sc (r1.1.rp hp0).1 hcl).1.rg, r2⟩
theorem m_pd_begins {M0 M : wd_I} {sort v : Int32} (hp0 : m_rp M0) (h : m_rg M0 M) (hlt : (M 102 8).toInt + m_pt M + 1 ≤ (M0 102 8).toInt + m_pt M0) : m_pd M0 (m_begins M sort v (ab_ii 0)) (M 102 8) 0 := by
  have hr := m_rp_lt (h.rp hp0)
  exact ⟨m_begins_rg hp0 h hlt, by rw [m_begins_8, ab_tI (by omega) (by omega)]; omega, by rw [m_begins_sz]; rfl, fun j hj => absurd hj (Nat.not_lt_zero _)⟩
theorem m_pd_ends {M0 M : wd_I} {t : Int32} {s : Nat} (hp0 : m_rp M0) (h : m_pd M0 M t s) (h0 : 0 ≤ t.toInt) (ht : (M0 102 8).toInt ≤ t.toInt) : m_rr M0 (m_ends M t s, t) := by
  have hn : 0 ≤ (M0 102 8).toInt := by have := hp0.2.1; omega
  have hrw : m_rw (M0 102 8).toInt M (m_ends M t s) := m_ends_rw hn ht
  exact ⟨m_rw.rg h.1 hrw, h0, by show t.toInt < (m_ends M t s 102 8).toInt; rw [hrw.2.2]; exact h.2.1⟩
theorem m_rpair_rr {G : wd_I → wd_I × Int32} (hG : m_rG G) {M0 M : wd_I} (hp0 : m_rp M0) (h : m_rg M0 M) (hlt : (M 102 8).toInt + m_pt M + 1 ≤ (M0 102 8).toInt + m_pt M0) : m_rr M0 (m_rpair G M) := by
  have hr := m_rp_lt (h.rp hp0)
  have hn : 0 ≤ (M0 102 8).toInt := by have := hp0.2.1; omega
  have h0 : 0 ≤ (M 102 8).toInt := by omega
  have ht := h.2.2.1
  have b1 := m_pd_begins (sort := ab_ii 1) (v := ab_ii 0) hp0 h hlt
  have p1 := b1.1.rp hp0
  have g1 := hG _ p1
  have b2 := m_pd_adds (m_pd_rg b1 (by omega) h0 g1.1) h0 hn ht (by omega) (m_rr_lt p1 g1)
  have b3 := m_pd_rg b2 (by omega) h0 (m_one_sc (lo := ab_ii 44) (hi := ab_ii 44) (b2.1.rp hp0).1 (by decide)).1.rg
  have p3 := b3.1.rp hp0
  have g3 := hG _ p3
  have b4 := m_pd_adds (m_pd_rg b3 (by omega) h0 g3.1) h0 hn ht (by omega) (m_rr_lt p3 g3)
  have b5 := m_pd_rg b4 (by omega) h0 (m_one_sc (lo := ab_ii 41) (hi := ab_ii 41) (b4.1.rp hp0).1 (by decide)).1.rg
  exact m_pd_ends hp0 b5 h0 ht
theorem m_rmany_rr {G : wd_I → wd_I × Int32} (hG : m_rG G) {M0 M : wd_I} {sort close : Int32} (hp0 : m_rp M0) (h : m_rg M0 M) (hlt : (M 102 8).toInt + m_pt M + 1 ≤ (M0 102 8).toInt + m_pt M0) (hcl : 0 ≤ close.toInt) : m_rr M0 (m_rmany G M sort close) := by
  have hr := m_rp_lt (h.rp hp0)
  have h0 : 0 ≤ (M 102 8).toInt := by omega
  have ht := h.2.2.1
  have b1 := m_pd_begins (sort := sort) (v := ab_ii 0) hp0 h hlt
  obtain ⟨s', b2, q2⟩ := m_pd_all hG (mp := sort.toInt) hp0 b1 h0 ht (by omega) hcl
  have := m_pd_ends hp0 b2 h0 ht
  unfold m_rmany
  simp only []
  rw [m_pd_sz b2]
  exact this
theorem m_rtag_rr {G : wd_I → wd_I × Int32} (hG : m_rG G) {M0 M : wd_I} (hp0 : m_rp M0) (h : m_rg M0 M) (hlt : (M 102 8).toInt + m_pt M + 1 ≤ (M0 102 8).toInt + m_pt M0) : m_rr M0 (m_rtag G M) := by
  have hn : 0 ≤ (M0 102 8).toInt := by have := hp0.2.1; omega
  have s1 := (m_one_sc (lo := ab_ii 48) (hi := ab_ii 57) (h.rp hp0).1 (by decide)).1
  have hA := h.tr s1.rg
  have e8 : (m_one M (ab_ii 48) (ab_ii 57)).1 102 8 = M 102 8 := s1.2.1 8 (by decide) (by decide)
  have hr := m_rp_lt (hA.rp hp0)
  have hlt2 := s1.2.2.2
  have h0 : 0 ≤ ((m_one M (ab_ii 48) (ab_ii 57)).1 102 8).toInt := by omega
  have ht := hA.2.2.1
  have b1 := m_pd_begins (sort := ab_ii 4) (v := ab_ii ((m_one M (ab_ii 48) (ab_ii 57)).2.toInt - 48)) hp0 hA (by rw [e8]; omega)
  have p1 := b1.1.rp hp0
  have g1 := hG _ p1
  have b2 := m_pd_adds (m_pd_rg b1 (by omega) h0 g1.1) h0 hn ht (by omega) (m_rr_lt p1 g1)
  exact m_pd_ends hp0 b2 h0 ht
theorem m_number_rr {M0 M : wd_I} {v : Int32} (hp0 : m_rp M0) (h : m_rg M0 M) (hlt : (M 102 8).toInt + m_pt M + 1 ≤ (M0 102 8).toInt + m_pt M0) : m_rr M0 (m_number M v, M 102 8) := by
  have hr := m_rp_lt (h.rp hp0)
  have b1 := m_pd_begins (sort := ab_ii 0) (v := v) hp0 h hlt
  exact m_pd_ends hp0 b1 (by omega) h.2.2.1
theorem m_rm1_n {M : wd_I} {j : Nat} (h : j ≠ 25) : m_rm1 M 102 j = M 102 j := wd_up_ne _ _ (Or.inr h)
theorem m_rm1_pt {M : wd_I} : m_pt (m_rm1 M) = m_pt M := by unfold m_pt; rw [m_rm1_n (by decide), m_rm1_n (by decide)]
theorem m_rd1_rr {G : wd_I → wd_I × Int32} (hG : m_rG G) {M : wd_I} (hp : m_rp M) (hf : (M 102 24).toInt = -1) : m_rr M (m_rd1 G (m_rm1 M)) := by
  have h1 : m_rg M (m_rm1 M) := m_many1_rg hp.1
  have p1 := h1.rp hp
  have ef : m_rm1 M 102 24 = M 102 24 := m_rm1_n (by decide)
  have e8 : m_rm1 M 102 8 = M 102 8 := m_rm1_n (by decide)
  have ept := m_rm1_pt (M := M)
  have hst : 0 ≤ (m_here (m_rm1 M)).toInt → m_rg M (m_stp (m_rm1 M)) ∧ (m_stp (m_rm1 M) 102 8).toInt + m_pt (m_stp (m_rm1 M)) + 1 ≤ (M 102 8).toInt + m_pt M := fun h => by
    have h2 := m_stp_sc p1.1 (m_here_lt h).1
    refine ⟨h1.tr h2.1.rg, ?_⟩
    rw [h2.1.2.1 8 (by decide) (by decide), e8]
    have := h2.2
    omega
  unfold m_rd1
  split
  · exact m_rpair_rr hG hp (hst (by omega)).1 (hst (by omega)).2
  split
  · exact m_rmany_rr hG hp (hst (by omega)).1 (hst (by omega)).2 (by decide)
  split
  · exact m_rmany_rr hG hp (hst (by omega)).1 (hst (by omega)).2 (by decide)
  split
  · exact m_rtag_rr hG hp (hst (by omega)).1 (hst (by omega)).2
  · have h2 := m_signed_sc p1.1
    have h3 := h2.2 (by rw [ef]; exact hf)
    exact m_number_rr hp (h1.tr h2.1.rg) (by rw [h2.1.2.1 8 (by decide) (by decide), e8]; omega)
theorem m_rd_rr : ∀ f, m_rG (m_rd f)
  | 0, M, hp => ⟨(m_fails_sc hp.1 hp.1.1).1.rg, by show (0 : Int) ≤ 0; decide, by
      show (0 : Int) < (m_fails M (M 102 23) 102 8).toInt
      rw [(m_fails_sc hp.1 hp.1.1).1.2.1 8 (by decide) (by decide)]
      have := hp.2.1
      omega⟩
  | f + 1, M, hp => by
    unfold m_rd
    split
    next h => exact ⟨(m_fails_sc hp.1 hp.1.1).1.rg, by show (0 : Int) ≤ 0; decide, by
      show (0 : Int) < (m_fails M (M 102 23) 102 8).toInt
      rw [(m_fails_sc hp.1 hp.1.1).1.2.1 8 (by decide) (by decide)]
      have := hp.2.1
      omega⟩
    next h => exact m_rd1_rr (m_rd_rr f) hp (Classical.not_not.mp h)
end
section
/-! ===== the reference: reading a thing, walked (own text) ===== -/
theorem m_rg_pt {M N : wd_I} (h : m_rg M N) : m_pt N ≤ m_pt M := by have := h.2.2.1; have := h.2.2.2; omega
theorem m_rw_pt {n : Int} {M N : wd_I} (h : m_rw n M N) : m_pt N = m_pt M := by unfold m_pt; rw [h.2.2]
theorem m_puts_102 {M : wd_I} {t key p : Int32} {s : Nat} : m_puts M t key p s 102 = M 102 := by
  unfold m_puts m_puts1
  rw [wd_up_row _ _ _ (by decide), wd_up_row _ _ _ (by decide)]
  split
  · rw [wd_up_row _ _ _ (by decide), m_psh_row (by decide) (by decide)]
  · rfl
theorem m_item_pt {G : wd_I → wd_I × Int32} (hG : m_rG G) {mp : Int} {M : wd_I} {t : Int32} {s : Nat} (hp : m_rp M) : m_pt (m_item G mp M t s) ≤ m_pt M := by
  unfold m_item
  split
  · have h2 := (m_e2_sc (t := t) (s := s) hp.1).rg
    have hg := m_rg_pt (hG _ (h2.rp hp)).1
    have h3 := m_rg_pt h2
    unfold m_ent m_e3
    split
    · have e : m_pt (m_puts (G (m_e2 M t s)).1 t (m_letters M).2 (G (m_e2 M t s)).2 s) = m_pt (G (m_e2 M t s)).1 := by unfold m_pt; rw [m_puts_102]
      show m_pt (m_puts _ _ _ _ _) ≤ _
      omega
    · show m_pt (G (m_e2 M t s)).1 ≤ _
      omega
  · have hg := m_rg_pt (hG _ hp).1
    have e : m_pt (m_adds (G M).1 t (ab_ii 0) (G M).2 s) = m_pt (G M).1 := by unfold m_pt; rw [m_adds_102]
    omega
set_option maxHeartbeats 4000000 in
set_option maxRecDepth 100000 in
theorem x_readsEntry {d : Nat} (hd : 4 ≤ d) {I : wd_I} {P : wd_P} {g : Nat → ab_C} {k z dp s : Nat} {G : wd_I → wd_I × Int32} (hG : m_rG G) (hdp : dp ≤ 12) (hX : ∀ (N : wd_I) (Q : ab_Q), m_rp N → Q (some (.inl (G N).2)) (wd I P (G N).1 g, k, z) → ab_CT (d - 1) 156 [wd_v 102, .inl (ab_ii ((dp : Int) + 1))] (wd I P N g, k, z) Q) {M0 M : wd_I} {t : Int32} {Q : ab_Q} (hp0 : m_rp M0) (h : m_pd M0 M t s) (h0 : 0 ≤ t.toInt) (ht : (M0 102 8).toInt ≤ t.toInt) (h11 : s ≤ 11) (hQ : Q (some (.inl (m_ent G M t s).2)) (wd I P (m_ent G M t s).1 g, k, z)) : ab_CT d 154 [wd_v 102, .inl t, .inl (ab_ii (dp : Int))] (wd I P M g, k, z) Q := by
  have hp := h.1.rp hp0
  have hL := m_letters_sc hp.1
  have hsL : ((m_letters M).1 105 t.toInt.toNat).toInt = (s : Int) := by rw [hL.1 105 (by decide)]; exact h.2.2.1
  have e1sc := m_e1_sc (t := t) (s := s) hp.1
  have e2sc := m_e2_sc (t := t) (s := s) hp.1
  have p2 := e2sc.rg.rp hp
  have g2 := hG _ p2
  have pd2 := m_pd_rg (m_pd_rg h (by omega) h0 e2sc.rg) (by omega) h0 g2.1
  have hsG := pd2.2.2.1
  have hlt := m_rp_lt (h.1.rp hp0)
  have htl := h.2.1
  have hx := fun Q hq => hX (m_e2 M t s) Q p2 hq
  have hone := fun Q hq => x_one (d := d - 1) (by omega) (I := I) (P := P) (g := g) (k := k) (z := z) (Q := Q) (M := m_e1 M t s) (lo := ab_ii 58) (hi := ab_ii 58) e1sc.2.2.1 hq
  have hlet := fun Q hq => x_letters (d := d - 1) (by omega) (I := I) (P := P) (g := g) (k := k) (z := z) (Q := Q) (M := M) hp.1 hq
  have hhk := fun Q hq => x_hasKey (d := d - 1) (by omega) (I := I) (P := P) (g := g) (k := k) (z := z) (Q := Q) (M := (m_letters M).1) (key := (m_letters M).2) h0 (by omega) hsL (by omega) hq
  have hhb := m_hk_b (M := (m_letters M).1) (t := t.toInt.toNat) (key := (m_letters M).2) s
  unfold m_ent m_e3 at hQ
  have e2d : m_e2 M t s = (m_one (m_e1 M t s) (ab_ii 58) (ab_ii 58)).1 := rfl
  clear hX hG e1sc p2 g2 pd2 h
  generalize G (m_e2 M t s) = R at *
  obtain ⟨N2, p⟩ := R
  change (N2 105 t.toInt.toNat).toInt = (s : Int) at hsG
  change Q (some (.inl p)) (wd I P (if (N2 102 24).toInt = -1 then m_puts N2 t (m_letters M).2 p s else N2) g, k, z) at hQ
  change ∀ Q : ab_Q, Q (some (.inl p)) (wd I P N2 g, k, z) → _ at hx
  rw [e2d] at hx
  clear e2d e2sc
  have hone2 : ∀ Q : ab_Q, (∀ v, Q (some (.inl v)) (wd I P (m_one (m_e1 M t s) (ab_ii 58) (ab_ii 58)).1 g, k, z)) → ab_CT (d - 1) 146 [wd_v 102, .inl (ab_ii 58), .inl (ab_ii 58)] (wd I P (m_e1 M t s) g, k, z) Q := fun Q hq => hone Q (hq _)
  clear hone
  generalize (m_one (m_e1 M t s) (ab_ii 58) (ab_ii 58)).1 = N3 at *
  by_cases hdup : ((m_letters M).1 102 24).toInt = -1 ∧ ¬ (m_hk (m_letters M).1 t.toInt.toNat (m_letters M).2 s).toInt = 0
  · have e1 : m_e1 M t s = m_fails (m_letters M).1 (M 102 23) := if_pos hdup
    rw [e1] at hone2
    generalize m_letters M = L at *
    obtain ⟨N1, key⟩ := L
    dsimp only at *
    by_cases hf : (N2 102 24).toInt = -1
    · rw [if_pos hf] at hQ
      refine wd_inC rfl (by omega) rfl ?_
      intro C9 X9 hC9 hX9
      repeat' ((conv => whnf); first
    | (refine hC9 150 _ _ _ (hlet _ ?_))
    | (refine hC9 145 _ _ _ (x_isFault (M := N1) (by omega) (fun hc => ?_) (fun hc => ?_)); (try (exfalso; omega)))
    | (refine hC9 153 _ _ _ (hhk _ ?_))
    | (refine hC9 144 _ _ _ (x_fails (M := N1) (by omega) ?_))
    | (refine hC9 146 _ _ _ (hone2 _ (fun v => ?_)))
    | (refine hC9 156 _ _ _ (hx _ ?_))
    | (refine hC9 145 _ _ _ (x_isFault (M := N2) (by omega) (fun hc => ?_) (fun hc => ?_)); (try (exfalso; omega)))
    | (refine hC9 152 _ _ _ (x_puts (M := N2) (by omega) h0 (by omega) hsG (by omega) ?_))
    | (intro v9 hv9; (try simp (disch := omega) only [ab_tI, ab_c0, wd_ix12, wd_ix8, wd_ix10, wd_up_self, wd_up_eq, wd_up_ne, Int.toNat_natCast, Int.toNat_of_nonneg, not_true_eq_false, not_false_eq_true, Option.some.injEq] at hv9); subst hv9)
    | (apply i_get; (focus (exact rfl)); (focus (exact rfl)))
    | (refine hX9 _ _ _ _ (wd_rnC rfl ?_); clear hC9 hX9 X9 C9; intro C9 X9 hC9 hX9)
    | (apply w_ialM; (focus (exact rfl)); (focus (exact (by first | exact ⟨by decide, by decide⟩ | ((try simp (disch := omega) only [ab_tI, ab_c0, wd_ix12, wd_ix8, wd_ix10, wd_up_self, wd_up_eq, wd_up_ne, Int.toNat_natCast, Int.toNat_of_nonneg, not_true_eq_false, not_false_eq_true, Option.some.injEq, wd_l103, wd_l104, wd_l105, wd_l106, wd_l107, wd_l108, wd_l109, wd_l110, wd_l111, wd_l112, wd_l113, wd_l114, wd_l115, wd_l116, wd_l117, wd_l118, wd_l119, wd_l120, wd_l121, wd_l122, wd_l123, wd_l124]); omega)))); (intro v9 hv9; (try simp (disch := omega) only [ab_tI, ab_c0, wd_ix12, wd_ix8, wd_ix10, wd_up_self, wd_up_eq, wd_up_ne, Int.toNat_natCast, Int.toNat_of_nonneg, not_true_eq_false, not_false_eq_true, Option.some.injEq] at hv9); subst hv9))
    | (apply w_putM; (focus (exact rfl)); (focus (first | exact trivial | exact Or.inl rfl | exact Or.inr rfl)); (focus (exact rfl)))
    | (apply w_iasM; (focus (exact rfl)); (focus (exact (by first | exact ⟨by decide, by decide⟩ | ((try simp (disch := omega) only [ab_tI, ab_c0, wd_ix12, wd_ix8, wd_ix10, wd_up_self, wd_up_eq, wd_up_ne, Int.toNat_natCast, Int.toNat_of_nonneg, not_true_eq_false, not_false_eq_true, Option.some.injEq, wd_l103, wd_l104, wd_l105, wd_l106, wd_l107, wd_l108, wd_l109, wd_l110, wd_l111, wd_l112, wd_l113, wd_l114, wd_l115, wd_l116, wd_l117, wd_l118, wd_l119, wd_l120, wd_l121, wd_l122, wd_l123, wd_l124]); omega)))); (intro v9 hv9; (try simp (disch := omega) only [ab_tI, ab_c0, wd_ix12, wd_ix8, wd_ix10, wd_up_self, wd_up_eq, wd_up_ne, Int.toNat_natCast, Int.toNat_of_nonneg, not_true_eq_false, not_false_eq_true, Option.some.injEq] at hv9); subst hv9))
    | (refine i_brF (by decide) ?_)
    | (refine i_brT (by decide) ?_)
    | (refine ⟨fun hc => ?_, fun hc => ?_⟩ <;> (try simp (disch := omega) only [ab_tI, ab_c0, wd_ix12, wd_ix8, wd_ix10, wd_up_self, wd_up_eq, wd_up_ne, Int.toNat_natCast, Int.toNat_of_nonneg, not_true_eq_false, not_false_eq_true, Option.some.injEq] at hc) <;> first | (exfalso; omega) | skip)
    | (apply i_cv; (focus (exact rfl)))
    | (apply w_balM; (focus (exact (by first | exact ⟨by decide, by decide⟩ | ((try simp (disch := omega) only [ab_tI, ab_c0, wd_ix12, wd_ix8, wd_ix10, wd_up_self, wd_up_eq, wd_up_ne, Int.toNat_natCast, Int.toNat_of_nonneg, not_true_eq_false, not_false_eq_true, Option.some.injEq, wd_l103, wd_l104, wd_l105, wd_l106, wd_l107, wd_l108, wd_l109, wd_l110, wd_l111, wd_l112, wd_l113, wd_l114, wd_l115, wd_l116, wd_l117, wd_l118, wd_l119, wd_l120, wd_l121, wd_l122, wd_l123, wd_l124]); omega)))); (intro v9 hv9; (try simp (disch := omega) only [ab_tI, ab_c0, wd_ix12, wd_ix8, wd_ix10, wd_up_self, wd_up_eq, wd_up_ne, Int.toNat_natCast, Int.toNat_of_nonneg, not_true_eq_false, not_false_eq_true, Option.some.injEq] at hv9); subst hv9))
    | (apply w_basM; (focus (exact (by first | exact ⟨by decide, by decide⟩ | ((try simp (disch := omega) only [ab_tI, ab_c0, wd_ix12, wd_ix8, wd_ix10, wd_up_self, wd_up_eq, wd_up_ne, Int.toNat_natCast, Int.toNat_of_nonneg, not_true_eq_false, not_false_eq_true, Option.some.injEq, wd_l103, wd_l104, wd_l105, wd_l106, wd_l107, wd_l108, wd_l109, wd_l110, wd_l111, wd_l112, wd_l113, wd_l114, wd_l115, wd_l116, wd_l117, wd_l118, wd_l119, wd_l120, wd_l121, wd_l122, wd_l123, wd_l124]); omega)))); (focus (first | exact Or.inl rfl | exact Or.inr rfl)); (intro v9 hv9; (try simp (disch := omega) only [ab_tI, ab_c0, wd_ix12, wd_ix8, wd_ix10, wd_up_self, wd_up_eq, wd_up_ne, Int.toNat_natCast, Int.toNat_of_nonneg, not_true_eq_false, not_false_eq_true, Option.some.injEq] at hv9); subst hv9))
    | (refine And.intro trivial ?_)
    | (refine And.intro (Or.inl rfl) ?_)
    | (refine And.intro (Or.inr rfl) ?_)
    | (refine And.intro (by ((try simp (disch := omega) only [ab_tI, ab_c0, wd_ix12, wd_ix8, wd_ix10, wd_up_self, wd_up_eq, wd_up_ne, Int.toNat_natCast, Int.toNat_of_nonneg, not_true_eq_false, not_false_eq_true, Option.some.injEq]); omega)) ?_)
    | fail)
      all_goals first | exact hQ | (exfalso; omega)
    · rw [if_neg hf] at hQ
      refine wd_inC rfl (by omega) rfl ?_
      intro C9 X9 hC9 hX9
      repeat' ((conv => whnf); first
    | (refine hC9 150 _ _ _ (hlet _ ?_))
    | (refine hC9 145 _ _ _ (x_isFault (M := N1) (by omega) (fun hc => ?_) (fun hc => ?_)); (try (exfalso; omega)))
    | (refine hC9 153 _ _ _ (hhk _ ?_))
    | (refine hC9 144 _ _ _ (x_fails (M := N1) (by omega) ?_))
    | (refine hC9 146 _ _ _ (hone2 _ (fun v => ?_)))
    | (refine hC9 156 _ _ _ (hx _ ?_))
    | (refine hC9 145 _ _ _ (x_isFault (M := N2) (by omega) (fun hc => ?_) (fun hc => ?_)); (try (exfalso; omega)))
    | (intro v9 hv9; (try simp (disch := omega) only [ab_tI, ab_c0, wd_ix12, wd_ix8, wd_ix10, wd_up_self, wd_up_eq, wd_up_ne, Int.toNat_natCast, Int.toNat_of_nonneg, not_true_eq_false, not_false_eq_true, Option.some.injEq] at hv9); subst hv9)
    | (apply i_get; (focus (exact rfl)); (focus (exact rfl)))
    | (refine hX9 _ _ _ _ (wd_rnC rfl ?_); clear hC9 hX9 X9 C9; intro C9 X9 hC9 hX9)
    | (apply w_ialM; (focus (exact rfl)); (focus (exact (by first | exact ⟨by decide, by decide⟩ | ((try simp (disch := omega) only [ab_tI, ab_c0, wd_ix12, wd_ix8, wd_ix10, wd_up_self, wd_up_eq, wd_up_ne, Int.toNat_natCast, Int.toNat_of_nonneg, not_true_eq_false, not_false_eq_true, Option.some.injEq, wd_l103, wd_l104, wd_l105, wd_l106, wd_l107, wd_l108, wd_l109, wd_l110, wd_l111, wd_l112, wd_l113, wd_l114, wd_l115, wd_l116, wd_l117, wd_l118, wd_l119, wd_l120, wd_l121, wd_l122, wd_l123, wd_l124]); omega)))); (intro v9 hv9; (try simp (disch := omega) only [ab_tI, ab_c0, wd_ix12, wd_ix8, wd_ix10, wd_up_self, wd_up_eq, wd_up_ne, Int.toNat_natCast, Int.toNat_of_nonneg, not_true_eq_false, not_false_eq_true, Option.some.injEq] at hv9); subst hv9))
    | (apply w_putM; (focus (exact rfl)); (focus (first | exact trivial | exact Or.inl rfl | exact Or.inr rfl)); (focus (exact rfl)))
    | (apply w_iasM; (focus (exact rfl)); (focus (exact (by first | exact ⟨by decide, by decide⟩ | ((try simp (disch := omega) only [ab_tI, ab_c0, wd_ix12, wd_ix8, wd_ix10, wd_up_self, wd_up_eq, wd_up_ne, Int.toNat_natCast, Int.toNat_of_nonneg, not_true_eq_false, not_false_eq_true, Option.some.injEq, wd_l103, wd_l104, wd_l105, wd_l106, wd_l107, wd_l108, wd_l109, wd_l110, wd_l111, wd_l112, wd_l113, wd_l114, wd_l115, wd_l116, wd_l117, wd_l118, wd_l119, wd_l120, wd_l121, wd_l122, wd_l123, wd_l124]); omega)))); (intro v9 hv9; (try simp (disch := omega) only [ab_tI, ab_c0, wd_ix12, wd_ix8, wd_ix10, wd_up_self, wd_up_eq, wd_up_ne, Int.toNat_natCast, Int.toNat_of_nonneg, not_true_eq_false, not_false_eq_true, Option.some.injEq] at hv9); subst hv9))
    | (refine i_brF (by decide) ?_)
    | (refine i_brT (by decide) ?_)
    | (refine ⟨fun hc => ?_, fun hc => ?_⟩ <;> (try simp (disch := omega) only [ab_tI, ab_c0, wd_ix12, wd_ix8, wd_ix10, wd_up_self, wd_up_eq, wd_up_ne, Int.toNat_natCast, Int.toNat_of_nonneg, not_true_eq_false, not_false_eq_true, Option.some.injEq] at hc) <;> first | (exfalso; omega) | skip)
    | (apply i_cv; (focus (exact rfl)))
    | (apply w_balM; (focus (exact (by first | exact ⟨by decide, by decide⟩ | ((try simp (disch := omega) only [ab_tI, ab_c0, wd_ix12, wd_ix8, wd_ix10, wd_up_self, wd_up_eq, wd_up_ne, Int.toNat_natCast, Int.toNat_of_nonneg, not_true_eq_false, not_false_eq_true, Option.some.injEq, wd_l103, wd_l104, wd_l105, wd_l106, wd_l107, wd_l108, wd_l109, wd_l110, wd_l111, wd_l112, wd_l113, wd_l114, wd_l115, wd_l116, wd_l117, wd_l118, wd_l119, wd_l120, wd_l121, wd_l122, wd_l123, wd_l124]); omega)))); (intro v9 hv9; (try simp (disch := omega) only [ab_tI, ab_c0, wd_ix12, wd_ix8, wd_ix10, wd_up_self, wd_up_eq, wd_up_ne, Int.toNat_natCast, Int.toNat_of_nonneg, not_true_eq_false, not_false_eq_true, Option.some.injEq] at hv9); subst hv9))
    | (apply w_basM; (focus (exact (by first | exact ⟨by decide, by decide⟩ | ((try simp (disch := omega) only [ab_tI, ab_c0, wd_ix12, wd_ix8, wd_ix10, wd_up_self, wd_up_eq, wd_up_ne, Int.toNat_natCast, Int.toNat_of_nonneg, not_true_eq_false, not_false_eq_true, Option.some.injEq, wd_l103, wd_l104, wd_l105, wd_l106, wd_l107, wd_l108, wd_l109, wd_l110, wd_l111, wd_l112, wd_l113, wd_l114, wd_l115, wd_l116, wd_l117, wd_l118, wd_l119, wd_l120, wd_l121, wd_l122, wd_l123, wd_l124]); omega)))); (focus (first | exact Or.inl rfl | exact Or.inr rfl)); (intro v9 hv9; (try simp (disch := omega) only [ab_tI, ab_c0, wd_ix12, wd_ix8, wd_ix10, wd_up_self, wd_up_eq, wd_up_ne, Int.toNat_natCast, Int.toNat_of_nonneg, not_true_eq_false, not_false_eq_true, Option.some.injEq] at hv9); subst hv9))
    | (refine And.intro trivial ?_)
    | (refine And.intro (Or.inl rfl) ?_)
    | (refine And.intro (Or.inr rfl) ?_)
    | (refine And.intro (by ((try simp (disch := omega) only [ab_tI, ab_c0, wd_ix12, wd_ix8, wd_ix10, wd_up_self, wd_up_eq, wd_up_ne, Int.toNat_natCast, Int.toNat_of_nonneg, not_true_eq_false, not_false_eq_true, Option.some.injEq]); omega)) ?_)
    | fail)
      all_goals first | exact hQ | (exfalso; omega)
  · have e1 : m_e1 M t s = (m_letters M).1 := if_neg hdup
    rw [e1] at hone2
    generalize m_letters M = L at *
    obtain ⟨N1, key⟩ := L
    dsimp only at *
    by_cases hf : (N2 102 24).toInt = -1
    · rw [if_pos hf] at hQ
      refine wd_inC rfl (by omega) rfl ?_
      intro C9 X9 hC9 hX9
      repeat' ((conv => whnf); first
    | (refine hC9 150 _ _ _ (hlet _ ?_))
    | (refine hC9 145 _ _ _ (x_isFault (M := N1) (by omega) (fun hc => ?_) (fun hc => ?_)))
    | (refine hC9 153 _ _ _ (hhk _ ?_))
    | (refine hC9 146 _ _ _ (hone2 _ (fun v => ?_)))
    | (refine hC9 156 _ _ _ (hx _ ?_))
    | (refine hC9 145 _ _ _ (x_isFault (M := N2) (by omega) (fun hc => ?_) (fun hc => ?_)); (try (exfalso; omega)))
    | (refine hC9 152 _ _ _ (x_puts (M := N2) (by omega) h0 (by omega) hsG (by omega) ?_))
    | (intro v9 hv9; (try simp (disch := omega) only [ab_tI, ab_c0, wd_ix12, wd_ix8, wd_ix10, wd_up_self, wd_up_eq, wd_up_ne, Int.toNat_natCast, Int.toNat_of_nonneg, not_true_eq_false, not_false_eq_true, Option.some.injEq] at hv9); subst hv9)
    | (apply i_get; (focus (exact rfl)); (focus (exact rfl)))
    | (refine hX9 _ _ _ _ (wd_rnC rfl ?_); clear hC9 hX9 X9 C9; intro C9 X9 hC9 hX9)
    | (apply w_ialM; (focus (exact rfl)); (focus (exact (by first | exact ⟨by decide, by decide⟩ | ((try simp (disch := omega) only [ab_tI, ab_c0, wd_ix12, wd_ix8, wd_ix10, wd_up_self, wd_up_eq, wd_up_ne, Int.toNat_natCast, Int.toNat_of_nonneg, not_true_eq_false, not_false_eq_true, Option.some.injEq, wd_l103, wd_l104, wd_l105, wd_l106, wd_l107, wd_l108, wd_l109, wd_l110, wd_l111, wd_l112, wd_l113, wd_l114, wd_l115, wd_l116, wd_l117, wd_l118, wd_l119, wd_l120, wd_l121, wd_l122, wd_l123, wd_l124]); omega)))); (intro v9 hv9; (try simp (disch := omega) only [ab_tI, ab_c0, wd_ix12, wd_ix8, wd_ix10, wd_up_self, wd_up_eq, wd_up_ne, Int.toNat_natCast, Int.toNat_of_nonneg, not_true_eq_false, not_false_eq_true, Option.some.injEq] at hv9); subst hv9))
    | (apply w_putM; (focus (exact rfl)); (focus (first | exact trivial | exact Or.inl rfl | exact Or.inr rfl)); (focus (exact rfl)))
    | (apply w_iasM; (focus (exact rfl)); (focus (exact (by first | exact ⟨by decide, by decide⟩ | ((try simp (disch := omega) only [ab_tI, ab_c0, wd_ix12, wd_ix8, wd_ix10, wd_up_self, wd_up_eq, wd_up_ne, Int.toNat_natCast, Int.toNat_of_nonneg, not_true_eq_false, not_false_eq_true, Option.some.injEq, wd_l103, wd_l104, wd_l105, wd_l106, wd_l107, wd_l108, wd_l109, wd_l110, wd_l111, wd_l112, wd_l113, wd_l114, wd_l115, wd_l116, wd_l117, wd_l118, wd_l119, wd_l120, wd_l121, wd_l122, wd_l123, wd_l124]); omega)))); (intro v9 hv9; (try simp (disch := omega) only [ab_tI, ab_c0, wd_ix12, wd_ix8, wd_ix10, wd_up_self, wd_up_eq, wd_up_ne, Int.toNat_natCast, Int.toNat_of_nonneg, not_true_eq_false, not_false_eq_true, Option.some.injEq] at hv9); subst hv9))
    | (refine i_brF (by decide) ?_)
    | (refine i_brT (by decide) ?_)
    | (refine ⟨fun hc => ?_, fun hc => ?_⟩ <;> (try simp (disch := omega) only [ab_tI, ab_c0, wd_ix12, wd_ix8, wd_ix10, wd_up_self, wd_up_eq, wd_up_ne, Int.toNat_natCast, Int.toNat_of_nonneg, not_true_eq_false, not_false_eq_true, Option.some.injEq] at hc) <;> first | (exfalso; omega) | skip)
    | (apply i_cv; (focus (exact rfl)))
    | (apply w_balM; (focus (exact (by first | exact ⟨by decide, by decide⟩ | ((try simp (disch := omega) only [ab_tI, ab_c0, wd_ix12, wd_ix8, wd_ix10, wd_up_self, wd_up_eq, wd_up_ne, Int.toNat_natCast, Int.toNat_of_nonneg, not_true_eq_false, not_false_eq_true, Option.some.injEq, wd_l103, wd_l104, wd_l105, wd_l106, wd_l107, wd_l108, wd_l109, wd_l110, wd_l111, wd_l112, wd_l113, wd_l114, wd_l115, wd_l116, wd_l117, wd_l118, wd_l119, wd_l120, wd_l121, wd_l122, wd_l123, wd_l124]); omega)))); (intro v9 hv9; (try simp (disch := omega) only [ab_tI, ab_c0, wd_ix12, wd_ix8, wd_ix10, wd_up_self, wd_up_eq, wd_up_ne, Int.toNat_natCast, Int.toNat_of_nonneg, not_true_eq_false, not_false_eq_true, Option.some.injEq] at hv9); subst hv9))
    | (apply w_basM; (focus (exact (by first | exact ⟨by decide, by decide⟩ | ((try simp (disch := omega) only [ab_tI, ab_c0, wd_ix12, wd_ix8, wd_ix10, wd_up_self, wd_up_eq, wd_up_ne, Int.toNat_natCast, Int.toNat_of_nonneg, not_true_eq_false, not_false_eq_true, Option.some.injEq, wd_l103, wd_l104, wd_l105, wd_l106, wd_l107, wd_l108, wd_l109, wd_l110, wd_l111, wd_l112, wd_l113, wd_l114, wd_l115, wd_l116, wd_l117, wd_l118, wd_l119, wd_l120, wd_l121, wd_l122, wd_l123, wd_l124]); omega)))); (focus (first | exact Or.inl rfl | exact Or.inr rfl)); (intro v9 hv9; (try simp (disch := omega) only [ab_tI, ab_c0, wd_ix12, wd_ix8, wd_ix10, wd_up_self, wd_up_eq, wd_up_ne, Int.toNat_natCast, Int.toNat_of_nonneg, not_true_eq_false, not_false_eq_true, Option.some.injEq] at hv9); subst hv9))
    | (refine And.intro trivial ?_)
    | (refine And.intro (Or.inl rfl) ?_)
    | (refine And.intro (Or.inr rfl) ?_)
    | (refine And.intro (by ((try simp (disch := omega) only [ab_tI, ab_c0, wd_ix12, wd_ix8, wd_ix10, wd_up_self, wd_up_eq, wd_up_ne, Int.toNat_natCast, Int.toNat_of_nonneg, not_true_eq_false, not_false_eq_true, Option.some.injEq]); omega)) ?_)
    | fail)
      all_goals first | exact hQ | (exfalso; omega)
    · rw [if_neg hf] at hQ
      refine wd_inC rfl (by omega) rfl ?_
      intro C9 X9 hC9 hX9
      repeat' ((conv => whnf); first
    | (refine hC9 150 _ _ _ (hlet _ ?_))
    | (refine hC9 145 _ _ _ (x_isFault (M := N1) (by omega) (fun hc => ?_) (fun hc => ?_)))
    | (refine hC9 153 _ _ _ (hhk _ ?_))
    | (refine hC9 146 _ _ _ (hone2 _ (fun v => ?_)))
    | (refine hC9 156 _ _ _ (hx _ ?_))
    | (refine hC9 145 _ _ _ (x_isFault (M := N2) (by omega) (fun hc => ?_) (fun hc => ?_)); (try (exfalso; omega)))
    | (intro v9 hv9; (try simp (disch := omega) only [ab_tI, ab_c0, wd_ix12, wd_ix8, wd_ix10, wd_up_self, wd_up_eq, wd_up_ne, Int.toNat_natCast, Int.toNat_of_nonneg, not_true_eq_false, not_false_eq_true, Option.some.injEq] at hv9); subst hv9)
    | (apply i_get; (focus (exact rfl)); (focus (exact rfl)))
    | (refine hX9 _ _ _ _ (wd_rnC rfl ?_); clear hC9 hX9 X9 C9; intro C9 X9 hC9 hX9)
    | (apply w_ialM; (focus (exact rfl)); (focus (exact (by first | exact ⟨by decide, by decide⟩ | ((try simp (disch := omega) only [ab_tI, ab_c0, wd_ix12, wd_ix8, wd_ix10, wd_up_self, wd_up_eq, wd_up_ne, Int.toNat_natCast, Int.toNat_of_nonneg, not_true_eq_false, not_false_eq_true, Option.some.injEq, wd_l103, wd_l104, wd_l105, wd_l106, wd_l107, wd_l108, wd_l109, wd_l110, wd_l111, wd_l112, wd_l113, wd_l114, wd_l115, wd_l116, wd_l117, wd_l118, wd_l119, wd_l120, wd_l121, wd_l122, wd_l123, wd_l124]); omega)))); (intro v9 hv9; (try simp (disch := omega) only [ab_tI, ab_c0, wd_ix12, wd_ix8, wd_ix10, wd_up_self, wd_up_eq, wd_up_ne, Int.toNat_natCast, Int.toNat_of_nonneg, not_true_eq_false, not_false_eq_true, Option.some.injEq] at hv9); subst hv9))
    | (apply w_putM; (focus (exact rfl)); (focus (first | exact trivial | exact Or.inl rfl | exact Or.inr rfl)); (focus (exact rfl)))
    | (apply w_iasM; (focus (exact rfl)); (focus (exact (by first | exact ⟨by decide, by decide⟩ | ((try simp (disch := omega) only [ab_tI, ab_c0, wd_ix12, wd_ix8, wd_ix10, wd_up_self, wd_up_eq, wd_up_ne, Int.toNat_natCast, Int.toNat_of_nonneg, not_true_eq_false, not_false_eq_true, Option.some.injEq, wd_l103, wd_l104, wd_l105, wd_l106, wd_l107, wd_l108, wd_l109, wd_l110, wd_l111, wd_l112, wd_l113, wd_l114, wd_l115, wd_l116, wd_l117, wd_l118, wd_l119, wd_l120, wd_l121, wd_l122, wd_l123, wd_l124]); omega)))); (intro v9 hv9; (try simp (disch := omega) only [ab_tI, ab_c0, wd_ix12, wd_ix8, wd_ix10, wd_up_self, wd_up_eq, wd_up_ne, Int.toNat_natCast, Int.toNat_of_nonneg, not_true_eq_false, not_false_eq_true, Option.some.injEq] at hv9); subst hv9))
    | (refine i_brF (by decide) ?_)
    | (refine i_brT (by decide) ?_)
    | (refine ⟨fun hc => ?_, fun hc => ?_⟩ <;> (try simp (disch := omega) only [ab_tI, ab_c0, wd_ix12, wd_ix8, wd_ix10, wd_up_self, wd_up_eq, wd_up_ne, Int.toNat_natCast, Int.toNat_of_nonneg, not_true_eq_false, not_false_eq_true, Option.some.injEq] at hc) <;> first | (exfalso; omega) | skip)
    | (apply i_cv; (focus (exact rfl)))
    | (apply w_balM; (focus (exact (by first | exact ⟨by decide, by decide⟩ | ((try simp (disch := omega) only [ab_tI, ab_c0, wd_ix12, wd_ix8, wd_ix10, wd_up_self, wd_up_eq, wd_up_ne, Int.toNat_natCast, Int.toNat_of_nonneg, not_true_eq_false, not_false_eq_true, Option.some.injEq, wd_l103, wd_l104, wd_l105, wd_l106, wd_l107, wd_l108, wd_l109, wd_l110, wd_l111, wd_l112, wd_l113, wd_l114, wd_l115, wd_l116, wd_l117, wd_l118, wd_l119, wd_l120, wd_l121, wd_l122, wd_l123, wd_l124]); omega)))); (intro v9 hv9; (try simp (disch := omega) only [ab_tI, ab_c0, wd_ix12, wd_ix8, wd_ix10, wd_up_self, wd_up_eq, wd_up_ne, Int.toNat_natCast, Int.toNat_of_nonneg, not_true_eq_false, not_false_eq_true, Option.some.injEq] at hv9); subst hv9))
    | (apply w_basM; (focus (exact (by first | exact ⟨by decide, by decide⟩ | ((try simp (disch := omega) only [ab_tI, ab_c0, wd_ix12, wd_ix8, wd_ix10, wd_up_self, wd_up_eq, wd_up_ne, Int.toNat_natCast, Int.toNat_of_nonneg, not_true_eq_false, not_false_eq_true, Option.some.injEq, wd_l103, wd_l104, wd_l105, wd_l106, wd_l107, wd_l108, wd_l109, wd_l110, wd_l111, wd_l112, wd_l113, wd_l114, wd_l115, wd_l116, wd_l117, wd_l118, wd_l119, wd_l120, wd_l121, wd_l122, wd_l123, wd_l124]); omega)))); (focus (first | exact Or.inl rfl | exact Or.inr rfl)); (intro v9 hv9; (try simp (disch := omega) only [ab_tI, ab_c0, wd_ix12, wd_ix8, wd_ix10, wd_up_self, wd_up_eq, wd_up_ne, Int.toNat_natCast, Int.toNat_of_nonneg, not_true_eq_false, not_false_eq_true, Option.some.injEq] at hv9); subst hv9))
    | (refine And.intro trivial ?_)
    | (refine And.intro (Or.inl rfl) ?_)
    | (refine And.intro (Or.inr rfl) ?_)
    | (refine And.intro (by ((try simp (disch := omega) only [ab_tI, ab_c0, wd_ix12, wd_ix8, wd_ix10, wd_up_self, wd_up_eq, wd_up_ne, Int.toNat_natCast, Int.toNat_of_nonneg, not_true_eq_false, not_false_eq_true, Option.some.injEq]); omega)) ?_)
    | fail)
      all_goals first | exact hQ | (exfalso; omega)
end
section
/-! ===== the reference: reading what is in a thing (own text) ===== -/
set_option maxHeartbeats 4000000 in
set_option maxRecDepth 100000 in
theorem x_readsAll_l {d : Nat} (hd : 5 ≤ d) {I : wd_I} {P : wd_P} {g : Nat → ab_C} {k z dp : Nat} {G : wd_I → wd_I × Int32} (hG : m_rG G) (hdp : dp ≤ 12) (hX : ∀ (N : wd_I) (Q : ab_Q), m_rp N → Q (some (.inl (G N).2)) (wd I P (G N).1 g, k, z) → ab_CT (d - 2) 156 [wd_v 102, .inl (ab_ii ((dp : Int) + 1))] (wd I P N g, k, z) Q) (hX1 : ∀ (N : wd_I) (Q : ab_Q), m_rp N → Q (some (.inl (G N).2)) (wd I P (G N).1 g, k, z) → ab_CT (d - 1) 156 [wd_v 102, .inl (ab_ii ((dp : Int) + 1))] (wd I P N g, k, z) Q) {M0 : wd_I} {t close im : Int32} {mp : Int} {Q : ab_Q} (hp0 : m_rp M0) (h0 : 0 ≤ t.toInt) (ht : (M0 102 8).toInt ≤ t.toInt) (hcl : 0 ≤ close.toInt) (him : (mp = 3 ∧ im = ab_ii 1) ∨ (¬ mp = 3 ∧ im = ab_ii 0)) : ∀ (n : Nat) (M : wd_I) (s : Nat), m_pd M0 M t s → s ≤ 12 → 101 + m_pt M ≤ (n : Int) → Q none (wd I P (m_one (m_itl G mp t n M) close close).1 g, k, z) → ab_WB d 155 Q 64 [(0, wd_v 102), (1, .inl t), (2, .inl (ab_ii (dp : Int))), (3, .inl close), (4, .inl im)] [] (wd I P M g, k, z)
  | 0, M, s, h, h12, hn, hQ => by
    obtain ⟨⟨t1, t2, t3⟩, -, -⟩ := h.1.rp hp0
    unfold m_pt at hn
    split at hn <;> omega
  | n + 1, M, s, h, h12, hn, hQ => by
    have hp := h.1.rp hp0
    have hs := h.2.2.1
    have hlt := m_rp_lt hp
    have htl := h.2.1
    have hsz := m_pd_sz h
    have hst : 0 ≤ (m_here M).toInt → m_rg M (m_stp M) ∧ m_pt (m_stp M) + 1 = m_pt M := fun q => ⟨(m_stp_sc hp.1 (m_here_lt q).1).1.rg, (m_stp_sc hp.1 (m_here_lt q).1).2⟩
    unfold m_itl at hQ
    rw [hsz] at hQ
    have hone := fun Q hq => x_one (d := d - 1) (by omega) (I := I) (P := P) (g := g) (k := k) (z := z) (Q := Q) (M := M) (lo := close) (hi := close) hp.1 hq
    by_cases hc : (M 102 24).toInt = -1 ∧ (m_here M).toInt = 44 ∧ s < 12
    · rw [if_pos hc] at hQ
      obtain ⟨c1, c2, c3⟩ := hc
      obtain ⟨g1, e1⟩ := hst (by omega)
      have pd1 := m_pd_rg h (by omega) h0 g1
      have pS := g1.rp hp
      obtain ⟨s', pd2, hs'⟩ := m_pd_item hG (mp := mp) hp0 pd1 h0 ht (by omega)
      have hpt := m_item_pt hG (mp := mp) (t := t) (s := s) pS
      have ih := x_readsAll_l hd hG hdp hX hX1 hp0 h0 ht hcl him n _ s' pd2 (by omega) (by omega) hQ
      have eS : wd_up M 102 23 (ab_ii ((M 102 23).toInt + 1)) = m_stp M := rfl
      have hent := fun Q hq => x_readsEntry (d := d - 1) (by omega) hG hdp hX (M0 := M0) (M := m_stp M) (t := t) (Q := Q) hp0 pd1 h0 ht (by omega) hq
      have hx := fun Q hq => hX1 (m_stp M) Q pS hq
      have gS := hG (m_stp M) pS
      have pdG := m_pd_rg pd1 (by omega) h0 gS.1
      have hsG := pdG.2.2.1
      have hltG := m_rp_lt (gS.1.rp pS)
      have htG := pdG.2.1
      have hadd := fun Q hq => x_adds (d := d - 1) (by omega) (I := I) (P := P) (g := g) (k := k) (z := z) (Q := Q) (M := (G (m_stp M)).1) (t := t) (key := ab_ii 0) (p := (G (m_stp M)).2) h0 (by omega) hsG (by omega) hq
      unfold m_item at ih
      rcases him with ⟨hm, rfl⟩ | ⟨hm, rfl⟩
      · rw [if_pos hm] at ih
        refine wd_rnC rfl ?_
        intro C9 X9 hC9 hX9
        (have chk9 := @hs; clear chk9); repeat' ((conv => whnf); first
    | (refine hC9 147 _ _ _ (x_isHere (by omega) hp.1 (fun hf hc => ?_) (fun hf => ?_)) <;> (try simp (disch := omega) only [ab_tI, ab_c0, wd_ix12, wd_ix8, wd_ix10, wd_up_self, wd_up_eq, wd_up_ne, Int.toNat_natCast, Int.toNat_of_nonneg, not_true_eq_false, not_false_eq_true, Option.some.injEq] at hc) <;> (try simp (disch := omega) only [ab_tI, ab_c0, wd_ix12, wd_ix8, wd_ix10, wd_up_self, wd_up_eq, wd_up_ne, Int.toNat_natCast, Int.toNat_of_nonneg, not_true_eq_false, not_false_eq_true, Option.some.injEq] at hf))
    | (rw [eS]; refine hC9 154 _ _ _ (hent _ ?_))
    | (refine hX9 64 _ _ _ (ab_WB_sub ?_ ih); (repeat (first | exact ab_sub0 | (refine ab_sub1 ?_ ?_; (focus ((repeat (refine ab_skip rfl ?_)); first | exact List.mem_cons_self))))))
    | (intro v9 hv9; (try simp (disch := omega) only [ab_tI, ab_c0, wd_ix12, wd_ix8, wd_ix10, wd_up_self, wd_up_eq, wd_up_ne, Int.toNat_natCast, Int.toNat_of_nonneg, not_true_eq_false, not_false_eq_true, Option.some.injEq, hs] at hv9); subst hv9)
    | (apply i_get; (focus (exact rfl)); (focus (exact rfl)))
    | (refine hX9 _ _ _ _ (wd_rnC rfl ?_); clear hC9 hX9 X9 C9; intro C9 X9 hC9 hX9)
    | (apply w_ialM; (focus (exact rfl)); (focus (exact (by first | exact ⟨by decide, by decide⟩ | ((try simp (disch := omega) only [ab_tI, ab_c0, wd_ix12, wd_ix8, wd_ix10, wd_up_self, wd_up_eq, wd_up_ne, Int.toNat_natCast, Int.toNat_of_nonneg, not_true_eq_false, not_false_eq_true, Option.some.injEq, hs, wd_l103, wd_l104, wd_l105, wd_l106, wd_l107, wd_l108, wd_l109, wd_l110, wd_l111, wd_l112, wd_l113, wd_l114, wd_l115, wd_l116, wd_l117, wd_l118, wd_l119, wd_l120, wd_l121, wd_l122, wd_l123, wd_l124]); omega)))); (intro v9 hv9; (try simp (disch := omega) only [ab_tI, ab_c0, wd_ix12, wd_ix8, wd_ix10, wd_up_self, wd_up_eq, wd_up_ne, Int.toNat_natCast, Int.toNat_of_nonneg, not_true_eq_false, not_false_eq_true, Option.some.injEq, hs] at hv9); subst hv9))
    | (apply w_putM; (focus (exact rfl)); (focus (first | exact trivial | exact Or.inl rfl | exact Or.inr rfl)); (focus (exact rfl)))
    | (apply w_iasM; (focus (exact rfl)); (focus (exact (by first | exact ⟨by decide, by decide⟩ | ((try simp (disch := omega) only [ab_tI, ab_c0, wd_ix12, wd_ix8, wd_ix10, wd_up_self, wd_up_eq, wd_up_ne, Int.toNat_natCast, Int.toNat_of_nonneg, not_true_eq_false, not_false_eq_true, Option.some.injEq, hs, wd_l103, wd_l104, wd_l105, wd_l106, wd_l107, wd_l108, wd_l109, wd_l110, wd_l111, wd_l112, wd_l113, wd_l114, wd_l115, wd_l116, wd_l117, wd_l118, wd_l119, wd_l120, wd_l121, wd_l122, wd_l123, wd_l124]); omega)))); (intro v9 hv9; (try simp (disch := omega) only [ab_tI, ab_c0, wd_ix12, wd_ix8, wd_ix10, wd_up_self, wd_up_eq, wd_up_ne, Int.toNat_natCast, Int.toNat_of_nonneg, not_true_eq_false, not_false_eq_true, Option.some.injEq, hs] at hv9); subst hv9))
    | (refine i_brF (by decide) ?_)
    | (refine i_brT (by decide) ?_)
    | (refine ⟨fun hc => ?_, fun hc => ?_⟩ <;> (try simp (disch := omega) only [ab_tI, ab_c0, wd_ix12, wd_ix8, wd_ix10, wd_up_self, wd_up_eq, wd_up_ne, Int.toNat_natCast, Int.toNat_of_nonneg, not_true_eq_false, not_false_eq_true, Option.some.injEq, hs] at hc) <;> first | (exfalso; omega) | skip)
    | (apply i_cv; (focus (exact rfl)))
    | (apply w_balM; (focus (exact (by first | exact ⟨by decide, by decide⟩ | ((try simp (disch := omega) only [ab_tI, ab_c0, wd_ix12, wd_ix8, wd_ix10, wd_up_self, wd_up_eq, wd_up_ne, Int.toNat_natCast, Int.toNat_of_nonneg, not_true_eq_false, not_false_eq_true, Option.some.injEq, hs, wd_l103, wd_l104, wd_l105, wd_l106, wd_l107, wd_l108, wd_l109, wd_l110, wd_l111, wd_l112, wd_l113, wd_l114, wd_l115, wd_l116, wd_l117, wd_l118, wd_l119, wd_l120, wd_l121, wd_l122, wd_l123, wd_l124]); omega)))); (intro v9 hv9; (try simp (disch := omega) only [ab_tI, ab_c0, wd_ix12, wd_ix8, wd_ix10, wd_up_self, wd_up_eq, wd_up_ne, Int.toNat_natCast, Int.toNat_of_nonneg, not_true_eq_false, not_false_eq_true, Option.some.injEq, hs] at hv9); subst hv9))
    | (apply w_basM; (focus (exact (by first | exact ⟨by decide, by decide⟩ | ((try simp (disch := omega) only [ab_tI, ab_c0, wd_ix12, wd_ix8, wd_ix10, wd_up_self, wd_up_eq, wd_up_ne, Int.toNat_natCast, Int.toNat_of_nonneg, not_true_eq_false, not_false_eq_true, Option.some.injEq, hs, wd_l103, wd_l104, wd_l105, wd_l106, wd_l107, wd_l108, wd_l109, wd_l110, wd_l111, wd_l112, wd_l113, wd_l114, wd_l115, wd_l116, wd_l117, wd_l118, wd_l119, wd_l120, wd_l121, wd_l122, wd_l123, wd_l124]); omega)))); (focus (first | exact Or.inl rfl | exact Or.inr rfl)); (intro v9 hv9; (try simp (disch := omega) only [ab_tI, ab_c0, wd_ix12, wd_ix8, wd_ix10, wd_up_self, wd_up_eq, wd_up_ne, Int.toNat_natCast, Int.toNat_of_nonneg, not_true_eq_false, not_false_eq_true, Option.some.injEq, hs] at hv9); subst hv9))
    | (refine And.intro trivial ?_)
    | (refine And.intro (Or.inl rfl) ?_)
    | (refine And.intro (Or.inr rfl) ?_)
    | (refine And.intro (by ((try simp (disch := omega) only [ab_tI, ab_c0, wd_ix12, wd_ix8, wd_ix10, wd_up_self, wd_up_eq, wd_up_ne, Int.toNat_natCast, Int.toNat_of_nonneg, not_true_eq_false, not_false_eq_true, Option.some.injEq, hs]); omega)) ?_)
    | fail)
        all_goals (exfalso; omega)
      · rw [if_neg hm] at ih
        refine wd_rnC rfl ?_
        intro C9 X9 hC9 hX9
        (have chk9 := @hs; clear chk9); repeat' ((conv => whnf); first
    | (refine hC9 147 _ _ _ (x_isHere (by omega) hp.1 (fun hf hc => ?_) (fun hf => ?_)) <;> (try simp (disch := omega) only [ab_tI, ab_c0, wd_ix12, wd_ix8, wd_ix10, wd_up_self, wd_up_eq, wd_up_ne, Int.toNat_natCast, Int.toNat_of_nonneg, not_true_eq_false, not_false_eq_true, Option.some.injEq] at hc) <;> (try simp (disch := omega) only [ab_tI, ab_c0, wd_ix12, wd_ix8, wd_ix10, wd_up_self, wd_up_eq, wd_up_ne, Int.toNat_natCast, Int.toNat_of_nonneg, not_true_eq_false, not_false_eq_true, Option.some.injEq] at hf))
    | (rw [eS]; refine hC9 156 _ _ _ (hx _ ?_))
    | (refine hC9 151 _ _ _ (hadd _ ?_))
    | (refine hX9 64 _ _ _ (ab_WB_sub ?_ ih); (repeat (first | exact ab_sub0 | (refine ab_sub1 ?_ ?_; (focus ((repeat (refine ab_skip rfl ?_)); first | exact List.mem_cons_self))))))
    | (intro v9 hv9; (try simp (disch := omega) only [ab_tI, ab_c0, wd_ix12, wd_ix8, wd_ix10, wd_up_self, wd_up_eq, wd_up_ne, Int.toNat_natCast, Int.toNat_of_nonneg, not_true_eq_false, not_false_eq_true, Option.some.injEq, hs] at hv9); subst hv9)
    | (apply i_get; (focus (exact rfl)); (focus (exact rfl)))
    | (refine hX9 _ _ _ _ (wd_rnC rfl ?_); clear hC9 hX9 X9 C9; intro C9 X9 hC9 hX9)
    | (apply w_ialM; (focus (exact rfl)); (focus (exact (by first | exact ⟨by decide, by decide⟩ | ((try simp (disch := omega) only [ab_tI, ab_c0, wd_ix12, wd_ix8, wd_ix10, wd_up_self, wd_up_eq, wd_up_ne, Int.toNat_natCast, Int.toNat_of_nonneg, not_true_eq_false, not_false_eq_true, Option.some.injEq, hs, wd_l103, wd_l104, wd_l105, wd_l106, wd_l107, wd_l108, wd_l109, wd_l110, wd_l111, wd_l112, wd_l113, wd_l114, wd_l115, wd_l116, wd_l117, wd_l118, wd_l119, wd_l120, wd_l121, wd_l122, wd_l123, wd_l124]); omega)))); (intro v9 hv9; (try simp (disch := omega) only [ab_tI, ab_c0, wd_ix12, wd_ix8, wd_ix10, wd_up_self, wd_up_eq, wd_up_ne, Int.toNat_natCast, Int.toNat_of_nonneg, not_true_eq_false, not_false_eq_true, Option.some.injEq, hs] at hv9); subst hv9))
    | (apply w_putM; (focus (exact rfl)); (focus (first | exact trivial | exact Or.inl rfl | exact Or.inr rfl)); (focus (exact rfl)))
    | (apply w_iasM; (focus (exact rfl)); (focus (exact (by first | exact ⟨by decide, by decide⟩ | ((try simp (disch := omega) only [ab_tI, ab_c0, wd_ix12, wd_ix8, wd_ix10, wd_up_self, wd_up_eq, wd_up_ne, Int.toNat_natCast, Int.toNat_of_nonneg, not_true_eq_false, not_false_eq_true, Option.some.injEq, hs, wd_l103, wd_l104, wd_l105, wd_l106, wd_l107, wd_l108, wd_l109, wd_l110, wd_l111, wd_l112, wd_l113, wd_l114, wd_l115, wd_l116, wd_l117, wd_l118, wd_l119, wd_l120, wd_l121, wd_l122, wd_l123, wd_l124]); omega)))); (intro v9 hv9; (try simp (disch := omega) only [ab_tI, ab_c0, wd_ix12, wd_ix8, wd_ix10, wd_up_self, wd_up_eq, wd_up_ne, Int.toNat_natCast, Int.toNat_of_nonneg, not_true_eq_false, not_false_eq_true, Option.some.injEq, hs] at hv9); subst hv9))
    | (refine i_brF (by decide) ?_)
    | (refine i_brT (by decide) ?_)
    | (refine ⟨fun hc => ?_, fun hc => ?_⟩ <;> (try simp (disch := omega) only [ab_tI, ab_c0, wd_ix12, wd_ix8, wd_ix10, wd_up_self, wd_up_eq, wd_up_ne, Int.toNat_natCast, Int.toNat_of_nonneg, not_true_eq_false, not_false_eq_true, Option.some.injEq, hs] at hc) <;> first | (exfalso; omega) | skip)
    | (apply i_cv; (focus (exact rfl)))
    | (apply w_balM; (focus (exact (by first | exact ⟨by decide, by decide⟩ | ((try simp (disch := omega) only [ab_tI, ab_c0, wd_ix12, wd_ix8, wd_ix10, wd_up_self, wd_up_eq, wd_up_ne, Int.toNat_natCast, Int.toNat_of_nonneg, not_true_eq_false, not_false_eq_true, Option.some.injEq, hs, wd_l103, wd_l104, wd_l105, wd_l106, wd_l107, wd_l108, wd_l109, wd_l110, wd_l111, wd_l112, wd_l113, wd_l114, wd_l115, wd_l116, wd_l117, wd_l118, wd_l119, wd_l120, wd_l121, wd_l122, wd_l123, wd_l124]); omega)))); (intro v9 hv9; (try simp (disch := omega) only [ab_tI, ab_c0, wd_ix12, wd_ix8, wd_ix10, wd_up_self, wd_up_eq, wd_up_ne, Int.toNat_natCast, Int.toNat_of_nonneg, not_true_eq_false, not_false_eq_true, Option.some.injEq, hs] at hv9); subst hv9))
    | (apply w_basM; (focus (exact (by first | exact ⟨by decide, by decide⟩ | ((try simp (disch := omega) only [ab_tI, ab_c0, wd_ix12, wd_ix8, wd_ix10, wd_up_self, wd_up_eq, wd_up_ne, Int.toNat_natCast, Int.toNat_of_nonneg, not_true_eq_false, not_false_eq_true, Option.some.injEq, hs, wd_l103, wd_l104, wd_l105, wd_l106, wd_l107, wd_l108, wd_l109, wd_l110, wd_l111, wd_l112, wd_l113, wd_l114, wd_l115, wd_l116, wd_l117, wd_l118, wd_l119, wd_l120, wd_l121, wd_l122, wd_l123, wd_l124]); omega)))); (focus (first | exact Or.inl rfl | exact Or.inr rfl)); (intro v9 hv9; (try simp (disch := omega) only [ab_tI, ab_c0, wd_ix12, wd_ix8, wd_ix10, wd_up_self, wd_up_eq, wd_up_ne, Int.toNat_natCast, Int.toNat_of_nonneg, not_true_eq_false, not_false_eq_true, Option.some.injEq, hs] at hv9); subst hv9))
    | (refine And.intro trivial ?_)
    | (refine And.intro (Or.inl rfl) ?_)
    | (refine And.intro (Or.inr rfl) ?_)
    | (refine And.intro (by ((try simp (disch := omega) only [ab_tI, ab_c0, wd_ix12, wd_ix8, wd_ix10, wd_up_self, wd_up_eq, wd_up_ne, Int.toNat_natCast, Int.toNat_of_nonneg, not_true_eq_false, not_false_eq_true, Option.some.injEq, hs]); omega)) ?_)
    | fail)
        all_goals (exfalso; omega)
    · rw [if_neg hc] at hQ
      have hone2 : ∀ Q : ab_Q, (∀ v, Q (some (.inl v)) (wd I P (m_one M close close).1 g, k, z)) → ab_CT (d - 1) 146 [wd_v 102, .inl close, .inl close] (wd I P M g, k, z) Q := fun Q hq => hone Q (hq _)
      clear hone
      refine wd_rnC rfl ?_
      intro C9 X9 hC9 hX9
      (have chk9 := @hs; clear chk9); repeat' ((conv => whnf); first
    | (refine hC9 147 _ _ _ (x_isHere (by omega) hp.1 (fun hf hc => ?_) (fun hf => ?_)) <;> (try simp (disch := omega) only [ab_tI, ab_c0, wd_ix12, wd_ix8, wd_ix10, wd_up_self, wd_up_eq, wd_up_ne, Int.toNat_natCast, Int.toNat_of_nonneg, not_true_eq_false, not_false_eq_true, Option.some.injEq] at hc) <;> (try simp (disch := omega) only [ab_tI, ab_c0, wd_ix12, wd_ix8, wd_ix10, wd_up_self, wd_up_eq, wd_up_ne, Int.toNat_natCast, Int.toNat_of_nonneg, not_true_eq_false, not_false_eq_true, Option.some.injEq] at hf))
    | (refine hC9 146 _ _ _ (hone2 _ (fun v => ?_)))
    | (intro v9 hv9; (try simp (disch := omega) only [ab_tI, ab_c0, wd_ix12, wd_ix8, wd_ix10, wd_up_self, wd_up_eq, wd_up_ne, Int.toNat_natCast, Int.toNat_of_nonneg, not_true_eq_false, not_false_eq_true, Option.some.injEq, hs] at hv9); subst hv9)
    | (apply i_get; (focus (exact rfl)); (focus (exact rfl)))
    | (refine hX9 _ _ _ _ (wd_rnC rfl ?_); clear hC9 hX9 X9 C9; intro C9 X9 hC9 hX9)
    | (apply w_ialM; (focus (exact rfl)); (focus (exact (by first | exact ⟨by decide, by decide⟩ | ((try simp (disch := omega) only [ab_tI, ab_c0, wd_ix12, wd_ix8, wd_ix10, wd_up_self, wd_up_eq, wd_up_ne, Int.toNat_natCast, Int.toNat_of_nonneg, not_true_eq_false, not_false_eq_true, Option.some.injEq, hs, wd_l103, wd_l104, wd_l105, wd_l106, wd_l107, wd_l108, wd_l109, wd_l110, wd_l111, wd_l112, wd_l113, wd_l114, wd_l115, wd_l116, wd_l117, wd_l118, wd_l119, wd_l120, wd_l121, wd_l122, wd_l123, wd_l124]); omega)))); (intro v9 hv9; (try simp (disch := omega) only [ab_tI, ab_c0, wd_ix12, wd_ix8, wd_ix10, wd_up_self, wd_up_eq, wd_up_ne, Int.toNat_natCast, Int.toNat_of_nonneg, not_true_eq_false, not_false_eq_true, Option.some.injEq, hs] at hv9); subst hv9))
    | (apply w_putM; (focus (exact rfl)); (focus (first | exact trivial | exact Or.inl rfl | exact Or.inr rfl)); (focus (exact rfl)))
    | (apply w_iasM; (focus (exact rfl)); (focus (exact (by first | exact ⟨by decide, by decide⟩ | ((try simp (disch := omega) only [ab_tI, ab_c0, wd_ix12, wd_ix8, wd_ix10, wd_up_self, wd_up_eq, wd_up_ne, Int.toNat_natCast, Int.toNat_of_nonneg, not_true_eq_false, not_false_eq_true, Option.some.injEq, hs, wd_l103, wd_l104, wd_l105, wd_l106, wd_l107, wd_l108, wd_l109, wd_l110, wd_l111, wd_l112, wd_l113, wd_l114, wd_l115, wd_l116, wd_l117, wd_l118, wd_l119, wd_l120, wd_l121, wd_l122, wd_l123, wd_l124]); omega)))); (intro v9 hv9; (try simp (disch := omega) only [ab_tI, ab_c0, wd_ix12, wd_ix8, wd_ix10, wd_up_self, wd_up_eq, wd_up_ne, Int.toNat_natCast, Int.toNat_of_nonneg, not_true_eq_false, not_false_eq_true, Option.some.injEq, hs] at hv9); subst hv9))
    | (refine i_brF (by decide) ?_)
    | (refine i_brT (by decide) ?_)
    | (refine ⟨fun hc => ?_, fun hc => ?_⟩ <;> (try simp (disch := omega) only [ab_tI, ab_c0, wd_ix12, wd_ix8, wd_ix10, wd_up_self, wd_up_eq, wd_up_ne, Int.toNat_natCast, Int.toNat_of_nonneg, not_true_eq_false, not_false_eq_true, Option.some.injEq, hs] at hc) <;> first | (exfalso; omega) | skip)
    | (apply i_cv; (focus (exact rfl)))
    | (apply w_balM; (focus (exact (by first | exact ⟨by decide, by decide⟩ | ((try simp (disch := omega) only [ab_tI, ab_c0, wd_ix12, wd_ix8, wd_ix10, wd_up_self, wd_up_eq, wd_up_ne, Int.toNat_natCast, Int.toNat_of_nonneg, not_true_eq_false, not_false_eq_true, Option.some.injEq, hs, wd_l103, wd_l104, wd_l105, wd_l106, wd_l107, wd_l108, wd_l109, wd_l110, wd_l111, wd_l112, wd_l113, wd_l114, wd_l115, wd_l116, wd_l117, wd_l118, wd_l119, wd_l120, wd_l121, wd_l122, wd_l123, wd_l124]); omega)))); (intro v9 hv9; (try simp (disch := omega) only [ab_tI, ab_c0, wd_ix12, wd_ix8, wd_ix10, wd_up_self, wd_up_eq, wd_up_ne, Int.toNat_natCast, Int.toNat_of_nonneg, not_true_eq_false, not_false_eq_true, Option.some.injEq, hs] at hv9); subst hv9))
    | (apply w_basM; (focus (exact (by first | exact ⟨by decide, by decide⟩ | ((try simp (disch := omega) only [ab_tI, ab_c0, wd_ix12, wd_ix8, wd_ix10, wd_up_self, wd_up_eq, wd_up_ne, Int.toNat_natCast, Int.toNat_of_nonneg, not_true_eq_false, not_false_eq_true, Option.some.injEq, hs, wd_l103, wd_l104, wd_l105, wd_l106, wd_l107, wd_l108, wd_l109, wd_l110, wd_l111, wd_l112, wd_l113, wd_l114, wd_l115, wd_l116, wd_l117, wd_l118, wd_l119, wd_l120, wd_l121, wd_l122, wd_l123, wd_l124]); omega)))); (focus (first | exact Or.inl rfl | exact Or.inr rfl)); (intro v9 hv9; (try simp (disch := omega) only [ab_tI, ab_c0, wd_ix12, wd_ix8, wd_ix10, wd_up_self, wd_up_eq, wd_up_ne, Int.toNat_natCast, Int.toNat_of_nonneg, not_true_eq_false, not_false_eq_true, Option.some.injEq, hs] at hv9); subst hv9))
    | (refine And.intro trivial ?_)
    | (refine And.intro (Or.inl rfl) ?_)
    | (refine And.intro (Or.inr rfl) ?_)
    | (refine And.intro (by ((try simp (disch := omega) only [ab_tI, ab_c0, wd_ix12, wd_ix8, wd_ix10, wd_up_self, wd_up_eq, wd_up_ne, Int.toNat_natCast, Int.toNat_of_nonneg, not_true_eq_false, not_false_eq_true, Option.some.injEq, hs]); omega)) ?_)
    | fail)
      all_goals first | exact hQ | (exfalso; omega)
set_option maxHeartbeats 4000000 in
set_option maxRecDepth 100000 in
theorem x_readsAll {d : Nat} (hd : 5 ≤ d) {I : wd_I} {P : wd_P} {g : Nat → ab_C} {k z dp s : Nat} {G : wd_I → wd_I × Int32} (hG : m_rG G) (hdp : dp ≤ 12) (hX : ∀ (N : wd_I) (Q : ab_Q), m_rp N → Q (some (.inl (G N).2)) (wd I P (G N).1 g, k, z) → ab_CT (d - 2) 156 [wd_v 102, .inl (ab_ii ((dp : Int) + 1))] (wd I P N g, k, z) Q) (hX1 : ∀ (N : wd_I) (Q : ab_Q), m_rp N → Q (some (.inl (G N).2)) (wd I P (G N).1 g, k, z) → ab_CT (d - 1) 156 [wd_v 102, .inl (ab_ii ((dp : Int) + 1))] (wd I P N g, k, z) Q) {M0 M : wd_I} {t close : Int32} {mp : Int} {Q : ab_Q} (hp0 : m_rp M0) (h : m_pd M0 M t s) (h0 : 0 ≤ t.toInt) (ht : (M0 102 8).toInt ≤ t.toInt) (h11 : s ≤ 11) (hcl : 0 ≤ close.toInt) (hmp : (M 103 t.toInt.toNat).toInt = mp) (hQ : Q none (wd I P (m_all G mp M t close) g, k, z)) : ab_CT d 155 [wd_v 102, .inl t, .inl (ab_ii (dp : Int)), .inl close] (wd I P M g, k, z) Q := by
  have hp := h.1.rp hp0
  have hs := h.2.2.1
  have hlt := m_rp_lt hp
  have htl := h.2.1
  have hsz := m_pd_sz h
  have eS : wd_up M 102 23 (ab_ii ((M 102 23).toInt + 1)) = m_stp M := rfl
  obtain ⟨s', pd2, hs'⟩ := m_pd_item hG (mp := mp) hp0 h h0 ht h11
  have hpt := m_item_pt hG (mp := mp) (t := t) (s := s) hp
  have hpt1 : m_pt M ≤ 1 := by
    obtain ⟨t1, t2, t3⟩ := hp.1
    unfold m_pt
    split <;> omega
  unfold m_all at hQ
  rw [hsz] at hQ
  by_cases hc : (M 102 24).toInt = -1 ∧ (m_here M).toInt = close.toInt
  · rw [if_pos hc] at hQ
    refine wd_inC rfl (by omega) rfl ?_
    intro C9 X9 hC9 hX9
    (have chk9 := @hmp; clear chk9); repeat' ((conv => whnf); first
    | (refine hC9 147 _ _ _ (x_isHere (by omega) hp.1 (fun hf hc => ?_) (fun hf => ?_)) <;> (try simp (disch := omega) only [ab_tI, ab_c0, wd_ix12, wd_ix8, wd_ix10, wd_up_self, wd_up_eq, wd_up_ne, Int.toNat_natCast, Int.toNat_of_nonneg, not_true_eq_false, not_false_eq_true, Option.some.injEq] at hc) <;> (try simp (disch := omega) only [ab_tI, ab_c0, wd_ix12, wd_ix8, wd_ix10, wd_up_self, wd_up_eq, wd_up_ne, Int.toNat_natCast, Int.toNat_of_nonneg, not_true_eq_false, not_false_eq_true, Option.some.injEq] at hf))
    | (intro v9 hv9; (try simp (disch := omega) only [ab_tI, ab_c0, wd_ix12, wd_ix8, wd_ix10, wd_up_self, wd_up_eq, wd_up_ne, Int.toNat_natCast, Int.toNat_of_nonneg, not_true_eq_false, not_false_eq_true, Option.some.injEq, hmp] at hv9); subst hv9)
    | (apply i_get; (focus (exact rfl)); (focus (exact rfl)))
    | (refine hX9 _ _ _ _ (wd_rnC rfl ?_); clear hC9 hX9 X9 C9; intro C9 X9 hC9 hX9)
    | (apply w_ialM; (focus (exact rfl)); (focus (exact (by first | exact ⟨by decide, by decide⟩ | ((try simp (disch := omega) only [ab_tI, ab_c0, wd_ix12, wd_ix8, wd_ix10, wd_up_self, wd_up_eq, wd_up_ne, Int.toNat_natCast, Int.toNat_of_nonneg, not_true_eq_false, not_false_eq_true, Option.some.injEq, hmp, wd_l103, wd_l104, wd_l105, wd_l106, wd_l107, wd_l108, wd_l109, wd_l110, wd_l111, wd_l112, wd_l113, wd_l114, wd_l115, wd_l116, wd_l117, wd_l118, wd_l119, wd_l120, wd_l121, wd_l122, wd_l123, wd_l124]); omega)))); (intro v9 hv9; (try simp (disch := omega) only [ab_tI, ab_c0, wd_ix12, wd_ix8, wd_ix10, wd_up_self, wd_up_eq, wd_up_ne, Int.toNat_natCast, Int.toNat_of_nonneg, not_true_eq_false, not_false_eq_true, Option.some.injEq, hmp] at hv9); subst hv9))
    | (apply w_putM; (focus (exact rfl)); (focus (first | exact trivial | exact Or.inl rfl | exact Or.inr rfl)); (focus (exact rfl)))
    | (apply w_iasM; (focus (exact rfl)); (focus (exact (by first | exact ⟨by decide, by decide⟩ | ((try simp (disch := omega) only [ab_tI, ab_c0, wd_ix12, wd_ix8, wd_ix10, wd_up_self, wd_up_eq, wd_up_ne, Int.toNat_natCast, Int.toNat_of_nonneg, not_true_eq_false, not_false_eq_true, Option.some.injEq, hmp, wd_l103, wd_l104, wd_l105, wd_l106, wd_l107, wd_l108, wd_l109, wd_l110, wd_l111, wd_l112, wd_l113, wd_l114, wd_l115, wd_l116, wd_l117, wd_l118, wd_l119, wd_l120, wd_l121, wd_l122, wd_l123, wd_l124]); omega)))); (intro v9 hv9; (try simp (disch := omega) only [ab_tI, ab_c0, wd_ix12, wd_ix8, wd_ix10, wd_up_self, wd_up_eq, wd_up_ne, Int.toNat_natCast, Int.toNat_of_nonneg, not_true_eq_false, not_false_eq_true, Option.some.injEq, hmp] at hv9); subst hv9))
    | (refine i_brF (by decide) ?_)
    | (refine i_brT (by decide) ?_)
    | (refine ⟨fun hc => ?_, fun hc => ?_⟩ <;> (try simp (disch := omega) only [ab_tI, ab_c0, wd_ix12, wd_ix8, wd_ix10, wd_up_self, wd_up_eq, wd_up_ne, Int.toNat_natCast, Int.toNat_of_nonneg, not_true_eq_false, not_false_eq_true, Option.some.injEq, hmp] at hc) <;> first | (exfalso; omega) | skip)
    | (apply i_cv; (focus (exact rfl)))
    | (apply w_balM; (focus (exact (by first | exact ⟨by decide, by decide⟩ | ((try simp (disch := omega) only [ab_tI, ab_c0, wd_ix12, wd_ix8, wd_ix10, wd_up_self, wd_up_eq, wd_up_ne, Int.toNat_natCast, Int.toNat_of_nonneg, not_true_eq_false, not_false_eq_true, Option.some.injEq, hmp, wd_l103, wd_l104, wd_l105, wd_l106, wd_l107, wd_l108, wd_l109, wd_l110, wd_l111, wd_l112, wd_l113, wd_l114, wd_l115, wd_l116, wd_l117, wd_l118, wd_l119, wd_l120, wd_l121, wd_l122, wd_l123, wd_l124]); omega)))); (intro v9 hv9; (try simp (disch := omega) only [ab_tI, ab_c0, wd_ix12, wd_ix8, wd_ix10, wd_up_self, wd_up_eq, wd_up_ne, Int.toNat_natCast, Int.toNat_of_nonneg, not_true_eq_false, not_false_eq_true, Option.some.injEq, hmp] at hv9); subst hv9))
    | (apply w_basM; (focus (exact (by first | exact ⟨by decide, by decide⟩ | ((try simp (disch := omega) only [ab_tI, ab_c0, wd_ix12, wd_ix8, wd_ix10, wd_up_self, wd_up_eq, wd_up_ne, Int.toNat_natCast, Int.toNat_of_nonneg, not_true_eq_false, not_false_eq_true, Option.some.injEq, hmp, wd_l103, wd_l104, wd_l105, wd_l106, wd_l107, wd_l108, wd_l109, wd_l110, wd_l111, wd_l112, wd_l113, wd_l114, wd_l115, wd_l116, wd_l117, wd_l118, wd_l119, wd_l120, wd_l121, wd_l122, wd_l123, wd_l124]); omega)))); (focus (first | exact Or.inl rfl | exact Or.inr rfl)); (intro v9 hv9; (try simp (disch := omega) only [ab_tI, ab_c0, wd_ix12, wd_ix8, wd_ix10, wd_up_self, wd_up_eq, wd_up_ne, Int.toNat_natCast, Int.toNat_of_nonneg, not_true_eq_false, not_false_eq_true, Option.some.injEq, hmp] at hv9); subst hv9))
    | (refine And.intro trivial ?_)
    | (refine And.intro (Or.inl rfl) ?_)
    | (refine And.intro (Or.inr rfl) ?_)
    | (refine And.intro (by ((try simp (disch := omega) only [ab_tI, ab_c0, wd_ix12, wd_ix8, wd_ix10, wd_up_self, wd_up_eq, wd_up_ne, Int.toNat_natCast, Int.toNat_of_nonneg, not_true_eq_false, not_false_eq_true, Option.some.injEq, hmp]); omega)) ?_)
    | fail)
    all_goals first | exact hQ | (exfalso; omega)
  · rw [if_neg hc] at hQ
    have hl := fun (him : Int32) (q : (mp = 3 ∧ him = ab_ii 1) ∨ (¬ mp = 3 ∧ him = ab_ii 0)) => x_readsAll_l (close := close) hd hG hdp hX hX1 hp0 h0 ht hcl q 102 _ s' pd2 (by omega) (by omega) hQ
    have gS := hG M hp
    have pdG := m_pd_rg h (by omega) h0 gS.1
    have hsG := pdG.2.2.1
    have hltG := m_rp_lt (gS.1.rp hp)
    have htG := pdG.2.1
    have hadd := fun Q hq => x_adds (d := d - 1) (by omega) (I := I) (P := P) (g := g) (k := k) (z := z) (Q := Q) (M := (G M).1) (t := t) (key := ab_ii 0) (p := (G M).2) h0 (by omega) hsG (by omega) hq
    have hent := fun Q hq => x_readsEntry (d := d - 1) (by omega) hG hdp hX (M0 := M0) (M := M) (t := t) (Q := Q) hp0 h h0 ht (by omega) hq
    have hx := fun Q hq => hX1 M Q hp hq
    unfold m_item at hl
    by_cases hm : mp = 3
    · have hl := hl (ab_ii 1) (Or.inl ⟨hm, rfl⟩)
      rw [if_pos hm] at hl
      refine wd_inC rfl (by omega) rfl ?_
      intro C9 X9 hC9 hX9
      (have chk9 := @hmp; clear chk9); repeat' ((conv => whnf); first
    | (refine hC9 147 _ _ _ (x_isHere (by omega) hp.1 (fun hf hc => ?_) (fun hf => ?_)) <;> (try simp (disch := omega) only [ab_tI, ab_c0, wd_ix12, wd_ix8, wd_ix10, wd_up_self, wd_up_eq, wd_up_ne, Int.toNat_natCast, Int.toNat_of_nonneg, not_true_eq_false, not_false_eq_true, Option.some.injEq] at hc) <;> (try simp (disch := omega) only [ab_tI, ab_c0, wd_ix12, wd_ix8, wd_ix10, wd_up_self, wd_up_eq, wd_up_ne, Int.toNat_natCast, Int.toNat_of_nonneg, not_true_eq_false, not_false_eq_true, Option.some.injEq] at hf))
    | (refine hC9 154 _ _ _ (hent _ ?_))
    | (refine hX9 64 _ _ _ (ab_WB_sub ?_ hl); (repeat (first | exact ab_sub0 | (refine ab_sub1 ?_ ?_; (focus ((repeat (refine ab_skip rfl ?_)); first | exact List.mem_cons_self))))))
    | (intro v9 hv9; (try simp (disch := omega) only [ab_tI, ab_c0, wd_ix12, wd_ix8, wd_ix10, wd_up_self, wd_up_eq, wd_up_ne, Int.toNat_natCast, Int.toNat_of_nonneg, not_true_eq_false, not_false_eq_true, Option.some.injEq, hmp] at hv9); subst hv9)
    | (apply i_get; (focus (exact rfl)); (focus (exact rfl)))
    | (refine hX9 _ _ _ _ (wd_rnC rfl ?_); clear hC9 hX9 X9 C9; intro C9 X9 hC9 hX9)
    | (apply w_ialM; (focus (exact rfl)); (focus (exact (by first | exact ⟨by decide, by decide⟩ | ((try simp (disch := omega) only [ab_tI, ab_c0, wd_ix12, wd_ix8, wd_ix10, wd_up_self, wd_up_eq, wd_up_ne, Int.toNat_natCast, Int.toNat_of_nonneg, not_true_eq_false, not_false_eq_true, Option.some.injEq, hmp, wd_l103, wd_l104, wd_l105, wd_l106, wd_l107, wd_l108, wd_l109, wd_l110, wd_l111, wd_l112, wd_l113, wd_l114, wd_l115, wd_l116, wd_l117, wd_l118, wd_l119, wd_l120, wd_l121, wd_l122, wd_l123, wd_l124]); omega)))); (intro v9 hv9; (try simp (disch := omega) only [ab_tI, ab_c0, wd_ix12, wd_ix8, wd_ix10, wd_up_self, wd_up_eq, wd_up_ne, Int.toNat_natCast, Int.toNat_of_nonneg, not_true_eq_false, not_false_eq_true, Option.some.injEq, hmp] at hv9); subst hv9))
    | (apply w_putM; (focus (exact rfl)); (focus (first | exact trivial | exact Or.inl rfl | exact Or.inr rfl)); (focus (exact rfl)))
    | (apply w_iasM; (focus (exact rfl)); (focus (exact (by first | exact ⟨by decide, by decide⟩ | ((try simp (disch := omega) only [ab_tI, ab_c0, wd_ix12, wd_ix8, wd_ix10, wd_up_self, wd_up_eq, wd_up_ne, Int.toNat_natCast, Int.toNat_of_nonneg, not_true_eq_false, not_false_eq_true, Option.some.injEq, hmp, wd_l103, wd_l104, wd_l105, wd_l106, wd_l107, wd_l108, wd_l109, wd_l110, wd_l111, wd_l112, wd_l113, wd_l114, wd_l115, wd_l116, wd_l117, wd_l118, wd_l119, wd_l120, wd_l121, wd_l122, wd_l123, wd_l124]); omega)))); (intro v9 hv9; (try simp (disch := omega) only [ab_tI, ab_c0, wd_ix12, wd_ix8, wd_ix10, wd_up_self, wd_up_eq, wd_up_ne, Int.toNat_natCast, Int.toNat_of_nonneg, not_true_eq_false, not_false_eq_true, Option.some.injEq, hmp] at hv9); subst hv9))
    | (refine i_brF (by decide) ?_)
    | (refine i_brT (by decide) ?_)
    | (refine ⟨fun hc => ?_, fun hc => ?_⟩ <;> (try simp (disch := omega) only [ab_tI, ab_c0, wd_ix12, wd_ix8, wd_ix10, wd_up_self, wd_up_eq, wd_up_ne, Int.toNat_natCast, Int.toNat_of_nonneg, not_true_eq_false, not_false_eq_true, Option.some.injEq, hmp] at hc) <;> first | (exfalso; omega) | skip)
    | (apply i_cv; (focus (exact rfl)))
    | (apply w_balM; (focus (exact (by first | exact ⟨by decide, by decide⟩ | ((try simp (disch := omega) only [ab_tI, ab_c0, wd_ix12, wd_ix8, wd_ix10, wd_up_self, wd_up_eq, wd_up_ne, Int.toNat_natCast, Int.toNat_of_nonneg, not_true_eq_false, not_false_eq_true, Option.some.injEq, hmp, wd_l103, wd_l104, wd_l105, wd_l106, wd_l107, wd_l108, wd_l109, wd_l110, wd_l111, wd_l112, wd_l113, wd_l114, wd_l115, wd_l116, wd_l117, wd_l118, wd_l119, wd_l120, wd_l121, wd_l122, wd_l123, wd_l124]); omega)))); (intro v9 hv9; (try simp (disch := omega) only [ab_tI, ab_c0, wd_ix12, wd_ix8, wd_ix10, wd_up_self, wd_up_eq, wd_up_ne, Int.toNat_natCast, Int.toNat_of_nonneg, not_true_eq_false, not_false_eq_true, Option.some.injEq, hmp] at hv9); subst hv9))
    | (apply w_basM; (focus (exact (by first | exact ⟨by decide, by decide⟩ | ((try simp (disch := omega) only [ab_tI, ab_c0, wd_ix12, wd_ix8, wd_ix10, wd_up_self, wd_up_eq, wd_up_ne, Int.toNat_natCast, Int.toNat_of_nonneg, not_true_eq_false, not_false_eq_true, Option.some.injEq, hmp, wd_l103, wd_l104, wd_l105, wd_l106, wd_l107, wd_l108, wd_l109, wd_l110, wd_l111, wd_l112, wd_l113, wd_l114, wd_l115, wd_l116, wd_l117, wd_l118, wd_l119, wd_l120, wd_l121, wd_l122, wd_l123, wd_l124]); omega)))); (focus (first | exact Or.inl rfl | exact Or.inr rfl)); (intro v9 hv9; (try simp (disch := omega) only [ab_tI, ab_c0, wd_ix12, wd_ix8, wd_ix10, wd_up_self, wd_up_eq, wd_up_ne, Int.toNat_natCast, Int.toNat_of_nonneg, not_true_eq_false, not_false_eq_true, Option.some.injEq, hmp] at hv9); subst hv9))
    | (refine And.intro trivial ?_)
    | (refine And.intro (Or.inl rfl) ?_)
    | (refine And.intro (Or.inr rfl) ?_)
    | (refine And.intro (by ((try simp (disch := omega) only [ab_tI, ab_c0, wd_ix12, wd_ix8, wd_ix10, wd_up_self, wd_up_eq, wd_up_ne, Int.toNat_natCast, Int.toNat_of_nonneg, not_true_eq_false, not_false_eq_true, Option.some.injEq, hmp]); omega)) ?_)
    | fail)
      all_goals (exfalso; omega)
    · have hl := hl (ab_ii 0) (Or.inr ⟨hm, rfl⟩)
      rw [if_neg hm] at hl
      refine wd_inC rfl (by omega) rfl ?_
      intro C9 X9 hC9 hX9
      (have chk9 := @hmp; clear chk9); repeat' ((conv => whnf); first
    | (refine hC9 147 _ _ _ (x_isHere (by omega) hp.1 (fun hf hc => ?_) (fun hf => ?_)) <;> (try simp (disch := omega) only [ab_tI, ab_c0, wd_ix12, wd_ix8, wd_ix10, wd_up_self, wd_up_eq, wd_up_ne, Int.toNat_natCast, Int.toNat_of_nonneg, not_true_eq_false, not_false_eq_true, Option.some.injEq] at hc) <;> (try simp (disch := omega) only [ab_tI, ab_c0, wd_ix12, wd_ix8, wd_ix10, wd_up_self, wd_up_eq, wd_up_ne, Int.toNat_natCast, Int.toNat_of_nonneg, not_true_eq_false, not_false_eq_true, Option.some.injEq] at hf))
    | (refine hC9 156 _ _ _ (hx _ ?_))
    | (refine hC9 151 _ _ _ (hadd _ ?_))
    | (refine hX9 64 _ _ _ (ab_WB_sub ?_ hl); (repeat (first | exact ab_sub0 | (refine ab_sub1 ?_ ?_; (focus ((repeat (refine ab_skip rfl ?_)); first | exact List.mem_cons_self))))))
    | (intro v9 hv9; (try simp (disch := omega) only [ab_tI, ab_c0, wd_ix12, wd_ix8, wd_ix10, wd_up_self, wd_up_eq, wd_up_ne, Int.toNat_natCast, Int.toNat_of_nonneg, not_true_eq_false, not_false_eq_true, Option.some.injEq, hmp] at hv9); subst hv9)
    | (apply i_get; (focus (exact rfl)); (focus (exact rfl)))
    | (refine hX9 _ _ _ _ (wd_rnC rfl ?_); clear hC9 hX9 X9 C9; intro C9 X9 hC9 hX9)
    | (apply w_ialM; (focus (exact rfl)); (focus (exact (by first | exact ⟨by decide, by decide⟩ | ((try simp (disch := omega) only [ab_tI, ab_c0, wd_ix12, wd_ix8, wd_ix10, wd_up_self, wd_up_eq, wd_up_ne, Int.toNat_natCast, Int.toNat_of_nonneg, not_true_eq_false, not_false_eq_true, Option.some.injEq, hmp, wd_l103, wd_l104, wd_l105, wd_l106, wd_l107, wd_l108, wd_l109, wd_l110, wd_l111, wd_l112, wd_l113, wd_l114, wd_l115, wd_l116, wd_l117, wd_l118, wd_l119, wd_l120, wd_l121, wd_l122, wd_l123, wd_l124]); omega)))); (intro v9 hv9; (try simp (disch := omega) only [ab_tI, ab_c0, wd_ix12, wd_ix8, wd_ix10, wd_up_self, wd_up_eq, wd_up_ne, Int.toNat_natCast, Int.toNat_of_nonneg, not_true_eq_false, not_false_eq_true, Option.some.injEq, hmp] at hv9); subst hv9))
    | (apply w_putM; (focus (exact rfl)); (focus (first | exact trivial | exact Or.inl rfl | exact Or.inr rfl)); (focus (exact rfl)))
    | (apply w_iasM; (focus (exact rfl)); (focus (exact (by first | exact ⟨by decide, by decide⟩ | ((try simp (disch := omega) only [ab_tI, ab_c0, wd_ix12, wd_ix8, wd_ix10, wd_up_self, wd_up_eq, wd_up_ne, Int.toNat_natCast, Int.toNat_of_nonneg, not_true_eq_false, not_false_eq_true, Option.some.injEq, hmp, wd_l103, wd_l104, wd_l105, wd_l106, wd_l107, wd_l108, wd_l109, wd_l110, wd_l111, wd_l112, wd_l113, wd_l114, wd_l115, wd_l116, wd_l117, wd_l118, wd_l119, wd_l120, wd_l121, wd_l122, wd_l123, wd_l124]); omega)))); (intro v9 hv9; (try simp (disch := omega) only [ab_tI, ab_c0, wd_ix12, wd_ix8, wd_ix10, wd_up_self, wd_up_eq, wd_up_ne, Int.toNat_natCast, Int.toNat_of_nonneg, not_true_eq_false, not_false_eq_true, Option.some.injEq, hmp] at hv9); subst hv9))
    | (refine i_brF (by decide) ?_)
    | (refine i_brT (by decide) ?_)
    | (refine ⟨fun hc => ?_, fun hc => ?_⟩ <;> (try simp (disch := omega) only [ab_tI, ab_c0, wd_ix12, wd_ix8, wd_ix10, wd_up_self, wd_up_eq, wd_up_ne, Int.toNat_natCast, Int.toNat_of_nonneg, not_true_eq_false, not_false_eq_true, Option.some.injEq, hmp] at hc) <;> first | (exfalso; omega) | skip)
    | (apply i_cv; (focus (exact rfl)))
    | (apply w_balM; (focus (exact (by first | exact ⟨by decide, by decide⟩ | ((try simp (disch := omega) only [ab_tI, ab_c0, wd_ix12, wd_ix8, wd_ix10, wd_up_self, wd_up_eq, wd_up_ne, Int.toNat_natCast, Int.toNat_of_nonneg, not_true_eq_false, not_false_eq_true, Option.some.injEq, hmp, wd_l103, wd_l104, wd_l105, wd_l106, wd_l107, wd_l108, wd_l109, wd_l110, wd_l111, wd_l112, wd_l113, wd_l114, wd_l115, wd_l116, wd_l117, wd_l118, wd_l119, wd_l120, wd_l121, wd_l122, wd_l123, wd_l124]); omega)))); (intro v9 hv9; (try simp (disch := omega) only [ab_tI, ab_c0, wd_ix12, wd_ix8, wd_ix10, wd_up_self, wd_up_eq, wd_up_ne, Int.toNat_natCast, Int.toNat_of_nonneg, not_true_eq_false, not_false_eq_true, Option.some.injEq, hmp] at hv9); subst hv9))
    | (apply w_basM; (focus (exact (by first | exact ⟨by decide, by decide⟩ | ((try simp (disch := omega) only [ab_tI, ab_c0, wd_ix12, wd_ix8, wd_ix10, wd_up_self, wd_up_eq, wd_up_ne, Int.toNat_natCast, Int.toNat_of_nonneg, not_true_eq_false, not_false_eq_true, Option.some.injEq, hmp, wd_l103, wd_l104, wd_l105, wd_l106, wd_l107, wd_l108, wd_l109, wd_l110, wd_l111, wd_l112, wd_l113, wd_l114, wd_l115, wd_l116, wd_l117, wd_l118, wd_l119, wd_l120, wd_l121, wd_l122, wd_l123, wd_l124]); omega)))); (focus (first | exact Or.inl rfl | exact Or.inr rfl)); (intro v9 hv9; (try simp (disch := omega) only [ab_tI, ab_c0, wd_ix12, wd_ix8, wd_ix10, wd_up_self, wd_up_eq, wd_up_ne, Int.toNat_natCast, Int.toNat_of_nonneg, not_true_eq_false, not_false_eq_true, Option.some.injEq, hmp] at hv9); subst hv9))
    | (refine And.intro trivial ?_)
    | (refine And.intro (Or.inl rfl) ?_)
    | (refine And.intro (Or.inr rfl) ?_)
    | (refine And.intro (by ((try simp (disch := omega) only [ab_tI, ab_c0, wd_ix12, wd_ix8, wd_ix10, wd_up_self, wd_up_eq, wd_up_ne, Int.toNat_natCast, Int.toNat_of_nonneg, not_true_eq_false, not_false_eq_true, Option.some.injEq, hmp]); omega)) ?_)
    | fail)
      all_goals (exfalso; omega)
end
