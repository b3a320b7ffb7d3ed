/-! ===== the reference: reading a thing, as a function (own text) ===== -/
def m_sz (M : wd_I) (t : Int32) : Nat := (M 105 t.toInt.toNat).toInt.toNat
def m_e1 (M : wd_I) (t : Int32) (s : Nat) : wd_I := if ((m_letters M).1 102 24).toInt = -1 ∧ ¬ (m_hk (m_letters M).1 t.toInt.toNat (m_letters M).2 s).toInt = 0 then m_fails (m_letters M).1 (M 102 23) else (m_letters M).1
def m_e2 (M : wd_I) (t : Int32) (s : Nat) : wd_I := (m_one (m_e1 M t s) (ab_ii 58) (ab_ii 58)).1
def m_e3 (R : wd_I × Int32) (t key : Int32) (s : Nat) : wd_I := if (R.1 102 24).toInt = -1 then m_puts R.1 t key R.2 s else R.1
def m_ent (G : wd_I → wd_I × Int32) (M : wd_I) (t : Int32) (s : Nat) : wd_I × Int32 := (m_e3 (G (m_e2 M t s)) t (m_letters M).2 s, (G (m_e2 M t s)).2)
def m_item (G : wd_I → wd_I × Int32) (mp : Int) (M : wd_I) (t : Int32) (s : Nat) : wd_I := if mp = 3 then (m_ent G M t s).1 else m_adds (G M).1 t (ab_ii 0) (G M).2 s
def m_itl (G : wd_I → wd_I × Int32) (mp : Int) (t : Int32) : Nat → wd_I → wd_I
  | 0, M => M
  | n + 1, M => if (M 102 24).toInt = -1 ∧ (m_here M).toInt = 44 ∧ m_sz M t < 12 then m_itl G mp t n (m_item G mp (m_stp M) t (m_sz M t)) else M
def m_all (G : wd_I → wd_I × Int32) (mp : Int) (M : wd_I) (t close : Int32) : wd_I := if (M 102 24).toInt = -1 ∧ (m_here M).toInt = close.toInt then m_stp M else (m_one (m_itl G mp t 102 (m_item G mp M t (m_sz M t))) close close).1
def m_rpair (G : wd_I → wd_I × Int32) (M : wd_I) : wd_I × Int32 :=
  let A := m_adds (G (m_begins M (ab_ii 1) (ab_ii 0) (ab_ii 0))).1 (M 102 8) (ab_ii 0) (G (m_begins M (ab_ii 1) (ab_ii 0) (ab_ii 0))).2 0
  let B := (m_one A (ab_ii 44) (ab_ii 44)).1
  let C := m_adds (G B).1 (M 102 8) (ab_ii 0) (G B).2 1
  (m_ends (m_one C (ab_ii 41) (ab_ii 41)).1 (M 102 8) 2, M 102 8)
def m_rmany (G : wd_I → wd_I × Int32) (M : wd_I) (sort close : Int32) : wd_I × Int32 :=
  let A := m_all G sort.toInt (m_begins M sort (ab_ii 0) (ab_ii 0)) (M 102 8) close
  (m_ends A (M 102 8) (m_sz A (M 102 8)), M 102 8)
def m_rtag (G : wd_I → wd_I × Int32) (M : wd_I) : wd_I × Int32 :=
  let A := (m_one M (ab_ii 48) (ab_ii 57)).1
  let B := m_begins A (ab_ii 4) (ab_ii ((m_one M (ab_ii 48) (ab_ii 57)).2.toInt - 48)) (ab_ii 0)
  let C := m_adds (G B).1 (A 102 8) (ab_ii 0) (G B).2 0
  (m_ends C (A 102 8) 1, A 102 8)
def m_rd1 (G : wd_I → wd_I × Int32) (M : wd_I) : wd_I × Int32 :=
  if (m_here M).toInt = 40 then m_rpair G (m_stp M)
  else if (m_here M).toInt = 91 then m_rmany G (m_stp M) (ab_ii 2) (ab_ii 93)
  else if (m_here M).toInt = 123 then m_rmany G (m_stp M) (ab_ii 3) (ab_ii 125)
  else if (m_here M).toInt = 35 then m_rtag G (m_stp M)
  else (m_number (m_signed M).1 (m_signed M).2, (m_signed M).1 102 8)
def m_rm1 (M : wd_I) : wd_I := wd_up M 102 25 (ab_ii ((M 102 25).toInt + 1))
def m_rd : Nat → wd_I → wd_I × Int32
  | 0, M => (m_fails M (M 102 23), ab_ii 0)
  | f + 1, M => if ¬ (M 102 24).toInt = -1 then (m_fails M (M 102 23), ab_ii 0) else m_rd1 (m_rd f) (m_rm1 M)
/-- what a reading leaves -/
def m_rr (M : wd_I) (R : wd_I × Int32) : Prop := m_rg M R.1 ∧ 0 ≤ R.2.toInt ∧ R.2.toInt < (R.1 102 8).toInt
def m_rG (G : wd_I → wd_I × Int32) : Prop := ∀ N, m_rp N → m_rr N (G N)
/-- a thing in the making: how many parts, where they lie -/
def m_pd (M0 M : wd_I) (t : Int32) (s : Nat) : Prop := m_rg M0 M ∧ t.toInt < (M 102 8).toInt ∧ (M 105 t.toInt.toNat).toInt = (s : Int) ∧ m_pr 3120 t.toInt.toNat s M
theorem m_pd_rg {M0 M N : wd_I} {t : Int32} {s : Nat} (h : m_pd M0 M t s) (h12 : s ≤ 12) (h0 : 0 ≤ t.toInt) (hg : m_rg M N) : m_pd M0 N t s := by
  obtain ⟨a1, a0, a2, a3⟩ := h
  refine ⟨a1.tr hg, by have := hg.2.2.1; omega, by rw [(hg.1.1.1 t.toInt.toNat (by omega)).2.2.1]; exact a2, fun j hj => ?_⟩
  rw [(hg.1.1.2 (12 * t.toInt.toNat + j) (by omega)).1]
  exact a3 j hj
theorem m_pd_adds {M0 M : wd_I} {t p : Int32} {s : Nat} (h : m_pd M0 M t s) (h0 : 0 ≤ t.toInt) (hn : 0 ≤ (M0 102 8).toInt) (ht : (M0 102 8).toInt ≤ t.toInt) (h11 : s ≤ 11) (hp : 0 ≤ p.toInt ∧ p.toInt < 3120) : m_pd M0 (m_adds M t (ab_ii 0) p s) t (s + 1) := by
  obtain ⟨a1, a0, a2, a3⟩ := h
  refine ⟨m_rw.rg a1 (m_adds_rw hn ht), by rw [m_adds_102]; exact a0, ?_, fun j hj => ?_⟩
  · rw [m_adds_sz, ab_tI (by omega) (by omega)]; omega
  · by_cases e : j = s
    · subst e
      rw [m_adds_pt]
      exact hp
    · rw [m_adds_pn (by omega)]
      exact a3 j (by omega)
/-- where a key goes, and whether it is a new one -/
def m_pk (M : wd_I) (t key : Int32) (s : Nat) : Nat := m_ppos M t.toInt.toNat key s 0
def m_pn (M : wd_I) (t key : Int32) (s : Nat) : Prop := m_pk M t key s = s ∨ ¬ (M 109 (12 * t.toInt.toNat + m_pk M t key s)).toInt = key.toInt
theorem m_pk_le {M : wd_I} {t key : Int32} {s : Nat} : m_pk M t key s ≤ s := by
  have := (m_ppos_b (M := M) (t := t.toInt.toNat) (key := key) s 0).2
  unfold m_pk
  omega
theorem m_puts_8 {M : wd_I} {t key p : Int32} {s j : Nat} : m_puts M t key p s 108 (12 * t.toInt.toNat + j) = @ite Int32 (j = m_pk M t key s) (Classical.propDecidable _) p (@ite Int32 (m_pn M t key s ∧ m_pk M t key s < j ∧ j ≤ s) (Classical.propDecidable _) (M 108 (12 * t.toInt.toNat + (j - 1))) (M 108 (12 * t.toInt.toNat + j))) := by
  have hle := m_pk_le (M := M) (t := t) (key := key) (s := s)
  unfold m_puts
  rw [wd_up_row _ _ _ (by decide)]
  change (wd_up (m_puts1 M t.toInt.toNat key s (m_pk M t key s)) 108 (12 * t.toInt.toNat + m_pk M t key s) p) 108 (12 * t.toInt.toNat + j) = _
  unfold m_pn
  generalize m_pk M t key s = kk at *
  by_cases e : j = kk
  · subst e
    rw [if_pos rfl, wd_up_self]
  · rw [if_neg e, wd_up_ne _ _ (Or.inr (by omega))]
    unfold m_puts1
    by_cases hn : kk = s ∨ ¬ (M 109 (12 * t.toInt.toNat + kk)).toInt = key.toInt
    · rw [if_pos hn, wd_up_row _ _ _ (by decide), m_psh_8 (s - kk) s M (by omega)]
      by_cases h2 : kk < j ∧ j ≤ s
      · rw [if_pos (by omega), if_pos ⟨hn, h2⟩]
        exact congrArg _ (by omega)
      · rw [if_neg (by omega), if_neg (fun q => h2 q.2)]
    · rw [if_neg hn, if_neg (fun q => hn q.1)]
theorem m_puts_9 {M : wd_I} {t key p : Int32} {s j : Nat} : m_puts M t key p s 109 (12 * t.toInt.toNat + j) = @ite Int32 (j = m_pk M t key s) (Classical.propDecidable _) key (@ite Int32 (m_pn M t key s ∧ m_pk M t key s < j ∧ j ≤ s) (Classical.propDecidable _) (M 109 (12 * t.toInt.toNat + (j - 1))) (M 109 (12 * t.toInt.toNat + j))) := by
  have hle := m_pk_le (M := M) (t := t) (key := key) (s := s)
  unfold m_puts
  change (wd_up (wd_up (m_puts1 M t.toInt.toNat key s (m_pk M t key s)) 108 (12 * t.toInt.toNat + m_pk M t key s) p) 109 (12 * t.toInt.toNat + m_pk M t key s) key) 109 (12 * t.toInt.toNat + j) = _
  unfold m_pn
  generalize m_pk M t key s = kk at *
  by_cases e : j = kk
  · subst e
    rw [if_pos rfl, wd_up_self]
  · rw [if_neg e, wd_up_ne _ _ (Or.inr (by omega)), wd_up_row _ _ _ (by decide)]
    unfold m_puts1
    by_cases hn : kk = s ∨ ¬ (M 109 (12 * t.toInt.toNat + kk)).toInt = key.toInt
    · rw [if_pos hn, wd_up_row _ _ _ (by decide), m_psh_9 (s - kk) s M (by omega)]
      by_cases h2 : kk < j ∧ j ≤ s
      · rw [if_pos (by omega), if_pos ⟨hn, h2⟩]
        exact congrArg _ (by omega)
      · rw [if_neg (by omega), if_neg (fun q => h2 q.2)]
    · rw [if_neg hn, if_neg (fun q => hn q.1)]
theorem m_puts_5 {M : wd_I} {t key p : Int32} {s : Nat} : m_puts M t key p s 105 t.toInt.toNat = @ite Int32 (m_pn M t key s) (Classical.propDecidable _) (ab_ii ((s : Int) + 1)) (M 105 t.toInt.toNat) := by
  unfold m_puts
  rw [wd_up_row _ _ _ (by decide), wd_up_row _ _ _ (by decide)]
  change m_puts1 M t.toInt.toNat key s (m_pk M t key s) 105 t.toInt.toNat = _
  unfold m_pn m_puts1
  split
  next h => exact wd_up_self _ _ _ _
  next h => rfl
theorem m_pd_puts {M0 M : wd_I} {t key p : Int32} {s : Nat} (h : m_pd M0 M t s) (h0 : 0 ≤ t.toInt) (hn : 0 ≤ (M0 102 8).toInt) (ht : (M0 102 8).toInt ≤ t.toInt) (h12 : s ≤ 12) (hp : 0 ≤ p.toInt ∧ p.toInt < 3120) : ∃ s', m_pd M0 (m_puts M t key p s) t s' ∧ s ≤ s' ∧ s' ≤ s + 1 := by
  obtain ⟨a1, a0, a2, a3⟩ := h
  have hle := m_pk_le (M := M) (t := t) (key := key) (s := s)
  have hrw : m_rw (M0 102 8).toInt M (m_puts M t key p s) := m_puts_rw hn ht
  by_cases hc : m_pn M t key s
  · refine ⟨s + 1, ⟨m_rw.rg a1 hrw, by rw [hrw.2.2]; exact a0, ?_, fun j hj => ?_⟩, by omega, by omega⟩
    · rw [m_puts_5, if_pos hc, ab_tI (by omega) (by omega)]; omega
    · rw [m_puts_8]
      split
      · exact hp
      · split
        · exact a3 _ (by omega)
        · next h1 h2 => exact a3 _ (by
            by_cases e : j = s
            · exact absurd ⟨hc, by omega, by omega⟩ h2
            · omega)
  · refine ⟨s, ⟨m_rw.rg a1 hrw, by rw [hrw.2.2]; exact a0, ?_, fun j hj => ?_⟩, by omega, by omega⟩
    · rw [m_puts_5, if_neg hc]; exact a2
    · rw [m_puts_8]
      split
      · exact hp
      · rw [if_neg (fun q => hc q.1)]
        exact a3 _ hj
theorem m_e1_sc {M : wd_I} {t : Int32} {s : Nat} (h : m_tp M) : m_sc M (m_e1 M t s) := by
  unfold m_e1
  split
  · exact (m_letters_sc h).tr (m_fails_sc (m_letters_sc h).2.2.1 h.1).1
  · exact m_letters_sc h
theorem m_e2_sc {M : wd_I} {t : Int32} {s : Nat} (h : m_tp M) : m_sc M (m_e2 M t s) := (m_e1_sc h).tr (m_one_sc (m_e1_sc h).2.2.1 (by decide)).1
theorem m_rr_lt {M : wd_I} {R : wd_I × Int32} (hp : m_rp M) (h : m_rr M R) : 0 ≤ R.2.toInt ∧ R.2.toInt < 3120 := ⟨h.2.1, by have := (m_rp_lt (h.1.rp hp)).2; have := h.2.2; omega⟩
theorem m_pd_item {G : wd_I → wd_I × Int32} (hG : m_rG G) {mp : Int} {M0 M : wd_I} {t : Int32} {s : Nat} (hp0 : m_rp M0) (h : m_pd M0 M t s) (h0 : 0 ≤ t.toInt) (ht : (M0 102 8).toInt ≤ t.toInt) (h11 : s ≤ 11) : ∃ s', m_pd M0 (m_item G mp M t s) t s' ∧ s' ≤ s + 1 := by
  have hp := h.1.rp hp0
  have hn : 0 ≤ (M0 102 8).toInt := by have := hp0.2.1; omega
  unfold m_item
  split
  · have h2 := m_e2_sc (t := t) (s := s) hp.1
    have h2g := h2.rg
    have hp2 := h2g.rp hp
    have hg := hG _ hp2
    have hpg := m_pd_rg (m_pd_rg h (by omega) h0 h2g) (by omega) h0 hg.1
    have hlt := m_rr_lt hp2 hg
    unfold m_ent m_e3
    split
    · obtain ⟨s', q1, q2, q3⟩ := m_pd_puts (key := (m_letters M).2) hpg h0 hn ht (by omega) hlt
      exact ⟨s', q1, q3⟩
    · exact ⟨s, hpg, by omega⟩
  · have hg := hG _ hp
    have hpg := m_pd_rg h (by omega) h0 hg.1
    have hlt := m_rr_lt hp hg
    exact ⟨s + 1, m_pd_adds hpg h0 hn ht h11 hlt, by omega⟩
theorem m_pd_sz {M0 M : wd_I} {t : Int32} {s : Nat} (h : m_pd M0 M t s) : m_sz M t = s := by
  unfold m_sz
  rw [h.2.2.1]
  omega
theorem m_pd_itl {G : wd_I → wd_I × Int32} (hG : m_rG G) {mp : Int} {M0 : wd_I} {t : Int32} (hp0 : m_rp M0) (h0 : 0 ≤ t.toInt) (ht : (M0 102 8).toInt ≤ t.toInt) : ∀ (n : Nat) (M : wd_I) (s : Nat), m_pd M0 M t s → s ≤ 12 → ∃ s', m_pd M0 (m_itl G mp t n M) t s' ∧ s' ≤ 12
  | 0, M, s, h, h12 => ⟨s, h, h12⟩
  | n + 1, M, s, h, h12 => by
    unfold m_itl
    split
    next hc =>
      have hs := m_pd_sz h
      have hp := h.1.rp hp0
      have hst := (m_stp_sc hp.1 (m_here_lt (by omega)).1).1.rg
      have h2 := m_pd_rg h (by omega) h0 hst
      rw [hs]
      obtain ⟨s', q1, q2⟩ := m_pd_item hG (mp := mp) hp0 h2 h0 ht (by omega)
      exact m_pd_itl hG hp0 h0 ht n _ s' q1 (by omega)
    next => exact ⟨s, h, h12⟩
theorem m_pd_all {G : wd_I → wd_I × Int32} (hG : m_rG G) {mp : Int} {M0 M : wd_I} {t close : Int32} {s : Nat} (hp0 : m_rp M0) (h : m_pd M0 M t s) (h0 : 0 ≤ t.toInt) (ht : (M0 102 8).toInt ≤ t.toInt) (h11 : s ≤ 11) (hcl : 0 ≤ close.toInt) : ∃ s', m_pd M0 (m_all G mp M t close) t s' ∧ s' ≤ 12 := by
  have hp := h.1.rp hp0
  unfold m_all
  split
  next hc => exact ⟨s, m_pd_rg h (by omega) h0 (m_stp_sc hp.1 (m_here_lt (by omega)).1).1.rg, by omega⟩
  next =>
    rw [m_pd_sz h]
    obtain ⟨s1, q1, q2⟩ := m_pd_item hG (mp := mp) hp0 h h0 ht h11
    obtain ⟨s2, r1, r2⟩ := m_pd_itl hG (mp := mp) hp0 h0 ht 102 _ s1 q1 (by omega)
    exact ⟨s2, m_pd_rg r1 (by omega) h0 (m_one_sc (r1.1.rp hp0).1 hcl).1.rg, r2⟩
theorem m_pd_begins {M0 M : wd_I} {sort v : Int32} (hp0 : m_rp M0) (h : m_rg M0 M) (hlt : (M 102 8).toInt + m_pt M + 1 ≤ (M0 102 8).toInt + m_pt M0) : m_pd M0 (m_begins M sort v (ab_ii 0)) (M 102 8) 0 := by
  have hr := m_rp_lt (h.rp hp0)
  exact ⟨m_begins_rg hp0 h hlt, by rw [m_begins_8, ab_tI (by omega) (by omega)]; omega, by rw [m_begins_sz]; rfl, fun j hj => absurd hj (Nat.not_lt_zero _)⟩
theorem m_pd_ends {M0 M : wd_I} {t : Int32} {s : Nat} (hp0 : m_rp M0) (h : m_pd M0 M t s) (h0 : 0 ≤ t.toInt) (ht : (M0 102 8).toInt ≤ t.toInt) : m_rr M0 (m_ends M t s, t) := by
  have hn : 0 ≤ (M0 102 8).toInt := by have := hp0.2.1; omega
  have hrw : m_rw (M0 102 8).toInt M (m_ends M t s) := m_ends_rw hn ht
  exact ⟨m_rw.rg h.1 hrw, h0, by show t.toInt < (m_ends M t s 102 8).toInt; rw [hrw.2.2]; exact h.2.1⟩
theorem m_rpair_rr {G : wd_I → wd_I × Int32} (hG : m_rG G) {M0 M : wd_I} (hp0 : m_rp M0) (h : m_rg M0 M) (hlt : (M 102 8).toInt + m_pt M + 1 ≤ (M0 102 8).toInt + m_pt M0) : m_rr M0 (m_rpair G M) := by
  have hr := m_rp_lt (h.rp hp0)
  have hn : 0 ≤ (M0 102 8).toInt := by have := hp0.2.1; omega
  have h0 : 0 ≤ (M 102 8).toInt := by omega
  have ht := h.2.2.1
  have b1 := m_pd_begins (sort := ab_ii 1) (v := ab_ii 0) hp0 h hlt
  have p1 := b1.1.rp hp0
  have g1 := hG _ p1
  have b2 := m_pd_adds (m_pd_rg b1 (by omega) h0 g1.1) h0 hn ht (by omega) (m_rr_lt p1 g1)
  have b3 := m_pd_rg b2 (by omega) h0 (m_one_sc (lo := ab_ii 44) (hi := ab_ii 44) (b2.1.rp hp0).1 (by decide)).1.rg
  have p3 := b3.1.rp hp0
  have g3 := hG _ p3
  have b4 := m_pd_adds (m_pd_rg b3 (by omega) h0 g3.1) h0 hn ht (by omega) (m_rr_lt p3 g3)
  have b5 := m_pd_rg b4 (by omega) h0 (m_one_sc (lo := ab_ii 41) (hi := ab_ii 41) (b4.1.rp hp0).1 (by decide)).1.rg
  exact m_pd_ends hp0 b5 h0 ht
theorem m_rmany_rr {G : wd_I → wd_I × Int32} (hG : m_rG G) {M0 M : wd_I} {sort close : Int32} (hp0 : m_rp M0) (h : m_rg M0 M) (hlt : (M 102 8).toInt + m_pt M + 1 ≤ (M0 102 8).toInt + m_pt M0) (hcl : 0 ≤ close.toInt) : m_rr M0 (m_rmany G M sort close) := by
  have hr := m_rp_lt (h.rp hp0)
  have h0 : 0 ≤ (M 102 8).toInt := by omega
  have ht := h.2.2.1
  have b1 := m_pd_begins (sort := sort) (v := ab_ii 0) hp0 h hlt
  obtain ⟨s', b2, q2⟩ := m_pd_all hG (mp := sort.toInt) hp0 b1 h0 ht (by omega) hcl
  have := m_pd_ends hp0 b2 h0 ht
  unfold m_rmany
  simp only []
  rw [m_pd_sz b2]
  exact this
theorem m_rtag_rr {G : wd_I → wd_I × Int32} (hG : m_rG G) {M0 M : wd_I} (hp0 : m_rp M0) (h : m_rg M0 M) (hlt : (M 102 8).toInt + m_pt M + 1 ≤ (M0 102 8).toInt + m_pt M0) : m_rr M0 (m_rtag G M) := by
  have hn : 0 ≤ (M0 102 8).toInt := by have := hp0.2.1; omega
  have s1 := (m_one_sc (lo := ab_ii 48) (hi := ab_ii 57) (h.rp hp0).1 (by decide)).1
  have hA := h.tr s1.rg
  have e8 : (m_one M (ab_ii 48) (ab_ii 57)).1 102 8 = M 102 8 := s1.2.1 8 (by decide) (by decide)
  have hr := m_rp_lt (hA.rp hp0)
  have hlt2 := s1.2.2.2
  have h0 : 0 ≤ ((m_one M (ab_ii 48) (ab_ii 57)).1 102 8).toInt := by omega
  have ht := hA.2.2.1
  have b1 := m_pd_begins (sort := ab_ii 4) (v := ab_ii ((m_one M (ab_ii 48) (ab_ii 57)).2.toInt - 48)) hp0 hA (by rw [e8]; omega)
  have p1 := b1.1.rp hp0
  have g1 := hG _ p1
  have b2 := m_pd_adds (m_pd_rg b1 (by omega) h0 g1.1) h0 hn ht (by omega) (m_rr_lt p1 g1)
  exact m_pd_ends hp0 b2 h0 ht
theorem m_number_rr {M0 M : wd_I} {v : Int32} (hp0 : m_rp M0) (h : m_rg M0 M) (hlt : (M 102 8).toInt + m_pt M + 1 ≤ (M0 102 8).toInt + m_pt M0) : m_rr M0 (m_number M v, M 102 8) := by
  have hr := m_rp_lt (h.rp hp0)
  have b1 := m_pd_begins (sort := ab_ii 0) (v := v) hp0 h hlt
  exact m_pd_ends hp0 b1 (by omega) h.2.2.1
theorem m_rm1_n {M : wd_I} {j : Nat} (h : j ≠ 25) : m_rm1 M 102 j = M 102 j := wd_up_ne _ _ (Or.inr h)
theorem m_rm1_pt {M : wd_I} : m_pt (m_rm1 M) = m_pt M := by unfold m_pt; rw [m_rm1_n (by decide), m_rm1_n (by decide)]
theorem m_rd1_rr {G : wd_I → wd_I × Int32} (hG : m_rG G) {M : wd_I} (hp : m_rp M) (hf : (M 102 24).toInt = -1) : m_rr M (m_rd1 G (m_rm1 M)) := by
  have h1 : m_rg M (m_rm1 M) := m_many1_rg hp.1
  have p1 := h1.rp hp
  have ef : m_rm1 M 102 24 = M 102 24 := m_rm1_n (by decide)
  have e8 : m_rm1 M 102 8 = M 102 8 := m_rm1_n (by decide)
  have ept := m_rm1_pt (M := M)
  have hst : 0 ≤ (m_here (m_rm1 M)).toInt → m_rg M (m_stp (m_rm1 M)) ∧ (m_stp (m_rm1 M) 102 8).toInt + m_pt (m_stp (m_rm1 M)) + 1 ≤ (M 102 8).toInt + m_pt M := fun h => by
    have h2 := m_stp_sc p1.1 (m_here_lt h).1
    refine ⟨h1.tr h2.1.rg, ?_⟩
    rw [h2.1.2.1 8 (by decide) (by decide), e8]
    have := h2.2
    omega
  unfold m_rd1
  split
  · exact m_rpair_rr hG hp (hst (by omega)).1 (hst (by omega)).2
  split
  · exact m_rmany_rr hG hp (hst (by omega)).1 (hst (by omega)).2 (by decide)
  split
  · exact m_rmany_rr hG hp (hst (by omega)).1 (hst (by omega)).2 (by decide)
  split
  · exact m_rtag_rr hG hp (hst (by omega)).1 (hst (by omega)).2
  · have h2 := m_signed_sc p1.1
    have h3 := h2.2 (by rw [ef]; exact hf)
    exact m_number_rr hp (h1.tr h2.1.rg) (by rw [h2.1.2.1 8 (by decide) (by decide), e8]; omega)
theorem m_rd_rr : ∀ f, m_rG (m_rd f)
  | 0, M, hp => ⟨(m_fails_sc hp.1 hp.1.1).1.rg, by show (0 : Int) ≤ 0; decide, by
      show (0 : Int) < (m_fails M (M 102 23) 102 8).toInt
      rw [(m_fails_sc hp.1 hp.1.1).1.2.1 8 (by decide) (by decide)]
      have := hp.2.1
      omega⟩
  | f + 1, M, hp => by
    unfold m_rd
    split
    next h => exact ⟨(m_fails_sc hp.1 hp.1.1).1.rg, by show (0 : Int) ≤ 0; decide, by
      show (0 : Int) < (m_fails M (M 102 23) 102 8).toInt
      rw [(m_fails_sc hp.1 hp.1.1).1.2.1 8 (by decide) (by decide)]
      have := hp.2.1
      omega⟩
    next h => exact m_rd1_rr (m_rd_rr f) hp (Classical.not_not.mp h)
