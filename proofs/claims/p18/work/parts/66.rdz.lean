/-! ===== the reference: what is read are good rows, whole (own text) ===== -/
theorem m_adds_uf {M N : wd_I} {t key p : Int32} {s : Nat} (h : m_uf M N) : m_uf M (m_adds N t key p s) := fun q => h (by rw [m_adds_102] at q; exact q)
theorem m_puts_uf {M N : wd_I} {t key p : Int32} {s : Nat} (h : m_uf M N) : m_uf M (m_puts N t key p s) := fun q => h (by rw [m_puts_102] at q; exact q)
theorem m_item_uf {hb : Int} {G : wd_I → wd_I × Int32} (hG : m_rG2 hb G) {mp : Int} {M : wd_I} {t : Int32} {s : Nat} (hp : m_rp M) : m_uf M (m_item G mp M t s) := by
  unfold m_item
  split
  · unfold m_ent m_e3
    have h2 : m_uf M (G (m_e2 M t s)).1 := m_e2_uf.tr (hG.2.1 _ ((m_e2_sc hp.1).rg.rp hp))
    split
    · exact m_puts_uf h2
    · exact h2
  · exact m_adds_uf (hG.2.1 _ hp)
theorem m_ip_adds {hb : Int} {G : wd_I → wd_I × Int32} (hG : m_rG2 hb G) {M0 N : wd_I} {t sort : Int32} {s : Nat} (h : m_ip hb M0 N t sort s) (hs3 : ¬ sort.toInt = 3) (h25 : m_r25 M0) (hp : m_rp N) (h11 : s ≤ 11) (h0 : 0 ≤ t.toInt) (ht : t.toInt < (N 102 8).toInt) (hu : ((G N).1 102 24).toInt = -1) : m_ip hb M0 (m_adds (G N).1 t (ab_ii 0) (G N).2 s) t sort (s + 1) := by
  have g := hG.1 N hp
  have w := hG.2.2 N hp (m_ip_r25 h h25) hu
  have hrt := g.1.1.1.ra (q := t.toInt.toNat) (by omega)
  refine m_ip_ins (k := s) h h11 h0 ht g.1 w g.2.2 (Nat.le_refl _) m_adds_102 (fun q hq => m_adds_ra h11 hq) (by rw [m_adds_kd]) (by rw [m_adds_sz, ab_tI (by omega) (by omega)]; omega) (fun j hj => ?_) (fun _ j hj => ?_) (fun q => absurd q hs3)
  · by_cases e : j = s
    · subst e; rw [m_adds_pt, if_pos rfl]
    · rw [m_adds_pn (by omega), if_neg e, if_neg (by omega)]
  · rw [m_adds_ky]
    split
    · decide
    · rw [(hrt.2.2.2.2.2 j (by omega)).2]
      exact h.2.2.2.2.2.2.1 hs3 j (by omega)
theorem m_ip_ent {hb : Int} {G : wd_I → wd_I × Int32} (hG : m_rG2 hb G) {M0 N : wd_I} {t sort : Int32} {s : Nat} (h : m_ip hb M0 N t sort s) (hs3 : sort.toInt = 3) (h25 : m_r25 M0) (hp : m_rp N) (h11 : s ≤ 11) (h0 : 0 ≤ t.toInt) (ht : t.toInt < (N 102 8).toInt) (hu : ((m_ent G N t s).1 102 24).toInt = -1) : m_ip hb M0 (m_ent G N t s).1 t sort (s + 1) := by
  have e2 := m_e2_sc (t := t) (s := s) hp.1
  have hpE := e2.rg.rp hp
  have hE := m_ip_sc h h0 e2
  have e8 : m_e2 N t s 102 8 = N 102 8 := e2.2.1 8 (by decide) (by decide)
  have g := hG.1 _ hpE
  have huf := hG.2.1 _ hpE
  have hL := m_letters_sc hp.1
  unfold m_ent m_e3 at hu ⊢
  dsimp only at hu ⊢
  have hu1 : ((G (m_e2 N t s)).1 102 24).toInt = -1 := by
    split at hu
    · next hc => exact hc
    · exact hu
  rw [if_pos hu1]
  have w := hG.2.2 _ hpE (m_ip_r25 hE h25) hu1
  have hue := huf hu1
  have hu1e : (m_e1 N t s 102 24).toInt = -1 := m_one_uf hue
  have hno := m_hk_no s (m_e1_dup hp.1 hu1e)
  have hrt := g.1.1.1.ra (q := t.toInt.toNat) (by rw [e8]; omega)
  have hky : ∀ j, j < s → (G (m_e2 N t s)).1 109 (12 * t.toInt.toNat + j) = N 109 (12 * t.toInt.toNat + j) := fun j hj => by rw [(hrt.2.2.2.2.2 j (by omega)).2, e2.1 109 (by decide)]
  rw [hL.1 109 (by decide)] at hno
  obtain ⟨hpn, hsrt⟩ := m_puts_sorted (M := (G (m_e2 N t s)).1) (t := t) (key := (m_letters N).2) (p := (G (m_e2 N t s)).2) (s := s) (fun j hj => by rw [hky j (by omega), hky (j + 1) hj]; exact h.2.2.2.2.2.2.2.1 hs3 j hj) (fun j hj => by rw [hky j hj]; exact hno j hj)
  refine m_ip_ins (k := m_pk (G (m_e2 N t s)).1 t (m_letters N).2 s) hE h11 h0 (by rw [e8]; exact ht) g.1 w g.2.2 m_pk_le m_puts_102 (fun q hq => m_puts_ra h11 hq) ?_ (by rw [m_puts_5, if_pos hpn, ab_tI (by omega) (by omega)]; omega) (fun j hj => ?_) (fun q => absurd hs3 q) (fun _ => hsrt)
  · unfold m_puts m_puts1
    rw [wd_up_row _ _ _ (by decide), wd_up_row _ _ _ (by decide)]
    split
    · rw [wd_up_row _ _ _ (by decide), m_psh_row (by decide) (by decide)]
    · rfl
  · rw [m_puts_8]
    by_cases e : j = m_pk (G (m_e2 N t s)).1 t (m_letters N).2 s
    · rw [if_pos e, if_pos e]
    · rw [if_neg e, if_neg e]
      by_cases e2 : m_pk (G (m_e2 N t s)).1 t (m_letters N).2 s < j
      · rw [if_pos ⟨hpn, e2, hj⟩, if_pos e2]
      · rw [if_neg (fun q => e2 q.2.1), if_neg e2]
theorem m_ip_item {hb : Int} {G : wd_I → wd_I × Int32} (hG : m_rG2 hb G) {M0 N : wd_I} {t sort : Int32} {s : Nat} (h : m_ip hb M0 N t sort s) (h25 : m_r25 M0) (hp : m_rp N) (h11 : s ≤ 11) (h0 : 0 ≤ t.toInt) (ht : t.toInt < (N 102 8).toInt) (hu : ((m_item G sort.toInt N t s) 102 24).toInt = -1) : m_ip hb M0 (m_item G sort.toInt N t s) t sort (s + 1) := by
  unfold m_item at hu ⊢
  split at hu
  next h3 => rw [if_pos h3]; exact m_ip_ent hG h h3 h25 hp h11 h0 ht hu
  next h3 =>
    rw [if_neg h3]
    rw [m_adds_102] at hu
    exact m_ip_adds hG h h3 h25 hp h11 h0 ht hu
theorem m_itl_uf {hb : Int} {G : wd_I → wd_I × Int32} (hG : m_rG2 hb G) {mp : Int} {M0 : wd_I} {t : Int32} (hp0 : m_rp M0) (h0 : 0 ≤ t.toInt) (ht : (M0 102 8).toInt ≤ t.toInt) : ∀ (n : Nat) (M : wd_I) (s : Nat), m_pd M0 M t s → s ≤ 12 → m_uf M (m_itl G mp t n M)
  | 0, M, s, h, h12 => m_uf_e rfl
  | n + 1, M, s, h, h12 => by
    unfold m_itl
    split
    next hc =>
      have hs := m_pd_sz h
      have hp := h.1.rp hp0
      have hst := (m_stp_sc hp.1 (m_here_lt (by omega)).1).1.rg
      have h2 := m_pd_rg h (by omega) h0 hst
      rw [hs]
      obtain ⟨s', q1, q2⟩ := m_pd_item hG.1 (mp := mp) hp0 h2 h0 ht (by omega)
      exact m_stp_uf.tr ((m_item_uf hG (hst.rp hp)).tr (m_itl_uf hG hp0 h0 ht n _ s' q1 (by omega)))
    next => exact m_uf_e rfl
theorem m_ip_itl {hb : Int} {G : wd_I → wd_I × Int32} (hG : m_rG2 hb G) {M0 : wd_I} {t sort : Int32} (hp0 : m_rp M0) (h25 : m_r25 M0) (h0 : 0 ≤ t.toInt) (ht : (M0 102 8).toInt ≤ t.toInt) : ∀ (n : Nat) (M : wd_I) (s : Nat), m_pd M0 M t s → m_ip hb M0 M t sort s → s ≤ 12 → ((m_itl G sort.toInt t n M) 102 24).toInt = -1 → ∃ s', m_ip hb M0 (m_itl G sort.toInt t n M) t sort s' ∧ m_pd M0 (m_itl G sort.toInt t n M) t s' ∧ s' ≤ 12
  | 0, M, s, h, hi, h12, hu => ⟨s, hi, h, h12⟩
  | n + 1, M, s, h, hi, h12, hu => by
    unfold m_itl at hu ⊢
    split at hu
    next hc =>
      rw [if_pos hc]
      have hs := m_pd_sz h
      have hp := h.1.rp hp0
      have hst := (m_stp_sc hp.1 (m_here_lt (by omega)).1).1
      have h2 := m_pd_rg h (by omega) h0 hst.rg
      rw [hs] at hu ⊢
      have hi2 := m_ip_sc hi h0 hst
      have hp2 := hst.rg.rp hp
      obtain ⟨s', q1, q2⟩ := m_pd_item hG.1 (mp := sort.toInt) hp0 h2 h0 ht (by omega)
      have hu2 : ((m_item G sort.toInt (m_stp M) t s) 102 24).toInt = -1 := m_itl_uf hG hp0 h0 ht n _ s' q1 (by omega) hu
      have hi3 := m_ip_item hG hi2 h25 hp2 (by omega) h0 h2.2.1 hu2
      have es : s' = s + 1 := by
        have b1 := q1.2.2.1
        have b2 := hi3.2.1
        omega
      subst es
      exact m_ip_itl hG hp0 h25 h0 ht n _ (s + 1) q1 hi3 (by omega) hu
    next hc =>
      rw [if_neg hc]
      exact ⟨s, hi, h, h12⟩
theorem m_ip_all {hb : Int} {G : wd_I → wd_I × Int32} (hG : m_rG2 hb G) {M0 M : wd_I} {t sort close : Int32} {s : Nat} (hp0 : m_rp M0) (h25 : m_r25 M0) (h : m_pd M0 M t s) (hi : m_ip hb M0 M t sort s) (h0 : 0 ≤ t.toInt) (ht : (M0 102 8).toInt ≤ t.toInt) (h11 : s ≤ 11) (hcl : 0 ≤ close.toInt) (hu : ((m_all G sort.toInt M t close) 102 24).toInt = -1) : ∃ s', m_ip hb M0 (m_all G sort.toInt M t close) t sort s' ∧ s' ≤ 12 := by
  have hp := h.1.rp hp0
  unfold m_all at hu ⊢
  split at hu
  next hc =>
    rw [if_pos hc]
    exact ⟨s, m_ip_sc hi h0 (m_stp_sc hp.1 (m_here_lt (by omega)).1).1, by omega⟩
  next hc =>
    rw [if_neg hc]
    rw [m_pd_sz h] at hu ⊢
    have hu2 := m_one_uf hu
    obtain ⟨s1, q1, q2⟩ := m_pd_item hG.1 (mp := sort.toInt) hp0 h h0 ht h11
    have hu3 := m_itl_uf hG hp0 h0 ht 102 _ s1 q1 (by omega) hu2
    have hi1 := m_ip_item hG hi h25 hp h11 h0 h.2.1 hu3
    have es : s1 = s + 1 := by
      have b1 := q1.2.2.1
      have b2 := hi1.2.1
      omega
    subst es
    obtain ⟨s2, r1, r2, r3⟩ := m_ip_itl hG hp0 h25 h0 ht 102 _ (s + 1) q1 hi1 (by omega) hu2
    exact ⟨s2, m_ip_sc r1 h0 (m_one_sc (r2.1.rp hp0).1 hcl).1, r3⟩
theorem m_ip_begins {hb : Int} {M M0 : wd_I} {sort v : Int32} (h0 : 0 ≤ (M 102 8).toInt) (h1 : (M 102 8).toInt < 3120) (hpt : 1 + m_pt M ≤ m_pt M0) (h25 : (M 102 25).toInt = (M0 102 25).toInt + 1) : m_ip hb M0 (m_begins M sort v (ab_ii 0)) (M 102 8) sort 0 := by
  have e8 : (m_begins M sort v (ab_ii 0) 102 8).toInt = (M 102 8).toInt + 1 := by rw [m_begins_8, ab_tI (by omega) (by omega)]
  have ept : m_pt (m_begins M sort v (ab_ii 0)) = m_pt M := by unfold m_pt; rw [m_begins_n (by decide), m_begins_n (by decide)]
  exact ⟨m_begins_kd, by rw [m_begins_sz]; rfl, fun q h1 h2 => by omega, fun j hj => absurd hj (Nat.not_lt_zero _), by rw [ept]; exact hpt, by rw [m_begins_n (by decide)]; exact h25, fun _ j hj => absurd hj (Nat.not_lt_zero _), fun _ j hj => absurd hj (Nat.not_lt_zero _), by rw [e8]; rfl⟩
/-- a thing that has been read is finished -/
theorem m_ip_ends {hb : Int} {M0 M : wd_I} {t sort : Int32} {s : Nat} (h : m_ip hb M0 M t sort s) (ht : t = M0 102 8) (h0 : 0 ≤ t.toInt) (htl : t.toInt < (M 102 8).toInt) (h12 : s ≤ 12) (hso : 1 ≤ sort.toInt ∧ sort.toInt ≤ 4) (hhb : -1 ≤ hb ∧ hb ≤ 20) (hpt : m_pt M0 ≤ 1 ∧ -100 ≤ m_pt M) : m_rw2 (hb + 1) M0 (m_ends M t s, t) := by
  obtain ⟨a1, a2, a3, a4, a5, a6, a7, a8, a9⟩ := h
  have hnode : ∀ j, j < s → (M 106 (M 108 (12 * t.toInt.toNat + j)).toInt.toNat).toInt ≤ 150 := fun j hj => (a3 _ (by have := a4 j hj; omega) (by have := a4 j hj; omega)).2.1
  obtain ⟨g1, g2, g3, g4, g5⟩ := m_ends_gr (D := fun x => t.toInt ≤ x ∧ x < (M 102 8).toInt) (N := M) (t := t) a2 h12 (by rw [a1]; omega) (fun j hj => by
    obtain ⟨b1, b2, b3⟩ := a4 j hj
    exact ⟨by omega, by omega, by omega⟩) (fun j hj => by have := a4 j hj; have := hnode j hj; omega) (fun j hj => by have := a4 j hj; omega) (fun q => by rw [a1] at q; omega) (by rw [a1]; exact a7) (by rw [a1]; exact a8)
  have hge : 1 ≤ m_nds M t.toInt.toNat s := m_nds_mono (N := M) (q := t.toInt.toNat) (s := s) (fun j hj => by have := (a4 j hj).2.1; omega) 0 s (by omega) (Nat.le_refl _)
  have e102 : m_ends M t s 102 = M 102 := m_ends_row (by decide) (by decide)
  have ept : m_pt (m_ends M t s) = m_pt M := by unfold m_pt; rw [e102]
  have hh : (m_ends M t s 107 t.toInt.toNat).toInt ≤ hb + 1 := by
    rcases g5 with e | ⟨i, hi, e⟩
    · omega
    · have := (a4 i hi).2.2; omega
  intro _
  dsimp only
  refine ⟨fun q hq1 hq2 => ?_, by rw [← ht]; exact Int.le_refl _, by rw [g2, ept]; omega, ⟨g4, hh⟩, by rw [g2, e102]; exact a6, by rw [g2, e102, ← ht]; exact a9⟩
  rw [e102] at hq2 ⊢
  rw [← ht] at hq1 ⊢
  by_cases e : q = t.toInt.toNat
  · subst e
    exact ⟨m_gr_ra g1 m_ra.rf (fun _ _ _ => m_ra.rf) (fun x _ hx => hx), by rw [g2]; omega, hh⟩
  · obtain ⟨b1, b2, b3⟩ := a3 q (by omega) hq2
    have hr := m_ends_ra (N := M) (t := t) (s := s) e
    exact ⟨m_gr_ra b1 hr (fun x hx hxD => m_ends_ra (by omega)) (fun x _ hx => by omega), by rw [hr.2.2.2.1]; exact b2, by rw [hr.2.2.2.2.1]; omega⟩
theorem m_pt_b {M : wd_I} (h : m_tp M) : -100 ≤ m_pt M ∧ m_pt M ≤ 1 := by
  obtain ⟨t1, t2, t3⟩ := h
  unfold m_pt
  split <;> omega
