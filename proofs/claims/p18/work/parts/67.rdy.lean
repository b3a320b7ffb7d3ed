/-! ===== the reference: a reading makes good rows (own text) ===== -/
theorem m_ends_uf {M N : wd_I} {t : Int32} {s : Nat} (h : m_uf M N) : m_uf M (m_ends N t s) := fun q => h (by rw [m_ends_row (by decide) (by decide)] at q; exact q)
theorem m_begins_uf {M N : wd_I} {s v m : Int32} (h : m_uf M N) : m_uf M (m_begins N s v m) := fun q => h (by rw [m_begins_n (by decide)] at q; exact q)
/-- the step into a thing: what it leaves as it is -/
theorem m_stp1_g {M : wd_I} (hp : m_rp M) (h : 0 ≤ (m_here M).toInt) (h25 : m_r25 M) : m_stp (m_rm1 M) 102 8 = M 102 8 ∧ 1 + m_pt (m_stp (m_rm1 M)) = m_pt M ∧ (m_stp (m_rm1 M) 102 25).toInt = (M 102 25).toInt + 1 := by
  have p1 : m_rp (m_rm1 M) := (m_many1_rg (M := M) (x := ab_ii ((M 102 25).toInt + 1)) hp.1).rp hp
  have h2 := m_stp_sc p1.1 (m_here_lt (M := m_rm1 M) (by rw [m_here_rm1]; exact h)).1
  have e25 : m_rm1 M 102 25 = ab_ii ((M 102 25).toInt + 1) := wd_up_self _ _ _ _
  have hb := m_pt_b hp.1
  unfold m_r25 at h25
  refine ⟨by rw [h2.1.2.1 8 (by decide) (by decide), m_rm1_n (by decide)], by have := h2.2; rw [m_rm1_pt] at this; omega, ?_⟩
  rw [h2.1.2.1 25 (by decide) (by decide), e25, ab_tI (by omega) (by omega)]
theorem m_stp1_uf {M : wd_I} : m_uf M (m_stp (m_rm1 M)) := fun q => by
  have := m_stp_uf q
  rw [m_rm1_n (by decide)] at this
  exact this
theorem m_rpair_w {hb : Int} {G : wd_I → wd_I × Int32} (hG : m_rG2 hb G) (hhb : -1 ≤ hb ∧ hb ≤ 20) {M S : wd_I} (hp : m_rp M) (h25 : m_r25 M) (hrg : m_rg M S) (hlt : (S 102 8).toInt + m_pt S + 1 ≤ (M 102 8).toInt + m_pt M) (h8 : S 102 8 = M 102 8) (hpt : 1 + m_pt S ≤ m_pt M) (hS25 : (S 102 25).toInt = (M 102 25).toInt + 1) (hufS : m_uf M S) : m_rw2 (hb + 1) M (m_rpair G S) ∧ m_uf M (m_rpair G S).1 := by
  have hr := m_rp_lt (hrg.rp hp)
  have hn : 0 ≤ (M 102 8).toInt := by have := hp.2.1; omega
  have h0 : 0 ≤ (S 102 8).toInt := by omega
  have ht := hrg.2.2.1
  have b1 := m_pd_begins (sort := ab_ii 1) (v := ab_ii 0) hp hrg hlt
  have i1 := m_ip_begins (hb := hb) (M0 := M) (M := S) (sort := ab_ii 1) (v := ab_ii 0) h0 (by omega) hpt hS25
  have u1 : m_uf M (m_begins S (ab_ii 1) (ab_ii 0) (ab_ii 0)) := m_begins_uf hufS
  have hptM := m_pt_b hp.1
  unfold m_rpair
  simp only []
  generalize m_begins S (ab_ii 1) (ab_ii 0) (ab_ii 0) = B1 at *
  have p1 := b1.1.rp hp
  have g1 := hG.1 _ p1
  have c1 := m_pd_rg b1 (by omega) h0 g1.1
  have b2 := m_pd_adds c1 h0 hn ht (by omega) (m_rr_lt p1 g1)
  have u2 : m_uf B1 (m_adds (G B1).1 (S 102 8) (ab_ii 0) (G B1).2 0) := m_adds_uf (hG.2.1 _ p1)
  have i2 := m_ip_adds hG i1 (by decide) h25 p1 (by omega) h0 b1.2.1
  have hA : ((m_adds (G B1).1 (S 102 8) (ab_ii 0) (G B1).2 0) 102 24).toInt = -1 → ((G B1).1 102 24).toInt = -1 := fun q => by rw [m_adds_102] at q; exact q
  generalize m_adds (G B1).1 (S 102 8) (ab_ii 0) (G B1).2 0 = A at *
  have s3 := (m_one_sc (lo := ab_ii 44) (hi := ab_ii 44) (b2.1.rp hp).1 (by decide)).1
  have b3 := m_pd_rg b2 (by omega) h0 s3.rg
  have u3 : m_uf A (m_one A (ab_ii 44) (ab_ii 44)).1 := m_one_uf
  generalize (m_one A (ab_ii 44) (ab_ii 44)).1 = B at *
  have p3 := b3.1.rp hp
  have g3 := hG.1 _ p3
  have c3 := m_pd_rg b3 (by omega) h0 g3.1
  have b4 := m_pd_adds c3 h0 hn ht (by omega) (m_rr_lt p3 g3)
  have u4 : m_uf B (m_adds (G B).1 (S 102 8) (ab_ii 0) (G B).2 1) := m_adds_uf (hG.2.1 _ p3)
  have i4 := fun (i3 : m_ip hb M B (S 102 8) (ab_ii 1) 1) => m_ip_adds hG i3 (by decide) h25 p3 (by omega) h0 b3.2.1
  have huG1 : m_uf B1 (G B1).1 := hG.2.1 _ p1
  have huG3 : ((m_adds (G B).1 (S 102 8) (ab_ii 0) (G B).2 1) 102 24).toInt = -1 → ((G B).1 102 24).toInt = -1 := fun q => by rw [m_adds_102] at q; exact q
  generalize m_adds (G B).1 (S 102 8) (ab_ii 0) (G B).2 1 = C at *
  have s5 := (m_one_sc (lo := ab_ii 41) (hi := ab_ii 41) (b4.1.rp hp).1 (by decide)).1
  have b5 := m_pd_rg b4 (by omega) h0 s5.rg
  have u5 : m_uf C (m_one C (ab_ii 41) (ab_ii 41)).1 := m_one_uf
  generalize (m_one C (ab_ii 41) (ab_ii 41)).1 = E at *
  refine ⟨fun hu => ?_, m_ends_uf (((u1.tr u2).tr (u3.tr u4)).tr u5)⟩
  have hE : (E 102 24).toInt = -1 := by
    have hu' := hu
    dsimp only at hu'
    rw [m_ends_row (by decide) (by decide)] at hu'
    exact hu'
  have hC := u5 hE
  have hB := u4 hC
  have hA1 := u3 hB
  have j2 := i2 (hA hA1)
  have j3 := m_ip_sc j2 h0 s3
  have j4 := i4 j3 (huG3 hC)
  have j5 := m_ip_sc j4 h0 s5
  exact m_ip_ends j5 h8 h0 b5.2.1 (by omega) (by decide) hhb ⟨hptM.2, (m_pt_b (b5.1.rp hp).1).1⟩ hu
theorem m_rmany_w {hb : Int} {G : wd_I → wd_I × Int32} (hG : m_rG2 hb G) (hhb : -1 ≤ hb ∧ hb ≤ 20) {M S : wd_I} {sort close : Int32} (hp : m_rp M) (h25 : m_r25 M) (hrg : m_rg M S) (hlt : (S 102 8).toInt + m_pt S + 1 ≤ (M 102 8).toInt + m_pt M) (h8 : S 102 8 = M 102 8) (hpt : 1 + m_pt S ≤ m_pt M) (hS25 : (S 102 25).toInt = (M 102 25).toInt + 1) (hufS : m_uf M S) (hcl : 0 ≤ close.toInt) (hso : 1 ≤ sort.toInt ∧ sort.toInt ≤ 4) : m_rw2 (hb + 1) M (m_rmany G S sort close) ∧ m_uf M (m_rmany G S sort close).1 := by
  have hr := m_rp_lt (hrg.rp hp)
  have h0 : 0 ≤ (S 102 8).toInt := by omega
  have ht := hrg.2.2.1
  have b1 := m_pd_begins (sort := sort) (v := ab_ii 0) hp hrg hlt
  have i1 := m_ip_begins (hb := hb) (M0 := M) (M := S) (sort := sort) (v := ab_ii 0) h0 (by omega) hpt hS25
  have u1 : m_uf M (m_begins S sort (ab_ii 0) (ab_ii 0)) := m_begins_uf hufS
  have hptM := m_pt_b hp.1
  obtain ⟨s', b2, q2⟩ := m_pd_all hG.1 (mp := sort.toInt) hp b1 h0 ht (by omega) hcl
  have iA := m_ip_all hG (close := close) hp h25 b1 i1 h0 ht (by omega) hcl
  have uA : m_uf (m_begins S sort (ab_ii 0) (ab_ii 0)) (m_all G sort.toInt (m_begins S sort (ab_ii 0) (ab_ii 0)) (S 102 8) close) := by
    unfold m_all
    split
    · exact m_stp_uf
    · rw [m_pd_sz b1]
      obtain ⟨s1, r1, r2⟩ := m_pd_item hG.1 (mp := sort.toInt) hp b1 h0 ht (by omega)
      exact ((m_item_uf hG (b1.1.rp hp)).tr (m_itl_uf hG hp h0 ht 102 _ s1 r1 (by omega))).tr m_one_uf
  unfold m_rmany
  simp only []
  rw [m_pd_sz b2]
  generalize m_all G sort.toInt (m_begins S sort (ab_ii 0) (ab_ii 0)) (S 102 8) close = A at *
  refine ⟨fun hu => ?_, m_ends_uf (u1.tr uA)⟩
  have hA : (A 102 24).toInt = -1 := by
    have hu' := hu
    dsimp only at hu'
    rw [m_ends_row (by decide) (by decide)] at hu'
    exact hu'
  obtain ⟨s2, j2, j3⟩ := iA hA
  have es : s2 = s' := by
    have c1 := j2.2.1
    have c2 := b2.2.2.1
    omega
  subst es
  exact m_ip_ends j2 h8 h0 b2.2.1 q2 hso hhb ⟨hptM.2, (m_pt_b (b2.1.rp hp).1).1⟩ hu
theorem m_rtag_w {hb : Int} {G : wd_I → wd_I × Int32} (hG : m_rG2 hb G) (hhb : -1 ≤ hb ∧ hb ≤ 20) {M S : wd_I} (hp : m_rp M) (h25 : m_r25 M) (hrg : m_rg M S) (hlt : (S 102 8).toInt + m_pt S + 1 ≤ (M 102 8).toInt + m_pt M) (h8 : S 102 8 = M 102 8) (hpt : 1 + m_pt S ≤ m_pt M) (hS25 : (S 102 25).toInt = (M 102 25).toInt + 1) (hufS : m_uf M S) : m_rw2 (hb + 1) M (m_rtag G S) ∧ m_uf M (m_rtag G S).1 := by
  have hn : 0 ≤ (M 102 8).toInt := by have := hp.2.1; omega
  have s1 := (m_one_sc (lo := ab_ii 48) (hi := ab_ii 57) (hrg.rp hp).1 (by decide)).1
  have hA := hrg.tr s1.rg
  have e8 : (m_one S (ab_ii 48) (ab_ii 57)).1 102 8 = S 102 8 := s1.2.1 8 (by decide) (by decide)
  have e25 : (m_one S (ab_ii 48) (ab_ii 57)).1 102 25 = S 102 25 := s1.2.1 25 (by decide) (by decide)
  have hr := m_rp_lt (hA.rp hp)
  have hlt2 := s1.2.2.2
  have hptM := m_pt_b hp.1
  have u0 : m_uf S (m_one S (ab_ii 48) (ab_ii 57)).1 := m_one_uf
  unfold m_rtag
  simp only []
  generalize m_one S (ab_ii 48) (ab_ii 57) = O1 at *
  obtain ⟨A, v⟩ := O1
  dsimp only at *
  have h0 : 0 ≤ (A 102 8).toInt := by omega
  have ht := hA.2.2.1
  have b1 := m_pd_begins (sort := ab_ii 4) (v := ab_ii (v.toInt - 48)) hp hA (by rw [e8]; omega)
  have i1 := m_ip_begins (hb := hb) (M0 := M) (M := A) (sort := ab_ii 4) (v := ab_ii (v.toInt - 48)) h0 (by omega) (by omega) (by rw [e25]; exact hS25)
  have u1 : m_uf A (m_begins A (ab_ii 4) (ab_ii (v.toInt - 48)) (ab_ii 0)) := m_begins_uf (m_uf_e rfl)
  generalize m_begins A (ab_ii 4) (ab_ii (v.toInt - 48)) (ab_ii 0) = B at *
  have p1 := b1.1.rp hp
  have g1 := hG.1 _ p1
  have c1 := m_pd_rg b1 (by omega) h0 g1.1
  have b2 := m_pd_adds c1 h0 hn ht (by omega) (m_rr_lt p1 g1)
  have u2 : m_uf B (m_adds (G B).1 (A 102 8) (ab_ii 0) (G B).2 0) := m_adds_uf (hG.2.1 _ p1)
  have i2 := m_ip_adds hG i1 (by decide) h25 p1 (by omega) h0 b1.2.1
  have hC : ((m_adds (G B).1 (A 102 8) (ab_ii 0) (G B).2 0) 102 24).toInt = -1 → ((G B).1 102 24).toInt = -1 := fun q => by rw [m_adds_102] at q; exact q
  generalize m_adds (G B).1 (A 102 8) (ab_ii 0) (G B).2 0 = C at *
  refine ⟨fun hu => ?_, m_ends_uf (((hufS.tr u0).tr u1).tr u2)⟩
  have hCf : (C 102 24).toInt = -1 := by
    have hu' := hu
    dsimp only at hu'
    rw [m_ends_row (by decide) (by decide)] at hu'
    exact hu'
  exact m_ip_ends (i2 (hC hCf)) (e8.trans h8) h0 b2.2.1 (by omega) (by decide) hhb ⟨hptM.2, (m_pt_b (b2.1.rp hp).1).1⟩ hu
theorem m_rnum_w {hb : Int} (hhb : -1 ≤ hb ∧ hb ≤ 20) {M : wd_I} (hp : m_rp M) (h25 : m_r25 M) (hf : (M 102 24).toInt = -1) : m_rw2 (hb + 1) M (m_number (m_signed (m_rm1 M)).1 (m_signed (m_rm1 M)).2, (m_signed (m_rm1 M)).1 102 8) ∧ m_uf M (m_number (m_signed (m_rm1 M)).1 (m_signed (m_rm1 M)).2) := by
  have h1 : m_rg M (m_rm1 M) := m_many1_rg hp.1
  have p1 := h1.rp hp
  have h2 := m_signed_sc p1.1
  have h3 := h2.2 (by rw [m_rm1_n (by decide)]; exact hf)
  have u1 : m_uf (m_rm1 M) (m_signed (m_rm1 M)).1 := m_signed_uf
  have hb1 := m_pt_b hp.1
  have e25 : m_rm1 M 102 25 = ab_ii ((M 102 25).toInt + 1) := wd_up_self _ _ _ _
  unfold m_r25 at h25
  have s8 := h2.1.2.1 8 (by decide) (by decide)
  have s25 := h2.1.2.1 25 (by decide) (by decide)
  rw [m_rm1_pt] at h3
  have hgN := h1.tr h2.1.rg
  generalize m_signed (m_rm1 M) = R at *
  obtain ⟨N, v⟩ := R
  dsimp only at *
  have hr := m_rp_lt (hgN.rp hp)
  rw [m_rm1_n (by decide)] at s8
  have b1 := m_pd_begins (sort := ab_ii 0) (v := v) hp hgN (by rw [s8]; omega)
  have e8 : (m_begins N (ab_ii 0) v (ab_ii 0) 102 8).toInt = (N 102 8).toInt + 1 := by rw [m_begins_8, ab_tI (by omega) (by omega)]
  obtain ⟨g1, g2, g3, g4, g5⟩ := m_ends_gr (D := fun x => (N 102 8).toInt ≤ x ∧ x < (N 102 8).toInt + 1) (N := m_begins N (ab_ii 0) v (ab_ii 0)) (t := N 102 8) (s := 0) (by rw [m_begins_sz]; rfl) (by omega) (by rw [m_begins_kd]; decide) (fun j hj => absurd hj (Nat.not_lt_zero _)) (fun j hj => absurd hj (Nat.not_lt_zero _)) (fun j hj => absurd hj (Nat.not_lt_zero _)) (fun _ => rfl) (fun _ j hj => absurd hj (Nat.not_lt_zero _)) (fun _ j hj => absurd hj (Nat.not_lt_zero _))
  have e102 : m_number N v 102 = m_begins N (ab_ii 0) v (ab_ii 0) 102 := m_ends_row (by decide) (by decide)
  have ept : m_pt (m_number N v) = m_pt N := by unfold m_pt; rw [e102, m_begins_n (by decide), m_begins_n (by decide)]
  have g5' : (m_number N v 107 (N 102 8).toInt.toNat).toInt = 0 := by
    rcases g5 with e | ⟨i, hi, -⟩
    · exact e
    · exact absurd hi (Nat.not_lt_zero _)
  have g2' : (m_number N v 106 (N 102 8).toInt.toNat).toInt = 1 := g2
  refine ⟨fun hu => ?_, fun q => by rw [e102, m_begins_n (by decide)] at q; have := u1 q; rw [m_rm1_n (by decide)] at this; exact this⟩
  dsimp only
  refine ⟨fun q hq1 hq2 => ?_, by rw [s8]; exact Int.le_refl _, by rw [g2', ept]; omega, by rw [g5']; omega, ?_, by rw [g2', e102, e8, s8]⟩
  · rw [e102] at hq2 ⊢
    rw [← s8] at hq1
    have e : q = (N 102 8).toInt.toNat := by omega
    subst e
    exact ⟨m_gr_ra g1 m_ra.rf (fun _ _ _ => m_ra.rf) (fun x _ hx => by rw [← s8]; omega), by omega, by omega⟩
  · rw [g2', e102, m_begins_n (by decide), s25, e25, ab_tI (by omega) (by omega)]
theorem m_rd_w : ∀ (f : Nat), f ≤ 20 → m_rG2 ((f : Int) - 1) (m_rd f)
  | 0, _ => ⟨m_rd_rr 0, fun N hp => m_fails_uf, fun N hp h25 hu => by
    change (m_fails N (N 102 23) 102 24).toInt = -1 at hu
    have := hp.1.1
    unfold m_fails at hu
    rw [wd_up_self] at hu
    split at hu
    · omega
    · omega⟩
  | f + 1, hf20 => by
    have ih := m_rd_w f (by omega)
    have hhb : -1 ≤ (f : Int) - 1 ∧ (f : Int) - 1 ≤ 20 := by omega
    have key : ∀ N, m_rp N → m_r25 N → m_rw2 ((f : Int) - 1 + 1) N (m_rd (f + 1) N) := by
      intro N hp h25
      unfold m_rd
      split
      next h =>
        intro hu
        exact absurd (m_fails_uf hu) h
      next h =>
        have hf : (N 102 24).toInt = -1 := Classical.not_not.mp h
        unfold m_rd1
        rw [m_here_rm1]
        have hS := fun q : 0 ≤ (m_here N).toInt => m_stp1_f hp q
        have hS2 := fun q : 0 ≤ (m_here N).toInt => m_stp1_g hp q h25
        split
        · obtain ⟨a1, a2, a3⟩ := hS (by omega)
          obtain ⟨b1, b2, b3⟩ := hS2 (by omega)
          exact (m_rpair_w ih hhb hp h25 a1 a3 b1 (by omega) b3 m_stp1_uf).1
        split
        · obtain ⟨a1, a2, a3⟩ := hS (by omega)
          obtain ⟨b1, b2, b3⟩ := hS2 (by omega)
          exact (m_rmany_w ih hhb hp h25 a1 a3 b1 (by omega) b3 m_stp1_uf (by decide) (by decide)).1
        split
        · obtain ⟨a1, a2, a3⟩ := hS (by omega)
          obtain ⟨b1, b2, b3⟩ := hS2 (by omega)
          exact (m_rmany_w ih hhb hp h25 a1 a3 b1 (by omega) b3 m_stp1_uf (by decide) (by decide)).1
        split
        · obtain ⟨a1, a2, a3⟩ := hS (by omega)
          obtain ⟨b1, b2, b3⟩ := hS2 (by omega)
          exact (m_rtag_w ih hhb hp h25 a1 a3 b1 (by omega) b3 m_stp1_uf).1
        · exact (m_rnum_w hhb hp h25 hf).1
    refine ⟨m_rd_rr (f + 1), fun N hp hu => ?_, fun N hp h25 => ?_⟩
    · by_cases hf : (N 102 24).toInt = -1
      · exact hf
      · unfold m_rd at hu
        rw [if_pos hf] at hu
        exact m_fails_uf hu
    · have := key N hp h25
      rw [show (((f + 1 : Nat) : Int) - 1) = (f : Int) - 1 + 1 by omega]
      exact this
/-- behind a reading that went well the table is whole -/
theorem m_th_T {M : wd_I} (hT : m_T M (M 102 8).toInt) (h1 : 1 ≤ (M 102 8).toInt) (h2 : (M 102 8).toInt ≤ 3012) (ht : 0 ≤ (M 102 22).toInt ∧ (M 102 22).toInt ≤ 100) (hu : (m_th2 M 102 24).toInt = -1) : m_T (m_th2 M) (m_th2 M 102 8).toInt ∧ (M 102 8).toInt ≤ (m_th1 M).2.toInt ∧ (m_th1 M).2.toInt < (m_th2 M 102 8).toInt ∧ (1 ≤ (m_th2 M 106 (m_th1 M).2.toInt.toNat).toInt ∧ (m_th2 M 106 (m_th1 M).2.toInt.toNat).toInt ≤ 101) ∧ (m_th2 M 102 25).toInt = (m_th2 M 106 (m_th1 M).2.toInt.toNat).toInt ∧ (m_th2 M 102 8).toInt ≤ 3113 ∧ (m_th2 M 102 8).toInt = (M 102 8).toInt + (m_th2 M 102 25).toInt := by
  have hp := m_th0_rp h1 h2 ht
  obtain ⟨v1, v2, v3⟩ := m_th0_v (M := M)
  have h25 : m_r25 (m_th0 M) := by
    have := m_pt_b hp.1
    unfold m_r25
    rw [v3]
    have e : (ab_ii 0).toInt = 0 := by decide
    omega
  have hrr := m_rd_rr 13 (m_th0 M) hp
  have hw := (m_rd_w 13 (by omega)).2.2 (m_th0 M) hp h25
  have hlt := m_rp_lt (hrr.1.rp hp)
  have e8 := m_th2_n (M := M) (j := 8) (by decide)
  have e25 := m_th2_n (M := M) (j := 25) (by decide)
  have er : ∀ a, a ≠ 102 → m_th2 M a = (m_th1 M).1 a := fun a ha => m_th2_row ha
  have hu1 : ((m_th1 M).1 102 24).toInt = -1 := by
    have e : m_th2 M 102 24 = m_thf (m_th1 M).1 102 24 := wd_up_ne _ _ (by omega)
    rw [e] at hu
    unfold m_thf at hu
    split at hu
    next hc => exact hc.1
    next hc => exact hu
  obtain ⟨w1, w2, w3, w4, w5, w6⟩ := hw hu1
  have hpt0 := m_pt_b hp.1
  have hpt1 := m_pt_b hrr.1.2.1
  change m_rq (m_th0 M 102 8).toInt _ (m_th1 M).1 at w1
  change (m_th0 M 102 8).toInt ≤ (m_th1 M).2.toInt at w2
  change 1 ≤ ((m_th1 M).1 106 (m_th1 M).2.toInt.toNat).toInt ∧ ((m_th1 M).1 106 (m_th1 M).2.toInt.toNat).toInt ≤ m_pt (m_th0 M) - m_pt (m_th1 M).1 at w3
  change ((m_th1 M).1 102 25).toInt = (m_th0 M 102 25).toInt + ((m_th1 M).1 106 (m_th1 M).2.toInt.toNat).toInt at w5
  change ((m_th1 M).1 102 8).toInt = (m_th0 M 102 8).toInt + ((m_th1 M).1 106 (m_th1 M).2.toInt.toNat).toInt at w6
  have hr2 : (m_th1 M).2.toInt < ((m_th1 M).1 102 8).toInt := hrr.2.2
  have hsb : m_sb (m_th0 M 102 8).toInt (m_th0 M) (m_th1 M).1 := hrr.1.1.1
  have hlt' : ((m_th1 M).1 102 8).toInt ≤ 3113 := hlt.2
  have hpt1' : -100 ≤ m_pt (m_th1 M).1 := hpt1.1
  have hmono : (m_th0 M 102 8).toInt ≤ ((m_th1 M).1 102 8).toInt := hrr.1.2.2.1
  have hpot : ((m_th1 M).1 102 8).toInt + m_pt (m_th1 M).1 ≤ (m_th0 M 102 8).toInt + m_pt (m_th0 M) := hrr.1.2.2.2
  rw [m_th0_n (by decide)] at w1 w2 w6 hsb hmono hpot
  rw [v3, show (ab_ii 0).toInt = 0 by decide] at w5
  rw [e8, e25, er 106 (by decide)]
  refine ⟨⟨by omega, fun q hq => ?_⟩, w2, hr2, ⟨w3.1, by omega⟩, by omega, hlt', by omega⟩
  have hra : m_ra (m_th1 M).1 (m_th2 M) q := ⟨by rw [er 103 (by decide)], by rw [er 104 (by decide)], by rw [er 105 (by decide)], by rw [er 106 (by decide)], by rw [er 107 (by decide)], fun j _ => ⟨by rw [er 108 (by decide)], by rw [er 109 (by decide)]⟩⟩
  have hrx : ∀ x : Nat, m_ra (m_th1 M).1 (m_th2 M) x := fun x => ⟨by rw [er 103 (by decide)], by rw [er 104 (by decide)], by rw [er 105 (by decide)], by rw [er 106 (by decide)], by rw [er 107 (by decide)], fun j _ => ⟨by rw [er 108 (by decide)], by rw [er 109 (by decide)]⟩⟩
  by_cases hc : (q : Int) < (M 102 8).toInt
  · obtain ⟨b1, b2, b3⟩ := hT.2 q hc
    have h0r : ∀ x : Nat, m_ra M (m_th0 M) x := fun x => ⟨by rw [m_th0_row (by decide)], by rw [m_th0_row (by decide)], by rw [m_th0_row (by decide)], by rw [m_th0_row (by decide)], by rw [m_th0_row (by decide)], fun j _ => ⟨by rw [m_th0_row (by decide)], by rw [m_th0_row (by decide)]⟩⟩
    have hr := ((h0r q).tr (hsb.ra hc)).tr hra
    exact ⟨m_gr_ra b1 hr (fun x hx hxD => ((h0r _).tr (hsb.ra (by omega))).tr (hrx _)) (fun x _ hx => by omega), by rw [hr.2.2.2.1]; exact b2, by rw [hr.2.2.2.2.1]; exact b3⟩
  · obtain ⟨b1, b2, b3⟩ := w1 q (by omega) hq
    exact ⟨m_gr_ra b1 hra (fun x hx hxD => hrx _) (fun x _ hx => hx.2), by rw [hra.2.2.2.1]; omega, by rw [hra.2.2.2.2.1]; omega⟩
