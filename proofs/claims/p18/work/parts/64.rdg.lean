/-! ===== the reference: what is read are good rows (own text) ===== -/
/-- not failed behind it: not failed ahead of it -/
def m_uf (M N : wd_I) : Prop := (N 102 24).toInt = -1 → (M 102 24).toInt = -1
theorem m_uf.tr {M N K : wd_I} (h : m_uf M N) (h' : m_uf N K) : m_uf M K := fun q => h (h' q)
theorem m_uf_e {M N : wd_I} (h : N 102 24 = M 102 24) : m_uf M N := fun q => by rw [← h]; exact q
theorem m_fails_uf {M : wd_I} {p : Int32} : m_uf M (m_fails M p) := fun q => by
  unfold m_fails at q
  rw [wd_up_self] at q
  split at q
  · assumption
  · exact q
theorem m_stp_uf {M : wd_I} : m_uf M (m_stp M) := m_uf_e (wd_up_ne _ _ (Or.inr (by decide)))
theorem m_one_uf {M : wd_I} {lo hi : Int32} : m_uf M (m_one M lo hi).1 := by
  unfold m_one
  split
  · exact m_stp_uf
  · exact m_fails_uf
theorem m_dgl_uf : ∀ (r : Nat) {M : wd_I} {n : Int32}, m_uf M (m_dgl r M n).1
  | 0, M, n => m_uf_e rfl
  | r + 1, M, n => by
    unfold m_dgl
    split
    · exact m_stp_uf.tr (m_dgl_uf r)
    · exact m_uf_e rfl
theorem m_digits_uf {M : wd_I} {most : Nat} : m_uf M (m_digits M most).1 := by
  unfold m_digits
  exact m_one_uf.tr (m_dgl_uf _)
theorem m_signed_uf {M : wd_I} : m_uf M (m_signed M).1 := by
  unfold m_signed
  split
  · exact m_stp_uf.tr m_digits_uf
  · exact m_digits_uf
theorem m_ltl_uf : ∀ (r : Nat) {M : wd_I} {n : Int32}, m_uf M (m_ltl r M n).1
  | 0, M, n => m_uf_e rfl
  | r + 1, M, n => by
    unfold m_ltl
    split
    · exact m_stp_uf.tr (m_ltl_uf r)
    · exact m_uf_e rfl
theorem m_letters_uf {M : wd_I} : m_uf M (m_letters M).1 := by
  unfold m_letters
  exact m_one_uf.tr (m_ltl_uf _)
theorem m_e1_uf {M : wd_I} {t : Int32} {s : Nat} : m_uf M (m_e1 M t s) := by
  unfold m_e1
  split
  · exact m_letters_uf.tr m_fails_uf
  · exact m_letters_uf
theorem m_e2_uf {M : wd_I} {t : Int32} {s : Nat} : m_uf M (m_e2 M t s) := m_e1_uf.tr m_one_uf
/-- a second of one key fails -/
theorem m_e1_dup {M : wd_I} {t : Int32} {s : Nat} (h : m_tp M) (hf : (m_e1 M t s 102 24).toInt = -1) : (m_hk (m_letters M).1 t.toInt.toNat (m_letters M).2 s).toInt = 0 := by
  by_cases hk : (m_hk (m_letters M).1 t.toInt.toNat (m_letters M).2 s).toInt = 0
  · exact hk
  · have hlf : ((m_letters M).1 102 24).toInt = -1 := by
      unfold m_e1 at hf
      split at hf
      · next hc => exact hc.1
      · exact hf
    unfold m_e1 at hf
    rw [if_pos ⟨hlf, hk⟩] at hf
    unfold m_fails at hf
    rw [wd_up_self, if_pos hlf] at hf
    have := h.1
    omega
/-- what has been read of a thing: its rows from n on -/
def m_rq (n : Int) (hb : Int) (M : wd_I) : Prop := ∀ q : Nat, n ≤ (q : Int) → (q : Int) < (M 102 8).toInt → m_gr (fun x => n ≤ x ∧ x < (M 102 8).toInt) M q ∧ (M 106 q).toInt ≤ 150 ∧ (M 107 q).toInt ≤ hb
/-- a reading that went well -/
def m_rw2 (hb : Int) (M : wd_I) (R : wd_I × Int32) : Prop := (R.1 102 24).toInt = -1 → m_rq (M 102 8).toInt hb R.1 ∧ (M 102 8).toInt ≤ R.2.toInt ∧ (1 ≤ (R.1 106 R.2.toInt.toNat).toInt ∧ (R.1 106 R.2.toInt.toNat).toInt ≤ m_pt M - m_pt R.1) ∧ (0 ≤ (R.1 107 R.2.toInt.toNat).toInt ∧ (R.1 107 R.2.toInt.toNat).toInt ≤ hb) ∧ (R.1 102 25).toInt = (M 102 25).toInt + (R.1 106 R.2.toInt.toNat).toInt ∧ (R.1 102 8).toInt = (M 102 8).toInt + (R.1 106 R.2.toInt.toNat).toInt
def m_r25 (M : wd_I) : Prop := 0 ≤ (M 102 25).toInt ∧ (M 102 25).toInt + m_pt M ≤ 1000
def m_rG2 (hb : Int) (G : wd_I → wd_I × Int32) : Prop := m_rG G ∧ (∀ N, m_rp N → m_uf N (G N).1) ∧ ∀ N, m_rp N → m_r25 N → m_rw2 hb N (G N)
/-- a thing in the making, of what is read within -/
def m_ip (hb : Int) (M0 M : wd_I) (t sort : Int32) (s : Nat) : Prop := M 103 t.toInt.toNat = sort ∧ (M 105 t.toInt.toNat).toInt = (s : Int) ∧ m_rq (t.toInt + 1) hb M ∧
  (∀ j, j < s → (t.toInt + 1 ≤ (M 108 (12 * t.toInt.toNat + j)).toInt ∧ (M 108 (12 * t.toInt.toNat + j)).toInt < (M 102 8).toInt) ∧ 1 ≤ (M 106 (M 108 (12 * t.toInt.toNat + j)).toInt.toNat).toInt ∧ (0 ≤ (M 107 (M 108 (12 * t.toInt.toNat + j)).toInt.toNat).toInt ∧ (M 107 (M 108 (12 * t.toInt.toNat + j)).toInt.toNat).toInt ≤ hb)) ∧
  m_nds M t.toInt.toNat s + m_pt M ≤ m_pt M0 ∧ (M 102 25).toInt = (M0 102 25).toInt + m_nds M t.toInt.toNat s ∧
  (¬ sort.toInt = 3 → ∀ j, j < s → (M 109 (12 * t.toInt.toNat + j)).toInt = 0) ∧ (sort.toInt = 3 → ∀ j, j + 1 < s → (M 109 (12 * t.toInt.toNat + j)).toInt < (M 109 (12 * t.toInt.toNat + (j + 1))).toInt) ∧ (M 102 8).toInt = t.toInt + m_nds M t.toInt.toNat s
theorem m_rq_sb {n hb : Int} {M N : wd_I} (h : m_rq n hb M) (hs : m_sb (M 102 8).toInt M N) (h8 : N 102 8 = M 102 8) (h0 : 0 ≤ n) : m_rq n hb N := fun q h1 h2 => by
  rw [h8] at h2
  obtain ⟨a1, a2, a3⟩ := h q h1 h2
  have hr := hs.ra h2
  exact ⟨m_gr_ra a1 hr (fun x hx hxD => hs.ra (by omega)) (fun x _ hx => by rw [h8]; exact hx), by rw [hr.2.2.2.1]; exact a2, by rw [hr.2.2.2.2.1]; exact a3⟩
/-- scanning leaves it, but for what is counted -/
theorem m_ip_sc {hb : Int} {M0 M N : wd_I} {t sort : Int32} {s : Nat} (h : m_ip hb M0 M t sort s) (h0 : 0 ≤ t.toInt) (hs : m_sc M N) : m_ip hb M0 N t sort s := by
  obtain ⟨a1, a2, a3, a4, a5, a6, a7, a8, a9⟩ := h
  obtain ⟨h1, h2, h3, h4⟩ := hs
  have e8 : N 102 8 = M 102 8 := h2 8 (by decide) (by decide)
  have e25 : N 102 25 = M 102 25 := h2 25 (by decide) (by decide)
  have en : m_nds N t.toInt.toNat s = m_nds M t.toInt.toNat s := m_nds_ra s (fun j _ => ⟨by rw [h1 108 (by decide)], by rw [h1 106 (by decide)]⟩)
  refine ⟨by rw [h1 103 (by decide)]; exact a1, by rw [h1 105 (by decide)]; exact a2, m_rq_sb a3 ⟨fun q _ => ⟨by rw [h1 103 (by decide)], by rw [h1 104 (by decide)], by rw [h1 105 (by decide)], by rw [h1 106 (by decide)], by rw [h1 107 (by decide)]⟩, fun i _ => ⟨by rw [h1 108 (by decide)], by rw [h1 109 (by decide)]⟩⟩ e8 (by omega), ?_, by rw [en]; omega, by rw [en, e25]; exact a6, ?_, ?_, by rw [en, e8]; exact a9⟩
  · rw [h1 108 (by decide), h1 106 (by decide), h1 107 (by decide), e8]; exact a4
  · rw [h1 109 (by decide)]; exact a7
  · rw [h1 109 (by decide)]; exact a8
theorem m_ip_r25 {hb : Int} {M0 M : wd_I} {t sort : Int32} {s : Nat} (h : m_ip hb M0 M t sort s) (h0 : m_r25 M0) : m_r25 M := by
  obtain ⟨a1, a2, a3, a4, a5, a6, a7, a8⟩ := h
  have hge : 1 ≤ m_nds M t.toInt.toNat s := m_nds_mono (N := M) (q := t.toInt.toNat) (s := s) (fun j hj => by have := (a4 j hj).2.1; omega) 0 s (by omega) (Nat.le_refl _)
  unfold m_r25 at h0 ⊢
  omega
