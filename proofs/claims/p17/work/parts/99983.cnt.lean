/-! ===== OVER on the reference's side: how many foci there are (own text) ===== -/
section
variable {M N : wd_I}
theorem o35_s1 (h : m_s1 (m_mk M) N) : N 102 35 = M 102 35 := (h.2 35 (by decide)).trans (wd_up_ne _ _ (Or.inr (by decide)))
theorem o35_no : m_nomk M 102 35 = M 102 35 := wd_up_ne _ _ (Or.inr (by decide))
theorem o35_numb {v : Int32} : (m_numb M v).1 102 35 = M 102 35 := by
  unfold m_numb
  by_cases hc : m_can M
  · rw [m_cani_t hc]
    exact o35_s1 m_number_s1
  · rw [m_cani_f hc]
    exact o35_no
theorem o35_bec {how : Int} {hw f t : Int32} {s : Nat} : (m_bec M how hw f t s).1 102 35 = M 102 35 := by
  unfold m_bec
  split
  · split
    · exact o35_numb
    · rfl
  · split
    · rfl
    · split
      · by_cases hc : m_can (m_numb M hw).1
        · rw [m_cani_t hc]
          have h9 := o35_s1 (M := (m_numb M hw).1) (N := m_pair (m_mk (m_numb M hw).1) t (m_numb M hw).2) m_pair_s1
          exact h9.trans o35_numb
        · rw [m_cani_f hc]
          exact o35_no.trans o35_numb
      · split
        · by_cases hc : m_can M
          · rw [m_cani_t hc]
            split
            · exact o35_s1 m_around_s1
            · split
              · exact o35_s1 m_around_s1
              · exact o35_s1 m_changed_s1
          · rw [m_cani_f hc]
            exact o35_no
        · rfl
theorem o35_became {t : Int32} {s : Nat} : (m_became M t s).1 102 35 = ab_ii ((M 102 35).toInt + 1) := by
  unfold m_became
  rw [o35_bec]
  exact wd_up_self _ _ _ _
end
section
variable {M0 Ms : wd_I} {n0 : Int} {p i s : Nat} {t : Int32} {G : wd_I → Int32 → wd_I × Int32} {H : Int32 → List Int32}
theorem o_cnt_l (hop : m_op n0 Ms) (hfr : m_fr n0 M0 Ms) (ht0 : 0 ≤ t.toInt) (ht1 : t.toInt < n0) (hs : (Ms 105 t.toInt.toNat).toInt = (s : Int)) (h12 : s ≤ 12) (hpt : ∀ j, j < s → 0 ≤ (Ms 108 (12 * t.toInt.toNat + j)).toInt ∧ (Ms 108 (12 * t.toInt.toNat + j)).toInt < n0) (hGq : m_Gq n0 G)
    (hG : ∀ N q, m_op n0 N → m_fr n0 M0 N → 0 ≤ q.toInt → q.toInt < n0 → ((G N q).1 102 36).toInt = 0 → 0 ≤ (N 102 35).toInt → (N 102 35).toInt + ((H q).length : Int) ≤ 1000000 → ((G N q).1 102 35).toInt = (N 102 35).toInt + ((H q).length : Int)) : ∀ (n j : Nat) (r : wd_I × Int32), j + n = s → m_li s Ms r → ((m_ovl G p i s t n j r).1 102 36).toInt = 0 → 0 ≤ (r.1 102 35).toInt → (r.1 102 35).toInt + ((m_fol H M0 p t.toInt.toNat i n j).length : Int) ≤ 1000000 → ((m_ovl G p i s t n j r).1 102 35).toInt = (r.1 102 35).toInt + ((m_fol H M0 p t.toInt.toNat i n j).length : Int)
  | 0, j, r, hj, hli, hu, h0, hb => by
    show (r.1 102 35).toInt = _ + (([] : List Int32).length : Int)
    rw [List.length_nil]
    omega
  | n + 1, j, r, hj, hli, hu, h0, hb => by
    have eL : m_ovl G p i s t (n + 1) j r = m_ovl G p i s t n (j + 1) (m_ovs G p i s t j r) := rfl
    rw [eL] at hu ⊢
    have hli2 := m_ovs_li (p := p) (i := i) (j := j) hop ht0 ht1 hs h12 hpt (by omega) hGq.2.1 hli
    have hus : ((m_ovs G p i s t j r).1 102 36).toInt = 0 := by
      by_cases e : ((m_ovs G p i s t j r).1 102 36).toInt = 0
      · exact e
      · rw [m_ovl_fl hGq n (j + 1) _ e] at hu
        exact hu
    have hle := hop.2.2.1
    have hfr2 : m_fr n0 M0 r.1 := hfr.tr hli.1 hle
    have hop2 : m_op n0 r.1 := m_op_fr hop hli.1 hle hli.2.1 hli.2.2.1
    have hpart := o_part (q := p) (t := t.toInt.toNat) (i := i) (j := j) hfr2 (by omega) (by omega)
    have e108 : r.1 108 (12 * t.toInt.toNat + j) = M0 108 (12 * t.toInt.toNat + j) := (hfr2.1.2 _ (by omega)).1
    have e108s : Ms 108 (12 * t.toInt.toNat + j) = M0 108 (12 * t.toInt.toNat + j) := (hfr.1.2 _ (by omega)).1
    have hpj := hpt j (by omega)
    rw [e108s] at hpj
    have eF : m_fol H M0 p t.toInt.toNat i (n + 1) j = @ite (List Int32) (m_part M0 p t.toInt.toNat i j) (Classical.propDecidable _) (H (M0 108 (12 * t.toInt.toNat + j))) [] ++ m_fol H M0 p t.toInt.toNat i n (j + 1) := rfl
    rw [eF, List.length_append] at hb ⊢
    by_cases he : m_part r.1 p t.toInt.toNat i j
    · rw [if_pos (hpart.mp he)] at hb ⊢
      have eS := o_ovs_eq (G := G) (p := p) (i := i) (s := s) (r := r) he e108
      have hX := hG r.1 (M0 108 (12 * t.toInt.toNat + j)) hop2 hfr2 hpj.1 hpj.2
      have hXu : ((G r.1 (M0 108 (12 * t.toInt.toNat + j))).1 102 36).toInt = 0 ∧ (m_ovs G p i s t j r).1 102 35 = (G r.1 (M0 108 (12 * t.toInt.toNat + j))).1 102 35 := by
        rw [eS] at hus ⊢
        generalize G r.1 (M0 108 (12 * t.toInt.toNat + j)) = X at *
        split at hus
        next c1 =>
          rw [if_pos c1]
          exact ⟨hus, rfl⟩
        next c1 =>
          rw [if_neg c1]
          split at hus
          next c2 =>
            rw [if_pos c2]
            by_cases hc : m_can X.1
            · rw [m_cani_t hc]
              exact ⟨hc.1, o35_s1 o_cp_s1⟩
            · rw [m_cani_f hc] at hus
              change (m_nomk X.1 102 36).toInt = 0 at hus
              rw [m_nomk_36] at hus
              exact absurd hus (by decide)
          next c2 =>
            rw [if_neg c2]
            change (wd_up X.1 108 (12 * r.2.toInt.toNat + j) X.2 102 36).toInt = 0 at hus
            rw [wd_up_row _ _ _ (by decide)] at hus
            refine ⟨hus, ?_⟩
            show wd_up X.1 108 (12 * r.2.toInt.toNat + j) X.2 102 35 = _
            rw [wd_up_row _ _ _ (by decide)]
      have hX2 := hX hXu.1 h0 (by omega)
      have ih := o_cnt_l hop hfr ht0 ht1 hs h12 hpt hGq hG n (j + 1) (m_ovs G p i s t j r) (by omega) hli2 hu (by rw [hXu.2]; omega) (by rw [hXu.2]; omega)
      rw [ih, hXu.2, hX2]
      omega
    · rw [if_neg (fun q => he (hpart.mpr q))] at hb ⊢
      have eS : m_ovs G p i s t j r = r := by
        unfold m_ovs
        rw [if_neg he]
      rw [List.length_nil] at hb ⊢
      rw [eS] at hu hli2 ⊢
      have ih := o_cnt_l hop hfr ht0 ht1 hs h12 hpt hGq hG n (j + 1) r (by omega) hli hu h0 (by omega)
      rw [ih]
      omega
end
theorem o_cnt {M0 : wd_I} {n0 : Int} {p : Nat} (hT0 : m_T M0 n0) : ∀ (f : Nat) (N : wd_I) (t : Int32) (i : Nat), m_op n0 N → m_fr n0 M0 N → 0 ≤ t.toInt → t.toInt < n0 → ((m_ov p f N t i).1 102 36).toInt = 0 → 0 ≤ (N 102 35).toInt → (N 102 35).toInt + ((m_fo M0 p f t i).length : Int) ≤ 1000000 → ((m_ov p f N t i).1 102 35).toInt = (N 102 35).toInt + ((m_fo M0 p f t i).length : Int)
  | 0, N, t, i, hop, hfr, ht0, ht1, hu, h0, hb => by
    show (N 102 35).toInt = _ + (([] : List Int32).length : Int)
    rw [List.length_nil]
    omega
  | f + 1, N, t, i, hop, hfr, ht0, ht1, hu, h0, hb => by
    obtain ⟨s, a1, a2, a3, a4, a5, a6, a7, a8, a9, -⟩ := m_T_row hT0 (t := t.toInt.toNat) (by omega)
    obtain ⟨r3, r4, r5, r6, r7, r8⟩ := hfr.1.ra (q := t.toInt.toNat) (by omega)
    have e115 : N 115 = M0 115 := hfr.2.1 115 (by decide)
    have es : (N 105 t.toInt.toNat).toInt.toNat = s := by rw [r5]; omega
    have es0 : (M0 105 t.toInt.toNat).toInt.toNat = s := by omega
    have hself : m_self N p t.toInt.toNat i ↔ m_self M0 p t.toInt.toNat i := o_self hfr (by omega)
    have hnx : m_nxt N p i = m_nxt M0 p i := o_nxt hfr
    unfold m_ov at hu ⊢
    unfold m_fo at hb ⊢
    by_cases h36 : (N 102 36).toInt = 0
    · rw [if_pos h36] at hu ⊢
      rw [e115, es] at hu ⊢
      rw [es0] at hb ⊢
      by_cases hi : (i : Int) = (M0 115 p).toInt
      · rw [if_pos hi] at hu hb ⊢
        rw [if_pos hi]
        rw [List.length_singleton] at hb ⊢
        rw [o35_became, ab_tI (by omega) (by omega)]
        rfl
      · rw [if_neg hi] at hu hb ⊢
        rw [if_neg hi]
        rw [List.length_append] at hb ⊢
        by_cases hse : m_self M0 p t.toInt.toNat i
        · rw [if_pos (hself.mpr hse)] at hu ⊢
          rw [if_pos hse] at hb ⊢
          have hnone : m_fol (fun r => m_fo M0 p f r (m_nxt M0 p i)) M0 p t.toInt.toNat i s 0 = [] := by
            rcases hse with ⟨-, c2⟩ | ⟨c1, -⟩ | ⟨c1, -, -⟩
            · rw [a9 c2]; rfl
            · exact m_fol_none (fun j hm => by unfold m_part at hm; omega) _ _
            · exact m_fol_none (fun j hm => by unfold m_part at hm; omega) _ _
          rw [hnone, List.length_nil] at hb ⊢
          have := o_cnt hT0 f N t (i + 1) hop hfr ht0 ht1 hu h0 (by omega)
          rw [this]
          omega
        · rw [if_neg (fun q => hse (hself.mp q))] at hu ⊢
          rw [if_neg hse] at hb ⊢
          rw [List.length_nil] at hb ⊢
          rw [o_fin36] at hu ⊢
          rw [hnx] at hu ⊢
          have hGq : m_Gq n0 (fun N x => m_ov p f N x (m_nxt M0 p i)) := ⟨fun N x hf => by
            show m_ov p f N x (m_nxt M0 p i) = (N, x)
            cases f with
            | zero => rfl
            | succ f => unfold m_ov; rw [if_neg hf], fun N x hN hx0 hx1 => m_ov_good f N x _ hN hx0 hx1, fun N x hN hTN hx0 hx1 => m_ov_oq f N x _ hN hTN hx0 hx1⟩
          have := o_cnt_l (M0 := M0) (p := p) (i := i) (H := fun x => m_fo M0 p f x (m_nxt M0 p i)) hop hfr ht0 ht1 (by rw [r5]; exact a1) a2 (fun j hj => by rw [(r8 j (by omega)).1]; exact ⟨(a6 j hj).1, (a6 j hj).2.1⟩) hGq (fun N x hN hf hx0 hx1 q1 q2 q3 => o_cnt hT0 f N x _ hN hf hx0 hx1 q1 q2 q3) s 0 (N, ab_ii (-1)) (Nat.zero_add _) ⟨m_fr.rf, hop.2.2.2.1, Int.le_refl _, Or.inl rfl⟩ hu h0 (by dsimp only; omega)
          dsimp only at this
          rw [this]
          omega
    · rw [if_neg h36] at hu
      exact absurd hu h36
