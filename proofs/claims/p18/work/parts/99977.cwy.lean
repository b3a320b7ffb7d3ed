/-! ===== both objects: what put makes (own text) ===== -/
/-- a part put under a key, on both sides -/
theorem o_puts {F : Nat → Int32 → Prop} {C : wd_I} {c key ty : Int32} {y s : Nat} {fk : Nat → Int32} {fp : Nat → Option Nat} (hsz : (C 105 c.toInt.toNat).toInt = (s : Int)) (h12 : s ≤ 12) (hc : ∀ j, j < s → C 109 (12 * c.toInt.toNat + j) = fk j ∧ ∃ b, fp j = some b ∧ F b (C 108 (12 * c.toInt.toNat + j))) (hy : F y ty) :
    (c_has fk s key → (m_puts C c key ty s 105 c.toInt.toNat).toInt = (s : Int) ∧ ∀ j, j < s → m_puts C c key ty s 109 (12 * c.toInt.toNat + j) = fk j ∧ ∃ b, ab_up fp (c_plc fk key s 0) (some y) j = some b ∧ F b (m_puts C c key ty s 108 (12 * c.toInt.toNat + j))) ∧
    (¬ c_has fk s key → (m_puts C c key ty s 105 c.toInt.toNat).toInt = (s : Int) + 1 ∧ ∀ j, j < s + 1 → m_puts C c key ty s 109 (12 * c.toInt.toNat + j) = c_ins fk s (c_plc fk key s 0) key j ∧ ∃ b, c_ins fp s (c_plc fk key s 0) (some y) j = some b ∧ F b (m_puts C c key ty s 108 (12 * c.toInt.toNat + j))) := by
  have epk : m_pk C c key s = c_plc fk key s 0 := (h_ppos (fun j hj => (hc j hj).1) s 0 (Nat.zero_add _)).symm
  have hle := c_plc_le (fk := fk) (l := key) s 0
  refine ⟨fun hh => ?_, fun hh => ?_⟩
  · have hpn : ¬ m_pn C c key s := by
      unfold m_pn
      rw [epk]
      unfold c_has at hh
      rw [(hc _ hh.1).1]
      omega
    refine ⟨by rw [m_puts_5, if_neg hpn]; exact hsz, fun j hj => ?_⟩
    obtain ⟨k1, b, k2, k3⟩ := hc j hj
    rw [m_puts_9, m_puts_8, epk, if_neg (fun q => hpn q.1 : ¬ (m_pn C c key s ∧ c_plc fk key s 0 < j ∧ j ≤ s)), if_neg (fun q => hpn q.1 : ¬ (m_pn C c key s ∧ c_plc fk key s 0 < j ∧ j ≤ s))]
    by_cases e : j = c_plc fk key s 0
    · rw [if_pos e, if_pos e]
      refine ⟨?_, y, by rw [e, ab_up_self], hy⟩
      rw [e]
      exact Int32.toInt_inj.mp hh.2.symm
    · rw [if_neg e, if_neg e]
      exact ⟨k1, b, by rw [ab_up_ne _ _ e]; exact k2, k3⟩
  · have hpn : m_pn C c key s := by
      unfold m_pn
      rw [epk]
      unfold c_has at hh
      by_cases e : c_plc fk key s 0 < s
      · rw [(hc _ e).1]
        omega
      · omega
    refine ⟨by rw [m_puts_5, if_pos hpn, ab_tI (by omega) (by omega)], fun j hj => ?_⟩
    rw [m_puts_9, m_puts_8, epk, c_ins_v, c_ins_v]
    by_cases e : j = c_plc fk key s 0
    · rw [if_pos e, if_pos e, if_pos e, if_pos e]
      exact ⟨rfl, y, rfl, hy⟩
    · rw [if_neg e, if_neg e, if_neg e, if_neg e]
      by_cases e2 : c_plc fk key s 0 < j ∧ j ≤ s
      · have e3 : m_pn C c key s ∧ c_plc fk key s 0 < j ∧ j ≤ s := ⟨hpn, e2⟩
        rw [if_pos e3, if_pos e2, if_pos e2, if_pos e3]
        obtain ⟨k1, b, k2, k3⟩ := hc (j - 1) (by omega)
        exact ⟨k1, b, k2, k3⟩
      · have e3 : ¬ (m_pn C c key s ∧ c_plc fk key s 0 < j ∧ j ≤ s) := fun q => e2 q.2
        rw [if_neg e3, if_neg e2, if_neg e2, if_neg e3]
        obtain ⟨k1, b, k2, k3⟩ := hc j (by omega)
        exact ⟨k1, b, k2, k3⟩
section
variable {F : Nat → Int32 → Prop} {T : Nat → Prop} {I : wd_I} {P : wd_P} {M : wd_I} {g : Nat → ab_C} {k z d m : Nat} {Q : ab_Q}
/-- the parts of what put makes -/
theorem w_ptA (hk : h_k F T g M (M 102 8).toInt) (hT : m_T M (M 102 8).toInt) (h0 : 0 ≤ (M 102 8).toInt) {x y s : Nat} {tx ty what v : Int32} (hx : F x tx) (hy : F y ty) (hk3 : what.toInt = 2 → (M 103 tx.toInt.toNat).toInt = 3) (hs : (M 105 tx.toInt.toNat).toInt = (s : Int)) (hfit : what.toInt = 2 → (s ≤ 11 ∨ ¬ (m_hk M tx.toInt.toNat (ab_ii (v.toInt + 1)) s).toInt = 0)) : ((c_ptW g x y what v).1 ≤ 12 ∧ (m_pA M what.toInt tx ty v s 105 (M 102 8).toInt.toNat).toInt = ((c_ptW g x y what v).1 : Int) ∧ m_pA M what.toInt tx ty v s 103 (M 102 8).toInt.toNat = c_ptK what ∧ m_pA M what.toInt tx ty v s 104 (M 102 8).toInt.toNat = ab_ii 0) ∧ (∀ j, j < (c_ptW g x y what v).1 → ∃ b, (c_ptW g x y what v).2.2 j = some b ∧ F b (m_pA M what.toInt tx ty v s 108 (12 * (M 102 8).toInt.toNat + j)) ∧ m_pA M what.toInt tx ty v s 109 (12 * (M 102 8).toInt.toNat + j) = (if j < c_tm (c_ptK what) (c_ptW g x y what v).1 then (c_ptW g x y what v).2.1 j else ab_ii 0)) ∧ m_fr (M 102 8).toInt M (m_pA M what.toInt tx ty v s) ∧ m_s1 M (m_pA M what.toInt tx ty v s) := by
  obtain ⟨hTx, hx0, hx1⟩ := hk.in hx
  obtain ⟨-, p0, p1, p2, p3, p4, p5⟩ := hk.1.1 x tx hx
  obtain ⟨s', a1, a2, a3, a4, a5, a6, a7, a8, a9, a10, a11⟩ := m_T_row hT (t := tx.toInt.toNat) (by omega)
  have es : s' = s := by omega
  subst es
  have esz : c_sz g x = s' := by omega
  unfold m_pA c_ptW c_ptK
  by_cases h2 : what.toInt = 2
  · rw [if_pos h2, if_pos h2, if_pos h2]
    have hfit := hfit h2
    have hk3 := hk3 h2
    have hCf : m_fr (M 102 8).toInt M (m_copyOf M tx s') := m_copyOf_fr m_fr.rf (Int.le_refl _)
    have hrw : m_rw (M 102 8).toInt (m_copyOf M tx s') (m_puts (m_copyOf M tx s') (M 102 8) (ab_ii (v.toInt + 1)) ty s') := m_puts_rw h0 (Int.le_refl _)
    have er : ∀ q, q ≠ 105 → q ≠ 108 → q ≠ 109 → m_puts (m_copyOf M tx s') (M 102 8) (ab_ii (v.toInt + 1)) ty s' q = m_copyOf M tx s' q := fun q q1 q2 q3 => by
      unfold m_puts m_puts1
      rw [wd_up_row _ _ _ q3, wd_up_row _ _ _ q2]
      split
      · rw [wd_up_row _ _ _ q1, m_psh_row q2 q3]
      · rfl
    have hfr : m_fr (M 102 8).toInt M (m_puts (m_copyOf M tx s') (M 102 8) (ab_ii (v.toInt + 1)) ty s') := ⟨hCf.1.tr hrw.1 (Int.le_refl _), fun a ha => (hrw.2.1 a ha).trans (hCf.2.1 a ha), fun j j1 j2 j3 j4 => by rw [hrw.2.2]; exact hCf.2.2 j j1 j2 j3 j4⟩
    have hs1 : m_s1 M (m_puts (m_copyOf M tx s') (M 102 8) (ab_ii (v.toInt + 1)) ty s') := ⟨by rw [hrw.2.2]; exact m_copyOf_8, fun j hj => by rw [hrw.2.2]; unfold m_copyOf; rw [m_cpl_row (by decide) (by decide), m_begins_n hj]⟩
    have e103 : m_puts (m_copyOf M tx s') (M 102 8) (ab_ii (v.toInt + 1)) ty s' 103 (M 102 8).toInt.toNat = ab_ii 3 := by
      rw [er 103 (by decide) (by decide) (by decide), m_copyOf_kd]
      exact Int32.toInt_inj.mp (by rw [hk3]; rfl)
    have e104 : m_puts (m_copyOf M tx s') (M 102 8) (ab_ii (v.toInt + 1)) ty s' 104 (M 102 8).toInt.toNat = ab_ii 0 := by
      rw [er 104 (by decide) (by decide) (by decide), m_copyOf_wo]
      exact (hk.2 x tx hx).2.2.2 hk3
    have hkm : ∀ j, j < s' → M 109 (12 * tx.toInt.toNat + j) = c_rwi (c_ky g x) s' j := fun j hj => by
      unfold c_rwi
      rw [if_pos hj]
      exact (p5 j (by omega)).1.symm
    have hso : h_so (c_rwi (c_ky g x) s') s' := fun j hj => by
      rw [← hkm j (by omega), ← hkm (j + 1) hj]
      exact a11 hk3 j hj
    have hhas := h_has (key := ab_ii (v.toInt + 1)) hkm hso
    obtain ⟨o1, o2⟩ := o_puts (F := F) (C := m_copyOf M tx s') (c := M 102 8) (key := ab_ii (v.toInt + 1)) (ty := ty) (y := y) (s := s') (fk := c_rwi (c_ky g x) s') (fp := c_row (c_ptr g x) s') (by rw [m_copyOf_sz]; exact a1) a2 (fun j hj => ⟨by rw [m_copyOf_ky hx0 hx1 a2 hj]; exact hkm j hj, c_pt g x j, by unfold c_row c_ptr; rw [if_pos hj], by rw [m_copyOf_pt hx0 hx1 a2 hj]; exact (p5 j (by omega)).2⟩) hy
    have htm : ∀ q, c_tm (ab_ii 3) q = q := fun q => if_pos (by decide)
    unfold c_wk
    rw [esz]
    by_cases hh : c_has (c_rwi (c_ky g x) s') s' (ab_ii (v.toInt + 1))
    · obtain ⟨v1, v2⟩ := o1 hh
      rw [if_pos hh]
      dsimp only
      rw [htm]
      refine ⟨⟨a2, v1, e103, e104⟩, fun j hj => ?_, hfr, hs1⟩
      obtain ⟨w1, b, w2, w3⟩ := v2 j hj
      exact ⟨b, w2, w3, by rw [if_pos hj]; exact w1⟩
    · obtain ⟨v1, v2⟩ := o2 hh
      have h11 : s' ≤ 11 := by
        rcases hfit with q | q
        · exact q
        · exact absurd (hhas.mpr q) hh
      rw [if_neg hh, if_pos (show s' ≤ 12 by omega)]
      dsimp only
      rw [htm]
      refine ⟨⟨by omega, by rw [v1]; omega, e103, e104⟩, fun j hj => ?_, hfr, hs1⟩
      obtain ⟨w1, b, w2, w3⟩ := v2 j hj
      exact ⟨b, w2, w3, by rw [if_pos hj]; exact w1⟩
  · rw [if_neg h2, if_neg h2, if_neg h2]
    dsimp only
    obtain ⟨sort, hsort⟩ : ∃ sort, sort = ab_ii (if what.toInt = 0 then 1 else 2) := ⟨_, rfl⟩
    have hso : ¬ sort.toInt = 3 := by
      rw [hsort]
      split <;> decide
    have hsk : (if what.toInt = 0 then ab_ii 1 else ab_ii 2) = sort := by
      rw [hsort]
      split <;> rfl
    rw [← hsort, hsk]
    have e103 : m_adds (m_adds (m_begins M sort (ab_ii 0) (ab_ii 0)) (M 102 8) (ab_ii 0) tx 0) (M 102 8) (ab_ii 0) ty 1 103 (M 102 8).toInt.toNat = sort := by rw [m_adds_kd, m_adds_kd, m_begins_kd]
    have e104 : m_adds (m_adds (m_begins M sort (ab_ii 0) (ab_ii 0)) (M 102 8) (ab_ii 0) tx 0) (M 102 8) (ab_ii 0) ty 1 104 (M 102 8).toInt.toNat = ab_ii 0 := by rw [m_adds_wo, m_adds_wo, m_begins_wo]
    have htm : c_tm sort 2 = 0 := if_neg hso
    rw [htm]
    refine ⟨⟨by omega, by rw [m_adds_sz]; rfl, e103, e104⟩, fun j hj => ?_, m_adds_fr (m_adds_fr (m_begins_fr m_fr.rf (Int.le_refl _)) h0 (Int.le_refl _)) h0 (Int.le_refl _), ⟨by rw [m_adds_102, m_adds_102, m_begins_8], fun j hj => by rw [m_adds_102, m_adds_102, m_begins_n hj]⟩⟩
    rw [if_neg (Nat.not_lt_zero _)]
    by_cases e : j = 1
    · subst e
      refine ⟨y, c_ins_at, by rw [m_adds_pt]; exact hy, ?_⟩
      rw [m_adds_ky, if_pos rfl]
    · have e0 : j = 0 := by omega
      subst e0
      refine ⟨x, (c_ins_lt (by omega)).trans c_ins_at, by rw [m_adds_pn (by omega), m_adds_pt]; exact hx, ?_⟩
      rw [m_adds_ky, if_neg (by omega), m_adds_ky, if_pos rfl]
/-- the thing itself -/
theorem w_ptB (hW : c_W T g k) (h125 : 125 ≤ k) (hk : h_k F T g M (M 102 8).toInt) (hT : m_T M (M 102 8).toInt) (h0 : 0 ≤ (M 102 8).toInt ∧ (M 102 8).toInt ≤ 3012) {x y s : Nat} {tx ty what v : Int32} (hx : F x tx) (hy : F y ty) (hk3 : what.toInt = 2 → (M 103 tx.toInt.toNat).toInt = 3) (hs : (M 105 tx.toInt.toNat).toInt = (s : Int)) (hfit : what.toInt = 2 → (s ≤ 11 ∨ ¬ (m_hk M tx.toInt.toNat (ab_ii (v.toInt + 1)) s).toInt = 0)) : o_k (h_and F (k + 1 + 1 + 1 + 1 + 1) (M 102 8)) (fun w => T w ∨ w = k + 1 + 1 + 1 + 1 + 1) (c_ptg g k x y what v) (m_pW M what.toInt tx ty v s) ((M 102 8).toInt + 1) := by
  obtain ⟨⟨q1, q2, q3, q4⟩, q5, q6, q7⟩ := w_ptA hk hT h0.1 hx hy hk3 hs hfit
  obtain ⟨hc1, hc2⟩ := c_ptg_st (z := 0) (z' := 0) (what := what) (n := v) hW h125 (hk.in hx).1 (hk.in hy).1
  have hwf : c_W (fun w => T w ∨ w = k + 1 + 1 + 1 + 1 + 1) (c_ptg g k x y what v) (k + 1 + 1 + 1 + 1 + 1 + 1) := hc1.wf
  have hofr : c_ofr k g (c_ptg g k x y what v) := hc1.ofr
  have hkz : c_ptK what = ab_ii 3 ∨ ¬ (c_ptK what).toInt = 3 := by
    unfold c_ptK
    split
    · exact Or.inl rfl
    · right
      split <;> decide
  have hsz : m_sz (m_pA M what.toInt tx ty v s) (M 102 8) = (c_ptW g x y what v).1 := by unfold m_sz; rw [q2]; omega
  have h8A : (m_pA M what.toInt tx ty v s 102 8).toInt = (M 102 8).toInt + 1 := by rw [q7.1, ab_tI (by omega) (by omega)]
  unfold m_pW
  rw [hsz]
  have hkA : o_k F T g (m_pA M what.toInt tx ty v s) ((M 102 8).toInt + 1) := hk.o.mv (fun _ e => e) (fun _ _ => h_sm.rf) (fun b u e => q6.1.ra (by have := hk.in e; omega)) (by omega)
  have hg2 : c_ofr k g (c_tg2 (c_pu g k (c_ptW g x y what v).2.1 (c_ptW g x y what v).2.2 (c_ptW g x y what v).1) (k + 1 + 1 + 1) (c_ptW g x y what v).1 (c_tm (c_ptK what) (c_ptW g x y what v).1) (c_ptW g x y what v).2.1 (c_ptW g x y what v).2.2) := by
    unfold c_tg2 c_pu
    exact c_ofr_up (c_ofr_up (c_ofr_up (c_ofr_up (c_ofr_up c_ofr.rf (Nat.le_refl _)) (by omega)) (by omega)) (by omega)) (by omega)
  refine o_fin (M := m_pA M what.toInt tx ty v s) (ka := k + 1 + 1 + 1 + 1) (pa := k + 1 + 1 + 1) (nk := c_tm (c_ptK what) (c_ptW g x y what v).1) (fk2 := c_rwi (c_ptW g x y what v).2.1 (c_tm (c_ptK what) (c_ptW g x y what v).1)) (fp2 := c_row (c_ptW g x y what v).2.2 (c_ptW g x y what v).1) (kd := c_ptK what) (wo := ab_ii 0) (g2 := c_tg2 (c_pu g k (c_ptW g x y what v).2.1 (c_ptW g x y what v).2.2 (c_ptW g x y what v).1) (k + 1 + 1 + 1) (c_ptW g x y what v).1 (c_tm (c_ptK what) (c_ptW g x y what v).1) (c_ptW g x y what v).2.1 (c_ptW g x y what v).2.2) hkA q2 (fun j hj => ?_) q1 ⟨h0.1, by omega⟩ (fun b e => by have := (hk.in e).2.2; omega) (fun u e => by have := (hW _ (hk.in e).1).1.2; omega) (fun _ e => Or.inl e) (Or.inr rfl) (fun b hb => h_sm_wf (c_wf_xt (hW b hb) hofr (Nat.le_refl _))) (ab_up_self _ _ _) ((ab_up_ne _ _ (by omega)).trans (ab_up_self _ _ _)) ((ab_up_ne _ _ (by omega)).trans ((ab_up_ne _ _ (by omega)).trans (ab_up_self _ _ _))) (fun b hb j => (h_sm_wf (c_wf_xt (hW b hb) hg2 (Nat.le_refl _))).2.2.2 j) q3 q4 (o_highB (fun j hj => ?_)) (fun _ => rfl)
  · obtain ⟨b, b1, b2, b3⟩ := q5 j hj
    refine ⟨b, by unfold c_row; rw [if_pos hj]; exact b1, b2, b3.trans ?_⟩
    by_cases e : j < c_tm (c_ptK what) (c_ptW g x y what v).1
    · rw [if_pos e, if_pos e]
      unfold c_rwi
      rw [if_pos e]
    · rw [if_neg e, if_neg e]
  · obtain ⟨b, b1, b2, b3⟩ := q5 j hj
    have := (hk.2 b _ b2).2
    rw [(q6.1.1 _ (by have := hk.in b2; omega)).2.2.2.2]
    omega
end
