/-! ===== both objects: put leaves both alike (own text) ===== -/
/-- the reference's call, its answer left open, and they stay alike -/
def w_ref2 (rm need : Nat) (args : List ab_V) (F : Nat → Int32 → Prop) (T : Nat → Prop) (I : wd_I) (P : wd_P) (M : wd_I) (g : Nat → ab_C) (k z : Nat) : Prop := ∀ (d : Nat) (Q : ab_Q), need ≤ d → (∀ (r : Int32) (M' : wd_I), w_In F T I P M' g k → Q (some (.inl r)) (wd I P M' g, k, z)) → ab_CT d rm args (wd I P M g, k, z) Q
/-- as w_res, the answers left open -/
def w_res2 (rm need : Nat) (args : List ab_V) (n : Nat) (M : wd_I) (Q : ab_Q) : Prop := ∀ (r : Int32) (F' : Nat → Int32 → Prop) (T' : Nat → Prop) (I' : wd_I) (P' : wd_P) (g' : Nat → ab_C) (k' z' : Nat), w_ref2 rm need args F' T' I' P' M g' k' z' → k_rm n I' k' z' → Q (some (.inl r)) (wd I' P' M g', k', z')
theorem w_ref2_of {rm need : Nat} {args : List ab_V} {r : Int32} {F : Nat → Int32 → Prop} {T : Nat → Prop} {I : wd_I} {P : wd_P} {M : wd_I} {g : Nat → ab_C} {k z : Nat} (h : w_ref rm need args (.inl r) F T I P M g k z) : w_ref2 rm need args F T I P M g k z := fun d Q hd hq => h d Q hd (fun M' hM => hq r M' hM)
section
variable {F : Nat → Int32 → Prop} {T T' : Nat → Prop} {I : wd_I} {P : wd_P} {M W : wd_I} {g g' : Nat → ab_C} {k k' z d m : Nat} {Q : ab_Q}
theorem w_In.gr (h : w_In F T I P M g k) {z0 z1 : Nat} (hst : c_st T (c_J, g, k, z0) T' (c_J, g', k', z1)) : w_In F T' I P M g' k' := by
  obtain ⟨h1, h2, h3, h4, h5, h6, h7, h8⟩ := h
  have hwf : c_W T' g' k' := hst.wf
  have hofr : c_ofr k g g' := hst.ofr
  have hkk : k ≤ k' := hst.kk
  exact ⟨h1, h2.fr hwf hst.inc hofr hkk (k_sm_of (fun _ _ _ => rfl) (fun _ _ _ => rfl)) h2.2.2.1 h2.2.2.2.2.2.1, h3.mv hst.inc (fun x hx => h_sm_wf (c_wf_xt (h2.1 x hx) hofr hkk)) (fun _ _ _ => m_ra.rf) (Int.le_refl _), h4, h5, h6, h7, h8.fr h2 (.of (fun _ _ _ => rfl) hofr (fun _ _ _ => rfl)) .rf⟩
theorem w_In.rs (h : w_In F T I P M g k) (hf : m_fr (M 102 8).toInt M W) (hs : m_s1 M W) : w_In F T I P (m_rs M W) g k := by
  obtain ⟨h1, h2, h3, h4, h5, h6, h7, h8⟩ := h
  have hb := m_ok_b h1
  have h22 := h1.2.2.2.2.2.2.1
  have vn := hs.2
  have hrow : ∀ x, 110 ≤ x → W x = M x := fun x h1 => hf.2.1 x h1
  have e22 : W 102 22 = M 102 22 := vn 22 (by decide)
  have e20 : W 102 20 = M 102 20 := vn 20 (by decide)
  have e9 : W 102 9 = M 102 9 := vn 9 (by decide)
  have er : ∀ x, x ≠ 102 → m_rs M W x = W x := fun x hx => by unfold m_rs; rw [wd_up_row _ _ _ hx]
  have en : ∀ j, j ≠ 8 → m_rs M W 102 j = W 102 j := fun j hj => by unfold m_rs; rw [wd_up_ne _ _ (Or.inr hj)]
  have en8 : m_rs M W 102 8 = M 102 8 := by unfold m_rs; rw [wd_up_self]
  exact ⟨m_ok_rs h1 hf.1 (m_9_e e9) (by rw [e9]; exact hb.2.2.2) (fun x x1 _ => hrow x x1) e20 (by rw [e22]; exact h22), h2, h3.mv (fun _ q => q) (fun _ _ => h_sm.rf) (fun x u q => (hf.1.ra (by have := h3.in q; omega)).tr (m_ra_of (fun y y1 y2 => er y (by omega)))) (by rw [en8]; exact Int.le_refl _), h4.fr (fun _ => ⟨rfl, rfl⟩) ⟨(en 22 (by decide)).trans e22, (er 120 (by decide)).trans (hrow 120 (by decide))⟩, by rw [en 9 (by decide), e9]; exact h5, h6.mv (fun _ _ q => q) (fun _ _ => ⟨rfl, rfl, fun _ => rfl⟩) (fun x x1 x2 => (er x (by omega)).trans (hrow x x1)), h7.mv (fun _ _ q => q) rfl (fun _ => rfl) ((er 116 (by decide)).trans (hrow 116 (by decide))), h8.fr h2 .rf (.rs (fun x x1 _ => hrow x x1) e20)⟩
/-- what put makes is counted -/
theorem w_In.mk1 (h : w_In F T I P M g k) {z0 z1 a : Nat} (hst : c_st T (c_J, g, k, z0) T' (c_J, g', k', z1)) (hf : m_fr (M 102 8).toInt M W) (hs : m_s1 M W) (hT : m_T W (W 102 8).toInt) (hlt : (I 9 0).toInt < 3000) (hk : o_k (h_and F a (M 102 8)) T' g' W (W 102 8).toInt) : w_In (h_and F a (M 102 8)) T' (c_I1 I) P (m_mk W) g' k' := by
  obtain ⟨h1, h2, h3, h4, h5, h6, h7, h8⟩ := h
  have hb := m_ok_b h1
  have h22 := h1.2.2.2.2.2.2.1
  obtain ⟨v8, vn⟩ := hs
  have hrow : ∀ x, 110 ≤ x → W x = M x := fun x h1 => hf.2.1 x h1
  have e22 : W 102 22 = M 102 22 := vn 22 (by decide)
  have e20 : W 102 20 = M 102 20 := vn 20 (by decide)
  have e9 : W 102 9 = M 102 9 := vn 9 (by decide)
  have hwf : c_W T' g' k' := hst.wf
  have hofr : c_ofr k g g' := hst.ofr
  have hkk : k ≤ k' := hst.kk
  have hI : ∀ a j, a ≠ 9 → c_I1 I a j = I a j := fun a j q => wd_up_ne _ _ (Or.inl q)
  obtain ⟨u1, u2⟩ := c_I1_9 (I := I) ⟨h2.2.2.1.1, hlt⟩
  have k8 : m_mk W 102 8 = W 102 8 := m_mk_8
  have hM9 : (M 102 9).toInt = (I 9 0).toInt := by rw [h5]
  have k9 : (m_mk W 102 9).toInt = (M 102 9).toInt + 1 := by unfold m_mk; rw [wd_up_self, e9, ab_tI (by omega) (by omega)]
  have w8 : (W 102 8).toInt = (M 102 8).toInt + 1 := by rw [v8, ab_tI (by omega) (by omega)]
  have kn : ∀ j, j ≠ 9 → m_mk W 102 j = W 102 j := fun j hj => wd_up_ne _ _ (Or.inr hj)
  have hrm := h1.2.2.1
  unfold m_rm at hrm
  have hN : m_ok (m_mk W) := m_ok_of h1 (by rw [k8]; exact m_T_c (fun x h1 h2 => m_mk_row (by omega)) hT) (by rw [k8]; omega) (by unfold m_9; omega) (by unfold m_rm; rw [k8]; omega) (fun x h1 h2 => by rw [m_mk_row (by omega)]; exact hrow x h1) (by rw [kn 20 (by decide)]; exact e20) (by rw [kn 22 (by decide), e22]; exact h22)
  have hk2 : h_k (h_and F a (M 102 8)) T' g' W (W 102 8).toInt := ⟨hk.1, fun x u hx => by
    have := hk.1.row hT hx
    exact ⟨this.2.1, this.2.2.1.1, by omega, (hk.2 x u hx).2.2.2⟩⟩
  exact ⟨hN, h2.fr hwf hst.inc hofr hkk (k_sm_of (fun a j q => hI a j (by omega)) (fun _ _ _ => rfl)) (by omega) (by rw [hI 1 1 (by omega)]; exact h2.2.2.2.2.2.1), hk2.mv (fun _ q => q) (fun _ _ => h_sm.rf) (fun _ _ _ => m_ra_of (fun y y1 y2 => m_mk_row (by omega))) (by rw [k8]; exact Int.le_refl _), h4.fr (fun j => ⟨(hI 1 1 (by omega)).symm, hI 2 j (by omega)⟩) ⟨(kn 22 (by decide)).trans e22, (m_mk_row (by decide)).trans (hrow 120 (by decide))⟩, Int32.toInt_inj.mp (by omega), h6.mv (fun _ _ q => Or.inl q) (fun s hs => ⟨hI _ _ (by omega), rfl, fun _ => rfl⟩) (fun x x1 x2 => (m_mk_row (by omega)).trans (hrow x x1)), h7.mv (fun _ _ q => Or.inl q) (hI 0 11 (by omega)) (fun _ => rfl) ((m_mk_row (by decide)).trans (hrow 116 (by decide))), h8.fr h2 (.of (fun a j q => hI a j (by omega)) hofr (fun _ _ _ => rfl)) ((r_fp.of (fun x x1 _ => hrow x x1) e20).mk)⟩
/-- thirteen parts are too many -/
theorem w_ptF {x y s : Nat} {tx what v : Int32} (hk : h_k F T g M (M 102 8).toInt) (hT : m_T M (M 102 8).toInt) (hx : F x tx) (h2 : what.toInt = 2) (hk3 : (M 103 tx.toInt.toNat).toInt = 3) (hs : (M 105 tx.toInt.toNat).toInt = (s : Int)) (h12 : s = 12) (hno : (m_hk M tx.toInt.toNat (ab_ii (v.toInt + 1)) s).toInt = 0) : c_sz (c_ptg g k x y what v) (k + 1 + 1 + 1 + 1 + 1) = 13 := by
  obtain ⟨hTx, hx0, hx1⟩ := hk.in hx
  obtain ⟨-, p0, p1, p2, p3, p4, p5⟩ := hk.1.1 x tx hx
  obtain ⟨s', a1, a2, a3, a4, a5, a6, a7, a8, a9, a10, a11⟩ := m_T_row hT (t := tx.toInt.toNat) (by omega)
  have es : s' = s := by omega
  subst es
  have esz : c_sz g x = s' := by omega
  have hkm : ∀ j, j < s' → M 109 (12 * tx.toInt.toNat + j) = c_rwi (c_ky g x) s' j := fun j hj => by
    unfold c_rwi
    rw [if_pos hj]
    exact (p5 j (by omega)).1.symm
  have hso : h_so (c_rwi (c_ky g x) s') s' := fun j hj => by
    rw [← hkm j (by omega), ← hkm (j + 1) hj]
    exact a11 hk3 j hj
  have hh : ¬ c_has (c_rwi (c_ky g x) s') s' (ab_ii (v.toInt + 1)) := fun q => (h_has hkm hso).mp q hno
  have eW : (c_ptW g x y what v).1 = 13 := by
    unfold c_ptW c_wk
    rw [if_pos h2, esz, if_neg hh, if_pos (by omega)]
    show s' + 1 = 13
    omega
  obtain ⟨-, v1, -⟩ := h_vw (g := c_ptg g k x y what v) (a := k + 1 + 1 + 1 + 1 + 1) (ka := k + 1 + 1 + 1 + 1) (pa := k + 1 + 1 + 1) (ab_up_self _ _ _) ((ab_up_ne _ _ (by omega)).trans (ab_up_self _ _ _)) ((ab_up_ne _ _ (by omega)).trans ((ab_up_ne _ _ (by omega)).trans (ab_up_self _ _ _)))
  rw [v1]
  exact eW
theorem hc_put (hd : 10 ≤ d) (h : w_In F T I P M g k) (hr : k_rm (m + 1) I k z) {s what a b v : Int32} (hQ : w_res2 175 41 [wd_v 102, .inl s, .inl what, .inl a, .inl b, .inl v] m M Q) : ab_CT d 109 [wd_v 0, .inl s, .inl what, .inl a, .inl b, .inl v] (wd I P M g, k, z) Q := by
  have hr0 : k_rm m I k z := hr.le (Int.le_refl _) (Nat.le_add_right _ _) (Nat.le_add_right _ _)
  have hrb := hr.b h.2.1.2.2.1.2
  have hb := m_ok_b h.1
  have hM9 : (M 102 9).toInt = (I 9 0).toInt := by rw [h.2.2.2.2.1]
  obtain ⟨x, hx⟩ := h.sh a
  obtain ⟨y, hy⟩ := h.sh b
  obtain ⟨c, hc⟩ : ∃ c, c_sh s → v_s1 F I P M s.toInt.toNat c := by
    by_cases hs : c_sh s
    · obtain ⟨c, hc⟩ := h.2.2.2.2.2.1 s.toInt.toNat (by unfold c_sh at hs; omega)
      exact ⟨c, fun _ => hc⟩
    · exact ⟨0, fun q => absurd q hs⟩
  have hiff : c_pt1 s what a b v ↔ m_pok s what a b v := by
    unfold c_pt1 m_pok c_sh m_sh
    omega
  by_cases hok : c_pt1 s what a b v
  · obtain ⟨hs9, ha9, hb9, hw9, hn9⟩ := id hok
    have hpo := hiff.mp hok
    have hxF := (hx ha9).2
    have hyF := (hy hb9).2
    have hxb := (h.2.2.1.in hxF).2
    have hyb := (h.2.2.1.in hyF).2
    have hcs := hc hs9
    have e0 : c_i g x 0 = M 103 (M 110 a.toInt.toNat).toInt.toNat := (h.2.2.1.1.p hxF).1
    obtain ⟨sz, a1, a2, a3, -⟩ := m_T_row h.1.1 (t := (M 110 a.toInt.toNat).toInt.toNat) (by omega)
    by_cases hS : what.toInt = 2 ∧ ¬ (c_i g x 0).toInt = 3
    · refine y_put hd h.2.1.1 h.2.1.2.1 h.2.1.2.2.1 ⟨by omega, by omega⟩ (c := c) (fun e => absurd hok e) (fun q => (hc q).ok h.2.2.1) (fun q => (hx q).1) (fun q => (hy q).1) (fun _ _ _ => ?_) (fun _ e => absurd (e hS.1) hS.2) (fun _ e => absurd (e hS.1) hS.2) (fun _ e => absurd (e hS.1) hS.2)
      exact hQ _ F T _ _ _ _ _ (w_ref2_of (w_ref_bad h (fun d Q hd hq => x_put_S (by omega) hpo hS.1 ⟨hxb.1, by omega⟩ (by rw [← e0]; exact hS.2) hq))) hr0
    · have hk3 : what.toInt = 2 → (M 103 (M 110 a.toInt.toNat).toInt.toNat).toInt = 3 := fun q => by
        rw [← e0]
        omega
      obtain ⟨g1, g2⟩ := c_ptg_st (z := z) (z' := 0) (what := what) (n := v) h.2.1.1 h.2.1.2.1 (h.2.2.1.in hxF).1 (h.2.2.1.in hyF).1
      have hgr := h.gr g1
      by_cases hF : what.toInt = 2 ∧ sz = 12 ∧ (m_hk M (M 110 a.toInt.toNat).toInt.toNat (ab_ii (v.toInt + 1)) sz).toInt = 0
      · obtain ⟨f1, f2, f3⟩ := hF
        have hF1 := w_ptF (k := k) (y := y) h.2.2.1 h.1.1 hxF f1 (hk3 f1) a1 f2 f3
        have hxF2 : ∀ (I' : wd_I) (P' : wd_P) (g' : Nat → ab_C) (k' z' d : Nat) (Q : ab_Q), 41 ≤ d → Q (some (.inl (ab_ii (-4)))) (wd I' P' M g', k', z') → ab_CT d 175 [wd_v 102, .inl s, .inl what, .inl a, .inl b, .inl v] (wd I' P' M g', k', z') Q := fun I' P' g' k' z' d Q hd hq => by
          subst f2
          exact x_put_F (by omega) hpo f1 ⟨hxb.1, by omega⟩ (hk3 f1) a1 f3 hq
        refine y_put hd h.2.1.1 h.2.1.2.1 h.2.1.2.2.1 ⟨by omega, by omega⟩ (c := c) (fun e => absurd hok e) (fun q => (hc q).ok h.2.2.1) (fun q => (hx q).1) (fun q => (hy q).1) (fun _ e1 e2 => absurd ⟨e1, e2⟩ hS) (fun _ _ e => ?_) (fun _ _ e1 e2 => ?_) (fun _ _ e1 e2 => absurd (Or.inr (Or.inr (by rw [hF1]; omega))) e2)
        · exact hQ _ F T _ _ _ _ _ (w_ref2_of (w_ref_bad h (hxF2 _ _ _ _ _))) hr0
        · exact hQ _ F _ _ _ _ _ _ (w_ref2_of (w_ref_bad hgr (hxF2 _ _ _ _ _))) (hr.le (Int.le_refl _) (by omega) (by omega))
      · have h12 : what.toInt = 2 → (sz ≤ 11 ∨ ¬ (m_hk M (M 110 a.toInt.toNat).toInt.toNat (ab_ii (v.toInt + 1)) sz).toInt = 0) := fun q => by
          by_cases e : sz ≤ 11
          · exact Or.inl e
          · exact Or.inr (fun q2 => hF ⟨q, by omega, q2⟩)
        obtain ⟨w1, w2, w3⟩ := m_pW_T (what := what.toInt) (n := v) h.1.1 hb.2.1 hxb hyb a1 hk3 h12
        have hko := w_ptB (v := v) h.2.1.1 h.2.1.2.1 h.2.2.1 h.1.1 ⟨by omega, hb.2.1⟩ hxF hyF hk3 a1 h12
        have w8 : (m_pW M what.toInt (M 110 a.toInt.toNat) (M 110 b.toInt.toNat) v sz 102 8).toInt = (M 102 8).toInt + 1 := by rw [w2.1, ab_tI (by omega) (by omega)]
        have hx2 := fun (I' : wd_I) (P' : wd_P) (g' : Nat → ab_C) (k' z' d : Nat) (Q : ab_Q) (hd : 4 ≤ d) => x_put_ok (d := d) (I := I') (P := P') (g := g') (k := k') (z := z') (Q := Q) hd h.1.1 hb.2.1 hcs.2.1 hcs.2.2.1 hpo hxb hyb a1 hk3 h12
        have hrs := h.rs w1 w2
        have hgrs := hgr.rs w1 w2
        have hpr := hko.1.p (Or.inr ⟨rfl, rfl⟩ : h_and F (k + 1 + 1 + 1 + 1 + 1) (M 102 8) (k + 1 + 1 + 1 + 1 + 1) (M 102 8))
        have hsz12 := (hko.2 _ _ (Or.inr ⟨rfl, rfl⟩ : h_and F (k + 1 + 1 + 1 + 1 + 1) (M 102 8) (k + 1 + 1 + 1 + 1 + 1) (M 102 8))).1
        obtain ⟨-, -, v2, v3, -⟩ := hpr
        have htm : c_tooM (c_ptg g k x y what v) (k + 1 + 1 + 1 + 1 + 1) ↔ (200 < (m_pW M what.toInt (M 110 a.toInt.toNat) (M 110 b.toInt.toNat) v sz 106 (M 102 8).toInt.toNat).toInt ∨ 12 < (m_pW M what.toInt (M 110 a.toInt.toNat) (M 110 b.toInt.toNat) v sz 107 (M 102 8).toInt.toNat).toInt) := by
          unfold c_tooM
          rw [v2, v3]
          omega
        generalize m_pW M what.toInt (M 110 a.toInt.toNat) (M 110 b.toInt.toNat) v sz = W at *
        refine y_put hd h.2.1.1 h.2.1.2.1 h.2.1.2.2.1 ⟨by omega, by omega⟩ (c := c) (fun e => absurd hok e) (fun q => (hc q).ok h.2.2.1) (fun q => (hx q).1) (fun q => (hy q).1) (fun _ e1 e2 => absurd ⟨e1, e2⟩ hS) (fun _ _ e => ?_) (fun _ _ e1 e2 => ?_) (fun _ _ e1 e2 => ?_)
        · by_cases hfl : 200 < (W 106 (M 102 8).toInt.toNat).toInt ∨ 12 < (W 107 (M 102 8).toInt.toNat).toInt
          · exact hQ _ F T _ _ _ _ _ (w_ref2_of (r := ab_ii (-4)) (fun d Q hd hq => hx2 _ _ _ _ _ d Q (by omega) (fun _ => hq _ hrs) (fun q1 q2 _ => by exfalso; omega) (fun q1 q2 _ => by exfalso; omega))) hr0
          · exact hQ _ F T _ _ _ _ _ (w_ref2_of (r := ab_ii (-17)) (fun d Q hd hq => hx2 _ _ _ _ _ d Q (by omega) (fun q => absurd q hfl) (fun _ _ _ => hq _ hrs) (fun _ _ q => by exfalso; omega))) hr0
        · have hfl := htm.mp e2
          exact hQ _ F _ _ _ _ _ _ (w_ref2_of (r := ab_ii (-4)) (fun d Q hd hq => hx2 _ _ _ _ _ d Q (by omega) (fun _ => hq _ hgrs) (fun q1 q2 _ => by exfalso; omega) (fun q1 q2 _ => by exfalso; omega))) (hr.le (Int.le_refl _) (by omega) (by omega))
        · have hfl : ¬ (200 < (W 106 (M 102 8).toInt.toNat).toInt ∨ 12 < (W 107 (M 102 8).toInt.toNat).toInt) := fun q => e2 (htm.mpr q)
          have hin := h.mk1 g1 w1 w2 (w3 (by omega) (by omega)) e1 (by rw [w8]; exact hko)
          have hc2 : v_s1 (h_and F (k + 1 + 1 + 1 + 1 + 1) (M 102 8)) (c_I1 I) P (m_mk W) s.toInt.toNat c := hcs.mv (fun _ _ q => Or.inl q) (wd_up_ne _ _ (by omega)) rfl (fun _ _ => rfl) (by rw [m_mk_row (by decide), w1.2.1 110 (by decide)]) (fun i _ => by rw [m_mk_row (by decide), w1.2.1 111 (by decide)]) (by rw [m_mk_row (by decide), w1.2.1 112 (by decide)])
          have hfin := hin.bec (s := s.toInt.toNat) (by unfold c_sh at hs9; omega) hc2 (Or.inr ⟨rfl, rfl⟩ : h_and F (k + 1 + 1 + 1 + 1 + 1) (M 102 8) (k + 1 + 1 + 1 + 1 + 1) (M 102 8))
          obtain ⟨u1, -⟩ := c_I1_9 (I := I) ⟨h.2.1.2.2.1.1, e1⟩
          refine hQ _ _ _ _ _ _ _ _ (w_ref2_of (r := W 106 (M 102 8).toInt.toNat) (fun d Q hd hq => hx2 _ _ _ _ _ d Q (by omega) (fun q => absurd q hfl) (fun _ _ q => by exfalso; omega) (fun _ _ _ => hq _ hfin))) (hr.le ?_ (by omega) (by omega))
          rw [s_becI_ne (by omega), u1]
          omega
  · refine y_put hd h.2.1.1 h.2.1.2.1 h.2.1.2.2.1 ⟨by omega, by omega⟩ (c := c) (fun _ => ?_) (fun q => (hc q).ok h.2.2.1) (fun q => (hx q).1) (fun q => (hy q).1) (fun e => absurd e hok) (fun e => absurd e hok) (fun e => absurd e hok) (fun e => absurd e hok)
    exact hQ _ F T _ _ _ _ _ (w_ref2_of (w_ref_bad h (fun d Q hd hq => x_put_b (by omega) (fun q => hok (hiff.mpr q)) hq))) hr0
end
