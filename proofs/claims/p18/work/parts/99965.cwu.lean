/-! ===== both objects: thing kept (own text) ===== -/
section
variable {F F' : Nat → Int32 → Prop} {T T' : Nat → Prop} {I I' : wd_I} {P P' : wd_P} {M M' : wd_I} {g : Nat → ab_C} {k z n d : Nat} {Q : ab_Q}
theorem w_thy (h : w_In F T I P M g k) (hu : (m_th2 M 102 24).toInt = -1) {a s c : Nat} {v : Int32} (hs : s < 12) (hc : v_s1 F I P M s c) (g1 : c_hs T (I, g, k, z) T' (r_R (I, g, k, z)).2) (hF : ∀ b u, F b u → F' b u) (hk' : h_k F' T' (r_R (I, g, k, z)).2.2.1 (m_th2 M) (m_th2 M 102 8).toInt) (ha : F' a (m_th1 M).2) (hv : v = m_th3 M) (hle : (m_th3 M).toInt ≤ 3000) : w_In F' T' (s_becI (wd_up (r_RJ (I, g, k, z)) 9 0 v) s c) (s_becP P s c a) (m_becomes (wd_up (m_th2 M) 102 9 (m_th3 M)) s (m_th1 M).2 c) (r_R (I, g, k, z)).2.2.1 (r_R (I, g, k, z)).2.2.2.1 := by
  have hh9 := h.hk9
  obtain ⟨h1, h2, h3, h4, h5, h6, h7, h8⟩ := h
  obtain ⟨-, -, -, g3, g4, g5, g6⟩ := r_R_gd (z := z) h2.1 h2.2.1 h2.tp
  have hb := m_ok_b h1
  have htp : 0 ≤ (M 102 22).toInt ∧ (M 102 22).toInt ≤ 100 := by rw [← h4.1]; exact h2.tp
  have hp := m_th0_rp (M := M) (by omega) hb.2.1 htp
  have hrr := m_rd_rr 13 (m_th0 M) hp
  have hfr := hrr.1.1
  rw [m_th0_n (by decide)] at hfr
  have hrow : ∀ a, 110 ≤ a → a ≤ 120 → m_th2 M a = M a := fun a a1 a2 => by
    rw [m_th2_row (by omega), show (m_th1 M).1 a = m_th0 M a from hfr.2.1 a a1, m_th0_row (by omega)]
  have hnn : ∀ j, j ≠ 8 → j ≠ 22 → j ≠ 23 → j ≠ 24 → j ≠ 25 → m_th2 M 102 j = M 102 j := fun j j1 j2 j3 j4 j5 => by
    rw [m_th2_n ⟨j2, j4⟩, show (m_th1 M).1 102 j = m_th0 M 102 j from hfr.2.2 j j1 j3 j4 j5, m_th0_n ⟨j3, j4, j5⟩]
  have e9 := hnn 9 (by decide) (by decide) (by decide) (by decide) (by decide)
  have e20 := hnn 20 (by decide) (by decide) (by decide) (by decide) (by decide)
  have e22 : m_th2 M 102 22 = ab_ii 0 := by unfold m_th2; rw [wd_up_self]
  obtain ⟨t1, t2, t3, t4, t5, t6, t7⟩ := m_th_T h1.1 (by omega) hb.2.1 htp hu
  have e3 : (m_th3 M).toInt = (M 102 9).toInt + (m_th2 M 102 25).toInt := by unfold m_th3; rw [e9, ab_tI (by omega) (by omega)]
  have hrm := h1.2.2.1
  unfold m_rm at hrm
  have u8 : ∀ j, j ≠ 9 → wd_up (m_th2 M) 102 9 (m_th3 M) 102 j = m_th2 M 102 j := fun j hj => wd_up_ne _ _ (Or.inr hj)
  have u9 : wd_up (m_th2 M) 102 9 (m_th3 M) 102 9 = m_th3 M := wd_up_self _ _ _ _
  have ur : ∀ a, a ≠ 102 → wd_up (m_th2 M) 102 9 (m_th3 M) a = m_th2 M a := fun a ha => wd_up_row _ _ _ ha
  have hN : m_ok (wd_up (m_th2 M) 102 9 (m_th3 M)) := by
    refine m_ok_of h1 ?_ (by rw [u8 8 (by decide)]; omega) (by unfold m_9; rw [u9]; omega) ?_ (fun a h1 h2 => by rw [ur a (by omega)]; exact hrow a h1 (by omega)) (by rw [u8 20 (by decide)]; exact e20) ⟨0, by rw [u8 22 (by decide)]; exact e22, by omega⟩
    · rw [u8 8 (by decide)]
      exact m_T_c (fun a h1 h2 => ur a (by omega)) t1
    · unfold m_rm
      rw [u8 8 (by decide), u9]
      omega
  have hJ : ∀ a j, ¬ (a = 1) → ¬ (a = 9) → wd_up (r_RJ (I, g, k, z)) 9 0 v a j = I a j := fun a j q q9 => (wd_up_ne _ _ (Or.inl q9)).trans ((wd_up_ne _ _ (by omega)).trans (g3 a j (by omega)))
  have hJ1 : wd_up (r_RJ (I, g, k, z)) 9 0 v 1 1 = ab_ii 0 := (wd_up_ne _ _ (by omega)).trans (wd_up_self _ _ _ _)
  have hJ9 : wd_up (r_RJ (I, g, k, z)) 9 0 v 9 0 = v := wd_up_self _ _ _ _
  have hk0 : k_ok T' (wd_up (r_RJ (I, g, k, z)) 9 0 v) P (r_R (I, g, k, z)).2.2.1 (r_R (I, g, k, z)).2.2.2.1 := h2.fr (c_hs_wf g1) g1.inc (c_hs_ofr g1) (c_hs_kk g1) (k_sm_of (fun a j q => hJ a j (by omega) (by omega)) (fun _ _ _ => rfl)) (by rw [hJ9, hv]; omega) ⟨0, hJ1, by omega⟩
  have hc2 : v_s1 F' (wd_up (r_RJ (I, g, k, z)) 9 0 v) P (wd_up (m_th2 M) 102 9 (m_th3 M)) s c := hc.mv hF (hJ _ _ (by omega) (by omega)) rfl (fun _ _ => rfl) (by rw [ur 110 (by decide), hrow 110 (by decide) (by decide)]) (fun _ _ => by rw [ur 111 (by decide), hrow 111 (by decide) (by decide)]) (by rw [ur 112 (by decide), hrow 112 (by decide) (by decide)])
  have hs2 : v_sh F' (wd_up (r_RJ (I, g, k, z)) 9 0 v) P (wd_up (m_th2 M) 102 9 (m_th3 M)) := h6.mv hF (fun s hs => ⟨hJ _ _ (by omega) (by omega), rfl, fun _ => rfl⟩) (fun x x1 x2 => by rw [ur x (by omega), hrow x x1 (by omega)])
  have hk2 : h_k F' T' (r_R (I, g, k, z)).2.2.1 (wd_up (m_th2 M) 102 9 (m_th3 M)) (m_th2 M 102 8).toInt := hk'.mv (fun _ q => q) (fun _ _ => h_sm.rf) (fun _ _ _ => m_ra_of (fun x x1 x2 => ur x (by omega))) (Int.le_refl _)
  have eb : ∀ x, x ≠ 110 → x ≠ 111 → x ≠ 112 → m_becomes (wd_up (m_th2 M) 102 9 (m_th3 M)) s (m_th1 M).2 c x = wd_up (m_th2 M) 102 9 (m_th3 M) x := fun x x1 x2 x3 => m_becomes_row x1 x2 x3
  have eb2 := eb 102 (by decide) (by decide) (by decide)
  exact ⟨m_ok_bec hN hs hc2.2.1 hc2.2.2.1 (by rw [u8 8 (by decide)]; omega), hk0.bec hs (hc2.ok hk2) (hk'.in ha).1, hk2.mv (fun _ q => q) (fun _ _ => h_sm.rf) (fun _ _ _ => m_ra_of (fun x x1 x2 => eb x (by omega) (by omega) (by omega))) (by rw [eb2, u8 8 (by decide)]; exact Int.le_refl _), ⟨by rw [s_becI_ne (by omega), hJ1, eb2, u8 22 (by decide), e22], v_tb_0 (by rw [eb2, u8 22 (by decide), e22])⟩, by rw [s_becI_ne (by omega), hJ9, eb2, u9]; exact hv, hs2.bec hs hc2 ha, h7.mv hF ((s_becI_ne (by omega)).trans (hJ 0 11 (by omega) (by omega))) (fun i => s_becP_ne (by omega) (by omega)) (by rw [eb 116 (by decide) (by decide) (by decide), ur 116 (by decide), hrow 116 (by decide) (by decide)]), h8.fr h2 ((k_fp.of (fun a j q => hJ a j (by omega) (by omega)) (c_hs_ofr g1) (fun _ _ _ => rfl)).to (fun _ _ q => s_becI_fp q) (fun _ _ q => s_becP_fp q)) ((r_fp.of hrow e20).up (by decide)).bec⟩
end
