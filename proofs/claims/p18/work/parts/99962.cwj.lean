/-! ===== both objects: join, feed alike (own text) ===== -/
section
variable {F : Nat → Int32 → Prop} {T : Nat → Prop} {I I' : wd_I} {P P' : wd_P} {M M' : wd_I} {g : Nat → ab_C} {k z n d : Nat} {Q : ab_Q}
theorem hc_join (hd : 4 ≤ d) (h : w_In F T I P M g k) (hr : k_rm (n + 1) I k z) {p o : Int32} (hQ : w_res 160 3 [wd_v 102, .inl p, .inl o] n M Q) : ab_CT d 107 [wd_v 0, .inl p, .inl o] (wd I P M g, k, z) Q := by
  have hr0 : k_rm n I k z := hr.le (Int.le_refl _) (Nat.le_add_right _ _) (Nat.le_add_right _ _)
  have hrb := hr.b h.2.1.2.2.1.2
  obtain ⟨a, ha⟩ := h.pa p
  obtain ⟨b, hb⟩ := h.pa o
  have hall : (0 ≤ p.toInt ∧ p.toInt ≤ 7 ∧ 0 ≤ o.toInt ∧ o.toInt ≤ 7) ↔ (c_pp p ∧ c_pp o) := by unfold c_pp; omega
  have hpn : ∀ (q : Int32) (x : Nat), h_pt g M 113 114 115 x q.toInt.toNat → M 115 q.toInt.toNat = ab_ii (p_n g x : Int) := fun q x hx => by rw [hx.1]; exact (ab_ii_toInt _).symm
  refine y_join hd h.2.1.2.1 (fun e => ?_) (fun e => (ha e).1) (fun e => (hb e).1) ⟨by omega, by omega⟩ (fun e1 e2 e3 => ?_) (fun e1 e2 e3 => ?_)
  · exact hQ _ F T _ _ _ _ _ (w_ref_bad h (fun d Q hd hq => x_join_b hd (fun q => e (hall.mp q)) hq)) hr0
  · have pa := (ha e1).2
    have pb := (hb e2).2
    exact hQ _ F T _ _ _ _ _ (w_ref_bad h (fun d Q hd hq => x_join hd (hpn p a pa) (hpn o b pb) pa.2.1 pb.2.1 (fun q => absurd (hall.mpr ⟨e1, e2⟩) q) (fun _ _ => hq) (fun _ q => by exfalso; omega))) hr0
  · have pa := (ha e1).2
    have pb := (hb e2).2
    refine hQ _ F T _ _ _ _ _ (fun d Q hd hq => x_join hd (hpn p a pa) (hpn o b pb) pa.2.1 pb.2.1 (fun q => absurd (hall.mpr ⟨e1, e2⟩) q) (fun _ q => by exfalso; omega) (fun _ _ => ?_)) (hr.le (Int.le_refl _) (by omega) (by omega))
    have hp8 : p.toInt.toNat < 8 := by unfold c_pp at e1; omega
    have ho8 : o.toInt.toNat < 8 := by unfold c_pp at e2; omega
    refine hq _ ?_
    obtain ⟨h1, h2, h3, h4, h5, h6, h7, h8⟩ := h
    have er : ∀ x, x ≠ 113 → x ≠ 114 → x ≠ 115 → m_joins M p.toInt.toNat o.toInt.toNat (p_n g a) (p_n g b) x = M x := fun x x1 x2 x3 => m_joins_row x1 x2 x3 _
    have e102 := er 102 (by decide) (by decide) (by decide)
    exact ⟨m_ok_joins h1 hp8 (hpn p a pa) e3, h2.pset c_mkp_of (by omega) (c_mkp_wf h2.2.1 e3).1 (fun _ _ _ => rfl) h2.2.2.2.2.2.1, h3.mv (fun _ q => q) (fun x hx => h_sm_wf (c_wf_xt (k' := k + 3) (h2.1 x hx) c_mkp_of (by omega))) (fun _ _ _ => m_ra_of (fun x x1 x2 => er x (by omega) (by omega) (by omega))) (by rw [e102]; exact Int.le_refl _), h4.fr (fun _ => ⟨rfl, rfl⟩) ⟨by rw [e102], er 120 (by decide) (by decide) (by decide)⟩, by rw [e102]; exact h5, h6.mv (fun _ _ q => q) (fun s hs => ⟨rfl, wd_up_ne _ _ (by omega), fun i => wd_up_ne _ _ (by omega)⟩) (fun x x1 x2 => er x (by omega) (by omega) (by omega)), h7.mv (fun _ _ q => q) rfl (fun i => wd_up_ne _ _ (by omega)) (er 116 (by decide) (by decide) (by decide)), h8.jn h2 hp8 ho8 (ha e1).1.1 (hb e2).1.1 e3⟩
theorem k_ok_fed2 {c j : Nat} {w : Int32} (h : k_ok T I P g k) (hn : I 1 1 = ab_ii (c : Int)) (hj : c + j ≤ 100) : k_ok T (c_fed I w c j) P g k := h.fr h.1 (fun _ q => q) c_ofr.rf (Nat.le_refl _) (k_sm_of (fun a i q => c_fed_ne (by omega) (by omega) j) (fun _ _ _ => rfl)) (by rw [c_fed_ne (by omega) (by omega) j]; exact h.2.2.1) ⟨c + j, c_fed_n hn j, hj⟩
theorem v_fed_row {w : Int32} {c a : Nat} (h1 : a ≠ 102) (h2 : a ≠ 120) : ∀ j, m_fed M w c j a = M a
  | 0 => rfl
  | j + 1 => by
    unfold m_fed
    rw [wd_up_row _ _ _ h1, wd_up_row _ _ _ h2, v_fed_row h1 h2 j]
theorem v_fed_102 {w : Int32} {c i : Nat} (h1 : i ≠ 22) : ∀ j, m_fed M w c j 102 i = M 102 i
  | 0 => rfl
  | j + 1 => by
    unfold m_fed
    rw [wd_up_ne _ _ (Or.inr h1), wd_up_row _ _ _ (by decide), v_fed_102 h1 j]
theorem hc_feed (hd : 3 ≤ d) (h : w_In F T I P M g k) (hr : k_rm (n + 1) I k z) {a w : Int32} (hQ : w_res 142 2 [wd_v 102, .inl a, .inl w] n M Q) : ab_CT d 104 [wd_v 0, .inl a, .inl w] (wd I P M g, k, z) Q := by
  have hr0 : k_rm n I k z := hr.le (Int.le_refl _) (Nat.le_add_right _ _) (Nat.le_add_right _ _)
  obtain ⟨c, hc, hc1⟩ := h.2.1.2.2.2.2.2.1
  have hm : M 102 22 = ab_ii (c : Int) := h.2.2.2.1.1.symm.trans hc
  refine y_feed hd hc hc1 (fun e => ?_) (fun e1 e2 e3 => ?_) (fun e1 e2 e3 => ?_)
  · exact hQ _ F T _ _ _ _ _ (w_ref_bad h (fun d Q hd hq => x_feed hd hm hc1 (fun _ => hq) (fun q1 q2 q3 => by exfalso; omega) (fun q1 q2 q3 => by exfalso; omega))) hr0
  · exact hQ _ F T _ _ _ _ _ (w_ref_bad h (fun d Q hd hq => x_feed hd hm hc1 (fun q => by exfalso; omega) (fun _ _ _ => hq) (fun q1 q2 q3 => by exfalso; omega))) hr0
  · have hj : c + a.toInt.toNat ≤ 100 := by omega
    have hne : ∀ x i, x ≠ 2 → ¬ (x = 1 ∧ i = 1) → c_fed I w c a.toInt.toNat x i = I x i := fun x i q1 q2 => c_fed_ne q1 q2 _
    refine hQ _ F T _ _ _ _ _ (fun d Q hd hq => x_feed hd hm hc1 (fun q => by exfalso; omega) (fun q1 q2 q3 => by exfalso; omega) (fun _ _ _ => hq _ ?_)) (hr.le (by rw [hne 9 0 (by omega) (by omega)]; exact Int.le_refl _) (Nat.le_add_right _ _) (Nat.le_add_right _ _))
    obtain ⟨h1, h2, h3, h4, h5, h6, h7, h8⟩ := h
    have er : ∀ x, x ≠ 102 → x ≠ 120 → m_fed M w c a.toInt.toNat x = M x := fun x x1 x2 => v_fed_row x1 x2 _
    have htb := v_tb.fed (I := I) (M := M) (w := w) (c := c) (j := a.toInt.toNat) h4.2 hm hj (by omega)
    have en : ∀ i, i ≠ 22 → m_fed M w c a.toInt.toNat 102 i = M 102 i := fun i hi => v_fed_102 hi _
    refine ⟨m_ok_fed h1 hm hj, k_ok_fed2 h2 hc hj, h3.mv (fun _ q => q) (fun _ _ => h_sm.rf) (fun _ _ _ => m_ra_of (fun x x1 x2 => er x (by omega) (by omega))) (by rw [en 8 (by decide)]; exact Int.le_refl _), ⟨by rw [c_fed_n hc, m_fed_n hm]; congr 1, htb⟩, by rw [en 9 (by decide), hne 9 0 (by omega) (by omega)]; exact h5, h6.mv (fun _ _ q => q) (fun s hs => ⟨hne _ _ (by omega) (by omega), rfl, fun _ => rfl⟩) (fun x x1 x2 => er x (by omega) (by omega)), h7.mv (fun _ _ q => q) (hne 0 11 (by omega) (by omega)) (fun _ => rfl) (er 116 (by decide) (by decide)), ?_⟩
    obtain ⟨u1, u2, u3⟩ := h8
    have e0 := hne 0 11 (by omega) (by omega)
    refine ⟨u1.fr h2.2.2.2.2.1 c_ofr.rf (fun _ _ => rfl) (fun i _ => by rw [er 113 (by decide) (by decide)]) (fun i _ => by rw [er 114 (by decide) (by decide)]) (fun i _ => by rw [er 115 (by decide) (by decide)]), by rw [e0, en 20 (by decide)]; exact u2, fun q => ?_⟩
    rw [e0] at q
    exact (u3 q).fr (h2.2.2.2.2.2.2 q).2 c_ofr.rf (fun _ _ => rfl) (fun i _ => by rw [er 117 (by decide) (by decide)]) (fun i _ => by rw [er 118 (by decide) (by decide)]) (fun i _ => by rw [er 119 (by decide) (by decide)])
end
