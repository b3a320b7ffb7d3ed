/-! ===== the law's numbers (own text) ===== -/
def lq (P : wd_P) (j : Nat) : Nat := (P (18 + 5 * j) 2).getD 0
def lp (P : wd_P) (j : Nat) : Nat := (P 8 j).getD 0
noncomputable def l_bf (g : Nat → ab_C) (P : wd_P) : Nat → Int64
  | 0 => Int64.ofInt 7
  | j + 1 => w_M * l_bf g P j + c_wor g (lq P j) (lp P 7) (lp P 6)
noncomputable def l_al (g : Nat → ab_C) (P : wd_P) : Nat → Int64
  | 0 => Int64.ofNat 0
  | j + 1 => l_al g P j + v_look g (c_fs41 g (lp P 7) (lq P j)) 0 2
def l_ct (g : Nat → ab_C) (P : wd_P) (d0 : Int64) : Nat → Int64
  | 0 => d0
  | j + 1 => w_M * l_ct g P d0 j + (ab_ii (p_n g (lp P j) : Int)).toInt64
section
variable {d : Nat} {T : Nat → Prop} {I I' : wd_I} {P P' : wd_P} {g g' : Nat → ab_C} {k k' z z' n : Nat} {Q : ab_Q}
theorem lq_at (h : k_ok T I P g k) {j : Nat} (hj : j < 12) : P (18 + 5 * j) 2 = some (lq P j) ∧ T (lq P j) := by
  obtain ⟨a, ha, hT⟩ := h.shT j hj
  unfold lq
  rw [ha]
  exact ⟨rfl, hT⟩
theorem lp_at (h : k_ok T I P g k) {j : Nat} (hj : j < 8) : P 8 j = some (lp P j) ∧ p_wf g k (lp P j) := by
  obtain ⟨a, ha, hT⟩ := h.2.2.2.2.1 j hj
  unfold lp
  rw [ha]
  exact ⟨rfl, hT⟩
/-- the shelves and the paths are as they were -/
def l_sm (P P' : wd_P) : Prop := (∀ j, j < 12 → P' (18 + 5 * j) 2 = P (18 + 5 * j) 2) ∧ ∀ j, j < 8 → P' 8 j = P 8 j
theorem l_smq (h : l_sm P P') {j : Nat} (hj : j < 12) : lq P' j = lq P j := by unfold lq; rw [h.1 j hj]
theorem l_smp (h : l_sm P P') {j : Nat} (hj : j < 8) : lp P' j = lp P j := by unfold lp; rw [h.2 j hj]
theorem l_sm.of_qt (hq : k_qt I P I' P') : l_sm P P' := ⟨fun j _ => hq.sh j, fun j _ => hq.pa j⟩
theorem l_bf_eq (h : k_ok T I P g k) (hx : c_ofr k g g') (hk : k ≤ k') (hs : l_sm P P') : ∀ j, j ≤ 12 → l_bf g' P' j = l_bf g P j
  | 0, _ => rfl
  | j + 1, hj => by
    have e := e_wor h.1 hx hk (lq_at h (j := j) (by omega)).2 (lp_at h (j := 7) (by omega)).2 (lp_at h (j := 6) (by omega)).2
    show w_M * l_bf g' P' j + c_wor g' (lq P' j) (lp P' 7) (lp P' 6) = _
    rw [l_smq hs (by omega), l_smp hs (by omega), l_smp hs (by omega), e, l_bf_eq h hx hk hs j (by omega)]
    rfl
theorem l_al_eq (h : k_ok T I P g k) (hx : c_ofr k g g') (hk : k ≤ k') (hs : l_sm P P') : ∀ j, j ≤ 12 → l_al g' P' j = l_al g P j
  | 0, _ => rfl
  | j + 1, hj => by
    have ha := (lq_at h (j := j) (by omega)).2
    have h7 := (lp_at h (j := 7) (by omega)).2
    show l_al g' P' j + v_look g' (c_fs41 g' (lp P' 7) (lq P' j)) 0 2 = _
    rw [l_smq hs (by omega), l_smp hs (by omega), e_fs41 h.1 hx hk h7 ha, e_look h.1 hx hk (fun i hi => c_fs41_T h.1 ha hi), l_al_eq h hx hk hs j (by omega)]
    rfl
theorem l_ct_eq (h : k_ok T I P g k) (hx : c_ofr k g g') (hk : k ≤ k') (hs : l_sm P P') {d0 : Int64} : ∀ j, j ≤ 8 → l_ct g' P' d0 j = l_ct g P d0 j
  | 0, _ => rfl
  | j + 1, hj => by
    have hw := (lp_at h (j := j) (by omega)).2
    show w_M * l_ct g' P' d0 j + (ab_ii (p_n g' (lp P' j) : Int)).toInt64 = _
    rw [l_smp hs (by omega), (p_wf_xt hw hx hk).2.1, l_ct_eq h hx hk hs j (by omega)]
    rfl
theorem l_fs7 {a b : Nat} (h : p_n g b = 0) : c_fs41 g b a = [a] := by
  unfold c_fs41
  have e : c_fo g b 41 a 0 = [a] := by
    unfold c_fo
    rw [if_pos (by omega)]
  rw [e]
  rfl
theorem l_lk {a : Nat} : v_look g [a] 0 2 = (c_i g a 2).toInt64 := by
  unfold v_look
  rw [if_pos (show 0 < [a].length from Nat.zero_lt_one)]
  show c_look g a 2 = _
  unfold c_look
  rw [if_neg (by decide), if_neg (by decide), if_pos rfl]
theorem l_ad {x y : Int32} (h : -2147483648 ≤ x.toInt + y.toInt ∧ x.toInt + y.toInt < 2147483648) : (ab_ii (x.toInt + y.toInt)).toInt64 = x.toInt64 + y.toInt64 := by
  apply Int64.toInt_inj.mp
  rw [Int32.toInt_toInt64, ab_tI h.1 h.2, Int64.toInt_add, Int32.toInt_toInt64, Int32.toInt_toInt64]
  rw [Int.bmod_eq_of_le] <;> omega
theorem l_an (hE : k_E P g) (hnx : l_nx P g) : ∀ j, j ≤ 12 → (0 ≤ (c_an g P j).toInt ∧ (c_an g P j).toInt ≤ 200 * (j : Int)) ∧ (c_an g P j).toInt64 = l_al g P j
  | 0, _ => ⟨⟨show (0 : Int) ≤ (ab_ii 0).toInt by decide, show (ab_ii 0).toInt ≤ 200 * ((0 : Nat) : Int) by decide⟩, show (ab_ii 0).toInt64 = Int64.ofNat 0 by decide⟩
  | j + 1, hj => by
    obtain ⟨⟨i1, i2⟩, i3⟩ := l_an hE hnx j (by omega)
    obtain ⟨b, hb, hn⟩ := hnx
    obtain ⟨a, ha, hEa, ha2⟩ := hE j (by omega)
    have h1 := hEa.ex.1
    have e1 : c_an g P (j + 1) = ab_ii ((c_an g P j).toInt + (c_i g a 2).toInt) := by
      show ab_ii ((c_an g P j).toInt + (c_i g ((P (18 + 5 * j) 2).getD 0) 2).toInt) = _
      rw [ha]
      rfl
    have e2 : l_al g P (j + 1) = l_al g P j + (c_i g a 2).toInt64 := by
      show l_al g P j + v_look g (c_fs41 g ((P 8 7).getD 0) ((P (18 + 5 * j) 2).getD 0)) 0 2 = _
      rw [ha, hb]
      show l_al g P j + v_look g (c_fs41 g b a) 0 2 = _
      rw [l_fs7 hn, l_lk]
    rw [e1, e2]
    refine ⟨?_, ?_⟩
    · rw [ab_tI (by omega) (by omega)]
      omega
    · rw [l_ad (by omega), i3]
theorem l_ask {a b a1 b1 : Nat} {r1 r2 r3 r4 r5 : Int32} (hE : c_EE g a) (hn : (c_i g a 2).toInt ≤ 200) : c_fold g (c_fs41 g b a) 1 + r1.toInt64 + r2.toInt64 + r3.toInt64 + r4.toInt64 + v_look g (c_fs41 g b a) 0 0 + r5.toInt64 ≠ Int64.ofInt 123456789012345 := by
  have h200 : (c_fs41 g b a).length ≤ 200 := by
    unfold c_fs41
    rw [List.length_take]
    exact Nat.min_le_left _ _
  have hf := c_fsum_b (g := g) (l := c_fs41 g b a) (fun j hj => c_fs41_EE hE hn hj) _ (Nat.le_refl _) h200
  have ef : c_fold g (c_fs41 g b a) 1 = c_fsum g (c_fs41 g b a) (c_fs41 g b a).length := by
    unfold c_fold
    rw [if_neg (by decide), if_pos rfl]
  rw [ef]
  generalize c_fsum g (c_fs41 g b a) (c_fs41 g b a).length = f at hf
  have hf1 : -85899345920000 ≤ f.toInt ∧ f.toInt ≤ 85899345920000 := by omega
  have g1 := i64_add hf1 (i64_32 (a := r1)) (by omega)
  have g2 := i64_add g1 (i64_32 (a := r2)) (by omega)
  have g3 := i64_add g2 (i64_32 (a := r3)) (by omega)
  have g4 := i64_add g3 (i64_32 (a := r4)) (by omega)
  generalize f + r1.toInt64 + r2.toInt64 + r3.toInt64 + r4.toInt64 = S at g4
  intro e
  have hv : (-2147483648 ≤ (v_look g (c_fs41 g b a) 0 0).toInt ∧ (v_look g (c_fs41 g b a) 0 0).toInt ≤ 2147483648) ∨ v_look g (c_fs41 g b a) 0 0 = c_NO := by
    unfold v_look
    split
    · left
      unfold c_look
      rw [if_pos rfl]
      exact i64_32
    · exact Or.inr rfl
  have hc : (Int64.ofInt 123456789012345).toInt = 123456789012345 := by decide
  rcases hv with hv | hv
  · generalize v_look g (c_fs41 g b a) 0 0 = v at hv e
    have g5 := i64_add g4 hv (by omega)
    have g6 := i64_add g5 (i64_32 (a := r5)) (by omega)
    rw [e, hc] at g6
    omega
  · rw [hv] at e
    have e2 : S + r5.toInt64 = Int64.ofInt 123456789012345 + c_NO := by
      rw [← e]
      have e3 : c_NO + c_NO = 0 := by decide
      calc S + r5.toInt64 = S + r5.toInt64 + 0 := (Int64.add_zero _).symm
        _ = S + r5.toInt64 + (c_NO + c_NO) := by rw [e3]
        _ = S + c_NO + r5.toInt64 + c_NO := by
          rw [Int64.add_assoc S c_NO, Int64.add_comm c_NO r5.toInt64, ← Int64.add_assoc S, Int64.add_assoc (S + r5.toInt64)]
    have g5 := i64_add g4 (i64_32 (a := r5)) (by omega)
    have h9 : (Int64.ofInt 123456789012345 + c_NO).toInt = -9223248580065763463 := by decide
    rw [e2, h9] at g5
    omega
theorem i_lcmpE {C : ab_F} {Q : ab_Q} {X : ab_J} {L : List ab_E} {ls : ab_L} {st : List ab_V} {h : ab_H} {x y : Int64} (e : x = y) (hgo : ab_go C Q X L ls (.inl (ab_ii 0) :: st) h) : (y < x → ab_go C Q X L ls (.inl (ab_ii 1) :: st) h) ∧ (x = y → ab_go C Q X L ls (.inl (ab_ii 0) :: st) h) ∧ (x < y → ab_go C Q X L ls (.inl (ab_ii (-1)) :: st) h) := by
  subst e
  exact ⟨fun q => (Int64.lt_irrefl q).elim, fun _ => hgo, fun q => (Int64.lt_irrefl q).elim⟩
theorem i_lcmpN {C : ab_F} {Q : ab_Q} {X : ab_J} {L : List ab_E} {ls : ab_L} {st : List ab_V} {h : ab_H} {x y : Int64} (e : x ≠ y) (hgo : ∀ v : Int32, v.toInt ≠ 0 → ab_go C Q X L ls (.inl v :: st) h) : (y < x → ab_go C Q X L ls (.inl (ab_ii 1) :: st) h) ∧ (x = y → ab_go C Q X L ls (.inl (ab_ii 0) :: st) h) ∧ (x < y → ab_go C Q X L ls (.inl (ab_ii (-1)) :: st) h) := ⟨fun _ => hgo _ (by decide), fun q => absurd q e, fun _ => hgo _ (by decide)⟩
/-! image, back -/
theorem lw_image (hd : 5 ≤ d) (h : lw (n + 1) T I P g k z) (hQ : lw n T (c_imI I) (c_imP P) g k z → Q (some (.inl (c_an g (c_imP P) 12))) (wd (c_imI I) (c_imP P) lM g, k, z)) : ab_CT d 120 [wd_v 0] (wd I P lM g, k, z) Q := by
  obtain ⟨hk, hr, h204, hsp, hE⟩ := h
  refine y_image hd hk.1 hk.shT hk.2.2.2.2.1 (hQ ⟨?_, hr.le (by unfold c_imI; rw [wd_up_ne _ _ (by omega)]; exact Int.le_refl _) (by omega) (by omega), h204, hsp.wd, fun j hj => ?_⟩)
  · have hsh := hk.shT
    obtain ⟨h1, h2, h3, h4, h5, h6, h7⟩ := hk
    unfold c_imI
    refine ⟨h1, h2, by rw [wd_up_ne _ _ (by omega)]; exact h3, fun j hj => ?_, fun p hp => ?_, by rw [wd_up_ne _ _ (by omega)]; exact h6, fun _ => ⟨fun j hj => ?_, fun p hp => ?_⟩⟩
    · obtain ⟨c, hc⟩ := h4 j hj
      exact ⟨c, s_ok_eq hc (wd_up_ne _ _ (by omega)) (c_imP_sh hj) (fun i => by unfold c_imP; rw [c_iP_ne (by omega), c_iT_ne (by omega)])⟩
    · unfold c_imP; rw [c_iP_ne (by omega), c_iT_ne (by omega)]; exact h5 p hp
    · unfold c_imP; rw [c_iP_ne (by omega), c_iT_at 12 hj]; exact hsh j hj
    · unfold c_imP; rw [c_iP_at 8 hp, c_iT_ne (by omega)]; exact h5 p hp
  · rw [c_imP_sh hj]
    exact hE j hj
theorem lw_back (hd : 5 ≤ d) (h : lw (n + 1) T I P g k z) (hq : ¬ (I 0 11).toInt = 0) (hE : ∀ j, j < 12 → ∃ a, P 16 j = some a ∧ c_EE g a ∧ (c_i g a 2).toInt ≤ 200) (hQ : lw n T (c_bI I 12) (c_baP P) g k z → Q (some (.inl (c_an g (c_baP P) 12))) (wd (c_bI I 12) (c_baP P) lM g, k, z)) : ab_CT d 121 [wd_v 0] (wd I P lM g, k, z) Q := by
  obtain ⟨hk, hr, h204, hsp, -⟩ := h
  refine y_back hd hk.1 (fun q => absurd q hq) (fun q => hk.2.2.2.2.2.2 q) (fun q => hQ ⟨?_, hr.le (by rw [c_bI_ne (fun j hj => by omega) 12 (by omega)]; exact Int.le_refl _) (by omega) (by omega), h204, hsp.wd, fun j hj => ?_⟩)
  · obtain ⟨h1, h2, h3, h4, h5, h6, h7⟩ := hk
    obtain ⟨q1, q2⟩ := h7 q
    refine ⟨h1, h2, by rw [c_bI_ne (fun j hj => by omega) 12 (by omega)]; exact h3, fun j hj => ⟨0, c_bI_at 12 hj, by omega, ?_, fun i hi => absurd hi (Nat.not_lt_zero _)⟩, fun p hp => ?_, by rw [c_bI_ne (fun j hj => by omega) 12 (by omega)]; exact h6, fun _ => ⟨fun j hj => ?_, fun p hp => ?_⟩⟩
    · rw [c_baP_sh hj]; exact q1 j hj
    · unfold c_baP; rw [c_bP_at 8 hp, c_bT_ne (fun j hj => by omega) 12 (by omega)]; exact q2 p hp
    · unfold c_baP; rw [c_bP_ne (by omega), c_bT_ne (fun j hj => by omega) 12 (by omega)]; exact q1 j hj
    · unfold c_baP; rw [c_bP_ne (by omega), c_bT_ne (fun j hj => by omega) 12 (by omega)]; exact q2 p hp
  · rw [c_baP_sh hj]
    exact hE j hj
theorem l_imsm : l_sm P (c_imP P) := ⟨fun j hj => c_imP_sh hj, fun j _ => by unfold c_imP; rw [c_iP_ne (by omega), c_iT_ne (by omega)]⟩
theorem l_sm.tr {P'' : wd_P} (h : l_sm P P') (h' : l_sm P' P'') : l_sm P P'' := ⟨fun j hj => (h'.1 j hj).trans (h.1 j hj), fun j hj => (h'.2 j hj).trans (h.2 j hj)⟩
theorem l_im {I9 : wd_I} {P9 : wd_P} (h : lw n T I P g k z) (hnx : l_nx P g) (hq : k_qt I P I9 P9) : (c_an g (c_imP P9) 12).toInt64 = l_al g P 12 := by
  have hs : l_sm P (c_imP P9) := (l_sm.of_qt hq).tr l_imsm
  have hE : k_E (c_imP P9) g := fun j hj => by rw [hs.1 j hj]; exact h.2.2.2.2 j hj
  rw [(l_an hE (hnx.fr h.1 c_ofr.rf (Nat.le_refl _) (hs.2 7 (by omega))) 12 (Nat.le_refl _)).2]
  exact l_al_eq h.1 c_ofr.rf (Nat.le_refl _) hs 12 (Nat.le_refl _)
theorem l_bk {I9 I4 : wd_I} {P9 P4 : wd_P} {g4 : Nat → ab_C} {k4 : Nat} (h : lw n T I P g k z) (hnx : l_nx P g) (hq : k_qt I P I9 P9) (hf : lf (c_imI I9) (c_imP P9) g k I4 P4 g4 k4) : ¬ (I4 0 11).toInt = 0 ∧ (∀ j, j < 12 → ∃ a, P4 16 j = some a ∧ c_EE g4 a ∧ (c_i g4 a 2).toInt ≤ 200) ∧ (c_an g4 (c_baP P4) 12).toInt64 = l_al g P 12 ∧ l_sm P (c_baP P4) ∧ l_nx (c_baP P4) g4 := by
  obtain ⟨f1, f2, f3, f4⟩ := hf
  have hs0 := l_sm.of_qt hq
  have e16 : ∀ j, j < 12 → P4 16 j = P (18 + 5 * j) 2 := fun j hj => by
    rw [f3 16 j (Or.inl rfl)]
    unfold c_imP
    rw [c_iP_ne (by omega), c_iT_at 12 hj]
    exact hs0.1 j hj
  have e17 : ∀ j, j < 8 → P4 17 j = P 8 j := fun j hj => by
    rw [f3 17 j (Or.inr rfl)]
    unfold c_imP
    rw [c_iP_at 8 hj, c_iT_ne (by omega)]
    exact hs0.2 j hj
  have hs : l_sm P (c_baP P4) := ⟨fun j hj => (c_baP_sh hj).trans (e16 j hj), fun j hj => by
    unfold c_baP
    rw [c_bP_at 8 hj, c_bT_ne (fun j hj => by omega) 12 (by omega)]
    exact e17 j hj⟩
  have hE : ∀ j, j < 12 → ∃ a, P4 16 j = some a ∧ c_EE g4 a ∧ (c_i g4 a 2).toInt ≤ 200 := fun j hj => by
    obtain ⟨a, ha, hEa, h2⟩ := h.2.2.2.2 j hj
    obtain ⟨a', ha', hT⟩ := h.1.shT j hj
    have e : a' = a := Option.some.inj (ha'.symm.trans ha)
    subst e
    have hv := c_vw_xt h.1.1 f2 f1
    refine ⟨a', (e16 j hj).trans ha, c_EE_vw h.1.1 hv hT hEa, ?_⟩
    rw [(hv a' hT).1 2]
    exact h2
  have hn4 : l_nx (c_baP P4) g4 := hnx.fr h.1 f2 f1 (hs.2 7 (by omega))
  refine ⟨?_, hE, ?_, hs, hn4⟩
  · rw [f4]
    unfold c_imI
    rw [wd_up_self]
    decide
  · have hE4 : k_E (c_baP P4) g4 := fun j hj => by rw [c_baP_sh hj]; exact hE j hj
    rw [(l_an hE4 hn4 12 (Nat.le_refl _)).2]
    exact l_al_eq h.1 f2 f1 hs 12 (Nat.le_refl _)
end
