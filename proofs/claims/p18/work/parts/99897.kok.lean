/-! ===== the class: what holds between calls (own text) ===== -/
def k_ok (T : Nat → Prop) (I : wd_I) (P : wd_P) (g : Nat → ab_C) (k : Nat) : Prop := c_W T g k ∧ 125 ≤ k ∧ (0 ≤ (I 9 0).toInt ∧ (I 9 0).toInt ≤ 3000) ∧ (∀ j, j < 12 → ∃ c, s_ok T I P j c) ∧ c_paT g k (P 8) ∧ (∃ n : Nat, I 1 1 = ab_ii (n : Int) ∧ n ≤ 100) ∧ (¬ (I 0 11).toInt = 0 → c_keT T (P 16) ∧ c_paT g k (P 17))
/-- rows that a call leaves as they are -/
def k_sm (I : wd_I) (P : wd_P) (I' : wd_I) (P' : wd_P) : Prop := (∀ j, j < 12 → I' (18 + 5 * j) 1 = I (18 + 5 * j) 1 ∧ P' (18 + 5 * j) 2 = P (18 + 5 * j) 2 ∧ ∀ i, P' (22 + 5 * j) i = P (22 + 5 * j) i) ∧ (∀ i, P' 8 i = P 8 i) ∧ I' 0 11 = I 0 11 ∧ (∀ i, P' 16 i = P 16 i) ∧ ∀ i, P' 17 i = P 17 i
theorem k_sm.rf {I : wd_I} {P : wd_P} : k_sm I P I P := ⟨fun _ _ => ⟨rfl, rfl, fun _ => rfl⟩, fun _ => rfl, rfl, fun _ => rfl, fun _ => rfl⟩
theorem k_sm.tr {I I' I'' : wd_I} {P P' P'' : wd_P} (h : k_sm I P I' P') (h' : k_sm I' P' I'' P'') : k_sm I P I'' P'' := ⟨fun j hj => ⟨(h'.1 j hj).1.trans (h.1 j hj).1, (h'.1 j hj).2.1.trans (h.1 j hj).2.1, fun i => ((h'.1 j hj).2.2 i).trans ((h.1 j hj).2.2 i)⟩, fun i => (h'.2.1 i).trans (h.2.1 i), h'.2.2.1.trans h.2.2.1, fun i => (h'.2.2.2.1 i).trans (h.2.2.2.1 i), fun i => (h'.2.2.2.2 i).trans (h.2.2.2.2 i)⟩
theorem c_paT_xt {g g' : Nat → ab_C} {k k' : Nat} {F F' : Nat → Option Nat} (h : c_paT g k F) (hx : c_ofr k g g') (hk : k ≤ k') (he : ∀ i, F' i = F i) : c_paT g' k' F' := fun p hp => by
  obtain ⟨b, hb, hw⟩ := h p hp
  exact ⟨b, (he p).trans hb, (p_wf_xt hw hx hk).1⟩
theorem c_keT_mo {T T' : Nat → Prop} {F F' : Nat → Option Nat} (h : c_keT T F) (hT : ∀ b, T b → T' b) (he : ∀ i, F' i = F i) : c_keT T' F' := fun p hp => by
  obtain ⟨b, hb, hw⟩ := h p hp
  exact ⟨b, (he p).trans hb, hT b hw⟩
section
variable {T T' : Nat → Prop} {I I' : wd_I} {P P' : wd_P} {g g' : Nat → ab_C} {k k' : Nat}
theorem k_ok.fr (h : k_ok T I P g k) (hW : c_W T' g' k') (hT : ∀ b, T b → T' b) (hx : c_ofr k g g') (hk : k ≤ k') (hs : k_sm I P I' P') (h9 : 0 ≤ (I' 9 0).toInt ∧ (I' 9 0).toInt ≤ 3000) (ht : ∃ n : Nat, I' 1 1 = ab_ii (n : Int) ∧ n ≤ 100) : k_ok T' I' P' g' k' := by
  obtain ⟨h1, h2, h3, h4, h5, h6, h7⟩ := h
  obtain ⟨s1, s2, s3, s4, s5⟩ := hs
  refine ⟨hW, Nat.le_trans h2 hk, h9, fun j hj => ?_, c_paT_xt h5 hx hk s2, ht, fun q => ?_⟩
  · obtain ⟨c, hc⟩ := h4 j hj
    obtain ⟨a1, a2, a3⟩ := s1 j hj
    exact ⟨c, s_ok_eq (s_ok_mo hc hT) a1 a2 a3⟩
  · rw [s3] at q
    obtain ⟨b1, b2⟩ := h7 q
    exact ⟨c_keT_mo b1 hT s4, c_paT_xt b2 hx hk s5⟩
theorem k_ok.tp (h : k_ok T I P g k) : 0 ≤ (I 1 1).toInt ∧ (I 1 1).toInt ≤ 100 := by
  obtain ⟨n, hn, h1⟩ := h.2.2.2.2.2.1
  rw [hn, ab_tI (by omega) (by omega)]
  omega
theorem k_ok.held (h : k_ok T I P g k) {s : Int32} (hs : c_sh s) : ∃ a, P (18 + 5 * s.toInt.toNat) 2 = some a ∧ T a := by
  obtain ⟨c, hc⟩ := h.2.2.2.1 s.toInt.toNat (by unfold c_sh at hs; omega)
  exact hc.2.2.1
theorem k_ok.sok (h : k_ok T I P g k) {s : Int32} (hs : c_sh s) : ∃ c, s_ok T I P s.toInt.toNat c := h.2.2.2.1 s.toInt.toNat (by unfold c_sh at hs; omega)
theorem k_ok.pth (h : k_ok T I P g k) {p : Int32} (hp : c_pp p) : ∃ b, P 8 p.toInt.toNat = some b ∧ p_wf g k b := h.2.2.2.2.1 p.toInt.toNat (by unfold c_pp at hp; omega)
theorem k_ok.shT (h : k_ok T I P g k) : c_shT T P := fun j hj => by
  obtain ⟨c, hc⟩ := h.2.2.2.1 j hj
  exact hc.2.2.1
/-! a shelf becomes a thing -/
theorem s_becI_ne {s c a j : Nat} (h : ¬ (a = 18 + 5 * s ∧ j = 1)) : s_becI I s c a j = I a j := by
  unfold s_becI
  split
  · rw [wd_up_ne _ _ (by omega), wd_up_ne _ _ (by omega)]
  · rw [wd_up_ne _ _ (by omega)]
theorem s_becP_ne {s c x a j : Nat} (h1 : ¬ (a = 18 + 5 * s ∧ j = 2)) (h2 : a ≠ 22 + 5 * s) : s_becP P s c x a j = P a j := by
  unfold s_becP
  split
  · rw [wd_up_ne _ _ (by omega), wd_up_ne _ _ (by omega), s_shift_ne h2]
  · rw [wd_up_ne _ _ (by omega), wd_up_ne _ _ (by omega)]
theorem s_bec_ok {s c a : Nat} (h : s_ok T I P s c) (ha : T a) : s_ok T (s_becI I s c) (s_becP P s c a) s (if c = 10 then 10 else c + 1) := by
  obtain ⟨h1, h2, ⟨b, h3, h4⟩, h5⟩ := h
  unfold s_becI s_becP
  by_cases hc : c = 10
  · rw [if_pos hc, if_pos hc, if_pos hc]
    refine ⟨wd_up_self _ _ _ _, by omega, ⟨a, wd_up_self _ _ _ _, ha⟩, fun i hi => ?_⟩
    rw [wd_up_ne _ _ (by omega)]
    by_cases e : i = 9
    · subst e; rw [wd_up_self]; exact ⟨b, h3, h4⟩
    · rw [wd_up_ne _ _ (Or.inr e), s_shift_at, if_pos (by omega)]
      exact h5 (i + 1) (by omega)
  · rw [if_neg hc, if_neg hc, if_neg hc]
    refine ⟨(wd_up_self _ _ _ _).trans (by congr 1), by omega, ⟨a, wd_up_self _ _ _ _, ha⟩, fun i hi => ?_⟩
    rw [wd_up_ne _ _ (by omega)]
    by_cases e : i = c
    · subst e; rw [wd_up_self]; exact ⟨b, h3, h4⟩
    · rw [wd_up_ne _ _ (Or.inr e)]
      exact h5 i (by omega)
theorem k_ok.bec (h : k_ok T I P g k) {s c a : Nat} (hs : s < 12) (hc : s_ok T I P s c) (ha : T a) : k_ok T (s_becI I s c) (s_becP P s c a) g k := by
  obtain ⟨h1, h2, h3, h4, h5, h6, h7⟩ := h
  refine ⟨h1, h2, by rw [s_becI_ne (by omega)]; exact h3, fun j hj => ?_, fun p hp => ?_, by rw [s_becI_ne (by omega)]; exact h6, fun q => ?_⟩
  · by_cases e : j = s
    · subst e; exact ⟨_, s_bec_ok hc ha⟩
    · obtain ⟨c', hc'⟩ := h4 j hj
      exact ⟨c', s_ok_eq hc' (s_becI_ne (by omega)) (s_becP_ne (by omega) (by omega)) (fun i => s_becP_ne (by omega) (by omega))⟩
  · rw [s_becP_ne (by omega) (by omega)]; exact h5 p hp
  · rw [s_becI_ne (by omega)] at q
    obtain ⟨q1, q2⟩ := h7 q
    exact ⟨fun p hp => by rw [s_becP_ne (by omega) (by omega)]; exact q1 p hp, fun p hp => by rw [s_becP_ne (by omega) (by omega)]; exact q2 p hp⟩
end
/-! what is spent: no room is left -/
def c_sp (S : c_St) : Prop := (0 ≤ (S.1 9 0).toInt ∧ (S.1 9 0).toInt ≤ 3000) ∧ ((S.1 10 6).toInt = 0 ∨ (S.1 9 0).toInt = 3000)
theorem c_I1_sp {I : wd_I} {G G' : (Nat → ab_C) × Nat × Nat} (h : c_sp (I, G)) (hlt : (I 9 0).toInt < 3000) : c_sp (c_I1 I, G') := by
  obtain ⟨h1, h2⟩ := c_I1_9 (I := I) ⟨h.1.1, hlt⟩
  unfold c_sp at *
  dsimp only at *
  rw [h1, h2]
  omega
theorem c_I0_sp {I : wd_I} {G G' : (Nat → ab_C) × Nat × Nat} (h : c_sp (I, G)) (hlt : ¬ (I 9 0).toInt < 3000) : c_sp (c_I0 I, G') := by
  obtain ⟨h1, h2⟩ := c_I0_9 (I := I)
  unfold c_sp at *
  dsimp only at *
  rw [h1]
  omega
theorem c_mkA_sp {a q np : Nat} {fq : Nat → Option Nat} {S : c_St} (h : c_sp S) : c_sp (c_mkA a q np fq S).2 := by
  unfold c_mkA
  split
  · split
    next hlt => exact c_I1_sp h hlt
    next hlt => exact c_I0_sp h hlt
  · exact h
theorem c_mkN_sp {kd wo : Int32} {q np r : Nat} {fq : Nat → Option Nat} {S : c_St} (h : c_sp S) : c_sp (c_mkN kd wo q np fq r S).2 := by
  unfold c_mkN
  split
  · split
    next hlt => exact c_I1_sp h hlt
    next hlt => exact c_I0_sp h hlt
  · exact h
theorem c_fI_sp {I : wd_I} {G G' : (Nat → ab_C) × Nat × Nat} (h : c_sp (I, G)) : c_sp (c_fI I, G') := by
  obtain ⟨e1, e2, -⟩ := c_fI_9 (I := I)
  unfold c_sp at *
  dsimp only at *
  rw [e1, e2]
  exact h
theorem c_ordr_sp {S : c_St} {a : Nat} (h : c_sp S) : c_sp (c_ordr S a).2 := by
  unfold c_ordr
  split
  · exact c_mkA_sp h
  · split
    · exact c_mkA_sp h
    · split
      · exact c_mkA_sp h
      · exact h
theorem c_foc_sp {gv a : Nat} {S : c_St} (h : c_sp S) : c_sp (c_foc gv S a).2 := by
  obtain ⟨I, G⟩ := S
  have hf : c_sp (c_fI I, G) := c_fI_sp h
  have e9 : (c_fI I 9 0).toInt = (I 9 0).toInt := by rw [c_fI_9.1]
  unfold c_foc
  dsimp only
  split
  · split
    · split
      next hlt => exact c_I1_sp hf (by omega)
      next hlt => exact c_I0_sp hf (by omega)
    · exact hf
  · split
    · split
      next hlt => exact c_mkN_sp (c_I1_sp hf (by omega))
      next hlt => exact c_mkN_sp (c_I0_sp hf (by omega))
    · split
      · exact c_mkN_sp hf
      · split
        · exact c_mkN_sp hf
        · split
          · exact hf
          · exact c_ordr_sp hf
theorem c_chl_sp {F : Nat → c_St → Nat × c_St} {p i a : Nat} (hF : ∀ b S, c_sp S → c_sp (F b S).2) : ∀ (n j : Nat) (o : Option (Nat × (Nat → Option Nat))) (S : c_St), c_sp S → c_sp (c_chl F p i a n j o S).2
  | 0, j, none, S, h => h
  | 0, j, some (q, fq), S, h => c_mkA_sp h
  | n + 1, j, none, S, h => by
    have hf := hF (c_pt S.2.1 a j) S h
    unfold c_chl
    split
    · split
      · exact c_chl_sp hF n _ _ _ hf
      · exact c_chl_sp hF n _ _ _ hf
    · exact c_chl_sp hF n _ _ _ h
  | n + 1, j, some (q, fq), S, h => by
    have hf := hF (c_pt S.2.1 a j) S h
    unfold c_chl
    split
    · split
      · exact c_chl_sp hF n _ _ _ hf
      · exact c_chl_sp hF n _ _ _ hf
    · exact c_chl_sp hF n _ _ _ h
theorem c_chw_sp2 {gv p : Nat} : ∀ (f a i : Nat) (S : c_St), c_sp S → c_sp (c_chw gv p f a i S).2
  | 0, a, i, S, h => h
  | f + 1, a, i, S, h => by
    unfold c_chw
    split
    · split
      · exact c_foc_sp h
      · split
        · exact c_chw_sp2 f a (i + 1) S h
        · exact c_chl_sp (fun b S' h' => c_chw_sp2 f b _ S' h') _ _ _ _ h
    · exact h
theorem c_R_sp {gv p a : Nat} {how n : Int32} {S : c_St} (h0 : 0 ≤ (S.1 9 0).toInt ∧ (S.1 9 0).toInt ≤ 3000) : c_sp (c_R gv p a how n S).2 := by
  obtain ⟨e1, e2, e3, -⟩ := c_cI_e (I := S.1) (how := how) (n := n)
  refine c_chw_sp2 41 a 0 _ ⟨?_, Or.inl ?_⟩
  · dsimp only; rw [e1]; exact h0
  · dsimp only; rw [e3]; decide
/-- room for so many calls more -/
def k_rm (n : Nat) (I : wd_I) (k z : Nat) : Prop := (k : Int) + 8 * (3001 - (I 9 0).toInt) + 700 * n ≤ 600000 ∧ (z : Int) + 170 * (3001 - (I 9 0).toInt) + 7000 * n ≤ 7302250
theorem k_rm.ro {n : Nat} {I : wd_I} {g : Nat → ab_C} {k z : Nat} (h : k_rm (n + 1) I k z) : c_ro 82 (I, g, k, z) := by
  unfold k_rm at h
  unfold c_ro
  dsimp only
  omega
theorem k_rm.le {n : Nat} {I I' : wd_I} {k z k' z' : Nat} (h : k_rm (n + 1) I k z) (h9 : (I 9 0).toInt ≤ (I' 9 0).toInt) (hk : k' ≤ k + 700) (hz : z' ≤ z + 7000) : k_rm n I' k' z' := by
  unfold k_rm at *
  omega
theorem k_rm.b {n : Nat} {I : wd_I} {k z : Nat} (h : k_rm (n + 1) I k z) (h9 : (I 9 0).toInt ≤ 3000) : k + 700 ≤ 600000 ∧ z + 7000 ≤ 7302250 := by
  unfold k_rm at h
  omega
