/-! ===== a method from its entry (own text) ===== -/
theorem ab_chn_from {n : Nat} : ∀ (L : List ab_E) (p0 pc : Nat), ab_chn n p0 L = true → ab_chn n pc (ab_from pc L) = true
  | [], _, _, _ => rfl
  | (mk0, pc', ins, len, a1, a2, sw) :: t, p0, pc, h => by
    unfold ab_chn at h
    simp only [Bool.and_eq_true, decide_eq_true_eq, Nat.beq_eq] at h
    obtain ⟨⟨⟨rfl, h1⟩, h2⟩, h3⟩ := h
    unfold ab_from
    split
    next hb =>
      have hb' : pc' = pc := Nat.eq_of_beq_eq_true hb
      subst hb'
      unfold ab_chn
      simp only [Bool.and_eq_true, decide_eq_true_eq, Nat.beq_eq]
      exact ⟨⟨⟨trivial, h1⟩, h2⟩, h3⟩
    next => exact ab_chn_from t _ _ h3
theorem ab_loc_sd {b0 b : Nat} : ∀ (args : List ab_V) (i : Nat) (K : ab_L → Prop), ab_loc i args K → ∃ lx, K lx ∧ ab_pl b0 b lx = lv_args i (args.map (ab_pv b0 b))
  | [], _, _, h => ⟨[], h, rfl⟩
  | v :: t, i, K, h => by
    obtain ⟨lx, h1, h2⟩ := ab_loc_sd t (i + ab_cat v) (fun lx => K ((i, v) :: lx)) h
    refine ⟨_, h1, ?_⟩
    have h3 : (if (ab_pv b0 b v).category = 2 then i + 2 else i + 1) = i + ab_cat v := by
      rw [ab_pv_cat]
      match v with
      | .inl x => rfl
      | .inr (.inl x) => rfl
      | .inr (.inr x) => rfl
    show (i, ab_pv b0 b v) :: ab_pl b0 b lx = (i, ab_pv b0 b v) :: lv_args _ _
    rw [h3, h2]
theorem ab_sl_len {b0 b : Nat} (args : List ab_V) : (lg_sl (args.map (ab_pv b0 b))).length = ab_cats args := by
  induction args with
  | nil => rfl
  | cons v t ih =>
    rw [List.map_cons]
    unfold lg_sl at ih ⊢
    rw [List.flatMap_cons, List.length_append, ih, ab_pv_cat]
    match v with
    | .inl x => rfl
    | .inr (.inl x) => rfl
    | .inr (.inr x) => rfl
theorem ab_wds_from {n : Nat} : ∀ (L : List ab_E) (pc : Nat), (∀ w ∈ ab_wds n L, w ∈ lw_tbl) → ∀ w ∈ ab_wds n (ab_from pc L), w ∈ lw_tbl
  | [], _, h => h
  | (mk0, pc', ins, len, a1, a2, sw) :: t, pc, h => by
    unfold ab_from
    split
    next => exact h
    next => exact ab_wds_from t pc (fun w hw => h w (List.mem_append_right _ hw))
/-- the list of a method is its code, and its words are there -/
def ab_ok (n : Nat) : Prop := ab_chn n 0 (ab_kd n) = true ∧ ∀ w ∈ ab_wds n (ab_kd n), w ∈ lw_tbl
/-- one walk from a place of a method -/
theorem ab_run {d n : Nat} {Q : ab_Q} {pc : Nat} {ls : ab_L} {st : List ab_V} {h : ab_H} (hA : ab_okA) (hok : ab_ok n) (hgo : ab_go (ab_CT d) Q (ab_WB (d + 1) n Q) (ab_from pc (ab_kd n)) ls st h) : ab_WB (d + 1) n Q pc ls st h := by
  intro p l e s m args below meth c D cT b0 b L xs n0 s0 hd C0
  exact ab_go_sd C0 hd hA rfl (fun pc ls st h hX => hX p l e s m args below meth c D cT b0 b L xs n0 s0 hd C0) _ pc ls st h (ab_chn_from _ _ _ hok.1) (ab_wds_from _ _ hok.2) hgo
theorem ab_enter {d n : Nat} {Q : ab_Q} {args : List ab_V} {h : ab_H} (hx : plainFor (ab_nm n) = true) (hlen : ab_cats args ≤ ab_ml n) (hgo : ab_loc 0 args (fun lx => ab_WB d n Q 0 lx [] h)) : ab_CT d n args h Q := by
  intro hd l D cT b0 b L xs
  obtain ⟨lx, hw, hlx⟩ := ab_loc_sd (b0 := b0) (b := b) args 0 _ hgo
  refine MetFree.of_bodySF (code := ab_bt n) (maxLocals := ab_ml n) (ret := ab_rt n) hx ?_ ?_
  · intro av s m hp hn
    obtain ⟨meth, c, h1, h2, h3, h4, h5, h6, -, -⟩ := Cond.code_spec hn (atoms_spec (ws := [Jvm.Cond.code (ab_nm n) (ab_bt n) (ab_ml n) (ab_rt n)]) hp _ List.mem_cons_self)
    exact ⟨meth, c, h1, h2, h3, h4, h5, h6⟩
  · intro p e s m av below meth c s₁ B hml hP _
    obtain ⟨rfl, hKV, hR, hb, hX⟩ := hP
    have C0 : ab_Cx p s m meth c n D cT b0 b L xs h.2.1 := ⟨B.exec, B.bytes, B.returns, hml, findClass_of_methodNamed B.named, hKV, B.notSynchronized, (name_of_methodNamed B.named B.method).1, hR.1, hb, hX⟩
    have hl := lv_entry (args.map (ab_pv b0 b)) (n := ab_ml n) (by rw [ab_sl_len]; exact hlen)
    rw [← hlx] at hl
    have K := hw p l e s m (args.map (ab_pv b0 b)).toArray below meth c D cT b0 b L xs h.2.1 h.2.2 hd C0 s.heap [] _ hl hR va_S.rf (Nat.le_refl _) (Nat.le_refl _)
    rw [Nat.sub_self, Nat.sub_self] at K
    have K2 : W p l e (ab_room d h.2.1 h.2.2) s m (args.map (ab_pv b0 b)).toArray below meth c s₁.heap [] 0 0 (ab_En below (args.map (ab_pv b0 b)).toArray s Q D cT b0 b L xs h.2.1 h.2.2) (entryFrame m (args.map (ab_pv b0 b)).toArray (ab_ml n)) := by
      have hh0 : s₁.heap = s.heap := by rw [B.state]; rfl
      rw [hh0, lg_entry_eq]
      exact K
    obtain ⟨t, a1, mc, ms, o, g1, g2, g3, Lc, g4, g5⟩ := K2 s₁ rfl (Stand.of_body B)
    exact ⟨t, o, a1, g1, g2, mc, ms, Lc, g4, g5, g3⟩
/-- what is asked may be weakened -/
theorem ab_CT_mono {d n : Nat} {Q Q' : ab_Q} {args : List ab_V} {h : ab_H} (hq : ∀ r h', Q r h' → Q' r h') (hM : ab_CT d n args h Q) : ab_CT d n args h Q' := by
  intro hd l D cT b0 b L xs p e h1 h2 h3 s m av below hf happ hP hk
  obtain ⟨k, o, g1, g2, g3, mc, ms, Lc, g4, g5, r, h', g6, g7, g8, g9, g10, g11⟩ := hM hd l D cT b0 b L xs p e h1 h2 h3 s m av below hf happ hP hk
  exact ⟨k, o, g1, g2, g3, mc, ms, Lc, g4, g5, r, h', g6, g7, g8, g9, hq _ _ g10, g11⟩
/-- all that lies beyond what has been made is blank -/
theorem ab_WB_fresh {d n : Nat} {Q : ab_Q} {pc : Nat} {ls : ab_L} {st : List ab_V} {h : ab_H} (k : (∀ a, h.2.1 ≤ a → a ≠ ab_scr → h.1 a = ab_ob 999 []) → ab_WB d n Q pc ls st h) : ab_WB d n Q pc ls st h := by
  intro p l e s m args below meth c D cT b0 b L xs n0 s0 hd C0 H locs lsA hl hR
  exact k hR.2.2.2.2.1 p l e s m args below meth c D cT b0 b L xs n0 s0 hd C0 H locs lsA hl hR
