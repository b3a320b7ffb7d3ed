/-! ===== rules: new cells, ends (own text) ===== -/
section AB4
variable {p : Program} {l : Launch} {e : Env} {s : State} {m : MethodId} {args : Array Value} {below : List Frame} {meth : Method} {c : Code} {n : Nat} {D : va_G} {cT : Nat → ClassId} {b0 b L : Nat} {xs : Nat → Int32} {n0 s0 d : Nat} {E : State → Prop} {pc : Nat} {ls : ab_L} {st : List ab_V} {h : ab_H} {H : Heap}
theorem ab_sc (h1 : n0 ≤ h.2.1) (h2 : s0 ≤ h.2.2) {k : Nat} (hc : h.2.1 < ab_CM) (hs : h.2.2 + k ≤ ab_SM) : (h.2.1 - n0) + 1 ≤ (ab_room d n0 s0).cells ∧ (h.2.2 - s0) + k ≤ (ab_room d n0 s0).slots := by
  have hc' : h.2.1 < 600000 := hc
  have hs' : h.2.2 + k ≤ 7302250 := hs
  show (h.2.1 - n0) + 1 ≤ 600000 - n0 ∧ (h.2.2 - s0) + k ≤ 7302250 - s0
  omega
theorem ab_scr_gt (hc : h.2.1 < ab_CM) : h.2.1 ≠ ab_scr := by
  have h9 : ab_CM < ab_scr := by decide
  omega
theorem ws_new (C0 : ab_Cx p s m meth c n D cT b0 b L xs n0) {ci N i : Nat} {q : vw_C} (hc : ab_cl[ci]? = some q) (hN : q.2.2 = N) (hw1 : Jvm.Cond.classLink (ab_nm n).cls i q.1 ∈ lw_tbl) (hw2 : Jvm.Cond.instantiable q.1 N ∈ lw_tbl) (hw3 : Jvm.Cond.initialized q.1 ∈ lw_tbl)
    (hdg : decode (ab_bt n) pc = .ok (.new i, 3)) (hr : h.2.1 < ab_CM ∧ h.2.2 + N ≤ ab_SM) (k : ab_WG p l e s m args below meth c n D cT b0 b L xs n0 s0 d E (pc + 3) ls (.inr (.inr (some h.2.1)) :: st) (ab_new h (ab_ob ci (ab_df ci)) N)) : ab_WG p l e s m args below meth c n D cT b0 b L xs n0 s0 d E pc ls st h := by
  intro H locs lsA hl hR hS h1 h2
  subst hN
  have hK := C0.2.2.2.2.2.1.2
  have hKn := hK.1 ci _ hc
  obtain ⟨r1, r2⟩ := ab_sc (d := d) h1 h2 hr.1 hr.2
  refine W.newcK C0.1 C0.2.1 C0.2.2.2.2.1 (ws_tw C0 hw1 rfl) (ws_tw C0 hw2 rfl) (ws_tw C0 hw3 rfl) rfl hdg r1 r2 hKn.2.1 hR.1 fun H1 kC hkC e1 z1 o1 => ?_
  have hat : va_at D ab_cl (b0 + h.2.1, ab_ce b0 b cT (ab_ob ci (ab_df ci))) H1 := ⟨_, hc, (u_born (ab_ty ci) (ws_tsC (args := args) C0 hc) (fun _ h => h) hKn hkC e1 (ab_tyC ci q hc)).to (ab_dfC (f := ab_pv b0 b) rfl rfl ci q hc)⟩
  have hk := k H1 locs lsA hl (ab_Rl_new hR hr.1 hr.2 trivial z1 (fun x hx => o1 x hx) hat) ⟨Nat.le_trans hS.1 (by rw [z1, hR.1]; omega), fun x h3 h4 => (o1 x (by rw [← hR.1]; exact Nat.lt_of_lt_of_le h3 hS.1)).trans (hS.2.1 x h3 h4), hS.2.2⟩ (Nat.le_succ_of_le h1) (Nat.le_trans h2 (Nat.le_add_right _ _))
  have e2 : (ab_new h (ab_ob ci (ab_df ci)) q.2.2).2.1 - n0 = h.2.1 - n0 + 1 := by show h.2.1 + 1 - n0 = _; omega
  have e3 : (ab_new h (ab_ob ci (ab_df ci)) q.2.2).2.2 - s0 = h.2.2 - s0 + q.2.2 := by show h.2.2 + q.2.2 - s0 = _; omega
  rw [e2, e3] at hk
  have e4 : ab_pv b0 b (.inr (.inr (some h.2.1))) = .ref (b0 + h.2.1) := ab_pv_ref (ab_scr_gt hr.1)
  rw [List.map_cons, e4] at hk
  exact hk
theorem ab_nat_i {x : Int32} (hx : 0 ≤ x.toInt) : ¬ x < 0 := fun hh => by
  have := Int32.lt_iff_toInt_lt.mp hh
  rw [ab_c0] at this
  omega
theorem ws_newarr (C0 : ab_Cx p s m meth c n D cT b0 b L xs n0) {ty : ArrayType} {t : Nat} {x : Int32} (ht : (t = 0 ∧ ty = .int) ∨ (t = 1 ∧ ty = .boolean)) (hw : Jvm.Cond.arrayClass (newarray.typeOf ty) ∈ lw_tbl)
    (hdg : decode (ab_bt n) pc = .ok (.newarray ty, 2)) (hr : 0 ≤ x.toInt ∧ h.2.1 < ab_CM ∧ h.2.2 + x.toInt.toNat ≤ ab_SM) (k : ab_WG p l e s m args below meth c n D cT b0 b L xs n0 s0 d E (pc + 2) ls (.inr (.inr (some h.2.1)) :: st) (ab_new h (ab_ia t x.toInt.toNat (fun _ => 0)) x.toInt.toNat)) : ab_WG p l e s m args below meth c n D cT b0 b L xs n0 s0 d E pc ls (.inl x :: st) h := by
  intro H locs lsA hl hR hS h1 h2
  have hK := C0.2.2.2.2.2.1.2
  obtain ⟨r1, r2⟩ := ab_sc (d := d) h1 h2 hr.2.1 hr.2.2
  have hlim : x.toInt.toNat ≤ 7302250 := Nat.le_trans (Nat.le_add_left _ _) hr.2.2
  have hcb : componentBytes (newarray.typeOf ty) ≤ 8 := by rcases ht with ⟨-, rfl⟩ | ⟨-, rfl⟩ <;> decide
  have hwb : (Jvm.Cond.arrayClass (newarray.typeOf ty)).before args s = true := C0.2.2.2.2.2.1.1 _ hw (by rcases ht with ⟨-, rfl⟩ | ⟨-, rfl⟩ <;> rfl)
  refine va_newaK (N := x.toInt.toNat) C0.1 C0.2.1 hwb rfl hdg rfl (ab_nat_i hr.1) rfl (by
    have := Nat.mul_le_mul hlim hcb
    omega) r1 r2 hR.1 fun H1 cA e1 z1 o1 hAr hNm => ?_
  have hcA : cA = cT t := by
    rcases ht with ⟨rfl, rfl⟩ | ⟨rfl, rfl⟩
    · exact Option.some.inj (hNm.symm.trans (hK.2 0 _ rfl).2)
    · exact Option.some.inj (hNm.symm.trans (hK.2 1 _ rfl).2)
  subst hcA
  have hat : va_at D ab_cl (b0 + h.2.1, ab_ce b0 b cT (ab_ia t x.toInt.toNat (fun _ => 0))) H1 := by
    show H1[b0 + h.2.1]? = some (vp_cell (cT t) (x.toInt.toNat, .inl (fun _ => 0)))
    rw [e1, vp_cell_i]
    rcases ht with ⟨-, rfl⟩ | ⟨-, rfl⟩ <;> rfl
  have hvt : ab_vt (ab_ia t x.toInt.toNat (fun _ => 0)) := by rcases ht with ⟨rfl, -⟩ | ⟨rfl, -⟩ <;> simp [ab_vt]
  have hk := k H1 locs lsA hl (ab_Rl_new hR hr.2.1 hr.2.2 hvt z1 (fun x hx => o1 x hx) hat) ⟨Nat.le_trans hS.1 (by rw [z1, hR.1]; omega), fun x h3 h4 => (o1 x (by rw [← hR.1]; exact Nat.lt_of_lt_of_le h3 hS.1)).trans (hS.2.1 x h3 h4), hS.2.2⟩ (Nat.le_succ_of_le h1) (Nat.le_trans h2 (Nat.le_add_right _ _))
  have e2 : (ab_new h (ab_ia t x.toInt.toNat (fun _ => 0)) x.toInt.toNat).2.1 - n0 = h.2.1 - n0 + 1 := by show h.2.1 + 1 - n0 = _; omega
  have e3 : (ab_new h (ab_ia t x.toInt.toNat (fun _ => 0)) x.toInt.toNat).2.2 - s0 = h.2.2 - s0 + x.toInt.toNat := by show h.2.2 + _ - s0 = _; omega
  rw [e2, e3] at hk
  have e4 : ab_pv b0 b (.inr (.inr (some h.2.1))) = .ref (b0 + h.2.1) := ab_pv_ref (ab_scr_gt hr.2.1)
  rw [List.map_cons, e4] at hk
  exact hk
theorem ws_anewarr (C0 : ab_Cx p s m meth c n D cT b0 b L xs n0) {i t : Nat} {x : Int32} {q : vw_C} (h3 : t = 2 ∨ t = 3 ∨ t = 4) (hq : ab_cl[ab_ec t]? = some q) (hw1 : Jvm.Cond.classLink (ab_nm n).cls i q.1 ∈ lw_tbl) (hw2 : Jvm.Cond.arrayOver (.object q.1) ∈ lw_tbl)
    (hdg : decode (ab_bt n) pc = .ok (.anewarray i, 3)) (hr : 0 ≤ x.toInt ∧ h.2.1 < ab_CM ∧ h.2.2 + x.toInt.toNat ≤ ab_SM) (k : ab_WG p l e s m args below meth c n D cT b0 b L xs n0 s0 d E (pc + 3) ls (.inr (.inr (some h.2.1)) :: st) (ab_new h (ab_ra t x.toInt.toNat (fun _ => none)) x.toInt.toNat)) : ab_WG p l e s m args below meth c n D cT b0 b L xs n0 s0 d E pc ls (.inl x :: st) h := by
  intro H locs lsA hl hR hS h1 h2
  have hK := C0.2.2.2.2.2.1.2
  obtain ⟨r1, r2⟩ := ab_sc (d := d) h1 h2 hr.2.1 hr.2.2
  have hlim : x.toInt.toNat ≤ 7302250 := Nat.le_trans (Nat.le_add_left _ _) hr.2.2
  obtain ⟨q', q1, q2, -⟩ := ab_ecC (cT := cT) h3
  have hqq : q' = q := Option.some.inj (q1.symm.trans hq)
  subst hqq
  have hov : (Jvm.Cond.arrayOver (.object q'.1)).before args s = true := C0.2.2.2.2.2.1.1 _ hw2 rfl
  refine W.anew C0.1 C0.2.1 C0.2.2.2.2.1 (ws_tw C0 hw1 rfl) hov rfl hdg rfl (ab_nat_i hr.1) (by show x.toInt.toNat * 4 ≤ _; omega) r1 r2 fun cA kA comp f1 f2 f3 f4 => ?_
  have hcA : cA = cT t := by
    obtain ⟨_, _, _, _, _, j4⟩ := (hK.2 t _ q2).2
    exact Option.some.inj (f1.symm.trans j4)
  subst hcA
  generalize hH1 : H.push ({ cls := cT t, slots := Array.replicate x.toNatClampNeg .null, vm := .none } : Cell) = H1
  have z1 : H1.size = b0 + h.2.1 + 1 := by rw [← hH1, Array.size_push, hR.1]
  have e1 : H1[b0 + h.2.1]? = some (arrV (cT t) x.toNatClampNeg (fun _ => .null)) := by rw [← hH1, ← hR.1, Array.getElem?_push_size, ← arrV_new]
  have o1 : ∀ y : Nat, y < b0 + h.2.1 → H1[y]? = H[y]? := fun y hy => by rw [← hH1, Array.getElem?_push, if_neg (by rw [hR.1]; exact Nat.ne_of_lt hy)]
  have hat : va_at D ab_cl (b0 + h.2.1, ab_ce b0 b cT (ab_ra t x.toInt.toNat (fun _ => none))) H1 := by
    show H1[b0 + h.2.1]? = some (vp_cell (cT t) (x.toInt.toNat, .inr (.inr (.inr (.inr (fun j => (none : Option Nat).map (ab_phi b0 b)))))))
    rw [e1, vp_cell_q]
    rfl
  have hk := k H1 locs lsA hl (ab_Rl_new hR hr.2.1 hr.2.2 h3 z1 (fun x hx => o1 x hx) hat) ⟨Nat.le_trans hS.1 (by rw [z1, hR.1]; omega), fun x h3 h4 => (o1 x (by rw [← hR.1]; exact Nat.lt_of_lt_of_le h3 hS.1)).trans (hS.2.1 x h3 h4), hS.2.2⟩ (Nat.le_succ_of_le h1) (Nat.le_trans h2 (Nat.le_add_right _ _))
  have e2 : (ab_new h (ab_ra t x.toInt.toNat (fun _ => none)) x.toInt.toNat).2.1 - n0 = h.2.1 - n0 + 1 := by show h.2.1 + 1 - n0 = _; omega
  have e3 : (ab_new h (ab_ra t x.toInt.toNat (fun _ => none)) x.toInt.toNat).2.2 - s0 = h.2.2 - s0 + x.toInt.toNat := by show h.2.2 + _ - s0 = _; omega
  rw [e2, e3] at hk
  have e4 : ab_pv b0 b (.inr (.inr (some h.2.1))) = .ref (b0 + h.2.1) := ab_pv_ref (ab_scr_gt hr.2.1)
  rw [List.map_cons, e4, ← hR.1] at hk
  exact hk
theorem ab_mono {R : Room} {locs : List Loc} {cells slots : Nat} {Q Q' : State → Prop} {g : JFrame} (k : W p l e R s m args below meth c H locs cells slots Q' g) (hQ : ∀ t, Q' t → Q t) : W p l e R s m args below meth c H locs cells slots Q g := by
  intro T hT X
  obtain ⟨t, a, q⟩ := k T hT X
  exact ⟨t, a, hQ t q⟩
theorem ab_ret {Q : ab_Q} {r : Option ab_V} {locs : List Loc} (hR : ab_Rl D cT b0 b L xs h H) (hS : va_S (ab_A b0) s.heap H locs) (h1 : n0 ≤ h.2.1) (h2 : s0 ≤ h.2.2) (hQ : Q r h) (t : State) (ht : t.heap = H) : ab_Qm Q D cT b0 b L xs n0 s0 (h.2.1 - n0) (h.2.2 - s0) args s (.returned (r.map (ab_pv b0 b))) t :=
  ⟨r, h, rfl, by rw [ht]; exact hR, by omega, by omega, hQ, hS.F ht⟩
theorem ws_ireturn (C0 : ab_Cx p s m meth c n D cT b0 b L xs n0) {Q : ab_Q} {t : Nat} {x : Int32} (hE : E = ab_En below args s Q D cT b0 b L xs n0 s0) (hrt : (t = 0 ∧ ab_rt n = some .int) ∨ (t = 1 ∧ ab_rt n = some .boolean)) (hdg : decode (ab_bt n) pc = .ok (.ireturn, 1)) (hf : ab_fit t (.inl x)) (hQ : Q (some (.inl x)) h) : ab_WG p l e s m args below meth c n D cT b0 b L xs n0 s0 d E pc ls [.inl x] h := by
  subst hE
  intro H locs lsA hl hR hS h1 h2
  have hlk := C0.2.2.2.2.2.2.1
  rcases hrt with ⟨rfl, hrt⟩ | ⟨rfl, hrt⟩
  · exact ab_mono (W.zret (ty := .int) (free := ab_A b0) (v := x) C0.1 C0.2.1 (C0.2.2.1.trans hrt) rfl (fun t ht hW => ab_ret (args := args) hR hS h1 h2 hQ t ht) hS.2.2 hdg hlk) (fun t ht => ⟨_, _, ht⟩)
  · exact ab_mono (W.zret (ty := .boolean) (free := ab_A b0) (v := x) C0.1 C0.2.1 (C0.2.2.1.trans hrt) (ab_n01 hf) (fun t ht hW => ab_ret (args := args) hR hS h1 h2 hQ t ht) hS.2.2 hdg hlk) (fun t ht => ⟨_, _, ht⟩)
theorem ws_lreturn (C0 : ab_Cx p s m meth c n D cT b0 b L xs n0) {Q : ab_Q} {x : Int64} (hE : E = ab_En below args s Q D cT b0 b L xs n0 s0) (hrt : ab_rt n = some .long) (hdg : decode (ab_bt n) pc = .ok (.lreturn, 1)) (hQ : Q (some (.inr (.inl x))) h) : ab_WG p l e s m args below meth c n D cT b0 b L xs n0 s0 d E pc ls [.inr (.inl x)] h := by
  subst hE
  intro H locs lsA hl hR hS h1 h2
  have hlk := C0.2.2.2.2.2.2.1
  exact ab_mono (W.lret (free := ab_A b0) (v := x) C0.1 C0.2.1 (C0.2.2.1.trans hrt) (fun t ht hW => ab_ret (args := args) hR hS h1 h2 hQ t ht) hS.2.2 hdg hlk) (fun t ht => ⟨_, _, ht⟩)
theorem ws_areturn (C0 : ab_Cx p s m meth c n D cT b0 b L xs n0) {Q : ab_Q} {o : Option Nat} (hE : E = ab_En below args s Q D cT b0 b L xs n0 s0) (hrt : ∃ ty, ab_rt n = some ty ∧ ((∃ n, ty = .object n) ∨ ∃ t, ty = .array t)) (hdg : decode (ab_bt n) pc = .ok (.areturn, 1)) (hQ : Q (some (.inr (.inr o))) h) : ab_WG p l e s m args below meth c n D cT b0 b L xs n0 s0 d E pc ls [.inr (.inr o)] h := by
  subst hE
  intro H locs lsA hl hR hS h1 h2
  have hlk := C0.2.2.2.2.2.2.1
  obtain ⟨ty, hrt, hty⟩ := hrt
  exact ab_mono (W.aret (free := ab_A b0) (v := ab_pv b0 b (.inr (.inr o))) C0.1 C0.2.1 (C0.2.2.1.trans hrt) hty (va_rf_or _) (fun t ht hW => ab_ret (args := args) hR hS h1 h2 hQ t ht) hS.2.2 hdg hlk) (fun t ht => ⟨_, _, ht⟩)
theorem ws_vreturn (C0 : ab_Cx p s m meth c n D cT b0 b L xs n0) {Q : ab_Q} (hE : E = ab_En below args s Q D cT b0 b L xs n0 s0) (hrt : ab_rt n = none) (hdg : decode (ab_bt n) pc = .ok (.return_, 1)) (hQ : Q none h) : ab_WG p l e s m args below meth c n D cT b0 b L xs n0 s0 d E pc ls [] h := by
  subst hE
  intro H locs lsA hl hR hS h1 h2
  have hlk := C0.2.2.2.2.2.2.1
  exact ab_mono (W.vret (free := ab_A b0) C0.1 C0.2.1 (C0.2.2.1.trans hrt) (fun t ht hW => ab_ret (args := args) hR hS h1 h2 hQ t ht) hS.2.2 hdg hlk) (fun t ht => ⟨_, _, ht⟩)
theorem ws_objinit (C0 : ab_Cx p s m meth c n D cT b0 b L xs n0) {i a : Nat} (hd1 : 1 ≤ d) (hd2 : d ≤ 2048) (hst : ab_cats st ≤ 8) (hw1 : Jvm.Cond.methodLink (ab_nm n).cls i Lib.objectInit ∈ lw_tbl) (hw2 : Jvm.Cond.instanceMethod Lib.objectInit ∈ lw_tbl) (hw3 : Jvm.Cond.code Lib.objectInit ⟨#[0xb1]⟩ 1 none ∈ lw_tbl) (hdg : decode (ab_bt n) pc = .ok (.invokespecial i, 3)) (k : ab_WG p l e s m args below meth c n D cT b0 b L xs n0 s0 d E (pc + 3) ls st h) : ab_WG p l e s m args below meth c n D cT b0 b L xs n0 s0 d E pc ls (.inr (.inr (some a)) :: st) h := by
  intro H locs lsA hl hR hS h1 h2
  have h8 := lv_room (m := m) (pc := pc) (ls := lsA) (rest := []) (st := st.map (ab_pv b0 b)) (by rw [ab_cats_pv]; exact hst)
  refine W.objInit C0.1 C0.2.1 C0.2.2.2.2.1 (ws_tw C0 hw1 rfl) (ws_tw C0 hw2 rfl) (ws_tw C0 hw3 rfl) rfl (hl.1.trans C0.2.2.2.1.symm) rfl hdg hd1 ?_ (k H locs lsA hl hR hS h1 h2)
  have h9 : 40 * (2048 - d) ≤ 81880 := by omega
  show _ ≤ 84000 - 40 * (2048 - d)
  exact Nat.le_trans (Nat.add_le_add_right h8 12) (by omega)
end AB4
