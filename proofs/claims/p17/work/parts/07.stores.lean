/-! ===== rules: stores, new cells, ends (own text) ===== -/
section AB3
variable {p : Program} {l : Launch} {e : Env} {s : State} {m : MethodId} {args : Array Value} {below : List Frame} {meth : Method} {c : Code} {n : Nat} {D : va_G} {cT : Nat → ClassId} {b0 b L : Nat} {xs : Nat → Int32} {n0 s0 d : Nat} {E : State → Prop} {pc : Nat} {ls : ab_L} {st : List ab_V} {h : ab_H} {H : Heap}
theorem ab_pv_ref {a : Nat} (h1 : a ≠ ab_scr) : ab_pv b0 b (.inr (.inr (some a))) = .ref (b0 + a) := by
  show va_rf (some (ab_phi b0 b a)) = _
  rw [ab_phi_ne h1]
  rfl
theorem ws_putfield (C0 : ab_Cx p s m meth c n D cT b0 b L xs n0) {ci k0 i a : Nat} {q : vw_C} {fs : List ab_V} {v : ab_V} (hc : ab_cl[ci]? = some q) (hk : k0 < q.2.2) (h9 : ci ≠ 999) (hw : Jvm.Cond.fieldLink (ab_nm n).cls i (q.2.1 k0).1 (q.2.1 k0).2.1 (q.2.1 k0).2.2.1 ∈ lw_tbl) (hfin : (q.2.1 k0).2.2.2 = false ∨ ((q.2.1 k0).2.2.2 = true ∧ (ab_nm n).name = "<init>" ∧ (q.2.1 k0).1 = (ab_nm n).cls))
    (hdg : decode (ab_bt n) pc = .ok (.putfield i, 3)) (ho : h.1 a = ab_ob ci fs) (hl0 : k0 < fs.length) (hf : ab_fit (ab_tyc (ab_ty ci k0)) v) (k : ab_WG p l e s m args below meth c n D cT b0 b L xs n0 s0 d E (pc + 3) ls st (ab_set h a (ab_ob ci (fs.set k0 v)))) : ab_WG p l e s m args below meth c n D cT b0 b L xs n0 s0 d E pc ls (v :: .inr (.inr (some a)) :: st) h := by
  intro H locs lsA hl hR hS h1 h2
  obtain ⟨g1, g2⟩ := ab_ob_real hR ho h9
  have hat : (ab_ws b0 b cT h)[a]? = some (b0 + a, .inr (ci, fs.map (ab_pv b0 b))) := by rw [ab_ws_at g2, ho]; rfl
  have hP := ab_Rl_P hR
  have hK := C0.2.2.2.2.2.1.2
  have hts := ws_tsC (args := args) C0 hc
  have hty := ab_tyC ci q hc k0 hk
  obtain ⟨hn9, hfit⟩ := ab_fitok (b0 := b0) (b := b) hf
  have hap := va_apart (own := (ab_nm n).cls) (args := args) hts (fun _ h => h) (ab_ty ci) (ab_tyC ci q hc) (ab_nmC ci q hc) hK (ci := ci) (by rw [hc])
  have hnew : ∀ H' : Heap, va_at D ab_cl (b0 + a, .inr (ci, (fs.map (ab_pv b0 b)).set k0 (ab_pv b0 b v))) H' → H'.size = H.size → (∀ x, x ≠ b0 + a → H'[x]? = H[x]?) → ab_Rl D cT b0 b L xs (ab_set h a (ab_ob ci (fs.set k0 v))) H' := by
    intro H' e1 e2 e3
    refine ab_Rl_set hR g2 trivial e2 ?_
    have e4 : (.inr (ci, (fs.map (ab_pv b0 b)).set k0 (ab_pv b0 b v)) : va_E) = ab_ce b0 b cT (ab_ob ci (fs.set k0 v)) := by
      show _ = Sum.inr (ci, (fs.set k0 v).map (ab_pv b0 b))
      rw [List.map_set]
    rw [← e4]
    exact hP.set ab_ws_D hat e1 e3
  obtain ⟨r, r1, cell, q1, q2, q3, q4⟩ := hP a _ hat
  have hr : r = q := Option.some.inj (r1.symm.trans hc)
  subst hr
  obtain ⟨hSl, hfc, kC, hkC, hkind⟩ := hK.1 ci _ hc
  obtain ⟨cf, kf, fi, f, hi, hsl⟩ := hSl k0 hk
  have hlay := hts _ (u_in_lay hk)
  have hst := (u_facts hfc hkC (u_lays hts (fun _ h => h) hk) hi).1
  have hdone : ∀ H' : Heap, H'[b0 + a]? = some (cell.setSlot f.slot (ab_pv b0 b v)) → H'.size = H.size → (∀ x, x ≠ b0 + a → H'[x]? = H[x]?) → W p l e (ab_room d n0 s0) s m args below meth c H' (locs ++ [⟨b0 + a, f.slot⟩]) (h.2.1 - n0) (h.2.2 - s0) E (F0 m (pc + 3) lsA (st.map (ab_pv b0 b))) := by
    intro H' e1 e2 e3
    rw [hsl] at e1
    have hat' : va_at D ab_cl (b0 + a, .inr (ci, (fs.map (ab_pv b0 b)).set k0 (ab_pv b0 b v))) H' := ⟨_, hc, t_OB.to (V := updV (vp_V (fs.map (ab_pv b0 b))) k0 (ab_pv b0 b v)) ⟨_, e1, q2, q3, t_set q4 hap hk _⟩ (fun j _ => vp_updV_set (by simpa using hl0) _ j)⟩
    exact k H' _ lsA hl (hnew H' hat' e2 e3) (hS.put e2 e3 (Nat.le_add_right _ _)) h1 h2
  show W p l e _ s m args below meth c H locs _ _ E (F0 m pc lsA (ab_pv b0 b v :: ab_pv b0 b (.inr (.inr (some a))) :: st.map (ab_pv b0 b)))
  rw [ab_pv_ref g1]
  rcases hfin with hfin | ⟨hfin, hin, hdecl⟩
  · unfold u_lay at hlay
    rw [if_neg (by rw [hfin]; decide)] at hlay
    have h6 := u_store hfc hkC hkind hlay hi hty hn9 hfit
    exact W.putK C0.1 C0.2.1 (f := f) ⟨C0.2.2.2.2.1, ws_tw C0 hw rfl, ⟨_, _, _, hi⟩, hst⟩ (by rw [q2]; exact h6) q1 q3 (by rw [hsl]; exact k2_hasslot (q4 k0 hk)) rfl rfl hdg hdone
  · unfold u_lay at hlay
    rw [if_pos hfin] at hlay
    have hcf : m.cls = cf := by
      obtain ⟨_, _, c', _, _, _, -, -, hf', -, -, -, hown2, -⟩ := Cond.laysFinal_spec hlay
      have e1 : c' = cf := by have := hi.symm.trans hf'; simp at this; exact this.1.symm
      rw [hdecl] at hown2
      rw [← e1]; exact Option.some.inj (C0.2.2.2.2.1.symm.trans hown2)
    have h6 := u_fits hfc hkC hkind (Or.inr hlay) hi hty hn9 hfit
    exact W.putFinK C0.1 C0.2.1 C0.2.2.2.2.1 (ws_tw C0 hw rfl) hi hst hcf (C0.2.2.2.2.2.2.2.1.trans hin) (by rw [q2]; exact h6) q1 q3 (by rw [hsl]; exact k2_hasslot (q4 k0 hk)) rfl rfl hdg hdone
theorem ab_vin {x : Int32} {N : Nat} (hx : 0 ≤ x.toInt ∧ x.toInt < N) : vp_in x N := vp_in_iff.mpr hx
theorem ws_iaload (C0 : ab_Cx p s m meth c n D cT b0 b L xs n0) {t N a : Nat} {f : Nat → Int32} {x : Int32} (hdg : decode (ab_bt n) pc = .ok (.iaload, 1)) (ho : h.1 a = ab_ia t N f) (ht : t = 0 ∨ t = 9) (hx : 0 ≤ x.toInt ∧ x.toInt < N) (k : ab_WG p l e s m args below meth c n D cT b0 b L xs n0 s0 d E (pc + 1) ls (.inl (f x.toInt.toNat) :: st) h) : ab_WG p l e s m args below meth c n D cT b0 b L xs n0 s0 d E pc ls (.inl x :: .inr (.inr (some a)) :: st) h := by
  intro H locs lsA hl hR hS h1 h2
  by_cases ha : a = ab_scr
  · subst ha
    rw [hR.2.2.2.1] at ho
    cases ho
    show W p l e _ s m args below meth c H locs _ _ E (F0 m pc lsA (.int x :: .ref (ab_phi b0 b ab_scr) :: st.map (ab_pv b0 b)))
    rw [ab_phi_scr]
    have hsz := C0.2.2.2.2.2.2.2.2.1
    have hbl := C0.2.2.2.2.2.2.2.2.2.1
    exact va_sld C0.1 C0.2.1 C0.2.2.2.2.2.2.2.2.2.2 (by rw [hsz]; exact Nat.lt_of_lt_of_le hbl (Nat.le_add_right _ _)) (Nat.not_le.mpr hbl) hS (ab_vin hx) hdg (k H locs lsA hl hR hS h1 h2)
  · have g2 : a < h.2.1 := ab_lt hR ha (fun e => by rw [ho] at e; cases e)
    have ht0 : t = 0 := by
      have h3 := hR.2.2.2.2.2.1 a g2
      rw [ho] at h3
      rcases ht with ht | ht
      · exact ht
      · subst ht
        rcases h3 with h3 | h3 <;> cases h3
    subst ht0
    have hat : (ab_ws b0 b cT h)[a]? = some (b0 + a, .inl (cT 0, N, .inl f)) := by rw [ab_ws_at g2, ho]; rfl
    show W p l e _ s m args below meth c H locs _ _ E (F0 m pc lsA (.int x :: ab_pv b0 b (.inr (.inr (some a))) :: st.map (ab_pv b0 b)))
    rw [ab_pv_ref ha]
    exact va_iald C0.1 C0.2.1 C0.2.2.2.2.2.1.2 (ab_Rl_P hR) a 0 hat rfl (ab_vin hx) hdg (k H locs lsA hl hR hS h1 h2)
theorem ws_baload (C0 : ab_Cx p s m meth c n D cT b0 b L xs n0) {N a : Nat} {f : Nat → Int32} {x : Int32} (hdg : decode (ab_bt n) pc = .ok (.baload, 1)) (ho : h.1 a = ab_ia 1 N f) (hx : 0 ≤ x.toInt ∧ x.toInt < N) (k : ab_WG p l e s m args below meth c n D cT b0 b L xs n0 s0 d E (pc + 1) ls (.inl (f x.toInt.toNat) :: st) h) : ab_WG p l e s m args below meth c n D cT b0 b L xs n0 s0 d E pc ls (.inl x :: .inr (.inr (some a)) :: st) h := by
  intro H locs lsA hl hR hS h1 h2
  obtain ⟨ha, g2⟩ := ab_ia_real hR ho (by decide)
  have hat : (ab_ws b0 b cT h)[a]? = some (b0 + a, .inl (cT 1, N, .inl f)) := by rw [ab_ws_at g2, ho]; rfl
  show W p l e _ s m args below meth c H locs _ _ E (F0 m pc lsA (.int x :: ab_pv b0 b (.inr (.inr (some a))) :: st.map (ab_pv b0 b)))
  rw [ab_pv_ref ha]
  exact va_zald C0.1 C0.2.1 C0.2.2.2.2.2.1.2 (ab_Rl_P hR) a 1 hat rfl (ab_vin hx) hdg (k H locs lsA hl hR hS h1 h2)
theorem ab_ecC {t : Nat} (h3 : t = 2 ∨ t = 3 ∨ t = 4) : ∃ q : vw_C, ab_cl[ab_ec t]? = some q ∧ (ab_tys cT)[t]? = some (cT t, .object q.1) ∧ ab_ec t ≠ 999 := by
  rcases h3 with rfl | rfl | rfl <;> exact ⟨_, rfl, rfl, by decide⟩
theorem ws_aaload (C0 : ab_Cx p s m meth c n D cT b0 b L xs n0) {t N a : Nat} {f : Nat → Option Nat} {x : Int32} (hdg : decode (ab_bt n) pc = .ok (.aaload, 1)) (ho : h.1 a = ab_ra t N f) (hx : 0 ≤ x.toInt ∧ x.toInt < N) (k : ab_WG p l e s m args below meth c n D cT b0 b L xs n0 s0 d E (pc + 1) ls (.inr (.inr (f x.toInt.toNat)) :: st) h) : ab_WG p l e s m args below meth c n D cT b0 b L xs n0 s0 d E pc ls (.inl x :: .inr (.inr (some a)) :: st) h := by
  intro H locs lsA hl hR hS h1 h2
  obtain ⟨ha, g2⟩ := ab_ra_real hR ho
  have h3 := hR.2.2.2.2.2.1 a g2
  rw [ho] at h3
  obtain ⟨q, q1, q2, -⟩ := ab_ecC (cT := cT) h3
  have hat : (ab_ws b0 b cT h)[a]? = some (b0 + a, .inl (cT t, N, .inr (.inr (.inr (.inr (fun j => (f j).map (ab_phi b0 b))))))) := by rw [ab_ws_at g2, ho]; rfl
  show W p l e _ s m args below meth c H locs _ _ E (F0 m pc lsA (.int x :: ab_pv b0 b (.inr (.inr (some a))) :: st.map (ab_pv b0 b)))
  rw [ab_pv_ref ha]
  exact va_aldq C0.1 C0.2.1 C0.2.2.2.2.2.1.2 (ab_Rl_P hR) a t hat q2 (ab_vin hx) hdg (k H locs lsA hl hR hS h1 h2)
theorem ab_vin2 {x : Int32} {N : Nat} {f : Nat → Value} {cI : ClassId} (hx : 0 ≤ x.toInt ∧ x.toInt < N) : ¬ (x < 0 ∨ (arrV cI N f).slots.size ≤ x.toNatClampNeg) := by
  rw [arrV_size]
  exact ab_vin hx
theorem ab_upV (f : Nat → Int32) (k : Nat) (x : Int32) : (fun j => Value.int (ab_up f k x j)) = updV (fun j => .int (f j)) k (.int x) := by
  funext j
  by_cases hj : j = k
  · subst hj; simp [updV, ab_up_self]
  · simp [updV, ab_up_ne _ _ hj, hj]
theorem ab_upR (f : Nat → Option Nat) (g : Nat → Nat) (k : Nat) (x : Option Nat) : (fun j => va_rf ((ab_up f k x j).map g)) = updV (fun j => va_rf ((f j).map g)) k (va_rf (x.map g)) := by
  funext j
  by_cases hj : j = k
  · subst hj; simp [updV, ab_up_self]
  · simp [updV, ab_up_ne _ _ hj, hj]
theorem ws_iastore (C0 : ab_Cx p s m meth c n D cT b0 b L xs n0) {N a : Nat} {f : Nat → Int32} {x y : Int32} (hdg : decode (ab_bt n) pc = .ok (.iastore, 1)) (ho : h.1 a = ab_ia 0 N f) (hx : 0 ≤ x.toInt ∧ x.toInt < N) (k : ab_WG p l e s m args below meth c n D cT b0 b L xs n0 s0 d E (pc + 1) ls st (ab_set h a (ab_ia 0 N (ab_up f x.toInt.toNat y)))) : ab_WG p l e s m args below meth c n D cT b0 b L xs n0 s0 d E pc ls (.inl y :: .inl x :: .inr (.inr (some a)) :: st) h := by
  intro H locs lsA hl hR hS h1 h2
  obtain ⟨ha, g2⟩ := ab_ia_real hR ho (by decide)
  have hat : (ab_ws b0 b cT h)[a]? = some (b0 + a, .inl (cT 0, N, .inl f)) := by rw [ab_ws_at g2, ho]; rfl
  have hP := ab_Rl_P hR
  show W p l e _ s m args below meth c H locs _ _ E (F0 m pc lsA (.int y :: .int x :: ab_pv b0 b (.inr (.inr (some a))) :: st.map (ab_pv b0 b)))
  rw [ab_pv_ref ha]
  refine W.iast C0.1 C0.2.1 (hP a _ hat) ((C0.2.2.2.2.2.1.2.2 0 _ rfl).1 N (fun j => .int (f j))) (fun q => by cases q) (ab_vin2 hx) rfl rfl hdg fun H1 e1 z oq => ?_
  refine k H1 _ lsA hl (ab_Rl_set hR g2 (Or.inl rfl) z (hP.set ab_ws_D hat ?_ oq)) (hS.put z oq (Nat.le_add_right _ _)) h1 h2
  show H1[b0 + a]? = some (vp_cell (cT 0) (N, .inl (ab_up f x.toInt.toNat y)))
  rw [e1, vp_cell_i, vp_cell_i, arrV_store, ab_upV]
  rfl
theorem ab_n01 {x : Int32} (h : x.toInt = 0 ∨ x.toInt = 1) : narrow .boolean (.int x) = .int x := by
  rcases ab_toInt01 h with rfl | rfl <;> rfl
theorem ws_bastore (C0 : ab_Cx p s m meth c n D cT b0 b L xs n0) {N a : Nat} {f : Nat → Int32} {x y : Int32} (hdg : decode (ab_bt n) pc = .ok (.bastore, 1)) (ho : h.1 a = ab_ia 1 N f) (hx : 0 ≤ x.toInt ∧ x.toInt < N) (hy : y.toInt = 0 ∨ y.toInt = 1) (k : ab_WG p l e s m args below meth c n D cT b0 b L xs n0 s0 d E (pc + 1) ls st (ab_set h a (ab_ia 1 N (ab_up f x.toInt.toNat y)))) : ab_WG p l e s m args below meth c n D cT b0 b L xs n0 s0 d E pc ls (.inl y :: .inl x :: .inr (.inr (some a)) :: st) h := by
  intro H locs lsA hl hR hS h1 h2
  obtain ⟨ha, g2⟩ := ab_ia_real hR ho (by decide)
  have hat : (ab_ws b0 b cT h)[a]? = some (b0 + a, .inl (cT 1, N, .inl f)) := by rw [ab_ws_at g2, ho]; rfl
  have hP := ab_Rl_P hR
  show W p l e _ s m args below meth c H locs _ _ E (F0 m pc lsA (.int y :: .int x :: ab_pv b0 b (.inr (.inr (some a))) :: st.map (ab_pv b0 b)))
  rw [ab_pv_ref ha]
  refine W.zast C0.1 C0.2.1 (hP a _ hat) ((C0.2.2.2.2.2.1.2.2 1 _ rfl).1 N (fun j => .int (f j))) (fun q => by cases q) (ab_vin2 hx) rfl rfl hdg fun H1 e1 z oq => ?_
  refine k H1 _ lsA hl (ab_Rl_set hR g2 (Or.inr rfl) z (hP.set ab_ws_D hat ?_ oq)) (hS.put z oq (Nat.le_add_right _ _)) h1 h2
  show H1[b0 + a]? = some (vp_cell (cT 1) (N, .inl (ab_up f x.toInt.toNat y)))
  rw [e1, ab_n01 hy, vp_cell_i, vp_cell_i, arrV_store, ab_upV]
  rfl
theorem ws_aastore (C0 : ab_Cx p s m meth c n D cT b0 b L xs n0) {t N a : Nat} {f : Nat → Option Nat} {x : Int32} {v : Option Nat} (hdg : decode (ab_bt n) pc = .ok (.aastore, 1)) (ho : h.1 a = ab_ra t N f) (hx : 0 ≤ x.toInt ∧ x.toInt < N) (hv : ∀ w, v = some w → ∃ fs, h.1 w = ab_ob (ab_ec t) fs) (k : ab_WG p l e s m args below meth c n D cT b0 b L xs n0 s0 d E (pc + 1) ls st (ab_set h a (ab_ra t N (ab_up f x.toInt.toNat v)))) : ab_WG p l e s m args below meth c n D cT b0 b L xs n0 s0 d E pc ls (.inr (.inr v) :: .inl x :: .inr (.inr (some a)) :: st) h := by
  intro H locs lsA hl hR hS h1 h2
  obtain ⟨ha, g2⟩ := ab_ra_real hR ho
  have h3 := hR.2.2.2.2.2.1 a g2
  rw [ho] at h3
  obtain ⟨q, q1, q2, q9⟩ := ab_ecC (cT := cT) h3
  have hat : (ab_ws b0 b cT h)[a]? = some (b0 + a, .inl (cT t, N, .inr (.inr (.inr (.inr (fun j => (f j).map (ab_phi b0 b))))))) := by rw [ab_ws_at g2, ho]; rfl
  have hP := ab_Rl_P hR
  have hK := C0.2.2.2.2.2.1.2
  have hdone : ∀ H1 : Heap, H1[b0 + a]? = some ((arrV (cT t) N (fun j => va_rf ((f j).map (ab_phi b0 b)))).setSlot x.toNatClampNeg (va_rf (v.map (ab_phi b0 b)))) → H1.size = H.size → (∀ q, q ≠ b0 + a → H1[q]? = H[q]?) → W p l e (ab_room d n0 s0) s m args below meth c H1 (locs ++ [⟨b0 + a, x.toNatClampNeg⟩]) (h.2.1 - n0) (h.2.2 - s0) E (F0 m (pc + 1) lsA (st.map (ab_pv b0 b))) := by
    intro H1 e1 z oq
    refine k H1 _ lsA hl (ab_Rl_set hR g2 h3 z (hP.set ab_ws_D hat ?_ oq)) (hS.put z oq (Nat.le_add_right _ _)) h1 h2
    show H1[b0 + a]? = some (vp_cell (cT t) (N, .inr (.inr (.inr (.inr (fun j => (ab_up f x.toInt.toNat v j).map (ab_phi b0 b)))))))
    rw [e1, vp_cell_q, arrV_store, ab_upR]
    rfl
  show W p l e _ s m args below meth c H locs _ _ E (F0 m pc lsA (ab_pv b0 b (.inr (.inr v)) :: .int x :: ab_pv b0 b (.inr (.inr (some a))) :: st.map (ab_pv b0 b)))
  rw [ab_pv_ref ha]
  cases v with
  | none => exact va_WaastN (C := q.1) C0.1 C0.2.1 (hP a _ hat) ((hK.2 t _ q2).1 N (fun j => va_rf ((f j).map (ab_phi b0 b)))) (fun h => by cases h) (ab_vin2 hx) rfl rfl hdg hdone
  | some w =>
    obtain ⟨fs, hw⟩ := hv w rfl
    obtain ⟨gw1, gw2⟩ := ab_ob_real hR hw q9
    have hatw : (ab_ws b0 b cT h)[w]? = some (b0 + w, .inr (ab_ec t, fs.map (ab_pv b0 b))) := by rw [ab_ws_at gw2, hw]; rfl
    obtain ⟨r', hr', cellV, k1, k2, k3, -⟩ := hP w _ hatw
    have hcls := (hK.1 _ q q1).2
    obtain ⟨kA, comp, j1, j2, j3, -⟩ := (hK.2 t _ q2).2
    have hcomp : comp = D.1 (ab_ec t) := Option.some.inj (j3.symm.trans hcls.1)
    subst hcomp
    obtain ⟨kC, hkC, -⟩ := hcls.2
    have hin := ab_vin2 (cI := cT t) (f := fun j => va_rf ((f j).map (ab_phi b0 b))) hx
    have e9 : va_rf ((some w).map (ab_phi b0 b)) = .ref (b0 + w) := ab_pv_ref gw1
    rw [e9] at hdone
    rw [ab_pv_ref gw1]
    exact W.aast C0.1 C0.2.1 (hP a _ hat) (fun q h => by cases h) (fun h => by cases h) j1 j2 rfl hkC ⟨fun q => hin (Or.inl q), Nat.not_le.mp fun q => hin (Or.inr q)⟩ k1 (fun q h => by rw [k3] at h; cases h) (by rw [k2]; exact hkC) (by rw [k2]; exact va_assign hcls) rfl rfl hdg hdone
theorem ws_arraylength (C0 : ab_Cx p s m meth c n D cT b0 b L xs n0) {N a : Nat} (hdg : decode (ab_bt n) pc = .ok (.arraylength, 1)) (ho : ab_len (h.1 a) = some N) (k : ab_WG p l e s m args below meth c n D cT b0 b L xs n0 s0 d E (pc + 1) ls (.inl (ab_ii (N : Int)) :: st) h) : ab_WG p l e s m args below meth c n D cT b0 b L xs n0 s0 d E pc ls (.inr (.inr (some a)) :: st) h := by
  intro H locs lsA hl hR hS h1 h2
  by_cases ha : a = ab_scr
  · subst ha
    rw [hR.2.2.2.1] at ho
    cases ho
    show W p l e _ s m args below meth c H locs _ _ E (F0 m pc lsA (.ref (ab_phi b0 b ab_scr) :: st.map (ab_pv b0 b)))
    rw [ab_phi_scr]
    have hsz := C0.2.2.2.2.2.2.2.2.1
    have hbl := C0.2.2.2.2.2.2.2.2.2.1
    exact va_slen C0.1 C0.2.1 C0.2.2.2.2.2.2.2.2.2.2 (by rw [hsz]; exact Nat.lt_of_lt_of_le hbl (Nat.le_add_right _ _)) (Nat.not_le.mpr hbl) hS hdg (k H locs lsA hl hR hS h1 h2)
  · have g2 : a < h.2.1 := ab_lt hR ha (fun e => by rw [e] at ho; cases ho)
    have h3 := hR.2.2.2.2.2.1 a g2
    show W p l e _ s m args below meth c H locs _ _ E (F0 m pc lsA (ab_pv b0 b (.inr (.inr (some a))) :: st.map (ab_pv b0 b)))
    rw [ab_pv_ref ha]
    have hat := ab_ws_at (b0 := b0) (b := b) (cT := cT) g2
    generalize h.1 a = x at ho h3 hat
    match x, ho, h3 with
    | .inl (t, k1, f), ho, h3 =>
      cases ho
      rcases h3 with rfl | rfl
      · exact va_alen C0.1 C0.2.1 C0.2.2.2.2.2.1.2 (ab_Rl_P hR) a 0 hat rfl rfl hdg (k H locs lsA hl hR hS h1 h2)
      · exact va_alen C0.1 C0.2.1 C0.2.2.2.2.2.1.2 (ab_Rl_P hR) a 1 hat rfl rfl hdg (k H locs lsA hl hR hS h1 h2)
    | .inr (.inl (t, k1, f)), ho, h3 =>
      cases ho
      obtain ⟨q, q1, q2, -⟩ := ab_ecC (cT := cT) h3
      exact va_alen C0.1 C0.2.1 C0.2.2.2.2.2.1.2 (ab_Rl_P hR) a t hat q2 rfl hdg (k H locs lsA hl hR hS h1 h2)
end AB3
