/-! ===== rules: calls (own text) ===== -/
section AB5
variable {p : Program} {l : Launch} {e : Env} {s : State} {m : MethodId} {args : Array Value} {below : List Frame} {meth : Method} {c : Code} {n : Nat} {D : va_G} {cT : Nat → ClassId} {b0 b L : Nat} {xs : Nat → Int32} {n0 s0 d : Nat} {E : State → Prop} {pc : Nat} {ls : ab_L} {st : List ab_V} {h : ab_H} {H : Heap}
/-- what a called method must have in the tables -/
def ab_okM (y : Nat) : Prop := Jvm.Cond.code (ab_nm y) (ab_bt y) (ab_ml y) (ab_rt y) ∈ lw_tbl ∧ Jvm.Cond.initialized (ab_nm y).cls ∈ lw_tbl ∧ ab_ml y ≤ 21 ∧ (ab_nm y).cls ≠ "java/lang/invoke/MethodHandle" ∧ (ab_nm y).cls ≠ "java/lang/invoke/VarHandle"
def ab_Pre (D : va_G) (cT : Nat → ClassId) (b0 b L : Nat) (xs : Nat → Int32) (n0 s0 : Nat) (as : List ab_V) (h : ab_H) : Pt → Array Value → Prop := fun A a => A.cells = h.2.1 - n0 ∧ A.slots = h.2.2 - s0 ∧ ab_Pc D cT b0 b L xs as h a A.U
def ab_Pst (Q : ab_Q) (D : va_G) (cT : Nat → ClassId) (b0 b L : Nat) (xs : Nat → Int32) (h : ab_H) : Pt → Array Value → Option Value → Pt → Prop := fun A _ v B =>
  ∃ (r : Option ab_V) (h' : ab_H) (Lc : List Loc), v = r.map (ab_pv b0 b) ∧ ab_Rl D cT b0 b L xs h' B.U.heap ∧ Q r h' ∧ va_F (ab_A b0) A.U B.U ∧ B.locs = A.locs ++ Lc ∧ (∀ q ∈ Lc, ab_A b0 q.base) ∧ h.2.1 ≤ h'.2.1 ∧ h.2.2 ≤ h'.2.2 ∧ B.cells = A.cells + (h'.2.1 - h.2.1) ∧ B.slots = A.slots + (h'.2.2 - h.2.2)
theorem ab_X_moved {U U' : State} (hvm : U.vm.Alike U'.vm) (hh : U'.heap = U.heap) (hX : va_X b L xs U U.heap) : va_X b L xs U' U'.heap := by
  rw [hh]
  exact hX.moved hvm
theorem ab_back {y : Nat} {as : List ab_V} {Q : ab_Q} (hM : ab_CT d y as h Q) (hd : d + 1 ≤ 2048) (hy : ab_okM y) (hn0 : n0 ≤ h.2.1) (hs0 : s0 ≤ h.2.2) (hcm : h.2.1 ≤ ab_CM) (hsm : h.2.2 ≤ ab_SM) :
    Back l (ab_room (d + 1) n0 s0) p e below s args (ab_nm y) 3 8 (ab_Pre D cT b0 b L xs n0 s0 as h) (ab_Pst Q D cT b0 b L xs h) := by
  obtain ⟨w1, w2, w3, w4, w5⟩ := hy
  have hcm' : h.2.1 ≤ 600000 := hcm
  have hsm' : h.2.2 ≤ 7302250 := hsm
  refine Back.of_free (bytes := ab_bt y) (maxL := ab_ml y) (ret := ab_rt y) (E := fun a st o t L9 k9 n9 => (∀ q ∈ L9, ab_A b0 q.base) ∧ ab_Qm Q D cT b0 b L xs h.2.1 h.2.2 k9 n9 a st o t) (hM (by omega) l D cT b0 b L xs) (Nat.le_refl _) ?_ ?_ ?_ (fun _ _ _ _ _ _ _ _ _ => trivial) ?_ ?_
  · show 8 + (ab_ml y + 11) + (84000 - 40 * (2048 - d)) ≤ 84000 - 40 * (2048 - (d + 1))
    omega
  · intro m meth c A a X hp
    obtain ⟨hc, hs, -, hKV, -⟩ := hp
    have hcode : (Jvm.Cond.code (ab_nm y) (ab_bt y) (ab_ml y) (ab_rt y)).before a A.U = true := va_Nw.use rfl (hKV.1 _ w1 rfl)
    refine ⟨atoms_intro fun w hw => ?_, hcode, va_Nw.use rfl (hKV.1 _ w2 rfl), ?_, ?_⟩
    · rw [List.mem_singleton.mp hw]; exact hcode
    · rw [hc]; show h.2.1 - n0 + (600000 - h.2.1) ≤ 600000 - n0; omega
    · rw [hs]; show h.2.2 - s0 + (7302250 - h.2.2) ≤ 7302250 - s0; omega
  · intro m meth c A a g mk X hp
    obtain ⟨-, -, ha, hKV, hR, hb, hX⟩ := hp
    exact ⟨ha, ab_KV.warm (U := A.U.calling g mk a) hKV (State.WarmedH.refl A.U), hR, hb, ab_X_moved (U' := A.U.calling g mk a) (Vm.Alike.refl A.U.vm) rfl hX⟩
  · intro a st o t hq
    obtain ⟨mc, ms, Lc, hF, hL, hq⟩ := hq
    exact ⟨Lc, mc, ms, hF, hL, hq⟩
  · intro m meth c A a g mk v t L9 k9 n9 X hp hq hF hE
    obtain ⟨hL, r, h', hv, hR, e1, e2, hQ, hz, ho⟩ := hE
    refine ⟨r, h', L9, Outcome.returned.inj hv, hR, hQ, ⟨hz, ho⟩, rfl, hL, by omega, by omega, ?_, ?_⟩
    · show A.cells + k9 = A.cells + (h'.2.1 - h.2.1); omega
    · show A.slots + n9 = A.slots + (h'.2.2 - h.2.2); omega
/-- what comes behind a call -/
theorem ab_after (C0 : ab_Cx p s m meth c n D cT b0 b L xs n0) {Q : ab_Q} {y i : Nat} {as rest : List ab_V} {ins : Instr} (hdg : decode (ab_bt n) pc = .ok (ins, 3)) (hk : ∀ r h', Q r h' → ab_WG p l e s m args below meth c n D cT b0 b L xs n0 s0 (d + 1) E (pc + 3) ls (ab_push r rest) h') {locs : List Loc} {lsA : Array Slot} (hl : lv_has lsA (ab_ml n) (ab_pl b0 b ls)) (hR : ab_Rl D cT b0 b L xs h H) (hS : va_S (ab_A b0) s.heap H locs) (h1 : n0 ≤ h.2.1) (h2 : s0 ≤ h.2.2) {st0 : List Value}
    (hrun : ∀ T : State, T.heap = H → Stand p l e (ab_room (d + 1) n0 s0) s m args below meth c T locs (h.2.1 - n0) (h.2.2 - s0) → ∃ (v : Option Value) (vm₁ : Vm) (B : Pt), s.WarmedH vm₁ ∧ Stand p l e (ab_room (d + 1) n0 s0) s m args below meth c B.U B.locs B.cells B.slots ∧ ab_Pst Q D cT b0 b L xs h ⟨T.setVm vm₁, locs, h.2.1 - n0, h.2.2 - s0⟩ (as.map (ab_pv b0 b)).toArray v B ∧ ∀ target, Steps p.tables e below (B.U.setTop { F0 m pc lsA st0 with pc := pc + 3, stack := v.toList ++ rest.map (ab_pv b0 b) }) target → Steps p.tables e below (T.setTop (F0 m pc lsA st0)) target) :
    W p l e (ab_room (d + 1) n0 s0) s m args below meth c H locs (h.2.1 - n0) (h.2.2 - s0) E (F0 m pc lsA st0) := by
  intro T hT X
  obtain ⟨v, vm₁, ⟨U', l2, c2, s2⟩, hW₁, X', ⟨r, h', Lc, hv, hR', hQ, hF, e1, hL, e3, e4, e5, e6⟩, hsteps⟩ := hrun T hT X
  dsimp only [Pt.U, Pt.locs, Pt.cells, Pt.slots] at X' hR' hF e1 e5 e6 hsteps
  subst hv; subst e1; subst e5; subst e6
  have hst : (r.map (ab_pv b0 b)).toList ++ rest.map (ab_pv b0 b) = (ab_push r rest).map (ab_pv b0 b) := by
    cases r <;> rfl
  rw [hst] at hsteps
  have hS' : va_S (ab_A b0) s.heap U'.heap (locs ++ Lc) := by
    have hz : H.size ≤ U'.heap.size := by rw [← hT]; exact hF.1
    refine ⟨Nat.le_trans hS.1 hz, fun q g1 g2 => ?_, fun q hq => ?_⟩
    · have g3 := hF.2 q (by show q < T.heap.size; rw [hT]; exact Nat.lt_of_lt_of_le g1 hS.1) g2
      rw [g3]
      show T.heap[q]? = _
      rw [hT]
      exact hS.2.1 q g1 g2
    · rcases List.mem_append.mp hq with g | g
      · exact hS.2.2 q g
      · exact hL q g
  have hc9 : h.2.1 - n0 + (h'.2.1 - h.2.1) = h'.2.1 - n0 := by omega
  have hs9 : h.2.2 - s0 + (h'.2.2 - h.2.2) = h'.2.2 - s0 := by omega
  rw [hc9, hs9] at X'
  obtain ⟨t, a1, b1⟩ := hk r h' hQ U'.heap (locs ++ Lc) lsA hl hR' hS' (by omega) (by omega) U' rfl X'
  exact ⟨t, hsteps t a1, b1⟩
theorem ab_pre (C0 : ab_Cx p s m meth c n D cT b0 b L xs n0) {as : List ab_V} (hR : ab_Rl D cT b0 b L xs h H) {locs : List Loc} (hS : va_S (ab_A b0) s.heap H locs) {T : State} (hT : T.heap = H) {vm₁ : Vm} (hW : s.WarmedH vm₁) : ab_Pre D cT b0 b L xs n0 s0 as h ⟨T.setVm vm₁, locs, h.2.1 - n0, h.2.2 - s0⟩ (as.map (ab_pv b0 b)).toArray := by
  refine ⟨rfl, rfl, rfl, ab_KV.warm (U := T.setVm vm₁) C0.2.2.2.2.2.1 hW, by show ab_Rl _ _ _ _ _ _ _ T.heap; rw [hT]; exact hR, C0.2.2.2.2.2.2.2.2.2.1, ?_⟩
  have hX := C0.2.2.2.2.2.2.2.2.2.2
  have hsz := C0.2.2.2.2.2.2.2.2.1
  have hbl := C0.2.2.2.2.2.2.2.2.2.1
  show va_X b L xs (T.setVm vm₁) T.heap
  have h1 := (hX.moved (U := T.setVm vm₁) hW.alike)
  rw [hT]
  exact h1.kept (hS.2.1 b (by rw [hsz]; exact Nat.lt_of_lt_of_le hbl (Nat.le_add_right _ _)) (Nat.not_le.mpr hbl))
theorem ab_W8 {st rest : List ab_V} {lsA : Array Slot} {st0 : List Value} (hr : ab_cats rest ≤ 8) : 2 * (F0 m pc lsA st0).monitorRoom + ((rest.map (ab_pv b0 b)).map fun v => v.category).sum ≤ 8 :=
  lv_room (by rw [ab_cats_pv]; exact hr)
/-- the words of a call: by its own link or a nest mate's -/
def ab_lk (n i y : Nat) : Prop := Jvm.Cond.methodLink (ab_nm n).cls i (ab_nm y) ∈ lw_tbl ∨ ∃ host, Jvm.Cond.methodLinkNest (ab_nm n).cls i (ab_nm y) host ∈ lw_tbl
theorem ws_static (C0 : ab_Cx p s m meth c n D cT b0 b L xs n0) {Q : ab_Q} {y i : Nat} {as rest : List ab_V} (hd : d + 1 ≤ 2048) (hy : ab_okM y) (hlk : ab_lk n i y) (hw : Jvm.Cond.static (ab_nm y) ∈ lw_tbl) (hlen : (parseMethodDescriptor (ab_nm y).desc).map (fun d => d.parameters.length) = some as.length) (hr : ab_cats rest ≤ 8)
    (hdg : decode (ab_bt n) pc = .ok (.invokestatic i, 3)) (hst : st = as.reverse ++ rest) (hM : ab_CT d y as h Q) (hk : ∀ r h', Q r h' → ab_WG p l e s m args below meth c n D cT b0 b L xs n0 s0 (d + 1) E (pc + 3) ls (ab_push r rest) h') : ab_WG p l e s m args below meth c n D cT b0 b L xs n0 s0 (d + 1) E pc ls st h := by
  intro H locs lsA hl hR hS h1 h2
  have hB := ab_back (p := p) (l := l) (e := e) (s := s) (args := args) (below := below) (D := D) (cT := cT) (b0 := b0) (b := b) (L := L) (xs := xs) (n0 := n0) (s0 := s0) hM hd hy h1 h2 hR.2.1 hR.2.2.1
  have hlen' : ∀ sig, parseMethodDescriptor (ab_nm y).desc = some sig → (as.map (ab_pv b0 b)).length = sig.parameters.length := fun sig hs => by
    rw [hs] at hlen
    rw [List.length_map]
    exact (Option.some.inj hlen).symm
  have hstack : st.map (ab_pv b0 b) = (as.map (ab_pv b0 b)).reverse ++ rest.map (ab_pv b0 b) := by rw [hst, List.map_append, List.map_reverse]
  refine ab_after (y := y) (i := i) (as := as) C0 hdg hk hl hR hS h1 h2 fun T hT X => ?_
  rcases hlk with hlk | ⟨host, hlk⟩
  · exact callS X C0.1 (bytes := ab_bt y) (maxL := ab_ml y) (ret := ab_rt y) C0.2.2.2.2.1 (ws_tw C0 hlk rfl) (ws_tw C0 hw rfl) (ws_tw C0 hy.2.1 rfl) (ws_tw C0 hy.1 rfl) hy.2.2.2 hB rfl (hl.1.trans C0.2.2.2.1.symm) hlen' hstack (ab_W8 (st := st) hr) (by rw [C0.2.1]; exact hdg) (fun vm₁ hW => ab_pre C0 hR hS hT hW)
  · exact va_callSN X C0.1 (bytes := ab_bt y) (maxL := ab_ml y) (ret := ab_rt y) C0.2.2.2.2.1 (ws_tw C0 hlk rfl) (ws_tw C0 hw rfl) (ws_tw C0 hy.2.1 rfl) (ws_tw C0 hy.1 rfl) hy.2.2.2 hB rfl (hl.1.trans C0.2.2.2.1.symm) hlen' hstack (ab_W8 (st := st) hr) (by rw [C0.2.1]; exact hdg) (fun vm₁ hW => ab_pre C0 hR hS hT hW)
theorem ws_virtual (C0 : ab_Cx p s m meth c n D cT b0 b L xs n0) {Q : ab_Q} {y i ci a : Nat} {q : vw_C} {fs : List ab_V} {as rest : List ab_V} (hd : d + 1 ≤ 2048) (hy : ab_okM y) (hlk : ab_lk n i y) (hw1 : Jvm.Cond.instanceMethod (ab_nm y) ∈ lw_tbl) (hw2 : Jvm.Cond.selects q.1 (ab_nm y) (ab_nm y) ∈ lw_tbl) (hc : ab_cl[ci]? = some q) (h9 : ci ≠ 999) (hlen : (parseMethodDescriptor (ab_nm y).desc).map (fun d => d.parameters.length) = some as.length) (hr : ab_cats rest ≤ 8)
    (hdg : decode (ab_bt n) pc = .ok (.invokevirtual i, 3)) (hst : st = as.reverse ++ .inr (.inr (some a)) :: rest) (ho : h.1 a = ab_ob ci fs) (hM : ab_CT d y (.inr (.inr (some a)) :: as) h Q) (hk : ∀ r h', Q r h' → ab_WG p l e s m args below meth c n D cT b0 b L xs n0 s0 (d + 1) E (pc + 3) ls (ab_push r rest) h') : ab_WG p l e s m args below meth c n D cT b0 b L xs n0 s0 (d + 1) E pc ls st h := by
  intro H locs lsA hl hR hS h1 h2
  have hB := ab_back (p := p) (l := l) (e := e) (s := s) (args := args) (below := below) (D := D) (cT := cT) (b0 := b0) (b := b) (L := L) (xs := xs) (n0 := n0) (s0 := s0) hM hd hy h1 h2 hR.2.1 hR.2.2.1
  obtain ⟨g1, g2⟩ := ab_ob_real hR ho h9
  have hat : (ab_ws b0 b cT h)[a]? = some (b0 + a, .inr (ci, fs.map (ab_pv b0 b))) := by rw [ab_ws_at g2, ho]; rfl
  have hlen' : ∀ sig, parseMethodDescriptor (ab_nm y).desc = some sig → (as.map (ab_pv b0 b)).length = sig.parameters.length := fun sig hs => by
    rw [hs] at hlen
    rw [List.length_map]
    exact (Option.some.inj hlen).symm
  have hstack : st.map (ab_pv b0 b) = (as.map (ab_pv b0 b)).reverse ++ .ref (b0 + a) :: rest.map (ab_pv b0 b) := by rw [hst, List.map_append, List.map_reverse, List.map_cons, ab_pv_ref g1]
  have hav : ((.inr (.inr (some a)) :: as : List ab_V).map (ab_pv b0 b)).toArray = (Value.ref (b0 + a) :: as.map (ab_pv b0 b)).toArray := by rw [List.map_cons, ab_pv_ref g1]
  refine ab_after (y := y) (i := i) (as := .inr (.inr (some a)) :: as) C0 hdg hk hl hR hS h1 h2 fun T hT X => ?_
  obtain ⟨cellB, hcB, hoB, hclB⟩ := va_recv C0.2.2.2.2.2.1.2 (ab_Rl_P hR) hc hat
  rw [hav]
  have hpre : ∀ vm₁, s.WarmedH vm₁ → ab_Pre D cT b0 b L xs n0 s0 (.inr (.inr (some a)) :: as) h ⟨T.setVm vm₁, locs, h.2.1 - n0, h.2.2 - s0⟩ (Value.ref (b0 + a) :: as.map (ab_pv b0 b)).toArray := fun vm₁ hW => by rw [← hav]; exact ab_pre C0 hR hS hT hW
  rcases hlk with hlk | ⟨host, hlk⟩
  · exact callV X C0.1 (C := q.1) (bytes := ab_bt y) (maxL := ab_ml y) (ret := ab_rt y) C0.2.2.2.2.1 (ws_tw C0 hlk rfl) (ws_tw C0 hw1 rfl) (ws_tw C0 hw2 rfl) (ws_tw C0 hy.1 rfl) hy.2.2.2 hB (by rw [hT]; exact hcB) hoB hclB rfl (hl.1.trans C0.2.2.2.1.symm) hlen' hstack (ab_W8 (st := st) hr) (by rw [C0.2.1]; exact hdg) hpre
  · exact va_callVN X C0.1 (C := q.1) (bytes := ab_bt y) (maxL := ab_ml y) (ret := ab_rt y) C0.2.2.2.2.1 (ws_tw C0 hlk rfl) (ws_tw C0 hw1 rfl) (ws_tw C0 hw2 rfl) (ws_tw C0 hy.1 rfl) hy.2.2.2 hB (by rw [hT]; exact hcB) hoB hclB rfl (hl.1.trans C0.2.2.2.1.symm) hlen' hstack (ab_W8 (st := st) hr) (by rw [C0.2.1]; exact hdg) hpre
theorem ws_special (C0 : ab_Cx p s m meth c n D cT b0 b L xs n0) {Q : ab_Q} {y i a : Nat} {as rest : List ab_V} (hd : d + 1 ≤ 2048) (hy : ab_okM y) (hlk : ab_lk n i y) (hnm : (ab_nm y).name = "<init>") (hrt : ab_rt y = none) (hw1 : Jvm.Cond.instanceMethod (ab_nm y) ∈ lw_tbl) (hlen : (parseMethodDescriptor (ab_nm y).desc).map (fun d => d.parameters.length) = some as.length) (hr : ab_cats rest ≤ 8)
    (hdg : decode (ab_bt n) pc = .ok (.invokespecial i, 3)) (hst : st = as.reverse ++ .inr (.inr (some a)) :: rest) (hM : ab_CT d y (.inr (.inr (some a)) :: as) h Q) (hk : ∀ r h', Q r h' → ab_WG p l e s m args below meth c n D cT b0 b L xs n0 s0 (d + 1) E (pc + 3) ls (ab_push r rest) h') : ab_WG p l e s m args below meth c n D cT b0 b L xs n0 s0 (d + 1) E pc ls st h := by
  intro H locs lsA hl hR hS h1 h2
  have hB := ab_back (p := p) (l := l) (e := e) (s := s) (args := args) (below := below) (D := D) (cT := cT) (b0 := b0) (b := b) (L := L) (xs := xs) (n0 := n0) (s0 := s0) hM hd hy h1 h2 hR.2.1 hR.2.2.1
  have hlen' : ∀ sig, parseMethodDescriptor (ab_nm y).desc = some sig → (as.map (ab_pv b0 b)).length = sig.parameters.length := fun sig hs => by
    rw [hs] at hlen
    rw [List.length_map]
    exact (Option.some.inj hlen).symm
  have e0 : ab_pv b0 b (.inr (.inr (some a))) = .ref (ab_phi b0 b a) := rfl
  have hstack : st.map (ab_pv b0 b) = (as.map (ab_pv b0 b)).reverse ++ .ref (ab_phi b0 b a) :: rest.map (ab_pv b0 b) := by rw [hst, List.map_append, List.map_reverse, List.map_cons, e0]
  have hav : ((.inr (.inr (some a)) :: as : List ab_V).map (ab_pv b0 b)).toArray = (Value.ref (ab_phi b0 b a) :: as.map (ab_pv b0 b)).toArray := by rw [List.map_cons, e0]
  have hcode : Jvm.Cond.code (ab_nm y) (ab_bt y) (ab_ml y) none ∈ lw_tbl := by have h3 := hy.1; rw [hrt] at h3; exact h3
  refine ab_after (y := y) (i := i) (as := .inr (.inr (some a)) :: as) C0 hdg hk hl hR hS h1 h2 fun T hT X => ?_
  rw [hav]
  have hpre : ∀ vm₁, s.WarmedH vm₁ → ab_Pre D cT b0 b L xs n0 s0 (.inr (.inr (some a)) :: as) h ⟨T.setVm vm₁, locs, h.2.1 - n0, h.2.2 - s0⟩ (Value.ref (ab_phi b0 b a) :: as.map (ab_pv b0 b)).toArray := fun vm₁ hW => by rw [← hav]; exact ab_pre C0 hR hS hT hW
  rcases hlk with hlk | ⟨host, hlk⟩
  · exact callI X C0.1 (bytes := ab_bt y) (maxL := ab_ml y) C0.2.2.2.2.1 hnm (ws_tw C0 hlk rfl) (ws_tw C0 hw1 rfl) (ws_tw C0 hcode rfl) hy.2.2.2 hB rfl (hl.1.trans C0.2.2.2.1.symm) hlen' hstack (ab_W8 (st := st) hr) (by rw [C0.2.1]; exact hdg) hpre
  · exact va_callIN X C0.1 (bytes := ab_bt y) (maxL := ab_ml y) C0.2.2.2.2.1 hnm (ws_tw C0 hlk rfl) (ws_tw C0 hw1 rfl) (ws_tw C0 hcode rfl) hy.2.2.2 hB rfl (hl.1.trans C0.2.2.2.1.symm) hlen' hstack (ab_W8 (st := st) hr) (by rw [C0.2.1]; exact hdg) hpre
end AB5
