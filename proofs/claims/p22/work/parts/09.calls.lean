/-! ===== rules: calls (own text) ===== -/
section AB5
variable {p : Program} {l : Launch} {e : Env} {s : State} {m : MethodId} {args : Array Value} {below : List Frame} {meth : Method} {c : Code} {n : Nat} {D : va_G} {cT : Nat → ClassId} {b0 : Nat} {b : Nat → Nat} {S : ab_Sp} {n0 s0 d : Nat} {E : State → Prop} {pc : Nat} {ls : ab_L} {st : List ab_V} {h : ab_H} {H : Heap}
/-- what a called method must have in the tables -/
def ab_okM (y : Nat) : Prop := Jvm.Cond.code (ab_nm y) (ab_bt y) (ab_ml y) (ab_rt y) ∈ lw_tbl ∧ Jvm.Cond.initialized (ab_nm y).cls ∈ lw_tbl ∧ ab_ml y ≤ 21 ∧ (ab_nm y).cls ≠ "java/lang/invoke/MethodHandle" ∧ (ab_nm y).cls ≠ "java/lang/invoke/VarHandle"
def ab_Pre (D : va_G) (cT : Nat → ClassId) (b0 : Nat) (b : Nat → Nat) (S : ab_Sp) (n0 s0 : Nat) (as : List ab_V) (h : ab_H) : Pt → Array Value → Prop := fun A a => A.cells = h.2.1 - n0 ∧ A.slots = h.2.2 - s0 ∧ ab_Pc D cT b0 b S as h a A.U
def ab_Pst (Q : ab_Q) (D : va_G) (cT : Nat → ClassId) (b0 : Nat) (b : Nat → Nat) (S : ab_Sp) (h : ab_H) : Pt → Array Value → Option Value → Pt → Prop := fun A _ v B =>
  ∃ (r : Option ab_V) (h' : ab_H) (Lc : List Loc), v = r.map (ab_pv b0 b) ∧ ab_Rl D cT b0 b S h' B.U.heap ∧ Q r h' ∧ va_F (ab_A b0) A.U B.U ∧ B.locs = A.locs ++ Lc ∧ (∀ q ∈ Lc, ab_A b0 q.base) ∧ h.2.1 ≤ h'.2.1 ∧ h.2.2 ≤ h'.2.2 ∧ B.cells = A.cells + (h'.2.1 - h.2.1) ∧ B.slots = A.slots + (h'.2.2 - h.2.2)
theorem ab_Sc.moved {a : Nat} {c : ab_C} {u U : State} {H' : Heap} (hvm : u.vm.Alike U.vm) (h : ab_Sc b0 b a u H' c) : ab_Sc b0 b a U H' c := by
  rcases c with ⟨t, k, f⟩ | ⟨t, k, f⟩ | ⟨c9, fs⟩
  · rcases h with h | ⟨h1, h2⟩
    · exact Or.inl h
    · exact Or.inr ⟨h1, h2.moved hvm⟩
  · exact h
  · rcases h with h | h | ⟨h1, v, h2, h3, h4, h5⟩
    · exact Or.inl h
    · exact Or.inr (Or.inl h)
    · exact Or.inr (Or.inr ⟨h1, v, h2, h3.moved hvm, h4.moved hvm, h5.moved hvm⟩)
theorem ab_Sc.kept {a : Nat} {c : ab_C} {U : State} {H' H1 : Heap} (hq : ∀ x : Nat, x < H'.size → ¬ ab_A b0 x → H1[x]? = H'[x]?) (h : ab_Sc b0 b a U H' c) : ab_Sc b0 b a U H1 c := by
  rcases c with ⟨t, k, f⟩ | ⟨t, k, f⟩ | ⟨c9, fs⟩
  · rcases h with h | ⟨h1, h2⟩
    · exact Or.inl h
    · exact Or.inr ⟨h1, h2.kept hq⟩
  · exact h
  · rcases h with h | h | ⟨h1, v, h2, h3, h4, h5⟩
    · exact Or.inl h
    · exact Or.inr (Or.inl h)
    · exact Or.inr (Or.inr ⟨h1, v, h2, h3.kept hq, h4.kept hq, h5.kept hq⟩)
theorem ab_ZS.go {u U : State} {H' H1 : Heap} (hW : u.WarmedH U.vm) (hsz : b0 ≤ H'.size) (hq : ∀ x : Nat, x < H'.size → ¬ ab_A b0 x → H1[x]? = H'[x]?) (h : ab_ZS b0 b S u H') : ab_ZS b0 b S U H1 := by
  obtain ⟨⟨L, xs, z1, z2, z3⟩, h2, h3, h4⟩ := h
  refine ⟨⟨L, xs, z1, z2, (z3.moved hW.alike).kept (hq _ (Nat.lt_of_lt_of_le z2 hsz) (Nat.not_le.mpr z2))⟩, fun a ha => ((h2 a ha).moved hW.alike).kept hq, fun i k tx hi => ?_, fun i C nn dd hi => ?_⟩
  · obtain ⟨a, e1, e2⟩ := h3 i k tx hi
    exact ⟨a, e1, e2.warm hW⟩
  · obtain ⟨v, e1, e2⟩ := h4 i C nn dd hi
    exact ⟨v, e1, (e2.moved hW.alike).kept hq⟩
theorem ab_back {y : Nat} {as : List ab_V} {Q : ab_Q} (hM : ab_CT d y as h Q) (hd : d + 1 ≤ 2048) (hy : ab_okM y) (hn0 : n0 ≤ h.2.1) (hs0 : s0 ≤ h.2.2) (hcm : h.2.1 ≤ ab_CM) (hsm : h.2.2 ≤ ab_SM) :
    Back l (ab_room (d + 1) n0 s0) p e below s args (ab_nm y) 3 8 (ab_Pre D cT b0 b S n0 s0 as h) (ab_Pst Q D cT b0 b S h) := by
  obtain ⟨w1, w2, w3, w4, w5⟩ := hy
  have hcm' : h.2.1 ≤ 600000 := hcm
  have hsm' : h.2.2 ≤ 5000000 := hsm
  refine Back.of_free (bytes := ab_bt y) (maxL := ab_ml y) (ret := ab_rt y) (E := fun a st o t L9 k9 n9 => (∀ q ∈ L9, ab_A b0 q.base) ∧ ab_Qm Q D cT b0 b S h.2.1 h.2.2 k9 n9 a st o t) (hM (by omega) l D cT b0 b S) (Nat.le_refl _) ?_ ?_ ?_ (fun _ _ _ _ _ _ _ _ _ => trivial) ?_ ?_
  · show 8 + (ab_ml y + 11) + (84000 - 40 * (2048 - d)) ≤ 84000 - 40 * (2048 - (d + 1))
    omega
  · intro m meth c A a X hp
    obtain ⟨hc, hs, -, hKV, -⟩ := hp
    have hcode : (Jvm.Cond.code (ab_nm y) (ab_bt y) (ab_ml y) (ab_rt y)).before a A.U = true := va_Nw.use rfl (hKV.1 _ w1 rfl)
    refine ⟨atoms_intro fun w hw => ?_, hcode, va_Nw.use rfl (hKV.1 _ w2 rfl), ?_, ?_⟩
    · rw [List.mem_singleton.mp hw]; exact hcode
    · rw [hc]; show h.2.1 - n0 + (600000 - h.2.1) ≤ 600000 - n0; omega
    · rw [hs]; show h.2.2 - s0 + (5000000 - h.2.2) ≤ 5000000 - s0; omega
  · intro m meth c A a g mk X hp
    obtain ⟨-, -, ha, hKV, hR, hX⟩ := hp
    exact ⟨ha, ab_KV.warm (U := A.U.calling g mk a) hKV (State.WarmedH.refl A.U), hR, ab_ZS.go (U := A.U.calling g mk a) (H' := A.U.heap) (State.WarmedH.refl A.U) (by rw [hR.1]; exact Nat.le_add_right _ _) (fun _ _ _ => rfl) hX⟩
  · intro a st o t hq
    obtain ⟨mc, ms, Lc, hF, hL, hq⟩ := hq
    exact ⟨Lc, mc, ms, hF, hL, hq⟩
  · intro m meth c A a g mk v t L9 k9 n9 X hp hq hF hE
    obtain ⟨hL, r, h', hv, hR, e1, e2, hQ, hz, ho⟩ := hE
    refine ⟨r, h', L9, Outcome.returned.inj hv, hR, hQ, ⟨hz, ho⟩, rfl, hL, by omega, by omega, ?_, ?_⟩
    · show A.cells + k9 = A.cells + (h'.2.1 - h.2.1); omega
    · show A.slots + n9 = A.slots + (h'.2.2 - h.2.2); omega
/-- what comes behind a call -/
theorem ab_after (C0 : ab_Cx p s m meth c n D cT b0 b S n0) {Q : ab_Q} {y i : Nat} {as rest : List ab_V} {ins : Instr} (hdg : decode (ab_bt n) pc = .ok (ins, 3)) (hk : ∀ r h', Q r h' → ab_WG p l e s m args below meth c n D cT b0 b S n0 s0 (d + 1) E (pc + 3) ls (ab_push r rest) h') {locs : List Loc} {lsA : Array Slot} (hl : lv_has lsA (ab_ml n) (ab_pl b0 b ls)) (hR : ab_Rl D cT b0 b S h H) (hS : va_S (ab_A b0) s.heap H locs) (h1 : n0 ≤ h.2.1) (h2 : s0 ≤ h.2.2) {st0 : List Value}
    (hrun : ∀ T : State, T.heap = H → Stand p l e (ab_room (d + 1) n0 s0) s m args below meth c T locs (h.2.1 - n0) (h.2.2 - s0) → ∃ (v : Option Value) (vm₁ : Vm) (B : Pt), s.WarmedH vm₁ ∧ Stand p l e (ab_room (d + 1) n0 s0) s m args below meth c B.U B.locs B.cells B.slots ∧ ab_Pst Q D cT b0 b S h ⟨T.setVm vm₁, locs, h.2.1 - n0, h.2.2 - s0⟩ (as.map (ab_pv b0 b)).toArray v B ∧ ∀ target, Steps p.tables e below (B.U.setTop { F0 m pc lsA st0 with pc := pc + 3, stack := v.toList ++ rest.map (ab_pv b0 b) }) target → Steps p.tables e below (T.setTop (F0 m pc lsA st0)) target) :
    W p l e (ab_room (d + 1) n0 s0) s m args below meth c H locs (h.2.1 - n0) (h.2.2 - s0) E (F0 m pc lsA st0) := by
  intro T hT X
  obtain ⟨v, vm₁, ⟨U', l2, c2, s2⟩, hW₁, X', ⟨r, h', Lc, hv, hR', hQ, hF, e1, hL, e3, e4, e5, e6⟩, hsteps⟩ := hrun T hT X
  dsimp only [Pt.U, Pt.locs, Pt.cells, Pt.slots] at X' hR' hF e1 e5 e6 hsteps
  subst hv; subst e1; subst e5; subst e6
  have hst : (r.map (ab_pv b0 b)).toList ++ rest.map (ab_pv b0 b) = (ab_push r rest).map (ab_pv b0 b) := by
    cases r <;> rfl
  rw [hst] at hsteps
  have hS' : va_S (ab_A b0) s.heap U'.heap (locs ++ Lc) := by
    have hz : H.size ≤ U'.heap.size := by rw [← hT]; exact hF.1
    refine ⟨Nat.le_trans hS.1 hz, fun q g1 g2 => ?_, fun q hq => ?_⟩
    · have g3 := hF.2 q (by show q < T.heap.size; rw [hT]; exact Nat.lt_of_lt_of_le g1 hS.1) g2
      rw [g3]
      show T.heap[q]? = _
      rw [hT]
      exact hS.2.1 q g1 g2
    · rcases List.mem_append.mp hq with g | g
      · exact hS.2.2 q g
      · exact hL q g
  have hc9 : h.2.1 - n0 + (h'.2.1 - h.2.1) = h'.2.1 - n0 := by omega
  have hs9 : h.2.2 - s0 + (h'.2.2 - h.2.2) = h'.2.2 - s0 := by omega
  rw [hc9, hs9] at X'
  obtain ⟨t, a1, b1⟩ := hk r h' hQ U'.heap (locs ++ Lc) lsA hl hR' hS' (by omega) (by omega) U' rfl X'
  exact ⟨t, hsteps t a1, b1⟩
theorem ab_pre (C0 : ab_Cx p s m meth c n D cT b0 b S n0) {as : List ab_V} (hR : ab_Rl D cT b0 b S h H) {locs : List Loc} (hS : va_S (ab_A b0) s.heap H locs) {T : State} (hT : T.heap = H) {vm₁ : Vm} (hW : s.WarmedH vm₁) : ab_Pre D cT b0 b S n0 s0 as h ⟨T.setVm vm₁, locs, h.2.1 - n0, h.2.2 - s0⟩ (as.map (ab_pv b0 b)).toArray := by
  have hX := ab_Cn C0
  have hsz := C0.2.2.2.2.2.2.2.2.1
  have h0 : b0 ≤ s.heap.size := by rw [hsz]; exact Nat.le_add_right _ _
  have h1 : T.heap = H := hT
  refine ⟨rfl, rfl, rfl, ab_KV.warm (U := T.setVm vm₁) C0.2.2.2.2.2.1 hW, by show ab_Rl _ _ _ _ _ _ T.heap; rw [hT]; exact hR, ?_⟩
  show ab_ZS b0 b S (T.setVm vm₁) T.heap
  rw [hT]
  exact hX.go (U := T.setVm vm₁) hW h0 hS.2.1
theorem ab_W8 {st rest : List ab_V} {lsA : Array Slot} {st0 : List Value} (hr : ab_cats rest ≤ 8) : 2 * (F0 m pc lsA st0).monitorRoom + ((rest.map (ab_pv b0 b)).map fun v => v.category).sum ≤ 8 :=
  lv_room (by rw [ab_cats_pv]; exact hr)
/-- the words of a call: by its own link or a nest mate's -/
def ab_lk (n i y : Nat) : Prop := Jvm.Cond.methodLink (ab_nm n).cls i (ab_nm y) ∈ lw_tbl ∨ ∃ host, Jvm.Cond.methodLinkNest (ab_nm n).cls i (ab_nm y) host ∈ lw_tbl
theorem ws_static (C0 : ab_Cx p s m meth c n D cT b0 b S n0) {Q : ab_Q} {y i : Nat} {as rest : List ab_V} (hd : d + 1 ≤ 2048) (hy : ab_okM y) (hlk : ab_lk n i y) (hw : Jvm.Cond.static (ab_nm y) ∈ lw_tbl) (hlen : (parseMethodDescriptor (ab_nm y).desc).map (fun d => d.parameters.length) = some as.length) (hr : ab_cats rest ≤ 8)
    (hdg : decode (ab_bt n) pc = .ok (.invokestatic i, 3)) (hst : st = as.reverse ++ rest) (hM : ab_CT d y as h Q) (hk : ∀ r h', Q r h' → ab_WG p l e s m args below meth c n D cT b0 b S n0 s0 (d + 1) E (pc + 3) ls (ab_push r rest) h') : ab_WG p l e s m args below meth c n D cT b0 b S n0 s0 (d + 1) E pc ls st h := by
  intro H locs lsA hl hR hS h1 h2
  have hB := ab_back (p := p) (l := l) (e := e) (s := s) (args := args) (below := below) (D := D) (cT := cT) (b0 := b0) (b := b) (S := S) (n0 := n0) (s0 := s0) hM hd hy h1 h2 hR.2.1 hR.2.2.1
  have hlen' : ∀ sig, parseMethodDescriptor (ab_nm y).desc = some sig → (as.map (ab_pv b0 b)).length = sig.parameters.length := fun sig hs => by
    rw [hs] at hlen
    rw [List.length_map]
    exact (Option.some.inj hlen).symm
  have hstack : st.map (ab_pv b0 b) = (as.map (ab_pv b0 b)).reverse ++ rest.map (ab_pv b0 b) := by rw [hst, List.map_append, List.map_reverse]
  refine ab_after (y := y) (i := i) (as := as) C0 hdg hk hl hR hS h1 h2 fun T hT X => ?_
  rcases hlk with hlk | ⟨host, hlk⟩
  · exact callS X C0.1 (bytes := ab_bt y) (maxL := ab_ml y) (ret := ab_rt y) C0.2.2.2.2.1 (ws_tw C0 hlk rfl) (ws_tw C0 hw rfl) (ws_tw C0 hy.2.1 rfl) (ws_tw C0 hy.1 rfl) hy.2.2.2 hB rfl (hl.1.trans C0.2.2.2.1.symm) hlen' hstack (ab_W8 (st := st) hr) (by rw [C0.2.1]; exact hdg) (fun vm₁ hW => ab_pre C0 hR hS hT hW)
  · exact va_callSN X C0.1 (bytes := ab_bt y) (maxL := ab_ml y) (ret := ab_rt y) C0.2.2.2.2.1 (ws_tw C0 hlk rfl) (ws_tw C0 hw rfl) (ws_tw C0 hy.2.1 rfl) (ws_tw C0 hy.1 rfl) hy.2.2.2 hB rfl (hl.1.trans C0.2.2.2.1.symm) hlen' hstack (ab_W8 (st := st) hr) (by rw [C0.2.1]; exact hdg) (fun vm₁ hW => ab_pre C0 hR hS hT hW)
/-- who is called: an object that was made, or a String constant -/
theorem ab_rcv (C0 : ab_Cx p s m meth c n D cT b0 b S n0) (hR : ab_Rl D cT b0 b S h H) {locs : List Loc} (hS : va_S (ab_A b0) s.heap H locs) {ci a : Nat} {q : vw_C} {fs : List ab_V} (hc : ab_cl[ci]? = some q) (h9 : ci < 990) (ho : h.1 a = ab_ob ci fs) : ∃ cell : Cell, H[b a]? = some cell ∧ cell.vm.isStatics = false ∧ s.vm.findClass q.1 = some cell.cls := by
  rcases Nat.lt_or_ge a ab_scr with ha | ha
  · have g2 := ab_made hR ha ho (fun e => by cases e; omega)
    have hat : (ab_ws b0 b cT h)[a]? = some (b a, .inr (ci, fs.map (ab_pv b0 b))) := by rw [ab_ws_at g2, ho]; rfl
    exact va_recv C0.2.2.2.2.2.1.2 (ab_Rl_P hR) hc hat
  · have h3 := ab_sp_of hR (ab_Cn C0) ha
    rw [ho] at h3
    rcases h3 with h3 | h3 | ⟨rfl, v, -, h3, -⟩
    · omega
    · omega
    · cases hc
      exact va_Orecv h3 hS
theorem ws_virtual (C0 : ab_Cx p s m meth c n D cT b0 b S n0) {Q : ab_Q} {y i ci a : Nat} {q : vw_C} {fs : List ab_V} {as rest : List ab_V} (hd : d + 1 ≤ 2048) (hy : ab_okM y) (hlk : ab_lk n i y) (hw1 : Jvm.Cond.instanceMethod (ab_nm y) ∈ lw_tbl) (hw2 : Jvm.Cond.selects q.1 (ab_nm y) (ab_nm y) ∈ lw_tbl) (hc : ab_cl[ci]? = some q) (h9 : ci < 990) (hlen : (parseMethodDescriptor (ab_nm y).desc).map (fun d => d.parameters.length) = some as.length) (hr : ab_cats rest ≤ 8)
    (hdg : decode (ab_bt n) pc = .ok (.invokevirtual i, 3)) (hst : st = as.reverse ++ .inr (.inr (some a)) :: rest) (ho : h.1 a = ab_ob ci fs) (hM : ab_CT d y (.inr (.inr (some a)) :: as) h Q) (hk : ∀ r h', Q r h' → ab_WG p l e s m args below meth c n D cT b0 b S n0 s0 (d + 1) E (pc + 3) ls (ab_push r rest) h') : ab_WG p l e s m args below meth c n D cT b0 b S n0 s0 (d + 1) E pc ls st h := by
  intro H locs lsA hl hR hS h1 h2
  have hB := ab_back (p := p) (l := l) (e := e) (s := s) (args := args) (below := below) (D := D) (cT := cT) (b0 := b0) (b := b) (S := S) (n0 := n0) (s0 := s0) hM hd hy h1 h2 hR.2.1 hR.2.2.1
  have hlen' : ∀ sig, parseMethodDescriptor (ab_nm y).desc = some sig → (as.map (ab_pv b0 b)).length = sig.parameters.length := fun sig hs => by
    rw [hs] at hlen
    rw [List.length_map]
    exact (Option.some.inj hlen).symm
  have hstack : st.map (ab_pv b0 b) = (as.map (ab_pv b0 b)).reverse ++ .ref (b a) :: rest.map (ab_pv b0 b) := by rw [hst, List.map_append, List.map_reverse, List.map_cons, ab_pv_ref]
  have hav : ((.inr (.inr (some a)) :: as : List ab_V).map (ab_pv b0 b)).toArray = (Value.ref (b a) :: as.map (ab_pv b0 b)).toArray := by rw [List.map_cons, ab_pv_ref]
  refine ab_after (y := y) (i := i) (as := .inr (.inr (some a)) :: as) C0 hdg hk hl hR hS h1 h2 fun T hT X => ?_
  obtain ⟨cellB, hcB, hoB, hclB⟩ := ab_rcv C0 hR hS hc h9 ho
  rw [hav]
  have hpre : ∀ vm₁, s.WarmedH vm₁ → ab_Pre D cT b0 b S n0 s0 (.inr (.inr (some a)) :: as) h ⟨T.setVm vm₁, locs, h.2.1 - n0, h.2.2 - s0⟩ (Value.ref (b a) :: as.map (ab_pv b0 b)).toArray := fun vm₁ hW => by rw [← hav]; exact ab_pre C0 hR hS hT hW
  rcases hlk with hlk | ⟨host, hlk⟩
  · exact callV X C0.1 (C := q.1) (bytes := ab_bt y) (maxL := ab_ml y) (ret := ab_rt y) C0.2.2.2.2.1 (ws_tw C0 hlk rfl) (ws_tw C0 hw1 rfl) (ws_tw C0 hw2 rfl) (ws_tw C0 hy.1 rfl) hy.2.2.2 hB (by rw [hT]; exact hcB) hoB hclB rfl (hl.1.trans C0.2.2.2.1.symm) hlen' hstack (ab_W8 (st := st) hr) (by rw [C0.2.1]; exact hdg) hpre
  · exact va_callVN X C0.1 (C := q.1) (bytes := ab_bt y) (maxL := ab_ml y) (ret := ab_rt y) C0.2.2.2.2.1 (ws_tw C0 hlk rfl) (ws_tw C0 hw1 rfl) (ws_tw C0 hw2 rfl) (ws_tw C0 hy.1 rfl) hy.2.2.2 hB (by rw [hT]; exact hcB) hoB hclB rfl (hl.1.trans C0.2.2.2.1.symm) hlen' hstack (ab_W8 (st := st) hr) (by rw [C0.2.1]; exact hdg) hpre
theorem ws_special (C0 : ab_Cx p s m meth c n D cT b0 b S n0) {Q : ab_Q} {y i a : Nat} {as rest : List ab_V} (hd : d + 1 ≤ 2048) (hy : ab_okM y) (hlk : ab_lk n i y) (hnm : (ab_nm y).name = "<init>") (hrt : ab_rt y = none) (hw1 : Jvm.Cond.instanceMethod (ab_nm y) ∈ lw_tbl) (hlen : (parseMethodDescriptor (ab_nm y).desc).map (fun d => d.parameters.length) = some as.length) (hr : ab_cats rest ≤ 8)
    (hdg : decode (ab_bt n) pc = .ok (.invokespecial i, 3)) (hst : st = as.reverse ++ .inr (.inr (some a)) :: rest) (hM : ab_CT d y (.inr (.inr (some a)) :: as) h Q) (hk : ∀ r h', Q r h' → ab_WG p l e s m args below meth c n D cT b0 b S n0 s0 (d + 1) E (pc + 3) ls (ab_push r rest) h') : ab_WG p l e s m args below meth c n D cT b0 b S n0 s0 (d + 1) E pc ls st h := by
  intro H locs lsA hl hR hS h1 h2
  have hB := ab_back (p := p) (l := l) (e := e) (s := s) (args := args) (below := below) (D := D) (cT := cT) (b0 := b0) (b := b) (S := S) (n0 := n0) (s0 := s0) hM hd hy h1 h2 hR.2.1 hR.2.2.1
  have hlen' : ∀ sig, parseMethodDescriptor (ab_nm y).desc = some sig → (as.map (ab_pv b0 b)).length = sig.parameters.length := fun sig hs => by
    rw [hs] at hlen
    rw [List.length_map]
    exact (Option.some.inj hlen).symm
  have e0 : ab_pv b0 b (.inr (.inr (some a))) = .ref (ab_phi b0 b a) := rfl
  have hstack : st.map (ab_pv b0 b) = (as.map (ab_pv b0 b)).reverse ++ .ref (ab_phi b0 b a) :: rest.map (ab_pv b0 b) := by rw [hst, List.map_append, List.map_reverse, List.map_cons, e0]
  have hav : ((.inr (.inr (some a)) :: as : List ab_V).map (ab_pv b0 b)).toArray = (Value.ref (ab_phi b0 b a) :: as.map (ab_pv b0 b)).toArray := by rw [List.map_cons, e0]
  have hcode : Jvm.Cond.code (ab_nm y) (ab_bt y) (ab_ml y) none ∈ lw_tbl := by have h3 := hy.1; rw [hrt] at h3; exact h3
  refine ab_after (y := y) (i := i) (as := .inr (.inr (some a)) :: as) C0 hdg hk hl hR hS h1 h2 fun T hT X => ?_
  rw [hav]
  have hpre : ∀ vm₁, s.WarmedH vm₁ → ab_Pre D cT b0 b S n0 s0 (.inr (.inr (some a)) :: as) h ⟨T.setVm vm₁, locs, h.2.1 - n0, h.2.2 - s0⟩ (Value.ref (ab_phi b0 b a) :: as.map (ab_pv b0 b)).toArray := fun vm₁ hW => by rw [← hav]; exact ab_pre C0 hR hS hT hW
  rcases hlk with hlk | ⟨host, hlk⟩
  · exact callI X C0.1 (bytes := ab_bt y) (maxL := ab_ml y) C0.2.2.2.2.1 hnm (ws_tw C0 hlk rfl) (ws_tw C0 hw1 rfl) (ws_tw C0 hcode rfl) hy.2.2.2 hB rfl (hl.1.trans C0.2.2.2.1.symm) hlen' hstack (ab_W8 (st := st) hr) (by rw [C0.2.1]; exact hdg) hpre
  · exact va_callIN X C0.1 (bytes := ab_bt y) (maxL := ab_ml y) C0.2.2.2.2.1 hnm (ws_tw C0 hlk rfl) (ws_tw C0 hw1 rfl) (ws_tw C0 hcode rfl) hy.2.2.2 hB rfl (hl.1.trans C0.2.2.2.1.symm) hlen' hstack (ab_W8 (st := st) hr) (by rw [C0.2.1]; exact hdg) hpre
/-- a private method is called, whoever its receiver is -/
theorem ab_callVP {R : Room} {T : State} {locs : List Loc} {cells slots : Nat} (X : Stand p l e R s m args below meth c T locs cells slots) (hexec : p.tables.exec = Jvm.exec) {own C2 : String} {index : Nat} {y x2 : MethodName} {bytes : ByteArray} {maxL : Nat} {ret : Option FieldType}
    (hown : s.vm.findClass own = some m.cls) (hlink : (Cond.methodLink own index y).before args s = true) (hinst : (Cond.instanceMethod y).before args s = true) (hpriv : (Cond.privateMethod y).before args s = true) (hsel : (Cond.selects C2 x2 x2).before args s = true) (hx2 : x2.cls = y.cls)
    (hcode : (Cond.code y bytes maxL ret).before args s = true) (hy : y.cls ≠ "java/lang/invoke/MethodHandle" ∧ y.cls ≠ "java/lang/invoke/VarHandle")
    {W : Nat} {Pre : Pt → Array Value → Prop} {Post : Pt → Array Value → Option Value → Pt → Prop} (hK : Back l R p e below s args y 3 W Pre Post)
    {a : Addr} {cellB : Cell} (hcell : T.heap[a]? = some cellB) (hobj : cellB.vm.isStatics = false)
    {g : JFrame} (hg : g.method = m) (hsize : g.locals.size = c.maxLocals) {argsL rest : List Value} (hlen : ∀ sig, parseMethodDescriptor y.desc = some sig → argsL.length = sig.parameters.length)
    (hstack : g.stack = argsL.reverse ++ .ref a :: rest) (hW : 2 * g.monitorRoom + (rest.map fun v => v.category).sum ≤ W) (hdg : decode c.code g.pc = .ok (.invokevirtual index, 3))
    (hpre : ∀ vm₁, s.WarmedH vm₁ → Pre ⟨T.setVm vm₁, locs, cells, slots⟩ (Value.ref a :: argsL).toArray) :
    ∃ (v : Option Value) (vm₁ : Vm) (B : Pt), s.WarmedH vm₁ ∧ Stand p l e R s m args below meth c B.U B.locs B.cells B.slots ∧ Post ⟨T.setVm vm₁, locs, cells, slots⟩ (Value.ref a :: argsL).toArray v B ∧
      ∀ target, Steps p.tables e below (B.U.setTop { g with pc := g.pc + 3, stack := v.toList ++ rest }) target → Steps p.tables e below (T.setTop g) target := by
  obtain ⟨mk, r, hnamed, hr, hst, hab⟩ := Cond.instanceMethod_spec hinst
  obtain ⟨r', c', hr', -, -, -, -, -, -, hsig⟩ := Cond.code_spec hnamed hcode
  cases hr.symm.trans hr'
  obtain ⟨c2, m1, m2, q1, q2, q3, q4, kP, hkP, hkPi⟩ := Cond.selects_spec hsel
  have hcl : m2.cls = mk.cls := by
    have e1 := findClass_of_methodNamed q3
    have e2 := findClass_of_methodNamed hnamed
    rw [hx2] at e1
    exact Option.some.inj (e1.symm.trans e2)
  rw [hcl] at hkP
  have hpick : selectMethod e.platform s.vm cellB.cls mk = .method mk := selectMethod_private hr (Cond.privateMethod_at hpriv mk r hnamed hr)
  obtain ⟨vm₁, X₁, hstep⟩ := X.invokevirtual hexec hown hlink hnamed hr hst hkP hkPi hy (a := a) (cell := cellB) hcell
    (fun z hz => by rw [hz] at hobj; cases hobj) hpick hr hab hkP hkPi (g := g) hg (argsL := argsL) (rest := rest) (hlen _ hsig) hstack hdg
  obtain ⟨v, B, X', hpost, hsteps⟩ := hK m meth c ⟨T.setVm vm₁, locs, cells, slots⟩ { g with stack := rest } (.invokevirtual index) mk (Value.ref a :: argsL).toArray X₁ hg hsize hdg hW (X₁.named hnamed) (hpre vm₁ X₁.warmed)
  exact ⟨v, vm₁, B, X₁.warmed, X', hpost, fun target ht => hstep _ fun acts => by rw [doInvoke_state]; exact hsteps.trans ht⟩
theorem ws_virtualP (C0 : ab_Cx p s m meth c n D cT b0 b S n0) {Q : ab_Q} {y i ci a : Nat} {q : vw_C} {fs : List ab_V} {as rest : List ab_V} (hd : d + 1 ≤ 2048) (hy : ab_okM y) (hlk : Jvm.Cond.methodLink (ab_nm n).cls i (ab_nm y) ∈ lw_tbl) (hw1 : Jvm.Cond.instanceMethod (ab_nm y) ∈ lw_tbl) (hw2 : Jvm.Cond.privateMethod (ab_nm y) ∈ lw_tbl) {x2 : MethodName} {C2 : String} (hw3 : Jvm.Cond.selects C2 x2 x2 ∈ lw_tbl) (hx2 : x2.cls = (ab_nm y).cls) (hc : ab_cl[ci]? = some q) (h9 : ci < 990) (hlen : (parseMethodDescriptor (ab_nm y).desc).map (fun d => d.parameters.length) = some as.length) (hr : ab_cats rest ≤ 8)
    (hdg : decode (ab_bt n) pc = .ok (.invokevirtual i, 3)) (hst : st = as.reverse ++ .inr (.inr (some a)) :: rest) (ho : h.1 a = ab_ob ci fs) (hM : ab_CT d y (.inr (.inr (some a)) :: as) h Q) (hk : ∀ r h', Q r h' → ab_WG p l e s m args below meth c n D cT b0 b S n0 s0 (d + 1) E (pc + 3) ls (ab_push r rest) h') : ab_WG p l e s m args below meth c n D cT b0 b S n0 s0 (d + 1) E pc ls st h := by
  intro H locs lsA hl hR hS h1 h2
  have hB := ab_back (p := p) (l := l) (e := e) (s := s) (args := args) (below := below) (D := D) (cT := cT) (b0 := b0) (b := b) (S := S) (n0 := n0) (s0 := s0) hM hd hy h1 h2 hR.2.1 hR.2.2.1
  have hlen' : ∀ sig, parseMethodDescriptor (ab_nm y).desc = some sig → (as.map (ab_pv b0 b)).length = sig.parameters.length := fun sig hs => by
    rw [hs] at hlen
    rw [List.length_map]
    exact (Option.some.inj hlen).symm
  have hstack : st.map (ab_pv b0 b) = (as.map (ab_pv b0 b)).reverse ++ .ref (b a) :: rest.map (ab_pv b0 b) := by rw [hst, List.map_append, List.map_reverse, List.map_cons, ab_pv_ref]
  have hav : ((.inr (.inr (some a)) :: as : List ab_V).map (ab_pv b0 b)).toArray = (Value.ref (b a) :: as.map (ab_pv b0 b)).toArray := by rw [List.map_cons, ab_pv_ref]
  refine ab_after (y := y) (i := i) (as := .inr (.inr (some a)) :: as) C0 hdg hk hl hR hS h1 h2 fun T hT X => ?_
  obtain ⟨cellB, hcB, hoB, hclB⟩ := ab_rcv C0 hR hS hc h9 ho
  rw [hav]
  have hpre : ∀ vm₁, s.WarmedH vm₁ → ab_Pre D cT b0 b S n0 s0 (.inr (.inr (some a)) :: as) h ⟨T.setVm vm₁, locs, h.2.1 - n0, h.2.2 - s0⟩ (Value.ref (b a) :: as.map (ab_pv b0 b)).toArray := fun vm₁ hW => by rw [← hav]; exact ab_pre C0 hR hS hT hW
  exact ab_callVP X C0.1 (bytes := ab_bt y) (maxL := ab_ml y) (ret := ab_rt y) C0.2.2.2.2.1 (ws_tw C0 hlk rfl) (ws_tw C0 hw1 rfl) (ws_tw C0 hw2 rfl) (ws_tw C0 hw3 rfl) hx2 (ws_tw C0 hy.1 rfl) hy.2.2.2 hB (by rw [hT]; exact hcB) hoB rfl (hl.1.trans C0.2.2.2.1.symm) hlen' hstack (ab_W8 (st := st) hr) (by rw [C0.2.1]; exact hdg) hpre
theorem ws_virtualO (C0 : ab_Cx p s m meth c n D cT b0 b S n0) {Q : ab_Q} {y i ci a : Nat} {q : vw_C} {fs : List ab_V} {as rest : List ab_V} (hd : d + 1 ≤ 2048) (hy : ab_okM y) {x : MethodName} {xb : ByteArray} {xm : Nat} {xr : Option FieldType} (hlk : Jvm.Cond.methodLink (ab_nm n).cls i x ∈ lw_tbl) (hsm : Jvm.Cond.sameMethod x.cls x.cls x.name x.desc ∈ lw_tbl) (hxi : Jvm.Cond.instanceMethod x ∈ lw_tbl) (hxc : Jvm.Cond.code x xb xm xr ∈ lw_tbl) (hx9 : x.cls ≠ "java/lang/invoke/MethodHandle" ∧ x.cls ≠ "java/lang/invoke/VarHandle") (hxd : x.desc = (ab_nm y).desc) (hw1 : Jvm.Cond.instanceMethod (ab_nm y) ∈ lw_tbl) (hw2 : Jvm.Cond.selects q.1 x (ab_nm y) ∈ lw_tbl) (hc : ab_cl[ci]? = some q) (h9 : ci < 990) (hlen : (parseMethodDescriptor (ab_nm y).desc).map (fun d => d.parameters.length) = some as.length) (hr : ab_cats rest ≤ 8)
    (hdg : decode (ab_bt n) pc = .ok (.invokevirtual i, 3)) (hst : st = as.reverse ++ .inr (.inr (some a)) :: rest) (ho : h.1 a = ab_ob ci fs) (hM : ab_CT d y (.inr (.inr (some a)) :: as) h Q) (hk : ∀ r h', Q r h' → ab_WG p l e s m args below meth c n D cT b0 b S n0 s0 (d + 1) E (pc + 3) ls (ab_push r rest) h') : ab_WG p l e s m args below meth c n D cT b0 b S n0 s0 (d + 1) E pc ls st h := by
  intro H locs lsA hl hR hS h1 h2
  have hB := ab_back (p := p) (l := l) (e := e) (s := s) (args := args) (below := below) (D := D) (cT := cT) (b0 := b0) (b := b) (S := S) (n0 := n0) (s0 := s0) hM hd hy h1 h2 hR.2.1 hR.2.2.1
  have hlen' : ∀ sig, parseMethodDescriptor (ab_nm y).desc = some sig → (as.map (ab_pv b0 b)).length = sig.parameters.length := fun sig hs => by
    rw [hs] at hlen
    rw [List.length_map]
    exact (Option.some.inj hlen).symm
  have hstack : st.map (ab_pv b0 b) = (as.map (ab_pv b0 b)).reverse ++ .ref (b a) :: rest.map (ab_pv b0 b) := by rw [hst, List.map_append, List.map_reverse, List.map_cons, ab_pv_ref]
  have hav : ((.inr (.inr (some a)) :: as : List ab_V).map (ab_pv b0 b)).toArray = (Value.ref (b a) :: as.map (ab_pv b0 b)).toArray := by rw [List.map_cons, ab_pv_ref]
  refine ab_after (y := y) (i := i) (as := .inr (.inr (some a)) :: as) C0 hdg hk hl hR hS h1 h2 fun T hT X => ?_
  obtain ⟨cellB, hcB, hoB, hclB⟩ := ab_rcv C0 hR hS hc h9 ho
  rw [hav]
  have hpre : ∀ vm₁, s.WarmedH vm₁ → ab_Pre D cT b0 b S n0 s0 (.inr (.inr (some a)) :: as) h ⟨T.setVm vm₁, locs, h.2.1 - n0, h.2.2 - s0⟩ (Value.ref (b a) :: as.map (ab_pv b0 b)).toArray := fun vm₁ hW => by rw [← hav]; exact ab_pre C0 hR hS hT hW
  exact va_callVU X C0.1 (C := q.1) (owner := x.cls) (x := x) (bytes := ab_bt y) (maxL := ab_ml y) (ret := ab_rt y) C0.2.2.2.2.1 (ws_tw C0 hlk rfl) (ws_tw C0 hsm rfl) (va_Decl.of (args := args) (ws_tw C0 hxi rfl) (ws_tw C0 hxc rfl)) hx9 (ws_tw C0 hw2 rfl) (ws_tw C0 hw1 rfl) (ws_tw C0 hy.1 rfl) hB (by rw [hT]; exact hcB) hoB hclB rfl (hl.1.trans C0.2.2.2.1.symm) (by rw [hxd]; exact hlen') hstack (ab_W8 (st := st) hr) (by rw [C0.2.1]; exact hdg) hpre
theorem ws_super (C0 : ab_Cx p s m meth c n D cT b0 b S n0) {Q : ab_Q} {y i ci a : Nat} {q : vw_C} {fs : List ab_V} {as rest : List ab_V} (hd : d + 1 ≤ 2048) (hy : ab_okM y) (hlk : Jvm.Cond.methodLink (ab_nm n).cls i (ab_nm y) ∈ lw_tbl) (hsm : Jvm.Cond.sameMethod (ab_nm y).cls (ab_nm y).cls (ab_nm y).name (ab_nm y).desc ∈ lw_tbl) (hsu : Jvm.Cond.superclass (ab_nm n).cls (ab_nm y).cls ∈ lw_tbl) (hni : (ab_nm y).name ≠ "<init>") (hw1 : Jvm.Cond.instanceMethod (ab_nm y) ∈ lw_tbl) (hc : ab_cl[ci]? = some q) (h9 : ci < 990) (hlen : (parseMethodDescriptor (ab_nm y).desc).map (fun d => d.parameters.length) = some as.length) (hr : ab_cats rest ≤ 8)
    (hdg : decode (ab_bt n) pc = .ok (.invokespecial i, 3)) (hst : st = as.reverse ++ .inr (.inr (some a)) :: rest) (ho : h.1 a = ab_ob ci fs) (hM : ab_CT d y (.inr (.inr (some a)) :: as) h Q) (hk : ∀ r h', Q r h' → ab_WG p l e s m args below meth c n D cT b0 b S n0 s0 (d + 1) E (pc + 3) ls (ab_push r rest) h') : ab_WG p l e s m args below meth c n D cT b0 b S n0 s0 (d + 1) E pc ls st h := by
  intro H locs lsA hl hR hS h1 h2
  have hB := ab_back (p := p) (l := l) (e := e) (s := s) (args := args) (below := below) (D := D) (cT := cT) (b0 := b0) (b := b) (S := S) (n0 := n0) (s0 := s0) hM hd hy h1 h2 hR.2.1 hR.2.2.1
  have hlen' : ∀ sig, parseMethodDescriptor (ab_nm y).desc = some sig → (as.map (ab_pv b0 b)).length = sig.parameters.length := fun sig hs => by
    rw [hs] at hlen
    rw [List.length_map]
    exact (Option.some.inj hlen).symm
  have hstack : st.map (ab_pv b0 b) = (as.map (ab_pv b0 b)).reverse ++ .ref (b a) :: rest.map (ab_pv b0 b) := by rw [hst, List.map_append, List.map_reverse, List.map_cons, ab_pv_ref]
  have hav : ((.inr (.inr (some a)) :: as : List ab_V).map (ab_pv b0 b)).toArray = (Value.ref (b a) :: as.map (ab_pv b0 b)).toArray := by rw [List.map_cons, ab_pv_ref]
  refine ab_after (y := y) (i := i) (as := .inr (.inr (some a)) :: as) C0 hdg hk hl hR hS h1 h2 fun T hT X => ?_
  obtain ⟨cellB, hcB, hoB, hclB⟩ := ab_rcv C0 hR hS hc h9 ho
  rw [hav]
  have hpre : ∀ vm₁, s.WarmedH vm₁ → ab_Pre D cT b0 b S n0 s0 (.inr (.inr (some a)) :: as) h ⟨T.setVm vm₁, locs, h.2.1 - n0, h.2.2 - s0⟩ (Value.ref (b a) :: as.map (ab_pv b0 b)).toArray := fun vm₁ hW => by rw [← hav]; exact ab_pre C0 hR hS hT hW
  obtain ⟨kC, hkC, -⟩ := (C0.2.2.2.2.2.1.2.1 ci q hc).2.2
  have hkB : s.vm.classes[cellB.cls]? = some kC := by
    have e9 : cellB.cls = D.1 ci := Option.some.inj (hclB.symm.trans (C0.2.2.2.2.2.1.2.1 ci q hc).2.1)
    rw [e9]; exact hkC
  exact va_callSU X C0.1 (bytes := ab_bt y) (maxL := ab_ml y) (ret := ab_rt y) C0.2.2.2.2.1 (ws_tw C0 hlk rfl) (ws_tw C0 hsm rfl) (ws_tw C0 hsu rfl) (ws_tw C0 hw1 rfl) (ws_tw C0 hy.1 rfl) hni hB (by rw [hT]; exact hcB) hoB hkB rfl (hl.1.trans C0.2.2.2.1.symm) hlen' hstack (ab_W8 (st := st) hr) (by rw [C0.2.1]; exact hdg) hpre
/-! String constants, statics -/
theorem ws_ldcS (C0 : ab_Cx p s m meth c n D cT b0 b S n0) {i o a : Nat} {tx : String} (hi : ab_strs[o]? = some (i, tx)) (hn : (ab_nm n).cls = "NestedFociLaw") (hdg : decode (ab_bt n) pc = .ok (.ldc i, 2)) (ho : h.1 (ab_scr + 100 + o) = ab_ob 998 [.inr (.inr (some a))]) (k : ab_WG p l e s m args below meth c n D cT b0 b S n0 s0 d E (pc + 2) ls (.inr (.inr (some a)) :: st) h) : ab_WG p l e s m args below meth c n D cT b0 b S n0 s0 d E pc ls st h := by
  intro H locs lsA hl hR hS h1 h2
  obtain ⟨a', e1, e2⟩ := (ab_Cn C0).2.2.1 o i tx hi
  have e3 := hR.2.2.2.1 (ab_scr + 100 + o) (by omega)
  rw [ho, e1] at e3
  cases e3
  exact va_ldcS C0.1 C0.2.1 (own := "NestedFociLaw") (by rw [← hn]; exact C0.2.2.2.2.1) e2 hdg (k H locs lsA hl hR hS h1 h2)
theorem ws_getstatic (C0 : ab_Cx p s m meth c n D cT b0 b S n0) {i o : Nat} {C nn dd : String} {v : ab_V} (hi : ab_stas[o]? = some (C, nn, dd)) (hw : Jvm.Cond.fieldLink (ab_nm n).cls i C nn dd ∈ lw_tbl) (hdg : decode (ab_bt n) pc = .ok (.getstatic i, 3)) (ho : h.1 (ab_scr + 130 + o) = ab_ob 998 [v]) (k : ab_WG p l e s m args below meth c n D cT b0 b S n0 s0 d E (pc + 3) ls (v :: st) h) : ab_WG p l e s m args below meth c n D cT b0 b S n0 s0 d E pc ls st h := by
  intro H locs lsA hl hR hS h1 h2
  obtain ⟨v', e1, e2⟩ := (ab_Cn C0).2.2.2 o C nn dd hi
  have e3 := hR.2.2.2.1 (ab_scr + 130 + o) (by omega)
  rw [ho, e1] at e3
  cases e3
  exact va_gets C0.1 C0.2.1 e2 hS C0.2.2.2.2.1 (ws_tw C0 hw rfl) (fun _ h => h) hdg (k H locs lsA hl hR hS h1 h2)
/-! bytes: copied, cloned, cast -/
theorem ab_cl0 {z : Int32} (hz : 0 ≤ z.toInt) : z.toInt = (z.toNatClampNeg : Int) := by
  show z.toInt = ((z.toInt.toNat : Nat) : Int)
  omega
theorem ab_by_cpy (f g : Nat → Int32) (sp dp k : Nat) : ab_by 1 (ab_cpy f g sp dp k) = va_cpy (ab_by 1 f) (ab_by 1 g) sp dp k := by
  funext j
  show (ab_cpy f g sp dp k j).toInt8.toInt32 = _
  unfold ab_cpy va_cpy
  split <;> rfl
/-- an array of bytes that is read: one that was made, or one that was there before -/
theorem ab_bytes (C0 : ab_Cx p s m meth c n D cT b0 b S n0) (hR : ab_Rl D cT b0 b S h H) {locs : List Loc} (hS : va_S (ab_A b0) s.heap H locs) {a k : Nat} {f : Nat → Int32} (ho : h.1 a = ab_ia 1 k f) : ∃ cell : Cell, H[b a]? = some cell ∧ s.isArrayOf cell .byte ∧ cell.vm ≠ .unknown ∧ k ≤ cell.slots.size ∧ ∀ j : Nat, j < k → cell.slots[j]? = some (.int (ab_by 1 f j)) := by
  rcases Nat.lt_or_ge a ab_scr with q | q
  · have g3 := ab_made hR q ho (fun e => by cases e)
    have hat : (ab_ws b0 b cT h)[a]? = some (b a, .inl (cT 1, k, .inl (ab_by 1 f))) := by rw [ab_ws_at g3, ho]; rfl
    refine ⟨_, ab_Rl_P hR a _ hat, (C0.2.2.2.2.2.1.2.2 1 _ rfl).1 k (fun j => .int (ab_by 1 f j)), (fun z => by cases z), ?_, fun j hj => ?_⟩
    · show k ≤ (arrV (cT 1) k (fun j => .int (ab_by 1 f j))).slots.size
      rw [arrV_size]
      exact Nat.le_refl _
    · exact arrV_read (cT 1) (fun j => .int (ab_by 1 f j)) hj
  · have h3 := ab_sp_of hR (ab_Cn C0) q
    rw [ho] at h3
    have h4 : va_T .byte (b a) k (fun j => .int ((f j).toInt8.toInt32)) (ab_A b0) s s.heap := by
      rcases h3 with ⟨h3, -⟩ | ⟨-, h3⟩
      · omega
      · exact h3
    obtain ⟨cell, e1, e2, e3, e4, -, e5, -⟩ := h4.kept hS.2.1
    exact ⟨cell, e1, e2, e3, e4, e5⟩
theorem ws_copy (C0 : ab_Cx p s m meth c n D cT b0 b S n0) {i a a0 k0 k1 : Nat} {f g : Nat → Int32} {sp dp z : Int32} (hd1 : 1 ≤ d) (hd2 : d ≤ 2048) (hst : ab_cats st ≤ 8) (hw1 : Jvm.Cond.methodLink (ab_nm n).cls i arraycopyName ∈ lw_tbl) (hw2 : Jvm.Cond.native arraycopyName ∈ lw_tbl) (hw3 : Jvm.Cond.static arraycopyName ∈ lw_tbl) (hw4 : Jvm.Cond.initialized "java/lang/System" ∈ lw_tbl) (hdg : decode (ab_bt n) pc = .ok (.invokestatic i, 3))
    (ho0 : h.1 a0 = ab_ia 1 k0 f) (ho1 : h.1 a = ab_ia 1 k1 g) (ha : a < ab_scr) (hz : 0 ≤ sp.toInt ∧ 0 ≤ dp.toInt ∧ 0 ≤ z.toInt) (hb : sp.toInt + z.toInt ≤ k0 ∧ dp.toInt + z.toInt ≤ k1) (k : ab_WG p l e s m args below meth c n D cT b0 b S n0 s0 d E (pc + 3) ls st (ab_set h a (ab_ia 1 k1 (ab_cpy f g sp.toInt.toNat dp.toInt.toNat z.toInt.toNat)))) : ab_WG p l e s m args below meth c n D cT b0 b S n0 s0 d E pc ls (.inl z :: .inl dp :: .inr (.inr (some a)) :: .inl sp :: .inr (.inr (some a0)) :: st) h := by
  intro H locs lsA hl hR hS h1 h2
  obtain ⟨z1, z2, z3⟩ := hz
  have g2 := ab_made hR ha ho1 (fun e => by cases e)
  have hK := C0.2.2.2.2.2.1.2
  have hP := ab_Rl_P hR
  have hat : (ab_ws b0 b cT h)[a]? = some (b a, .inl (cT 1, k1, .inl (ab_by 1 g))) := by rw [ab_ws_at g2, ho1]; rfl
  obtain ⟨cs, c1, c2, c3, c4, c5⟩ := ab_bytes C0 hR hS ho0
  obtain ⟨c6, kA, hkA, cmA, hkkA⟩ := c2
  obtain ⟨-, kB, hkB, cmB, hkkB⟩ := (hK.2 1 _ rfl).1 k1 (fun j => .int (ab_by 1 g j))
  have y1 := ab_cl0 z1
  have y2 := ab_cl0 z2
  have y3 := ab_cl0 z3
  have hcd : H[b a]? = some (vp_cell (cT 1) (k1, .inl (ab_by 1 g))) := hP a _ hat
  intro T hT X
  have h8 := lv_room (m := m) (pc := pc) (ls := lsA) (rest := []) (st := st.map (ab_pv b0 b)) (by rw [ab_cats_pv]; exact hst)
  obtain ⟨vm', X', step⟩ := X.arraycopy C0.1 C0.2.2.2.2.1 (ws_tw C0 hw1 rfl) (ws_tw C0 hw2 rfl) (ws_tw C0 hw3 rfl) (ws_tw C0 hw4 rfl) (src := b a0) (dst := b a) (cs := cs) (cd := vp_cell (cT 1) (k1, .inl (ab_by 1 g))) (srcPos := sp) (destPos := dp) (n := z) (by rw [hT]; exact c1) (by rw [hT]; exact hcd)
    c6 (fun _ h => by cases h) c3 (fun h => by cases h) hkA hkB hkkA hkkB (by simp [refKind]) (ab_nat_i z1) (ab_nat_i z2) (ab_nat_i z3)
    (by omega)
    (by show ¬ _ > ((arrV (cT 1) k1 (fun j => .int (ab_by 1 g j))).slots.size : Int); rw [arrV_size]; omega)
    (fun vm₁ _ j hj => by
      have e : cs.slots.getD (sp.toNatClampNeg + j) .null = .int (ab_by 1 f (sp.toNatClampNeg + j)) := by
        rw [Array.getD_eq_getD_getElem?, c5 _ (by omega)]
        rfl
      rw [e]
      exact ⟨pk_fb _, trivial⟩)
    (g := F0 m pc lsA (.int z :: .int dp :: .ref (b a) :: .int sp :: .ref (b a0) :: st.map (ab_pv b0 b))) rfl (by rw [C0.2.2.2.1]; exact hl.1) (rest := st.map (ab_pv b0 b)) rfl (by rw [C0.2.1]; exact hdg) hd1 (by
      have h9 : 40 * (2048 - d) ≤ 81880 := by omega
      have h10 : nativeFrameWords "java/lang/System" "arraycopy" 5 + 11 ≤ 100 := by decide
      have h11 : ((st.map (ab_pv b0 b)).map fun v => v.category).sum ≤ 8 := by rw [ab_cats_pv]; exact hst
      show 2 * 0 + _ + _ ≤ 84000 - 40 * (2048 - d)
      omega)
  have e1 : copied cs (vp_cell (cT 1) (k1, .inl (ab_by 1 g))) sp dp z = vp_cell (cT 1) (k1, .inl (va_cpy (ab_by 1 f) (ab_by 1 g) sp.toNatClampNeg dp.toNatClampNeg z.toNatClampNeg)) := va_copiedX (fun z => .int z) cs (cT 1) (ab_by 1 f) (ab_by 1 g) c5 (by omega)
  rw [e1, ← ab_by_cpy] at X' step
  generalize hcell : vp_cell (cT 1) (k1, .inl (ab_by 1 (ab_cpy f g sp.toNatClampNeg dp.toNatClampNeg z.toNatClampNeg))) = cN at X' step
  have hlt : b a < H.size := (Array.getElem?_eq_some_iff.mp hcd).1
  have hh : ((T.setVm vm').setCell (b a) cN).heap = H.setIfInBounds (b a) cN := by rw [← hT]; rfl
  have o1 : ∀ q : Nat, q ≠ b a → (H.setIfInBounds (b a) cN)[q]? = H[q]? := fun q hq => by simp [Array.getElem?_setIfInBounds, Ne.symm hq]
  have o2 : (H.setIfInBounds (b a) cN)[b a]? = some cN := by simp [Array.getElem?_setIfInBounds, hlt]
  have o3 : (H.setIfInBounds (b a) cN).size = H.size := by simp
  have hge := ab_b0 hR g2
  have hR1 : ab_Rl D cT b0 b S (ab_set h a (ab_ia 1 k1 (ab_cpy f g sp.toInt.toNat dp.toInt.toNat z.toInt.toNat))) (H.setIfInBounds (b a) cN) := ab_Rl_set hR g2 (Or.inr rfl) o3 (hP.set (ab_ws_D hR) hat (by show _ = some (vp_cell (cT 1) (k1, .inl (ab_by 1 (ab_cpy f g sp.toInt.toNat dp.toInt.toNat z.toInt.toNat)))); rw [o2, ← hcell]; rfl) o1)
  obtain ⟨t, a1, b1⟩ := k _ _ lsA hl hR1 ⟨by rw [o3]; exact hS.1, fun q g1 g9 => by
      rw [o1 q (fun e => g9 (by rw [e]; exact hge))]
      exact hS.2.1 q g1 g9, fun q hq => by
      rcases List.mem_append.mp hq with hq | hq
      · exact hS.2.2 q hq
      · obtain ⟨w, -, hw⟩ := List.mem_map.mp hq
        rw [← hw]
        exact hge⟩ h1 h2 _ hh X'
  exact ⟨t, step t a1, b1⟩
theorem ab_nmB (C0 : ab_Cx p s m meth c n D cT b0 b S n0) : s.vm.findClass "[B" = some (cT 1) := (C0.2.2.2.2.2.1.2.2 1 _ rfl).2
theorem ws_clone (C0 : ab_Cx p s m meth c n D cT b0 b S n0) {i a k1 : Nat} {g : Nat → Int32} (hd1 : 1 ≤ d) (hd2 : d ≤ 2048) (hst : ab_cats st ≤ 8) (hw1 : Jvm.Cond.methodLink (ab_nm n).cls i ⟨"[B", "clone", "()Ljava/lang/Object;"⟩ ∈ lw_tbl) (hw2 : Jvm.Cond.sameMethod "[B" "java/lang/Object" "clone" "()Ljava/lang/Object;" ∈ lw_tbl) (hw3 : Jvm.Cond.native ⟨"java/lang/Object", "clone", "()Ljava/lang/Object;"⟩ ∈ lw_tbl) (hw4 : Jvm.Cond.instanceMethod ⟨"java/lang/Object", "clone", "()Ljava/lang/Object;"⟩ ∈ lw_tbl)
    (hw5 : Jvm.Cond.selects "[B" ⟨"[B", "clone", "()Ljava/lang/Object;"⟩ ⟨"java/lang/Object", "clone", "()Ljava/lang/Object;"⟩ ∈ lw_tbl) (hw6 : Jvm.Cond.castable "[B" "java/lang/Cloneable" ∈ lw_tbl) (hdg : decode (ab_bt n) pc = .ok (.invokevirtual i, 3)) (ho : h.1 a = ab_ia 1 k1 g) (ha : a < ab_scr) (hr : h.2.1 < ab_CM ∧ h.2.2 + k1 ≤ ab_SM)
    (k : ab_WG p l e s m args below meth c n D cT b0 b S n0 s0 d E (pc + 3) ls (.inr (.inr (some h.2.1)) :: st) (ab_new h (ab_ia 1 k1 g) k1)) : ab_WG p l e s m args below meth c n D cT b0 b S n0 s0 d E pc ls (.inr (.inr (some a)) :: st) h := by
  intro H locs lsA hl hR hS h1 h2
  have g2 := ab_made hR ha ho (fun e => by cases e)
  have hK := C0.2.2.2.2.2.1.2
  have hat : (ab_ws b0 b cT h)[a]? = some (b a, .inl (cT 1, k1, .inl (ab_by 1 g))) := by rw [ab_ws_at g2, ho]; rfl
  have hcd : H[b a]? = some (vp_cell (cT 1) (k1, .inl (ab_by 1 g))) := ab_Rl_P hR a _ hat
  obtain ⟨r1, r2⟩ := ab_sc (d := d) h1 h2 hr.1 hr.2
  obtain ⟨c0, t0, f1, f2, f3⟩ := Cond.castable_spec (ws_tw (args := args) C0 hw6 rfl)
  cases (ab_nmB C0).symm.trans f1
  intro T hT X
  have hcT : T.heap[b a]? = some (vp_cell (cT 1) (k1, .inl (ab_by 1 g))) := by rw [hT]; exact hcd
  obtain ⟨-, kA, hkA, comp, hkind⟩ := State.isArrayOf_alike X.warmed.alike ((hK.2 1 _ rfl).1 0 (fun _ => .null))
  obtain ⟨-, kS, hkS, cmS, hkkS⟩ := (hK.2 1 _ rfl).1 0 (fun _ => .null)
  have hsz : (vp_cell (cT 1) (k1, .inl (ab_by 1 g))).slots.size = k1 := arrV_size _ _ _
  obtain ⟨vm', X', step⟩ := X.cloneArray C0.1 C0.2.2.2.2.1 (ws_tw C0 hw1 rfl) (ws_tw C0 hw2 rfl) (ws_tw C0 hw3 rfl) (ws_tw C0 hw4 rfl) (ws_tw C0 hw5 rfl) (a := b a) (cell := vp_cell (cT 1) (k1, .inl (ab_by 1 g))) hcT (fun _ h => by cases h) (fun h => by cases h) (ab_nmB C0) f2 f3
    (fun j v hv => by
      have hk' : T.vm.classes[cT 1]? = some kA := hkA
      have hj : j < k1 := by
        have := (Array.getElem?_eq_some_iff.mp hv).1
        rw [hsz] at this
        exact this
      have e9 : v = .int (ab_by 1 g j) := Option.some.inj (hv.symm.trans (arrV_read (cT 1) (fun j => .int (ab_by 1 g j)) hj))
      show T.fitsSlot (cT 1) _ j v = true
      have h8 : fits .byte (.int (ab_by 1 g j)) = true := pk_fb _
      rw [e9]
      simpa [State.fitsSlot, State.slotType?, hk', hkind] using h8)
    (g := F0 m pc lsA (.ref (b a) :: st.map (ab_pv b0 b))) rfl (by rw [C0.2.2.2.1]; exact hl.1) rfl (by rw [C0.2.1]; exact hdg) hd1 (by
      have h9 : 40 * (2048 - d) ≤ 81880 := by omega
      have h11 : ((st.map (ab_pv b0 b)).map fun v => v.category).sum ≤ 8 := by rw [ab_cats_pv]; exact hst
      show 2 * 0 + _ + 14 ≤ 84000 - 40 * (2048 - d)
      omega) r1 (by rw [hsz]; exact r2) (hloader := Vm.clonesLoader_of_array hkS hkkS)
  rw [hsz] at X'
  have hcN : ({ cls := (vp_cell (cT 1) (k1, .inl (ab_by 1 g))).cls, slots := (vp_cell (cT 1) (k1, .inl (ab_by 1 g))).slots } : Cell) = vp_cell (cT 1) (k1, .inl (ab_by 1 g)) := rfl
  rw [hcN] at X' step
  generalize hcell : vp_cell (cT 1) (k1, .inl (ab_by 1 g)) = cN at X' step
  have hh : ((T.setVm vm').pushCell cN).heap = H.push cN := by rw [← hT]; rfl
  have z1 : (H.push cN).size = b0 + h.2.1 + 1 := by rw [Array.size_push, hR.1]
  have e1 : (H.push cN)[b0 + h.2.1]? = some cN := by rw [← hR.1]; exact Array.getElem?_push_size
  have o1 : ∀ q : Nat, q < b0 + h.2.1 → (H.push cN)[q]? = H[q]? := fun q hq => by rw [Array.getElem?_push, if_neg (by rw [hR.1]; exact Nat.ne_of_lt hq)]
  have hR1 := ab_Rl_new (x := ab_ia 1 k1 g) hR hr.1 hr.2 (Or.inr rfl) z1 o1 (by show (H.push cN)[b0 + h.2.1]? = some (vp_cell (cT 1) (k1, .inl (ab_by 1 g))); rw [e1, hcell])
  have hk := k _ locs lsA hl hR1 ⟨Nat.le_trans hS.1 (by rw [z1, hR.1]; omega), fun x h3 h4 => (o1 x (by rw [← hR.1]; exact Nat.lt_of_lt_of_le h3 hS.1)).trans (hS.2.1 x h3 h4), hS.2.2⟩ (Nat.le_succ_of_le h1) (Nat.le_trans h2 (Nat.le_add_right _ _))
  have e2 : (ab_new h (ab_ia 1 k1 g) k1).2.1 - n0 = h.2.1 - n0 + 1 := by show h.2.1 + 1 - n0 = _; omega
  have e3 : (ab_new h (ab_ia 1 k1 g) k1).2.2 - s0 = h.2.2 - s0 + k1 := by show h.2.2 + k1 - s0 = _; omega
  have e4 : ab_pv b0 b (.inr (.inr (some h.2.1))) = .ref T.heap.size := by rw [hT, hR.1]; exact ab_pvK hR
  rw [e2, e3, List.map_cons, e4] at hk
  obtain ⟨t, a1, b1⟩ := hk _ hh X'
  exact ⟨t, step t a1, b1⟩
theorem ws_castB (C0 : ab_Cx p s m meth c n D cT b0 b S n0) {i a k1 : Nat} {g : Nat → Int32} (hw : Jvm.Cond.classLink (ab_nm n).cls i "[B" ∈ lw_tbl) (hdg : decode (ab_bt n) pc = .ok (.checkcast i, 3)) (ho : h.1 a = ab_ia 1 k1 g) (ha : a < ab_scr) (k : ab_WG p l e s m args below meth c n D cT b0 b S n0 s0 d E (pc + 3) ls (.inr (.inr (some a)) :: st) h) : ab_WG p l e s m args below meth c n D cT b0 b S n0 s0 d E pc ls (.inr (.inr (some a)) :: st) h := by
  intro H locs lsA hl hR hS h1 h2
  have g2 := ab_made hR ha ho (fun e => by cases e)
  have hat : (ab_ws b0 b cT h)[a]? = some (b a, .inl (cT 1, k1, .inl (ab_by 1 g))) := by rw [ab_ws_at g2, ho]; rfl
  exact va_castA C0.1 C0.2.1 C0.2.2.2.2.1 (ws_tw C0 hw rfl) (ab_Rl_P hR) a hat (ab_nmB C0) hdg (k H locs lsA hl hR hS h1 h2)
end AB5
