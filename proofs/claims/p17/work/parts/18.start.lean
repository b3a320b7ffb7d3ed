/-! THE CLAIM OUT OF ONE WALK OF THE LAW'S BODY. Your part is whole_start (and what it stands on); all else here is the same for every law, but numbers. -/
def R_law : String := "NestedFociLaw"
def lw_P (b : Addr) (xs : List Int32) (args : Array Value) (s : State) : Prop := args = #[.ref b] ∧ s.IntsAt b xs ∧ xs.length ≤ 3072 ∧ (Jvm.Cond.and given_1 narrow_1).before args s = true
def lw_Q (_ : Array Value) (s : State) (o : Outcome) (t : State) : Prop := o = .returned (some (.int 1)) ∧ Framed s o t [] 600000 7302249
def lw_Z (below : List Frame) (a : Array Value) (s : State) : State → Prop := fun t => ∃ o, t.status = .running ∧ Ended t below o ∧ lw_Q a s o t
/-- the law's own end, with 1 on the stack, nothing written that was there before, its room as the claim has it -/
theorem lw_ret {p : Program} {l : Launch} {e : Env} {s : State} {m : MethodId} {below : List Frame} {meth : Method} {c : Code} {b : Nat} (hx : p.tables.exec = Jvm.exec) (hb : c.code = code) (hr : meth.sig.returnType = ret) (hlocks : meth.locks = false) {pc : Nat} {H : Heap} {ls : Array Slot} (hdg : decode code pc = .ok (.ireturn, 1)) : W p l e room_1 s m #[Value.ref b] below meth c H [] 600000 7302249 (lw_Z below #[Value.ref b] s) (F0 m pc ls [.int 1]) := by
  intro T hT X
  obtain ⟨fs, hret, hrun, hended, hW, hframe⟩ := X.leave (v := some (.int 1)) (hlocks := hlocks) (fun h => by rw [hr] at h; cases h)
  have hmeth' : T.vm.method? m = some meth := X.method'
  refine ⟨T.setFrames fs, ?_, .returned (some (.int 1)), hrun, hended, rfl, ⟨_, rfl⟩, hW, hframe⟩
  jvm_step X.here [X.here.top, hx, hb, hdg, hmeth', hr, ret, narrow_b1]
  (try refine ⟨rfl, ?_⟩); (try refine ⟨rfl, ?_⟩)
  first | (intro acts; rw [hret _ acts rfl rfl rfl]) | rw [hret _ _ rfl rfl rfl]
  exact Steps.refl _
/-- what holds at the law's entry: the machine, the code, the tables' words (any of lw_tbl by 'hts w (by decide +kernel)'), the script of L ints xs at the cell b, what the Statement gives of the start (any of its parts by flat_of_before) -/
def lw_At (p : Program) (s : State) (m : MethodId) (meth : Method) (c : Code) (b L : Nat) (xs : Nat → Int32) : Prop :=
  p.tables.exec = Jvm.exec ∧ c.code = code ∧ meth.sig.returnType = ret ∧ c.maxLocals = 4 ∧ s.vm.findClass R_law = some m.cls ∧ (∀ w ∈ lw_tbl, w.before #[Value.ref b] s = true) ∧ va_X b L xs s s.heap ∧ b < s.heap.size ∧ meth.locks = false ∧ (meth.name = "law" ∧ (Jvm.Cond.and given_1 narrow_1).before #[Value.ref b] s = true)
/-! ===== the abstract machine at the law's entry (own text) ===== -/
def ab_h0 (L : Nat) (xs : Nat → Int32) : ab_H := (ab_up (fun _ => ab_ob 999 []) ab_scr (ab_ia 9 L xs), 0, 0)
theorem ab_Nw_of {w : Jvm.Cond} (h : ab_okw w = true) {A : Array Value} {s : State} (hb : w.before A s = true) : va_Nw w s := by
  by_cases hg : goodWord w = true
  · rcases good_of_word hg with h1 | ⟨ty, rfl⟩
    · rw [Bool.and_eq_true] at h1
      exact va_Nw.of h1.1 hb
    · exact hb
  · unfold ab_okw at h
    rw [Bool.or_eq_true] at h
    rcases h with h | h
    · exact absurd h hg
    · split at h
      · exact va_Nw.of rfl hb
      · exact va_Nw.of rfl hb
      · exact hb
      · cases h
theorem ab_inst : ∀ (k : Nat) (q : vw_C), ab_cl[k]? = some q → ∃ N, Jvm.Cond.instantiable q.1 N ∈ lw_tbl := ab_cl_of ⟨_, wd_329⟩ ⟨_, wd_341⟩ ⟨_, wd_335⟩ ⟨_, wd_276⟩ ⟨_, wd_149⟩ ⟨_, wd_311⟩ ⟨_, wd_350⟩ ⟨_, wd_323⟩ ⟨_, wd_299⟩ ⟨_, wd_64⟩ ⟨_, wd_305⟩ ⟨_, wd_670⟩ ⟨_, wd_675⟩
theorem ab_KV_of {s : State} {A : Array Value} (hts : ∀ w ∈ lw_tbl, w.before A s = true) : ∃ (D : va_G) (cT : Nat → ClassId), ab_KV D cT s := by
  have h1 : ∀ k : Nat, ∃ (cC : ClassId) (iS : Nat → Nat), ∀ q : vw_C, ab_cl[k]? = some q → u_Kn s q.1 q.2.1 q.2.2 cC iS := by
    intro k
    cases hq : ab_cl[k]? with
    | none => exact ⟨0, fun _ => 0, fun q h => by cases h⟩
    | some q =>
      obtain ⟨N, hN⟩ := ab_inst k q hq
      have hl : ∀ w ∈ u_ws q.1 q.2.1 q.2.2, w.before A s = true := fun w hw => hts w (ab_inC k q hq w hw)
      obtain ⟨cC, iS, hk⟩ := u_known (args := A) (C := q.1) (T := q.2.1) (N := q.2.2) (n := N) hl (fun _ h => h) (hts _ hN)
      exact ⟨cC, iS, fun q' h => by cases h; exact hk⟩
  have h2 : ∀ C : String, Jvm.Cond.arrayOver (.object C) ∈ lw_tbl → ∃ cA, ArrOfT s cA (.object C) ∧ va_RA s cA (.object C) := by
    intro C hC
    obtain ⟨comp, cA, kA, g1, g2, g3, g4, g5⟩ := Cond.arrayOver_spec (hts _ hC)
    exact ⟨cA, fun n z => ⟨fun k h => (by cases h), kA, g3, comp, g4⟩, kA, comp, g3, g4, g1, g5⟩
  have h3 : ∀ ty : FieldType, (ty = .int ∨ ty = .boolean) → Jvm.Cond.arrayClass ty ∈ lw_tbl → ∃ cA, ArrOfT s cA ty ∧ va_RA s cA ty := by
    intro ty hty hC
    obtain ⟨cA, kA, comp, g1, g2, g3⟩ := Cond.arrayClass_spec (hts _ hC)
    refine ⟨cA, fun n z => ⟨fun k h => (by cases h), kA, g2, comp, g3⟩, ?_⟩
    rcases hty with rfl | rfl <;> exact g1
  obtain ⟨c0, a0⟩ := h3 .int (Or.inl rfl) wd_66
  obtain ⟨c1, a1⟩ := h3 .boolean (Or.inr rfl) wd_513
  obtain ⟨c2, a2⟩ := h2 RX4 wd_320
  obtain ⟨c3, a3⟩ := h2 RX6 wd_317
  obtain ⟨c4, a4⟩ := h2 RX9 wd_45
  refine ⟨(fun k => (h1 k).choose, fun k => (h1 k).choose_spec.choose), fun t => match t with
    | 0 => c0
    | 1 => c1
    | 2 => c2
    | 3 => c3
    | _ => c4, fun w hw ho => ab_Nw_of ho (hts w hw), fun k q hq => (h1 k).choose_spec.choose_spec q hq, fun k q hq => ?_⟩
  have hk : k < 5 := (List.getElem?_eq_some_iff.mp hq).1
  match k, hk, hq with
  | 0, _, hq => cases hq; exact a0
  | 1, _, hq => cases hq; exact a1
  | 2, _, hq => cases hq; exact a2
  | 3, _, hq => cases hq; exact a3
  | 4, _, hq => cases hq; exact a4
theorem ab_Rl_0 {D : va_G} {cT : Nat → ClassId} {b0 b L : Nat} {xs : Nat → Int32} {H : Heap} (hH : H.size = b0) : ab_Rl D cT b0 b L xs (ab_h0 L xs) H := by
  refine ⟨hH, Nat.zero_le _, Nat.zero_le _, (show ab_up (fun _ => ab_ob 999 []) ab_scr (ab_ia 9 L xs) ab_scr = _ from ab_up_self _ _ _), fun a _ ha => (show ab_up (fun _ => ab_ob 999 []) ab_scr (ab_ia 9 L xs) a = _ from ab_up_ne _ _ ha), fun a ha => absurd ha (Nat.not_lt_zero _), fun k q hq => ?_⟩
  obtain ⟨h1, -⟩ := ab_ws_of hq
  exact absurd h1 (Nat.not_lt_zero _)
theorem ab_forget {s t : State} {o : Outcome} {Lc : List Loc} {mc ms : Nat} (h : FrameEnd s o t Lc mc ms) (hL : ∀ q ∈ Lc, s.heap.size ≤ q.base) (hc : mc ≤ 600000) (hs : ms ≤ 7302250) : Framed s o t [] 600000 7302250 :=
  ⟨h.1, h.2.1, h.2.2.weaken (fun x hx hlt => absurd (hL x hx) (Nat.not_le.mpr hlt)) hc hs⟩
