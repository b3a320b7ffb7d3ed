/-! ===== the walk: what a list of instructions asks, and that it is enough (own text) ===== -/
def ab_in (w : Jvm.Cond) : Bool := decide (w ∈ lw_tbl)
def ab_lkB (n i y : Nat) : Bool := ab_in (.methodLink (ab_nm n).cls i (ab_nm y)) || ab_in (.methodLinkNest (ab_nm n).cls i (ab_nm y) "NestedFoci")
def ab_okB (y : Nat) : Bool := ab_in (.code (ab_nm y) (ab_bt y) (ab_ml y) (ab_rt y)) && ab_in (.initialized (ab_nm y).cls) && decide (ab_ml y ≤ 21) && decide ((ab_nm y).cls ≠ "java/lang/invoke/MethodHandle") && decide ((ab_nm y).cls ≠ "java/lang/invoke/VarHandle")
def ab_np (y : Nat) : Option Nat := (parseMethodDescriptor (ab_nm y).desc).map (fun d => d.parameters.length)
def ab_ck (n pc : Nat) (ins : Instr) (len a1 a2 : Nat) (sw : List (Int × Nat)) : Bool := match ins with
  | .iconst _ | .lconst _ | .aconst_null | .iload_n _ | .lload_n _ | .aload_n _ | .dup | .dup2 | .pop | .pop2 | .iadd | .isub | .imul | .irem | .ineg | .iand | .ishr | .iushr | .i2l | .ladd | .lcmp | .iaload | .baload | .aaload | .iastore | .bastore | .aastore | .arraylength => len == 1
  | .bipush z => len == 2 && decide ((Int8.ofInt z).toInt32 = ab_ii z)
  | .sipush z => len == 3 && decide ((Int16.ofInt z).toInt32 = ab_ii z)
  | .ldc i => len == 2 && ab_in (.constant (ab_nm n).cls i (ab_ii (ab_z sw)))
  | .ldc2_w i => len == 3 && ab_in (.constantLong (ab_nm n).cls i (Int64.ofInt (ab_z sw)))
  | .iload _ | .lload _ | .aload _ => len == 2
  | .istore i | .astore i => len == 2 && decide (i < ab_ml n)
  | .istore_n i | .astore_n i => len == 1 && decide ((i : Nat) < ab_ml n)
  | .lstore i => len == 2 && decide (i + 1 < ab_ml n)
  | .lstore_n i => len == 1 && decide ((i : Nat) + 1 < ab_ml n)
  | .iinc i _ => len == 3 && decide (i < ab_ml n)
  | .goto off | .ifCond _ off | .if_icmp _ off | .if_acmp _ off | .ifnull off | .ifnonnull off => len == 3 && decide ((pc : Int) + off = (a1 : Int))
  | .tableswitch df lo hi offs => decide ((pc : Int) + df = (a1 : Int)) && decide (sw.length = offs.size ∧ hi = lo + offs.size - 1) && (List.range sw.length).all (fun i => match sw[i]?, offs[i]? with
    | some (k, t), some o => decide (k = lo + i) && decide ((pc : Int) + o = (t : Int))
    | _, _ => false)
  | .lookupswitch df ps => (ps.toList.zip (ps.toList.drop 1)).all (fun (a, next) => a.1 < next.1) && decide ((pc : Int) + df = (a1 : Int)) && decide (ps.toList.length = sw.length) && (List.range ps.toList.length).all (fun i => match ps.toList[i]?, sw[i]? with
    | some (k, o), some (k', t) => decide (k = k') && decide ((pc : Int) + o = (t : Int))
    | _, _ => false)
  | .ireturn => len == 1 && decide ((a1 = 0 ∧ ab_rt n = some .int) ∨ (a1 = 1 ∧ ab_rt n = some .boolean))
  | .lreturn => len == 1 && decide (ab_rt n = some .long)
  | .areturn => len == 1 && (match ab_rt n with
    | some (.object _) => true
    | some (.array _) => true
    | _ => false)
  | .return_ => len == 1 && decide (ab_rt n = none)
  | .getfield i => len == 3 && (match ab_cl[a1]? with
    | some (_, T, N) => decide (a2 < N) && decide (a1 ≠ 999) && (ab_in (.fieldLink (ab_nm n).cls i (T a2).1 (T a2).2.1 (T a2).2.2.1) || ab_in (.fieldLinkNest (ab_nm n).cls i (T a2).1 (T a2).2.1 (T a2).2.2.1 "NestedFoci"))
    | none => false)
  | .putfield i => len == 3 && (match ab_cl[a1]? with
    | some (_, T, N) => decide (a2 < N) && decide (a1 ≠ 999) && ab_in (.fieldLink (ab_nm n).cls i (T a2).1 (T a2).2.1 (T a2).2.2.1) && decide ((T a2).2.2.2 = false ∨ ((T a2).2.2.2 = true ∧ (ab_nm n).name = "<init>" ∧ (T a2).1 = (ab_nm n).cls)) && decide (ab_tyc (ab_ty a1 a2) = (ab_z sw).toNat)
    | none => false)
  | .new i => len == 3 && (match ab_cl[a1]? with
    | some (C, _, N) => decide (N = a2) && ab_in (.classLink (ab_nm n).cls i C) && ab_in (.instantiable C a2) && ab_in (.initialized C)
    | none => false)
  | .newarray ty => len == 2 && decide ((a1 = 0 ∧ ty = .int) ∨ (a1 = 1 ∧ ty = .boolean)) && ab_in (.arrayClass (newarray.typeOf ty))
  | .anewarray i => len == 3 && decide (a1 = 2 ∨ a1 = 3 ∨ a1 = 4) && (match ab_cl[ab_ec a1]? with
    | some (C, _, _) => ab_in (.classLink (ab_nm n).cls i C) && ab_in (.arrayOver (.object C))
    | none => false)
  | .invokestatic i => len == 3 && ab_okB a1 && ab_lkB n i a1 && ab_in (.static (ab_nm a1)) && decide (ab_np a1 = some a2)
  | .invokevirtual i => len == 3 && ab_okB a1 && ab_lkB n i a1 && ab_in (.instanceMethod (ab_nm a1)) && decide (ab_np a1 = some (a2 - 1) ∧ 1 ≤ a2 ∧ (ab_z sw).toNat ≠ 999) && (match ab_cl[(ab_z sw).toNat]? with
    | some (C, _, _) => ab_in (.selects C (ab_nm a1) (ab_nm a1))
    | none => false)
  | .invokespecial i => len == 3 && (match Nat.beq a1 999 with
    | true => ab_in (.methodLink (ab_nm n).cls i Lib.objectInit) && ab_in (.instanceMethod Lib.objectInit) && ab_in (.code Lib.objectInit ⟨#[0xb1]⟩ 1 none)
    | false => ab_okB a1 && ab_lkB n i a1 && ab_in (.instanceMethod (ab_nm a1)) && decide (ab_np a1 = some (a2 - 1) ∧ 1 ≤ a2 ∧ (ab_nm a1).name = "<init>" ∧ ab_rt a1 = none))
  | _ => true
def ab_chn (n : Nat) : Nat → List ab_E → Bool
  | _, [] => true
  | pc, (_, pc', ins, len, a1, a2, sw) :: t => decide (pc' = pc) && decide (decode (ab_bt n) pc = .ok (ins, len)) && ab_ck n pc ins len a1 a2 sw && ab_chn n (pc + len) t
theorem ab_in_of {w : Jvm.Cond} (h : ab_in w = true) : w ∈ lw_tbl := of_decide_eq_true h
theorem ab_lk_of {n i y : Nat} (h : ab_lkB n i y = true) : ab_lk n i y := by
  unfold ab_lkB at h
  rw [Bool.or_eq_true] at h
  exact h.elim (fun q => Or.inl (ab_in_of q)) (fun q => Or.inr ⟨_, ab_in_of q⟩)
theorem ab_okM_of {y : Nat} (h : ab_okB y = true) : ab_okM y := by
  unfold ab_okB at h
  simp only [Bool.and_eq_true, decide_eq_true_eq] at h
  obtain ⟨⟨⟨⟨h1, h2⟩, h3⟩, h4⟩, h5⟩ := h
  exact ⟨ab_in_of h1, ab_in_of h2, h3, h4, h5⟩
theorem ab_revrev {as : List ab_V} : (as.reverse ++ []).reverse = as := by simp
section AB6
variable {p : Program} {l : Launch} {e : Env} {s : State} {m : MethodId} {args : Array Value} {below : List Frame} {meth : Method} {c : Code} {n : Nat} {D : va_G} {cT : Nat → ClassId} {b0 b L : Nat} {xs : Nat → Int32} {n0 s0 d : Nat} {E : State → Prop}
theorem ab_if_sd {c : ClassFile.Cond} {x y : Int} {A B : Prop} (h : ab_if c x y A B) : match c with
    | .eq => (x = y → A) ∧ (¬ x = y → B)
    | .ne => (¬ x = y → A) ∧ (x = y → B)
    | .lt => (x < y → A) ∧ (y ≤ x → B)
    | .ge => (y ≤ x → A) ∧ (x < y → B)
    | .gt => (y < x → A) ∧ (x ≤ y → B)
    | .le => (x ≤ y → A) ∧ (y < x → B) := by cases c <;> exact h
set_option maxHeartbeats 8000000 in
theorem ab_stp_sd (C0 : ab_Cx p s m meth c n D cT b0 b L xs n0) (hd : d + 1 ≤ 2048) {Q : ab_Q} {X : ab_J} (hE : E = ab_En below args s Q D cT b0 b L xs n0 s0) (hX : ∀ pc ls st h, X pc ls st h → ab_WG p l e s m args below meth c n D cT b0 b L xs n0 s0 (d + 1) E pc ls st h) {pc len a1 a2 : Nat} {ins : Instr} {sw : List (Int × Nat)} {K : ab_K} {ls : ab_L} {st : List ab_V} {h : ab_H}
    (hdg : decode (ab_bt n) pc = .ok (ins, len)) (hck : ab_ck n pc ins len a1 a2 sw = true) (hK : ∀ ls st h, K ls st h → ab_WG p l e s m args below meth c n D cT b0 b L xs n0 s0 (d + 1) E (pc + len) ls st h) (hgo : ab_stp (ab_CT d) Q X (false, pc, ins, len, a1, a2, sw) K ls st h) : ab_WG p l e s m args below meth c n D cT b0 b L xs n0 s0 (d + 1) E pc ls st h := by
  cases ins
  case iconst z =>
    have e1 : len = 1 := by simpa [ab_ck] using hck
    subst e1
    exact ws_iconst C0 hdg (hK _ _ _ hgo)
  case lconst z =>
    have e1 : len = 1 := by simpa [ab_ck] using hck
    subst e1
    exact ws_lconst C0 hdg (hK _ _ _ hgo)
  case aconst_null =>
    have e1 : len = 1 := by simpa [ab_ck] using hck
    subst e1
    exact ws_null C0 hdg (hK _ _ _ hgo)
  case bipush z =>
    simp only [ab_ck, Bool.and_eq_true, beq_iff_eq, decide_eq_true_eq] at hck
    obtain ⟨rfl, hv⟩ := hck
    exact ws_bipush C0 hdg hv (hK _ _ _ hgo)
  case sipush z =>
    simp only [ab_ck, Bool.and_eq_true, beq_iff_eq, decide_eq_true_eq] at hck
    obtain ⟨rfl, hv⟩ := hck
    exact ws_sipush C0 hdg hv (hK _ _ _ hgo)
  case ldc i =>
    simp only [ab_ck, Bool.and_eq_true, beq_iff_eq, decide_eq_true_eq] at hck
    obtain ⟨rfl, hv⟩ := hck
    exact ws_ldc C0 (ab_in_of hv) hdg (hK _ _ _ hgo)
  case ldc2_w i =>
    simp only [ab_ck, Bool.and_eq_true, beq_iff_eq, decide_eq_true_eq] at hck
    obtain ⟨rfl, hv⟩ := hck
    exact ws_ldc2 C0 (ab_in_of hv) hdg (hK _ _ _ hgo)
  case iload i =>
    have e1 : len = 2 := by simpa [ab_ck] using hck
    subst e1
    obtain ⟨k0, v, hk0, hv⟩ := ab_get_sd hgo
    match v, hv with
    | .inl x, hv => exact ws_iload C0 hdg hk0 (hK _ _ _ hv)
    | .inr (.inl x), hv => exact hv.elim
    | .inr (.inr x), hv => exact hv.elim
  case iload_n i =>
    have e1 : len = 1 := by simpa [ab_ck] using hck
    subst e1
    obtain ⟨k0, v, hk0, hv⟩ := ab_get_sd hgo
    match v, hv with
    | .inl x, hv => exact ws_iload_n C0 hdg hk0 (hK _ _ _ hv)
    | .inr (.inl x), hv => exact hv.elim
    | .inr (.inr x), hv => exact hv.elim
  case lload i =>
    have e1 : len = 2 := by simpa [ab_ck] using hck
    subst e1
    obtain ⟨k0, v, hk0, hv⟩ := ab_get_sd hgo
    match v, hv with
    | .inr (.inl x), hv => exact ws_lload C0 hdg hk0 (hK _ _ _ hv)
    | .inl x, hv => exact hv.elim
    | .inr (.inr x), hv => exact hv.elim
  case lload_n i =>
    have e1 : len = 1 := by simpa [ab_ck] using hck
    subst e1
    obtain ⟨k0, v, hk0, hv⟩ := ab_get_sd hgo
    match v, hv with
    | .inr (.inl x), hv => exact ws_lload_n C0 hdg hk0 (hK _ _ _ hv)
    | .inl x, hv => exact hv.elim
    | .inr (.inr x), hv => exact hv.elim
  case aload i =>
    have e1 : len = 2 := by simpa [ab_ck] using hck
    subst e1
    obtain ⟨k0, v, hk0, hv⟩ := ab_get_sd hgo
    match v, hv with
    | .inr (.inr x), hv => exact ws_aload C0 hdg hk0 (hK _ _ _ hv)
    | .inl x, hv => exact hv.elim
    | .inr (.inl x), hv => exact hv.elim
  case aload_n i =>
    have e1 : len = 1 := by simpa [ab_ck] using hck
    subst e1
    obtain ⟨k0, v, hk0, hv⟩ := ab_get_sd hgo
    match v, hv with
    | .inr (.inr x), hv => exact ws_aload_n C0 hdg hk0 (hK _ _ _ hv)
    | .inl x, hv => exact hv.elim
    | .inr (.inl x), hv => exact hv.elim
  case istore i =>
    simp only [ab_ck, Bool.and_eq_true, beq_iff_eq, decide_eq_true_eq] at hck
    obtain ⟨rfl, hn⟩ := hck
    match st, hgo with
    | .inl x :: r, hgo => exact ws_istore C0 hdg hn (fun lx hx => hK _ _ _ hx) hgo
    | .inr (.inl x) :: r, hgo => exact hgo.elim
    | .inr (.inr x) :: r, hgo => exact hgo.elim
    | [], hgo => exact hgo.elim
  case istore_n i =>
    simp only [ab_ck, Bool.and_eq_true, beq_iff_eq, decide_eq_true_eq] at hck
    obtain ⟨rfl, hn⟩ := hck
    match st, hgo with
    | .inl x :: r, hgo => exact ws_istore_n C0 hdg hn (fun lx hx => hK _ _ _ hx) hgo
    | .inr (.inl x) :: r, hgo => exact hgo.elim
    | .inr (.inr x) :: r, hgo => exact hgo.elim
    | [], hgo => exact hgo.elim
  case astore i =>
    simp only [ab_ck, Bool.and_eq_true, beq_iff_eq, decide_eq_true_eq] at hck
    obtain ⟨rfl, hn⟩ := hck
    match st, hgo with
    | .inr (.inr x) :: r, hgo => exact ws_astore C0 hdg hn (fun lx hx => hK _ _ _ hx) hgo
    | .inl x :: r, hgo => exact hgo.elim
    | .inr (.inl x) :: r, hgo => exact hgo.elim
    | [], hgo => exact hgo.elim
  case astore_n i =>
    simp only [ab_ck, Bool.and_eq_true, beq_iff_eq, decide_eq_true_eq] at hck
    obtain ⟨rfl, hn⟩ := hck
    match st, hgo with
    | .inr (.inr x) :: r, hgo => exact ws_astore_n C0 hdg hn (fun lx hx => hK _ _ _ hx) hgo
    | .inl x :: r, hgo => exact hgo.elim
    | .inr (.inl x) :: r, hgo => exact hgo.elim
    | [], hgo => exact hgo.elim
  case lstore i =>
    simp only [ab_ck, Bool.and_eq_true, beq_iff_eq, decide_eq_true_eq] at hck
    obtain ⟨rfl, hn⟩ := hck
    match st, hgo with
    | .inr (.inl x) :: r, hgo => exact ws_lstore C0 hdg hn (fun lx hx => hK _ _ _ hx) hgo
    | .inl x :: r, hgo => exact hgo.elim
    | .inr (.inr x) :: r, hgo => exact hgo.elim
    | [], hgo => exact hgo.elim
  case lstore_n i =>
    simp only [ab_ck, Bool.and_eq_true, beq_iff_eq, decide_eq_true_eq] at hck
    obtain ⟨rfl, hn⟩ := hck
    match st, hgo with
    | .inr (.inl x) :: r, hgo => exact ws_lstore_n C0 hdg hn (fun lx hx => hK _ _ _ hx) hgo
    | .inl x :: r, hgo => exact hgo.elim
    | .inr (.inr x) :: r, hgo => exact hgo.elim
    | [], hgo => exact hgo.elim
  case iinc i z =>
    simp only [ab_ck, Bool.and_eq_true, beq_iff_eq, decide_eq_true_eq] at hck
    obtain ⟨rfl, hn⟩ := hck
    obtain ⟨k0, v, hk0, hv⟩ := ab_get_sd hgo
    match v, hv with
    | .inl x, hv => exact ws_iinc C0 hdg hk0 hn (fun lx hx => hK _ _ _ hx) hv
    | .inr (.inl x), hv => exact hv.elim
    | .inr (.inr x), hv => exact hv.elim
  case dup =>
    have e1 : len = 1 := by simpa [ab_ck] using hck
    subst e1
    match st, hgo with
    | .inl x :: r, hgo => exact ws_dup C0 rfl hdg (hK _ _ _ hgo)
    | .inr (.inr x) :: r, hgo => exact ws_dup C0 rfl hdg (hK _ _ _ hgo)
    | .inr (.inl x) :: r, hgo => exact hgo.elim
    | [], hgo => exact hgo.elim
  case dup2 =>
    have e1 : len = 1 := by simpa [ab_ck] using hck
    subst e1
    match st, hgo with
    | .inl x :: .inl y :: r, hgo => exact ws_dup2 C0 rfl rfl hdg (hK _ _ _ hgo)
    | .inl x :: .inr (.inr y) :: r, hgo => exact ws_dup2 C0 rfl rfl hdg (hK _ _ _ hgo)
    | .inl x :: .inr (.inl y) :: r, hgo => exact hgo.elim
    | .inl x :: [], hgo => exact hgo.elim
    | .inr (.inr x) :: r, hgo => exact hgo.elim
    | .inr (.inl x) :: r, hgo => exact hgo.elim
    | [], hgo => exact hgo.elim
  case pop =>
    have e1 : len = 1 := by simpa [ab_ck] using hck
    subst e1
    match st, hgo with
    | .inl x :: r, hgo => exact ws_pop C0 rfl hdg (hK _ _ _ hgo)
    | .inr (.inr x) :: r, hgo => exact ws_pop C0 rfl hdg (hK _ _ _ hgo)
    | .inr (.inl x) :: r, hgo => exact hgo.elim
    | [], hgo => exact hgo.elim
  case pop2 =>
    have e1 : len = 1 := by simpa [ab_ck] using hck
    subst e1
    match st, hgo with
    | .inr (.inl x) :: r, hgo => exact ws_pop2 C0 rfl hdg (hK _ _ _ hgo)
    | .inl x :: r, hgo => exact hgo.elim
    | .inr (.inr x) :: r, hgo => exact hgo.elim
    | [], hgo => exact hgo.elim
  case iadd =>
    have e1 : len = 1 := by simpa [ab_ck] using hck
    subst e1
    match st, hgo with
    | .inl y :: .inl x :: r, hgo => exact ws_iadd C0 hdg (hK _ _ _ hgo)
    | .inl y :: .inr (.inl x) :: r, hgo => exact hgo.elim
    | .inl y :: .inr (.inr x) :: r, hgo => exact hgo.elim
    | [.inl y], hgo => exact hgo.elim
    | .inr (.inl y) :: r, hgo => exact hgo.elim
    | .inr (.inr y) :: r, hgo => exact hgo.elim
    | [], hgo => exact hgo.elim
  case isub =>
    have e1 : len = 1 := by simpa [ab_ck] using hck
    subst e1
    match st, hgo with
    | .inl y :: .inl x :: r, hgo => exact ws_isub C0 hdg (hK _ _ _ hgo)
    | .inl y :: .inr (.inl x) :: r, hgo => exact hgo.elim
    | .inl y :: .inr (.inr x) :: r, hgo => exact hgo.elim
    | [.inl y], hgo => exact hgo.elim
    | .inr (.inl y) :: r, hgo => exact hgo.elim
    | .inr (.inr y) :: r, hgo => exact hgo.elim
    | [], hgo => exact hgo.elim
  case imul =>
    have e1 : len = 1 := by simpa [ab_ck] using hck
    subst e1
    match st, hgo with
    | .inl y :: .inl x :: r, hgo => exact ws_imul C0 hdg (hK _ _ _ hgo)
    | .inl y :: .inr (.inl x) :: r, hgo => exact hgo.elim
    | .inl y :: .inr (.inr x) :: r, hgo => exact hgo.elim
    | [.inl y], hgo => exact hgo.elim
    | .inr (.inl y) :: r, hgo => exact hgo.elim
    | .inr (.inr y) :: r, hgo => exact hgo.elim
    | [], hgo => exact hgo.elim
  case iand =>
    have e1 : len = 1 := by simpa [ab_ck] using hck
    subst e1
    match st, hgo with
    | .inl y :: .inl x :: r, hgo => exact ws_iand C0 hdg (hK _ _ _ hgo)
    | .inl y :: .inr (.inl x) :: r, hgo => exact hgo.elim
    | .inl y :: .inr (.inr x) :: r, hgo => exact hgo.elim
    | [.inl y], hgo => exact hgo.elim
    | .inr (.inl y) :: r, hgo => exact hgo.elim
    | .inr (.inr y) :: r, hgo => exact hgo.elim
    | [], hgo => exact hgo.elim
  case ishr =>
    have e1 : len = 1 := by simpa [ab_ck] using hck
    subst e1
    match st, hgo with
    | .inl y :: .inl x :: r, hgo => exact ws_ishr C0 hdg (hK _ _ _ hgo)
    | .inl y :: .inr (.inl x) :: r, hgo => exact hgo.elim
    | .inl y :: .inr (.inr x) :: r, hgo => exact hgo.elim
    | [.inl y], hgo => exact hgo.elim
    | .inr (.inl y) :: r, hgo => exact hgo.elim
    | .inr (.inr y) :: r, hgo => exact hgo.elim
    | [], hgo => exact hgo.elim
  case iushr =>
    have e1 : len = 1 := by simpa [ab_ck] using hck
    subst e1
    match st, hgo with
    | .inl y :: .inl x :: r, hgo => exact ws_iushr C0 hdg (hK _ _ _ hgo)
    | .inl y :: .inr (.inl x) :: r, hgo => exact hgo.elim
    | .inl y :: .inr (.inr x) :: r, hgo => exact hgo.elim
    | [.inl y], hgo => exact hgo.elim
    | .inr (.inl y) :: r, hgo => exact hgo.elim
    | .inr (.inr y) :: r, hgo => exact hgo.elim
    | [], hgo => exact hgo.elim
  case irem =>
    have e1 : len = 1 := by simpa [ab_ck] using hck
    subst e1
    match st, hgo with
    | .inl y :: .inl x :: r, hgo => exact ws_irem C0 hdg hgo.1 (hK _ _ _ hgo.2)
    | .inl y :: .inr (.inl x) :: r, hgo => exact hgo.elim
    | .inl y :: .inr (.inr x) :: r, hgo => exact hgo.elim
    | [.inl y], hgo => exact hgo.elim
    | .inr (.inl y) :: r, hgo => exact hgo.elim
    | .inr (.inr y) :: r, hgo => exact hgo.elim
    | [], hgo => exact hgo.elim
  case ladd =>
    have e1 : len = 1 := by simpa [ab_ck] using hck
    subst e1
    match st, hgo with
    | .inr (.inl y) :: .inr (.inl x) :: r, hgo => exact ws_ladd C0 hdg (hK _ _ _ hgo)
    | .inl y :: r, hgo => exact hgo.elim
    | .inr (.inl y) :: .inl x :: r, hgo => exact hgo.elim
    | .inr (.inl y) :: .inr (.inr x) :: r, hgo => exact hgo.elim
    | [.inr (.inl y)], hgo => exact hgo.elim
    | .inr (.inr y) :: r, hgo => exact hgo.elim
    | [], hgo => exact hgo.elim
  case lcmp =>
    have e1 : len = 1 := by simpa [ab_ck] using hck
    subst e1
    match st, hgo with
    | .inr (.inl y) :: .inr (.inl x) :: r, hgo => exact ws_lcmp C0 hdg (fun q => hK _ _ _ (hgo.1 q)) (fun q => hK _ _ _ (hgo.2.1 q)) (fun q => hK _ _ _ (hgo.2.2 q))
    | .inl y :: r, hgo => exact hgo.elim
    | .inr (.inl y) :: .inl x :: r, hgo => exact hgo.elim
    | .inr (.inl y) :: .inr (.inr x) :: r, hgo => exact hgo.elim
    | [.inr (.inl y)], hgo => exact hgo.elim
    | .inr (.inr y) :: r, hgo => exact hgo.elim
    | [], hgo => exact hgo.elim
  case ineg =>
    have e1 : len = 1 := by simpa [ab_ck] using hck
    subst e1
    match st, hgo with
    | .inl x :: r, hgo => exact ws_ineg C0 hdg (hK _ _ _ hgo)
    | .inr (.inl x) :: r, hgo => exact hgo.elim
    | .inr (.inr x) :: r, hgo => exact hgo.elim
    | [], hgo => exact hgo.elim
  case i2l =>
    have e1 : len = 1 := by simpa [ab_ck] using hck
    subst e1
    match st, hgo with
    | .inl x :: r, hgo => exact ws_i2l C0 hdg (hK _ _ _ hgo)
    | .inr (.inl x) :: r, hgo => exact hgo.elim
    | .inr (.inr x) :: r, hgo => exact hgo.elim
    | [], hgo => exact hgo.elim
  case goto off =>
    simp only [ab_ck, Bool.and_eq_true, beq_iff_eq, decide_eq_true_eq] at hck
    obtain ⟨rfl, ht⟩ := hck
    exact ws_goto C0 hdg ht (hX _ _ _ _ hgo)
  case ifCond cd off =>
    simp only [ab_ck, Bool.and_eq_true, beq_iff_eq, decide_eq_true_eq] at hck
    obtain ⟨rfl, ht⟩ := hck
    match st, hgo with
    | .inl x :: r, hgo =>
      cases cd
      case eq => exact ws_if_eq C0 hdg ht (fun q => hX _ _ _ _ (hgo.1 q)) (fun q => hK _ _ _ (hgo.2 q))
      case ne => exact ws_if_ne C0 hdg ht (fun q => hX _ _ _ _ (hgo.1 q)) (fun q => hK _ _ _ (hgo.2 q))
      case lt => exact ws_if_lt C0 hdg ht (fun q => hX _ _ _ _ (hgo.1 q)) (fun q => hK _ _ _ (hgo.2 q))
      case ge => exact ws_if_ge C0 hdg ht (fun q => hX _ _ _ _ (hgo.1 q)) (fun q => hK _ _ _ (hgo.2 q))
      case gt => exact ws_if_gt C0 hdg ht (fun q => hX _ _ _ _ (hgo.1 q)) (fun q => hK _ _ _ (hgo.2 q))
      case le => exact ws_if_le C0 hdg ht (fun q => hX _ _ _ _ (hgo.1 q)) (fun q => hK _ _ _ (hgo.2 q))
    | .inr (.inl x) :: r, hgo => exact hgo.elim
    | .inr (.inr x) :: r, hgo => exact hgo.elim
    | [], hgo => exact hgo.elim
  case if_icmp cd off =>
    simp only [ab_ck, Bool.and_eq_true, beq_iff_eq, decide_eq_true_eq] at hck
    obtain ⟨rfl, ht⟩ := hck
    match st, hgo with
    | .inl y :: .inl x :: r, hgo => 
      cases cd
      case eq => exact ws_icmp_eq C0 hdg ht (fun q => hX _ _ _ _ (hgo.1 q)) (fun q => hK _ _ _ (hgo.2 q))
      case ne => exact ws_icmp_ne C0 hdg ht (fun q => hX _ _ _ _ (hgo.1 q)) (fun q => hK _ _ _ (hgo.2 q))
      case lt => exact ws_icmp_lt C0 hdg ht (fun q => hX _ _ _ _ (hgo.1 q)) (fun q => hK _ _ _ (hgo.2 q))
      case ge => exact ws_icmp_ge C0 hdg ht (fun q => hX _ _ _ _ (hgo.1 q)) (fun q => hK _ _ _ (hgo.2 q))
      case gt => exact ws_icmp_gt C0 hdg ht (fun q => hX _ _ _ _ (hgo.1 q)) (fun q => hK _ _ _ (hgo.2 q))
      case le => exact ws_icmp_le C0 hdg ht (fun q => hX _ _ _ _ (hgo.1 q)) (fun q => hK _ _ _ (hgo.2 q))
    | .inl y :: .inr (.inl x) :: r, hgo => exact hgo.elim
    | .inl y :: .inr (.inr x) :: r, hgo => exact hgo.elim
    | [.inl y], hgo => exact hgo.elim
    | .inr (.inl y) :: r, hgo => exact hgo.elim
    | .inr (.inr y) :: r, hgo => exact hgo.elim
    | [], hgo => exact hgo.elim
  case if_acmp cd off =>
    simp only [ab_ck, Bool.and_eq_true, beq_iff_eq, decide_eq_true_eq] at hck
    obtain ⟨rfl, ht⟩ := hck
    cases cd
    case eq =>
      match st, hgo with
      | .inr (.inr y) :: .inr (.inr x) :: r, hgo => exact ws_acmp_eq C0 hdg ht (fun q => hX _ _ _ _ (hgo.1 q)) (fun q => hK _ _ _ (hgo.2 q))
      | .inl y :: r, hgo => exact hgo.elim
      | .inr (.inl y) :: r, hgo => exact hgo.elim
      | .inr (.inr y) :: .inl x :: r, hgo => exact hgo.elim
      | .inr (.inr y) :: .inr (.inl x) :: r, hgo => exact hgo.elim
      | [.inr (.inr y)], hgo => exact hgo.elim
      | [], hgo => exact hgo.elim
    case ne =>
      match st, hgo with
      | .inr (.inr y) :: .inr (.inr x) :: r, hgo => exact ws_acmp_ne C0 hdg ht (fun q => hX _ _ _ _ (hgo.1 q)) (fun q => hK _ _ _ (hgo.2 q))
      | .inl y :: r, hgo => exact hgo.elim
      | .inr (.inl y) :: r, hgo => exact hgo.elim
      | .inr (.inr y) :: .inl x :: r, hgo => exact hgo.elim
      | .inr (.inr y) :: .inr (.inl x) :: r, hgo => exact hgo.elim
      | [.inr (.inr y)], hgo => exact hgo.elim
      | [], hgo => exact hgo.elim
  case ifnull off =>
    simp only [ab_ck, Bool.and_eq_true, beq_iff_eq, decide_eq_true_eq] at hck
    obtain ⟨rfl, ht⟩ := hck
    match st, hgo with
    | .inr (.inr x) :: r, hgo => exact ws_ifnull C0 hdg ht (fun q => by subst q; exact hX _ _ _ _ hgo) (fun a q => by subst q; exact hK _ _ _ hgo)
    | .inl x :: r, hgo => exact hgo.elim
    | .inr (.inl x) :: r, hgo => exact hgo.elim
    | [], hgo => exact hgo.elim
  case ifnonnull off =>
    simp only [ab_ck, Bool.and_eq_true, beq_iff_eq, decide_eq_true_eq] at hck
    obtain ⟨rfl, ht⟩ := hck
    match st, hgo with
    | .inr (.inr x) :: r, hgo => exact ws_ifnonnull C0 hdg ht (fun a q => by subst q; exact hX _ _ _ _ hgo) (fun q => by subst q; exact hK _ _ _ hgo)
    | .inl x :: r, hgo => exact hgo.elim
    | .inr (.inl x) :: r, hgo => exact hgo.elim
    | [], hgo => exact hgo.elim
  case tableswitch df lo hi offs =>
    simp only [ab_ck, Bool.and_eq_true, decide_eq_true_eq] at hck
    obtain ⟨⟨hd1, hn⟩, hall⟩ := hck
    have hsw : ∀ i, i < sw.length → ∃ t o, sw[i]? = some (lo + i, t) ∧ offs[i]? = some o ∧ (pc : Int) + o = (t : Int) := fun i hi0 => by
      have h1 := List.all_eq_true.mp hall i (List.mem_range.mpr hi0)
      split at h1
      next k t o g1 g2 =>
        simp only [Bool.and_eq_true, decide_eq_true_eq] at h1
        exact ⟨t, o, by rw [g1, h1.1], g2, h1.2⟩
      next => cases h1
    match st, hgo with
    | .inl x :: r, hgo => exact ws_table C0 hdg hd1 hn hsw (fun t ht => hX _ _ _ _ ht) hgo
    | .inr (.inl x) :: r, hgo => exact hgo.elim
    | .inr (.inr x) :: r, hgo => exact hgo.elim
    | [], hgo => exact hgo.elim
  case lookupswitch df ps =>
    simp only [ab_ck, Bool.and_eq_true, decide_eq_true_eq] at hck
    obtain ⟨⟨⟨hp, hd1⟩, hn⟩, hall⟩ := hck
    have hsw : ∀ i, i < ps.toList.length → ∃ k o t, ps.toList[i]? = some (k, o) ∧ sw[i]? = some (k, t) ∧ (pc : Int) + o = (t : Int) := fun i hi0 => by
      have h1 := List.all_eq_true.mp hall i (List.mem_range.mpr hi0)
      split at h1
      next k o k' t g1 g2 =>
        simp only [Bool.and_eq_true, decide_eq_true_eq] at h1
        exact ⟨k, o, t, g1, by rw [g2, h1.1], h1.2⟩
      next => cases h1
    match st, hgo with
    | .inl x :: r, hgo => exact ws_lookup C0 hdg hp hd1 hn hsw (fun t ht => hX _ _ _ _ ht) hgo
    | .inr (.inl x) :: r, hgo => exact hgo.elim
    | .inr (.inr x) :: r, hgo => exact hgo.elim
    | [], hgo => exact hgo.elim
  case ireturn =>
    simp only [ab_ck, Bool.and_eq_true, beq_iff_eq, decide_eq_true_eq] at hck
    obtain ⟨rfl, hrt⟩ := hck
    match st, hgo with
    | [.inl x], hgo => exact ws_ireturn C0 hE hrt hdg hgo.1 hgo.2
    | .inl x :: y :: r, hgo => exact hgo.elim
    | .inr (.inl x) :: r, hgo => exact hgo.elim
    | .inr (.inr x) :: r, hgo => exact hgo.elim
    | [], hgo => exact hgo.elim
  case lreturn =>
    simp only [ab_ck, Bool.and_eq_true, beq_iff_eq, decide_eq_true_eq] at hck
    obtain ⟨rfl, hrt⟩ := hck
    match st, hgo with
    | [.inr (.inl x)], hgo => exact ws_lreturn C0 hE hrt hdg hgo
    | .inr (.inl x) :: y :: r, hgo => exact hgo.elim
    | .inl x :: r, hgo => exact hgo.elim
    | .inr (.inr x) :: r, hgo => exact hgo.elim
    | [], hgo => exact hgo.elim
  case areturn =>
    simp only [ab_ck, Bool.and_eq_true, beq_iff_eq] at hck
    obtain ⟨rfl, hrt⟩ := hck
    have hrt2 : ∃ ty, ab_rt n = some ty ∧ ((∃ n, ty = .object n) ∨ ∃ t, ty = .array t) := by
      split at hrt
      next q g => exact ⟨_, g, Or.inl ⟨_, rfl⟩⟩
      next q g => exact ⟨_, g, Or.inr ⟨_, rfl⟩⟩
      next => cases hrt
    match st, hgo with
    | [.inr (.inr x)], hgo => exact ws_areturn C0 hE hrt2 hdg hgo
    | .inr (.inr x) :: y :: r, hgo => exact hgo.elim
    | .inl x :: r, hgo => exact hgo.elim
    | .inr (.inl x) :: r, hgo => exact hgo.elim
    | [], hgo => exact hgo.elim
  case return_ =>
    simp only [ab_ck, Bool.and_eq_true, beq_iff_eq, decide_eq_true_eq] at hck
    obtain ⟨rfl, hrt⟩ := hck
    match st, hgo with
    | [], hgo => exact ws_vreturn C0 hE hrt hdg hgo
    | x :: r, hgo => exact hgo.elim
  case getfield i =>
    simp only [ab_ck, Bool.and_eq_true, beq_iff_eq] at hck
    obtain ⟨rfl, hck⟩ := hck
    match st, hgo with
    | .inr (.inr (some a)) :: r, hgo =>
      obtain ⟨fs, w, ho, hv, hg⟩ := hgo
      split at hck
      next C T N hc =>
        simp only [Bool.and_eq_true, decide_eq_true_eq, Bool.or_eq_true] at hck
        obtain ⟨⟨hk, h9⟩, hw⟩ := hck
        exact ws_getfield C0 hc hk h9 (hw.elim (fun q => Or.inl (ab_in_of q)) (fun q => Or.inr ⟨_, ab_in_of q⟩)) hdg ho hv (hK _ _ _ hg)
      next => cases hck
    | .inr (.inr none) :: r, hgo => exact hgo.elim
    | .inl x :: r, hgo => exact hgo.elim
    | .inr (.inl x) :: r, hgo => exact hgo.elim
    | [], hgo => exact hgo.elim
  case putfield i =>
    simp only [ab_ck, Bool.and_eq_true, beq_iff_eq] at hck
    obtain ⟨rfl, hck⟩ := hck
    match st, hgo with
    | v :: .inr (.inr (some a)) :: r, hgo =>
      obtain ⟨fs, ho, hl0, hf, hg⟩ := hgo
      split at hck
      next C T N hc =>
        simp only [Bool.and_eq_true, decide_eq_true_eq] at hck
        obtain ⟨⟨⟨⟨hk, h9⟩, hw⟩, hfin⟩, hty⟩ := hck
        exact ws_putfield C0 hc hk h9 (ab_in_of hw) hfin hdg ho hl0 (by rw [hty]; exact hf) (hK _ _ _ hg)
      next => cases hck
    | v :: .inr (.inr none) :: r, hgo => exact hgo.elim
    | v :: .inl x :: r, hgo => exact hgo.elim
    | v :: .inr (.inl x) :: r, hgo => exact hgo.elim
    | [v], hgo => exact hgo.elim
    | [], hgo => exact hgo.elim
  case iaload =>
    have e1 : len = 1 := by simpa [ab_ck] using hck
    subst e1
    match st, hgo with
    | .inl x :: .inr (.inr (some a)) :: r, hgo =>
      obtain ⟨t, N, f, ho, ht, hx, hg⟩ := hgo
      exact ws_iaload C0 hdg ho ht hx (hK _ _ _ hg)
    | .inl x :: .inr (.inr none) :: r, hgo => exact hgo.elim
    | .inl x :: .inl y :: r, hgo => exact hgo.elim
    | .inl x :: .inr (.inl y) :: r, hgo => exact hgo.elim
    | [.inl x], hgo => exact hgo.elim
    | .inr (.inl x) :: r, hgo => exact hgo.elim
    | .inr (.inr x) :: r, hgo => exact hgo.elim
    | [], hgo => exact hgo.elim
  case baload =>
    have e1 : len = 1 := by simpa [ab_ck] using hck
    subst e1
    match st, hgo with
    | .inl x :: .inr (.inr (some a)) :: r, hgo =>
      obtain ⟨N, f, ho, hx, hg⟩ := hgo
      exact ws_baload C0 hdg ho hx (hK _ _ _ hg)
    | .inl x :: .inr (.inr none) :: r, hgo => exact hgo.elim
    | .inl x :: .inl y :: r, hgo => exact hgo.elim
    | .inl x :: .inr (.inl y) :: r, hgo => exact hgo.elim
    | [.inl x], hgo => exact hgo.elim
    | .inr (.inl x) :: r, hgo => exact hgo.elim
    | .inr (.inr x) :: r, hgo => exact hgo.elim
    | [], hgo => exact hgo.elim
  case aaload =>
    have e1 : len = 1 := by simpa [ab_ck] using hck
    subst e1
    match st, hgo with
    | .inl x :: .inr (.inr (some a)) :: r, hgo =>
      obtain ⟨t, N, f, ho, hx, hg⟩ := hgo
      exact ws_aaload C0 hdg ho hx (hK _ _ _ hg)
    | .inl x :: .inr (.inr none) :: r, hgo => exact hgo.elim
    | .inl x :: .inl y :: r, hgo => exact hgo.elim
    | .inl x :: .inr (.inl y) :: r, hgo => exact hgo.elim
    | [.inl x], hgo => exact hgo.elim
    | .inr (.inl x) :: r, hgo => exact hgo.elim
    | .inr (.inr x) :: r, hgo => exact hgo.elim
    | [], hgo => exact hgo.elim
  case iastore =>
    have e1 : len = 1 := by simpa [ab_ck] using hck
    subst e1
    match st, hgo with
    | .inl y :: .inl x :: .inr (.inr (some a)) :: r, hgo =>
      obtain ⟨N, f, ho, hx, hg⟩ := hgo
      exact ws_iastore C0 hdg ho hx (hK _ _ _ hg)
    | .inl y :: .inl x :: .inr (.inr none) :: r, hgo => exact hgo.elim
    | .inl y :: .inl x :: .inl z :: r, hgo => exact hgo.elim
    | .inl y :: .inl x :: .inr (.inl z) :: r, hgo => exact hgo.elim
    | .inl y :: [.inl x], hgo => exact hgo.elim
    | .inl y :: .inr (.inl x) :: r, hgo => exact hgo.elim
    | .inl y :: .inr (.inr x) :: r, hgo => exact hgo.elim
    | [.inl y], hgo => exact hgo.elim
    | .inr (.inl y) :: r, hgo => exact hgo.elim
    | .inr (.inr y) :: r, hgo => exact hgo.elim
    | [], hgo => exact hgo.elim
  case bastore =>
    have e1 : len = 1 := by simpa [ab_ck] using hck
    subst e1
    match st, hgo with
    | .inl y :: .inl x :: .inr (.inr (some a)) :: r, hgo =>
      obtain ⟨N, f, ho, hx, hy, hg⟩ := hgo
      exact ws_bastore C0 hdg ho hx hy (hK _ _ _ hg)
    | .inl y :: .inl x :: .inr (.inr none) :: r, hgo => exact hgo.elim
    | .inl y :: .inl x :: .inl z :: r, hgo => exact hgo.elim
    | .inl y :: .inl x :: .inr (.inl z) :: r, hgo => exact hgo.elim
    | .inl y :: [.inl x], hgo => exact hgo.elim
    | .inl y :: .inr (.inl x) :: r, hgo => exact hgo.elim
    | .inl y :: .inr (.inr x) :: r, hgo => exact hgo.elim
    | [.inl y], hgo => exact hgo.elim
    | .inr (.inl y) :: r, hgo => exact hgo.elim
    | .inr (.inr y) :: r, hgo => exact hgo.elim
    | [], hgo => exact hgo.elim
  case aastore =>
    have e1 : len = 1 := by simpa [ab_ck] using hck
    subst e1
    match st, hgo with
    | .inr (.inr y) :: .inl x :: .inr (.inr (some a)) :: r, hgo =>
      obtain ⟨t, N, f, ho, hx, hv, hg⟩ := hgo
      exact ws_aastore C0 hdg ho hx hv (hK _ _ _ hg)
    | .inr (.inr y) :: .inl x :: .inr (.inr none) :: r, hgo => exact hgo.elim
    | .inr (.inr y) :: .inl x :: .inl z :: r, hgo => exact hgo.elim
    | .inr (.inr y) :: .inl x :: .inr (.inl z) :: r, hgo => exact hgo.elim
    | .inr (.inr y) :: [.inl x], hgo => exact hgo.elim
    | .inr (.inr y) :: .inr (.inl x) :: r, hgo => exact hgo.elim
    | .inr (.inr y) :: .inr (.inr x) :: r, hgo => exact hgo.elim
    | [.inr (.inr y)], hgo => exact hgo.elim
    | .inl y :: r, hgo => exact hgo.elim
    | .inr (.inl y) :: r, hgo => exact hgo.elim
    | [], hgo => exact hgo.elim
  case arraylength =>
    have e1 : len = 1 := by simpa [ab_ck] using hck
    subst e1
    match st, hgo with
    | .inr (.inr (some a)) :: r, hgo =>
      obtain ⟨N, ho, hg⟩ := hgo
      exact ws_arraylength C0 hdg ho (hK _ _ _ hg)
    | .inr (.inr none) :: r, hgo => exact hgo.elim
    | .inl x :: r, hgo => exact hgo.elim
    | .inr (.inl x) :: r, hgo => exact hgo.elim
    | [], hgo => exact hgo.elim
  case new i =>
    simp only [ab_ck, Bool.and_eq_true, beq_iff_eq] at hck
    obtain ⟨rfl, hck⟩ := hck
    split at hck
    next C T N hc =>
      simp only [Bool.and_eq_true, decide_eq_true_eq] at hck
      obtain ⟨⟨⟨hN, hw1⟩, hw2⟩, hw3⟩ := hck
      exact ws_new C0 hc hN (ab_in_of hw1) (ab_in_of hw2) (ab_in_of hw3) hdg hgo.1 (hK _ _ _ hgo.2)
    next => cases hck
  case newarray ty =>
    simp only [ab_ck, Bool.and_eq_true, beq_iff_eq, decide_eq_true_eq] at hck
    obtain ⟨⟨rfl, ht⟩, hw⟩ := hck
    match st, hgo with
    | .inl x :: r, hgo => exact ws_newarr C0 ht (ab_in_of hw) hdg hgo.1 (hK _ _ _ hgo.2)
    | .inr (.inl x) :: r, hgo => exact hgo.elim
    | .inr (.inr x) :: r, hgo => exact hgo.elim
    | [], hgo => exact hgo.elim
  case anewarray i =>
    simp only [ab_ck, Bool.and_eq_true, beq_iff_eq, decide_eq_true_eq] at hck
    obtain ⟨⟨rfl, h3⟩, hck⟩ := hck
    split at hck
    next C T N hc =>
      simp only [Bool.and_eq_true] at hck
      match st, hgo with
      | .inl x :: r, hgo => exact ws_anewarr C0 h3 hc (ab_in_of hck.1) (ab_in_of hck.2) hdg hgo.1 (hK _ _ _ hgo.2)
      | .inr (.inl x) :: r, hgo => exact hgo.elim
      | .inr (.inr x) :: r, hgo => exact hgo.elim
      | [], hgo => exact hgo.elim
    next => cases hck
  case invokestatic i =>
    simp only [ab_ck, Bool.and_eq_true, beq_iff_eq, decide_eq_true_eq] at hck
    obtain ⟨⟨⟨⟨rfl, h1⟩, h2⟩, h3⟩, h4⟩ := hck
    obtain ⟨as, rest, hl, hst, hg⟩ := ab_pop_sd hgo
    split at hg
    next hble =>
      exact ws_static C0 hd (ab_okM_of h1) (ab_lk_of h2) (ab_in_of h3) (by rw [List.append_nil, List.length_reverse, hl]; exact h4) (Nat.le_of_ble_eq_true hble) hdg (by rw [ab_revrev]; exact hst) hg (fun r h' hq => hK _ _ _ hq)
    next => exact hg.elim
  case invokevirtual i =>
    simp only [ab_ck, Bool.and_eq_true, beq_iff_eq, decide_eq_true_eq] at hck
    obtain ⟨⟨⟨⟨⟨rfl, h1⟩, h2⟩, h3⟩, h4, h5, h6⟩, hck⟩ := hck
    obtain ⟨as, rest, hl, hst, hg⟩ := ab_pop_sd hgo
    split at hck
    next C T N hc =>
      split at hg
      next hble =>
        split at hg
        next a t he =>
          obtain ⟨fs, ho, hg⟩ := hg
          have he2 : as = t.reverse ++ [.inr (.inr (some a))] := by
            have := congrArg List.reverse he
            simpa using this
          have hlt : t.length = a2 - 1 := by
            rw [he2] at hl
            simp at hl
            omega
          refine ws_virtual (a := a) (as := t) (rest := rest) C0 hd (ab_okM_of h1) (ab_lk_of h2) (ab_in_of h3) (ab_in_of hck) hc h6 (by rw [hlt]; exact h4) (Nat.le_of_ble_eq_true hble) hdg (by rw [hst, he2]; simp) ho ?_ (fun r h' hq => hK _ _ _ hq)
          rw [← he]
          exact hg
        next => exact hg.elim
      next => exact hg.elim
    next => cases hck
  case invokespecial i =>
    simp only [ab_ck, Bool.and_eq_true, beq_iff_eq] at hck
    obtain ⟨rfl, hck⟩ := hck
    have hgo : ab_sp (ab_CT d) a1 a2 K ls st h := hgo
    unfold ab_sp at hgo
    split at hck
    next hb =>
      rw [hb] at hgo
      simp only [Bool.and_eq_true] at hck
      obtain ⟨⟨g1, g2⟩, g3⟩ := hck
      have hgo : ab_oi K ls st h := hgo
      unfold ab_oi at hgo
      split at hgo
      next a r =>
        split at hgo
        next hble => exact ws_objinit C0 (Nat.le_add_left _ _) hd (Nat.le_of_ble_eq_true hble) (ab_in_of g1) (ab_in_of g2) (ab_in_of g3) hdg (hK _ _ _ hgo)
        next => exact hgo.elim
      next => exact hgo.elim
    next hb =>
      rw [hb] at hgo
      simp only [Bool.and_eq_true, decide_eq_true_eq] at hck
      obtain ⟨⟨⟨h1, h2⟩, h3⟩, h4, h5, h6, h7⟩ := hck
      obtain ⟨as, rest, hl, hst, hg⟩ := ab_pop_sd hgo
      split at hg
      next hble =>
        split at hg
        next a t he =>
          have he2 : as = t.reverse ++ [.inr (.inr (some a))] := by
            have := congrArg List.reverse he
            simpa using this
          have hlt : t.length = a2 - 1 := by
            rw [he2] at hl
            simp at hl
            omega
          refine ws_special (a := a) (as := t) (rest := rest) C0 hd (ab_okM_of h1) (ab_lk_of h2) h6 h7 (ab_in_of h3) (by rw [hlt]; exact h4) (Nat.le_of_ble_eq_true hble) hdg (by rw [hst, he2]; simp) ?_ (fun r h' hq => hK _ _ _ hq)
          rw [← he]
          exact hg
        next => exact hg.elim
      next => exact hg.elim
  all_goals exact hgo.elim
theorem ab_go_sd (C0 : ab_Cx p s m meth c n D cT b0 b L xs n0) (hd : d + 1 ≤ 2048) {Q : ab_Q} {X : ab_J} (hE : E = ab_En below args s Q D cT b0 b L xs n0 s0) (hX : ∀ pc ls st h, X pc ls st h → ab_WG p l e s m args below meth c n D cT b0 b L xs n0 s0 (d + 1) E pc ls st h) :
    ∀ (code : List ab_E) (pc : Nat) (ls : ab_L) (st : List ab_V) (h : ab_H), ab_chn n pc code = true → ab_go (ab_CT d) Q X code ls st h → ab_WG p l e s m args below meth c n D cT b0 b L xs n0 s0 (d + 1) E pc ls st h := by
  intro code
  induction code with
  | nil => intro pc ls st h _ hgo; exact hgo.elim
  | cons q t ih =>
    intro pc ls st h hch hgo
    obtain ⟨mk, pc', ins, len, a1, a2, sw⟩ := q
    unfold ab_chn at hch
    simp only [Bool.and_eq_true, decide_eq_true_eq] at hch
    obtain ⟨⟨⟨rfl, hdg⟩, hck⟩, hch⟩ := hch
    cases mk with
    | true => exact hX _ _ _ _ hgo
    | false => exact ab_stp_sd C0 hd hE hX hdg hck (fun ls st h hg => ih _ ls st h hch hg) hgo
end AB6
