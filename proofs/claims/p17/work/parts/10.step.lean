/-! ===== the walk: what a list of instructions asks, and that it is enough (own text) ===== -/
def ab_np (y : Nat) : Option Nat := (parseMethodDescriptor (ab_nm y).desc).map (fun d => d.parameters.length)
def ab_clq (k : Nat) : vw_C := (ab_cl[k]?).getD (RX0, TX0, 7)
theorem ab_clq_of {k : Nat} (h : k < 13) : ab_cl[k]? = some (ab_clq k) := by
  have h2 : k < ab_cl.length := h
  unfold ab_clq
  rw [List.getElem?_eq_getElem h2]
  rfl
def ab_ns (sw : List (Int × Nat)) : Bool := match sw with
  | (_, k) :: _ => Nat.beq k 1
  | [] => false
def ab_lkw (n i y : Nat) (sw : List (Int × Nat)) : Jvm.Cond := match ab_ns sw with
  | true => .methodLinkNest (ab_nm n).cls i (ab_nm y) "NestedFoci"
  | false => .methodLink (ab_nm n).cls i (ab_nm y)
def ab_fdw (n i : Nat) (T : u_T) (k : Nat) (sw : List (Int × Nat)) : Jvm.Cond := match ab_ns sw with
  | true => .fieldLinkNest (ab_nm n).cls i (T k).1 (T k).2.1 (T k).2.2.1 "NestedFoci"
  | false => .fieldLink (ab_nm n).cls i (T k).1 (T k).2.1 (T k).2.2.1
/-- the words that an instruction needs of the tables -/
def ab_wd (n : Nat) (ins : Instr) (a1 a2 : Nat) (sw : List (Int × Nat)) : List Jvm.Cond := match ins with
  | .ldc i => [.constant (ab_nm n).cls i (ab_ii (ab_z sw))]
  | .ldc2_w i => [.constantLong (ab_nm n).cls i (Int64.ofInt (ab_z sw))]
  | .getfield i => [ab_fdw n i (ab_clq a1).2.1 a2 sw]
  | .putfield i => [.fieldLink (ab_nm n).cls i ((ab_clq a1).2.1 a2).1 ((ab_clq a1).2.1 a2).2.1 ((ab_clq a1).2.1 a2).2.2.1]
  | .new i => [.classLink (ab_nm n).cls i (ab_clq a1).1, .instantiable (ab_clq a1).1 a2, .initialized (ab_clq a1).1]
  | .newarray ty => [.arrayClass (newarray.typeOf ty)]
  | .anewarray i => [.classLink (ab_nm n).cls i (ab_clq (ab_ec a1)).1, .arrayOver (.object (ab_clq (ab_ec a1)).1)]
  | .invokestatic i => [ab_lkw n i a1 sw, .static (ab_nm a1)]
  | .invokevirtual i => [ab_lkw n i a1 sw, .instanceMethod (ab_nm a1), .selects (ab_clq (ab_z sw).toNat).1 (ab_nm a1) (ab_nm a1)]
  | .invokespecial i => match Nat.beq a1 999 with
    | true => [.methodLink (ab_nm n).cls i Lib.objectInit, .instanceMethod Lib.objectInit, .code Lib.objectInit ⟨#[0xb1]⟩ 1 none]
    | false => [ab_lkw n i a1 sw, .instanceMethod (ab_nm a1)]
  | _ => []
def ab_wds (n : Nat) : List ab_E → List Jvm.Cond
  | [] => []
  | (_, _, ins, _, a1, a2, sw) :: t => ab_wd n ins a1 a2 sw ++ ab_wds n t
def ab_ck (n pc : Nat) (ins : Instr) (len a1 a2 : Nat) (sw : List (Int × Nat)) : Bool := match ins with
  | .iconst _ | .lconst _ | .aconst_null | .iload_n _ | .lload_n _ | .aload_n _ | .dup | .dup2 | .pop | .pop2 | .iadd | .isub | .imul | .irem | .ineg | .iand | .ishr | .iushr | .i2l | .ladd | .lcmp | .iaload | .baload | .aaload | .iastore | .bastore | .aastore | .arraylength => Nat.beq len 1
  | .bipush z => Nat.beq len 2 && decide ((Int8.ofInt z).toInt32 = ab_ii z)
  | .sipush z => Nat.beq len 3 && decide ((Int16.ofInt z).toInt32 = ab_ii z)
  | .ldc _ => Nat.beq len 2
  | .ldc2_w _ => Nat.beq len 3
  | .iload _ | .lload _ | .aload _ => Nat.beq len 2
  | .istore i | .astore i => Nat.beq len 2 && Nat.ble (i + 1) (ab_ml n)
  | .istore_n i | .astore_n i => Nat.beq len 1 && Nat.ble ((i : Nat) + 1) (ab_ml n)
  | .lstore i => Nat.beq len 2 && Nat.ble (i + 2) (ab_ml n)
  | .lstore_n i => Nat.beq len 1 && Nat.ble ((i : Nat) + 2) (ab_ml n)
  | .iinc i _ => Nat.beq len 3 && Nat.ble (i + 1) (ab_ml n)
  | .goto off | .ifCond _ off | .if_icmp _ off | .if_acmp _ off | .ifnull off | .ifnonnull off => Nat.beq len 3 && decide ((pc : Int) + off = (a1 : Int))
  | .tableswitch df lo hi offs => decide ((pc : Int) + df = (a1 : Int)) && decide (sw.length = offs.size ∧ hi = lo + offs.size - 1) && (List.range sw.length).all (fun i => match sw[i]?, offs[i]? with
    | some (k, t), some o => decide (k = lo + i) && decide ((pc : Int) + o = (t : Int))
    | _, _ => false)
  | .lookupswitch df ps => (ps.toList.zip (ps.toList.drop 1)).all (fun (a, next) => a.1 < next.1) && decide ((pc : Int) + df = (a1 : Int)) && decide (ps.toList.length = sw.length) && (List.range ps.toList.length).all (fun i => match ps.toList[i]?, sw[i]? with
    | some (k, o), some (k', t) => decide (k = k') && decide ((pc : Int) + o = (t : Int))
    | _, _ => false)
  | .ireturn => Nat.beq len 1 && decide ((a1 = 0 ∧ ab_rt n = some .int) ∨ (a1 = 1 ∧ ab_rt n = some .boolean))
  | .lreturn => Nat.beq len 1 && decide (ab_rt n = some .long)
  | .areturn => Nat.beq len 1 && (match ab_rt n with
    | some (.object _) => true
    | some (.array _) => true
    | _ => false)
  | .return_ => Nat.beq len 1 && decide (ab_rt n = none)
  | .getfield _ => Nat.beq len 3 && Nat.ble (a1 + 1) 13 && Nat.ble (a2 + 1) (ab_clq a1).2.2
  | .putfield _ => Nat.beq len 3 && Nat.ble (a1 + 1) 13 && Nat.ble (a2 + 1) (ab_clq a1).2.2 && decide (((ab_clq a1).2.1 a2).2.2.2 = false ∨ (((ab_clq a1).2.1 a2).2.2.2 = true ∧ (ab_nm n).name = "<init>" ∧ ((ab_clq a1).2.1 a2).1 = (ab_nm n).cls)) && Nat.beq (ab_tyc (ab_ty a1 a2)) (ab_z sw).toNat
  | .new _ => Nat.beq len 3 && Nat.ble (a1 + 1) 13 && Nat.beq (ab_clq a1).2.2 a2
  | .newarray ty => Nat.beq len 2 && decide ((a1 = 0 ∧ ty = .int) ∨ (a1 = 1 ∧ ty = .boolean))
  | .anewarray _ => Nat.beq len 3 && decide (a1 = 2 ∨ a1 = 3 ∨ a1 = 4)
  | .invokestatic _ => Nat.beq len 3 && Nat.ble (a1 + 1) ab_nM && Nat.beq a2 (ab_pn a1)
  | .invokevirtual _ => Nat.beq len 3 && Nat.ble (a1 + 1) ab_nM && Nat.beq a2 (ab_pn a1 + 1) && Nat.ble ((ab_z sw).toNat + 1) 13
  | .invokespecial _ => Nat.beq len 3 && (match Nat.beq a1 999 with
    | true => true
    | false => Nat.ble (a1 + 1) ab_nM && Nat.beq a2 (ab_pn a1 + 1) && decide ((ab_nm a1).name = "<init>" ∧ ab_rt a1 = none))
  | _ => true
def ab_chn (n : Nat) : Nat → List ab_E → Bool
  | _, [] => true
  | pc, (_, pc', ins, len, a1, a2, sw) :: t => Nat.beq pc' pc && decide (decode (ab_bt n) pc = .ok (ins, len)) && ab_ck n pc ins len a1 a2 sw && ab_chn n (pc + len) t
/-- what is asked of every method that is called -/
def ab_okA : Prop := ∀ y, y < ab_nM → ab_okM y ∧ ab_np y = some (ab_pn y)
theorem ab_lk_of {n i y : Nat} {sw : List (Int × Nat)} (h : ab_lkw n i y sw ∈ lw_tbl) : ab_lk n i y := by
  unfold ab_lkw at h
  split at h
  · exact Or.inr ⟨_, h⟩
  · exact Or.inl h
theorem ab_revrev {as : List ab_V} : (as.reverse ++ []).reverse = as := by simp
section AB6
variable {p : Program} {l : Launch} {e : Env} {s : State} {m : MethodId} {args : Array Value} {below : List Frame} {meth : Method} {c : Code} {n : Nat} {D : va_G} {cT : Nat → ClassId} {b0 b L : Nat} {xs : Nat → Int32} {n0 s0 d : Nat} {E : State → Prop}
theorem ab_if_sd0 {c : ClassFile.Cond} {x y : Int} {A B : Prop} (h : ab_if c x y A B) : match c with
    | .eq => (x = y → A) ∧ (¬ x = y → B)
    | .ne => (¬ x = y → A) ∧ (x = y → B)
    | .lt => (x < y → A) ∧ (y ≤ x → B)
    | .ge => (y ≤ x → A) ∧ (x < y → B)
    | .gt => (y < x → A) ∧ (x ≤ y → B)
    | .le => (x ≤ y → A) ∧ (y < x → B) := by cases c <;> exact h
set_option maxHeartbeats 8000000 in
theorem ab_stp_sd (C0 : ab_Cx p s m meth c n D cT b0 b L xs n0) (hd : d + 1 ≤ 2048) {Q : ab_Q} {X : ab_J} (hE : E = ab_En below args s Q D cT b0 b L xs n0 s0) (hX : ∀ pc ls st h, X pc ls st h → ab_WG p l e s m args below meth c n D cT b0 b L xs n0 s0 (d + 1) E pc ls st h) {pc len a1 a2 : Nat} {ins : Instr} {sw : List (Int × Nat)} {K : ab_K} {ls : ab_L} {st : List ab_V} {h : ab_H}
    (hA : ab_okA) (hW : ∀ w ∈ ab_wd n ins a1 a2 sw, w ∈ lw_tbl) (hdg : decode (ab_bt n) pc = .ok (ins, len)) (hck : ab_ck n pc ins len a1 a2 sw = true) (hK : ∀ ls st h, K ls st h → ab_WG p l e s m args below meth c n D cT b0 b L xs n0 s0 (d + 1) E (pc + len) ls st h) (hgo : ab_stp (ab_CT d) Q X (false, pc, ins, len, a1, a2, sw) K ls st h) : ab_WG p l e s m args below meth c n D cT b0 b L xs n0 s0 (d + 1) E pc ls st h := by
  cases ins
  case iconst z =>
    have e1 : len = 1 := by simpa [ab_ck] using hck
    subst e1
    exact ws_iconst C0 hdg (hK _ _ _ hgo)
  case lconst z =>
    have e1 : len = 1 := by simpa [ab_ck] using hck
    subst e1
    exact ws_lconst C0 hdg (hK _ _ _ hgo)
  case aconst_null =>
    have e1 : len = 1 := by simpa [ab_ck] using hck
    subst e1
    exact ws_null C0 hdg (hK _ _ _ hgo)
  case bipush z =>
    simp only [ab_ck, Bool.and_eq_true, Nat.beq_eq, Nat.ble_eq, decide_eq_true_eq] at hck
    obtain ⟨rfl, hv⟩ := hck
    exact ws_bipush C0 hdg hv (hK _ _ _ hgo)
  case sipush z =>
    simp only [ab_ck, Bool.and_eq_true, Nat.beq_eq, Nat.ble_eq, decide_eq_true_eq] at hck
    obtain ⟨rfl, hv⟩ := hck
    exact ws_sipush C0 hdg hv (hK _ _ _ hgo)
  case ldc i =>
    have e1 : len = 2 := by simpa [ab_ck] using hck
    subst e1
    exact ws_ldc C0 (hW _ List.mem_cons_self) hdg (hK _ _ _ hgo)
  case ldc2_w i =>
    have e1 : len = 3 := by simpa [ab_ck] using hck
    subst e1
    exact ws_ldc2 C0 (hW _ List.mem_cons_self) hdg (hK _ _ _ hgo)
  case iload i =>
    have e1 : len = 2 := by simpa [ab_ck] using hck
    subst e1
    obtain ⟨k0, v, hk0, hv⟩ := ab_get_sd hgo
    match v, hv with
    | .inl x, hv => exact ws_iload C0 hdg hk0 (hK _ _ _ hv)
    | .inr (.inl x), hv => exact hv.elim
    | .inr (.inr x), hv => exact hv.elim
  case iload_n i =>
    have e1 : len = 1 := by simpa [ab_ck] using hck
    subst e1
    obtain ⟨k0, v, hk0, hv⟩ := ab_get_sd hgo
    match v, hv with
    | .inl x, hv => exact ws_iload_n C0 hdg hk0 (hK _ _ _ hv)
    | .inr (.inl x), hv => exact hv.elim
    | .inr (.inr x), hv => exact hv.elim
  case lload i =>
    have e1 : len = 2 := by simpa [ab_ck] using hck
    subst e1
    obtain ⟨k0, v, hk0, hv⟩ := ab_get_sd hgo
    match v, hv with
    | .inr (.inl x), hv => exact ws_lload C0 hdg hk0 (hK _ _ _ hv)
    | .inl x, hv => exact hv.elim
    | .inr (.inr x), hv => exact hv.elim
  case lload_n i =>
    have e1 : len = 1 := by simpa [ab_ck] using hck
    subst e1
    obtain ⟨k0, v, hk0, hv⟩ := ab_get_sd hgo
    match v, hv with
    | .inr (.inl x), hv => exact ws_lload_n C0 hdg hk0 (hK _ _ _ hv)
    | .inl x, hv => exact hv.elim
    | .inr (.inr x), hv => exact hv.elim
  case aload i =>
    have e1 : len = 2 := by simpa [ab_ck] using hck
    subst e1
    obtain ⟨k0, v, hk0, hv⟩ := ab_get_sd hgo
    match v, hv with
    | .inr (.inr x), hv => exact ws_aload C0 hdg hk0 (hK _ _ _ hv)
    | .inl x, hv => exact hv.elim
    | .inr (.inl x), hv => exact hv.elim
  case aload_n i =>
    have e1 : len = 1 := by simpa [ab_ck] using hck
    subst e1
    obtain ⟨k0, v, hk0, hv⟩ := ab_get_sd hgo
    match v, hv with
    | .inr (.inr x), hv => exact ws_aload_n C0 hdg hk0 (hK _ _ _ hv)
    | .inl x, hv => exact hv.elim
    | .inr (.inl x), hv => exact hv.elim
  case istore i =>
    simp only [ab_ck, Bool.and_eq_true, Nat.beq_eq, Nat.ble_eq, decide_eq_true_eq] at hck
    obtain ⟨rfl, hn⟩ := hck
    match st, hgo with
    | .inl x :: r, hgo => exact ws_istore C0 hdg hn (fun lx hx => hK _ _ _ hx) hgo
    | .inr (.inl x) :: r, hgo => exact hgo.elim
    | .inr (.inr x) :: r, hgo => exact hgo.elim
    | [], hgo => exact hgo.elim
  case istore_n i =>
    simp only [ab_ck, Bool.and_eq_true, Nat.beq_eq, Nat.ble_eq, decide_eq_true_eq] at hck
    obtain ⟨rfl, hn⟩ := hck
    match st, hgo with
    | .inl x :: r, hgo => exact ws_istore_n C0 hdg hn (fun lx hx => hK _ _ _ hx) hgo
    | .inr (.inl x) :: r, hgo => exact hgo.elim
    | .inr (.inr x) :: r, hgo => exact hgo.elim
    | [], hgo => exact hgo.elim
  case astore i =>
    simp only [ab_ck, Bool.and_eq_true, Nat.beq_eq, Nat.ble_eq, decide_eq_true_eq] at hck
    obtain ⟨rfl, hn⟩ := hck
    match st, hgo with
    | .inr (.inr x) :: r, hgo => exact ws_astore C0 hdg hn (fun lx hx => hK _ _ _ hx) hgo
    | .inl x :: r, hgo => exact hgo.elim
    | .inr (.inl x) :: r, hgo => exact hgo.elim
    | [], hgo => exact hgo.elim
  case astore_n i =>
    simp only [ab_ck, Bool.and_eq_true, Nat.beq_eq, Nat.ble_eq, decide_eq_true_eq] at hck
    obtain ⟨rfl, hn⟩ := hck
    match st, hgo with
    | .inr (.inr x) :: r, hgo => exact ws_astore_n C0 hdg hn (fun lx hx => hK _ _ _ hx) hgo
    | .inl x :: r, hgo => exact hgo.elim
    | .inr (.inl x) :: r, hgo => exact hgo.elim
    | [], hgo => exact hgo.elim
  case lstore i =>
    simp only [ab_ck, Bool.and_eq_true, Nat.beq_eq, Nat.ble_eq, decide_eq_true_eq] at hck
    obtain ⟨rfl, hn⟩ := hck
    match st, hgo with
    | .inr (.inl x) :: r, hgo => exact ws_lstore C0 hdg hn (fun lx hx => hK _ _ _ hx) hgo
    | .inl x :: r, hgo => exact hgo.elim
    | .inr (.inr x) :: r, hgo => exact hgo.elim
    | [], hgo => exact hgo.elim
  case lstore_n i =>
    simp only [ab_ck, Bool.and_eq_true, Nat.beq_eq, Nat.ble_eq, decide_eq_true_eq] at hck
    obtain ⟨rfl, hn⟩ := hck
    match st, hgo with
    | .inr (.inl x) :: r, hgo => exact ws_lstore_n C0 hdg hn (fun lx hx => hK _ _ _ hx) hgo
    | .inl x :: r, hgo => exact hgo.elim
    | .inr (.inr x) :: r, hgo => exact hgo.elim
    | [], hgo => exact hgo.elim
  case iinc i z =>
    simp only [ab_ck, Bool.and_eq_true, Nat.beq_eq, Nat.ble_eq, decide_eq_true_eq] at hck
    obtain ⟨rfl, hn⟩ := hck
    obtain ⟨k0, v, hk0, hv⟩ := ab_get_sd hgo
    match v, hv with
    | .inl x, hv => exact ws_iinc C0 hdg hk0 hn (fun lx hx => hK _ _ _ hx) (hv _ rfl)
    | .inr (.inl x), hv => exact hv.elim
    | .inr (.inr x), hv => exact hv.elim
  case dup =>
    have e1 : len = 1 := by simpa [ab_ck] using hck
    subst e1
    match st, hgo with
    | .inl x :: r, hgo => exact ws_dup C0 rfl hdg (hK _ _ _ hgo)
    | .inr (.inr x) :: r, hgo => exact ws_dup C0 rfl hdg (hK _ _ _ hgo)
    | .inr (.inl x) :: r, hgo => exact hgo.elim
    | [], hgo => exact hgo.elim
  case dup2 =>
    have e1 : len = 1 := by simpa [ab_ck] using hck
    subst e1
    match st, hgo with
    | .inl x :: .inl y :: r, hgo => exact ws_dup2 C0 rfl rfl hdg (hK _ _ _ hgo)
    | .inl x :: .inr (.inr y) :: r, hgo => exact ws_dup2 C0 rfl rfl hdg (hK _ _ _ hgo)
    | .inl x :: .inr (.inl y) :: r, hgo => exact hgo.elim
    | .inl x :: [], hgo => exact hgo.elim
    | .inr (.inr x) :: r, hgo => exact hgo.elim
    | .inr (.inl x) :: r, hgo => exact hgo.elim
    | [], hgo => exact hgo.elim
  case pop =>
    have e1 : len = 1 := by simpa [ab_ck] using hck
    subst e1
    match st, hgo with
    | .inl x :: r, hgo => exact ws_pop C0 rfl hdg (hK _ _ _ hgo)
    | .inr (.inr x) :: r, hgo => exact ws_pop C0 rfl hdg (hK _ _ _ hgo)
    | .inr (.inl x) :: r, hgo => exact hgo.elim
    | [], hgo => exact hgo.elim
  case pop2 =>
    have e1 : len = 1 := by simpa [ab_ck] using hck
    subst e1
    match st, hgo with
    | .inr (.inl x) :: r, hgo => exact ws_pop2 C0 rfl hdg (hK _ _ _ hgo)
    | .inl x :: r, hgo => exact hgo.elim
    | .inr (.inr x) :: r, hgo => exact hgo.elim
    | [], hgo => exact hgo.elim
  case iadd =>
    have e1 : len = 1 := by simpa [ab_ck] using hck
    subst e1
    match st, hgo with
    | .inl y :: .inl x :: r, hgo => exact ws_iadd C0 hdg (hK _ _ _ (hgo _ rfl))
    | .inl y :: .inr (.inl x) :: r, hgo => exact hgo.elim
    | .inl y :: .inr (.inr x) :: r, hgo => exact hgo.elim
    | [.inl y], hgo => exact hgo.elim
    | .inr (.inl y) :: r, hgo => exact hgo.elim
    | .inr (.inr y) :: r, hgo => exact hgo.elim
    | [], hgo => exact hgo.elim
  case isub =>
    have e1 : len = 1 := by simpa [ab_ck] using hck
    subst e1
    match st, hgo with
    | .inl y :: .inl x :: r, hgo => exact ws_isub C0 hdg (hK _ _ _ (hgo _ rfl))
    | .inl y :: .inr (.inl x) :: r, hgo => exact hgo.elim
    | .inl y :: .inr (.inr x) :: r, hgo => exact hgo.elim
    | [.inl y], hgo => exact hgo.elim
    | .inr (.inl y) :: r, hgo => exact hgo.elim
    | .inr (.inr y) :: r, hgo => exact hgo.elim
    | [], hgo => exact hgo.elim
  case imul =>
    have e1 : len = 1 := by simpa [ab_ck] using hck
    subst e1
    match st, hgo with
    | .inl y :: .inl x :: r, hgo => exact ws_imul C0 hdg (hK _ _ _ (hgo _ rfl))
    | .inl y :: .inr (.inl x) :: r, hgo => exact hgo.elim
    | .inl y :: .inr (.inr x) :: r, hgo => exact hgo.elim
    | [.inl y], hgo => exact hgo.elim
    | .inr (.inl y) :: r, hgo => exact hgo.elim
    | .inr (.inr y) :: r, hgo => exact hgo.elim
    | [], hgo => exact hgo.elim
  case iand =>
    have e1 : len = 1 := by simpa [ab_ck] using hck
    subst e1
    match st, hgo with
    | .inl y :: .inl x :: r, hgo => exact ws_iand C0 hdg (hK _ _ _ hgo)
    | .inl y :: .inr (.inl x) :: r, hgo => exact hgo.elim
    | .inl y :: .inr (.inr x) :: r, hgo => exact hgo.elim
    | [.inl y], hgo => exact hgo.elim
    | .inr (.inl y) :: r, hgo => exact hgo.elim
    | .inr (.inr y) :: r, hgo => exact hgo.elim
    | [], hgo => exact hgo.elim
  case ishr =>
    have e1 : len = 1 := by simpa [ab_ck] using hck
    subst e1
    match st, hgo with
    | .inl y :: .inl x :: r, hgo => exact ws_ishr C0 hdg (hK _ _ _ hgo)
    | .inl y :: .inr (.inl x) :: r, hgo => exact hgo.elim
    | .inl y :: .inr (.inr x) :: r, hgo => exact hgo.elim
    | [.inl y], hgo => exact hgo.elim
    | .inr (.inl y) :: r, hgo => exact hgo.elim
    | .inr (.inr y) :: r, hgo => exact hgo.elim
    | [], hgo => exact hgo.elim
  case iushr =>
    have e1 : len = 1 := by simpa [ab_ck] using hck
    subst e1
    match st, hgo with
    | .inl y :: .inl x :: r, hgo => exact ws_iushr C0 hdg (hK _ _ _ hgo)
    | .inl y :: .inr (.inl x) :: r, hgo => exact hgo.elim
    | .inl y :: .inr (.inr x) :: r, hgo => exact hgo.elim
    | [.inl y], hgo => exact hgo.elim
    | .inr (.inl y) :: r, hgo => exact hgo.elim
    | .inr (.inr y) :: r, hgo => exact hgo.elim
    | [], hgo => exact hgo.elim
  case irem =>
    have e1 : len = 1 := by simpa [ab_ck] using hck
    subst e1
    match st, hgo with
    | .inl y :: .inl x :: r, hgo => exact ws_irem C0 hdg hgo.1 (hK _ _ _ hgo.2)
    | .inl y :: .inr (.inl x) :: r, hgo => exact hgo.elim
    | .inl y :: .inr (.inr x) :: r, hgo => exact hgo.elim
    | [.inl y], hgo => exact hgo.elim
    | .inr (.inl y) :: r, hgo => exact hgo.elim
    | .inr (.inr y) :: r, hgo => exact hgo.elim
    | [], hgo => exact hgo.elim
  case ladd =>
    have e1 : len = 1 := by simpa [ab_ck] using hck
    subst e1
    match st, hgo with
    | .inr (.inl y) :: .inr (.inl x) :: r, hgo => exact ws_ladd C0 hdg (hK _ _ _ hgo)
    | .inl y :: r, hgo => exact hgo.elim
    | .inr (.inl y) :: .inl x :: r, hgo => exact hgo.elim
    | .inr (.inl y) :: .inr (.inr x) :: r, hgo => exact hgo.elim
    | [.inr (.inl y)], hgo => exact hgo.elim
    | .inr (.inr y) :: r, hgo => exact hgo.elim
    | [], hgo => exact hgo.elim
  case lcmp =>
    have e1 : len = 1 := by simpa [ab_ck] using hck
    subst e1
    match st, hgo with
    | .inr (.inl y) :: .inr (.inl x) :: r, hgo => exact ws_lcmp C0 hdg (fun q => hK _ _ _ (hgo.1 q)) (fun q => hK _ _ _ (hgo.2.1 q)) (fun q => hK _ _ _ (hgo.2.2 q))
    | .inl y :: r, hgo => exact hgo.elim
    | .inr (.inl y) :: .inl x :: r, hgo => exact hgo.elim
    | .inr (.inl y) :: .inr (.inr x) :: r, hgo => exact hgo.elim
    | [.inr (.inl y)], hgo => exact hgo.elim
    | .inr (.inr y) :: r, hgo => exact hgo.elim
    | [], hgo => exact hgo.elim
  case ineg =>
    have e1 : len = 1 := by simpa [ab_ck] using hck
    subst e1
    match st, hgo with
    | .inl x :: r, hgo => exact ws_ineg C0 hdg (hK _ _ _ hgo)
    | .inr (.inl x) :: r, hgo => exact hgo.elim
    | .inr (.inr x) :: r, hgo => exact hgo.elim
    | [], hgo => exact hgo.elim
  case i2l =>
    have e1 : len = 1 := by simpa [ab_ck] using hck
    subst e1
    match st, hgo with
    | .inl x :: r, hgo => exact ws_i2l C0 hdg (hK _ _ _ hgo)
    | .inr (.inl x) :: r, hgo => exact hgo.elim
    | .inr (.inr x) :: r, hgo => exact hgo.elim
    | [], hgo => exact hgo.elim
  case goto off =>
    simp only [ab_ck, Bool.and_eq_true, Nat.beq_eq, Nat.ble_eq, decide_eq_true_eq] at hck
    obtain ⟨rfl, ht⟩ := hck
    exact ws_goto C0 hdg ht (hX _ _ _ _ hgo)
  case ifCond cd off =>
    simp only [ab_ck, Bool.and_eq_true, Nat.beq_eq, Nat.ble_eq, decide_eq_true_eq] at hck
    obtain ⟨rfl, ht⟩ := hck
    match st, hgo with
    | .inl x :: r, hgo =>
      cases cd
      case eq => exact ws_if_eq C0 hdg ht (fun q => hX _ _ _ _ (hgo.1 q)) (fun q => hK _ _ _ (hgo.2 q))
      case ne => exact ws_if_ne C0 hdg ht (fun q => hX _ _ _ _ (hgo.1 q)) (fun q => hK _ _ _ (hgo.2 q))
      case lt => exact ws_if_lt C0 hdg ht (fun q => hX _ _ _ _ (hgo.1 q)) (fun q => hK _ _ _ (hgo.2 q))
      case ge => exact ws_if_ge C0 hdg ht (fun q => hX _ _ _ _ (hgo.1 q)) (fun q => hK _ _ _ (hgo.2 q))
      case gt => exact ws_if_gt C0 hdg ht (fun q => hX _ _ _ _ (hgo.1 q)) (fun q => hK _ _ _ (hgo.2 q))
      case le => exact ws_if_le C0 hdg ht (fun q => hX _ _ _ _ (hgo.1 q)) (fun q => hK _ _ _ (hgo.2 q))
    | .inr (.inl x) :: r, hgo => exact hgo.elim
    | .inr (.inr x) :: r, hgo => exact hgo.elim
    | [], hgo => exact hgo.elim
  case if_icmp cd off =>
    simp only [ab_ck, Bool.and_eq_true, Nat.beq_eq, Nat.ble_eq, decide_eq_true_eq] at hck
    obtain ⟨rfl, ht⟩ := hck
    match st, hgo with
    | .inl y :: .inl x :: r, hgo => 
      cases cd
      case eq => exact ws_icmp_eq C0 hdg ht (fun q => hX _ _ _ _ (hgo.1 q)) (fun q => hK _ _ _ (hgo.2 q))
      case ne => exact ws_icmp_ne C0 hdg ht (fun q => hX _ _ _ _ (hgo.1 q)) (fun q => hK _ _ _ (hgo.2 q))
      case lt => exact ws_icmp_lt C0 hdg ht (fun q => hX _ _ _ _ (hgo.1 q)) (fun q => hK _ _ _ (hgo.2 q))
      case ge => exact ws_icmp_ge C0 hdg ht (fun q => hX _ _ _ _ (hgo.1 q)) (fun q => hK _ _ _ (hgo.2 q))
      case gt => exact ws_icmp_gt C0 hdg ht (fun q => hX _ _ _ _ (hgo.1 q)) (fun q => hK _ _ _ (hgo.2 q))
      case le => exact ws_icmp_le C0 hdg ht (fun q => hX _ _ _ _ (hgo.1 q)) (fun q => hK _ _ _ (hgo.2 q))
    | .inl y :: .inr (.inl x) :: r, hgo => exact hgo.elim
    | .inl y :: .inr (.inr x) :: r, hgo => exact hgo.elim
    | [.inl y], hgo => exact hgo.elim
    | .inr (.inl y) :: r, hgo => exact hgo.elim
    | .inr (.inr y) :: r, hgo => exact hgo.elim
    | [], hgo => exact hgo.elim
  case if_acmp cd off =>
    simp only [ab_ck, Bool.and_eq_true, Nat.beq_eq, Nat.ble_eq, decide_eq_true_eq] at hck
    obtain ⟨rfl, ht⟩ := hck
    cases cd
    case eq =>
      match st, hgo with
      | .inr (.inr y) :: .inr (.inr x) :: r, hgo => exact ws_acmp_eq C0 hdg ht (fun q => hX _ _ _ _ (hgo.1 q)) (fun q => hK _ _ _ (hgo.2 q))
      | .inl y :: r, hgo => exact hgo.elim
      | .inr (.inl y) :: r, hgo => exact hgo.elim
      | .inr (.inr y) :: .inl x :: r, hgo => exact hgo.elim
      | .inr (.inr y) :: .inr (.inl x) :: r, hgo => exact hgo.elim
      | [.inr (.inr y)], hgo => exact hgo.elim
      | [], hgo => exact hgo.elim
    case ne =>
      match st, hgo with
      | .inr (.inr y) :: .inr (.inr x) :: r, hgo => exact ws_acmp_ne C0 hdg ht (fun q => hX _ _ _ _ (hgo.1 q)) (fun q => hK _ _ _ (hgo.2 q))
      | .inl y :: r, hgo => exact hgo.elim
      | .inr (.inl y) :: r, hgo => exact hgo.elim
      | .inr (.inr y) :: .inl x :: r, hgo => exact hgo.elim
      | .inr (.inr y) :: .inr (.inl x) :: r, hgo => exact hgo.elim
      | [.inr (.inr y)], hgo => exact hgo.elim
      | [], hgo => exact hgo.elim
  case ifnull off =>
    simp only [ab_ck, Bool.and_eq_true, Nat.beq_eq, Nat.ble_eq, decide_eq_true_eq] at hck
    obtain ⟨rfl, ht⟩ := hck
    match st, hgo with
    | .inr (.inr x) :: r, hgo => exact ws_ifnull C0 hdg ht (fun q => by subst q; exact hX _ _ _ _ hgo) (fun a q => by subst q; exact hK _ _ _ hgo)
    | .inl x :: r, hgo => exact hgo.elim
    | .inr (.inl x) :: r, hgo => exact hgo.elim
    | [], hgo => exact hgo.elim
  case ifnonnull off =>
    simp only [ab_ck, Bool.and_eq_true, Nat.beq_eq, Nat.ble_eq, decide_eq_true_eq] at hck
    obtain ⟨rfl, ht⟩ := hck
    match st, hgo with
    | .inr (.inr x) :: r, hgo => exact ws_ifnonnull C0 hdg ht (fun a q => by subst q; exact hX _ _ _ _ hgo) (fun q => by subst q; exact hK _ _ _ hgo)
    | .inl x :: r, hgo => exact hgo.elim
    | .inr (.inl x) :: r, hgo => exact hgo.elim
    | [], hgo => exact hgo.elim
  case tableswitch df lo hi offs =>
    simp only [ab_ck, Bool.and_eq_true, decide_eq_true_eq] at hck
    obtain ⟨⟨hd1, hn⟩, hall⟩ := hck
    have hsw : ∀ i, i < sw.length → ∃ t o, sw[i]? = some (lo + i, t) ∧ offs[i]? = some o ∧ (pc : Int) + o = (t : Int) := fun i hi0 => by
      have h1 := List.all_eq_true.mp hall i (List.mem_range.mpr hi0)
      split at h1
      next k t o g1 g2 =>
        simp only [Bool.and_eq_true, decide_eq_true_eq] at h1
        exact ⟨t, o, by rw [g1, h1.1], g2, h1.2⟩
      next => cases h1
    match st, hgo with
    | .inl x :: r, hgo => exact ws_table C0 hdg hd1 hn hsw (fun t ht => hX _ _ _ _ ht) hgo
    | .inr (.inl x) :: r, hgo => exact hgo.elim
    | .inr (.inr x) :: r, hgo => exact hgo.elim
    | [], hgo => exact hgo.elim
  case lookupswitch df ps =>
    simp only [ab_ck, Bool.and_eq_true, decide_eq_true_eq] at hck
    obtain ⟨⟨⟨hp, hd1⟩, hn⟩, hall⟩ := hck
    have hsw : ∀ i, i < ps.toList.length → ∃ k o t, ps.toList[i]? = some (k, o) ∧ sw[i]? = some (k, t) ∧ (pc : Int) + o = (t : Int) := fun i hi0 => by
      have h1 := List.all_eq_true.mp hall i (List.mem_range.mpr hi0)
      split at h1
      next k o k' t g1 g2 =>
        simp only [Bool.and_eq_true, decide_eq_true_eq] at h1
        exact ⟨k, o, t, g1, by rw [g2, h1.1], h1.2⟩
      next => cases h1
    match st, hgo with
    | .inl x :: r, hgo => exact ws_lookup C0 hdg hp hd1 hn hsw (fun t ht => hX _ _ _ _ ht) hgo
    | .inr (.inl x) :: r, hgo => exact hgo.elim
    | .inr (.inr x) :: r, hgo => exact hgo.elim
    | [], hgo => exact hgo.elim
  case ireturn =>
    simp only [ab_ck, Bool.and_eq_true, Nat.beq_eq, Nat.ble_eq, decide_eq_true_eq] at hck
    obtain ⟨rfl, hrt⟩ := hck
    match st, hgo with
    | [.inl x], hgo => exact ws_ireturn C0 hE hrt hdg hgo.1 hgo.2
    | .inl x :: y :: r, hgo => exact hgo.elim
    | .inr (.inl x) :: r, hgo => exact hgo.elim
    | .inr (.inr x) :: r, hgo => exact hgo.elim
    | [], hgo => exact hgo.elim
  case lreturn =>
    simp only [ab_ck, Bool.and_eq_true, Nat.beq_eq, Nat.ble_eq, decide_eq_true_eq] at hck
    obtain ⟨rfl, hrt⟩ := hck
    match st, hgo with
    | [.inr (.inl x)], hgo => exact ws_lreturn C0 hE hrt hdg hgo
    | .inr (.inl x) :: y :: r, hgo => exact hgo.elim
    | .inl x :: r, hgo => exact hgo.elim
    | .inr (.inr x) :: r, hgo => exact hgo.elim
    | [], hgo => exact hgo.elim
  case areturn =>
    simp only [ab_ck, Bool.and_eq_true, Nat.beq_eq] at hck
    obtain ⟨rfl, hrt⟩ := hck
    have hrt2 : ∃ ty, ab_rt n = some ty ∧ ((∃ n, ty = .object n) ∨ ∃ t, ty = .array t) := by
      split at hrt
      next q g => exact ⟨_, g, Or.inl ⟨_, rfl⟩⟩
      next q g => exact ⟨_, g, Or.inr ⟨_, rfl⟩⟩
      next => cases hrt
    match st, hgo with
    | [.inr (.inr x)], hgo => exact ws_areturn C0 hE hrt2 hdg hgo
    | .inr (.inr x) :: y :: r, hgo => exact hgo.elim
    | .inl x :: r, hgo => exact hgo.elim
    | .inr (.inl x) :: r, hgo => exact hgo.elim
    | [], hgo => exact hgo.elim
  case return_ =>
    simp only [ab_ck, Bool.and_eq_true, Nat.beq_eq, Nat.ble_eq, decide_eq_true_eq] at hck
    obtain ⟨rfl, hrt⟩ := hck
    match st, hgo with
    | [], hgo => exact ws_vreturn C0 hE hrt hdg hgo
    | x :: r, hgo => exact hgo.elim
  case getfield i =>
    simp only [ab_ck, Bool.and_eq_true, Nat.beq_eq, Nat.ble_eq, decide_eq_true_eq] at hck
    obtain ⟨⟨rfl, hc9⟩, hk⟩ := hck
    have hc := ab_clq_of hc9
    have hw := hW _ List.mem_cons_self
    have hw2 : Jvm.Cond.fieldLink (ab_nm n).cls i ((ab_clq a1).2.1 a2).1 ((ab_clq a1).2.1 a2).2.1 ((ab_clq a1).2.1 a2).2.2.1 ∈ lw_tbl ∨ ∃ host, Jvm.Cond.fieldLinkNest (ab_nm n).cls i ((ab_clq a1).2.1 a2).1 ((ab_clq a1).2.1 a2).2.1 ((ab_clq a1).2.1 a2).2.2.1 host ∈ lw_tbl := by
      unfold ab_fdw at hw
      split at hw
      · exact Or.inr ⟨_, hw⟩
      · exact Or.inl hw
    match st, hgo with
    | .inr (.inr (some a)) :: r, hgo =>
      obtain ⟨fs, w, ho, hv, hg⟩ := hgo
      exact ws_getfield C0 hc hk (by omega) hw2 hdg ho hv (hK _ _ _ hg)
    | .inr (.inr none) :: r, hgo => exact hgo.elim
    | .inl x :: r, hgo => exact hgo.elim
    | .inr (.inl x) :: r, hgo => exact hgo.elim
    | [], hgo => exact hgo.elim
  case putfield i =>
    simp only [ab_ck, Bool.and_eq_true, Nat.beq_eq, Nat.ble_eq, decide_eq_true_eq] at hck
    obtain ⟨⟨⟨⟨rfl, hc9⟩, hk⟩, hfin⟩, hty⟩ := hck
    have hc := ab_clq_of hc9
    match st, hgo with
    | v :: .inr (.inr (some a)) :: r, hgo =>
      obtain ⟨fs, ho, hl0, hf, hg⟩ := hgo
      exact ws_putfield C0 hc hk (by omega) (hW _ List.mem_cons_self) hfin hdg ho hl0 (by rw [hty]; exact hf) (hK _ _ _ (hg _ rfl))
    | v :: .inr (.inr none) :: r, hgo => exact hgo.elim
    | v :: .inl x :: r, hgo => exact hgo.elim
    | v :: .inr (.inl x) :: r, hgo => exact hgo.elim
    | [v], hgo => exact hgo.elim
    | [], hgo => exact hgo.elim
  case iaload =>
    have e1 : len = 1 := by simpa [ab_ck] using hck
    subst e1
    match st, hgo with
    | .inl x :: .inr (.inr (some a)) :: r, hgo =>
      obtain ⟨t, N, f, ho, ht, hx, hg⟩ := hgo
      exact ws_iaload C0 hdg ho ht hx (hK _ _ _ (hg _ rfl))
    | .inl x :: .inr (.inr none) :: r, hgo => exact hgo.elim
    | .inl x :: .inl y :: r, hgo => exact hgo.elim
    | .inl x :: .inr (.inl y) :: r, hgo => exact hgo.elim
    | [.inl x], hgo => exact hgo.elim
    | .inr (.inl x) :: r, hgo => exact hgo.elim
    | .inr (.inr x) :: r, hgo => exact hgo.elim
    | [], hgo => exact hgo.elim
  case baload =>
    have e1 : len = 1 := by simpa [ab_ck] using hck
    subst e1
    match st, hgo with
    | .inl x :: .inr (.inr (some a)) :: r, hgo =>
      obtain ⟨N, f, ho, hx, hg⟩ := hgo
      exact ws_baload C0 hdg ho hx (hK _ _ _ (hg _ rfl))
    | .inl x :: .inr (.inr none) :: r, hgo => exact hgo.elim
    | .inl x :: .inl y :: r, hgo => exact hgo.elim
    | .inl x :: .inr (.inl y) :: r, hgo => exact hgo.elim
    | [.inl x], hgo => exact hgo.elim
    | .inr (.inl x) :: r, hgo => exact hgo.elim
    | .inr (.inr x) :: r, hgo => exact hgo.elim
    | [], hgo => exact hgo.elim
  case aaload =>
    have e1 : len = 1 := by simpa [ab_ck] using hck
    subst e1
    match st, hgo with
    | .inl x :: .inr (.inr (some a)) :: r, hgo =>
      obtain ⟨t, N, f, ho, hx, hg⟩ := hgo
      exact ws_aaload C0 hdg ho hx (hK _ _ _ (hg _ rfl))
    | .inl x :: .inr (.inr none) :: r, hgo => exact hgo.elim
    | .inl x :: .inl y :: r, hgo => exact hgo.elim
    | .inl x :: .inr (.inl y) :: r, hgo => exact hgo.elim
    | [.inl x], hgo => exact hgo.elim
    | .inr (.inl x) :: r, hgo => exact hgo.elim
    | .inr (.inr x) :: r, hgo => exact hgo.elim
    | [], hgo => exact hgo.elim
  case iastore =>
    have e1 : len = 1 := by simpa [ab_ck] using hck
    subst e1
    match st, hgo with
    | .inl y :: .inl x :: .inr (.inr (some a)) :: r, hgo =>
      obtain ⟨N, f, ho, hx, hg⟩ := hgo
      exact ws_iastore C0 hdg ho hx (hK _ _ _ (hg _ rfl))
    | .inl y :: .inl x :: .inr (.inr none) :: r, hgo => exact hgo.elim
    | .inl y :: .inl x :: .inl z :: r, hgo => exact hgo.elim
    | .inl y :: .inl x :: .inr (.inl z) :: r, hgo => exact hgo.elim
    | .inl y :: [.inl x], hgo => exact hgo.elim
    | .inl y :: .inr (.inl x) :: r, hgo => exact hgo.elim
    | .inl y :: .inr (.inr x) :: r, hgo => exact hgo.elim
    | [.inl y], hgo => exact hgo.elim
    | .inr (.inl y) :: r, hgo => exact hgo.elim
    | .inr (.inr y) :: r, hgo => exact hgo.elim
    | [], hgo => exact hgo.elim
  case bastore =>
    have e1 : len = 1 := by simpa [ab_ck] using hck
    subst e1
    match st, hgo with
    | .inl y :: .inl x :: .inr (.inr (some a)) :: r, hgo =>
      obtain ⟨N, f, ho, hx, hy, hg⟩ := hgo
      exact ws_bastore C0 hdg ho hx hy (hK _ _ _ (hg _ rfl))
    | .inl y :: .inl x :: .inr (.inr none) :: r, hgo => exact hgo.elim
    | .inl y :: .inl x :: .inl z :: r, hgo => exact hgo.elim
    | .inl y :: .inl x :: .inr (.inl z) :: r, hgo => exact hgo.elim
    | .inl y :: [.inl x], hgo => exact hgo.elim
    | .inl y :: .inr (.inl x) :: r, hgo => exact hgo.elim
    | .inl y :: .inr (.inr x) :: r, hgo => exact hgo.elim
    | [.inl y], hgo => exact hgo.elim
    | .inr (.inl y) :: r, hgo => exact hgo.elim
    | .inr (.inr y) :: r, hgo => exact hgo.elim
    | [], hgo => exact hgo.elim
  case aastore =>
    have e1 : len = 1 := by simpa [ab_ck] using hck
    subst e1
    match st, hgo with
    | .inr (.inr y) :: .inl x :: .inr (.inr (some a)) :: r, hgo =>
      obtain ⟨t, N, f, ho, hx, hv, hg⟩ := hgo
      exact ws_aastore C0 hdg ho hx hv (hK _ _ _ (hg _ rfl))
    | .inr (.inr y) :: .inl x :: .inr (.inr none) :: r, hgo => exact hgo.elim
    | .inr (.inr y) :: .inl x :: .inl z :: r, hgo => exact hgo.elim
    | .inr (.inr y) :: .inl x :: .inr (.inl z) :: r, hgo => exact hgo.elim
    | .inr (.inr y) :: [.inl x], hgo => exact hgo.elim
    | .inr (.inr y) :: .inr (.inl x) :: r, hgo => exact hgo.elim
    | .inr (.inr y) :: .inr (.inr x) :: r, hgo => exact hgo.elim
    | [.inr (.inr y)], hgo => exact hgo.elim
    | .inl y :: r, hgo => exact hgo.elim
    | .inr (.inl y) :: r, hgo => exact hgo.elim
    | [], hgo => exact hgo.elim
  case arraylength =>
    have e1 : len = 1 := by simpa [ab_ck] using hck
    subst e1
    match st, hgo with
    | .inr (.inr (some a)) :: r, hgo =>
      obtain ⟨N, ho, hg⟩ := hgo
      exact ws_arraylength C0 hdg ho (hK _ _ _ hg)
    | .inr (.inr none) :: r, hgo => exact hgo.elim
    | .inl x :: r, hgo => exact hgo.elim
    | .inr (.inl x) :: r, hgo => exact hgo.elim
    | [], hgo => exact hgo.elim
  case new i =>
    simp only [ab_ck, Bool.and_eq_true, Nat.beq_eq, Nat.ble_eq, decide_eq_true_eq] at hck
    obtain ⟨⟨rfl, hc9⟩, hN⟩ := hck
    have hc := ab_clq_of hc9
    obtain ⟨f, kk, z⟩ := h
    exact ws_new C0 hc hN (hW _ List.mem_cons_self) (hW _ (List.mem_cons_of_mem _ List.mem_cons_self)) (hW _ (List.mem_cons_of_mem _ (List.mem_cons_of_mem _ List.mem_cons_self))) hdg hgo.1 (hK _ _ _ (hgo.2 _ rfl))
  case newarray ty =>
    simp only [ab_ck, Bool.and_eq_true, Nat.beq_eq, Nat.ble_eq, decide_eq_true_eq] at hck
    obtain ⟨rfl, ht⟩ := hck
    obtain ⟨f, kk, z⟩ := h
    match st, hgo with
    | .inl x :: r, hgo => exact ws_newarr C0 ht (hW _ List.mem_cons_self) hdg hgo.1 (hK _ _ _ (hgo.2 _ rfl))
    | .inr (.inl x) :: r, hgo => exact hgo.elim
    | .inr (.inr x) :: r, hgo => exact hgo.elim
    | [], hgo => exact hgo.elim
  case anewarray i =>
    simp only [ab_ck, Bool.and_eq_true, Nat.beq_eq, Nat.ble_eq, decide_eq_true_eq] at hck
    obtain ⟨rfl, h3⟩ := hck
    have hc : ab_cl[ab_ec a1]? = some (ab_clq (ab_ec a1)) := ab_clq_of (by rcases h3 with rfl | rfl | rfl <;> decide)
    obtain ⟨f, kk, z⟩ := h
    match st, hgo with
    | .inl x :: r, hgo => exact ws_anewarr C0 h3 hc (hW _ List.mem_cons_self) (hW _ (List.mem_cons_of_mem _ List.mem_cons_self)) hdg hgo.1 (hK _ _ _ (hgo.2 _ rfl))
    | .inr (.inl x) :: r, hgo => exact hgo.elim
    | .inr (.inr x) :: r, hgo => exact hgo.elim
    | [], hgo => exact hgo.elim
  case invokestatic i =>
    simp only [ab_ck, Bool.and_eq_true, Nat.beq_eq, Nat.ble_eq] at hck
    obtain ⟨⟨rfl, h1⟩, h4⟩ := hck
    obtain ⟨as, rest, hl, hst, hg⟩ := ab_pop_sd hgo
    split at hg
    next hble =>
      exact ws_static C0 hd (hA a1 h1).1 (ab_lk_of (hW _ List.mem_cons_self)) (hW _ (List.mem_cons_of_mem _ List.mem_cons_self)) (by rw [List.append_nil, List.length_reverse, hl, h4]; exact (hA a1 h1).2) (Nat.le_of_ble_eq_true hble) hdg (by rw [ab_revrev]; exact hst) hg (fun r h' hq => hK _ _ _ hq)
    next => exact hg.elim
  case invokevirtual i =>
    simp only [ab_ck, Bool.and_eq_true, Nat.beq_eq, Nat.ble_eq] at hck
    obtain ⟨⟨⟨rfl, h1⟩, h4⟩, hc9⟩ := hck
    have hc := ab_clq_of hc9
    obtain ⟨as, rest, hl, hst, hg⟩ := ab_pop_sd hgo
    split at hg
    next hble =>
      split at hg
      next a t he =>
        obtain ⟨fs, ho, hg⟩ := hg
        have he2 : as = t.reverse ++ [.inr (.inr (some a))] := by
          have := congrArg List.reverse he
          simpa using this
        have hlt : t.length = ab_pn a1 := by
          rw [he2] at hl
          simp at hl
          omega
        refine ws_virtual (a := a) (as := t) (rest := rest) C0 hd (hA a1 h1).1 (ab_lk_of (hW _ List.mem_cons_self)) (hW _ (List.mem_cons_of_mem _ List.mem_cons_self)) (hW _ (List.mem_cons_of_mem _ (List.mem_cons_of_mem _ List.mem_cons_self))) hc (by omega) (by rw [hlt]; exact (hA a1 h1).2) (Nat.le_of_ble_eq_true hble) hdg (by rw [hst, he2]; simp) ho ?_ (fun r h' hq => hK _ _ _ hq)
        rw [← he]
        exact hg
      next => exact hg.elim
    next => exact hg.elim
  case invokespecial i =>
    simp only [ab_ck, Bool.and_eq_true, Nat.beq_eq] at hck
    obtain ⟨rfl, hck⟩ := hck
    have hgo : ab_sp (ab_CT d) a1 a2 K ls st h := hgo
    unfold ab_sp at hgo
    unfold ab_wd at hW
    dsimp only at hW
    split at hck
    next hb =>
      rw [hb] at hgo hW
      have hgo : ab_oi K ls st h := hgo
      unfold ab_oi at hgo
      split at hgo
      next a r =>
        split at hgo
        next hble => exact ws_objinit C0 (Nat.le_add_left _ _) hd (Nat.le_of_ble_eq_true hble) (hW _ List.mem_cons_self) (hW _ (List.mem_cons_of_mem _ List.mem_cons_self)) (hW _ (List.mem_cons_of_mem _ (List.mem_cons_of_mem _ List.mem_cons_self))) hdg (hK _ _ _ hgo)
        next => exact hgo.elim
      next => exact hgo.elim
    next hb =>
      rw [hb] at hgo hW
      simp only [Bool.and_eq_true, Nat.beq_eq, Nat.ble_eq, decide_eq_true_eq] at hck
      obtain ⟨⟨h1, h4⟩, h6, h7⟩ := hck
      obtain ⟨as, rest, hl, hst, hg⟩ := ab_pop_sd hgo
      split at hg
      next hble =>
        split at hg
        next a t he =>
          have he2 : as = t.reverse ++ [.inr (.inr (some a))] := by
            have := congrArg List.reverse he
            simpa using this
          have hlt : t.length = ab_pn a1 := by
            rw [he2] at hl
            simp at hl
            omega
          refine ws_special (a := a) (as := t) (rest := rest) C0 hd (hA a1 h1).1 (ab_lk_of (hW _ List.mem_cons_self)) h6 h7 (hW _ (List.mem_cons_of_mem _ List.mem_cons_self)) (by rw [hlt]; exact (hA a1 h1).2) (Nat.le_of_ble_eq_true hble) hdg (by rw [hst, he2]; simp) ?_ (fun r h' hq => hK _ _ _ hq)
          rw [← he]
          exact hg
        next => exact hg.elim
      next => exact hg.elim
  all_goals exact hgo.elim
theorem ab_go_sd (C0 : ab_Cx p s m meth c n D cT b0 b L xs n0) (hd : d + 1 ≤ 2048) (hA : ab_okA) {Q : ab_Q} {X : ab_J} (hE : E = ab_En below args s Q D cT b0 b L xs n0 s0) (hX : ∀ pc ls st h, X pc ls st h → ab_WG p l e s m args below meth c n D cT b0 b L xs n0 s0 (d + 1) E pc ls st h) :
    ∀ (code : List ab_E) (pc : Nat) (ls : ab_L) (st : List ab_V) (h : ab_H), ab_chn n pc code = true → (∀ w ∈ ab_wds n code, w ∈ lw_tbl) → ab_go (ab_CT d) Q X code ls st h → ab_WG p l e s m args below meth c n D cT b0 b L xs n0 s0 (d + 1) E pc ls st h := by
  intro code
  induction code with
  | nil => intro pc ls st h _ _ hgo; exact hgo.elim
  | cons q t ih =>
    intro pc ls st h hch hW hgo
    obtain ⟨mk, pc', ins, len, a1, a2, sw⟩ := q
    unfold ab_chn at hch
    simp only [Bool.and_eq_true, decide_eq_true_eq, Nat.beq_eq] at hch
    obtain ⟨⟨⟨rfl, hdg⟩, hck⟩, hch⟩ := hch
    cases mk with
    | true => exact hX _ _ _ _ hgo
    | false => exact ab_stp_sd C0 hd hE hX hA (fun w hw => hW w (List.mem_append_left _ hw)) hdg hck (fun ls st h hg => ih _ ls st h hch (fun w hw => hW w (List.mem_append_right _ hw)) hg) hgo
end AB6
