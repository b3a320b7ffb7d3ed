/-! ===== the abstract machine: values, cells, heap, and what an instruction asks (own text) ===== -/
abbrev ab_L : Type := List (Nat × ab_V)
abbrev ab_C : Type := (Nat × Nat × (Nat → Int32)) ⊕ (Nat × Nat × (Nat → Option Nat)) ⊕ (Nat × List ab_V)
/-- a heap: its cells by number, how many have been made, how many slots they have -/
abbrev ab_H : Type := (Nat → ab_C) × Nat × Nat
/-- an instruction: does a loop begin here; its place, itself, its length, two numbers and a table (the links, resolved) -/
abbrev ab_E : Type := Bool × Nat × Instr × Nat × Nat × Nat × List (Int × Nat)
abbrev ab_M : Type := MethodName × ByteArray × Nat × Option FieldType × List ab_E
abbrev ab_Q : Type := Option ab_V → ab_H → Prop
abbrev ab_K : Type := ab_L → List ab_V → ab_H → Prop
abbrev ab_J : Type := Nat → ab_L → List ab_V → ab_H → Prop
abbrev ab_F : Type := Nat → List ab_V → ab_H → ab_Q → Prop
abbrev ab_ii (z : Int) : Int32 := Int32.ofInt z
abbrev ab_ia (t n : Nat) (f : Nat → Int32) : ab_C := .inl (t, n, f)
abbrev ab_ra (t n : Nat) (f : Nat → Option Nat) : ab_C := .inr (.inl (t, n, f))
abbrev ab_ob (c : Nat) (fs : List ab_V) : ab_C := .inr (.inr (c, fs))
abbrev ab_scr : Nat := 1000000000
abbrev ab_CM : Nat := 600000
abbrev ab_SM : Nat := 7302250
def ab_up {α : Type} (f : Nat → α) (k : Nat) (v : α) : Nat → α := fun j => cond (Nat.beq j k) v (f j)
abbrev ab_set (h : ab_H) (a : Nat) (c : ab_C) : ab_H := (ab_up h.1 a c, h.2)
abbrev ab_new (h : ab_H) (c : ab_C) (n : Nat) : ab_H := (ab_up h.1 h.2.1 c, h.2.1 + 1, h.2.2 + n)
def ab_cat : ab_V → Nat
  | .inl _ => 1
  | .inr (.inl _) => 2
  | .inr (.inr _) => 1
def ab_cats : List ab_V → Nat
  | [] => 0
  | v :: t => ab_cat v + ab_cats t
def ab_get (i : Nat) : ab_L → (ab_V → Prop) → Prop
  | [], _ => False
  | (j, v) :: t, K => match Nat.beq j i with
    | true => K v
    | false => ab_get i t K
def ab_del (i : Nat) : ab_L → (ab_L → Prop) → Prop
  | [], K => K []
  | (j, v) :: t, K => match Nat.beq j i with
    | true => ab_del i t K
    | false => match v with
      | .inr (.inl y) => match Nat.beq (j + 1) i with
        | true => ab_del i t K
        | false => ab_del i t (fun t' => K ((j, .inr (.inl y)) :: t'))
      | .inl x => ab_del i t (fun t' => K ((j, .inl x) :: t'))
      | .inr (.inr o) => ab_del i t (fun t' => K ((j, .inr (.inr o)) :: t'))
def ab_pop : Nat → List ab_V → List ab_V → (List ab_V → List ab_V → Prop) → Prop
  | 0, acc, st, K => K acc st
  | n + 1, acc, st, K => match st with
    | v :: r => ab_pop n (v :: acc) r K
    | [] => False
def ab_push : Option ab_V → List ab_V → List ab_V
  | some v, r => v :: r
  | none, r => r
def ab_sw (x : Int) (X : Nat → Prop) (d : Nat) : List (Int × Nat) → Prop
  | [] => X d
  | (k, t) :: l => (x = k → X t) ∧ (¬ x = k → ab_sw x X d l)
def ab_len : ab_C → Option Nat
  | .inl (_, n, _) => some n
  | .inr (.inl (_, n, _)) => some n
  | .inr (.inr _) => none
/-- what a field of a type may hold: 0 int, 1 boolean, else a reference -/
def ab_fit : Nat → ab_V → Prop
  | 0, .inl _ => True
  | 1, .inl x => x.toInt = 0 ∨ x.toInt = 1
  | 2, .inr (.inr _) => True
  | _, _ => False
def ab_z (l : List (Int × Nat)) : Int := match l with
  | (z, _) :: _ => z
  | [] => 0
def ab_st1 (i : Nat) (v : ab_V) (K : ab_K) : ab_K := fun ls st h => ab_del i ls (fun l => K ((i, v) :: l) st h)
def ab_call (C : ab_F) (y n : Nat) (K : ab_K) : ab_K := fun ls st h => ab_pop n [] st (fun args rest => match Nat.ble (ab_cats rest) 8 with
  | true => C y args h (fun r h' => K ls (ab_push r rest) h')
  | false => False)
def ab_callV (C : ab_F) (y n ci : Nat) (K : ab_K) : ab_K := fun ls st h => ab_pop n [] st (fun args rest => match Nat.ble (ab_cats rest) 8 with
  | true => match args with
    | .inr (.inr (some a)) :: _ => ∃ fs, h.1 a = ab_ob ci fs ∧ C y args h (fun r h' => K ls (ab_push r rest) h')
    | _ => False
  | false => False)
def ab_callI (C : ab_F) (y n : Nat) (K : ab_K) : ab_K := fun ls st h => ab_pop n [] st (fun args rest => match Nat.ble (ab_cats rest) 8 with
  | true => match args with
    | .inr (.inr (some _)) :: _ => C y args h (fun r h' => K ls (ab_push r rest) h')
    | _ => False
  | false => False)
def ab_oi (K : ab_K) : ab_K := fun ls st h => match st with
  | .inr (.inr (some _)) :: r => (match Nat.ble (ab_cats r) 8 with
    | true => K ls r h
    | false => False)
  | _ => False
def ab_sp (C : ab_F) (y n : Nat) (K : ab_K) : ab_K := fun ls st h => match Nat.beq y 999 with
  | true => ab_oi K ls st h
  | false => ab_callI C y n K ls st h
def ab_if (c : ClassFile.Cond) (x y : Int) (A B : Prop) : Prop := match c with
  | .eq => (x = y → A) ∧ (¬ x = y → B)
  | .ne => (¬ x = y → A) ∧ (x = y → B)
  | .lt => (x < y → A) ∧ (y ≤ x → B)
  | .ge => (y ≤ x → A) ∧ (x < y → B)
  | .gt => (y < x → A) ∧ (x ≤ y → B)
  | .le => (x ≤ y → A) ∧ (y < x → B)
def ab_stp (C : ab_F) (Q : ab_Q) (X : ab_J) (e : ab_E) (K : ab_K) : ab_K := fun ls st h =>
  match e with
  | (true, pc, _) => X pc ls st h
  | (false, _, ins, _, a1, a2, sw) =>
  match ins with
  | .iconst n => K ls (.inl (ab_ii n) :: st) h
  | .bipush n => K ls (.inl (ab_ii n) :: st) h
  | .sipush n => K ls (.inl (ab_ii n) :: st) h
  | .ldc _ => K ls (.inl (ab_ii (ab_z sw)) :: st) h
  | .lconst n => K ls (.inr (.inl (Int64.ofNat (n : Nat))) :: st) h
  | .ldc2_w _ => K ls (.inr (.inl (Int64.ofInt (ab_z sw))) :: st) h
  | .aconst_null => K ls (.inr (.inr none) :: st) h
  | .iload i => ab_get i ls (fun v => match v with | .inl x => K ls (.inl x :: st) h | _ => False)
  | .iload_n i => ab_get (i : Nat) ls (fun v => match v with | .inl x => K ls (.inl x :: st) h | _ => False)
  | .lload i => ab_get i ls (fun v => match v with | .inr (.inl x) => K ls (.inr (.inl x) :: st) h | _ => False)
  | .lload_n i => ab_get (i : Nat) ls (fun v => match v with | .inr (.inl x) => K ls (.inr (.inl x) :: st) h | _ => False)
  | .aload i => ab_get i ls (fun v => match v with | .inr (.inr o) => K ls (.inr (.inr o) :: st) h | _ => False)
  | .aload_n i => ab_get (i : Nat) ls (fun v => match v with | .inr (.inr o) => K ls (.inr (.inr o) :: st) h | _ => False)
  | .istore i => match st with | .inl x :: r => ab_st1 i (.inl x) K ls r h | _ => False
  | .istore_n i => match st with | .inl x :: r => ab_st1 (i : Nat) (.inl x) K ls r h | _ => False
  | .astore i => match st with | .inr (.inr o) :: r => ab_st1 i (.inr (.inr o)) K ls r h | _ => False
  | .astore_n i => match st with | .inr (.inr o) :: r => ab_st1 (i : Nat) (.inr (.inr o)) K ls r h | _ => False
  | .lstore i => match st with | .inr (.inl x) :: r => ab_del (i + 1) ls (fun l => ab_st1 i (.inr (.inl x)) K l r h) | _ => False
  | .lstore_n i => match st with | .inr (.inl x) :: r => ab_del ((i : Nat) + 1) ls (fun l => ab_st1 (i : Nat) (.inr (.inl x)) K l r h) | _ => False
  | .iinc i n => ab_get i ls (fun v => match v with | .inl x => (∀ v, v = ab_ii (x.toInt + n) → ab_st1 i (.inl v) K ls st h) | _ => False)
  | .dup => match st with | .inl x :: r => K ls (.inl x :: .inl x :: r) h | .inr (.inr o) :: r => K ls (.inr (.inr o) :: .inr (.inr o) :: r) h | _ => False
  | .dup2 => match st with | .inl x :: .inl y :: r => K ls (.inl x :: .inl y :: .inl x :: .inl y :: r) h | .inl x :: .inr (.inr y) :: r => K ls (.inl x :: .inr (.inr y) :: .inl x :: .inr (.inr y) :: r) h | _ => False
  | .pop => match st with | .inl _ :: r => K ls r h | .inr (.inr _) :: r => K ls r h | _ => False
  | .pop2 => match st with | .inr (.inl _) :: r => K ls r h | _ => False
  | .iadd => match st with | .inl y :: .inl x :: r => (∀ v, v = ab_ii (x.toInt + y.toInt) → K ls (.inl v :: r) h) | _ => False
  | .isub => match st with | .inl y :: .inl x :: r => (∀ v, v = ab_ii (x.toInt - y.toInt) → K ls (.inl v :: r) h) | _ => False
  | .imul => match st with | .inl y :: .inl x :: r => (∀ v, v = ab_ii (x.toInt * y.toInt) → K ls (.inl v :: r) h) | _ => False
  | .irem => match st with | .inl y :: .inl x :: r => (0 ≤ x.toInt ∧ 0 < y.toInt) ∧ K ls (.inl (ab_ii (x.toInt % y.toInt)) :: r) h | _ => False
  | .ineg => match st with | .inl x :: r => K ls (.inl (ab_ii (- x.toInt)) :: r) h | _ => False
  | .iand => match st with | .inl y :: .inl x :: r => K ls (.inl (x &&& y) :: r) h | _ => False
  | .ishr => match st with | .inl y :: .inl x :: r => K ls (.inl (x >>> (y &&& 31)) :: r) h | _ => False
  | .iushr => match st with | .inl y :: .inl x :: r => K ls (.inl ((x.toUInt32 >>> (y.toUInt32 &&& Int32.toUInt32 31)).toInt32) :: r) h | _ => False
  | .i2l => match st with | .inl x :: r => K ls (.inr (.inl x.toInt64) :: r) h | _ => False
  | .ladd => match st with | .inr (.inl y) :: .inr (.inl x) :: r => K ls (.inr (.inl (x + y)) :: r) h | _ => False
  | .lcmp => match st with | .inr (.inl y) :: .inr (.inl x) :: r => (y < x → K ls (.inl (ab_ii 1) :: r) h) ∧ (x = y → K ls (.inl (ab_ii 0) :: r) h) ∧ (x < y → K ls (.inl (ab_ii (-1)) :: r) h) | _ => False
  | .goto _ => X a1 ls st h
  | .ifCond c _ => match st with | .inl x :: r => ab_if c x.toInt 0 (X a1 ls r h) (K ls r h) | _ => False
  | .if_icmp c _ => match st with | .inl y :: .inl x :: r => ab_if c x.toInt y.toInt (X a1 ls r h) (K ls r h) | _ => False
  | .if_acmp .eq _ => match st with | .inr (.inr y) :: .inr (.inr x) :: r => (x = y → X a1 ls r h) ∧ (¬ x = y → K ls r h) | _ => False
  | .if_acmp .ne _ => match st with | .inr (.inr y) :: .inr (.inr x) :: r => (¬ x = y → X a1 ls r h) ∧ (x = y → K ls r h) | _ => False
  | .ifnull _ => match st with | .inr (.inr o) :: r => (match o with | none => X a1 ls r h | some _ => K ls r h) | _ => False
  | .ifnonnull _ => match st with | .inr (.inr o) :: r => (match o with | none => K ls r h | some _ => X a1 ls r h) | _ => False
  | .tableswitch _ _ _ _ => match st with | .inl x :: r => ab_sw x.toInt (fun t => X t ls r h) a1 sw | _ => False
  | .lookupswitch _ _ => match st with | .inl x :: r => ab_sw x.toInt (fun t => X t ls r h) a1 sw | _ => False
  | .ireturn => match st with | [.inl x] => ab_fit a1 (.inl x) ∧ Q (some (.inl x)) h | _ => False
  | .lreturn => match st with | [.inr (.inl x)] => Q (some (.inr (.inl x))) h | _ => False
  | .areturn => match st with | [.inr (.inr o)] => Q (some (.inr (.inr o))) h | _ => False
  | .return_ => match st with | [] => Q none h | _ => False
  | .getfield _ => match st with | .inr (.inr (some a)) :: r => ∃ fs w, h.1 a = ab_ob a1 fs ∧ fs[a2]? = some w ∧ K ls (w :: r) h | _ => False
  | .putfield _ => match st with | v :: .inr (.inr (some a)) :: r => ∃ fs, h.1 a = ab_ob a1 fs ∧ a2 < fs.length ∧ ab_fit (ab_z sw).toNat v ∧ ∀ h', h' = ab_set h a (ab_ob a1 (fs.set a2 v)) → K ls r h' | _ => False
  | .iaload => match st with | .inl i :: .inr (.inr (some a)) :: r => ∃ t n f, h.1 a = ab_ia t n f ∧ (t = 0 ∨ t = 9) ∧ (0 ≤ i.toInt ∧ i.toInt < n) ∧ ∀ v, v = f i.toInt.toNat → K ls (.inl v :: r) h | _ => False
  | .baload => match st with | .inl i :: .inr (.inr (some a)) :: r => ∃ n f, h.1 a = ab_ia 1 n f ∧ (0 ≤ i.toInt ∧ i.toInt < n) ∧ ∀ v, v = f i.toInt.toNat → K ls (.inl v :: r) h | _ => False
  | .aaload => match st with | .inl i :: .inr (.inr (some a)) :: r => ∃ t n f, h.1 a = ab_ra t n f ∧ (0 ≤ i.toInt ∧ i.toInt < n) ∧ ∀ v, v = f i.toInt.toNat → K ls (.inr (.inr v) :: r) h | _ => False
  | .iastore => match st with | .inl x :: .inl i :: .inr (.inr (some a)) :: r => ∃ n f, h.1 a = ab_ia 0 n f ∧ (0 ≤ i.toInt ∧ i.toInt < n) ∧ ∀ h', h' = ab_set h a (ab_ia 0 n (ab_up f i.toInt.toNat x)) → K ls r h' | _ => False
  | .bastore => match st with | .inl x :: .inl i :: .inr (.inr (some a)) :: r => ∃ n f, h.1 a = ab_ia 1 n f ∧ (0 ≤ i.toInt ∧ i.toInt < n) ∧ (x.toInt = 0 ∨ x.toInt = 1) ∧ ∀ h', h' = ab_set h a (ab_ia 1 n (ab_up f i.toInt.toNat x)) → K ls r h' | _ => False
  | .aastore => match st with | .inr (.inr o) :: .inl i :: .inr (.inr (some a)) :: r => ∃ t n f, h.1 a = ab_ra t n f ∧ (0 ≤ i.toInt ∧ i.toInt < n) ∧ (∀ v, o = some v → ∃ fs, h.1 v = ab_ob (ab_ec t) fs) ∧ ∀ h', h' = ab_set h a (ab_ra t n (ab_up f i.toInt.toNat o)) → K ls r h' | _ => False
  | .arraylength => match st with | .inr (.inr (some a)) :: r => ∃ n, ab_len (h.1 a) = some n ∧ K ls (.inl (ab_ii (n : Int)) :: r) h | _ => False
  | .new _ => (h.2.1 < ab_CM ∧ h.2.2 + a2 ≤ ab_SM) ∧ ∀ h', h' = ab_new h (ab_ob a1 (ab_df a1)) a2 → K ls (.inr (.inr (some h.2.1)) :: st) h'
  | .newarray _ => match st with | .inl x :: r => ((0 ≤ x.toInt ∧ h.2.1 < ab_CM ∧ h.2.2 + x.toInt.toNat ≤ ab_SM) ∧ ∀ h', h' = ab_new h (ab_ia a1 x.toInt.toNat (fun _ => 0)) x.toInt.toNat → K ls (.inr (.inr (some h.2.1)) :: r) h') | _ => False
  | .anewarray _ => match st with | .inl x :: r => ((0 ≤ x.toInt ∧ h.2.1 < ab_CM ∧ h.2.2 + x.toInt.toNat ≤ ab_SM) ∧ ∀ h', h' = ab_new h (ab_ra a1 x.toInt.toNat (fun _ => none)) x.toInt.toNat → K ls (.inr (.inr (some h.2.1)) :: r) h') | _ => False
  | .invokevirtual _ => ab_callV C a1 a2 (ab_z sw).toNat K ls st h
  | .invokestatic _ => ab_call C a1 a2 K ls st h
  | .invokespecial _ => ab_sp C a1 a2 K ls st h
  | _ => False
def ab_go (C : ab_F) (Q : ab_Q) (X : ab_J) : List ab_E → ab_K
  | [] => fun _ _ _ => False
  | e :: t => ab_stp C Q X e (ab_go C Q X t)
def ab_from (pc : Nat) : List ab_E → List ab_E
  | [] => []
  | e :: t => match Nat.beq e.2.1 pc with
    | true => (false, e.2) :: t
    | false => ab_from pc t
def ab_loc : Nat → List ab_V → (ab_L → Prop) → Prop
  | _, [], K => K []
  | i, v :: t, K => ab_loc (i + ab_cat v) t (fun l => K ((i, v) :: l))
