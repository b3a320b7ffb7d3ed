/-! ===== the abstract machine is sound: contexts, and a rule an instruction (own text) ===== -/
def ab_mt (n : Nat) : ab_M := (ab_ms[n]?).getD (yX0_init, cX0_init, 2, none, [])
abbrev ab_nm (n : Nat) : MethodName := (ab_mt n).1
abbrev ab_bt (n : Nat) : ByteArray := (ab_mt n).2.1
abbrev ab_ml (n : Nat) : Nat := (ab_mt n).2.2.1
abbrev ab_rt (n : Nat) : Option FieldType := (ab_mt n).2.2.2.1
abbrev ab_kd (n : Nat) : List ab_E := (ab_mt n).2.2.2.2
def ab_phi (b0 b a : Nat) : Nat := if a = ab_scr then b else b0 + a
def ab_pv (b0 b : Nat) : ab_V → Value
  | .inl x => .int x
  | .inr (.inl x) => .long x
  | .inr (.inr o) => va_rf (o.map (ab_phi b0 b))
abbrev ab_pl (b0 b : Nat) (ls : ab_L) : List (Nat × Value) := ls.map fun q => (q.1, ab_pv b0 b q.2)
def ab_ce (b0 b : Nat) (cT : Nat → ClassId) : ab_C → va_E
  | .inl (t, n, f) => .inl (cT t, n, .inl f)
  | .inr (.inl (t, n, f)) => .inl (cT t, n, .inr (.inr (.inr (.inr (fun j => (f j).map (ab_phi b0 b))))))
  | .inr (.inr (c, fs)) => .inr (c, fs.map (ab_pv b0 b))
/-- the cells of a heap, one behind another -/
def ab_ws (b0 b : Nat) (cT : Nat → ClassId) (h : ab_H) : va_W := (List.range h.2.1).map fun a => (b0 + a, ab_ce b0 b cT (h.1 a))
def ab_vt : ab_C → Prop
  | .inl (t, _, _) => t = 0 ∨ t = 1
  | .inr (.inl (t, _, _)) => t = 2 ∨ t = 3 ∨ t = 4
  | .inr (.inr _) => True
def ab_okw (w : Jvm.Cond) : Bool := goodWord w || (match w with
  | .methodLinkNest _ _ _ _ => true
  | .fieldLinkNest _ _ _ _ _ _ => true
  | .arrayOver (.object _) => true
  | _ => false)
def ab_KV (D : va_G) (cT : Nat → ClassId) (U : State) : Prop := (∀ w ∈ lw_tbl, ab_okw w = true → va_Nw w U) ∧ va_K D ab_cl (ab_tys cT) U
def ab_Rl (D : va_G) (cT : Nat → ClassId) (b0 b L : Nat) (xs : Nat → Int32) (h : ab_H) (H : Heap) : Prop :=
  H.size = b0 + h.2.1 ∧ h.2.1 ≤ ab_CM ∧ h.2.2 ≤ ab_SM ∧ h.1 ab_scr = ab_ia 9 L xs ∧ (∀ a, h.2.1 ≤ a → a ≠ ab_scr → h.1 a = ab_ob 999 []) ∧ (∀ a, a < h.2.1 → ab_vt (h.1 a)) ∧ va_P D ab_cl (ab_ws b0 b cT h) H
abbrev ab_A (b0 : Nat) : Addr → Prop := fun q => b0 ≤ q
abbrev ab_room (d n0 s0 : Nat) : Room := { frames := d, cells := 600000 - n0, slots := 7302250 - s0, locals := 84000 - 40 * (2048 - d) }
def ab_Cx (p : Program) (s : State) (m : MethodId) (meth : Method) (c : Code) (n : Nat) (D : va_G) (cT : Nat → ClassId) (b0 b L : Nat) (xs : Nat → Int32) (n0 : Nat) : Prop :=
  p.tables.exec = Jvm.exec ∧ c.code = ab_bt n ∧ meth.sig.returnType = ab_rt n ∧ c.maxLocals = ab_ml n ∧ s.vm.findClass (ab_nm n).cls = some m.cls ∧ ab_KV D cT s ∧ meth.locks = false ∧ meth.name = (ab_nm n).name ∧ s.heap.size = b0 + n0 ∧ b < b0 ∧ va_X b L xs s s.heap
/-- what a method leaves: its answer, the heap, what it has made -/
def ab_Qm (Q : ab_Q) (D : va_G) (cT : Nat → ClassId) (b0 b L : Nat) (xs : Nat → Int32) (n0 s0 mc ms : Nat) : Array Value → State → Outcome → State → Prop := fun _ st o t =>
  ∃ (r : Option ab_V) (h' : ab_H), o = .returned (r.map (ab_pv b0 b)) ∧ ab_Rl D cT b0 b L xs h' t.heap ∧ h'.2.1 = n0 + mc ∧ h'.2.2 = s0 + ms ∧ Q r h' ∧ va_F (ab_A b0) st t
def ab_En (below : List Frame) (args : Array Value) (s : State) (Q : ab_Q) (D : va_G) (cT : Nat → ClassId) (b0 b L : Nat) (xs : Nat → Int32) (n0 s0 : Nat) : State → Prop := fun t =>
  ∃ mc ms, MQ below (ab_Qm Q D cT b0 b L xs n0 s0 mc ms) args s mc ms (ab_A b0) t
def ab_WB (d n : Nat) (Q : ab_Q) (pc : Nat) (ls : ab_L) (st : List ab_V) (h : ab_H) : Prop :=
  ∀ (p : Program) (l : Launch) (e : Env) (s : State) (m : MethodId) (args : Array Value) (below : List Frame) (meth : Method) (c : Code) (D : va_G) (cT : Nat → ClassId) (b0 b L : Nat) (xs : Nat → Int32) (n0 s0 : Nat),
    d ≤ 2048 → ab_Cx p s m meth c n D cT b0 b L xs n0 → ∀ (H : Heap) (locs : List Loc) (lsA : Array Slot), lv_has lsA (ab_ml n) (ab_pl b0 b ls) → ab_Rl D cT b0 b L xs h H → va_S (ab_A b0) s.heap H locs → n0 ≤ h.2.1 → s0 ≤ h.2.2 →
    W p l e (ab_room d n0 s0) s m args below meth c H locs (h.2.1 - n0) (h.2.2 - s0) (ab_En below args s Q D cT b0 b L xs n0 s0) (F0 m pc lsA (st.map (ab_pv b0 b)))
def ab_Pc (D : va_G) (cT : Nat → ClassId) (b0 b L : Nat) (xs : Nat → Int32) (args : List ab_V) (h : ab_H) : Array Value → State → Prop := fun av U =>
  av = (args.map (ab_pv b0 b)).toArray ∧ ab_KV D cT U ∧ ab_Rl D cT b0 b L xs h U.heap ∧ b < b0 ∧ va_X b L xs U U.heap
def ab_Qc (Q : ab_Q) (D : va_G) (cT : Nat → ClassId) (b0 b L : Nat) (xs : Nat → Int32) (n0 s0 : Nat) : Array Value → State → Outcome → State → Prop := fun av st o t =>
  ∃ (mc ms : Nat) (Lc : List Loc), FrameEnd st o t Lc mc ms ∧ (∀ q ∈ Lc, ab_A b0 q.base) ∧ ab_Qm Q D cT b0 b L xs n0 s0 mc ms av st o t
def ab_CT (d n : Nat) (args : List ab_V) (h : ab_H) (Q : ab_Q) : Prop :=
  d ≤ 2048 → ∀ (l : Launch) (D : va_G) (cT : Nat → ClassId) (b0 b L : Nat) (xs : Nat → Int32),
    MetFree l (ab_nm n) (headSpec [Jvm.Cond.code (ab_nm n) (ab_bt n) (ab_ml n) (ab_rt n)] (ab_room d h.2.1 h.2.2)) (ab_Pc D cT b0 b L xs args h) (fun _ _ _ _ _ => True) (ab_Qc Q D cT b0 b L xs h.2.1 h.2.2)
theorem ab_ii_toInt (x : Int32) : ab_ii x.toInt = x := by simp [ab_ii]
theorem ab_ii_add (x y : Int32) : x + y = ab_ii (x.toInt + y.toInt) := by rw [ab_ii, Int32.ofInt_add]; simp
theorem ab_ii_sub (x y : Int32) : x - y = ab_ii (x.toInt - y.toInt) := by rw [ab_ii, Int32.ofInt_sub]; simp
theorem ab_ii_mul (x y : Int32) : x * y = ab_ii (x.toInt * y.toInt) := by rw [ab_ii, Int32.ofInt_mul]; simp
theorem ab_ii_neg (x : Int32) : -x = ab_ii (- x.toInt) := by rw [ab_ii, Int32.ofInt_neg]; simp
theorem ab_tI {z : Int} (h1 : -2147483648 ≤ z) (h2 : z < 2147483648) : (ab_ii z).toInt = z := Int32.toInt_ofInt_of_le (by simpa using h1) (by simpa using h2)
theorem ab_pv_cat (b0 b : Nat) (v : ab_V) : (ab_pv b0 b v).category = ab_cat v := by
  match v with
  | .inl x => rfl
  | .inr (.inl x) => rfl
  | .inr (.inr none) => rfl
  | .inr (.inr (some a)) => rfl
theorem ab_cats_pv (b0 b : Nat) (st : List ab_V) : ((st.map (ab_pv b0 b)).map fun v => v.category).sum = ab_cats st := by
  induction st with
  | nil => rfl
  | cons v t ih => simp only [List.map_cons, List.sum_cons, ab_cats, ab_pv_cat, ih]
theorem ab_phi_ne {b0 b a : Nat} (h : a ≠ ab_scr) : ab_phi b0 b a = b0 + a := if_neg h
theorem ab_phi_scr {b0 b : Nat} : ab_phi b0 b ab_scr = b := if_pos rfl
theorem ab_phi_inj {b0 b a a' : Nat} (hb : b < b0) (h : ab_phi b0 b a = ab_phi b0 b a') : a = a' := by
  unfold ab_phi at h
  split at h <;> split at h <;> omega
theorem ab_get_sd {i : Nat} {ls : ab_L} {K : ab_V → Prop} (h : ab_get i ls K) : ∃ (k : Nat) (v : ab_V), ls[k]? = some (i, v) ∧ K v := by
  induction ls with
  | nil => exact h.elim
  | cons q t ih =>
    obtain ⟨j, v⟩ := q
    unfold ab_get at h
    split at h
    next hj => exact ⟨0, v, by simp [Nat.eq_of_beq_eq_true hj], h⟩
    next hj =>
      obtain ⟨k, v, h1, h2⟩ := ih h
      exact ⟨k + 1, v, by simpa using h1, h2⟩
theorem ab_del_sd {i : Nat} {ls : ab_L} {K : ab_L → Prop} (h : ab_del i ls K) : ∃ t, K t ∧ ∀ q ∈ t, q ∈ ls ∧ q.1 ≠ i ∧ ¬ (q.1 + 1 = i ∧ ab_cat q.2 = 2) := by
  induction ls generalizing K with
  | nil => exact ⟨[], h, fun q hq => by cases hq⟩
  | cons q t ih =>
    obtain ⟨j, v⟩ := q
    unfold ab_del at h
    have up : ∀ {K' : ab_L → Prop}, ab_del i t K' → ∃ t', K' t' ∧ ∀ q ∈ t', q ∈ ((j, v) :: t) ∧ q.1 ≠ i ∧ ¬ (q.1 + 1 = i ∧ ab_cat q.2 = 2) := fun hh => by
      obtain ⟨t', h1, h2⟩ := ih hh
      exact ⟨t', h1, fun q hq => ⟨List.mem_cons_of_mem _ (h2 q hq).1, (h2 q hq).2⟩⟩
    have put : ∀ {w : ab_V} (e : v = w), ¬ j = i → ¬ (j + 1 = i ∧ ab_cat w = 2) → ab_del i t (fun t' => K ((j, w) :: t')) → ∃ t', K t' ∧ ∀ q ∈ t', q ∈ ((j, v) :: t) ∧ q.1 ≠ i ∧ ¬ (q.1 + 1 = i ∧ ab_cat q.2 = 2) := fun e g1 g2 hh => by
      subst e
      obtain ⟨t', h1, h2⟩ := ih hh
      refine ⟨_, h1, fun q hq => ?_⟩
      rcases List.mem_cons.mp hq with rfl | hq
      · exact ⟨List.mem_cons_self, g1, g2⟩
      · exact ⟨List.mem_cons_of_mem _ (h2 q hq).1, (h2 q hq).2⟩
    split at h
    next hj => exact up h
    next hj =>
      have hj' : ¬ j = i := fun e => by rw [e, Nat.beq_refl] at hj; cases hj
      split at h
      next y =>
        split at h
        next hk => exact up h
        next hk => exact put rfl hj' (fun e => by rw [e.1, Nat.beq_refl] at hk; cases hk) h
      next x => exact put rfl hj' (fun e => by cases e.2) h
      next o => exact put rfl hj' (fun e => by cases e.2) h
theorem ab_pop_sd {n : Nat} {acc st : List ab_V} {K : List ab_V → List ab_V → Prop} (h : ab_pop n acc st K) : ∃ as rest, as.length = n ∧ st = as ++ rest ∧ K (as.reverse ++ acc) rest := by
  induction n generalizing acc st with
  | zero => exact ⟨[], st, rfl, rfl, h⟩
  | succ n ih =>
    cases st with
    | nil => exact h.elim
    | cons v r =>
      obtain ⟨as, rest, h1, h2, h3⟩ := ih (st := r) (acc := v :: acc) h
      exact ⟨v :: as, rest, by simp [h1], by simp [h2], by simpa using h3⟩
theorem ab_sw_sd {x : Int} {X : Nat → Prop} {d : Nat} {l : List (Int × Nat)} (h : ab_sw x X d l) : ∃ t, X t ∧ ((∃ i : Nat, l[i]? = some (x, t) ∧ ∀ j q, j < i → l[j]? = some q → ¬ x = q.1) ∨ (t = d ∧ ∀ q ∈ l, ¬ x = q.1)) := by
  induction l with
  | nil => exact ⟨d, h, Or.inr ⟨rfl, fun q hq => by cases hq⟩⟩
  | cons q l ih =>
    obtain ⟨k, t⟩ := q
    by_cases hx : x = k
    · exact ⟨t, h.1 hx, Or.inl ⟨0, by simp [hx], fun j q hj => absurd hj (Nat.not_lt_zero _)⟩⟩
    · obtain ⟨t', h1, h2⟩ := ih (h.2 hx)
      refine ⟨t', h1, ?_⟩
      rcases h2 with ⟨i, h2, h3⟩ | ⟨h2, h3⟩
      · refine Or.inl ⟨i + 1, by simpa using h2, fun j q hj hq => ?_⟩
        cases j with
        | zero => simp at hq; rw [← hq]; exact hx
        | succ j => exact h3 j q (by omega) (by simpa using hq)
      · refine Or.inr ⟨h2, fun q hq => ?_⟩
        rcases List.mem_cons.mp hq with rfl | hq
        · exact hx
        · exact h3 q hq
theorem ab_lvmono {ls : Array Slot} {nL : Nat} {l l' : List (Nat × Value)} (h : lv_has ls nL l) (hm : ∀ q ∈ l', q ∈ l) : lv_has ls nL l' := ⟨h.1, h.2.1, fun q hq => h.2.2 q (hm q hq)⟩
