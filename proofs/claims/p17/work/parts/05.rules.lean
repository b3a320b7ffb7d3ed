/-! ===== rules: an instruction each, over the kit's rows (own text) ===== -/
def ab_WG (p : Program) (l : Launch) (e : Env) (s : State) (m : MethodId) (args : Array Value) (below : List Frame) (meth : Method) (c : Code) (n : Nat) (D : va_G) (cT : Nat → ClassId) (b0 b L : Nat) (xs : Nat → Int32) (n0 s0 d : Nat) (E : State → Prop) (pc : Nat) (ls : ab_L) (st : List ab_V) (h : ab_H) : Prop :=
  ∀ (H : Heap) (locs : List Loc) (lsA : Array Slot), lv_has lsA (ab_ml n) (ab_pl b0 b ls) → ab_Rl D cT b0 b L xs h H → va_S (ab_A b0) s.heap H locs → n0 ≤ h.2.1 → s0 ≤ h.2.2 →
    W p l e (ab_room d n0 s0) s m args below meth c H locs (h.2.1 - n0) (h.2.2 - s0) E (F0 m pc lsA (st.map (ab_pv b0 b)))
section AB1
variable {p : Program} {l : Launch} {e : Env} {s : State} {m : MethodId} {args : Array Value} {below : List Frame} {meth : Method} {c : Code} {n : Nat} {D : va_G} {cT : Nat → ClassId} {b0 b L : Nat} {xs : Nat → Int32} {n0 s0 d : Nat} {E : State → Prop} {pc : Nat} {ls : ab_L} {st : List ab_V} {h : ab_H}
theorem ab_plk {k i : Nat} {v : ab_V} (hk : ls[k]? = some (i, v)) : (ab_pl b0 b ls)[k]? = some (i, ab_pv b0 b v) := by simp [hk]
theorem ws_iconst (C0 : ab_Cx p s m meth c n D cT b0 b L xs n0) {z : Int} (hdg : decode (ab_bt n) pc = .ok (.iconst z, 1))  (k : ab_WG p l e s m args below meth c n D cT b0 b L xs n0 s0 d E (pc + 1) ls (.inl (ab_ii z) :: st) h) : ab_WG p l e s m args below meth c n D cT b0 b L xs n0 s0 d E pc ls st h :=
  fun H locs lsA hl hR hS h1 h2 => lv_iconst C0.1 C0.2.1 hdg rfl (k H locs lsA hl hR hS h1 h2)
theorem ws_bipush (C0 : ab_Cx p s m meth c n D cT b0 b L xs n0) {z : Int} (hdg : decode (ab_bt n) pc = .ok (.bipush z, 2)) (hv : (Int8.ofInt z).toInt32 = ab_ii z) (k : ab_WG p l e s m args below meth c n D cT b0 b L xs n0 s0 d E (pc + 2) ls (.inl (ab_ii z) :: st) h) : ab_WG p l e s m args below meth c n D cT b0 b L xs n0 s0 d E pc ls st h :=
  fun H locs lsA hl hR hS h1 h2 => lv_bipush C0.1 C0.2.1 hdg hv (k H locs lsA hl hR hS h1 h2)
theorem ws_sipush (C0 : ab_Cx p s m meth c n D cT b0 b L xs n0) {z : Int} (hdg : decode (ab_bt n) pc = .ok (.sipush z, 3)) (hv : (Int16.ofInt z).toInt32 = ab_ii z) (k : ab_WG p l e s m args below meth c n D cT b0 b L xs n0 s0 d E (pc + 3) ls (.inl (ab_ii z) :: st) h) : ab_WG p l e s m args below meth c n D cT b0 b L xs n0 s0 d E pc ls st h :=
  fun H locs lsA hl hR hS h1 h2 => lv_sipush C0.1 C0.2.1 hdg hv (k H locs lsA hl hR hS h1 h2)
theorem ws_lconst (C0 : ab_Cx p s m meth c n D cT b0 b L xs n0) {z : Fin 2} (hdg : decode (ab_bt n) pc = .ok (.lconst z, 1))  (k : ab_WG p l e s m args below meth c n D cT b0 b L xs n0 s0 d E (pc + 1) ls (.inr (.inl (Int64.ofNat (z : Nat))) :: st) h) : ab_WG p l e s m args below meth c n D cT b0 b L xs n0 s0 d E pc ls st h :=
  fun H locs lsA hl hR hS h1 h2 => lv_lconst C0.1 C0.2.1 hdg rfl (k H locs lsA hl hR hS h1 h2)
theorem ws_null (C0 : ab_Cx p s m meth c n D cT b0 b L xs n0) (hdg : decode (ab_bt n) pc = .ok (.aconst_null, 1)) (k : ab_WG p l e s m args below meth c n D cT b0 b L xs n0 s0 d E (pc + 1) ls (.inr (.inr none) :: st) h) : ab_WG p l e s m args below meth c n D cT b0 b L xs n0 s0 d E pc ls st h :=
  fun H locs lsA hl hR hS h1 h2 => lv_null C0.1 C0.2.1 hdg (k H locs lsA hl hR hS h1 h2)
theorem ws_tw (C0 : ab_Cx p s m meth c n D cT b0 b L xs n0) {w : Jvm.Cond} (hw : w ∈ lw_tbl) (ho : w.onTables = true) (hk : ab_okw w = true := by rfl) : w.before args s = true := va_Nw.use ho (C0.2.2.2.2.2.1.1 w hw hk)
theorem ws_ldc (C0 : ab_Cx p s m meth c n D cT b0 b L xs n0) {i : Nat} {v : Int32} (hw : Jvm.Cond.constant (ab_nm n).cls i v ∈ lw_tbl) (hdg : decode (ab_bt n) pc = .ok (.ldc i, 2)) (k : ab_WG p l e s m args below meth c n D cT b0 b L xs n0 s0 d E (pc + 2) ls (.inl v :: st) h) : ab_WG p l e s m args below meth c n D cT b0 b L xs n0 s0 d E pc ls st h :=
  fun H locs lsA hl hR hS h1 h2 => lv_ldc C0.1 C0.2.1 C0.2.2.2.2.1 (ws_tw C0 hw rfl) hdg (k H locs lsA hl hR hS h1 h2)
theorem ws_ldc2 (C0 : ab_Cx p s m meth c n D cT b0 b L xs n0) {i : Nat} {v : Int64} (hw : Jvm.Cond.constantLong (ab_nm n).cls i v ∈ lw_tbl) (hdg : decode (ab_bt n) pc = .ok (.ldc2_w i, 3)) (k : ab_WG p l e s m args below meth c n D cT b0 b L xs n0 s0 d E (pc + 3) ls (.inr (.inl v) :: st) h) : ab_WG p l e s m args below meth c n D cT b0 b L xs n0 s0 d E pc ls st h :=
  fun H locs lsA hl hR hS h1 h2 => lv_ldc2 C0.1 C0.2.1 C0.2.2.2.2.1 (ws_tw C0 hw rfl) hdg (k H locs lsA hl hR hS h1 h2)
theorem ws_iload (C0 : ab_Cx p s m meth c n D cT b0 b L xs n0) {i k0 : Nat} {x : Int32} (hdg : decode (ab_bt n) pc = .ok (.iload i, 2)) (hk : ls[k0]? = some (i, .inl x)) (k : ab_WG p l e s m args below meth c n D cT b0 b L xs n0 s0 d E (pc + 2) ls (.inl x :: st) h) : ab_WG p l e s m args below meth c n D cT b0 b L xs n0 s0 d E pc ls st h :=
  fun H locs lsA hl hR hS h1 h2 => lv_iload C0.1 C0.2.1 hdg (lv_at hl k0 (ab_plk hk)) (k H locs lsA hl hR hS h1 h2)
theorem ws_iload_n (C0 : ab_Cx p s m meth c n D cT b0 b L xs n0) {i : Fin 4} {k0 : Nat} {x : Int32} (hdg : decode (ab_bt n) pc = .ok (.iload_n i, 1)) (hk : ls[k0]? = some ((i : Nat), .inl x)) (k : ab_WG p l e s m args below meth c n D cT b0 b L xs n0 s0 d E (pc + 1) ls (.inl x :: st) h) : ab_WG p l e s m args below meth c n D cT b0 b L xs n0 s0 d E pc ls st h :=
  fun H locs lsA hl hR hS h1 h2 => lv_iload_n C0.1 C0.2.1 hdg rfl (lv_at hl k0 (ab_plk hk)) (k H locs lsA hl hR hS h1 h2)
theorem ws_lload (C0 : ab_Cx p s m meth c n D cT b0 b L xs n0) {i k0 : Nat} {x : Int64} (hdg : decode (ab_bt n) pc = .ok (.lload i, 2)) (hk : ls[k0]? = some (i, .inr (.inl x))) (k : ab_WG p l e s m args below meth c n D cT b0 b L xs n0 s0 d E (pc + 2) ls (.inr (.inl x) :: st) h) : ab_WG p l e s m args below meth c n D cT b0 b L xs n0 s0 d E pc ls st h :=
  fun H locs lsA hl hR hS h1 h2 => lv_lload C0.1 C0.2.1 hdg (lv_at hl k0 (ab_plk hk)) (k H locs lsA hl hR hS h1 h2)
theorem ws_lload_n (C0 : ab_Cx p s m meth c n D cT b0 b L xs n0) {i : Fin 4} {k0 : Nat} {x : Int64} (hdg : decode (ab_bt n) pc = .ok (.lload_n i, 1)) (hk : ls[k0]? = some ((i : Nat), .inr (.inl x))) (k : ab_WG p l e s m args below meth c n D cT b0 b L xs n0 s0 d E (pc + 1) ls (.inr (.inl x) :: st) h) : ab_WG p l e s m args below meth c n D cT b0 b L xs n0 s0 d E pc ls st h :=
  fun H locs lsA hl hR hS h1 h2 => lv_lload_n C0.1 C0.2.1 hdg rfl (lv_at hl k0 (ab_plk hk)) (k H locs lsA hl hR hS h1 h2)
theorem ws_aload (C0 : ab_Cx p s m meth c n D cT b0 b L xs n0) {i k0 : Nat} {x : Option Nat} (hdg : decode (ab_bt n) pc = .ok (.aload i, 2)) (hk : ls[k0]? = some (i, .inr (.inr x))) (k : ab_WG p l e s m args below meth c n D cT b0 b L xs n0 s0 d E (pc + 2) ls (.inr (.inr x) :: st) h) : ab_WG p l e s m args below meth c n D cT b0 b L xs n0 s0 d E pc ls st h := by
  intro H locs lsA hl hR hS h1 h2
  cases x with
  | none => exact lv_aloadN C0.1 C0.2.1 hdg (lv_at hl k0 (ab_plk hk)) (k H locs lsA hl hR hS h1 h2)
  | some a => exact lv_aload C0.1 C0.2.1 hdg (lv_at hl k0 (ab_plk hk)) (k H locs lsA hl hR hS h1 h2)
theorem ws_aload_n (C0 : ab_Cx p s m meth c n D cT b0 b L xs n0) {i : Fin 4} {k0 : Nat} {x : Option Nat} (hdg : decode (ab_bt n) pc = .ok (.aload_n i, 1)) (hk : ls[k0]? = some ((i : Nat), .inr (.inr x))) (k : ab_WG p l e s m args below meth c n D cT b0 b L xs n0 s0 d E (pc + 1) ls (.inr (.inr x) :: st) h) : ab_WG p l e s m args below meth c n D cT b0 b L xs n0 s0 d E pc ls st h := by
  intro H locs lsA hl hR hS h1 h2
  cases x with
  | none => exact lv_aload_nN C0.1 C0.2.1 hdg rfl (lv_at hl k0 (ab_plk hk)) (k H locs lsA hl hR hS h1 h2)
  | some a => exact lv_aload_n C0.1 C0.2.1 hdg rfl (lv_at hl k0 (ab_plk hk)) (k H locs lsA hl hR hS h1 h2)
/-- a store keeps the other locals -/
theorem ab_stm {i nL : Nat} {lsA : Array Slot} {v : ab_V} {t : ab_L} (hc : ab_cat v = 1) (hm : ∀ q ∈ t, q ∈ ls ∧ q.1 ≠ i ∧ ¬ (q.1 + 1 = i ∧ ab_cat q.2 = 2)) (hl : lv_has lsA nL ((i, ab_pv b0 b v) :: (ab_pl b0 b ls).filter (fun q => !(q.1 == i) && !(q.1 + 1 == i && q.2.category == 2)))) : lv_has lsA nL (ab_pl b0 b ((i, v) :: t)) := by
  refine ab_lvmono hl fun q hq => ?_
  rcases List.mem_cons.mp hq with rfl | hq
  · exact List.mem_cons_self
  · obtain ⟨q0, h1, rfl⟩ := List.mem_map.mp hq
    obtain ⟨g1, g2, g3⟩ := hm q0 h1
    refine List.mem_cons_of_mem _ (List.mem_filter.mpr ⟨List.mem_map.mpr ⟨q0, g1, rfl⟩, ?_⟩)
    simp only [ab_pv_cat, Bool.and_eq_true, Bool.not_eq_true', beq_eq_false_iff_ne, ne_eq, Bool.and_eq_false_iff]
    refine ⟨g2, ?_⟩
    by_cases h3 : q0.1 + 1 = i
    · exact Or.inr fun h4 => g3 ⟨h3, h4⟩
    · exact Or.inl h3
theorem ab_stm2 {i nL : Nat} {lsA : Array Slot} {x : Int64} {t t1 : ab_L} (hm1 : ∀ q ∈ t1, q ∈ ls ∧ q.1 ≠ i + 1 ∧ ¬ (q.1 + 1 = i + 1 ∧ ab_cat q.2 = 2)) (hm : ∀ q ∈ t, q ∈ t1 ∧ q.1 ≠ i ∧ ¬ (q.1 + 1 = i ∧ ab_cat q.2 = 2)) (hl : lv_has lsA nL ((i, Value.long x) :: (ab_pl b0 b ls).filter (fun q => !(q.1 == i) && (!(q.1 == i + 1) && !(q.1 + 1 == i && q.2.category == 2))))) : lv_has lsA nL (ab_pl b0 b ((i, .inr (.inl x)) :: t)) := by
  refine ab_lvmono hl fun q hq => ?_
  rcases List.mem_cons.mp hq with rfl | hq
  · exact List.mem_cons_self
  · obtain ⟨q0, h1, rfl⟩ := List.mem_map.mp hq
    obtain ⟨g1, g2, g3⟩ := hm q0 h1
    obtain ⟨g4, g5, g6⟩ := hm1 q0 g1
    refine List.mem_cons_of_mem _ (List.mem_filter.mpr ⟨List.mem_map.mpr ⟨q0, g4, rfl⟩, ?_⟩)
    simp only [ab_pv_cat, Bool.and_eq_true, Bool.not_eq_true', beq_eq_false_iff_ne, ne_eq, Bool.and_eq_false_iff]
    refine ⟨g2, g5, ?_⟩
    by_cases h3 : q0.1 + 1 = i
    · exact Or.inr fun h4 => g3 ⟨h3, h4⟩
    · exact Or.inl h3
theorem ws_istore (C0 : ab_Cx p s m meth c n D cT b0 b L xs n0) {i : Nat} {x : Int32} {K : ab_K} (hdg : decode (ab_bt n) pc = .ok (.istore i, 2)) (hn : i < ab_ml n) (hK : ∀ lx, K lx st h → ab_WG p l e s m args below meth c n D cT b0 b L xs n0 s0 d E (pc + 2) lx st h) (hs : ab_st1 i (.inl x) K ls st h) : ab_WG p l e s m args below meth c n D cT b0 b L xs n0 s0 d E pc ls (.inl x :: st) h := by
  intro H locs lsA hl hR hS h1 h2
  obtain ⟨t, g1, g2⟩ := ab_del_sd hs
  exact lv_istore C0.1 C0.2.1 hdg  hl hn rfl (fun ls' hl' => hK _ g1 H locs ls' (ab_stm rfl g2 hl') hR hS h1 h2)
theorem ws_istore_n (C0 : ab_Cx p s m meth c n D cT b0 b L xs n0) {i : Fin 4} {x : Int32} {K : ab_K} (hdg : decode (ab_bt n) pc = .ok (.istore_n i, 1)) (hn : (i : Nat) < ab_ml n) (hK : ∀ lx, K lx st h → ab_WG p l e s m args below meth c n D cT b0 b L xs n0 s0 d E (pc + 1) lx st h) (hs : ab_st1 (i : Nat) (.inl x) K ls st h) : ab_WG p l e s m args below meth c n D cT b0 b L xs n0 s0 d E pc ls (.inl x :: st) h := by
  intro H locs lsA hl hR hS h1 h2
  obtain ⟨t, g1, g2⟩ := ab_del_sd hs
  exact lv_istore_n C0.1 C0.2.1 hdg rfl hl hn rfl (fun ls' hl' => hK _ g1 H locs ls' (ab_stm rfl g2 hl') hR hS h1 h2)
theorem ws_astore (C0 : ab_Cx p s m meth c n D cT b0 b L xs n0) {i : Nat} {x : Option Nat} {K : ab_K} (hdg : decode (ab_bt n) pc = .ok (.astore i, 2)) (hn : i < ab_ml n) (hK : ∀ lx, K lx st h → ab_WG p l e s m args below meth c n D cT b0 b L xs n0 s0 d E (pc + 2) lx st h) (hs : ab_st1 i (.inr (.inr x)) K ls st h) : ab_WG p l e s m args below meth c n D cT b0 b L xs n0 s0 d E pc ls (.inr (.inr x) :: st) h := by
  intro H locs lsA hl hR hS h1 h2
  obtain ⟨t, g1, g2⟩ := ab_del_sd hs
  cases x with
  | none => exact lv_astoreN C0.1 C0.2.1 hdg  hl hn rfl (fun ls' hl' => hK _ g1 H locs ls' (ab_stm rfl g2 hl') hR hS h1 h2)
  | some a => exact lv_astore C0.1 C0.2.1 hdg  hl hn rfl (fun ls' hl' => hK _ g1 H locs ls' (ab_stm rfl g2 hl') hR hS h1 h2)
theorem ws_astore_n (C0 : ab_Cx p s m meth c n D cT b0 b L xs n0) {i : Fin 4} {x : Option Nat} {K : ab_K} (hdg : decode (ab_bt n) pc = .ok (.astore_n i, 1)) (hn : (i : Nat) < ab_ml n) (hK : ∀ lx, K lx st h → ab_WG p l e s m args below meth c n D cT b0 b L xs n0 s0 d E (pc + 1) lx st h) (hs : ab_st1 (i : Nat) (.inr (.inr x)) K ls st h) : ab_WG p l e s m args below meth c n D cT b0 b L xs n0 s0 d E pc ls (.inr (.inr x) :: st) h := by
  intro H locs lsA hl hR hS h1 h2
  obtain ⟨t, g1, g2⟩ := ab_del_sd hs
  cases x with
  | none => exact lv_astore_nN C0.1 C0.2.1 hdg rfl hl hn rfl (fun ls' hl' => hK _ g1 H locs ls' (ab_stm rfl g2 hl') hR hS h1 h2)
  | some a => exact lv_astore_n C0.1 C0.2.1 hdg rfl hl hn rfl (fun ls' hl' => hK _ g1 H locs ls' (ab_stm rfl g2 hl') hR hS h1 h2)
theorem ws_lstore (C0 : ab_Cx p s m meth c n D cT b0 b L xs n0) {i : Nat} {x : Int64} {K : ab_K} (hdg : decode (ab_bt n) pc = .ok (.lstore i, 2)) (hn : i + 1 < ab_ml n) (hK : ∀ lx, K lx st h → ab_WG p l e s m args below meth c n D cT b0 b L xs n0 s0 d E (pc + 2) lx st h) (hs : ab_del (i + 1) ls (fun lx => ab_st1 i (.inr (.inl x)) K lx st h)) : ab_WG p l e s m args below meth c n D cT b0 b L xs n0 s0 d E pc ls (.inr (.inl x) :: st) h := by
  intro H locs lsA hl hR hS h1 h2
  obtain ⟨t1, g1, g2⟩ := ab_del_sd hs
  obtain ⟨t, g3, g4⟩ := ab_del_sd g1
  exact lv_lstore C0.1 C0.2.1 hdg  hl hn rfl (fun ls' hl' => hK _ g3 H locs ls' (ab_stm2 g2 g4 hl') hR hS h1 h2)
theorem ws_lstore_n (C0 : ab_Cx p s m meth c n D cT b0 b L xs n0) {i : Fin 4} {x : Int64} {K : ab_K} (hdg : decode (ab_bt n) pc = .ok (.lstore_n i, 1)) (hn : (i : Nat) + 1 < ab_ml n) (hK : ∀ lx, K lx st h → ab_WG p l e s m args below meth c n D cT b0 b L xs n0 s0 d E (pc + 1) lx st h) (hs : ab_del ((i : Nat) + 1) ls (fun lx => ab_st1 (i : Nat) (.inr (.inl x)) K lx st h)) : ab_WG p l e s m args below meth c n D cT b0 b L xs n0 s0 d E pc ls (.inr (.inl x) :: st) h := by
  intro H locs lsA hl hR hS h1 h2
  obtain ⟨t1, g1, g2⟩ := ab_del_sd hs
  obtain ⟨t, g3, g4⟩ := ab_del_sd g1
  exact lv_lstore_n C0.1 C0.2.1 hdg rfl hl hn rfl (fun ls' hl' => hK _ g3 H locs ls' (ab_stm2 g2 g4 hl') hR hS h1 h2)
theorem ws_iinc (C0 : ab_Cx p s m meth c n D cT b0 b L xs n0) {i k0 : Nat} {z : Int} {x : Int32} {K : ab_K} (hdg : decode (ab_bt n) pc = .ok (.iinc i z, 3)) (hk : ls[k0]? = some (i, .inl x)) (hn : i < ab_ml n) (hK : ∀ lx, K lx st h → ab_WG p l e s m args below meth c n D cT b0 b L xs n0 s0 d E (pc + 3) lx st h) (hs : ab_st1 i (.inl (ab_ii (x.toInt + z))) K ls st h) : ab_WG p l e s m args below meth c n D cT b0 b L xs n0 s0 d E pc ls st h := by
  intro H locs lsA hl hR hS h1 h2
  obtain ⟨t, g1, g2⟩ := ab_del_sd hs
  exact lv_iinc C0.1 C0.2.1 hdg hl (ab_plk hk) (show x + Int32.ofInt z = ab_ii (x.toInt + z) by rw [ab_ii, Int32.ofInt_add]; simp) hn rfl (fun ls' hl' => hK _ g1 H locs ls' (ab_stm (v := .inl (ab_ii (x.toInt + z))) rfl g2 hl') hR hS h1 h2)
theorem ws_dup (C0 : ab_Cx p s m meth c n D cT b0 b L xs n0) {v : ab_V} (hv : ab_cat v = 1) (hdg : decode (ab_bt n) pc = .ok (.dup, 1)) (k : ab_WG p l e s m args below meth c n D cT b0 b L xs n0 s0 d E (pc + 1) ls (v :: v :: st) h) : ab_WG p l e s m args below meth c n D cT b0 b L xs n0 s0 d E pc ls (v :: st) h :=
  fun H locs lsA hl hR hS h1 h2 => lv_dup C0.1 C0.2.1 hdg ((ab_pv_cat b0 b v).trans hv) (k H locs lsA hl hR hS h1 h2)
theorem ws_dup2 (C0 : ab_Cx p s m meth c n D cT b0 b L xs n0) {v w : ab_V} (hv : ab_cat v = 1) (hw : ab_cat w = 1) (hdg : decode (ab_bt n) pc = .ok (.dup2, 1)) (k : ab_WG p l e s m args below meth c n D cT b0 b L xs n0 s0 d E (pc + 1) ls (v :: w :: v :: w :: st) h) : ab_WG p l e s m args below meth c n D cT b0 b L xs n0 s0 d E pc ls (v :: w :: st) h :=
  fun H locs lsA hl hR hS h1 h2 => lv_dup2_11 C0.1 C0.2.1 hdg ((ab_pv_cat b0 b v).trans hv) ((ab_pv_cat b0 b w).trans hw) (k H locs lsA hl hR hS h1 h2)
theorem ws_pop (C0 : ab_Cx p s m meth c n D cT b0 b L xs n0) {v : ab_V} (hv : ab_cat v = 1) (hdg : decode (ab_bt n) pc = .ok (.pop, 1)) (k : ab_WG p l e s m args below meth c n D cT b0 b L xs n0 s0 d E (pc + 1) ls st h) : ab_WG p l e s m args below meth c n D cT b0 b L xs n0 s0 d E pc ls (v :: st) h :=
  fun H locs lsA hl hR hS h1 h2 => lv_pop C0.1 C0.2.1 hdg ((ab_pv_cat b0 b v).trans hv) (k H locs lsA hl hR hS h1 h2)
theorem ws_pop2 (C0 : ab_Cx p s m meth c n D cT b0 b L xs n0) {v : ab_V} (hv : ab_cat v = 2) (hdg : decode (ab_bt n) pc = .ok (.pop2, 1)) (k : ab_WG p l e s m args below meth c n D cT b0 b L xs n0 s0 d E (pc + 1) ls st h) : ab_WG p l e s m args below meth c n D cT b0 b L xs n0 s0 d E pc ls (v :: st) h :=
  fun H locs lsA hl hR hS h1 h2 => lv_pop2_2 C0.1 C0.2.1 hdg ((ab_pv_cat b0 b v).trans hv) (k H locs lsA hl hR hS h1 h2)
theorem ws_iadd (C0 : ab_Cx p s m meth c n D cT b0 b L xs n0) {x y : Int32} (hdg : decode (ab_bt n) pc = .ok (.iadd, 1)) (k : ab_WG p l e s m args below meth c n D cT b0 b L xs n0 s0 d E (pc + 1) ls (.inl (ab_ii (x.toInt + y.toInt)) :: st) h) : ab_WG p l e s m args below meth c n D cT b0 b L xs n0 s0 d E pc ls (.inl y :: .inl x :: st) h :=
  fun H locs lsA hl hR hS h1 h2 => lv_iadd C0.1 C0.2.1 hdg (by rw [ab_ii_add]; exact k H locs lsA hl hR hS h1 h2)
theorem ws_isub (C0 : ab_Cx p s m meth c n D cT b0 b L xs n0) {x y : Int32} (hdg : decode (ab_bt n) pc = .ok (.isub, 1)) (k : ab_WG p l e s m args below meth c n D cT b0 b L xs n0 s0 d E (pc + 1) ls (.inl (ab_ii (x.toInt - y.toInt)) :: st) h) : ab_WG p l e s m args below meth c n D cT b0 b L xs n0 s0 d E pc ls (.inl y :: .inl x :: st) h :=
  fun H locs lsA hl hR hS h1 h2 => lv_isub C0.1 C0.2.1 hdg (by rw [ab_ii_sub]; exact k H locs lsA hl hR hS h1 h2)
theorem ws_imul (C0 : ab_Cx p s m meth c n D cT b0 b L xs n0) {x y : Int32} (hdg : decode (ab_bt n) pc = .ok (.imul, 1)) (k : ab_WG p l e s m args below meth c n D cT b0 b L xs n0 s0 d E (pc + 1) ls (.inl (ab_ii (x.toInt * y.toInt)) :: st) h) : ab_WG p l e s m args below meth c n D cT b0 b L xs n0 s0 d E pc ls (.inl y :: .inl x :: st) h :=
  fun H locs lsA hl hR hS h1 h2 => lv_imul C0.1 C0.2.1 hdg (by rw [ab_ii_mul]; exact k H locs lsA hl hR hS h1 h2)
theorem ws_iand (C0 : ab_Cx p s m meth c n D cT b0 b L xs n0) {x y : Int32} (hdg : decode (ab_bt n) pc = .ok (.iand, 1)) (k : ab_WG p l e s m args below meth c n D cT b0 b L xs n0 s0 d E (pc + 1) ls (.inl (x &&& y) :: st) h) : ab_WG p l e s m args below meth c n D cT b0 b L xs n0 s0 d E pc ls (.inl y :: .inl x :: st) h :=
  fun H locs lsA hl hR hS h1 h2 => lv_iand C0.1 C0.2.1 hdg (k H locs lsA hl hR hS h1 h2)
theorem ws_ishr (C0 : ab_Cx p s m meth c n D cT b0 b L xs n0) {x y : Int32} (hdg : decode (ab_bt n) pc = .ok (.ishr, 1)) (k : ab_WG p l e s m args below meth c n D cT b0 b L xs n0 s0 d E (pc + 1) ls (.inl (x >>> (y &&& 31)) :: st) h) : ab_WG p l e s m args below meth c n D cT b0 b L xs n0 s0 d E pc ls (.inl y :: .inl x :: st) h :=
  fun H locs lsA hl hR hS h1 h2 => lv_ishr C0.1 C0.2.1 hdg (k H locs lsA hl hR hS h1 h2)
theorem ws_iushr (C0 : ab_Cx p s m meth c n D cT b0 b L xs n0) {x y : Int32} (hdg : decode (ab_bt n) pc = .ok (.iushr, 1)) (k : ab_WG p l e s m args below meth c n D cT b0 b L xs n0 s0 d E (pc + 1) ls (.inl ((x.toUInt32 >>> (y.toUInt32 &&& Int32.toUInt32 31)).toInt32) :: st) h) : ab_WG p l e s m args below meth c n D cT b0 b L xs n0 s0 d E pc ls (.inl y :: .inl x :: st) h :=
  fun H locs lsA hl hR hS h1 h2 => lv_iushr C0.1 C0.2.1 hdg rfl (k H locs lsA hl hR hS h1 h2)
theorem ws_ineg (C0 : ab_Cx p s m meth c n D cT b0 b L xs n0) {x : Int32} (hdg : decode (ab_bt n) pc = .ok (.ineg, 1)) (k : ab_WG p l e s m args below meth c n D cT b0 b L xs n0 s0 d E (pc + 1) ls (.inl (ab_ii (- x.toInt)) :: st) h) : ab_WG p l e s m args below meth c n D cT b0 b L xs n0 s0 d E pc ls (.inl x :: st) h :=
  fun H locs lsA hl hR hS h1 h2 => lv_ineg C0.1 C0.2.1 hdg (by rw [ab_ii_neg]; exact k H locs lsA hl hR hS h1 h2)
theorem ab_rem {x y : Int32} (hx : 0 ≤ x.toInt) (hy : 0 < y.toInt) : x - x / y * y = ab_ii (x.toInt % y.toInt) := by
  have ex : x = nI x.toInt.toNat := by
    show x = Int32.ofNat _
    rw [← Int32.ofInt_eq_ofNat]
    rw [Int.toNat_of_nonneg hx, Int32.ofInt_toInt]
  have ey : y = nI y.toInt.toNat := by
    show y = Int32.ofNat _
    rw [← Int32.ofInt_eq_ofNat]
    rw [Int.toNat_of_nonneg (by omega), Int32.ofInt_toInt]
  have bx := Int32.toInt_lt x
  have byy := Int32.toInt_lt y
  have h1 := pk_rem (a := x.toInt.toNat) (d := y.toInt.toNat) (by omega) (by omega) (by omega)
  rw [← ex, ← ey] at h1
  rw [h1]
  show Int32.ofNat _ = Int32.ofInt _
  rw [← Int32.ofInt_eq_ofNat]
  congr 1
  rw [Int.natCast_emod, Int.toNat_of_nonneg hx, Int.toNat_of_nonneg (by omega)]
theorem ws_irem (C0 : ab_Cx p s m meth c n D cT b0 b L xs n0) {x y : Int32} (hdg : decode (ab_bt n) pc = .ok (.irem, 1)) (hxy : 0 ≤ x.toInt ∧ 0 < y.toInt) (k : ab_WG p l e s m args below meth c n D cT b0 b L xs n0 s0 d E (pc + 1) ls (.inl (ab_ii (x.toInt % y.toInt)) :: st) h) : ab_WG p l e s m args below meth c n D cT b0 b L xs n0 s0 d E pc ls (.inl y :: .inl x :: st) h :=
  fun H locs lsA hl hR hS h1 h2 => lv_irem C0.1 C0.2.1 hdg (fun h0 => by have := hxy.2; rw [h0] at this; exact absurd this (by decide)) (by rw [ab_rem hxy.1 hxy.2]; exact k H locs lsA hl hR hS h1 h2)
theorem ws_i2l (C0 : ab_Cx p s m meth c n D cT b0 b L xs n0) {x : Int32} (hdg : decode (ab_bt n) pc = .ok (.i2l, 1)) (k : ab_WG p l e s m args below meth c n D cT b0 b L xs n0 s0 d E (pc + 1) ls (.inr (.inl x.toInt64) :: st) h) : ab_WG p l e s m args below meth c n D cT b0 b L xs n0 s0 d E pc ls (.inl x :: st) h :=
  fun H locs lsA hl hR hS h1 h2 => lv_i2l C0.1 C0.2.1 hdg rfl (k H locs lsA hl hR hS h1 h2)
theorem ws_ladd (C0 : ab_Cx p s m meth c n D cT b0 b L xs n0) {x y : Int64} (hdg : decode (ab_bt n) pc = .ok (.ladd, 1)) (k : ab_WG p l e s m args below meth c n D cT b0 b L xs n0 s0 d E (pc + 1) ls (.inr (.inl (x + y)) :: st) h) : ab_WG p l e s m args below meth c n D cT b0 b L xs n0 s0 d E pc ls (.inr (.inl y) :: .inr (.inl x) :: st) h :=
  fun H locs lsA hl hR hS h1 h2 => lv_ladd C0.1 C0.2.1 hdg (k H locs lsA hl hR hS h1 h2)
theorem ws_lcmp (C0 : ab_Cx p s m meth c n D cT b0 b L xs n0) {x y : Int64} (hdg : decode (ab_bt n) pc = .ok (.lcmp, 1)) (k1 : y < x → ab_WG p l e s m args below meth c n D cT b0 b L xs n0 s0 d E (pc + 1) ls (.inl (ab_ii 1) :: st) h) (k2 : x = y → ab_WG p l e s m args below meth c n D cT b0 b L xs n0 s0 d E (pc + 1) ls (.inl (ab_ii 0) :: st) h) (k3 : x < y → ab_WG p l e s m args below meth c n D cT b0 b L xs n0 s0 d E (pc + 1) ls (.inl (ab_ii (-1)) :: st) h) : ab_WG p l e s m args below meth c n D cT b0 b L xs n0 s0 d E pc ls (.inr (.inl y) :: .inr (.inl x) :: st) h := by
  intro H locs lsA hl hR hS h1 h2
  refine W.lcmp C0.1 C0.2.1 hdg ?_
  unfold lg_cmp
  split
  next hg => exact k1 hg H locs lsA hl hR hS h1 h2
  next hg =>
    split
    next he => exact k2 he H locs lsA hl hR hS h1 h2
    next he =>
      have hlt : x < y := by
        rw [Int64.lt_iff_toInt_lt]
        have g1 : ¬ y.toInt < x.toInt := fun hh => hg (Int64.lt_iff_toInt_lt.mpr hh)
        have g2 : x.toInt ≠ y.toInt := fun hh => he (Int64.toInt_inj.mp hh)
        omega
      exact k3 hlt H locs lsA hl hR hS h1 h2
theorem ws_goto (C0 : ab_Cx p s m meth c n D cT b0 b L xs n0) {off : Int} {tgt : Nat} (hdg : decode (ab_bt n) pc = .ok (.goto off, 3)) (ht : (pc : Int) + off = (tgt : Int)) (k : ab_WG p l e s m args below meth c n D cT b0 b L xs n0 s0 d E tgt ls st h) : ab_WG p l e s m args below meth c n D cT b0 b L xs n0 s0 d E pc ls st h :=
  fun H locs lsA hl hR hS h1 h2 => lv_goto C0.1 C0.2.1 hdg ht (k H locs lsA hl hR hS h1 h2)
theorem ab_c0 : (0 : Int32).toInt = 0 := by decide
theorem ws_icmp_eq (C0 : ab_Cx p s m meth c n D cT b0 b L xs n0) {x y : Int32} {off : Int} {tgt : Nat} (hdg : decode (ab_bt n) pc = .ok (.if_icmp .eq off, 3)) (ht : (pc : Int) + off = (tgt : Int)) (kt : x.toInt = y.toInt → ab_WG p l e s m args below meth c n D cT b0 b L xs n0 s0 d E tgt ls st h) (kf : ¬ x.toInt = y.toInt → ab_WG p l e s m args below meth c n D cT b0 b L xs n0 s0 d E (pc + 3) ls st h) : ab_WG p l e s m args below meth c n D cT b0 b L xs n0 s0 d E pc ls (.inl y :: .inl x :: st) h :=
  fun H locs lsA hl hR hS h1 h2 => lv_icmp_eq C0.1 C0.2.1 hdg ht (fun q => kt (Int32.toInt_inj.mpr q) H locs lsA hl hR hS h1 h2) (fun q => kf (fun hh => q (Int32.toInt_inj.mp hh)) H locs lsA hl hR hS h1 h2)
theorem ws_if_eq (C0 : ab_Cx p s m meth c n D cT b0 b L xs n0) {x : Int32} {off : Int} {tgt : Nat} (hdg : decode (ab_bt n) pc = .ok (.ifCond .eq off, 3)) (ht : (pc : Int) + off = (tgt : Int)) (kt : x.toInt = 0 → ab_WG p l e s m args below meth c n D cT b0 b L xs n0 s0 d E tgt ls st h) (kf : ¬ x.toInt = 0 → ab_WG p l e s m args below meth c n D cT b0 b L xs n0 s0 d E (pc + 3) ls st h) : ab_WG p l e s m args below meth c n D cT b0 b L xs n0 s0 d E pc ls (.inl x :: st) h :=
  fun H locs lsA hl hR hS h1 h2 => lv_if_eq C0.1 C0.2.1 hdg ht (fun q => kt (by rw [← ab_c0]; exact Int32.toInt_inj.mpr q) H locs lsA hl hR hS h1 h2) (fun q => kf (by rw [← ab_c0]; exact fun hh => q (Int32.toInt_inj.mp hh)) H locs lsA hl hR hS h1 h2)
theorem ws_icmp_ne (C0 : ab_Cx p s m meth c n D cT b0 b L xs n0) {x y : Int32} {off : Int} {tgt : Nat} (hdg : decode (ab_bt n) pc = .ok (.if_icmp .ne off, 3)) (ht : (pc : Int) + off = (tgt : Int)) (kt : ¬ x.toInt = y.toInt → ab_WG p l e s m args below meth c n D cT b0 b L xs n0 s0 d E tgt ls st h) (kf : x.toInt = y.toInt → ab_WG p l e s m args below meth c n D cT b0 b L xs n0 s0 d E (pc + 3) ls st h) : ab_WG p l e s m args below meth c n D cT b0 b L xs n0 s0 d E pc ls (.inl y :: .inl x :: st) h :=
  fun H locs lsA hl hR hS h1 h2 => lv_icmp_ne C0.1 C0.2.1 hdg ht (fun q => kt (fun hh => q (Int32.toInt_inj.mp hh)) H locs lsA hl hR hS h1 h2) (fun q => kf (Int32.toInt_inj.mpr q) H locs lsA hl hR hS h1 h2)
theorem ws_if_ne (C0 : ab_Cx p s m meth c n D cT b0 b L xs n0) {x : Int32} {off : Int} {tgt : Nat} (hdg : decode (ab_bt n) pc = .ok (.ifCond .ne off, 3)) (ht : (pc : Int) + off = (tgt : Int)) (kt : ¬ x.toInt = 0 → ab_WG p l e s m args below meth c n D cT b0 b L xs n0 s0 d E tgt ls st h) (kf : x.toInt = 0 → ab_WG p l e s m args below meth c n D cT b0 b L xs n0 s0 d E (pc + 3) ls st h) : ab_WG p l e s m args below meth c n D cT b0 b L xs n0 s0 d E pc ls (.inl x :: st) h :=
  fun H locs lsA hl hR hS h1 h2 => lv_if_ne C0.1 C0.2.1 hdg ht (fun q => kt (by rw [← ab_c0]; exact fun hh => q (Int32.toInt_inj.mp hh)) H locs lsA hl hR hS h1 h2) (fun q => kf (by rw [← ab_c0]; exact Int32.toInt_inj.mpr q) H locs lsA hl hR hS h1 h2)
theorem ws_icmp_lt (C0 : ab_Cx p s m meth c n D cT b0 b L xs n0) {x y : Int32} {off : Int} {tgt : Nat} (hdg : decode (ab_bt n) pc = .ok (.if_icmp .lt off, 3)) (ht : (pc : Int) + off = (tgt : Int)) (kt : x.toInt < y.toInt → ab_WG p l e s m args below meth c n D cT b0 b L xs n0 s0 d E tgt ls st h) (kf : y.toInt ≤ x.toInt → ab_WG p l e s m args below meth c n D cT b0 b L xs n0 s0 d E (pc + 3) ls st h) : ab_WG p l e s m args below meth c n D cT b0 b L xs n0 s0 d E pc ls (.inl y :: .inl x :: st) h :=
  fun H locs lsA hl hR hS h1 h2 => lv_icmp_lt C0.1 C0.2.1 hdg ht (fun q => kt (Int32.lt_iff_toInt_lt.mp q) H locs lsA hl hR hS h1 h2) (fun q => kf (Int.not_lt.mp fun hh => q (Int32.lt_iff_toInt_lt.mpr hh)) H locs lsA hl hR hS h1 h2)
theorem ws_if_lt (C0 : ab_Cx p s m meth c n D cT b0 b L xs n0) {x : Int32} {off : Int} {tgt : Nat} (hdg : decode (ab_bt n) pc = .ok (.ifCond .lt off, 3)) (ht : (pc : Int) + off = (tgt : Int)) (kt : x.toInt < 0 → ab_WG p l e s m args below meth c n D cT b0 b L xs n0 s0 d E tgt ls st h) (kf : 0 ≤ x.toInt → ab_WG p l e s m args below meth c n D cT b0 b L xs n0 s0 d E (pc + 3) ls st h) : ab_WG p l e s m args below meth c n D cT b0 b L xs n0 s0 d E pc ls (.inl x :: st) h :=
  fun H locs lsA hl hR hS h1 h2 => lv_if_lt C0.1 C0.2.1 hdg ht (fun q => kt (by rw [← ab_c0]; exact Int32.lt_iff_toInt_lt.mp q) H locs lsA hl hR hS h1 h2) (fun q => kf (by rw [← ab_c0]; exact Int.not_lt.mp fun hh => q (Int32.lt_iff_toInt_lt.mpr hh)) H locs lsA hl hR hS h1 h2)
theorem ws_icmp_ge (C0 : ab_Cx p s m meth c n D cT b0 b L xs n0) {x y : Int32} {off : Int} {tgt : Nat} (hdg : decode (ab_bt n) pc = .ok (.if_icmp .ge off, 3)) (ht : (pc : Int) + off = (tgt : Int)) (kt : y.toInt ≤ x.toInt → ab_WG p l e s m args below meth c n D cT b0 b L xs n0 s0 d E tgt ls st h) (kf : x.toInt < y.toInt → ab_WG p l e s m args below meth c n D cT b0 b L xs n0 s0 d E (pc + 3) ls st h) : ab_WG p l e s m args below meth c n D cT b0 b L xs n0 s0 d E pc ls (.inl y :: .inl x :: st) h :=
  fun H locs lsA hl hR hS h1 h2 => lv_icmp_ge C0.1 C0.2.1 hdg ht (fun q => kt (Int32.le_iff_toInt_le.mp q) H locs lsA hl hR hS h1 h2) (fun q => kf (Int.not_le.mp fun hh => q (Int32.le_iff_toInt_le.mpr hh)) H locs lsA hl hR hS h1 h2)
theorem ws_if_ge (C0 : ab_Cx p s m meth c n D cT b0 b L xs n0) {x : Int32} {off : Int} {tgt : Nat} (hdg : decode (ab_bt n) pc = .ok (.ifCond .ge off, 3)) (ht : (pc : Int) + off = (tgt : Int)) (kt : 0 ≤ x.toInt → ab_WG p l e s m args below meth c n D cT b0 b L xs n0 s0 d E tgt ls st h) (kf : x.toInt < 0 → ab_WG p l e s m args below meth c n D cT b0 b L xs n0 s0 d E (pc + 3) ls st h) : ab_WG p l e s m args below meth c n D cT b0 b L xs n0 s0 d E pc ls (.inl x :: st) h :=
  fun H locs lsA hl hR hS h1 h2 => lv_if_ge C0.1 C0.2.1 hdg ht (fun q => kt (by rw [← ab_c0]; exact Int32.le_iff_toInt_le.mp q) H locs lsA hl hR hS h1 h2) (fun q => kf (by rw [← ab_c0]; exact Int.not_le.mp fun hh => q (Int32.le_iff_toInt_le.mpr hh)) H locs lsA hl hR hS h1 h2)
theorem ws_icmp_gt (C0 : ab_Cx p s m meth c n D cT b0 b L xs n0) {x y : Int32} {off : Int} {tgt : Nat} (hdg : decode (ab_bt n) pc = .ok (.if_icmp .gt off, 3)) (ht : (pc : Int) + off = (tgt : Int)) (kt : y.toInt < x.toInt → ab_WG p l e s m args below meth c n D cT b0 b L xs n0 s0 d E tgt ls st h) (kf : x.toInt ≤ y.toInt → ab_WG p l e s m args below meth c n D cT b0 b L xs n0 s0 d E (pc + 3) ls st h) : ab_WG p l e s m args below meth c n D cT b0 b L xs n0 s0 d E pc ls (.inl y :: .inl x :: st) h :=
  fun H locs lsA hl hR hS h1 h2 => lv_icmp_gt C0.1 C0.2.1 hdg ht (fun q => kt (Int32.lt_iff_toInt_lt.mp q) H locs lsA hl hR hS h1 h2) (fun q => kf (Int.not_lt.mp fun hh => q (Int32.lt_iff_toInt_lt.mpr hh)) H locs lsA hl hR hS h1 h2)
theorem ws_if_gt (C0 : ab_Cx p s m meth c n D cT b0 b L xs n0) {x : Int32} {off : Int} {tgt : Nat} (hdg : decode (ab_bt n) pc = .ok (.ifCond .gt off, 3)) (ht : (pc : Int) + off = (tgt : Int)) (kt : 0 < x.toInt → ab_WG p l e s m args below meth c n D cT b0 b L xs n0 s0 d E tgt ls st h) (kf : x.toInt ≤ 0 → ab_WG p l e s m args below meth c n D cT b0 b L xs n0 s0 d E (pc + 3) ls st h) : ab_WG p l e s m args below meth c n D cT b0 b L xs n0 s0 d E pc ls (.inl x :: st) h :=
  fun H locs lsA hl hR hS h1 h2 => lv_if_gt C0.1 C0.2.1 hdg ht (fun q => kt (by rw [← ab_c0]; exact Int32.lt_iff_toInt_lt.mp q) H locs lsA hl hR hS h1 h2) (fun q => kf (by rw [← ab_c0]; exact Int.not_lt.mp fun hh => q (Int32.lt_iff_toInt_lt.mpr hh)) H locs lsA hl hR hS h1 h2)
theorem ws_icmp_le (C0 : ab_Cx p s m meth c n D cT b0 b L xs n0) {x y : Int32} {off : Int} {tgt : Nat} (hdg : decode (ab_bt n) pc = .ok (.if_icmp .le off, 3)) (ht : (pc : Int) + off = (tgt : Int)) (kt : x.toInt ≤ y.toInt → ab_WG p l e s m args below meth c n D cT b0 b L xs n0 s0 d E tgt ls st h) (kf : y.toInt < x.toInt → ab_WG p l e s m args below meth c n D cT b0 b L xs n0 s0 d E (pc + 3) ls st h) : ab_WG p l e s m args below meth c n D cT b0 b L xs n0 s0 d E pc ls (.inl y :: .inl x :: st) h :=
  fun H locs lsA hl hR hS h1 h2 => lv_icmp_le C0.1 C0.2.1 hdg ht (fun q => kt (Int32.le_iff_toInt_le.mp q) H locs lsA hl hR hS h1 h2) (fun q => kf (Int.not_le.mp fun hh => q (Int32.le_iff_toInt_le.mpr hh)) H locs lsA hl hR hS h1 h2)
theorem ws_if_le (C0 : ab_Cx p s m meth c n D cT b0 b L xs n0) {x : Int32} {off : Int} {tgt : Nat} (hdg : decode (ab_bt n) pc = .ok (.ifCond .le off, 3)) (ht : (pc : Int) + off = (tgt : Int)) (kt : x.toInt ≤ 0 → ab_WG p l e s m args below meth c n D cT b0 b L xs n0 s0 d E tgt ls st h) (kf : 0 < x.toInt → ab_WG p l e s m args below meth c n D cT b0 b L xs n0 s0 d E (pc + 3) ls st h) : ab_WG p l e s m args below meth c n D cT b0 b L xs n0 s0 d E pc ls (.inl x :: st) h :=
  fun H locs lsA hl hR hS h1 h2 => lv_if_le C0.1 C0.2.1 hdg ht (fun q => kt (by rw [← ab_c0]; exact Int32.le_iff_toInt_le.mp q) H locs lsA hl hR hS h1 h2) (fun q => kf (by rw [← ab_c0]; exact Int.not_le.mp fun hh => q (Int32.le_iff_toInt_le.mpr hh)) H locs lsA hl hR hS h1 h2)
theorem ab_rfmap {x y : Option Nat} (hb : b < b0) (hh : x.map (ab_phi b0 b) = y.map (ab_phi b0 b)) : x = y := by
  cases x <;> cases y <;> simp_all
  exact ab_phi_inj hb hh
theorem ws_acmp_eq (C0 : ab_Cx p s m meth c n D cT b0 b L xs n0) {x y : Option Nat} {off : Int} {tgt : Nat} (hdg : decode (ab_bt n) pc = .ok (.if_acmp .eq off, 3)) (ht : (pc : Int) + off = (tgt : Int)) (kt : x = y → ab_WG p l e s m args below meth c n D cT b0 b L xs n0 s0 d E tgt ls st h) (kf : ¬ x = y → ab_WG p l e s m args below meth c n D cT b0 b L xs n0 s0 d E (pc + 3) ls st h) : ab_WG p l e s m args below meth c n D cT b0 b L xs n0 s0 d E pc ls (.inr (.inr y) :: .inr (.inr x) :: st) h :=
  fun H locs lsA hl hR hS h1 h2 => lv_acmp_eq C0.1 C0.2.1 hdg ht (fun q => kt (ab_rfmap C0.2.2.2.2.2.2.2.2.2.1 q) H locs lsA hl hR hS h1 h2) (fun q => kf (fun hh => q (by rw [hh])) H locs lsA hl hR hS h1 h2)
theorem ws_acmp_ne (C0 : ab_Cx p s m meth c n D cT b0 b L xs n0) {x y : Option Nat} {off : Int} {tgt : Nat} (hdg : decode (ab_bt n) pc = .ok (.if_acmp .ne off, 3)) (ht : (pc : Int) + off = (tgt : Int)) (kt : ¬ x = y → ab_WG p l e s m args below meth c n D cT b0 b L xs n0 s0 d E tgt ls st h) (kf : x = y → ab_WG p l e s m args below meth c n D cT b0 b L xs n0 s0 d E (pc + 3) ls st h) : ab_WG p l e s m args below meth c n D cT b0 b L xs n0 s0 d E pc ls (.inr (.inr y) :: .inr (.inr x) :: st) h :=
  fun H locs lsA hl hR hS h1 h2 => lv_acmp_ne C0.1 C0.2.1 hdg ht (fun q => kt (fun hh => q (by rw [hh])) H locs lsA hl hR hS h1 h2) (fun q => kf (ab_rfmap C0.2.2.2.2.2.2.2.2.2.1 q) H locs lsA hl hR hS h1 h2)
theorem ws_ifnull (C0 : ab_Cx p s m meth c n D cT b0 b L xs n0) {o : Option Nat} {off : Int} {tgt : Nat} (hdg : decode (ab_bt n) pc = .ok (.ifnull off, 3)) (ht : (pc : Int) + off = (tgt : Int)) (kt : o = none → ab_WG p l e s m args below meth c n D cT b0 b L xs n0 s0 d E tgt ls st h) (kf : ∀ a, o = some a → ab_WG p l e s m args below meth c n D cT b0 b L xs n0 s0 d E (pc + 3) ls st h) : ab_WG p l e s m args below meth c n D cT b0 b L xs n0 s0 d E pc ls (.inr (.inr o) :: st) h := by
  intro H locs lsA hl hR hS h1 h2
  cases o with
  | none => exact lv_ifnullN C0.1 C0.2.1 hdg ht (kt rfl H locs lsA hl hR hS h1 h2)
  | some a => exact lv_ifnull C0.1 C0.2.1 hdg (kf a rfl H locs lsA hl hR hS h1 h2)
theorem ws_ifnonnull (C0 : ab_Cx p s m meth c n D cT b0 b L xs n0) {o : Option Nat} {off : Int} {tgt : Nat} (hdg : decode (ab_bt n) pc = .ok (.ifnonnull off, 3)) (ht : (pc : Int) + off = (tgt : Int)) (kt : ∀ a, o = some a → ab_WG p l e s m args below meth c n D cT b0 b L xs n0 s0 d E tgt ls st h) (kf : o = none → ab_WG p l e s m args below meth c n D cT b0 b L xs n0 s0 d E (pc + 3) ls st h) : ab_WG p l e s m args below meth c n D cT b0 b L xs n0 s0 d E pc ls (.inr (.inr o) :: st) h := by
  intro H locs lsA hl hR hS h1 h2
  cases o with
  | none => exact lv_ifnonnullN C0.1 C0.2.1 hdg (kf rfl H locs lsA hl hR hS h1 h2)
  | some a => exact lv_ifnonnull C0.1 C0.2.1 hdg ht (kt a rfl H locs lsA hl hR hS h1 h2)
theorem ws_table (C0 : ab_Cx p s m meth c n D cT b0 b L xs n0) {df lo hi : Int} {offs : Array Int} {len a1 : Nat} {x : Int32} {sw : List (Int × Nat)} {X : Nat → Prop} (hdg : decode (ab_bt n) pc = .ok (.tableswitch df lo hi offs, len)) (hd : (pc : Int) + df = (a1 : Int)) (hn : sw.length = offs.size ∧ hi = lo + offs.size - 1)
    (hsw : ∀ i, i < sw.length → ∃ t o, sw[i]? = some (lo + i, t) ∧ offs[i]? = some o ∧ (pc : Int) + o = (t : Int)) (hX : ∀ t, X t → ab_WG p l e s m args below meth c n D cT b0 b L xs n0 s0 d E t ls st h) (k : ab_sw x.toInt X a1 sw) : ab_WG p l e s m args below meth c n D cT b0 b L xs n0 s0 d E pc ls (.inl x :: st) h := by
  intro H locs lsA hl hR hS h1 h2
  obtain ⟨t, g1, ⟨i, g2, -⟩ | ⟨rfl, g2⟩⟩ := ab_sw_sd k
  · have hi0 : i < sw.length := (List.getElem?_eq_some_iff.mp g2).1
    obtain ⟨t', o, q1, q2, q3⟩ := hsw i hi0
    rw [g2] at q1
    have e1 : x.toInt = lo + i := (congrArg Prod.fst (Option.some.inj q1))
    have e2 : t = t' := (congrArg Prod.snd (Option.some.inj q1))
    subst e2
    refine lv_tableIn C0.1 C0.2.1 hdg (by omega) (by rw [hn.2, ← hn.1]; omega) (by rw [e1, show (lo + (i : Int) - lo).toNat = i by omega]; exact q2) q3 (hX t g1 H locs lsA hl hR hS h1 h2)
  · refine lv_tableOut C0.1 C0.2.1 hdg ?_ hd (hX t g1 H locs lsA hl hR hS h1 h2)
    rcases Int.lt_or_le x.toInt lo with q | q
    · exact Or.inl q
    · rcases Int.lt_or_le hi x.toInt with q' | q'
      · exact Or.inr q'
      · exfalso
        obtain ⟨t', o, q1, q2, q3⟩ := hsw (x.toInt - lo).toNat (by rw [hn.1]; have := hn.2; omega)
        exact g2 _ (List.mem_of_getElem? q1) (by show x.toInt = lo + ((x.toInt - lo).toNat : Int); omega)
theorem ab_lkof {pc a1 : Nat} {df : Int} {x : Int} : ∀ (ps : List (Int × Int)) (sw : List (Int × Nat)), ps.length = sw.length → (∀ i, i < ps.length → ∃ k o t, ps[i]? = some (k, o) ∧ sw[i]? = some (k, t) ∧ (pc : Int) + o = (t : Int)) → (pc : Int) + df = (a1 : Int) → ∀ {X : Nat → Prop}, ab_sw x X a1 sw → ∃ t, X t ∧ (pc : Int) + Op.lookupswitch.offset ps df x = (t : Int)
  | [], [], _, _, hd, X, k => ⟨a1, k, hd⟩
  | [], _ :: _, hl, _, _, _, _ => by cases hl
  | _ :: _, [], hl, _, _, _, _ => by cases hl
  | (k0, o0) :: ps, (k1, t1) :: sw, hl, hs, hd, X, k => by
    obtain ⟨kk, o, t, q1, q2, q3⟩ := hs 0 (by simp)
    simp at q1 q2
    obtain ⟨rfl, rfl⟩ := q1
    obtain ⟨rfl, rfl⟩ := q2
    rw [Op.lookupswitch.offset_cons]
    by_cases hx : x = k1
    · rw [if_pos hx.symm]
      exact ⟨t1, k.1 hx, q3⟩
    · rw [if_neg (fun hh => hx hh.symm)]
      exact ab_lkof ps sw (by simpa using hl) (fun i hi => by have := hs (i + 1) (by simpa using hi); simpa using this) hd (k.2 hx)
theorem ws_lookup (C0 : ab_Cx p s m meth c n D cT b0 b L xs n0) {df : Int} {ps : Array (Int × Int)} {len a1 : Nat} {x : Int32} {sw : List (Int × Nat)} {X : Nat → Prop} (hdg : decode (ab_bt n) pc = .ok (.lookupswitch df ps, len)) (hp : (ps.toList.zip (ps.toList.drop 1)).all (fun (a, next) => a.1 < next.1) = true) (hd : (pc : Int) + df = (a1 : Int)) (hn : ps.toList.length = sw.length)
    (hsw : ∀ i, i < ps.toList.length → ∃ k o t, ps.toList[i]? = some (k, o) ∧ sw[i]? = some (k, t) ∧ (pc : Int) + o = (t : Int)) (hX : ∀ t, X t → ab_WG p l e s m args below meth c n D cT b0 b L xs n0 s0 d E t ls st h) (k : ab_sw x.toInt X a1 sw) : ab_WG p l e s m args below meth c n D cT b0 b L xs n0 s0 d E pc ls (.inl x :: st) h := by
  intro H locs lsA hl hR hS h1 h2
  obtain ⟨t, g1, g2⟩ := ab_lkof ps.toList sw hn hsw hd k
  exact lv_lookup C0.1 C0.2.1 hdg hp rfl g2 (hX t g1 H locs lsA hl hR hS h1 h2)
end AB1
