/-! ===== the first two objects' cells, one for the other: a call goes alike (own text) ===== -/
def sw_a (a : Nat) : Nat := if a < 102 then a + 102 else if a < 204 then a - 102 else a
theorem sw_sw (a : Nat) : sw_a (sw_a a) = a := by
  unfold sw_a
  split
  · rw [if_neg (by omega), if_pos (by omega)]; omega
  · split
    · rw [if_pos (by omega)]; omega
    · rfl
theorem sw_hi {a : Nat} (h : 204 ≤ a) : sw_a a = a := by
  unfold sw_a
  rw [if_neg (by omega), if_neg (by omega)]
theorem sw_lt {a k : Nat} (h : a < k) (hk : 204 ≤ k) : sw_a a < k := by
  unfold sw_a
  split
  · omega
  · split <;> omega
def sw_v : ab_V → ab_V
  | .inl x => .inl x
  | .inr (.inl x) => .inr (.inl x)
  | .inr (.inr o) => .inr (.inr (o.map sw_a))
def sw_c : ab_C → ab_C
  | .inl x => .inl x
  | .inr (.inl (t, n, f)) => .inr (.inl (t, n, fun j => (f j).map sw_a))
  | .inr (.inr (c, fs)) => .inr (.inr (c, fs.map sw_v))
def sw_h (h : ab_H) : ab_H := (fun a => sw_c (h.1 (sw_a a)), h.2)
theorem sw_oo (o : Option Nat) : (o.map sw_a).map sw_a = o := by
  cases o with
  | none => rfl
  | some a => exact congrArg some (sw_sw a)
theorem sw_vv (v : ab_V) : sw_v (sw_v v) = v := by
  match v with
  | .inl x => rfl
  | .inr (.inl x) => rfl
  | .inr (.inr o) => exact congrArg (fun o => (.inr (.inr o) : ab_V)) (sw_oo o)
theorem sw_cc (c : ab_C) : sw_c (sw_c c) = c := by
  match c with
  | .inl x => rfl
  | .inr (.inl (t, n, f)) => exact congrArg (fun f => (.inr (.inl (t, n, f)) : ab_C)) (funext fun j => sw_oo (f j))
  | .inr (.inr (c, fs)) =>
    show ab_ob c ((fs.map sw_v).map sw_v) = ab_ob c fs
    rw [List.map_map, show sw_v ∘ sw_v = id from funext sw_vv, List.map_id]
theorem sw_hh (h : ab_H) : sw_h (sw_h h) = h := by
  obtain ⟨f, k, z⟩ := h
  show ((fun a => sw_c (sw_c (f (sw_a (sw_a a))))), k, z) = (f, k, z)
  congr 1
  funext a
  rw [sw_cc, sw_sw]
abbrev sw_b (b : Nat → Nat) : Nat → Nat := fun a => b (sw_a a)
abbrev sw_S (S : ab_Sp) : ab_Sp := fun a => sw_c (S a)
theorem sw_bb (b : Nat → Nat) : sw_b (sw_b b) = b := funext fun a => congrArg b (sw_sw a)
theorem sw_SS (S : ab_Sp) : sw_S (sw_S S) = S := funext fun a => sw_cc (S a)
section
variable {D : va_G} {cT : Nat → ClassId} {b0 : Nat} {b : Nat → Nat} {S : ab_Sp} {h : ab_H} {H : Heap}
theorem sw_pv (v : ab_V) : ab_pv b0 (sw_b b) (sw_v v) = ab_pv b0 b v := by
  match v with
  | .inl x => rfl
  | .inr (.inl x) => rfl
  | .inr (.inr none) => rfl
  | .inr (.inr (some a)) =>
    show Value.ref (b (sw_a (sw_a a))) = .ref (b a)
    rw [sw_sw]
theorem sw_ce (c : ab_C) : ab_ce b0 (sw_b b) cT (sw_c c) = ab_ce b0 b cT c := by
  match c with
  | .inl (t, n, f) => rfl
  | .inr (.inl (t, n, f)) =>
    show (Sum.inl (cT t, n, .inr (.inr (.inr (.inr (fun j => ((f j).map sw_a).map (ab_phi b0 (sw_b b))))))) : va_E) = .inl (cT t, n, .inr (.inr (.inr (.inr (fun j => (f j).map (ab_phi b0 b))))))
    refine congrArg (fun f => (Sum.inl (cT t, n, .inr (.inr (.inr (.inr f)))) : va_E)) ?_
    funext j
    cases f j with
    | none => rfl
    | some a => exact congrArg some (show b (sw_a (sw_a a)) = b a by rw [sw_sw])
  | .inr (.inr (c, fs)) =>
    show (Sum.inr (c, (fs.map sw_v).map (ab_pv b0 (sw_b b))) : va_E) = .inr (c, fs.map (ab_pv b0 b))
    rw [List.map_map]
    congr 2
    exact List.map_congr_left fun v _ => sw_pv v
theorem sw_scr {a : Nat} (h : ab_scr ≤ a) : sw_a a = a := by
  have h9 : 204 ≤ ab_scr := by decide
  exact sw_hi (by omega)
theorem sw_bm {k : Nat} (h : ab_bm b0 b k) (hk : 204 ≤ k) : ab_bm b0 (sw_b b) k := by
  refine ⟨fun a h1 h2 => ?_, fun a h1 => h.2.1 _ (sw_lt h1 hk), fun a a' he => ?_⟩
  · show b (sw_a a) = _
    rw [sw_hi (by omega)]
    exact h.1 a h1 h2
  · have h1 := h.2.2 _ _ he
    rw [← sw_sw a, h1, sw_sw]
theorem sw_vt {c : ab_C} (h : ab_vt c) : ab_vt (sw_c c) := by
  match c, h with
  | .inl (t, n, f), h => exact h
  | .inr (.inl (t, n, f)), h => exact h
  | .inr (.inr (c, fs)), h => trivial
theorem sw_Rl (hR : ab_Rl D cT b0 b S h H) (hk : 204 ≤ h.2.1) : ab_Rl D cT b0 (sw_b b) (sw_S S) (sw_h h) H := by
  obtain ⟨r1, r2, r3, r4, r5, r6, r7, r8⟩ := hR
  refine ⟨r1, r2, r3, fun a ha => ?_, fun a h1 h2 => ?_, fun a h1 => sw_vt (r6 _ (sw_lt h1 hk)), fun k q hq => ?_, sw_bm r8 hk⟩
  · show sw_c (h.1 (sw_a a)) = sw_c (S a)
    rw [sw_scr ha, r4 a ha]
  · have h1' : h.2.1 ≤ a := h1
    show sw_c (h.1 (sw_a a)) = ab_ob 999 []
    rw [sw_hi (by omega), r5 a h1' h2]
    rfl
  · obtain ⟨hl, rfl⟩ := ab_ws_of hq
    show va_at D ab_cl (b (sw_a k), ab_ce b0 (sw_b b) cT (sw_c (h.1 (sw_a k)))) H
    rw [sw_ce]
    exact r7 _ _ (ab_ws_at (sw_lt hl hk))
theorem sw_Sc {a : Nat} {U : State} {c : ab_C} (ha : ab_scr ≤ a) (hc : ab_Sc b0 b a U H c) : ab_Sc b0 (sw_b b) a U H (sw_c c) := by
  have e : sw_b b a = b a := congrArg b (sw_scr ha)
  rcases c with ⟨t, k, f⟩ | ⟨t, k, f⟩ | ⟨c9, fs⟩
  · rcases hc with hc | ⟨h1, h2⟩
    · exact Or.inl hc
    · exact Or.inr ⟨h1, by rw [e]; exact h2⟩
  · exact hc.elim
  · rcases hc with hc | hc | ⟨h1, v, h2, h3, h4, h5⟩
    · exact Or.inl hc
    · exact Or.inr (Or.inl hc)
    · subst h2
      refine Or.inr (Or.inr ⟨h1, sw_a v, rfl, by rw [e]; exact h3, by rw [e]; exact h4, ?_⟩)
      show va_OF _ _ _ (.ref (b (sw_a (sw_a v)))) (sw_b b a) _ _ _
      rw [e, sw_sw]
      exact h5
theorem sw_ZS {U : State} (hZ : ab_ZS b0 b S U H) : ab_ZS b0 (sw_b b) (sw_S S) U H := by
  obtain ⟨⟨L, xs, z1, z2, z3⟩, h2, h3, h4⟩ := hZ
  have e : sw_b b ab_scr = b ab_scr := congrArg b (sw_scr (Nat.le_refl _))
  refine ⟨⟨L, xs, by show sw_c (S ab_scr) = _; rw [z1]; rfl, by rw [e]; exact z2, by rw [e]; exact z3⟩, fun a ha => sw_Sc ha (h2 a ha), fun i k tx hi => ?_, fun i C nn dd hi => ?_⟩
  · obtain ⟨a, e1, e2⟩ := h3 i k tx hi
    refine ⟨sw_a a, by show sw_c (S _) = _; rw [e1]; rfl, ?_⟩
    show vk_R _ _ _ (b (sw_a (sw_a a))) _
    rw [sw_sw]
    exact e2
  · obtain ⟨v, e1, e2⟩ := h4 i C nn dd hi
    exact ⟨sw_v v, by show sw_c (S _) = _; rw [e1]; rfl, by rw [sw_pv]; exact e2⟩
end
theorem sw_av {b0 : Nat} {b : Nat → Nat} (args : List ab_V) : (args.map sw_v).map (ab_pv b0 (sw_b b)) = args.map (ab_pv b0 b) := by
  rw [List.map_map]
  exact List.map_congr_left fun v _ => sw_pv v
/-- a call over a heap is a call over the heap with the two objects' cells changed one for the other -/
theorem sw_CT {d n : Nat} {args : List ab_V} {h : ab_H} {Q : ab_Q} (hk : 204 ≤ h.2.1) (hM : ab_CT d n args h Q) : ab_CT d n (args.map sw_v) (sw_h h) (fun r h' => ∃ r0 h0, r = r0.map sw_v ∧ h' = sw_h h0 ∧ Q r0 h0) := by
  intro hd l D cT b0 b S p e h1 h2 h3 s m av below hf happ hP hk2
  obtain ⟨p1, p2, p3, p4⟩ := hP
  have p1' : av = (args.map (ab_pv b0 (sw_b b))).toArray := by
    rw [p1, ← sw_av (b := sw_b b), sw_bb]
  have p3' := sw_Rl p3 hk
  rw [sw_hh] at p3'
  obtain ⟨k, o, g1, g2, g3, mc, ms, Lc, g4, g5, r, h', g6, g7, g8, g9, g10, g11⟩ := hM hd l D cT b0 (sw_b b) (sw_S S) p e h1 h2 h3 s m av below hf happ ⟨p1', p2, p3', sw_ZS p4⟩ hk2
  have g7' := sw_Rl g7 (by rw [g8]; exact Nat.le_trans hk (Nat.le_add_right _ _))
  rw [sw_bb, sw_SS] at g7'
  refine ⟨k, o, g1, g2, g3, mc, ms, Lc, g4, g5, r.map sw_v, sw_h h', ?_, g7', g8, g9, ⟨r, h', rfl, rfl, g10⟩, g11⟩
  rw [g6]
  cases r with
  | none => rfl
  | some v =>
    show Outcome.returned (some (ab_pv b0 (sw_b b) v)) = .returned (some (ab_pv b0 b (sw_v v)))
    rw [← sw_pv (b := sw_b b), sw_bb]
theorem sw_pl {b0 : Nat} {b : Nat → Nat} (ls : ab_L) : ab_pl b0 (sw_b b) (ls.map fun q => (q.1, sw_v q.2)) = ab_pl b0 b ls := by
  show (ls.map _).map _ = ls.map _
  rw [List.map_map]
  exact List.map_congr_left fun q _ => congrArg (fun v => (q.1, v)) (sw_pv q.2)
/-- a walk over a heap is a walk over the heap with the two objects' cells changed one for the other -/
theorem sw_WB {d n : Nat} {Q : ab_Q} {pc : Nat} {ls : ab_L} {st : List ab_V} {h : ab_H} (hk : 204 ≤ h.2.1) (k : ab_WB d n (fun r h' => 204 ≤ h'.2.1 ∧ Q (r.map sw_v) (sw_h h')) pc (ls.map fun q => (q.1, sw_v q.2)) (st.map sw_v) (sw_h h)) : ab_WB d n Q pc ls st h := by
  intro p l e s m args below meth c D cT b0 b S n0 s0 hd C0 H locs lsA hl hR hS h3 h4
  obtain ⟨c1, c2, c3, c4, c5, c6, c7, c8, c9, c10⟩ := C0
  have K := k p l e s m args below meth c D cT b0 (sw_b b) (sw_S S) n0 s0 hd ⟨c1, c2, c3, c4, c5, c6, c7, c8, c9, sw_ZS c10⟩ H locs lsA (by rw [sw_pl]; exact hl) (sw_Rl hR hk) hS h3 h4
  rw [sw_av] at K
  refine ab_mono K ?_
  rintro t ⟨mc, ms, o, g1, g2, ⟨r, h', g3, g4, g5, g6, ⟨g7, g8⟩, g9⟩, Lc, g10, g11⟩
  have g4' := sw_Rl g4 g7
  rw [sw_bb, sw_SS] at g4'
  refine ⟨mc, ms, o, g1, g2, ⟨r.map sw_v, sw_h h', ?_, g4', g5, g6, g8, g9⟩, Lc, g10, g11⟩
  rw [g3]
  cases r with
  | none => rfl
  | some v =>
    show Outcome.returned (some (ab_pv b0 (sw_b b) v)) = .returned (some (ab_pv b0 b (sw_v v)))
    rw [← sw_pv (b := sw_b b), sw_bb]
