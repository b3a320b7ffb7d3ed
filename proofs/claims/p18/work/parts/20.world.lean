/-! ===== the world: the fixed cells of both objects by rows of numbers, all other cells by g (own text) ===== -/
abbrev wd_I : Type := Nat → Nat → Int32
abbrev wd_P : Type := Nat → Nat → Option Nat
def wd_up {α : Type} (I : Nat → Nat → α) (a j : Nat) (v : α) : Nat → Nat → α := ab_up I a (ab_up (I a) j v)
abbrev wd_v (a : Nat) : ab_V := .inr (.inr (some a))
/-- the reference's one object: 41 fields -/
def wd_ro (i : Nat → Int32) : List ab_V := [.inl (i 0), wd_v 103, wd_v 104, wd_v 105, wd_v 106, wd_v 107, wd_v 108, wd_v 109, .inl (i 8), .inl (i 9), wd_v 110, wd_v 111, wd_v 112, wd_v 113, wd_v 114, wd_v 115, wd_v 116, wd_v 117, wd_v 118, wd_v 119, .inl (i 20), wd_v 120, .inl (i 22), .inl (i 23), .inl (i 24), .inl (i 25), .inl (i 26), .inl (i 27), wd_v 121, wd_v 122, wd_v 123, .inl (i 31), .inl (i 32), .inl (i 33), .inl (i 34), .inl (i 35), .inl (i 36), wd_v 124, .inl (i 38), .inl (i 39), .inl (i 40)]
theorem wd_bt {a b : Nat} (h : a < b) : Nat.blt a b = true := Nat.ble_eq.mpr h
theorem wd_bf {a b : Nat} (h : b ≤ a) : Nat.blt a b = false := by
  cases e : Nat.blt a b with
  | false => rfl
  | true => exact absurd (Nat.le_of_ble_eq_true e) (by omega)
def wd_nth {α : Type} (d : α) : List α → Nat → α
  | [], _ => d
  | c :: _, 0 => c
  | _ :: t, k + 1 => wd_nth d t k
/-- how long the reference's rows are, from 103 on -/
def wd_rl (a : Nat) : Nat := wd_nth 0 [3120, 3120, 3120, 3120, 3120, 37440, 37440, 12, 120, 12, 64, 64, 8, 12, 64, 64, 8, 100, 8, 8, 200, 3120] (a - 103)
def wd_r (a : Nat) (i : Nat → Int32) : ab_C := cond (Nat.beq a 102) (ab_ob 12 (wd_ro i)) (ab_ia (cond (Nat.beq a 124) 1 0) (wd_rl a) i)
/-- the class's fixed cells but for the shelves -/
def wd_f (a : Nat) (i : Nat → Int32) (p : Nat → Option Nat) : ab_C := wd_nth (ab_ob 999 []) [
  ab_ob 11 [wd_v 1, wd_v 3, wd_v 4, wd_v 7, wd_v 8, wd_v 9, wd_v 10, wd_v 11, wd_v 14, wd_v 16, wd_v 17, .inl (i 11)],
  ab_ob 8 [wd_v 2, .inl (i 1), .inl (i 2), .inl (i 3)],
  ab_ia 0 100 i,
  ab_ob 10 [wd_v 1],
  ab_ob 5 [wd_v 1, wd_v 5, wd_v 6],
  ab_ia 0 8 i,
  ab_ia 0 8 i,
  ab_ra 3 12 (fun j => some (18 + 5 * j)),
  ab_ra 2 8 p,
  ab_ob 7 [.inl (i 0)],
  ab_ob 0 [wd_v 9, .inr (.inr (p 1)), .inl (i 2), .inl (i 3), .inr (.inr (p 4)), .inl (i 5), .inl (i 6)],
  ab_ob 2 [wd_v 12, wd_v 13, .inl (i 2)],
  ab_ra 4 200 p,
  ab_ia 0 200 i,
  ab_ob 1 [wd_v 15, .inl (i 1)],
  ab_ia 0 200 i,
  ab_ra 4 12 p,
  ab_ra 2 8 p] a
def wd_s (a : Nat) (i : Nat → Int32) (p : Nat → Option Nat) : ab_C := cond (Nat.beq ((a - 18) % 5) 0) (ab_ob 6 [wd_v (a + 4), .inl (i 1), .inr (.inr (p 2))]) (ab_ra 4 10 p)
def wd_mut (a : Nat) : Bool := cond (Nat.blt a 18) true (cond (Nat.blt a 78) (Nat.beq ((a - 18) % 5) 0 || Nat.beq ((a - 18) % 5) 4) (Nat.ble 102 a && Nat.blt a 125))
def wd_c (a : Nat) (i : Nat → Int32) (p : Nat → Option Nat) (m : Nat → Int32) : ab_C := cond (Nat.blt a 18) (wd_f a i p) (cond (Nat.blt a 78) (wd_s a i p) (wd_r a m))
def wd (I : wd_I) (P : wd_P) (M : wd_I) (g : Nat → ab_C) : Nat → ab_C := fun a => cond (wd_mut a) (wd_c a (I a) (P a) (M a)) (g a)
theorem wd_at {I : wd_I} {P : wd_P} {M : wd_I} {g : Nat → ab_C} {a : Nat} (h : wd_mut a = true) : wd I P M g a = wd_c a (I a) (P a) (M a) := by unfold wd; rw [h]; rfl
theorem wd_g {I : wd_I} {P : wd_P} {M : wd_I} {g : Nat → ab_C} {a : Nat} (h : wd_mut a = false) : wd I P M g a = g a := by unfold wd; rw [h]; rfl
theorem wd_up_self {α : Type} (I : Nat → Nat → α) (a j : Nat) (v : α) : wd_up I a j v a j = v := by unfold wd_up; rw [ab_up_self, ab_up_self]
theorem wd_up_row {α : Type} (I : Nat → Nat → α) {a b : Nat} (j : Nat) (v : α) (h : b ≠ a) : wd_up I a j v b = I b := by unfold wd_up; rw [ab_up_ne _ _ h]
theorem wd_up_ne {α : Type} (I : Nat → Nat → α) {a j b i : Nat} (v : α) (h : b ≠ a ∨ i ≠ j) : wd_up I a j v b i = I b i := by
  by_cases e : b = a
  · subst e
    unfold wd_up
    rw [ab_up_self, ab_up_ne _ _ (h.resolve_left (fun q => q rfl))]
  · rw [wd_up_row _ _ _ e]
theorem wd_up_at {α : Type} (I : Nat → Nat → α) (a j : Nat) (v : α) : wd_up I a j v a = ab_up (I a) j v := by unfold wd_up; rw [ab_up_self]
theorem wd_up_id {α : Type} (I : Nat → Nat → α) {a j : Nat} {v : α} (h : I a j = v) : wd_up I a j v = I := by
  unfold wd_up
  funext b
  by_cases e : b = a
  · subst e
    rw [ab_up_self]
    funext i
    by_cases e : i = j
    · subst e; rw [ab_up_self]; exact h.symm
    · rw [ab_up_ne _ _ e]
  · rw [ab_up_ne _ _ e]
theorem wd_foldI {I : wd_I} {P : wd_P} {M : wd_I} {g : Nat → ab_C} {a j : Nat} {x : Int32} {c : ab_C} (hm : wd_mut a = true) (hc : c = wd_c a (ab_up (I a) j x) (P a) (M a)) : ab_up (wd I P M g) a c = wd (wd_up I a j x) P M g := by
  funext b
  by_cases e : b = a
  · subst e
    rw [ab_up_self, wd_at hm, wd_up_at]
    exact hc
  · rw [ab_up_ne _ _ e]
    unfold wd
    rw [wd_up_row _ _ _ e]
theorem wd_foldP {I : wd_I} {P : wd_P} {M : wd_I} {g : Nat → ab_C} {a j : Nat} {x : Option Nat} {c : ab_C} (hm : wd_mut a = true) (hc : c = wd_c a (I a) (ab_up (P a) j x) (M a)) : ab_up (wd I P M g) a c = wd I (wd_up P a j x) M g := by
  funext b
  by_cases e : b = a
  · subst e
    rw [ab_up_self, wd_at hm, wd_up_at]
    exact hc
  · rw [ab_up_ne _ _ e]
    unfold wd
    rw [wd_up_row _ _ _ e]
theorem wd_foldM {I : wd_I} {P : wd_P} {M : wd_I} {g : Nat → ab_C} {a j : Nat} {x : Int32} {c : ab_C} (hm : wd_mut a = true) (hc : c = wd_c a (I a) (P a) (ab_up (M a) j x)) : ab_up (wd I P M g) a c = wd I P (wd_up M a j x) g := by
  funext b
  by_cases e : b = a
  · subst e
    rw [ab_up_self, wd_at hm, wd_up_at]
    exact hc
  · rw [ab_up_ne _ _ e]
    unfold wd
    rw [wd_up_row _ _ _ e]
theorem wd_foldg {I : wd_I} {P : wd_P} {M : wd_I} {g : Nat → ab_C} {a : Nat} {c : ab_C} (hm : wd_mut a = false) : ab_up (wd I P M g) a c = wd I P M (ab_up g a c) := by
  funext b
  by_cases e : b = a
  · subst e
    rw [ab_up_self, wd_g hm, ab_up_self]
  · rw [ab_up_ne _ _ e]
    unfold wd
    rw [ab_up_ne _ _ e]
theorem ab_ltO {v : Int32} : -2147483648 ≤ v.toInt ∧ v.toInt < 2147483648 := ⟨by have := Int32.le_toInt v; omega, by have := Int32.toInt_lt v; omega⟩
/-- locals may be fewer, or stand in another order -/
theorem ab_WB_sub {d n : Nat} {Q : ab_Q} {pc : Nat} {ls ls' : ab_L} {st : List ab_V} {h : ab_H} (hs : ∀ q ∈ ls', q ∈ ls) (k : ab_WB d n Q pc ls' st h) : ab_WB d n Q pc ls st h := by
  intro p l e s m args below meth c D cT b0 b L xs n0 s0 hd C0 H locs lsA hl hR hS h3 h4
  refine k p l e s m args below meth c D cT b0 b L xs n0 s0 hd C0 H locs lsA (ab_lvmono hl ?_) hR hS h3 h4
  intro q hq
  obtain ⟨q', h5, rfl⟩ := List.mem_map.mp hq
  exact List.mem_map.mpr ⟨q', hs q' h5, rfl⟩
theorem ab_sub0 {ls : ab_L} : ∀ q ∈ ([] : ab_L), q ∈ ls := fun q h => by cases h
theorem ab_sub1 {ls t : ab_L} {q : Nat × ab_V} (h : q ∈ ls) (ht : ∀ r ∈ t, r ∈ ls) : ∀ r ∈ q :: t, r ∈ ls := fun r hr => by
  rcases List.mem_cons.mp hr with rfl | hr
  · exact h
  · exact ht r hr
theorem ab_skip {k k' : Nat} {v v' : ab_V} {t : ab_L} (h : Nat.beq k' k = false) (m : (k, v) ∈ t) : (k, v) ∈ (k', v') :: t := List.mem_cons_of_mem _ m
/-! moves over the reference's cells -/
theorem w_putM {I : wd_I} {P : wd_P} {M : wd_I} {g : Nat → ab_C} {k z j t : Nat} {x : Int32} {K : ab_H → Prop} (hj : Nat.blt j 41 = true) (ht : ab_fit t (.inl x)) (hc : ab_ob 12 ((wd_ro (M 102)).set j (.inl x)) = ab_ob 12 (wd_ro (ab_up (M 102) j x))) (hK : K (wd I P (wd_up M 102 j x) g, k, z)) : ∃ fs, (wd I P M g, k, z).1 102 = ab_ob 12 fs ∧ j < fs.length ∧ ab_fit t (.inl x) ∧ ∀ h', h' = ab_set (wd I P M g, k, z) 102 (ab_ob 12 (fs.set j (.inl x))) → K h' := by
  refine ⟨_, rfl, Nat.le_of_ble_eq_true hj, ht, fun h' hh => ?_⟩
  have e : h' = (wd I P (wd_up M 102 j x) g, k, z) := by
    rw [hh]
    show (ab_up (wd I P M g) 102 _, k, z) = _
    rw [wd_foldM (a := 102) (j := j) (x := x) rfl hc]
  rw [e]
  exact hK
theorem wd_rAt {I : wd_I} {P : wd_P} {M : wd_I} {g : Nat → ab_C} {a : Nat} (ha : (Nat.ble 103 a && Nat.ble a 123) = true) : wd I P M g a = ab_ia 0 (wd_rl a) (M a) ∧ wd_mut a = true := by
  rw [Bool.and_eq_true] at ha
  have h1 := Nat.le_of_ble_eq_true ha.1
  have h2 := Nat.le_of_ble_eq_true ha.2
  have hm : wd_mut a = true := by
    unfold wd_mut
    rw [wd_bf (by omega), wd_bf (by omega), wd_bt (by omega), Nat.ble_eq.mpr (show 102 ≤ a by omega)]
    rfl
  refine ⟨?_, hm⟩
  rw [wd_at hm]
  unfold wd_c wd_r
  rw [wd_bf (by omega), wd_bf (by omega)]
  have e1 : Nat.beq a 102 = false := by cases e : Nat.beq a 102 with
    | false => rfl
    | true => exact absurd (Nat.eq_of_beq_eq_true e) (by omega)
  have e2 : Nat.beq a 124 = false := by cases e : Nat.beq a 124 with
    | false => rfl
    | true => exact absurd (Nat.eq_of_beq_eq_true e) (by omega)
  rw [e1, e2]
  rfl
theorem w_ialM {I : wd_I} {P : wd_P} {M : wd_I} {g : Nat → ab_C} {k z : Nat} {a : Nat} {i : Int32} {K : Int32 → Prop} (ha : (Nat.ble 103 a && Nat.ble a 123) = true) (hi : 0 ≤ i.toInt ∧ i.toInt < (wd_rl a : Int)) (hK : ∀ v, v = M a i.toInt.toNat → K v) : ∃ t n f, (wd I P M g, k, z).1 a = ab_ia t n f ∧ (t = 0 ∨ t = 9) ∧ (0 ≤ i.toInt ∧ i.toInt < n) ∧ ∀ v, v = f i.toInt.toNat → K v :=
  ⟨0, _, _, (wd_rAt ha).1, Or.inl rfl, hi, hK⟩
theorem w_iasM {I : wd_I} {P : wd_P} {M : wd_I} {g : Nat → ab_C} {k z a : Nat} {i x : Int32} {K : ab_H → Prop} (ha : (Nat.ble 103 a && Nat.ble a 123) = true) (hi : 0 ≤ i.toInt ∧ i.toInt < (wd_rl a : Int)) (hK : ∀ e, e = i.toInt.toNat → K (wd I P (wd_up M a e x) g, k, z)) : ∃ n f, (wd I P M g, k, z).1 a = ab_ia 0 n f ∧ (0 ≤ i.toInt ∧ i.toInt < n) ∧ ∀ h', h' = ab_set (wd I P M g, k, z) a (ab_ia 0 n (ab_up f i.toInt.toNat x)) → K h' := by
  obtain ⟨h1, h2⟩ := wd_rAt (I := I) (P := P) (M := M) (g := g) ha
  refine ⟨_, _, h1, hi, fun h' hh => ?_⟩
  have e : h' = (wd I P (wd_up M a i.toInt.toNat x) g, k, z) := by
    rw [hh]
    show (ab_up (wd I P M g) a _, k, z) = _
    rw [wd_foldM (a := a) (j := i.toInt.toNat) (x := x) h2]
    have := (wd_rAt (I := I) (P := P) (M := wd_up M a i.toInt.toNat x) (g := g) ha).1
    rw [wd_at h2, wd_up_at] at this
    exact this.symm
  rw [e]
  exact hK _ rfl
theorem w_balM {I : wd_I} {P : wd_P} {M : wd_I} {g : Nat → ab_C} {k z : Nat} {i : Int32} {K : Int32 → Prop} (hi : 0 ≤ i.toInt ∧ i.toInt < (3120 : Int)) (hK : ∀ v, v = M 124 i.toInt.toNat → K v) : ∃ n f, (wd I P M g, k, z).1 124 = ab_ia 1 n f ∧ (0 ≤ i.toInt ∧ i.toInt < n) ∧ ∀ v, v = f i.toInt.toNat → K v :=
  ⟨_, _, rfl, hi, hK⟩
theorem w_basM {I : wd_I} {P : wd_P} {M : wd_I} {g : Nat → ab_C} {k z : Nat} {i x : Int32} {K : ab_H → Prop} (hi : 0 ≤ i.toInt ∧ i.toInt < (3120 : Int)) (hx : x.toInt = 0 ∨ x.toInt = 1) (hK : ∀ e, e = i.toInt.toNat → K (wd I P (wd_up M 124 e x) g, k, z)) : ∃ n f, (wd I P M g, k, z).1 124 = ab_ia 1 n f ∧ (0 ≤ i.toInt ∧ i.toInt < n) ∧ (x.toInt = 0 ∨ x.toInt = 1) ∧ ∀ h', h' = ab_set (wd I P M g, k, z) 124 (ab_ia 1 n (ab_up f i.toInt.toNat x)) → K h' := by
  refine ⟨_, _, rfl, hi, hx, fun h' hh => ?_⟩
  have e : h' = (wd I P (wd_up M 124 i.toInt.toNat x) g, k, z) := by
    rw [hh]
    exact congrArg (fun f => (f, k, z)) (wd_foldM (a := 124) (j := i.toInt.toNat) (x := x) rfl rfl)
  rw [e]
  exact hK _ rfl
theorem wd_up_eq {α : Type} (I : Nat → Nat → α) {a j i : Nat} (v : α) (h : i = j) : wd_up I a j v a i = v := by subst h; exact wd_up_self _ _ _ _
/-- a method from its entry, what it calls and where it jumps left open -/
theorem wd_inC {d n : Nat} {Q : ab_Q} {args : List ab_V} {h : ab_H} (hn : Nat.blt n 201 = true) (hd : 1 ≤ d) (hlen : Nat.ble (ab_cats args) (ab_ml n) = true) (hgo : ∀ (C : ab_F) (X : ab_J), (∀ y args h Q, ab_CT (d - 1) y args h Q → C y args h Q) → (∀ pc ls st h, ab_WB d n Q pc ls st h → X pc ls st h) → ab_loc 0 args (fun lx => ab_go C Q X (ab_from 0 (ab_kd n)) lx [] h)) : ab_CT d n args h Q := by
  obtain ⟨d, rfl⟩ : ∃ d', d = d' + 1 := ⟨d - 1, by omega⟩
  exact ab_inl hn hlen (hgo _ _ (fun _ _ _ _ h => h) (fun _ _ _ _ h => h))
theorem wd_rnC {d n : Nat} {Q : ab_Q} {pc : Nat} {ls : ab_L} {st : List ab_V} {h : ab_H} (hn : Nat.blt n 201 = true) (hgo : ∀ (C : ab_F) (X : ab_J), (∀ y args h Q, ab_CT (d - 1) y args h Q → C y args h Q) → (∀ pc ls st h, ab_WB d n Q pc ls st h → X pc ls st h) → ab_go C Q X (ab_from pc (ab_kd n)) ls st h) (hd : 1 ≤ d := by omega) : ab_WB d n Q pc ls st h := by
  obtain ⟨d, rfl⟩ : ∃ d', d = d' + 1 := ⟨d - 1, by omega⟩
  exact ab_rn hn (hgo _ _ (fun _ _ _ _ h => h) (fun _ _ _ _ h => h))
theorem wd_ix12 {x : Int} {j : Nat} (h : 0 ≤ x) : (12 * x + (j : Int)).toNat = 12 * x.toNat + j := by omega
theorem wd_ix8 {x : Int} {j : Nat} (h : 0 ≤ x) : (8 * x + (j : Int)).toNat = 8 * x.toNat + j := by omega
theorem wd_ix10 {x : Int} {j : Nat} (h : 0 ≤ x) : (10 * x + (j : Int)).toNat = 10 * x.toNat + j := by omega
theorem wd_l103 : wd_rl 103 = 3120 := rfl
theorem wd_l104 : wd_rl 104 = 3120 := rfl
theorem wd_l105 : wd_rl 105 = 3120 := rfl
theorem wd_l106 : wd_rl 106 = 3120 := rfl
theorem wd_l107 : wd_rl 107 = 3120 := rfl
theorem wd_l108 : wd_rl 108 = 37440 := rfl
theorem wd_l109 : wd_rl 109 = 37440 := rfl
theorem wd_l110 : wd_rl 110 = 12 := rfl
theorem wd_l111 : wd_rl 111 = 120 := rfl
theorem wd_l112 : wd_rl 112 = 12 := rfl
theorem wd_l113 : wd_rl 113 = 64 := rfl
theorem wd_l114 : wd_rl 114 = 64 := rfl
theorem wd_l115 : wd_rl 115 = 8 := rfl
theorem wd_l116 : wd_rl 116 = 12 := rfl
theorem wd_l117 : wd_rl 117 = 64 := rfl
theorem wd_l118 : wd_rl 118 = 64 := rfl
theorem wd_l119 : wd_rl 119 = 8 := rfl
theorem wd_l120 : wd_rl 120 = 100 := rfl
theorem wd_l121 : wd_rl 121 = 8 := rfl
theorem wd_l122 : wd_rl 122 = 8 := rfl
theorem wd_l123 : wd_rl 123 = 200 := rfl
theorem wd_l124 : wd_rl 124 = 3120 := rfl
