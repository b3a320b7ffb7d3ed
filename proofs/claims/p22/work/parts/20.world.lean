/-! ===== the world: the fixed cells of both objects by rows of numbers, all other cells by g (own text) ===== -/
abbrev wd_I : Type := Nat → Nat → Int32
abbrev wd_P : Type := Nat → Nat → Option Nat
def wd_up {α : Type} (I : Nat → Nat → α) (a j : Nat) (v : α) : Nat → Nat → α := ab_up I a (ab_up (I a) j v)
abbrev wd_v (a : Nat) : ab_V := .inr (.inr (some a))
theorem wd_bt {a b : Nat} (h : a < b) : Nat.blt a b = true := Nat.ble_eq.mpr h
theorem wd_bf {a b : Nat} (h : b ≤ a) : Nat.blt a b = false := by
  cases e : Nat.blt a b with
  | false => rfl
  | true => exact absurd (Nat.le_of_ble_eq_true e) (by omega)
def wd_nth {α : Type} (d : α) : List α → Nat → α
  | [], _ => d
  | c :: _, 0 => c
  | _ :: t, k + 1 => wd_nth d t k
/-- the class's fixed cells but for the shelves -/
def wd_f (a : Nat) (i : Nat → Int32) (p : Nat → Option Nat) : ab_C := wd_nth (ab_ob 999 []) [
  ab_ob 11 [wd_v 1, wd_v 3, wd_v 4, wd_v 7, wd_v 8, wd_v 9, wd_v 10, wd_v 11, wd_v 14, wd_v 16, wd_v 17, .inl (i 11)],
  ab_ob 8 [wd_v 2, .inl (i 1), .inl (i 2), .inl (i 3)],
  ab_ia 0 100 i,
  ab_ob 10 [wd_v 1],
  ab_ob 5 [wd_v 1, wd_v 5, wd_v 6],
  ab_ia 0 8 i,
  ab_ia 0 8 i,
  ab_ra 3 12 (fun j => some (18 + 5 * j)),
  ab_ra 2 8 p,
  ab_ob 7 [.inl (i 0)],
  ab_ob 0 [wd_v 9, .inr (.inr (p 1)), .inl (i 2), .inl (i 3), .inr (.inr (p 4)), .inl (i 5), .inl (i 6)],
  ab_ob 2 [wd_v 12, wd_v 13, .inl (i 2)],
  ab_ra 4 200 p,
  ab_ia 0 200 i,
  ab_ob 1 [wd_v 15, .inl (i 1)],
  ab_ia 0 200 i,
  ab_ra 4 12 p,
  ab_ra 2 8 p] a
def wd_s (a : Nat) (i : Nat → Int32) (p : Nat → Option Nat) : ab_C := cond (Nat.beq ((a - 18) % 5) 0) (ab_ob 6 [wd_v (a + 4), .inl (i 1), .inr (.inr (p 2))]) (ab_ra 4 10 p)
def wd_mut (a : Nat) : Bool := cond (Nat.blt a 18) true (cond (Nat.blt a 78) (Nat.beq ((a - 18) % 5) 0 || Nat.beq ((a - 18) % 5) 4) false)
def wd_c (a : Nat) (i : Nat → Int32) (p : Nat → Option Nat) (_m : Nat → Int32) : ab_C := cond (Nat.blt a 18) (wd_f a i p) (wd_s a i p)
def wd (I : wd_I) (P : wd_P) (M : wd_I) (g : Nat → ab_C) : Nat → ab_C := fun a => cond (wd_mut a) (wd_c a (I a) (P a) (M a)) (g a)
theorem wd_at {I : wd_I} {P : wd_P} {M : wd_I} {g : Nat → ab_C} {a : Nat} (h : wd_mut a = true) : wd I P M g a = wd_c a (I a) (P a) (M a) := by unfold wd; rw [h]; rfl
theorem wd_g {I : wd_I} {P : wd_P} {M : wd_I} {g : Nat → ab_C} {a : Nat} (h : wd_mut a = false) : wd I P M g a = g a := by unfold wd; rw [h]; rfl
theorem wd_up_self {α : Type} (I : Nat → Nat → α) (a j : Nat) (v : α) : wd_up I a j v a j = v := by unfold wd_up; rw [ab_up_self, ab_up_self]
theorem wd_up_row {α : Type} (I : Nat → Nat → α) {a b : Nat} (j : Nat) (v : α) (h : b ≠ a) : wd_up I a j v b = I b := by unfold wd_up; rw [ab_up_ne _ _ h]
theorem wd_up_ne {α : Type} (I : Nat → Nat → α) {a j b i : Nat} (v : α) (h : b ≠ a ∨ i ≠ j) : wd_up I a j v b i = I b i := by
  by_cases e : b = a
  · subst e
    unfold wd_up
    rw [ab_up_self, ab_up_ne _ _ (h.resolve_left (fun q => q rfl))]
  · rw [wd_up_row _ _ _ e]
theorem wd_up_at {α : Type} (I : Nat → Nat → α) (a j : Nat) (v : α) : wd_up I a j v a = ab_up (I a) j v := by unfold wd_up; rw [ab_up_self]
theorem wd_up_id {α : Type} (I : Nat → Nat → α) {a j : Nat} {v : α} (h : I a j = v) : wd_up I a j v = I := by
  unfold wd_up
  funext b
  by_cases e : b = a
  · subst e
    rw [ab_up_self]
    funext i
    by_cases e : i = j
    · subst e; rw [ab_up_self]; exact h.symm
    · rw [ab_up_ne _ _ e]
  · rw [ab_up_ne _ _ e]
theorem wd_foldI {I : wd_I} {P : wd_P} {M : wd_I} {g : Nat → ab_C} {a j : Nat} {x : Int32} {c : ab_C} (hm : wd_mut a = true) (hc : c = wd_c a (ab_up (I a) j x) (P a) (M a)) : ab_up (wd I P M g) a c = wd (wd_up I a j x) P M g := by
  funext b
  by_cases e : b = a
  · subst e
    rw [ab_up_self, wd_at hm, wd_up_at]
    exact hc
  · rw [ab_up_ne _ _ e]
    unfold wd
    rw [wd_up_row _ _ _ e]
theorem wd_foldP {I : wd_I} {P : wd_P} {M : wd_I} {g : Nat → ab_C} {a j : Nat} {x : Option Nat} {c : ab_C} (hm : wd_mut a = true) (hc : c = wd_c a (I a) (ab_up (P a) j x) (M a)) : ab_up (wd I P M g) a c = wd I (wd_up P a j x) M g := by
  funext b
  by_cases e : b = a
  · subst e
    rw [ab_up_self, wd_at hm, wd_up_at]
    exact hc
  · rw [ab_up_ne _ _ e]
    unfold wd
    rw [wd_up_row _ _ _ e]
theorem wd_foldM {I : wd_I} {P : wd_P} {M : wd_I} {g : Nat → ab_C} {a j : Nat} {x : Int32} {c : ab_C} (hm : wd_mut a = true) (hc : c = wd_c a (I a) (P a) (ab_up (M a) j x)) : ab_up (wd I P M g) a c = wd I P (wd_up M a j x) g := by
  funext b
  by_cases e : b = a
  · subst e
    rw [ab_up_self, wd_at hm, wd_up_at]
    exact hc
  · rw [ab_up_ne _ _ e]
    unfold wd
    rw [wd_up_row _ _ _ e]
theorem wd_foldg {I : wd_I} {P : wd_P} {M : wd_I} {g : Nat → ab_C} {a : Nat} {c : ab_C} (hm : wd_mut a = false) : ab_up (wd I P M g) a c = wd I P M (ab_up g a c) := by
  funext b
  by_cases e : b = a
  · subst e
    rw [ab_up_self, wd_g hm, ab_up_self]
  · rw [ab_up_ne _ _ e]
    unfold wd
    rw [ab_up_ne _ _ e]
theorem ab_ltO {v : Int32} : -2147483648 ≤ v.toInt ∧ v.toInt < 2147483648 := ⟨by have := Int32.le_toInt v; omega, by have := Int32.toInt_lt v; omega⟩
/-- locals may be fewer, or stand in another order -/
theorem ab_WB_sub {d n : Nat} {Q : ab_Q} {pc : Nat} {ls ls' : ab_L} {st : List ab_V} {h : ab_H} (hs : ∀ q ∈ ls', q ∈ ls) (k : ab_WB d n Q pc ls' st h) : ab_WB d n Q pc ls st h := by
  intro p l e s m args below meth c D cT b0 b S n0 s0 hd C0 H locs lsA hl hR hS h3 h4
  refine k p l e s m args below meth c D cT b0 b S n0 s0 hd C0 H locs lsA (ab_lvmono hl ?_) hR hS h3 h4
  intro q hq
  obtain ⟨q', h5, rfl⟩ := List.mem_map.mp hq
  exact List.mem_map.mpr ⟨q', hs q' h5, rfl⟩
theorem ab_sub0 {ls : ab_L} : ∀ q ∈ ([] : ab_L), q ∈ ls := fun q h => by cases h
theorem ab_sub1 {ls t : ab_L} {q : Nat × ab_V} (h : q ∈ ls) (ht : ∀ r ∈ t, r ∈ ls) : ∀ r ∈ q :: t, r ∈ ls := fun r hr => by
  rcases List.mem_cons.mp hr with rfl | hr
  · exact h
  · exact ht r hr
theorem ab_skip {k k' : Nat} {v v' : ab_V} {t : ab_L} (h : Nat.beq k' k = false) (m : (k, v) ∈ t) : (k, v) ∈ (k', v') :: t := List.mem_cons_of_mem _ m
theorem wd_up_eq {α : Type} (I : Nat → Nat → α) {a j i : Nat} (v : α) (h : i = j) : wd_up I a j v a i = v := by subst h; exact wd_up_self _ _ _ _
/-- a method from its entry, what it calls and where it jumps left open -/
theorem wd_inC {d n : Nat} {Q : ab_Q} {args : List ab_V} {h : ab_H} (hn : Nat.blt n 201 = true) (hd : 1 ≤ d) (hlen : Nat.ble (ab_cats args) (ab_ml n) = true) (hgo : ∀ (C : ab_F) (X : ab_J), (∀ y args h Q, ab_CT (d - 1) y args h Q → C y args h Q) → (∀ pc ls st h, ab_WB d n Q pc ls st h → X pc ls st h) → ab_loc 0 args (fun lx => ab_go C Q X (ab_from 0 (ab_kd n)) lx [] h)) : ab_CT d n args h Q := by
  obtain ⟨d, rfl⟩ : ∃ d', d = d' + 1 := ⟨d - 1, by omega⟩
  exact ab_inl hn hlen (hgo _ _ (fun _ _ _ _ h => h) (fun _ _ _ _ h => h))
theorem wd_rnC {d n : Nat} {Q : ab_Q} {pc : Nat} {ls : ab_L} {st : List ab_V} {h : ab_H} (hn : Nat.blt n 201 = true) (hgo : ∀ (C : ab_F) (X : ab_J), (∀ y args h Q, ab_CT (d - 1) y args h Q → C y args h Q) → (∀ pc ls st h, ab_WB d n Q pc ls st h → X pc ls st h) → ab_go C Q X (ab_from pc (ab_kd n)) ls st h) (hd : 1 ≤ d := by omega) : ab_WB d n Q pc ls st h := by
  obtain ⟨d, rfl⟩ : ∃ d', d = d' + 1 := ⟨d - 1, by omega⟩
  exact ab_rn hn (hgo _ _ (fun _ _ _ _ h => h) (fun _ _ _ _ h => h))
theorem wd_ix12 {x : Int} {j : Nat} (h : 0 ≤ x) : (12 * x + (j : Int)).toNat = 12 * x.toNat + j := by omega
theorem wd_ix8 {x : Int} {j : Nat} (h : 0 ≤ x) : (8 * x + (j : Int)).toNat = 8 * x.toNat + j := by omega
theorem wd_ix10 {x : Int} {j : Nat} (h : 0 ≤ x) : (10 * x + (j : Int)).toNat = 10 * x.toNat + j := by omega
