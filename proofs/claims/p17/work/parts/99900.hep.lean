/-! ===== the heap behind both constructors (printed by a program that runs the lists) ===== -/
def ab_nd : Nat → Int32 := (ab_up (ab_up (ab_up (ab_up (ab_up (ab_up (ab_up (ab_up (ab_up (ab_up (ab_up (ab_up (fun _ => (0 : Int32)) 0 (ab_ii 1)) 1 (ab_ii 1)) 2 (ab_ii 1)) 3 (ab_ii 1)) 4 (ab_ii 1)) 5 (ab_ii 1)) 6 (ab_ii 1)) 7 (ab_ii 1)) 8 (ab_ii 1)) 9 (ab_ii 1)) 10 (ab_ii 1)) 11 (ab_ii 1))
theorem ab_nd_lt {j : Nat} (h : j < 12) : ab_nd j = ab_ii 1 := by
  match j, h with
  | 0, _ => exact rfl
  | 1, _ => exact rfl
  | 2, _ => exact rfl
  | 3, _ => exact rfl
  | 4, _ => exact rfl
  | 5, _ => exact rfl
  | 6, _ => exact rfl
  | 7, _ => exact rfl
  | 8, _ => exact rfl
  | 9, _ => exact rfl
  | 10, _ => exact rfl
  | 11, _ => exact rfl
  | j + 12, h => exact absurd h (by omega)
def ab_nth : List ab_C → Nat → ab_C
  | [], _ => ab_ob 999 []
  | c :: _, 0 => c
  | _ :: t, k + 1 => ab_nth t k
def ab_Fa : List ab_C := [
  ab_ob 11 [.inr (.inr (some 1)), .inr (.inr (some 3)), .inr (.inr (some 4)), .inr (.inr (some 7)), .inr (.inr (some 8)), .inr (.inr (some 9)), .inr (.inr (some 10)), .inr (.inr (some 11)), .inr (.inr (some 14)), .inr (.inr (some 16)), .inr (.inr (some 17)), .inl (ab_ii 0)],
  ab_ob 8 [.inr (.inr (some 2)), .inl (ab_ii 0), .inl (ab_ii 0), .inl (ab_ii (-1))],
  ab_ia 0 100 (fun _ => ab_ii 0),
  ab_ob 10 [.inr (.inr (some 1))],
  ab_ob 5 [.inr (.inr (some 1)), .inr (.inr (some 5)), .inr (.inr (some 6))],
  ab_ia 0 8 (fun _ => ab_ii 0),
  ab_ia 0 8 (fun _ => ab_ii 0),
  ab_ra 3 12 (fun j => some (18 + 5 * j)),
  ab_ra 2 8 (fun j => some (78 + 3 * j)),
  ab_ob 7 [.inl (ab_ii 0)],
  ab_ob 0 [.inr (.inr (some 9)), .inr (.inr none), .inl (ab_ii 0), .inl (ab_ii 0), .inr (.inr none), .inl (ab_ii 0), .inl (ab_ii 0)],
  ab_ob 2 [.inr (.inr (some 12)), .inr (.inr (some 13)), .inl (ab_ii 0)],
  ab_ra 4 200 (fun _ => none),
  ab_ia 0 200 (fun _ => ab_ii 0),
  ab_ob 1 [.inr (.inr (some 15)), .inl (ab_ii 0)],
  ab_ia 0 200 (fun _ => ab_ii 0),
  ab_ra 4 12 (fun _ => none),
  ab_ra 2 8 (fun _ => none)]
def ab_Fr : List ab_C := [
  ab_ob 12 [.inl (ab_ii 0), .inr (.inr (some 103)), .inr (.inr (some 104)), .inr (.inr (some 105)), .inr (.inr (some 106)), .inr (.inr (some 107)), .inr (.inr (some 108)), .inr (.inr (some 109)), .inl (ab_ii 12), .inl (ab_ii 0), .inr (.inr (some 110)), .inr (.inr (some 111)), .inr (.inr (some 112)), .inr (.inr (some 113)), .inr (.inr (some 114)), .inr (.inr (some 115)), .inr (.inr (some 116)), .inr (.inr (some 117)), .inr (.inr (some 118)), .inr (.inr (some 119)), .inl (ab_ii 0), .inr (.inr (some 120)), .inl (ab_ii 0), .inl (ab_ii 0), .inl (ab_ii 0), .inl (ab_ii 0), .inl (ab_ii 0), .inl (ab_ii 0), .inr (.inr (some 121)), .inr (.inr (some 122)), .inr (.inr (some 123)), .inl (ab_ii 0), .inl (ab_ii 0), .inl (ab_ii 0), .inl (ab_ii 0), .inl (ab_ii 0), .inl (ab_ii 0), .inr (.inr (some 124)), .inl (ab_ii 0), .inl (ab_ii 0), .inl (ab_ii 0)],
  ab_ia 0 3120 (fun _ => ab_ii 0),
  ab_ia 0 3120 (fun _ => ab_ii 0),
  ab_ia 0 3120 (fun _ => ab_ii 0),
  ab_ia 0 3120 (ab_nd),
  ab_ia 0 3120 (fun _ => ab_ii 0),
  ab_ia 0 37440 (fun _ => ab_ii 0),
  ab_ia 0 37440 (fun _ => ab_ii 0),
  ab_ia 0 12 (fun j => ab_ii (j : Int)),
  ab_ia 0 120 (fun _ => ab_ii 0),
  ab_ia 0 12 (fun _ => ab_ii 0),
  ab_ia 0 64 (fun _ => ab_ii 0),
  ab_ia 0 64 (fun _ => ab_ii 0),
  ab_ia 0 8 (fun _ => ab_ii 0),
  ab_ia 0 12 (fun _ => ab_ii 0),
  ab_ia 0 64 (fun _ => ab_ii 0),
  ab_ia 0 64 (fun _ => ab_ii 0),
  ab_ia 0 8 (fun _ => ab_ii 0),
  ab_ia 0 100 (fun _ => ab_ii 0),
  ab_ia 0 8 (fun _ => ab_ii 0),
  ab_ia 0 8 (fun _ => ab_ii 0),
  ab_ia 0 200 (fun _ => ab_ii 0),
  ab_ia 1 3120 (fun _ => ab_ii 0)]
/-- a shelf, its thing, that thing's rows, the shelf's row of the past -/
def ab_Fs (k : Nat) : Nat → ab_C := fun r => match r with
  | 0 => ab_ob 6 [.inr (.inr (some (18 + 5 * k + 4))), .inl (ab_ii 0), .inr (.inr (some (18 + 5 * k + 1)))]
  | 1 => ab_ob 9 [.inl (ab_ii 0), .inl (ab_ii 0), .inl (ab_ii 1), .inl (ab_ii 0), .inr (.inr (some (18 + 5 * k + 2))), .inr (.inr (some (18 + 5 * k + 3)))]
  | 2 => ab_ia 0 0 (fun _ => ab_ii 0)
  | 3 => ab_ra 4 0 (fun _ => none)
  | _ => ab_ra 4 10 (fun _ => none)
def ab_Fp (k : Nat) : Nat → ab_C := fun r => match r with
  | 0 => ab_ob 4 [.inr (.inr (some (78 + 3 * k + 1))), .inr (.inr (some (78 + 3 * k + 2)))]
  | _ => ab_ia 0 0 (fun _ => ab_ii 0)
def hp_F (a : Nat) : ab_C := cond (Nat.blt a 18) (ab_nth ab_Fa a) (cond (Nat.blt a 78) (ab_Fs ((a - 18) / 5) ((a - 18) % 5)) (cond (Nat.blt a 102) (ab_Fp ((a - 78) / 3) ((a - 78) % 3)) (ab_nth ab_Fr (a - 102))))
def ab_hK (L : Nat) (xs : Nat → Int32) : ab_H := (ab_up hp_F 1000000000 (ab_ia 9 L xs), 125, 95419)
theorem ab_blt_t {a b : Nat} (h : a < b) : Nat.blt a b = true := Nat.ble_eq.mpr h
theorem ab_blt_f {a b : Nat} (h : b ≤ a) : Nat.blt a b = false := by
  cases e : Nat.blt a b with
  | false => rfl
  | true => exact absurd (Nat.le_of_ble_eq_true e) (by omega)
theorem hp_F_s {k r : Nat} (hk : k < 12) (hr : r < 5) : hp_F (18 + 5 * k + r) = ab_Fs k r := by
  unfold hp_F
  rw [ab_blt_f (by omega), ab_blt_t (by omega), show (18 + 5 * k + r - 18) / 5 = k by omega, show (18 + 5 * k + r - 18) % 5 = r by omega]
  rfl
theorem hp_F_s0 {k : Nat} (hk : k < 12) : hp_F (18 + 5 * k) = ab_ob 6 [.inr (.inr (some (18 + 5 * k + 4))), .inl (ab_ii 0), .inr (.inr (some (18 + 5 * k + 1)))] := hp_F_s (r := 0) hk (by omega)
theorem hp_F_s1 {k : Nat} (hk : k < 12) : hp_F (18 + 5 * k + 1) = ab_ob 9 [.inl (ab_ii 0), .inl (ab_ii 0), .inl (ab_ii 1), .inl (ab_ii 0), .inr (.inr (some (18 + 5 * k + 2))), .inr (.inr (some (18 + 5 * k + 3)))] := hp_F_s (r := 1) hk (by omega)
theorem hp_F_s2 {k : Nat} (hk : k < 12) : hp_F (18 + 5 * k + 2) = ab_ia 0 0 (fun _ => ab_ii 0) := hp_F_s (r := 2) hk (by omega)
theorem hp_F_s3 {k : Nat} (hk : k < 12) : hp_F (18 + 5 * k + 3) = ab_ra 4 0 (fun _ => none) := hp_F_s (r := 3) hk (by omega)
theorem hp_F_s4 {k : Nat} (hk : k < 12) : hp_F (18 + 5 * k + 4) = ab_ra 4 10 (fun _ => none) := hp_F_s (r := 4) hk (by omega)
theorem hp_F_p {k r : Nat} (hk : k < 8) (hr : r < 3) : hp_F (78 + 3 * k + r) = ab_Fp k r := by
  unfold hp_F
  rw [ab_blt_f (by omega), ab_blt_f (by omega), ab_blt_t (by omega), show (78 + 3 * k + r - 78) / 3 = k by omega, show (78 + 3 * k + r - 78) % 3 = r by omega]
  rfl
theorem hp_F_p0 {k : Nat} (hk : k < 8) : hp_F (78 + 3 * k) = ab_ob 4 [.inr (.inr (some (78 + 3 * k + 1))), .inr (.inr (some (78 + 3 * k + 2)))] := hp_F_p (r := 0) hk (by omega)
theorem hp_F_p1 {k : Nat} (hk : k < 8) : hp_F (78 + 3 * k + 1) = ab_ia 0 0 (fun _ => ab_ii 0) := hp_F_p (r := 1) hk (by omega)
theorem hp_F_p2 {k : Nat} (hk : k < 8) : hp_F (78 + 3 * k + 2) = ab_ia 0 0 (fun _ => ab_ii 0) := hp_F_p (r := 2) hk (by omega)
theorem ab_nth_end : ∀ (l : List ab_C) (k : Nat), l.length ≤ k → ab_nth l k = ab_ob 999 []
  | [], _, _ => rfl
  | _ :: t, 0, h => absurd h (by simp)
  | _ :: t, k + 1, h => ab_nth_end t k (by simpa using h)
theorem hp_F_end {a : Nat} (h : 125 ≤ a) : hp_F a = ab_ob 999 [] := by
  unfold hp_F
  rw [ab_blt_f (by omega), ab_blt_f (by omega), ab_blt_f (by omega)]
  exact ab_nth_end _ _ (by show 23 ≤ a - 102; omega)
/-- two heaps that hold the same serve alike -/
def ab_ceq : ab_C → ab_C → Prop
  | .inl (t, n, f), c => ∃ g, c = .inl (t, n, g) ∧ ∀ j, j < n → f j = g j
  | .inr (.inl (t, n, f)), c => ∃ g, c = .inr (.inl (t, n, g)) ∧ ∀ j, j < n → f j = g j
  | .inr (.inr o), c => c = .inr (.inr o)
theorem ab_arrV_ext {cI : ClassId} {N : Nat} {f g : Nat → Value} (h : ∀ j, j < N → f j = g j) : arrV cI N f = arrV cI N g := by
  unfold arrV
  congr 2
  funext j
  exact h j.val j.isLt
theorem ab_at_ext {D : va_G} {cT : Nat → ClassId} {b0 b q : Nat} {c c' : ab_C} {H : Heap} (hc : ab_ceq c c') (h : va_at D ab_cl (q, ab_ce b0 b cT c) H) : va_at D ab_cl (q, ab_ce b0 b cT c') H := by
  match c, hc, h with
  | .inl (t, n, f), hc, h =>
    obtain ⟨g, rfl, hg⟩ := hc
    show H[q]? = some (arrV (cT t) n (fun j => .int (g j)))
    rw [← ab_arrV_ext (f := fun j => Value.int (f j)) (fun j hj => by rw [hg j hj])]
    exact h
  | .inr (.inl (t, n, f)), hc, h =>
    obtain ⟨g, rfl, hg⟩ := hc
    show H[q]? = some (arrV (cT t) n (fun j => va_rf ((g j).map (ab_phi b0 b))))
    rw [← ab_arrV_ext (f := fun j => va_rf ((f j).map (ab_phi b0 b))) (fun j hj => by rw [hg j hj])]
    exact h
  | .inr (.inr o), hc, h =>
    cases hc
    exact h
theorem ab_vt_ext {c c' : ab_C} (hc : ab_ceq c c') (h : ab_vt c) : ab_vt c' := by
  match c, hc, h with
  | .inl (t, n, f), hc, h => obtain ⟨g, rfl, -⟩ := hc; exact h
  | .inr (.inl (t, n, f)), hc, h => obtain ⟨g, rfl, -⟩ := hc; exact h
  | .inr (.inr o), hc, h => cases hc; exact h
theorem ab_WB_ext {d n : Nat} {Q : ab_Q} {pc : Nat} {ls : ab_L} {st : List ab_V} {h h' : ab_H} (h2 : h.2 = h'.2) (hs : h'.1 ab_scr = h.1 ab_scr) (he : ∀ a, h'.2.1 ≤ a → a ≠ ab_scr → h'.1 a = ab_ob 999 []) (hc : ∀ a, a < h.2.1 → ab_ceq (h.1 a) (h'.1 a)) (k : ab_WB d n Q pc ls st h') : ab_WB d n Q pc ls st h := by
  intro p l e s m args below meth c D cT b0 b L xs n0 s0 hd C0 H locs lsA hl hR hS h3 h4
  have hR' : ab_Rl D cT b0 b L xs h' H := by
    obtain ⟨r1, r2, r3, r4, r5, r6, r7⟩ := hR
    refine ⟨by rw [← h2]; exact r1, by rw [← h2]; exact r2, by rw [← h2]; exact r3, hs.trans r4, he, fun a ha => ab_vt_ext (hc a (by rw [h2]; exact ha)) (r6 a (by rw [h2]; exact ha)), fun j q hq => ?_⟩
    obtain ⟨hj, rfl⟩ := ab_ws_of hq
    rw [← h2] at hj
    exact ab_at_ext (hc j hj) (r7 j _ (ab_ws_at hj))
  have := k p l e s m args below meth c D cT b0 b L xs n0 s0 hd C0 H locs lsA hl hR' hS (by rw [← h2]; exact h3) (by rw [← h2]; exact h4)
  rw [h2]
  exact this
theorem ab_up_id {α : Type} {f : Nat → α} {k : Nat} {v : α} (h : f k = v) : ab_up f k v = f := by
  funext j
  by_cases hj : j = k
  · subst hj; rw [ab_up_self]; exact h.symm
  · rw [ab_up_ne _ _ hj]
theorem ab_upz {f : Nat → Int32} {k j : Nat} {v : Int32} (h : f j = ab_ii 0) (hv : v = ab_ii 0) : ab_up f k v j = ab_ii 0 := by
  by_cases hj : j = k
  · subst hj; rw [ab_up_self]; exact hv
  · rw [ab_up_ne _ _ hj]; exact h
def ab_hy (g : Nat → ab_C) : Nat → ab_C := fun a => cond (Nat.ble 102 a && Nat.ble a 124) (hp_F a) (g a)
theorem ab_hy_of {g : Nat → ab_C} (h : ∀ a, 102 ≤ a → a ≤ 124 → g a = hp_F a) : g = ab_hy g := by
  funext a
  unfold ab_hy
  cases e : (Nat.ble 102 a && Nat.ble a 124) with
  | false => rfl
  | true =>
    rw [Bool.and_eq_true] at e
    exact h a (Nat.le_of_ble_eq_true e.1) (Nat.le_of_ble_eq_true e.2)
