/-! ===== the start: an object new (own text) ===== -/
def st_I : wd_I := fun a j => cond (Nat.beq a 1 && Nat.beq j 3) (ab_ii (-1)) (ab_ii 0)
def st_P : wd_P := fun a j => cond (Nat.beq a 8) (some (78 + 3 * j)) (cond (Nat.ble 18 a && Nat.blt a 78 && Nat.beq ((a - 18) % 5) 0 && Nat.beq j 2) (some (a + 1)) none)
def lM : wd_I := fun _ _ => 0
theorem st_c : ∀ a, a < 102 → wd_mut a = true → ab_ceq (nw_F 0 a) (wd_c a (st_I a) (st_P a) (lM a)) := fun a ha h => match a, ha, h with
  | 0, _, h => by first | exact rfl | exact ⟨_, rfl, fun _ _ => rfl⟩ | exact absurd h (by decide)
  | 1, _, h => by first | exact rfl | exact ⟨_, rfl, fun _ _ => rfl⟩ | exact absurd h (by decide)
  | 2, _, h => by first | exact rfl | exact ⟨_, rfl, fun _ _ => rfl⟩ | exact absurd h (by decide)
  | 3, _, h => by first | exact rfl | exact ⟨_, rfl, fun _ _ => rfl⟩ | exact absurd h (by decide)
  | 4, _, h => by first | exact rfl | exact ⟨_, rfl, fun _ _ => rfl⟩ | exact absurd h (by decide)
  | 5, _, h => by first | exact rfl | exact ⟨_, rfl, fun _ _ => rfl⟩ | exact absurd h (by decide)
  | 6, _, h => by first | exact rfl | exact ⟨_, rfl, fun _ _ => rfl⟩ | exact absurd h (by decide)
  | 7, _, h => ⟨_, rfl, fun j hj => by
      match j, hj with
      | 0, _ => exact rfl
      | 1, _ => exact rfl
      | 2, _ => exact rfl
      | 3, _ => exact rfl
      | 4, _ => exact rfl
      | 5, _ => exact rfl
      | 6, _ => exact rfl
      | 7, _ => exact rfl
      | 8, _ => exact rfl
      | 9, _ => exact rfl
      | 10, _ => exact rfl
      | 11, _ => exact rfl
      | j + 12, hj => exact absurd (show j + 12 < 12 from hj) (by omega)⟩
  | 8, _, h => ⟨_, rfl, fun j hj => by
      match j, hj with
      | 0, _ => exact rfl
      | 1, _ => exact rfl
      | 2, _ => exact rfl
      | 3, _ => exact rfl
      | 4, _ => exact rfl
      | 5, _ => exact rfl
      | 6, _ => exact rfl
      | 7, _ => exact rfl
      | j + 8, hj => exact absurd (show j + 8 < 8 from hj) (by omega)⟩
  | 9, _, h => by first | exact rfl | exact ⟨_, rfl, fun _ _ => rfl⟩ | exact absurd h (by decide)
  | 10, _, h => by first | exact rfl | exact ⟨_, rfl, fun _ _ => rfl⟩ | exact absurd h (by decide)
  | 11, _, h => by first | exact rfl | exact ⟨_, rfl, fun _ _ => rfl⟩ | exact absurd h (by decide)
  | 12, _, h => by first | exact rfl | exact ⟨_, rfl, fun _ _ => rfl⟩ | exact absurd h (by decide)
  | 13, _, h => by first | exact rfl | exact ⟨_, rfl, fun _ _ => rfl⟩ | exact absurd h (by decide)
  | 14, _, h => by first | exact rfl | exact ⟨_, rfl, fun _ _ => rfl⟩ | exact absurd h (by decide)
  | 15, _, h => by first | exact rfl | exact ⟨_, rfl, fun _ _ => rfl⟩ | exact absurd h (by decide)
  | 16, _, h => by first | exact rfl | exact ⟨_, rfl, fun _ _ => rfl⟩ | exact absurd h (by decide)
  | 17, _, h => by first | exact rfl | exact ⟨_, rfl, fun _ _ => rfl⟩ | exact absurd h (by decide)
  | 18, _, h => by first | exact rfl | exact ⟨_, rfl, fun _ _ => rfl⟩ | exact absurd h (by decide)
  | 19, _, h => by first | exact rfl | exact ⟨_, rfl, fun _ _ => rfl⟩ | exact absurd h (by decide)
  | 20, _, h => by first | exact rfl | exact ⟨_, rfl, fun _ _ => rfl⟩ | exact absurd h (by decide)
  | 21, _, h => by first | exact rfl | exact ⟨_, rfl, fun _ _ => rfl⟩ | exact absurd h (by decide)
  | 22, _, h => by first | exact rfl | exact ⟨_, rfl, fun _ _ => rfl⟩ | exact absurd h (by decide)
  | 23, _, h => by first | exact rfl | exact ⟨_, rfl, fun _ _ => rfl⟩ | exact absurd h (by decide)
  | 24, _, h => by first | exact rfl | exact ⟨_, rfl, fun _ _ => rfl⟩ | exact absurd h (by decide)
  | 25, _, h => by first | exact rfl | exact ⟨_, rfl, fun _ _ => rfl⟩ | exact absurd h (by decide)
  | 26, _, h => by first | exact rfl | exact ⟨_, rfl, fun _ _ => rfl⟩ | exact absurd h (by decide)
  | 27, _, h => by first | exact rfl | exact ⟨_, rfl, fun _ _ => rfl⟩ | exact absurd h (by decide)
  | 28, _, h => by first | exact rfl | exact ⟨_, rfl, fun _ _ => rfl⟩ | exact absurd h (by decide)
  | 29, _, h => by first | exact rfl | exact ⟨_, rfl, fun _ _ => rfl⟩ | exact absurd h (by decide)
  | 30, _, h => by first | exact rfl | exact ⟨_, rfl, fun _ _ => rfl⟩ | exact absurd h (by decide)
  | 31, _, h => by first | exact rfl | exact ⟨_, rfl, fun _ _ => rfl⟩ | exact absurd h (by decide)
  | 32, _, h => by first | exact rfl | exact ⟨_, rfl, fun _ _ => rfl⟩ | exact absurd h (by decide)
  | 33, _, h => by first | exact rfl | exact ⟨_, rfl, fun _ _ => rfl⟩ | exact absurd h (by decide)
  | 34, _, h => by first | exact rfl | exact ⟨_, rfl, fun _ _ => rfl⟩ | exact absurd h (by decide)
  | 35, _, h => by first | exact rfl | exact ⟨_, rfl, fun _ _ => rfl⟩ | exact absurd h (by decide)
  | 36, _, h => by first | exact rfl | exact ⟨_, rfl, fun _ _ => rfl⟩ | exact absurd h (by decide)
  | 37, _, h => by first | exact rfl | exact ⟨_, rfl, fun _ _ => rfl⟩ | exact absurd h (by decide)
  | 38, _, h => by first | exact rfl | exact ⟨_, rfl, fun _ _ => rfl⟩ | exact absurd h (by decide)
  | 39, _, h => by first | exact rfl | exact ⟨_, rfl, fun _ _ => rfl⟩ | exact absurd h (by decide)
  | 40, _, h => by first | exact rfl | exact ⟨_, rfl, fun _ _ => rfl⟩ | exact absurd h (by decide)
  | 41, _, h => by first | exact rfl | exact ⟨_, rfl, fun _ _ => rfl⟩ | exact absurd h (by decide)
  | 42, _, h => by first | exact rfl | exact ⟨_, rfl, fun _ _ => rfl⟩ | exact absurd h (by decide)
  | 43, _, h => by first | exact rfl | exact ⟨_, rfl, fun _ _ => rfl⟩ | exact absurd h (by decide)
  | 44, _, h => by first | exact rfl | exact ⟨_, rfl, fun _ _ => rfl⟩ | exact absurd h (by decide)
  | 45, _, h => by first | exact rfl | exact ⟨_, rfl, fun _ _ => rfl⟩ | exact absurd h (by decide)
  | 46, _, h => by first | exact rfl | exact ⟨_, rfl, fun _ _ => rfl⟩ | exact absurd h (by decide)
  | 47, _, h => by first | exact rfl | exact ⟨_, rfl, fun _ _ => rfl⟩ | exact absurd h (by decide)
  | 48, _, h => by first | exact rfl | exact ⟨_, rfl, fun _ _ => rfl⟩ | exact absurd h (by decide)
  | 49, _, h => by first | exact rfl | exact ⟨_, rfl, fun _ _ => rfl⟩ | exact absurd h (by decide)
  | 50, _, h => by first | exact rfl | exact ⟨_, rfl, fun _ _ => rfl⟩ | exact absurd h (by decide)
  | 51, _, h => by first | exact rfl | exact ⟨_, rfl, fun _ _ => rfl⟩ | exact absurd h (by decide)
  | 52, _, h => by first | exact rfl | exact ⟨_, rfl, fun _ _ => rfl⟩ | exact absurd h (by decide)
  | 53, _, h => by first | exact rfl | exact ⟨_, rfl, fun _ _ => rfl⟩ | exact absurd h (by decide)
  | 54, _, h => by first | exact rfl | exact ⟨_, rfl, fun _ _ => rfl⟩ | exact absurd h (by decide)
  | 55, _, h => by first | exact rfl | exact ⟨_, rfl, fun _ _ => rfl⟩ | exact absurd h (by decide)
  | 56, _, h => by first | exact rfl | exact ⟨_, rfl, fun _ _ => rfl⟩ | exact absurd h (by decide)
  | 57, _, h => by first | exact rfl | exact ⟨_, rfl, fun _ _ => rfl⟩ | exact absurd h (by decide)
  | 58, _, h => by first | exact rfl | exact ⟨_, rfl, fun _ _ => rfl⟩ | exact absurd h (by decide)
  | 59, _, h => by first | exact rfl | exact ⟨_, rfl, fun _ _ => rfl⟩ | exact absurd h (by decide)
  | 60, _, h => by first | exact rfl | exact ⟨_, rfl, fun _ _ => rfl⟩ | exact absurd h (by decide)
  | 61, _, h => by first | exact rfl | exact ⟨_, rfl, fun _ _ => rfl⟩ | exact absurd h (by decide)
  | 62, _, h => by first | exact rfl | exact ⟨_, rfl, fun _ _ => rfl⟩ | exact absurd h (by decide)
  | 63, _, h => by first | exact rfl | exact ⟨_, rfl, fun _ _ => rfl⟩ | exact absurd h (by decide)
  | 64, _, h => by first | exact rfl | exact ⟨_, rfl, fun _ _ => rfl⟩ | exact absurd h (by decide)
  | 65, _, h => by first | exact rfl | exact ⟨_, rfl, fun _ _ => rfl⟩ | exact absurd h (by decide)
  | 66, _, h => by first | exact rfl | exact ⟨_, rfl, fun _ _ => rfl⟩ | exact absurd h (by decide)
  | 67, _, h => by first | exact rfl | exact ⟨_, rfl, fun _ _ => rfl⟩ | exact absurd h (by decide)
  | 68, _, h => by first | exact rfl | exact ⟨_, rfl, fun _ _ => rfl⟩ | exact absurd h (by decide)
  | 69, _, h => by first | exact rfl | exact ⟨_, rfl, fun _ _ => rfl⟩ | exact absurd h (by decide)
  | 70, _, h => by first | exact rfl | exact ⟨_, rfl, fun _ _ => rfl⟩ | exact absurd h (by decide)
  | 71, _, h => by first | exact rfl | exact ⟨_, rfl, fun _ _ => rfl⟩ | exact absurd h (by decide)
  | 72, _, h => by first | exact rfl | exact ⟨_, rfl, fun _ _ => rfl⟩ | exact absurd h (by decide)
  | 73, _, h => by first | exact rfl | exact ⟨_, rfl, fun _ _ => rfl⟩ | exact absurd h (by decide)
  | 74, _, h => by first | exact rfl | exact ⟨_, rfl, fun _ _ => rfl⟩ | exact absurd h (by decide)
  | 75, _, h => by first | exact rfl | exact ⟨_, rfl, fun _ _ => rfl⟩ | exact absurd h (by decide)
  | 76, _, h => by first | exact rfl | exact ⟨_, rfl, fun _ _ => rfl⟩ | exact absurd h (by decide)
  | 77, _, h => by first | exact rfl | exact ⟨_, rfl, fun _ _ => rfl⟩ | exact absurd h (by decide)
  | 78, _, h => by first | exact rfl | exact ⟨_, rfl, fun _ _ => rfl⟩ | exact absurd h (by decide)
  | 79, _, h => by first | exact rfl | exact ⟨_, rfl, fun _ _ => rfl⟩ | exact absurd h (by decide)
  | 80, _, h => by first | exact rfl | exact ⟨_, rfl, fun _ _ => rfl⟩ | exact absurd h (by decide)
  | 81, _, h => by first | exact rfl | exact ⟨_, rfl, fun _ _ => rfl⟩ | exact absurd h (by decide)
  | 82, _, h => by first | exact rfl | exact ⟨_, rfl, fun _ _ => rfl⟩ | exact absurd h (by decide)
  | 83, _, h => by first | exact rfl | exact ⟨_, rfl, fun _ _ => rfl⟩ | exact absurd h (by decide)
  | 84, _, h => by first | exact rfl | exact ⟨_, rfl, fun _ _ => rfl⟩ | exact absurd h (by decide)
  | 85, _, h => by first | exact rfl | exact ⟨_, rfl, fun _ _ => rfl⟩ | exact absurd h (by decide)
  | 86, _, h => by first | exact rfl | exact ⟨_, rfl, fun _ _ => rfl⟩ | exact absurd h (by decide)
  | 87, _, h => by first | exact rfl | exact ⟨_, rfl, fun _ _ => rfl⟩ | exact absurd h (by decide)
  | 88, _, h => by first | exact rfl | exact ⟨_, rfl, fun _ _ => rfl⟩ | exact absurd h (by decide)
  | 89, _, h => by first | exact rfl | exact ⟨_, rfl, fun _ _ => rfl⟩ | exact absurd h (by decide)
  | 90, _, h => by first | exact rfl | exact ⟨_, rfl, fun _ _ => rfl⟩ | exact absurd h (by decide)
  | 91, _, h => by first | exact rfl | exact ⟨_, rfl, fun _ _ => rfl⟩ | exact absurd h (by decide)
  | 92, _, h => by first | exact rfl | exact ⟨_, rfl, fun _ _ => rfl⟩ | exact absurd h (by decide)
  | 93, _, h => by first | exact rfl | exact ⟨_, rfl, fun _ _ => rfl⟩ | exact absurd h (by decide)
  | 94, _, h => by first | exact rfl | exact ⟨_, rfl, fun _ _ => rfl⟩ | exact absurd h (by decide)
  | 95, _, h => by first | exact rfl | exact ⟨_, rfl, fun _ _ => rfl⟩ | exact absurd h (by decide)
  | 96, _, h => by first | exact rfl | exact ⟨_, rfl, fun _ _ => rfl⟩ | exact absurd h (by decide)
  | 97, _, h => by first | exact rfl | exact ⟨_, rfl, fun _ _ => rfl⟩ | exact absurd h (by decide)
  | 98, _, h => by first | exact rfl | exact ⟨_, rfl, fun _ _ => rfl⟩ | exact absurd h (by decide)
  | 99, _, h => by first | exact rfl | exact ⟨_, rfl, fun _ _ => rfl⟩ | exact absurd h (by decide)
  | 100, _, h => by first | exact rfl | exact ⟨_, rfl, fun _ _ => rfl⟩ | exact absurd h (by decide)
  | 101, _, h => by first | exact rfl | exact ⟨_, rfl, fun _ _ => rfl⟩ | exact absurd h (by decide)
  | a + 102, ha, _ => absurd ha (by omega)
/-- a heap with a new object at 0, as a world -/
def st_W0 (F : Nat → ab_C) : Nat → ab_C := wd st_I st_P lM (fun a => cond (Nat.blt a 102) (nw_F 0 a) (F a))
theorem wd_mut_s {s r : Nat} (hs : s < 12) (h1 : 1 ≤ r) (h3 : r ≤ 3) : wd_mut (18 + 5 * s + r) = false := by
  unfold wd_mut
  rw [wd_bf (by omega), wd_bt (by omega), show (18 + 5 * s + r - 18) % 5 = r by omega]
  have : r = 1 ∨ r = 2 ∨ r = 3 := by omega
  rcases this with rfl | rfl | rfl <;> rfl
theorem wd_mut_p {a : Nat} (h : 78 ≤ a) : wd_mut a = false := by
  unfold wd_mut
  rw [wd_bf (by omega), wd_bf (by omega)]
  rfl
theorem ab_ceq.tr {c c' c'' : ab_C} (h : ab_ceq c c') (h' : ab_ceq c' c'') : ab_ceq c c'' := by
  match c, c', h, h' with
  | .inl (t, n, f), _, ⟨g, rfl, hg⟩, h' =>
    obtain ⟨g', rfl, hg'⟩ := h'
    exact ⟨g', rfl, fun j hj => (hg j hj).trans (hg' j hj)⟩
  | .inr (.inl (t, n, f)), _, ⟨g, rfl, hg⟩, h' =>
    obtain ⟨g', rfl, hg'⟩ := h'
    exact ⟨g', rfl, fun j hj => (hg j hj).trans (hg' j hj)⟩
  | .inr (.inr o), _, h, h' =>
    cases h
    exact h'
theorem st_W0_c {F : Nat → ab_C} {a : Nat} (ha : a < 102) (h : ab_ceq (F a) (nw_F 0 a)) : ab_ceq (F a) (st_W0 F a) := by
  unfold st_W0
  cases hm : wd_mut a with
  | false =>
    rw [wd_g hm]
    show ab_ceq (F a) (cond (Nat.blt a 102) (nw_F 0 a) (F a))
    rw [wd_bt ha]
    exact h
  | true =>
    rw [wd_at hm]
    exact h.tr (st_c a ha hm)
theorem st_W0_o {F : Nat → ab_C} {a : Nat} (ha : 102 ≤ a) : st_W0 F a = F a := by
  unfold st_W0
  rw [wd_g (wd_mut_p (by omega))]
  show cond (Nat.blt a 102) (nw_F 0 a) (F a) = F a
  rw [wd_bf ha]
  rfl
/-- what a world's cells are, but those of the object that change -/
def st_g (F : Nat → ab_C) : Nat → ab_C := fun a => cond (Nat.blt a 102) (nw_F 0 a) (F a)
theorem st_gF {F : Nat → ab_C} {a : Nat} (ha : a < 102) : st_g F a = nw_F 0 a := by
  unfold st_g
  rw [wd_bt ha]
  rfl
theorem nw_s_at {k r : Nat} (hk : k < 12) (hr : r < 5) : nw_F 0 (18 + 5 * k + r) = nw_s 0 k r := by
  unfold nw_F
  rw [wd_bf (by omega), wd_bt (by omega), show (18 + 5 * k + r - 18) / 5 = k by omega, show (18 + 5 * k + r - 18) % 5 = r by omega]
  rfl
theorem nw_p_at {k r : Nat} (hk : k < 8) (hr : r < 3) : nw_F 0 (78 + 3 * k + r) = nw_p 0 k r := by
  unfold nw_F
  rw [wd_bf (by omega), wd_bf (by omega), wd_bt (by omega), show (78 + 3 * k + r - 78) / 3 = k by omega, show (78 + 3 * k + r - 78) % 3 = r by omega]
  rfl
theorem nw_s1 {k : Nat} (hk : k < 12) : nw_F 0 (18 + 5 * k + 1) = ab_ob 9 [.inl (ab_ii 0), .inl (ab_ii 0), .inl (ab_ii 1), .inl (ab_ii 0), wd_v (18 + 5 * k + 2), wd_v (18 + 5 * k + 3)] := by
  rw [nw_s_at hk (by omega)]
  unfold nw_s
  rw [Nat.zero_add]
  rfl
theorem nw_s2 {k : Nat} (hk : k < 12) : nw_F 0 (18 + 5 * k + 2) = ab_ia 0 0 (fun _ => ab_ii 0) := nw_s_at (r := 2) hk (by omega)
theorem nw_s3 {k : Nat} (hk : k < 12) : nw_F 0 (18 + 5 * k + 3) = ab_ra 4 0 (fun _ => none) := nw_s_at (r := 3) hk (by omega)
theorem nw_p0 {k : Nat} (hk : k < 8) : nw_F 0 (78 + 3 * k) = ab_ob 4 [wd_v (78 + 3 * k + 1), wd_v (78 + 3 * k + 2)] := by
  have h := nw_p_at (r := 0) hk (by omega)
  rw [Nat.add_zero] at h
  rw [h]
  unfold nw_p
  rw [Nat.zero_add]
  rfl
theorem nw_p1 {k : Nat} (hk : k < 8) : nw_F 0 (78 + 3 * k + 1) = ab_ia 0 0 (fun _ => ab_ii 0) := nw_p_at (r := 1) hk (by omega)
theorem nw_p2 {k : Nat} (hk : k < 8) : nw_F 0 (78 + 3 * k + 2) = ab_ia 0 0 (fun _ => ab_ii 0) := nw_p_at (r := 2) hk (by omega)
def sv_T (a : Nat) : Prop := ∃ s, s < 12 ∧ a = 18 + 5 * s + 1
section
variable {F : Nat → ab_C} {k : Nat}
theorem st_W (hk : 102 ≤ k) : c_W sv_T (st_g F) k := fun a ha => by
  obtain ⟨s, hs, rfl⟩ := ha
  refine ⟨⟨wd_mut_s hs (by omega) (by omega), by omega⟩, ab_ii 0, ab_ii 0, ab_ii 1, ab_ii 0, 18 + 5 * s + 2, 18 + 5 * s + 3, 0, 0, fun _ => ab_ii 0, fun _ => none, (st_gF (by omega)).trans (nw_s1 hs), ⟨⟨wd_mut_s hs (by omega) (by omega), by omega⟩, (st_gF (by omega)).trans (nw_s2 hs), by omega⟩, ⟨⟨wd_mut_s hs (by omega) (by omega), by omega⟩, (st_gF (by omega)).trans (nw_s3 hs), by omega⟩, fun j hj => absurd hj (Nat.not_lt_zero _)⟩
theorem st_P_s {s : Nat} (hs : s < 12) : st_P (18 + 5 * s) 2 = some (18 + 5 * s + 1) := by
  unfold st_P
  have e1 : Nat.beq (18 + 5 * s) 8 = false := by
    cases e : Nat.beq (18 + 5 * s) 8 with
    | false => rfl
    | true => exact absurd (Nat.eq_of_beq_eq_true e) (by omega)
  rw [e1, Nat.ble_eq.mpr (show 18 ≤ 18 + 5 * s by omega), wd_bt (show 18 + 5 * s < 78 by omega), show (18 + 5 * s - 18) % 5 = 0 by omega]
  rfl
theorem st_I_0 {a j : Nat} (h : a ≠ 1 ∨ j ≠ 3) : st_I a j = ab_ii 0 := by
  unfold st_I
  have : (Nat.beq a 1 && Nat.beq j 3) = false := by
    cases e : (Nat.beq a 1 && Nat.beq j 3) with
    | false => rfl
    | true =>
      rw [Bool.and_eq_true] at e
      have := Nat.eq_of_beq_eq_true e.1
      have := Nat.eq_of_beq_eq_true e.2
      omega
  rw [this]
  rfl
theorem st_pw {p : Nat} (hp : p < 8) (hk : 102 ≤ k) : p_wf (st_g F) k (78 + 3 * p) := ⟨⟨wd_mut_p (by omega), by omega⟩, 78 + 3 * p + 1, 78 + 3 * p + 2, 0, fun _ => ab_ii 0, fun _ => ab_ii 0, (st_gF (by omega)).trans (nw_p0 hp), ⟨⟨wd_mut_p (by omega), by omega⟩, (st_gF (by omega)).trans (nw_p1 hp)⟩, ⟨⟨wd_mut_p (by omega), by omega⟩, (st_gF (by omega)).trans (nw_p2 hp)⟩, by omega⟩
theorem st_k (hk : 204 ≤ k) : k_ok sv_T st_I st_P (st_g F) k := ⟨st_W (by omega), by omega, by rw [st_I_0 (Or.inl (by omega))]; decide, fun j hj => ⟨0, st_I_0 (Or.inl (by omega)), by omega, ⟨_, st_P_s hj, j, hj, rfl⟩, fun i hi => absurd hi (Nat.not_lt_zero _)⟩, fun p hp => ⟨78 + 3 * p, rfl, st_pw hp (by omega)⟩, ⟨0, st_I_0 (Or.inr (by omega)), by omega⟩, fun q => absurd (by rw [st_I_0 (Or.inl (by omega))]; decide) q⟩
/-- no STEPS -/
theorem st_p7 {p : Nat} (hp : p < 8) : p_n (st_g F) (78 + 3 * p) = 0 := by
  have e1 : p_sa (st_g F) (78 + 3 * p) = 78 + 3 * p + 1 := by
    unfold p_sa
    rw [st_gF (a := 78 + 3 * p) (by omega), nw_p0 hp]
    rfl
  unfold p_n
  rw [e1, st_gF (a := 78 + 3 * p + 1) (by omega), nw_p1 hp]
  rfl
theorem st_E : k_E st_P (st_g F) := fun j hj => by
  have h1 : st_g F (18 + 5 * j + 1) = _ := (st_gF (by omega)).trans (nw_s1 hj)
  have h3 : st_g F (18 + 5 * j + 3) = _ := (st_gF (by omega)).trans (nw_s3 hj)
  have ei : c_i (st_g F) (18 + 5 * j + 1) 2 = ab_ii 1 := by unfold c_i; rw [h1]; rfl
  have e5 : c_pa (st_g F) (18 + 5 * j + 1) = 18 + 5 * j + 3 := by unfold c_pa; rw [h1]; rfl
  have es : c_sz (st_g F) (18 + 5 * j + 1) = 0 := by unfold c_sz; rw [e5, h3]; rfl
  have e1 : (ab_ii 1).toInt = 1 := by decide
  refine ⟨_, st_P_s hj, .of ⟨by rw [ei, e1]; omega, by rw [ei, e1, es]; rfl⟩ (fun i hi => ?_), by rw [ei, e1]; omega⟩
  rw [es] at hi
  exact absurd hi (Nat.not_lt_zero _)
theorem st_rm {z : Nat} (hz : z ≤ 100000) : k_rm 512 st_I 204 z := by
  unfold k_rm
  rw [st_I_0 (Or.inl (by omega)), show (ab_ii 0).toInt = 0 from by decide]
  omega
end
/-! the special cells stay, whatever is called -/
theorem ab_CT_k {d n : Nat} {args : List ab_V} {h : ab_H} {Q : ab_Q} (hk : ab_CT d n args h (fun r h' => (∀ a, ab_scr ≤ a → h'.1 a = h.1 a) → Q r h')) : ab_CT d n args h Q := by
  intro hd l D cT b0 b S
  have h0 := hk hd l D cT b0 b S
  intro p e ha hc hkk s m av below hf hx hP ht
  obtain ⟨t, o, h1, h2, h3, mc, ms, Lc, q1, q2, r, h', q3, q4, q5, q6, q7, q8⟩ := h0 p e ha hc hkk s m av below hf hx hP ht
  exact ⟨t, o, h1, h2, h3, mc, ms, Lc, q1, q2, r, h', q3, q4, q5, q6, q7 (fun a ha => (q4.2.2.2.1 a ha).trans (hP.2.2.1.2.2.2.1 a ha).symm), q8⟩
theorem wd_rnL {Q : ab_Q} {pc : Nat} {ls : ab_L} {st : List ab_V} {h : ab_H} (hgo : ∀ (C : ab_F) (X : ab_J), (∀ y args h Q, ab_CT 2047 y args h Q → C y args h Q) → (∀ pc ls st h, ab_WB 2048 201 Q pc ls st h → X pc ls st h) → ab_go C Q X (ab_from pc (ab_kd 201)) ls st h) : ab_WB 2048 201 Q pc ls st h := ab_run ab_okAll okL_law (hgo _ _ (fun _ _ _ _ h => h) (fun _ _ _ _ h => h))
/-! a heap seen with the two objects changed -/
theorem sw_ceq {c c' : ab_C} (h : ab_ceq c c') : ab_ceq (sw_c c) (sw_c c') := by
  match c, h with
  | .inl (t, n, f), h =>
    obtain ⟨g, rfl, he⟩ := h
    exact ⟨g, rfl, he⟩
  | .inr (.inl (t, n, f)), ⟨g, hg, he⟩ =>
    subst hg
    exact ⟨_, rfl, fun j hj => by show (f j).map sw_a = (g j).map sw_a; rw [he j hj]⟩
  | .inr (.inr o), h =>
    cases h
    exact rfl
theorem nw_sw : ∀ r, r < 102 → ab_ceq (sw_c (nw_F 102 r)) (nw_F 0 r) := fun r hr => match r, hr with
  | 0, _ => by first | exact rfl | exact ⟨_, rfl, fun _ _ => rfl⟩
  | 1, _ => by first | exact rfl | exact ⟨_, rfl, fun _ _ => rfl⟩
  | 2, _ => by first | exact rfl | exact ⟨_, rfl, fun _ _ => rfl⟩
  | 3, _ => by first | exact rfl | exact ⟨_, rfl, fun _ _ => rfl⟩
  | 4, _ => by first | exact rfl | exact ⟨_, rfl, fun _ _ => rfl⟩
  | 5, _ => by first | exact rfl | exact ⟨_, rfl, fun _ _ => rfl⟩
  | 6, _ => by first | exact rfl | exact ⟨_, rfl, fun _ _ => rfl⟩
  | 7, _ => ⟨_, rfl, fun j hj => by
      match j, hj with
      | 0, _ => exact rfl
      | 1, _ => exact rfl
      | 2, _ => exact rfl
      | 3, _ => exact rfl
      | 4, _ => exact rfl
      | 5, _ => exact rfl
      | 6, _ => exact rfl
      | 7, _ => exact rfl
      | 8, _ => exact rfl
      | 9, _ => exact rfl
      | 10, _ => exact rfl
      | 11, _ => exact rfl
      | j + 12, hj => exact absurd (show j + 12 < 12 from hj) (by omega)⟩
  | 8, _ => ⟨_, rfl, fun j hj => by
      match j, hj with
      | 0, _ => exact rfl
      | 1, _ => exact rfl
      | 2, _ => exact rfl
      | 3, _ => exact rfl
      | 4, _ => exact rfl
      | 5, _ => exact rfl
      | 6, _ => exact rfl
      | 7, _ => exact rfl
      | j + 8, hj => exact absurd (show j + 8 < 8 from hj) (by omega)⟩
  | 9, _ => by first | exact rfl | exact ⟨_, rfl, fun _ _ => rfl⟩
  | 10, _ => by first | exact rfl | exact ⟨_, rfl, fun _ _ => rfl⟩
  | 11, _ => by first | exact rfl | exact ⟨_, rfl, fun _ _ => rfl⟩
  | 12, _ => by first | exact rfl | exact ⟨_, rfl, fun _ _ => rfl⟩
  | 13, _ => by first | exact rfl | exact ⟨_, rfl, fun _ _ => rfl⟩
  | 14, _ => by first | exact rfl | exact ⟨_, rfl, fun _ _ => rfl⟩
  | 15, _ => by first | exact rfl | exact ⟨_, rfl, fun _ _ => rfl⟩
  | 16, _ => by first | exact rfl | exact ⟨_, rfl, fun _ _ => rfl⟩
  | 17, _ => by first | exact rfl | exact ⟨_, rfl, fun _ _ => rfl⟩
  | 18, _ => by first | exact rfl | exact ⟨_, rfl, fun _ _ => rfl⟩
  | 19, _ => by first | exact rfl | exact ⟨_, rfl, fun _ _ => rfl⟩
  | 20, _ => by first | exact rfl | exact ⟨_, rfl, fun _ _ => rfl⟩
  | 21, _ => by first | exact rfl | exact ⟨_, rfl, fun _ _ => rfl⟩
  | 22, _ => by first | exact rfl | exact ⟨_, rfl, fun _ _ => rfl⟩
  | 23, _ => by first | exact rfl | exact ⟨_, rfl, fun _ _ => rfl⟩
  | 24, _ => by first | exact rfl | exact ⟨_, rfl, fun _ _ => rfl⟩
  | 25, _ => by first | exact rfl | exact ⟨_, rfl, fun _ _ => rfl⟩
  | 26, _ => by first | exact rfl | exact ⟨_, rfl, fun _ _ => rfl⟩
  | 27, _ => by first | exact rfl | exact ⟨_, rfl, fun _ _ => rfl⟩
  | 28, _ => by first | exact rfl | exact ⟨_, rfl, fun _ _ => rfl⟩
  | 29, _ => by first | exact rfl | exact ⟨_, rfl, fun _ _ => rfl⟩
  | 30, _ => by first | exact rfl | exact ⟨_, rfl, fun _ _ => rfl⟩
  | 31, _ => by first | exact rfl | exact ⟨_, rfl, fun _ _ => rfl⟩
  | 32, _ => by first | exact rfl | exact ⟨_, rfl, fun _ _ => rfl⟩
  | 33, _ => by first | exact rfl | exact ⟨_, rfl, fun _ _ => rfl⟩
  | 34, _ => by first | exact rfl | exact ⟨_, rfl, fun _ _ => rfl⟩
  | 35, _ => by first | exact rfl | exact ⟨_, rfl, fun _ _ => rfl⟩
  | 36, _ => by first | exact rfl | exact ⟨_, rfl, fun _ _ => rfl⟩
  | 37, _ => by first | exact rfl | exact ⟨_, rfl, fun _ _ => rfl⟩
  | 38, _ => by first | exact rfl | exact ⟨_, rfl, fun _ _ => rfl⟩
  | 39, _ => by first | exact rfl | exact ⟨_, rfl, fun _ _ => rfl⟩
  | 40, _ => by first | exact rfl | exact ⟨_, rfl, fun _ _ => rfl⟩
  | 41, _ => by first | exact rfl | exact ⟨_, rfl, fun _ _ => rfl⟩
  | 42, _ => by first | exact rfl | exact ⟨_, rfl, fun _ _ => rfl⟩
  | 43, _ => by first | exact rfl | exact ⟨_, rfl, fun _ _ => rfl⟩
  | 44, _ => by first | exact rfl | exact ⟨_, rfl, fun _ _ => rfl⟩
  | 45, _ => by first | exact rfl | exact ⟨_, rfl, fun _ _ => rfl⟩
  | 46, _ => by first | exact rfl | exact ⟨_, rfl, fun _ _ => rfl⟩
  | 47, _ => by first | exact rfl | exact ⟨_, rfl, fun _ _ => rfl⟩
  | 48, _ => by first | exact rfl | exact ⟨_, rfl, fun _ _ => rfl⟩
  | 49, _ => by first | exact rfl | exact ⟨_, rfl, fun _ _ => rfl⟩
  | 50, _ => by first | exact rfl | exact ⟨_, rfl, fun _ _ => rfl⟩
  | 51, _ => by first | exact rfl | exact ⟨_, rfl, fun _ _ => rfl⟩
  | 52, _ => by first | exact rfl | exact ⟨_, rfl, fun _ _ => rfl⟩
  | 53, _ => by first | exact rfl | exact ⟨_, rfl, fun _ _ => rfl⟩
  | 54, _ => by first | exact rfl | exact ⟨_, rfl, fun _ _ => rfl⟩
  | 55, _ => by first | exact rfl | exact ⟨_, rfl, fun _ _ => rfl⟩
  | 56, _ => by first | exact rfl | exact ⟨_, rfl, fun _ _ => rfl⟩
  | 57, _ => by first | exact rfl | exact ⟨_, rfl, fun _ _ => rfl⟩
  | 58, _ => by first | exact rfl | exact ⟨_, rfl, fun _ _ => rfl⟩
  | 59, _ => by first | exact rfl | exact ⟨_, rfl, fun _ _ => rfl⟩
  | 60, _ => by first | exact rfl | exact ⟨_, rfl, fun _ _ => rfl⟩
  | 61, _ => by first | exact rfl | exact ⟨_, rfl, fun _ _ => rfl⟩
  | 62, _ => by first | exact rfl | exact ⟨_, rfl, fun _ _ => rfl⟩
  | 63, _ => by first | exact rfl | exact ⟨_, rfl, fun _ _ => rfl⟩
  | 64, _ => by first | exact rfl | exact ⟨_, rfl, fun _ _ => rfl⟩
  | 65, _ => by first | exact rfl | exact ⟨_, rfl, fun _ _ => rfl⟩
  | 66, _ => by first | exact rfl | exact ⟨_, rfl, fun _ _ => rfl⟩
  | 67, _ => by first | exact rfl | exact ⟨_, rfl, fun _ _ => rfl⟩
  | 68, _ => by first | exact rfl | exact ⟨_, rfl, fun _ _ => rfl⟩
  | 69, _ => by first | exact rfl | exact ⟨_, rfl, fun _ _ => rfl⟩
  | 70, _ => by first | exact rfl | exact ⟨_, rfl, fun _ _ => rfl⟩
  | 71, _ => by first | exact rfl | exact ⟨_, rfl, fun _ _ => rfl⟩
  | 72, _ => by first | exact rfl | exact ⟨_, rfl, fun _ _ => rfl⟩
  | 73, _ => by first | exact rfl | exact ⟨_, rfl, fun _ _ => rfl⟩
  | 74, _ => by first | exact rfl | exact ⟨_, rfl, fun _ _ => rfl⟩
  | 75, _ => by first | exact rfl | exact ⟨_, rfl, fun _ _ => rfl⟩
  | 76, _ => by first | exact rfl | exact ⟨_, rfl, fun _ _ => rfl⟩
  | 77, _ => by first | exact rfl | exact ⟨_, rfl, fun _ _ => rfl⟩
  | 78, _ => by first | exact rfl | exact ⟨_, rfl, fun _ _ => rfl⟩
  | 79, _ => by first | exact rfl | exact ⟨_, rfl, fun _ _ => rfl⟩
  | 80, _ => by first | exact rfl | exact ⟨_, rfl, fun _ _ => rfl⟩
  | 81, _ => by first | exact rfl | exact ⟨_, rfl, fun _ _ => rfl⟩
  | 82, _ => by first | exact rfl | exact ⟨_, rfl, fun _ _ => rfl⟩
  | 83, _ => by first | exact rfl | exact ⟨_, rfl, fun _ _ => rfl⟩
  | 84, _ => by first | exact rfl | exact ⟨_, rfl, fun _ _ => rfl⟩
  | 85, _ => by first | exact rfl | exact ⟨_, rfl, fun _ _ => rfl⟩
  | 86, _ => by first | exact rfl | exact ⟨_, rfl, fun _ _ => rfl⟩
  | 87, _ => by first | exact rfl | exact ⟨_, rfl, fun _ _ => rfl⟩
  | 88, _ => by first | exact rfl | exact ⟨_, rfl, fun _ _ => rfl⟩
  | 89, _ => by first | exact rfl | exact ⟨_, rfl, fun _ _ => rfl⟩
  | 90, _ => by first | exact rfl | exact ⟨_, rfl, fun _ _ => rfl⟩
  | 91, _ => by first | exact rfl | exact ⟨_, rfl, fun _ _ => rfl⟩
  | 92, _ => by first | exact rfl | exact ⟨_, rfl, fun _ _ => rfl⟩
  | 93, _ => by first | exact rfl | exact ⟨_, rfl, fun _ _ => rfl⟩
  | 94, _ => by first | exact rfl | exact ⟨_, rfl, fun _ _ => rfl⟩
  | 95, _ => by first | exact rfl | exact ⟨_, rfl, fun _ _ => rfl⟩
  | 96, _ => by first | exact rfl | exact ⟨_, rfl, fun _ _ => rfl⟩
  | 97, _ => by first | exact rfl | exact ⟨_, rfl, fun _ _ => rfl⟩
  | 98, _ => by first | exact rfl | exact ⟨_, rfl, fun _ _ => rfl⟩
  | 99, _ => by first | exact rfl | exact ⟨_, rfl, fun _ _ => rfl⟩
  | 100, _ => by first | exact rfl | exact ⟨_, rfl, fun _ _ => rfl⟩
  | 101, _ => by first | exact rfl | exact ⟨_, rfl, fun _ _ => rfl⟩
  | r + 102, hr => absurd hr (by omega)
theorem st_sp.sw {F : Nat → ab_C} (h : st_sp F) : st_sp (fun a => sw_c (F (sw_a a))) := by
  have e : ∀ a, ab_scr ≤ a → (fun a => sw_c (F (sw_a a))) a = sw_c (F a) := fun a ha => by dsimp only; rw [sw_scr ha]
  obtain ⟨h1, h2, ⟨a3, f3, h3, h3b, h3c⟩, ⟨a4, f4, h4, h4b, h4c⟩, o, h5⟩ := h
  refine ⟨fun i hi => ?_, ?_, ⟨a3, f3, ?_, h3b, ?_⟩, ⟨a4, f4, ?_, h4b, ?_⟩, o.map sw_a, ?_⟩
  · obtain ⟨a, v, n, f, g1, g2, g3, g4, g5, g6⟩ := h1 i hi
    refine ⟨a, v, n, f, ?_, g2, ?_, g4, ?_, g6⟩
    · rw [e _ (by omega), g1]
      show ab_ob 998 [.inr (.inr (some (sw_a a)))] = _
      rw [sw_scr g2]
    · rw [e _ g2, g3]
      show ab_ob 13 [.inr (.inr (some (sw_a v))), .inl 0] = _
      rw [sw_scr g4]
    · rw [e _ g4, g5]; rfl
  · rw [e _ (by omega), h2]; rfl
  · rw [e _ (by omega), h3]
    show ab_ob 998 [.inr (.inr (some (sw_a a3)))] = _
    rw [sw_scr h3b]
  · rw [e _ h3b, h3c]; rfl
  · rw [e _ (by omega), h4]
    show ab_ob 998 [.inr (.inr (some (sw_a a4)))] = _
    rw [sw_scr h4b]
  · rw [e _ h4b, h4c]; rfl
  · rw [e _ (by omega), h5]; rfl
