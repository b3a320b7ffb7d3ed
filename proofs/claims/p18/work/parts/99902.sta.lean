/-! ===== the start: both objects new (own text) ===== -/
def st_I : wd_I := fun a j => cond (Nat.beq a 1 && Nat.beq j 3) (ab_ii (-1)) (ab_ii 0)
def st_P : wd_P := fun a j => cond (Nat.beq a 8) (some (78 + 3 * j)) (cond (Nat.ble 18 a && Nat.blt a 78 && Nat.beq ((a - 18) % 5) 0 && Nat.beq j 2) (some (a + 1)) none)
def st_M : wd_I := fun a j => cond (Nat.beq a 102) (cond (Nat.beq j 8) (ab_ii 12) (ab_ii 0)) (cond (Nat.beq a 106) (ab_nd j) (cond (Nat.beq a 110) (ab_ii (j : Int)) (ab_ii 0)))
def st_g (L : Nat) (xs : Nat → Int32) : Nat → ab_C := ab_up hp_F ab_scr (ab_ia 9 L xs)
theorem st_c : ∀ a, a < 125 → wd_mut a = true → wd_c a (st_I a) (st_P a) (st_M a) = hp_F a := fun a ha h => match a, ha, h with
  | 0, _, h => by first | rfl | exact absurd h (by decide)
  | 1, _, h => by first | rfl | exact absurd h (by decide)
  | 2, _, h => by first | rfl | exact absurd h (by decide)
  | 3, _, h => by first | rfl | exact absurd h (by decide)
  | 4, _, h => by first | rfl | exact absurd h (by decide)
  | 5, _, h => by first | rfl | exact absurd h (by decide)
  | 6, _, h => by first | rfl | exact absurd h (by decide)
  | 7, _, h => by first | rfl | exact absurd h (by decide)
  | 8, _, h => by first | rfl | exact absurd h (by decide)
  | 9, _, h => by first | rfl | exact absurd h (by decide)
  | 10, _, h => by first | rfl | exact absurd h (by decide)
  | 11, _, h => by first | rfl | exact absurd h (by decide)
  | 12, _, h => by first | rfl | exact absurd h (by decide)
  | 13, _, h => by first | rfl | exact absurd h (by decide)
  | 14, _, h => by first | rfl | exact absurd h (by decide)
  | 15, _, h => by first | rfl | exact absurd h (by decide)
  | 16, _, h => by first | rfl | exact absurd h (by decide)
  | 17, _, h => by first | rfl | exact absurd h (by decide)
  | 18, _, h => by first | rfl | exact absurd h (by decide)
  | 19, _, h => by first | rfl | exact absurd h (by decide)
  | 20, _, h => by first | rfl | exact absurd h (by decide)
  | 21, _, h => by first | rfl | exact absurd h (by decide)
  | 22, _, h => by first | rfl | exact absurd h (by decide)
  | 23, _, h => by first | rfl | exact absurd h (by decide)
  | 24, _, h => by first | rfl | exact absurd h (by decide)
  | 25, _, h => by first | rfl | exact absurd h (by decide)
  | 26, _, h => by first | rfl | exact absurd h (by decide)
  | 27, _, h => by first | rfl | exact absurd h (by decide)
  | 28, _, h => by first | rfl | exact absurd h (by decide)
  | 29, _, h => by first | rfl | exact absurd h (by decide)
  | 30, _, h => by first | rfl | exact absurd h (by decide)
  | 31, _, h => by first | rfl | exact absurd h (by decide)
  | 32, _, h => by first | rfl | exact absurd h (by decide)
  | 33, _, h => by first | rfl | exact absurd h (by decide)
  | 34, _, h => by first | rfl | exact absurd h (by decide)
  | 35, _, h => by first | rfl | exact absurd h (by decide)
  | 36, _, h => by first | rfl | exact absurd h (by decide)
  | 37, _, h => by first | rfl | exact absurd h (by decide)
  | 38, _, h => by first | rfl | exact absurd h (by decide)
  | 39, _, h => by first | rfl | exact absurd h (by decide)
  | 40, _, h => by first | rfl | exact absurd h (by decide)
  | 41, _, h => by first | rfl | exact absurd h (by decide)
  | 42, _, h => by first | rfl | exact absurd h (by decide)
  | 43, _, h => by first | rfl | exact absurd h (by decide)
  | 44, _, h => by first | rfl | exact absurd h (by decide)
  | 45, _, h => by first | rfl | exact absurd h (by decide)
  | 46, _, h => by first | rfl | exact absurd h (by decide)
  | 47, _, h => by first | rfl | exact absurd h (by decide)
  | 48, _, h => by first | rfl | exact absurd h (by decide)
  | 49, _, h => by first | rfl | exact absurd h (by decide)
  | 50, _, h => by first | rfl | exact absurd h (by decide)
  | 51, _, h => by first | rfl | exact absurd h (by decide)
  | 52, _, h => by first | rfl | exact absurd h (by decide)
  | 53, _, h => by first | rfl | exact absurd h (by decide)
  | 54, _, h => by first | rfl | exact absurd h (by decide)
  | 55, _, h => by first | rfl | exact absurd h (by decide)
  | 56, _, h => by first | rfl | exact absurd h (by decide)
  | 57, _, h => by first | rfl | exact absurd h (by decide)
  | 58, _, h => by first | rfl | exact absurd h (by decide)
  | 59, _, h => by first | rfl | exact absurd h (by decide)
  | 60, _, h => by first | rfl | exact absurd h (by decide)
  | 61, _, h => by first | rfl | exact absurd h (by decide)
  | 62, _, h => by first | rfl | exact absurd h (by decide)
  | 63, _, h => by first | rfl | exact absurd h (by decide)
  | 64, _, h => by first | rfl | exact absurd h (by decide)
  | 65, _, h => by first | rfl | exact absurd h (by decide)
  | 66, _, h => by first | rfl | exact absurd h (by decide)
  | 67, _, h => by first | rfl | exact absurd h (by decide)
  | 68, _, h => by first | rfl | exact absurd h (by decide)
  | 69, _, h => by first | rfl | exact absurd h (by decide)
  | 70, _, h => by first | rfl | exact absurd h (by decide)
  | 71, _, h => by first | rfl | exact absurd h (by decide)
  | 72, _, h => by first | rfl | exact absurd h (by decide)
  | 73, _, h => by first | rfl | exact absurd h (by decide)
  | 74, _, h => by first | rfl | exact absurd h (by decide)
  | 75, _, h => by first | rfl | exact absurd h (by decide)
  | 76, _, h => by first | rfl | exact absurd h (by decide)
  | 77, _, h => by first | rfl | exact absurd h (by decide)
  | 78, _, h => by first | rfl | exact absurd h (by decide)
  | 79, _, h => by first | rfl | exact absurd h (by decide)
  | 80, _, h => by first | rfl | exact absurd h (by decide)
  | 81, _, h => by first | rfl | exact absurd h (by decide)
  | 82, _, h => by first | rfl | exact absurd h (by decide)
  | 83, _, h => by first | rfl | exact absurd h (by decide)
  | 84, _, h => by first | rfl | exact absurd h (by decide)
  | 85, _, h => by first | rfl | exact absurd h (by decide)
  | 86, _, h => by first | rfl | exact absurd h (by decide)
  | 87, _, h => by first | rfl | exact absurd h (by decide)
  | 88, _, h => by first | rfl | exact absurd h (by decide)
  | 89, _, h => by first | rfl | exact absurd h (by decide)
  | 90, _, h => by first | rfl | exact absurd h (by decide)
  | 91, _, h => by first | rfl | exact absurd h (by decide)
  | 92, _, h => by first | rfl | exact absurd h (by decide)
  | 93, _, h => by first | rfl | exact absurd h (by decide)
  | 94, _, h => by first | rfl | exact absurd h (by decide)
  | 95, _, h => by first | rfl | exact absurd h (by decide)
  | 96, _, h => by first | rfl | exact absurd h (by decide)
  | 97, _, h => by first | rfl | exact absurd h (by decide)
  | 98, _, h => by first | rfl | exact absurd h (by decide)
  | 99, _, h => by first | rfl | exact absurd h (by decide)
  | 100, _, h => by first | rfl | exact absurd h (by decide)
  | 101, _, h => by first | rfl | exact absurd h (by decide)
  | 102, _, h => by first | rfl | exact absurd h (by decide)
  | 103, _, h => by first | rfl | exact absurd h (by decide)
  | 104, _, h => by first | rfl | exact absurd h (by decide)
  | 105, _, h => by first | rfl | exact absurd h (by decide)
  | 106, _, h => by first | rfl | exact absurd h (by decide)
  | 107, _, h => by first | rfl | exact absurd h (by decide)
  | 108, _, h => by first | rfl | exact absurd h (by decide)
  | 109, _, h => by first | rfl | exact absurd h (by decide)
  | 110, _, h => by first | rfl | exact absurd h (by decide)
  | 111, _, h => by first | rfl | exact absurd h (by decide)
  | 112, _, h => by first | rfl | exact absurd h (by decide)
  | 113, _, h => by first | rfl | exact absurd h (by decide)
  | 114, _, h => by first | rfl | exact absurd h (by decide)
  | 115, _, h => by first | rfl | exact absurd h (by decide)
  | 116, _, h => by first | rfl | exact absurd h (by decide)
  | 117, _, h => by first | rfl | exact absurd h (by decide)
  | 118, _, h => by first | rfl | exact absurd h (by decide)
  | 119, _, h => by first | rfl | exact absurd h (by decide)
  | 120, _, h => by first | rfl | exact absurd h (by decide)
  | 121, _, h => by first | rfl | exact absurd h (by decide)
  | 122, _, h => by first | rfl | exact absurd h (by decide)
  | 123, _, h => by first | rfl | exact absurd h (by decide)
  | 124, _, h => by first | rfl | exact absurd h (by decide)
  | a + 125, ha, _ => absurd ha (by omega)
theorem st_wd {L : Nat} {xs : Nat → Int32} : wd st_I st_P st_M (st_g L xs) = st_g L xs := by
  funext a
  cases h : wd_mut a with
  | false => exact wd_g h
  | true =>
    have ha : a < 125 := by
      rcases Nat.lt_or_ge a 125 with q | q
      · exact q
      · rw [wd_mut_new q] at h; cases h
    rw [wd_at h, st_c a ha h]
    exact (ab_up_ne _ _ (show a ≠ 1000000000 by omega)).symm
theorem st_gF {L : Nat} {xs : Nat → Int32} {a : Nat} (h : a < 125) : st_g L xs a = hp_F a := ab_up_ne _ _ (show a ≠ 1000000000 by omega)
theorem wd_mut_s {s r : Nat} (hs : s < 12) (h1 : 1 ≤ r) (h3 : r ≤ 3) : wd_mut (18 + 5 * s + r) = false := by
  unfold wd_mut
  rw [wd_bf (by omega), wd_bt (by omega), show (18 + 5 * s + r - 18) % 5 = r by omega]
  have : r = 1 ∨ r = 2 ∨ r = 3 := by omega
  rcases this with rfl | rfl | rfl <;> rfl
theorem wd_mut_p {a : Nat} (h : 78 ≤ a) (h2 : a < 102) : wd_mut a = false := by
  unfold wd_mut
  rw [wd_bf (by omega), wd_bf (by omega)]
  have : Nat.ble 102 a = false := by
    cases e : Nat.ble 102 a with
    | false => rfl
    | true => exact absurd (Nat.le_of_ble_eq_true e) (by omega)
  rw [this]
  rfl
def st_T (a : Nat) : Prop := ∃ s, s < 12 ∧ a = 18 + 5 * s + 1
theorem st_W {L : Nat} {xs : Nat → Int32} : c_W st_T (st_g L xs) 125 := fun a ha => by
  obtain ⟨s, hs, rfl⟩ := ha
  refine ⟨⟨wd_mut_s hs (by omega) (by omega), by omega⟩, ab_ii 0, ab_ii 0, ab_ii 1, ab_ii 0, 18 + 5 * s + 2, 18 + 5 * s + 3, 0, 0, fun _ => ab_ii 0, fun _ => none, (st_gF (by omega)).trans (hp_F_s1 hs), ⟨⟨wd_mut_s hs (by omega) (by omega), by omega⟩, (st_gF (by omega)).trans (hp_F_s2 hs), by omega⟩, ⟨⟨wd_mut_s hs (by omega) (by omega), by omega⟩, (st_gF (by omega)).trans (hp_F_s3 hs), by omega⟩, fun j hj => absurd hj (Nat.not_lt_zero _)⟩
theorem st_P_s {s : Nat} (hs : s < 12) : st_P (18 + 5 * s) 2 = some (18 + 5 * s + 1) := by
  unfold st_P
  have e1 : Nat.beq (18 + 5 * s) 8 = false := by
    cases e : Nat.beq (18 + 5 * s) 8 with
    | false => rfl
    | true => exact absurd (Nat.eq_of_beq_eq_true e) (by omega)
  rw [e1, Nat.ble_eq.mpr (show 18 ≤ 18 + 5 * s by omega), wd_bt (show 18 + 5 * s < 78 by omega), show (18 + 5 * s - 18) % 5 = 0 by omega]
  rfl
theorem st_I_0 {a j : Nat} (h : a ≠ 1 ∨ j ≠ 3) : st_I a j = ab_ii 0 := by
  unfold st_I
  have : (Nat.beq a 1 && Nat.beq j 3) = false := by
    cases e : (Nat.beq a 1 && Nat.beq j 3) with
    | false => rfl
    | true =>
      rw [Bool.and_eq_true] at e
      have := Nat.eq_of_beq_eq_true e.1
      have := Nat.eq_of_beq_eq_true e.2
      omega
  rw [this]
  rfl
theorem st_k {L : Nat} {xs : Nat → Int32} : k_ok st_T st_I st_P (st_g L xs) 125 := by
  refine ⟨st_W, Nat.le_refl _, by rw [st_I_0 (Or.inl (by omega))]; decide, fun j hj => ⟨0, st_I_0 (Or.inl (by omega)), by omega, ⟨_, st_P_s hj, j, hj, rfl⟩, fun i hi => absurd hi (Nat.not_lt_zero _)⟩, fun p hp => ⟨78 + 3 * p, rfl, ⟨wd_mut_p (by omega) (by omega), by omega⟩, 78 + 3 * p + 1, 78 + 3 * p + 2, 0, fun _ => ab_ii 0, fun _ => ab_ii 0, (st_gF (by omega)).trans (hp_F_p0 hp), ⟨⟨wd_mut_p (by omega) (by omega), by omega⟩, (st_gF (by omega)).trans (hp_F_p1 hp)⟩, ⟨⟨wd_mut_p (by omega) (by omega), by omega⟩, (st_gF (by omega)).trans (hp_F_p2 hp)⟩, by omega⟩, ⟨0, st_I_0 (Or.inr (by omega)), by omega⟩, fun q => absurd (by rw [st_I_0 (Or.inl (by omega))]; decide) q⟩
theorem st_m : m_ok st_M := by
  have e8 : st_M 102 8 = ab_ii 12 := rfl
  have e9 : st_M 102 9 = ab_ii 0 := rfl
  have z0 : (ab_ii 0).toInt = 0 := by decide
  have z12 : (ab_ii 12).toInt = 12 := by decide
  refine ⟨⟨by rw [e8, z12]; omega, fun t ht => ?_⟩, by rw [e8, e9, z0, z12]; omega, by unfold m_rm; rw [e8, e9, z0, z12]; omega, fun j hj => ?_, fun p hp => ?_, fun j hj => ⟨0, rfl, by omega, fun i hi => absurd hi (Nat.not_lt_zero _)⟩, ⟨0, rfl, by omega⟩, fun p hp => ?_, fun q => absurd z0 q⟩
  · rw [e8, z12] at ht
    have en : st_M 106 t = ab_ii 1 := ab_nd_lt (by omega)
    have e1 : (ab_ii 1).toInt = 1 := by decide
    refine ⟨⟨0, z0, by omega, ⟨by show 0 ≤ (ab_ii 0).toInt; rw [z0]; omega, by show (ab_ii 0).toInt ≤ 4; rw [z0]; omega⟩, by show 0 ≤ (ab_ii 0).toInt; rw [z0]; omega, fun j hj => absurd hj (Nat.not_lt_zero _), ⟨by rw [en, e1]; omega, by rw [en, e1]; rfl⟩, fun _ => rfl, fun _ j hj => absurd hj (Nat.not_lt_zero _), fun _ j hj => absurd hj (by omega)⟩, by rw [en, e1]; omega, by show (ab_ii 0).toInt ≤ 12; rw [z0]; omega⟩
  · have e : st_M 110 j = ab_ii (j : Int) := rfl
    rw [e, e8, z12, ab_tI (by omega) (by omega)]
    omega
  · have e : st_M 115 p = ab_ii 0 := rfl
    rw [e, z0]
    omega
  · have e : st_M 119 p = ab_ii 0 := rfl
    rw [e, z0]
    omega
theorem st_rm : k_rm 512 st_I 125 95419 := by
  unfold k_rm
  rw [st_I_0 (Or.inl (by omega)), show (ab_ii 0).toInt = 0 from by decide]
  omega
/-! the script's cell stays -/
theorem ab_CT_k {d n : Nat} {args : List ab_V} {h : ab_H} {Q : ab_Q} (hk : ab_CT d n args h (fun r h' => h'.1 ab_scr = h.1 ab_scr → Q r h')) : ab_CT d n args h Q := by
  intro hd l D cT b0 b L xs
  have h0 := hk hd l D cT b0 b L xs
  intro p e ha hc hkk s m av below hf hx hP ht
  obtain ⟨t, o, h1, h2, h3, mc, ms, Lc, q1, q2, r, h', q3, q4, q5, q6, q7, q8⟩ := h0 p e ha hc hkk s m av below hf hx hP ht
  exact ⟨t, o, h1, h2, h3, mc, ms, Lc, q1, q2, r, h', q3, q4, q5, q6, q7 (q4.2.2.2.1.trans hP.2.2.1.2.2.2.1.symm), q8⟩
theorem wd_rnL {Q : ab_Q} {pc : Nat} {ls : ab_L} {st : List ab_V} {h : ab_H} (hgo : ∀ (C : ab_F) (X : ab_J), (∀ y args h Q, ab_CT 2047 y args h Q → C y args h Q) → (∀ pc ls st h, ab_WB 2048 201 Q pc ls st h → X pc ls st h) → ab_go C Q X (ab_from pc (ab_kd 201)) ls st h) : ab_WB 2048 201 Q pc ls st h := ab_run ab_okAll okL_law (hgo _ _ (fun _ _ _ _ h => h) (fun _ _ _ _ h => h))
