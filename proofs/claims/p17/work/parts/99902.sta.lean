section
/-! ===== the start: both objects new (own text) ===== -/
def st_I : wd_I := fun a j => cond (Nat.beq a 1 && Nat.beq j 3) (ab_ii (-1)) (ab_ii 0)
def st_P : wd_P := fun a j => cond (Nat.beq a 8) (some (78 + 3 * j)) (cond (Nat.ble 18 a && Nat.blt a 78 && Nat.beq ((a - 18) % 5) 0 && Nat.beq j 2) (some (a + 1)) none)
def st_M : wd_I := fun a j => cond (Nat.beq a 102) (cond (Nat.beq j 8) (ab_ii 12) (ab_ii 0)) (cond (Nat.beq a 106) (ab_nd j) (cond (Nat.beq a 110) (ab_ii (j : Int)) (ab_ii 0)))
def st_g (L : Nat) (xs : Nat → Int32) : Nat → ab_C := ab_up hp_F ab_scr (ab_ia 9 L xs)
theorem st_c : ∀ a, a < 125 → wd_mut a = true → wd_c a (st_I a) (st_P a) (st_M a) = hp_F a := fun a ha h => match a, ha, h with
  | 0, _, h => by first | rfl | exact absurd h (by decide)
  | 1, _, h => by first | rfl | exact absurd h (by decide)
  | 2, _, h => by first | rfl | exact absurd h (by decide)
  | 3, _, h => by first | rfl | exact absurd h (by decide)
  | 4, _, h => by first | rfl | exact absurd h (by decide)
  | 5, _, h => by first | rfl | exact absurd h (by decide)
  | 6, _, h => by first | rfl | exact absurd h (by decide)
  | 7, _, h => by first | rfl | exact absurd h (by decide)
  | 8, _, h => by first | rfl | exact absurd h (by decide)
  | 9, _, h => by first | rfl | exact absurd h (by decide)
  | 10, _, h => by first | rfl | exact absurd h (by decide)
  | 11, _, h => by first | rfl | exact absurd h (by decide)
  | 12, _, h => by first | rfl | exact absurd h (by decide)
  | 13, _, h => by first | rfl | exact absurd h (by decide)
  | 14, _, h => by first | rfl | exact absurd h (by decide)
  | 15, _, h => by first | rfl | exact absurd h (by decide)
  | 16, _, h => by first | rfl | exact absurd h (by decide)
  | 17, _, h => by first | rfl | exact absurd h (by decide)
  | 18, _, h => by first | rfl | exact absurd h (by decide)
  | 19, _, h => by first | rfl | exact absurd h (by decide)
  | 20, _, h => by first | rfl | exact absurd h (by decide)
  | 21, _, h => by first | rfl | exact absurd h (by decide)
  | 22, _, h => by first | rfl | exact absurd h (by decide)
  | 23, _, h => by first | rfl | exact absurd h (by decide)
  | 24, _, h => by first | rfl | exact absurd h (by decide)
  | 25, _, h => by first | rfl | exact absurd h (by decide)
  | 26, _, h => by first | rfl | exact absurd h (by decide)
  | 27, _, h => by first | rfl | exact absurd h (by decide)
  | 28, _, h => by first | rfl | exact absurd h (by decide)
  | 29, _, h => by first | rfl | exact absurd h (by decide)
  | 30, _, h => by first | rfl | exact absurd h (by decide)
  | 31, _, h => by first | rfl | exact absurd h (by decide)
  | 32, _, h => by first | rfl | exact absurd h (by decide)
  | 33, _, h => by first | rfl | exact absurd h (by decide)
  | 34, _, h => by first | rfl | exact absurd h (by decide)
  | 35, _, h => by first | rfl | exact absurd h (by decide)
  | 36, _, h => by first | rfl | exact absurd h (by decide)
  | 37, _, h => by first | rfl | exact absurd h (by decide)
  | 38, _, h => by first | rfl | exact absurd h (by decide)
  | 39, _, h => by first | rfl | exact absurd h (by decide)
  | 40, _, h => by first | rfl | exact absurd h (by decide)
  | 41, _, h => by first | rfl | exact absurd h (by decide)
  | 42, _, h => by first | rfl | exact absurd h (by decide)
  | 43, _, h => by first | rfl | exact absurd h (by decide)
  | 44, _, h => by first | rfl | exact absurd h (by decide)
  | 45, _, h => by first | rfl | exact absurd h (by decide)
  | 46, _, h => by first | rfl | exact absurd h (by decide)
  | 47, _, h => by first | rfl | exact absurd h (by decide)
  | 48, _, h => by first | rfl | exact absurd h (by decide)
  | 49, _, h => by first | rfl | exact absurd h (by decide)
  | 50, _, h => by first | rfl | exact absurd h (by decide)
  | 51, _, h => by first | rfl | exact absurd h (by decide)
  | 52, _, h => by first | rfl | exact absurd h (by decide)
  | 53, _, h => by first | rfl | exact absurd h (by decide)
  | 54, _, h => by first | rfl | exact absurd h (by decide)
  | 55, _, h => by first | rfl | exact absurd h (by decide)
  | 56, _, h => by first | rfl | exact absurd h (by decide)
  | 57, _, h => by first | rfl | exact absurd h (by decide)
  | 58, _, h => by first | rfl | exact absurd h (by decide)
  | 59, _, h => by first | rfl | exact absurd h (by decide)
  | 60, _, h => by first | rfl | exact absurd h (by decide)
  | 61, _, h => by first | rfl | exact absurd h (by decide)
  | 62, _, h => by first | rfl | exact absurd h (by decide)
  | 63, _, h => by first | rfl | exact absurd h (by decide)
  | 64, _, h => by first | rfl | exact absurd h (by decide)
  | 65, _, h => by first | rfl | exact absurd h (by decide)
  | 66, _, h => by first | rfl | exact absurd h (by decide)
  | 67, _, h => by first | rfl | exact absurd h (by decide)
  | 68, _, h => by first | rfl | exact absurd h (by decide)
  | 69, _, h => by first | rfl | exact absurd h (by decide)
  | 70, _, h => by first | rfl | exact absurd h (by decide)
  | 71, _, h => by first | rfl | exact absurd h (by decide)
  | 72, _, h => by first | rfl | exact absurd h (by decide)
  | 73, _, h => by first | rfl | exact absurd h (by decide)
  | 74, _, h => by first | rfl | exact absurd h (by decide)
  | 75, _, h => by first | rfl | exact absurd h (by decide)
  | 76, _, h => by first | rfl | exact absurd h (by decide)
  | 77, _, h => by first | rfl | exact absurd h (by decide)
  | 78, _, h => by first | rfl | exact absurd h (by decide)
  | 79, _, h => by first | rfl | exact absurd h (by decide)
  | 80, _, h => by first | rfl | exact absurd h (by decide)
  | 81, _, h => by first | rfl | exact absurd h (by decide)
  | 82, _, h => by first | rfl | exact absurd h (by decide)
  | 83, _, h => by first | rfl | exact absurd h (by decide)
  | 84, _, h => by first | rfl | exact absurd h (by decide)
  | 85, _, h => by first | rfl | exact absurd h (by decide)
  | 86, _, h => by first | rfl | exact absurd h (by decide)
  | 87, _, h => by first | rfl | exact absurd h (by decide)
  | 88, _, h => by first | rfl | exact absurd h (by decide)
  | 89, _, h => by first | rfl | exact absurd h (by decide)
  | 90, _, h => by first | rfl | exact absurd h (by decide)
  | 91, _, h => by first | rfl | exact absurd h (by decide)
  | 92, _, h => by first | rfl | exact absurd h (by decide)
  | 93, _, h => by first | rfl | exact absurd h (by decide)
  | 94, _, h => by first | rfl | exact absurd h (by decide)
  | 95, _, h => by first | rfl | exact absurd h (by decide)
  | 96, _, h => by first | rfl | exact absurd h (by decide)
  | 97, _, h => by first | rfl | exact absurd h (by decide)
  | 98, _, h => by first | rfl | exact absurd h (by decide)
  | 99, _, h => by first | rfl | exact absurd h (by decide)
  | 100, _, h => by first | rfl | exact absurd h (by decide)
  | 101, _, h => by first | rfl | exact absurd h (by decide)
  | 102, _, h => by first | rfl | exact absurd h (by decide)
  | 103, _, h => by first | rfl | exact absurd h (by decide)
  | 104, _, h => by first | rfl | exact absurd h (by decide)
  | 105, _, h => by first | rfl | exact absurd h (by decide)
  | 106, _, h => by first | rfl | exact absurd h (by decide)
  | 107, _, h => by first | rfl | exact absurd h (by decide)
  | 108, _, h => by first | rfl | exact absurd h (by decide)
  | 109, _, h => by first | rfl | exact absurd h (by decide)
  | 110, _, h => by first | rfl | exact absurd h (by decide)
  | 111, _, h => by first | rfl | exact absurd h (by decide)
  | 112, _, h => by first | rfl | exact absurd h (by decide)
  | 113, _, h => by first | rfl | exact absurd h (by decide)
  | 114, _, h => by first | rfl | exact absurd h (by decide)
  | 115, _, h => by first | rfl | exact absurd h (by decide)
  | 116, _, h => by first | rfl | exact absurd h (by decide)
  | 117, _, h => by first | rfl | exact absurd h (by decide)
  | 118, _, h => by first | rfl | exact absurd h (by decide)
  | 119, _, h => by first | rfl | exact absurd h (by decide)
  | 120, _, h => by first | rfl | exact absurd h (by decide)
  | 121, _, h => by first | rfl | exact absurd h (by decide)
  | 122, _, h => by first | rfl | exact absurd h (by decide)
  | 123, _, h => by first | rfl | exact absurd h (by decide)
  | 124, _, h => by first | rfl | exact absurd h (by decide)
  | a + 125, ha, _ => absurd ha (by omega)
theorem st_wd {L : Nat} {xs : Nat → Int32} : wd st_I st_P st_M (st_g L xs) = st_g L xs := by
  funext a
  cases h : wd_mut a with
  | false => exact wd_g h
  | true =>
    have ha : a < 125 := by
      rcases Nat.lt_or_ge a 125 with q | q
      · exact q
      · rw [wd_mut_new q] at h; cases h
    rw [wd_at h, st_c a ha h]
    exact (ab_up_ne _ _ (show a ≠ 1000000000 by omega)).symm
theorem st_gF {L : Nat} {xs : Nat → Int32} {a : Nat} (h : a < 125) : st_g L xs a = hp_F a := ab_up_ne _ _ (show a ≠ 1000000000 by omega)
theorem wd_mut_s {s r : Nat} (hs : s < 12) (h1 : 1 ≤ r) (h3 : r ≤ 3) : wd_mut (18 + 5 * s + r) = false := by
  unfold wd_mut
  rw [wd_bf (by omega), wd_bt (by omega), show (18 + 5 * s + r - 18) % 5 = r by omega]
  have : r = 1 ∨ r = 2 ∨ r = 3 := by omega
  rcases this with rfl | rfl | rfl <;> rfl
theorem wd_mut_p {a : Nat} (h : 78 ≤ a) (h2 : a < 102) : wd_mut a = false := by
  unfold wd_mut
  rw [wd_bf (by omega), wd_bf (by omega)]
  have : Nat.ble 102 a = false := by
    cases e : Nat.ble 102 a with
    | false => rfl
    | true => exact absurd (Nat.le_of_ble_eq_true e) (by omega)
  rw [this]
  rfl
def st_T (a : Nat) : Prop := ∃ s, s < 12 ∧ a = 18 + 5 * s + 1
theorem st_W {L : Nat} {xs : Nat → Int32} : c_W st_T (st_g L xs) 125 := fun a ha => by
  obtain ⟨s, hs, rfl⟩ := ha
  refine ⟨⟨wd_mut_s hs (by omega) (by omega), by omega⟩, ab_ii 0, ab_ii 0, ab_ii 1, ab_ii 0, 18 + 5 * s + 2, 18 + 5 * s + 3, 0, 0, fun _ => ab_ii 0, fun _ => none, (st_gF (by omega)).trans (hp_F_s1 hs), ⟨⟨wd_mut_s hs (by omega) (by omega), by omega⟩, (st_gF (by omega)).trans (hp_F_s2 hs), by omega⟩, ⟨⟨wd_mut_s hs (by omega) (by omega), by omega⟩, (st_gF (by omega)).trans (hp_F_s3 hs), by omega⟩, fun j hj => absurd hj (Nat.not_lt_zero _)⟩
theorem st_P_s {s : Nat} (hs : s < 12) : st_P (18 + 5 * s) 2 = some (18 + 5 * s + 1) := by
  unfold st_P
  have e1 : Nat.beq (18 + 5 * s) 8 = false := by
    cases e : Nat.beq (18 + 5 * s) 8 with
    | false => rfl
    | true => exact absurd (Nat.eq_of_beq_eq_true e) (by omega)
  rw [e1, Nat.ble_eq.mpr (show 18 ≤ 18 + 5 * s by omega), wd_bt (show 18 + 5 * s < 78 by omega), show (18 + 5 * s - 18) % 5 = 0 by omega]
  rfl
theorem st_I_0 {a j : Nat} (h : a ≠ 1 ∨ j ≠ 3) : st_I a j = ab_ii 0 := by
  unfold st_I
  have : (Nat.beq a 1 && Nat.beq j 3) = false := by
    cases e : (Nat.beq a 1 && Nat.beq j 3) with
    | false => rfl
    | true =>
      rw [Bool.and_eq_true] at e
      have := Nat.eq_of_beq_eq_true e.1
      have := Nat.eq_of_beq_eq_true e.2
      omega
  rw [this]
  rfl
theorem st_k {L : Nat} {xs : Nat → Int32} : k_ok st_T st_I st_P (st_g L xs) 125 := by
  refine ⟨st_W, Nat.le_refl _, by rw [st_I_0 (Or.inl (by omega))]; decide, fun j hj => ⟨0, st_I_0 (Or.inl (by omega)), by omega, ⟨_, st_P_s hj, j, hj, rfl⟩, fun i hi => absurd hi (Nat.not_lt_zero _)⟩, fun p hp => ⟨78 + 3 * p, rfl, ⟨wd_mut_p (by omega) (by omega), by omega⟩, 78 + 3 * p + 1, 78 + 3 * p + 2, 0, fun _ => ab_ii 0, fun _ => ab_ii 0, (st_gF (by omega)).trans (hp_F_p0 hp), ⟨⟨wd_mut_p (by omega) (by omega), by omega⟩, (st_gF (by omega)).trans (hp_F_p1 hp)⟩, ⟨⟨wd_mut_p (by omega) (by omega), by omega⟩, (st_gF (by omega)).trans (hp_F_p2 hp)⟩, by omega⟩, ⟨0, st_I_0 (Or.inr (by omega)), by omega⟩, fun q => absurd (by rw [st_I_0 (Or.inl (by omega))]; decide) q⟩
theorem st_m : m_ok st_M := by
  have e8 : st_M 102 8 = ab_ii 12 := rfl
  have e9 : st_M 102 9 = ab_ii 0 := rfl
  have z0 : (ab_ii 0).toInt = 0 := by decide
  have z12 : (ab_ii 12).toInt = 12 := by decide
  refine ⟨⟨by rw [e8, z12]; omega, fun t ht => ?_⟩, by rw [e8, e9, z0, z12]; omega, by unfold m_rm; rw [e8, e9, z0, z12]; omega, fun j hj => ?_, fun p hp => ?_, fun j hj => ⟨0, rfl, by omega, fun i hi => absurd hi (Nat.not_lt_zero _)⟩, ⟨0, rfl, by omega⟩, fun p hp => ?_, fun q => absurd z0 q⟩
  · rw [e8, z12] at ht
    have en : st_M 106 t = ab_ii 1 := ab_nd_lt (by omega)
    have e1 : (ab_ii 1).toInt = 1 := by decide
    refine ⟨⟨0, z0, by omega, ⟨by show 0 ≤ (ab_ii 0).toInt; rw [z0]; omega, by show (ab_ii 0).toInt ≤ 4; rw [z0]; omega⟩, by show 0 ≤ (ab_ii 0).toInt; rw [z0]; omega, fun j hj => absurd hj (Nat.not_lt_zero _), ⟨by rw [en, e1]; omega, by rw [en, e1]; rfl⟩, fun _ => rfl, fun _ j hj => absurd hj (Nat.not_lt_zero _), fun _ j hj => absurd hj (by omega)⟩, by rw [en, e1]; omega, by show (ab_ii 0).toInt ≤ 12; rw [z0]; omega⟩
  · have e : st_M 110 j = ab_ii (j : Int) := rfl
    rw [e, e8, z12, ab_tI (by omega) (by omega)]
    omega
  · have e : st_M 115 p = ab_ii 0 := rfl
    rw [e, z0]
    omega
  · have e : st_M 119 p = ab_ii 0 := rfl
    rw [e, z0]
    omega
theorem st_rm : k_rm 512 st_I 125 95419 := by
  unfold k_rm
  rw [st_I_0 (Or.inl (by omega)), show (ab_ii 0).toInt = 0 from by decide]
  omega
/-! the script's cell stays -/
theorem ab_CT_k {d n : Nat} {args : List ab_V} {h : ab_H} {Q : ab_Q} (hk : ab_CT d n args h (fun r h' => h'.1 ab_scr = h.1 ab_scr → Q r h')) : ab_CT d n args h Q := by
  intro hd l D cT b0 b L xs
  have h0 := hk hd l D cT b0 b L xs
  intro p e ha hc hkk s m av below hf hx hP ht
  obtain ⟨t, o, h1, h2, h3, mc, ms, Lc, q1, q2, r, h', q3, q4, q5, q6, q7, q8⟩ := h0 p e ha hc hkk s m av below hf hx hP ht
  exact ⟨t, o, h1, h2, h3, mc, ms, Lc, q1, q2, r, h', q3, q4, q5, q6, q7 (q4.2.2.2.1.trans hP.2.2.1.2.2.2.1.symm), q8⟩
theorem wd_rnL {Q : ab_Q} {pc : Nat} {ls : ab_L} {st : List ab_V} {h : ab_H} (hgo : ∀ (C : ab_F) (X : ab_J), (∀ y args h Q, ab_CT 2047 y args h Q → C y args h Q) → (∀ pc ls st h, ab_WB 2048 201 Q pc ls st h → X pc ls st h) → ab_go C Q X (ab_from pc (ab_kd 201)) ls st h) : ab_WB 2048 201 Q pc ls st h := ab_run ab_okAll okL_law (hgo _ _ (fun _ _ _ _ h => h) (fun _ _ _ _ h => h))
end
section
/-! ===== both objects: things alike (own text) ===== -/
/-- a, a thing of the class, and t, one of the reference, hold the same; their parts are paired -/
def h_pr (F : Nat → Int32 → Prop) (g : Nat → ab_C) (M : wd_I) (a : Nat) (t : Int32) : Prop := c_i g a 0 = M 103 t.toInt.toNat ∧ c_i g a 1 = M 104 t.toInt.toNat ∧ c_i g a 2 = M 106 t.toInt.toNat ∧ c_i g a 3 = M 107 t.toInt.toNat ∧ (c_sz g a : Int) = (M 105 t.toInt.toNat).toInt ∧ ∀ j, j < c_sz g a → c_ky g a j = M 109 (12 * t.toInt.toNat + j) ∧ F (c_pt g a j) (M 108 (12 * t.toInt.toNat + j))
def h_ok (F : Nat → Int32 → Prop) (T : Nat → Prop) (g : Nat → ab_C) (M : wd_I) (n : Int) : Prop := (∀ a t, F a t → (T a ∧ 0 ≤ t.toInt ∧ t.toInt < n) ∧ h_pr F g M a t) ∧ (∀ a t t', F a t → F a t' → t = t') ∧ (∀ a a' t, F a t → F a' t → a = a')
section
variable {F : Nat → Int32 → Prop} {T : Nat → Prop} {g : Nat → ab_C} {M : wd_I} {n : Int}
theorem h_ok.inT (h : h_ok F T g M n) {a : Nat} {t : Int32} (hp : F a t) : T a := (h.1 a t hp).1.1
theorem h_ok.b (h : h_ok F T g M n) {a : Nat} {t : Int32} (hp : F a t) : 0 ≤ t.toInt ∧ t.toInt < n := (h.1 a t hp).1.2
theorem h_ok.p (h : h_ok F T g M n) {a : Nat} {t : Int32} (hp : F a t) : h_pr F g M a t := (h.1 a t hp).2
theorem h_ok.eq (h : h_ok F T g M n) {a b : Nat} {t u : Int32} (hp : F a t) (hq : F b u) : a = b ↔ t.toInt = u.toInt := by
  constructor
  · intro e; subst e; rw [h.2.1 a t u hp hq]
  · intro e
    have := Int32.toInt_inj.mp e
    subst this
    exact h.2.2 a b t hp hq
/-- a row's facts, and its parts' heights -/
theorem h_ok.row (h : h_ok F T g M n) (hT : m_T M n) {a : Nat} {t : Int32} (hp : F a t) : (M 105 t.toInt.toNat).toInt.toNat = c_sz g a ∧ c_sz g a ≤ 12 ∧ (0 ≤ (M 107 t.toInt.toNat).toInt ∧ (M 107 t.toInt.toNat).toInt ≤ 12) ∧ (1 ≤ (M 106 t.toInt.toNat).toInt ∧ (M 106 t.toInt.toNat).toInt ≤ 200) ∧ (0 ≤ (M 103 t.toInt.toNat).toInt ∧ (M 103 t.toInt.toNat).toInt ≤ 4) ∧ ((M 103 t.toInt.toNat).toInt = 0 → c_sz g a = 0) ∧ ∀ j, j < c_sz g a → (M 107 (M 108 (12 * t.toInt.toNat + j)).toInt.toNat).toInt < (M 107 t.toInt.toNat).toInt := by
  obtain ⟨b0, b1⟩ := h.b hp
  obtain ⟨-, -, -, -, e5, -⟩ := h.p hp
  obtain ⟨s, r1, r2, r3, r4, r5, r6, -, -, r9, -⟩ := m_T_row hT (t := t.toInt.toNat) (by omega)
  refine ⟨by omega, by omega, r4, r5, r3, fun q => by have := r9 q; omega, fun j hj => (r6 j (by omega)).2.2.1⟩
theorem h_lex {G : Nat → Nat → Int} {G' : Int32 → Int32 → Int} {a b : Nat} {t u : Int32} (ha : h_pr F g M a t) (hb : h_pr F g M b u) (hG : ∀ j, j < c_sz g a → j < c_sz g b → G (c_pt g a j) (c_pt g b j) = G' (M 108 (12 * t.toInt.toNat + j)) (M 108 (12 * u.toInt.toNat + j))) : ∀ r j, j + r = min (c_sz g a) (c_sz g b) → c_lex G g a b r j = m_lex G' M t.toInt.toNat u.toInt.toNat r j
  | 0, j, _ => by
    have e1 := ha.2.2.2.2.1
    have e2 := hb.2.2.2.2.1
    unfold c_lex m_lex
    rw [← e1, ← e2]
    simp only [Int.ofNat_lt]
  | r + 1, j, hj => by
    have ih := h_lex ha hb hG r (j + 1) (by omega)
    obtain ⟨k1, -⟩ := ha.2.2.2.2.2 j (by omega)
    obtain ⟨k2, -⟩ := hb.2.2.2.2.2 j (by omega)
    unfold c_lex m_lex
    rw [k1, k2, ih, hG j (by omega) (by omega)]
theorem h_cmp (h : h_ok F T g M n) (hT : m_T M n) : ∀ (f f' : Nat) (a b : Nat) (t u : Int32), F a t → F b u → (M 107 t.toInt.toNat).toInt < (f : Int) → (M 107 t.toInt.toNat).toInt < (f' : Int) → c_cmp g f a b = m_cmp M f' t u
  | 0, f', a, b, t, u, ha, hb, h1, h2 => by have := (h.row hT ha).2.2.1; omega
  | f + 1, 0, a, b, t, u, ha, hb, h1, h2 => by have := (h.row hT ha).2.2.1; omega
  | f + 1, f' + 1, a, b, t, u, ha, hb, h1, h2 => by
    obtain ⟨s1, -, -, -, -, -, s7⟩ := h.row hT ha
    obtain ⟨u1, -⟩ := h.row hT hb
    have pa := h.p ha
    have pb := h.p hb
    have hl := h_lex (G := c_cmp g f) (G' := m_cmp M f') pa pb (fun j j1 j2 => h_cmp h hT f f' _ _ _ _ (pa.2.2.2.2.2 j j1).2 (pb.2.2.2.2.2 j j2).2 (by have := s7 j j1; omega) (by have := s7 j j1; omega)) _ 0 (Nat.zero_add _)
    have he := h.eq ha hb
    unfold c_cmp m_cmp
    rw [s1, u1, pa.1, pa.2.1, pb.1, pb.2.1, hl]
    by_cases e : a = b
    · rw [if_pos e, if_pos (he.mp e)]
    · rw [if_neg e, if_neg (fun q => e (he.mpr q))]
/-- as the calls ask: enough fuel on both sides -/
theorem h_cmp41 (h : h_ok F T g M n) (hT : m_T M n) {f' : Nat} (hf : 13 ≤ f') {a b : Nat} {t u : Int32} (ha : F a t) (hb : F b u) : c_cmp g 41 a b = m_cmp M f' t u := by
  have := (h.row hT ha).2.2.1
  exact h_cmp h hT 41 f' a b t u ha hb (by omega) (by omega)
end
/-! paths alike -/
def q_s (x : Int) : Int := if x = 46 then 0 else if x = 47 then 1 else if x = 36 then 2 else if x = 35 then 3 else if x = 42 then 4 else if x = 126 then 5 else if x = 37 then 6 else if x = 60 then 7 else if x = 61 then 8 else 9
def h_pt (g : Nat → ab_C) (M : wd_I) (rs rw rn p q : Nat) : Prop := (p_n g p : Int) = (M rn q).toInt ∧ p_n g p ≤ 8 ∧ ∀ i, i < p_n g p → q_s (p_sg g p i).toInt = (M rs (8 * q + i)).toInt ∧ p_wd g p i = M rw (8 * q + i)
section
variable {F : Nat → Int32 → Prop} {T : Nat → Prop} {g : Nat → ab_C} {M : wd_I} {n : Int} {p q : Nat}
theorem h_keep {a i : Nat} {t : Int32} (hp : h_pt g M 113 114 115 p q) (hi : i < p_n g p) (ha : h_pr F g M a t) : p_keep g p i a ↔ m_self M q t.toInt.toNat i := by
  obtain ⟨s1, s2⟩ := hp.2.2 i hi
  obtain ⟨e0, e1, e2, -⟩ := ha
  unfold p_keep m_self
  rw [← s1, ← s2, ← e0, ← e1, ← e2]
  unfold q_s
  constructor
  · rintro (⟨c1, c2⟩ | ⟨c1, c2, c3⟩ | ⟨c1, c2⟩)
    · rw [c1]; exact Or.inr (Or.inl ⟨by decide, c2⟩)
    · rw [c1]; exact Or.inr (Or.inr ⟨by decide, c2, c3⟩)
    · rw [c1]; exact Or.inl ⟨by decide, c2⟩
  · rintro (⟨c1, c2⟩ | ⟨c1, c2⟩ | ⟨c1, c2, c3⟩)
    · exact Or.inr (Or.inr ⟨by revert c1; repeat' split <;> omega, c2⟩)
    · exact Or.inl ⟨by revert c1; repeat' split <;> omega, c2⟩
    · exact Or.inr (Or.inl ⟨by revert c1; repeat' split <;> omega, c2, c3⟩)
theorem q_s_b {x : Int} : (q_s x = 0 ↔ x = 46) ∧ (q_s x = 1 ↔ x = 47) ∧ (q_s x = 2 ↔ x = 36) ∧ (q_s x = 3 ↔ x = 35) ∧ (q_s x = 4 ↔ x = 42) ∧ (q_s x = 5 ↔ x = 126) ∧ (q_s x = 6 ↔ x = 37) ∧ (q_s x = 7 ↔ x = 60) ∧ (q_s x = 8 ↔ x = 61) := by
  unfold q_s
  repeat' split
  all_goals omega
theorem h_ent {a i j : Nat} {t : Int32} (hp : h_pt g M 113 114 115 p q) (hi : i < p_n g p) (ha : h_pr F g M a t) (hj : j < c_sz g a) : p_ent g p i a j ↔ m_part M q t.toInt.toNat i j := by
  obtain ⟨s1, s2⟩ := hp.2.2 i hi
  obtain ⟨e0, e1, -, -, -, e5⟩ := ha
  obtain ⟨k1, -⟩ := e5 j hj
  obtain ⟨q0, q1, q2, q3, q4, q5, q6, -, -⟩ := q_s_b (x := (p_sg g p i).toInt)
  unfold p_ent m_part
  rw [← s1, ← s2, ← e0, ← e1, ← k1, q0, q1, q2, q3, q4, q5, q6]
theorem h_nx {i : Nat} (hp : h_pt g M 113 114 115 p q) (hi : i < p_n g p) : p_nx g p i = m_nxt M q i := by
  obtain ⟨s1, -⟩ := hp.2.2 i hi
  obtain ⟨-, -, -, -, -, -, q6, -⟩ := q_s_b (x := (p_sg g p i).toInt)
  unfold p_nx m_nxt
  rw [← s1]
  by_cases c : (p_sg g p i).toInt = 37
  · rw [if_pos c, if_pos (q6.mpr c)]
  · rw [if_neg c, if_neg (fun e => c (q6.mp e))]
end
/-! rows of things alike -/
def h_ls (F : Nat → Int32 → Prop) : List Nat → List Int32 → Prop
  | [], [] => True
  | a :: l, t :: l' => F a t ∧ h_ls F l l'
  | _, _ => False
theorem h_ls.app {F : Nat → Int32 → Prop} : ∀ {l m : List Nat} {l' m' : List Int32}, h_ls F l l' → h_ls F m m' → h_ls F (l ++ m) (l' ++ m')
  | [], m, [], m', _, h => h
  | a :: l, m, t :: l', m', h1, h2 => ⟨h1.1, h_ls.app h1.2 h2⟩
  | [], _, _ :: _, _, h1, _ => False.elim h1
  | _ :: _, _, [], _, h1, _ => False.elim h1
theorem h_ls.len {F : Nat → Int32 → Prop} : ∀ {l : List Nat} {l' : List Int32}, h_ls F l l' → l.length = l'.length
  | [], [], _ => rfl
  | _ :: l, _ :: l', h => by rw [List.length_cons, List.length_cons, h_ls.len h.2]
  | [], _ :: _, h => False.elim h
  | _ :: _, [], h => False.elim h
theorem h_ls.at {F : Nat → Int32 → Prop} : ∀ {l : List Nat} {l' : List Int32}, h_ls F l l' → ∀ j, j < l.length → F (l.getD j 0) (l'.getD j 0)
  | [], [], _, j, hj => absurd hj (Nat.not_lt_zero _)
  | a :: l, t :: l', h, 0, _ => h.1
  | a :: l, t :: l', h, j + 1, hj => h_ls.at h.2 j (Nat.lt_of_succ_lt_succ hj)
  | [], _ :: _, h, _, _ => False.elim h
  | _ :: _, [], h, _, _ => False.elim h
section
variable {F : Nat → Int32 → Prop} {T : Nat → Prop} {g : Nat → ab_C} {M : wd_I} {n : Int} {p q : Nat}
theorem h_fol {G : Nat → List Nat} {G' : Int32 → List Int32} {a i : Nat} {t : Int32} (hp : h_pt g M 113 114 115 p q) (hi : i < p_n g p) (ha : h_pr F g M a t) (hG : ∀ j, j < c_sz g a → h_ls F (G (c_pt g a j)) (G' (M 108 (12 * t.toInt.toNat + j)))) : ∀ r j, j + r = c_sz g a → h_ls F (c_fol G g p a i r j) (m_fol G' M q t.toInt.toNat i r j)
  | 0, j, _ => trivial
  | r + 1, j, hj => by
    have ih := h_fol hp hi ha hG r (j + 1) (by omega)
    have he := h_ent hp hi ha (show j < c_sz g a by omega)
    unfold c_fol m_fol
    by_cases c : p_ent g p i a j
    · rw [if_pos c, if_pos (he.mp c)]
      exact (hG j (by omega)).app ih
    · rw [if_neg c, if_neg (fun e => c (he.mpr e))]
      exact ih
theorem h_fo (h : h_ok F T g M n) (hT : m_T M n) (hp : h_pt g M 113 114 115 p q) : ∀ (f f' : Nat) (a i : Nat) (t : Int32), F a t → i ≤ p_n g p → (M 107 t.toInt.toNat).toInt + (p_n g p : Int) - (i : Int) < (f : Int) → (M 107 t.toInt.toNat).toInt + (p_n g p : Int) - (i : Int) < (f' : Int) → h_ls F (c_fo g p f a i) (m_fo M q f' t i)
  | 0, f', a, i, t, ha, hi, h1, h2 => by have := (h.row hT ha).2.2.1; omega
  | f + 1, 0, a, i, t, ha, hi, h1, h2 => by have := (h.row hT ha).2.2.1; omega
  | f + 1, f' + 1, a, i, t, ha, hi, h1, h2 => by
    obtain ⟨s1, -, s3, -, -, s6, s7⟩ := h.row hT ha
    have pa := h.p ha
    have hn := hp.1
    unfold c_fo m_fo
    by_cases ci : p_n g p ≤ i
    · rw [if_pos ci, if_pos (show (i : Int) = (M 115 q).toInt by omega)]
      exact ⟨ha, trivial⟩
    · rw [if_neg ci, if_neg (show ¬ (i : Int) = (M 115 q).toInt by omega)]
      have hi' : i < p_n g p := by omega
      have hk := h_keep hp hi' pa
      by_cases ck : p_keep g p i a
      · rw [if_pos ck, if_pos (hk.mp ck)]
        have hnone : m_fol (fun r => m_fo M q f' r (m_nxt M q i)) M q t.toInt.toNat i (M 105 t.toInt.toNat).toInt.toNat 0 = [] := by
          rw [s1]
          rcases hk.mp ck with ⟨-, c2⟩ | ⟨c1, -⟩ | ⟨c1, -, -⟩
          · rw [s6 c2]; rfl
          · exact m_fol_none (fun j hm => by unfold m_part at hm; omega) _ _
          · exact m_fol_none (fun j hm => by unfold m_part at hm; omega) _ _
        rw [hnone, List.append_nil]
        exact h_fo h hT hp f f' a (i + 1) t ha (by omega) (by omega) (by omega)
      · rw [if_neg ck, if_neg (fun e => ck (hk.mpr e)), List.nil_append, s1, ← h_nx hp hi']
        refine h_fol hp hi' pa (fun j hj => ?_) _ 0 (Nat.zero_add _)
        have hh := s7 j hj
        have hx1 : i ≤ p_nx g p i ∧ p_nx g p i ≤ p_n g p := by unfold p_nx; split <;> omega
        exact h_fo h hT hp f f' _ _ _ (pa.2.2.2.2.2 j hj).2 hx1.2 (by omega) (by omega)
/-- the foci, as both find them -/
theorem h_fs (h : h_ok F T g M n) (hT : m_T M n) {pq : Int32} (hp : h_pt g M 113 114 115 p pq.toInt.toNat) {a : Nat} {t : Int32} (ha : F a t) : h_ls F (c_fs41 g p a) (m_fs M pq t) := by
  have hr := h.row hT ha
  have h8 := hp.2.1
  have hl := h_fo h hT hp 41 21 a 0 t ha (by omega) (by omega) (by omega)
  have hb := h.b ha
  have h2 := m_fo_len hT.tb (p := pq.toInt.toNat) 21 t 0 hb.1 hb.2
  have h3 := hl.len
  unfold c_fs41 m_fs
  rw [List.take_of_length_le (by omega)]
  exact hl
end
end
section
/-! ===== both objects: folds, what differs, what is shared (own text) ===== -/
theorem i64_s {x : Int32} : x.toInt64.toInt = x.toInt := Int32.toInt_toInt64 x
theorem i64_add {a b : Int64} (h1 : -1000000 ≤ a.toInt ∧ a.toInt ≤ 1000000) (h2 : -1000000 ≤ b.toInt ∧ b.toInt ≤ 1000000) : (a + b).toInt = a.toInt + b.toInt := by
  rw [Int64.toInt_add]
  apply Int.bmod_eq_of_le <;> omega
section
variable {F : Nat → Int32 → Prop} {T : Nat → Prop} {g : Nat → ab_C} {M : wd_I} {n : Int}
theorem h_suml {G : Nat → Int64} {G' : Int32 → Int64} {a : Nat} {t : Int32} (ha : h_pr F g M a t) (hG : ∀ j, j < c_sz g a → G (c_pt g a j) = G' (M 108 (12 * t.toInt.toNat + j))) : ∀ j, j ≤ c_sz g a → c_suml G g a j = m_suml G' M t.toInt.toNat j
  | 0, _ => by
    unfold c_suml m_suml
    rw [ha.1, ha.2.1]
  | j + 1, hj => by
    unfold c_suml m_suml
    rw [h_suml ha hG j (by omega), hG j (by omega)]
theorem h_sum (h : h_ok F T g M n) (hT : m_T M n) : ∀ (f f' : Nat) (a : Nat) (t : Int32), F a t → (M 107 t.toInt.toNat).toInt < (f : Int) → (M 107 t.toInt.toNat).toInt < (f' : Int) → c_sum g f a = m_sum M f' t
  | 0, f', a, t, ha, h1, h2 => by have := (h.row hT ha).2.2.1; omega
  | f + 1, 0, a, t, ha, h1, h2 => by have := (h.row hT ha).2.2.1; omega
  | f + 1, f' + 1, a, t, ha, h1, h2 => by
    obtain ⟨s1, -, -, -, -, -, s7⟩ := h.row hT ha
    have pa := h.p ha
    unfold c_sum m_sum
    rw [s1]
    exact h_suml pa (fun j hj => h_sum h hT f f' _ _ (pa.2.2.2.2.2 j hj).2 (by have := s7 j hj; omega) (by have := s7 j hj; omega)) _ (Nat.le_refl _)
theorem h_fsum (h : h_ok F T g M n) (hT : m_T M n) {l : List Nat} {l' : List Int32} (hl : h_ls F l l') : ∀ j, j ≤ l.length → c_fsum g l j = m_fsu M l' 1 j
  | 0, _ => rfl
  | j + 1, hj => by
    have ha := hl.at j (by omega)
    have hr := (h.row hT ha).2.2.1
    unfold c_fsum m_fsu m_fad
    rw [if_neg (by omega), if_pos rfl, h_fsum h hT hl j (by omega), h_sum h hT 41 13 _ _ ha (by omega) (by omega)]
theorem h_gpl (h : h_ok F T g M n) (hT : m_T M n) {l : List Nat} {l' : List Int32} (hl : h_ls F l l') : ∀ j, j ≤ l.length → c_gpl g l j = m_fpl M l' 2 j ∧ c_lpl g l j = m_fpl M l' 3 j
  | 0, _ => ⟨rfl, rfl⟩
  | j + 1, hj => by
    obtain ⟨i1, i2⟩ := h_gpl h hT hl j (by omega)
    have ha := hl.at j (by omega)
    have b1 := c_gpl_le (g := g) (l := l) j
    have b2 := c_lpl_le (g := g) (l := l) j
    have hg := hl.at (c_gpl g l j) (by omega)
    have hq := hl.at (c_lpl g l j) (by omega)
    unfold c_gpl c_lpl m_fpl
    rw [h_cmp41 h hT (Nat.le_refl 13) ha hg, h_cmp41 h hT (Nat.le_refl 13) ha hq, i1, i2]
    constructor
    · by_cases c : 0 < m_cmp M 13 (l'.getD j 0) (l'.getD (m_fpl M l' 2 j) 0)
      · rw [if_pos c, if_pos (Or.inl ⟨rfl, c⟩)]
      · rw [if_neg c, if_neg (fun q => by rcases q with ⟨-, q⟩ | ⟨q, -⟩; exact c q; omega)]
    · by_cases c : m_cmp M 13 (l'.getD j 0) (l'.getD (m_fpl M l' 3 j) 0) < 0
      · rw [if_pos c, if_pos (Or.inr ⟨rfl, c⟩)]
      · rw [if_neg c, if_neg (fun q => by rcases q with ⟨q, -⟩ | ⟨-, q⟩; omega; exact c q)]
theorem h_fh (h : h_ok F T g M n) {l : List Nat} {l' : List Int32} (hl : h_ls F l l') : ∀ j, j ≤ l.length → c_fh g l j = m_fhi M l' j
  | 0, _ => rfl
  | j + 1, hj => by
    have ha := h.p (hl.at j (by omega))
    unfold c_fh m_fhi
    rw [h_fh h hl j (by omega), ha.2.2.2.1]
theorem c_lk_iff {l : List Nat} {i : Nat} : ∀ r j, c_lk g l i r j = true ↔ ∃ x, j ≤ x ∧ x < j + r ∧ c_cmp g 41 (l.getD x 0) (l.getD i 0) = 0
  | 0, j => by
    constructor
    · intro q; cases q
    · rintro ⟨x, h1, h2, -⟩; omega
  | r + 1, j => by
    have ih := c_lk_iff (l := l) (i := i) r (j + 1)
    unfold c_lk
    by_cases c : c_cmp g 41 (l.getD j 0) (l.getD i 0) = 0
    · rw [if_pos c]
      exact ⟨fun _ => ⟨j, Nat.le_refl _, by omega, c⟩, fun _ => rfl⟩
    · rw [if_neg c, ih]
      constructor
      · rintro ⟨x, h1, h2, h3⟩; exact ⟨x, by omega, by omega, h3⟩
      · rintro ⟨x, h1, h2, h3⟩
        have : x ≠ j := fun e => by subst e; exact c h3
        exact ⟨x, by omega, by omega, h3⟩
theorem m_newv_iff {l' : List Int32} {i : Nat} : ∀ j, (m_newv M l' i j).toInt = 0 ∨ (m_newv M l' i j).toInt = 1
  | 0 => Or.inr (by unfold m_newv; decide)
  | j + 1 => by
    unfold m_newv
    split
    · exact Or.inl (by decide)
    · split
      · exact Or.inl (by decide)
      · exact Or.inr (by decide)
theorem m_newv_0 {l' : List Int32} {i : Nat} : ∀ j, (m_newv M l' i j).toInt = 0 ↔ ∃ x, x < j ∧ m_cmp M 13 (l'.getD x 0) (l'.getD i 0) = 0
  | 0 => by
    constructor
    · intro q; exact absurd q (by unfold m_newv; decide)
    · rintro ⟨x, h1, -⟩; omega
  | j + 1 => by
    have ih := m_newv_0 (l' := l') (i := i) j
    have z0 : (ab_ii 0).toInt = 0 := by decide
    unfold m_newv
    by_cases c : (m_newv M l' i j).toInt = 0
    · rw [if_pos c]
      obtain ⟨x, h1, h2⟩ := ih.mp c
      exact ⟨fun _ => ⟨x, by omega, h2⟩, fun _ => z0⟩
    · rw [if_neg c]
      by_cases c2 : m_cmp M 13 (l'.getD j 0) (l'.getD i 0) = 0
      · rw [if_pos c2]
        exact ⟨fun _ => ⟨j, by omega, c2⟩, fun _ => z0⟩
      · rw [if_neg c2]
        constructor
        · intro q; exact absurd q (by decide)
        · rintro ⟨x, h1, h2⟩
          have : x ≠ j := fun e => by subst e; exact c2 h2
          exact absurd (ih.mpr ⟨x, by omega, h2⟩) c
theorem h_unl (h : h_ok F T g M n) (hT : m_T M n) {l : List Nat} {l' : List Int32} (hl : h_ls F l l') (h200 : l.length ≤ 200) : ∀ j, j ≤ l.length → (0 ≤ (c_unl g l j).toInt ∧ (c_unl g l j).toInt ≤ (j : Int)) ∧ (m_fsu M l' 4 j).toInt = (c_unl g l j).toInt
  | 0, _ => ⟨by unfold c_unl; decide, by unfold c_unl m_fsu; decide⟩
  | j + 1, hj => by
    obtain ⟨⟨b1, b2⟩, ih⟩ := h_unl h hT hl h200 j (by omega)
    have hx : c_lk g l j j 0 = true ↔ (m_newv M l' j j).toInt = 0 := by
      rw [c_lk_iff, m_newv_0]
      constructor
      · rintro ⟨x, -, h2, h3⟩; exact ⟨x, by omega, by rw [← h_cmp41 h hT (Nat.le_refl 13) (hl.at x (by omega)) (hl.at j (by omega))]; exact h3⟩
      · rintro ⟨x, h2, h3⟩; exact ⟨x, by omega, by omega, by rw [h_cmp41 h hT (Nat.le_refl 13) (hl.at x (by omega)) (hl.at j (by omega))]; exact h3⟩
    unfold c_unl m_fsu m_fad
    rw [if_neg (show ¬ (4 : Int) = 0 by omega), if_neg (show ¬ (4 : Int) = 1 by omega)]
    by_cases c : c_lk g l j j 0 = true
    · rw [if_pos c, if_neg (fun q => q.2 (hx.mp c)), if_neg (show ¬ (4 : Int) = 6 by omega), i64_add (by omega) (by decide), ih, ab_tI (by omega) (by omega), show (Int64.ofNat 0).toInt = 0 from by decide]
      exact ⟨⟨by omega, by omega⟩, by omega⟩
    · rw [if_neg c, if_pos ⟨rfl, fun q => c (hx.mpr q)⟩, i64_add (by omega) (by decide), ih, ab_tI (by omega) (by omega), show (Int64.ofNat 1).toInt = 1 from by decide]
      exact ⟨⟨by omega, by omega⟩, by omega⟩
theorem h_fn (h : h_ok F T g M n) (hT : m_T M n) {l : List Nat} {l' : List Int32} (hl : h_ls F l l') (h200 : l.length ≤ 200) : ∀ j, j ≤ l.length → (0 ≤ (c_fn g l j).toInt ∧ (c_fn g l j).toInt ≤ 200 * (j : Int)) ∧ (m_fsu M l' 6 j).toInt = (c_fn g l j).toInt
  | 0, _ => ⟨by unfold c_fn; decide, by unfold c_fn m_fsu; decide⟩
  | j + 1, hj => by
    obtain ⟨⟨b1, b2⟩, ih⟩ := h_fn h hT hl h200 j (by omega)
    have ha := hl.at j (by omega)
    have hr := (h.row hT ha).2.2.2.1
    have hp := h.p ha
    unfold c_fn m_fsu m_fad
    rw [if_neg (show ¬ (6 : Int) = 0 by omega), if_neg (show ¬ (6 : Int) = 1 by omega), if_neg (fun q => by omega), if_pos rfl, hp.2.2.1, i64_add (by omega) (by rw [i64_s]; omega), ih, i64_s, ab_tI (by omega) (by omega)]
    exact ⟨⟨by omega, by omega⟩, rfl⟩
theorem h_cnt {l' : List Int32} : ∀ j, j ≤ 200 → (m_fsu M l' 0 j).toInt = (j : Int)
  | 0, _ => by unfold m_fsu; decide
  | j + 1, hj => by
    have ih := h_cnt (l' := l') j (by omega)
    unfold m_fsu m_fad
    rw [if_pos rfl, i64_add (by omega) (by decide), ih, show (Int64.ofNat 1).toInt = 1 from by decide]
    omega
/-- what fold answers -/
theorem h_fold (h : h_ok F T g M n) (hT : m_T M n) {l : List Nat} {l' : List Int32} (hl : h_ls F l l') (h200 : l.length ≤ 200) {c : Int} : c_fold g l c = if (0 ≤ c ∧ c ≤ 6) ∧ ¬ (l'.length = 0 ∧ (c = 2 ∨ c = 3 ∨ c = 5)) then m_fre M l' c else Int64.ofInt (-9223372036854775808) := by
  have hlen := hl.len
  have e13 := h_gpl h hT hl l.length (Nat.le_refl _)
  unfold c_fold m_fre c_NO
  by_cases c0 : c = 0
  · subst c0
    rw [if_pos rfl, if_pos ⟨by omega, fun q => by omega⟩, if_neg (by omega), if_neg (by omega), ← hlen]
    refine Int64.toInt_inj.mp ?_
    rw [h_cnt _ h200, i64_s, ab_tI (by omega) (by omega)]
  rw [if_neg c0]
  by_cases c1 : c = 1
  · subst c1
    rw [if_pos rfl, if_pos ⟨by omega, fun q => by omega⟩, if_neg (by omega), if_neg (by omega), ← hlen]
    exact h_fsum h hT hl _ (Nat.le_refl _)
  rw [if_neg c1]
  by_cases c2 : c = 2
  · subst c2
    rw [if_pos rfl, ← hlen]
    by_cases e : l.length = 0
    · rw [if_pos e, if_neg (fun q => q.2 ⟨e, Or.inl rfl⟩)]
    · rw [if_neg e, if_pos ⟨by omega, fun q => e q.1⟩, if_pos (Or.inl rfl), e13.1]
  rw [if_neg c2]
  by_cases c3 : c = 3
  · subst c3
    rw [if_pos rfl, ← hlen]
    by_cases e : l.length = 0
    · rw [if_pos e, if_neg (fun q => q.2 ⟨e, Or.inr (Or.inl rfl)⟩)]
    · rw [if_neg e, if_pos ⟨by omega, fun q => e q.1⟩, if_pos (Or.inr rfl), e13.2]
  rw [if_neg c3]
  by_cases c4 : c = 4
  · subst c4
    rw [if_pos rfl, if_pos ⟨by omega, fun q => by omega⟩, if_neg (by omega), if_neg (by omega), ← hlen]
    refine Int64.toInt_inj.mp ?_
    rw [(h_unl h hT hl h200 _ (Nat.le_refl _)).2, i64_s]
  rw [if_neg c4]
  by_cases c5 : c = 5
  · subst c5
    rw [if_pos rfl, ← hlen]
    by_cases e : l.length = 0
    · rw [if_pos e, if_neg (fun q => q.2 ⟨e, Or.inr (Or.inr rfl)⟩)]
    · rw [if_neg e, if_pos ⟨by omega, fun q => e q.1⟩, if_neg (by omega), if_pos rfl, h_fh h hl _ (Nat.le_refl _)]
  rw [if_neg c5]
  by_cases c6 : c = 6
  · subst c6
    rw [if_pos rfl, if_pos ⟨by omega, fun q => by omega⟩, if_neg (by omega), if_neg (by omega), ← hlen]
    refine Int64.toInt_inj.mp ?_
    rw [(h_fn h hT hl h200 _ (Nat.le_refl _)).2, i64_s]
  rw [if_neg c6, if_neg (fun q => by omega)]
/-! what differs -/
theorem c_frl_iff {a b : Nat} : ∀ r j, c_frl g a b r j ↔ ∀ x, j ≤ x → x < j + r → (c_ky g a x).toInt = (c_ky g b x).toInt
  | 0, j => ⟨fun _ x h1 h2 => by omega, fun _ => trivial⟩
  | r + 1, j => by
    have ih := c_frl_iff (a := a) (b := b) r (j + 1)
    constructor
    · rintro ⟨h1, h2⟩ x hx1 hx2
      by_cases e : x = j
      · subst e; exact h1
      · exact ih.mp h2 x (by omega) (by omega)
    · intro h1
      exact ⟨h1 j (Nat.le_refl _) (by omega), ih.mpr (fun x q1 q2 => h1 x (by omega) (by omega))⟩
theorem h_frm {a b : Nat} {t u : Int32} (ha : h_pr F g M a t) (hb : h_pr F g M b u) : c_frm g a b ↔ m_like M t.toInt.toNat u.toInt.toNat := by
  obtain ⟨a0, a1, -, -, a4, a5⟩ := ha
  obtain ⟨b0, b1, -, -, b4, b5⟩ := hb
  unfold c_frm m_like
  rw [a0, a1, b0, b1, c_frl_iff, ← a4, ← b4]
  constructor
  · rintro ⟨h1, h2, h3, h4, h5⟩
    refine ⟨h1, h3, h2, by rw [h4], fun j hj => ?_⟩
    have hj' : j < c_sz g a := by omega
    rw [← (a5 j hj').1, ← (b5 j (by omega)).1]
    exact h5 j (Nat.zero_le _) (by omega)
  · rintro ⟨h1, h3, h2, h4, h5⟩
    refine ⟨h1, h2, h3, by omega, fun j _ hj => ?_⟩
    have hj' : j < c_sz g a := by omega
    rw [(a5 j hj').1, (b5 j (by omega)).1]
    exact h5 j (by omega)
theorem h_dfl {G : Nat → Nat → Int32 → List Int32} {G' : Int32 → Int32 → Int32 → List Int32} (h : h_ok F T g M n) {a b : Nat} {t u : Int32} (ha : h_pr F g M a t) (hb : h_pr F g M b u) (hsz : c_sz g a = c_sz g b) (hG : ∀ j, j < c_sz g a → ∀ w, G (c_pt g a j) (c_pt g b j) w = G' (M 108 (12 * t.toInt.toNat + j)) (M 108 (12 * u.toInt.toNat + j)) w) : ∀ r j w, j + r = c_sz g a → c_dfl G g a b r j w = m_dil G' M t.toInt.toNat u.toInt.toNat r j w
  | 0, j, w, _ => rfl
  | r + 1, j, w, hj => by
    have hp := h.p (ha.2.2.2.2.2 j (by omega)).2
    unfold c_dfl m_dil
    rw [hG j (by omega), h_dfl h ha hb hsz hG r (j + 1) _ (by omega), hp.2.2.1]
theorem h_dif (h : h_ok F T g M n) (hT : m_T M n) : ∀ (f f' : Nat) (a b : Nat) (t u w : Int32), F a t → F b u → (M 107 t.toInt.toNat).toInt < (f : Int) → (M 107 t.toInt.toNat).toInt < (f' : Int) → c_dif g f a b w = m_dif M f' t u w
  | 0, f', a, b, t, u, w, ha, hb, h1, h2 => by have := (h.row hT ha).2.2.1; omega
  | f + 1, 0, a, b, t, u, w, ha, hb, h1, h2 => by have := (h.row hT ha).2.2.1; omega
  | f + 1, f' + 1, a, b, t, u, w, ha, hb, h1, h2 => by
    obtain ⟨s1, -, -, -, -, -, s7⟩ := h.row hT ha
    have pa := h.p ha
    have pb := h.p hb
    have hf := h_frm pa pb
    unfold c_dif m_dif
    rw [h_cmp41 h hT (Nat.le_refl 13) ha hb]
    by_cases c : m_cmp M 13 t u = 0
    · rw [if_pos c, if_pos c]
    · rw [if_neg c, if_neg c]
      by_cases c2 : c_frm g a b
      · rw [if_pos c2, if_pos (hf.mp c2), s1]
        have hsz := c2.2.2.2.1
        exact h_dfl h pa pb hsz (fun j hj w => h_dif h hT f f' _ _ _ _ w (pa.2.2.2.2.2 j hj).2 (pb.2.2.2.2.2 j (by omega)).2 (by have := s7 j hj; omega) (by have := s7 j hj; omega)) _ 0 _ (Nat.zero_add _)
      · rw [if_neg c2, if_neg (fun q => c2 (hf.mpr q))]
/-- the places as they lie -/
theorem d_pushes_at : ∀ {l : List Int32} {I : wd_I} {m : Nat}, I 14 1 = ab_ii (m : Int) → m + l.length ≤ 200 → d_pushes I l 14 1 = ab_ii ((m + l.length : Nat) : Int) ∧ ∀ j, d_pushes I l 15 j = if m ≤ j ∧ j < m + l.length then l.getD (j - m) 0 else I 15 j
  | [], I, m, hm, hl => ⟨hm, fun j => by rw [if_neg (by simp)]; rfl⟩
  | x :: l, I, m, hm, hl => by
    have hl' : m + 1 + l.length ≤ 200 := by simp at hl; omega
    have e1 : (I 14 1).toInt = (m : Int) := by rw [hm, ab_tI (by omega) (by omega)]
    have e : d_push I x = wd_up (wd_up I 15 m x) 14 1 (ab_ii (((m + 1 : Nat)) : Int)) := by
      unfold d_push
      rw [if_pos (by omega), e1]
      rfl
    obtain ⟨h1, h2⟩ := d_pushes_at (l := l) (I := d_push I x) (m := m + 1) (by rw [e, wd_up_self]) hl'
    refine ⟨h1.trans (by congr 2; simp; omega), fun j => ?_⟩
    show d_pushes (d_push I x) l 15 j = _
    rw [h2 j, e, wd_up_ne _ _ (Or.inl (by omega))]
    by_cases c : m + 1 ≤ j ∧ j < m + 1 + l.length
    · rw [if_pos c, if_pos (by simp; omega)]
      obtain ⟨i, hi⟩ : ∃ i, j - m = i + 1 := ⟨j - m - 1, by omega⟩
      rw [hi, show j - (m + 1) = i by omega]
      rfl
    · rw [if_neg c]
      by_cases c2 : j = m
      · subst c2
        rw [wd_up_self, if_pos (by simp), Nat.sub_self]
        rfl
      · rw [wd_up_ne _ _ (Or.inr c2), if_neg (by simp; omega)]
theorem h_dfr (h : h_ok F T g M n) (hT : m_T M n) {I : wd_I} {a b : Nat} {t u : Int32} (ha : F a t) (hb : F b u) {k : Int} : c_dfr I g a b k = m_dans (m_dl M t u) k := by
  have hr := h.row hT ha
  have he : c_dif g 41 a b (ab_ii 0) = m_dl M t u := h_dif h hT 41 13 a b t u (ab_ii 0) ha hb (by omega) (by omega)
  have hbb := h.b ha
  have hlen := m_dif_len hT.tb 13 t u (ab_ii 0) hbb.1 hbb.2
  change ((m_dl M t u).length : Int) ≤ _ at hlen
  obtain ⟨d1, d2⟩ := d_pushes_at (l := m_dl M t u) (I := wd_up I 14 1 (ab_ii 0)) (m := 0) (wd_up_self _ _ _ _) (by omega)
  unfold c_dfr m_dans d_fnd
  rw [he, d1, ab_tI (by omega) (by omega), Nat.zero_add]
  by_cases c1 : k = -1
  · rw [if_pos c1, if_pos c1]
  · rw [if_neg c1, if_neg c1]
    by_cases c2 : 0 ≤ k ∧ k < ((m_dl M t u).length : Int)
    · rw [if_pos c2, if_neg (by omega), if_pos c2.2, d2, if_pos (by omega), Nat.sub_zero]
    · rw [if_neg c2]
      by_cases c3 : k < -1
      · rw [if_pos c3]
      · rw [if_neg c3, if_neg (by omega)]
end
end
section
/-! ===== both objects: what is shared (own text) ===== -/
/-- x is a node of t -/
def m_rch (M : wd_I) : Nat → Int32 → Nat → Prop
  | 0, _, _ => False
  | f + 1, t, x => t.toInt.toNat = x ∨ ∃ j, j < (M 105 t.toInt.toNat).toInt.toNat ∧ m_rch M f (M 108 (12 * t.toInt.toNat + j)) x
theorem m_mark_at {T : wd_I} {x : Nat} : ∀ (f : Nat) (M : wd_I) (t : Int32), (m_mark T f M t 124 x).toInt = 0 ↔ (M 124 x).toInt = 0 ∧ ¬ m_rch T f t x
  | 0, M, t => ⟨fun q => ⟨q, fun e => e⟩, fun q => q.1⟩
  | f + 1, M, t => by
    have hl : ∀ (r : Nat) (M : wd_I), (m_mkl (m_mark T f) T t.toInt.toNat r M 124 x).toInt = 0 ↔ (M 124 x).toInt = 0 ∧ ¬ ∃ j, j < r ∧ m_rch T f (T 108 (12 * t.toInt.toNat + j)) x := by
      intro r
      induction r with
      | zero => intro M; exact ⟨fun q => ⟨q, fun ⟨j, hj, _⟩ => absurd hj (Nat.not_lt_zero _)⟩, fun q => q.1⟩
      | succ r ih =>
        intro M
        show (m_mark T f (m_mkl (m_mark T f) T t.toInt.toNat r M) (T 108 (12 * t.toInt.toNat + r)) 124 x).toInt = 0 ↔ _
        rw [m_mark_at f, ih]
        constructor
        · rintro ⟨⟨h1, h2⟩, h3⟩
          refine ⟨h1, fun ⟨j, hj, hr⟩ => ?_⟩
          by_cases e : j = r
          · subst e; exact h3 hr
          · exact h2 ⟨j, by omega, hr⟩
        · rintro ⟨h1, h2⟩
          exact ⟨⟨h1, fun ⟨j, hj, hr⟩ => h2 ⟨j, by omega, hr⟩⟩, fun hr => h2 ⟨r, by omega, hr⟩⟩
    show (m_mkl (m_mark T f) T t.toInt.toNat (T 105 t.toInt.toNat).toInt.toNat (wd_up M 124 t.toInt.toNat (ab_ii 1)) 124 x).toInt = 0 ↔ _
    rw [hl]
    show _ ↔ (M 124 x).toInt = 0 ∧ ¬ (t.toInt.toNat = x ∨ ∃ j, j < (T 105 t.toInt.toNat).toInt.toNat ∧ m_rch T f (T 108 (12 * t.toInt.toNat + j)) x)
    by_cases e : t.toInt.toNat = x
    · subst e
      rw [wd_up_self]
      constructor
      · rintro ⟨h1, -⟩; exact absurd h1 (by decide)
      · rintro ⟨-, h2⟩; exact absurd (Or.inl rfl) h2
    · rw [wd_up_ne _ _ (Or.inr (fun q => e q.symm))]
      constructor
      · rintro ⟨h1, h2⟩; exact ⟨h1, fun q => q.elim e h2⟩
      · rintro ⟨h1, h2⟩; exact ⟨h1, fun q => h2 (Or.inr q)⟩
theorem m_clr_at {M : wd_I} {x : Nat} : ∀ j, x < j → m_clr M j 124 x = ab_ii 0
  | 0, h => absurd h (Nat.not_lt_zero _)
  | j + 1, h => by
    unfold m_clr
    by_cases e : x = j
    · subst e; exact wd_up_self _ _ _ _
    · rw [wd_up_ne _ _ (Or.inr e)]; exact m_clr_at j (by omega)
theorem m_rch_c {M M' : wd_I} (h : ∀ a, a ≠ 124 → M' a = M a) {x : Nat} : ∀ (f : Nat) (t : Int32), m_rch M' f t x ↔ m_rch M f t x
  | 0, _ => Iff.rfl
  | f + 1, t => by
    unfold m_rch
    rw [h 105 (by decide), h 108 (by decide)]
    constructor
    · rintro (q | ⟨j, h1, h2⟩)
      · exact Or.inl q
      · exact Or.inr ⟨j, h1, (m_rch_c h f _).mp h2⟩
    · rintro (q | ⟨j, h1, h2⟩)
      · exact Or.inl q
      · exact Or.inr ⟨j, h1, (m_rch_c h f _).mpr h2⟩
theorem c_hdl_iff {G : Nat → Nat → Bool} {g : Nat → ab_C} {a b : Nat} : ∀ r j, c_hdl G g a b r j = true ↔ ∃ x, j ≤ x ∧ x < j + r ∧ G (c_pt g a x) b = true
  | 0, j => ⟨fun q => (by cases q), fun ⟨x, h1, h2, _⟩ => by omega⟩
  | r + 1, j => by
    have ih := c_hdl_iff (G := G) (g := g) (a := a) (b := b) r (j + 1)
    unfold c_hdl
    rw [Bool.or_eq_true, ih]
    constructor
    · rintro (q | ⟨x, h1, h2, h3⟩)
      · exact ⟨j, Nat.le_refl _, by omega, q⟩
      · exact ⟨x, by omega, by omega, h3⟩
    · rintro ⟨x, h1, h2, h3⟩
      by_cases e : x = j
      · subst e; exact Or.inl h3
      · exact Or.inr ⟨x, by omega, by omega, h3⟩
section
variable {F : Nat → Int32 → Prop} {T : Nat → Prop} {g : Nat → ab_C} {M : wd_I} {n : Int}
theorem h_ok.nods (h : h_ok F T g M n) (hT : m_T M n) {a : Nat} {t : Int32} (hp : F a t) : ∀ j, j < c_sz g a → (M 106 (M 108 (12 * t.toInt.toNat + j)).toInt.toNat).toInt < (M 106 t.toInt.toNat).toInt := fun j hj => by
  obtain ⟨b0, b1⟩ := h.b hp
  obtain ⟨-, -, -, -, e5, -⟩ := h.p hp
  obtain ⟨s, r1, r2, r3, r4, r5, r6, r7, -⟩ := m_T_row hT (t := t.toInt.toNat) (by omega)
  have := m_nds_one (N := M) (q := t.toInt.toNat) (s := s) (fun j hj => by have := (r6 j hj).2.2.2; omega) (j := j) (by omega)
  omega
theorem h_rch (h : h_ok F T g M n) (hT : m_T M n) {a : Nat} {t : Int32} (ha : F a t) : ∀ (f f' : Nat) (o : Nat) (u : Int32), F o u → (M 107 u.toInt.toNat).toInt < (f : Int) → (M 107 u.toInt.toNat).toInt < (f' : Int) → (c_hld g f o a = true ↔ m_rch M f' u t.toInt.toNat) ∧ (m_rch M f' u t.toInt.toNat → (M 106 t.toInt.toNat).toInt ≤ (M 106 u.toInt.toNat).toInt)
  | 0, f', o, u, ho, h1, h2 => by have := (h.row hT ho).2.2.1; omega
  | f + 1, 0, o, u, ho, h1, h2 => by have := (h.row hT ho).2.2.1; omega
  | f + 1, f' + 1, o, u, ho, h1, h2 => by
    obtain ⟨s1, -, -, -, -, -, s7⟩ := h.row hT ho
    have hn := h.nods hT ho
    have po := h.p ho
    have pa := h.p ha
    have he := h.eq ho ha
    have bo := h.b ho
    have ba := h.b ha
    have ih := fun j (hj : j < c_sz g o) => h_rch h hT ha f f' _ _ (po.2.2.2.2.2 j hj).2 (by have := s7 j hj; omega) (by have := s7 j hj; omega)
    unfold c_hld m_rch
    rw [s1]
    by_cases e : o = a
    · rw [if_pos e]
      have hu := he.mp e
      exact ⟨⟨fun _ => Or.inl (by omega), fun _ => rfl⟩, fun _ => by rw [hu]; exact Int.le_refl _⟩
    · rw [if_neg e]
      have hne : ¬ u.toInt.toNat = t.toInt.toNat := fun q => e (he.mpr (by omega))
      have hle : (u.toInt.toNat = t.toInt.toNat ∨ ∃ j, j < c_sz g o ∧ m_rch M f' (M 108 (12 * u.toInt.toNat + j)) t.toInt.toNat) → (M 106 t.toInt.toNat).toInt < (M 106 u.toInt.toNat).toInt := by
        rintro (q | ⟨j, hj, hr⟩)
        · exact absurd q hne
        · have := (ih j hj).2 hr
          have := hn j hj
          omega
      refine ⟨?_, fun q => by have := hle q; omega⟩
      rw [pa.2.2.1, po.2.2.1]
      constructor
      · intro q
        split at q
        · obtain ⟨x, -, hx, h3⟩ := (c_hdl_iff _ 0).mp q
          exact Or.inr ⟨x, by omega, (ih x (by omega)).1.mp h3⟩
        · cases q
      · intro q
        rw [if_pos (hle q)]
        rcases q with q | ⟨j, hj, hr⟩
        · exact absurd q hne
        · exact (c_hdl_iff _ 0).mpr ⟨j, Nat.zero_le _, by omega, (ih j hj).1.mpr hr⟩
theorem h_shl {G : Nat → Nat → Int32} {G' : Int32 → Int32} {a o : Nat} {t : Int32} (ha : h_pr F g M a t) (hG : ∀ j, j < c_sz g a → G (c_pt g a j) o = G' (M 108 (12 * t.toInt.toNat + j))) {M' : wd_I} (hM : ∀ x, x ≠ 124 → M' x = M x) : ∀ j, j ≤ c_sz g a → c_shl G g a o j = m_shl G' M' t.toInt.toNat j
  | 0, _ => rfl
  | j + 1, hj => by
    unfold c_shl m_shl
    rw [h_shl ha hG hM j (by omega), hM 108 (by decide), hG j (by omega)]
theorem h_shn (h : h_ok F T g M n) (hT : m_T M n) {o : Nat} {M' : wd_I} (hM : ∀ x, x ≠ 124 → M' x = M x) (hh : ∀ a t, F a t → (c_hld g 41 o a = true ↔ ¬ (M' 124 t.toInt.toNat).toInt = 0)) : ∀ (f f' : Nat) (a : Nat) (t : Int32), F a t → (M 107 t.toInt.toNat).toInt < (f : Int) → (M 107 t.toInt.toNat).toInt < (f' : Int) → c_shn g f a o = m_shi M' f' t
  | 0, f', a, t, ha, h1, h2 => by have := (h.row hT ha).2.2.1; omega
  | f + 1, 0, a, t, ha, h1, h2 => by have := (h.row hT ha).2.2.1; omega
  | f + 1, f' + 1, a, t, ha, h1, h2 => by
    obtain ⟨s1, -, -, -, -, -, s7⟩ := h.row hT ha
    have pa := h.p ha
    have hx := hh a t ha
    unfold c_shn m_shi
    by_cases c : c_hld g 41 o a = true
    · rw [if_pos c, if_neg (hx.mp c)]
    · rw [if_neg c, if_pos (Decidable.byContradiction (fun q => c (hx.mpr q))), hM 105 (by decide), s1]
      exact h_shl pa (fun j hj => h_shn h hT hM hh f f' _ _ (pa.2.2.2.2.2 j hj).2 (by have := s7 j hj; omega) (by have := s7 j hj; omega)) hM _ (Nat.le_refl _)
theorem h_shared (h : h_ok F T g M n) (hT : m_T M n) {a b : Nat} {t u : Int32} (ha : F a t) (hb : F b u) : c_shn g 41 a b = m_shared M t u := by
  have ra := h.row hT ha
  have rb := h.row hT hb
  have hn3 := hT.1
  have hc : ∀ x, x ≠ 124 → m_clr M 3120 x = M x := fun x hx => m_clr_row hx _
  have hM : ∀ x, x ≠ 124 → m_mark (m_clr M 3120) 13 (m_clr M 3120) u x = M x := fun x hx => (m_mark_row hx 13 _ _).trans (hc x hx)
  refine h_shn h hT hM (fun a' t' ha' => ?_) 41 13 a t ha (by omega) (by omega)
  have hbt := h.b ha'
  rw [(h_rch h hT ha' 41 13 b u hb (by omega) (by omega)).1, m_mark_at, m_clr_at _ (by omega), m_rch_c hc]
  constructor
  · intro q e; exact e.2 q
  · intro q
    exact Classical.byContradiction (fun e => q ⟨by decide, e⟩)
end
end
section
/-! ===== both objects: the tape scanned alike (own text) ===== -/
def h_tp (I M : wd_I) : Prop := I 1 1 = M 102 22 ∧ ∀ j : Nat, (j : Int) < (M 102 22).toInt → I 2 j = M 120 j
def h_rd (I M : wd_I) : Prop := h_tp I M ∧ t_tp I ∧ m_tp M ∧ I 1 3 = M 102 24 ∧ ((M 102 24).toInt = -1 ∧ I 1 2 = M 102 23 ∨ 0 ≤ (M 102 24).toInt)
/-! a fault stays -/
def t_kf (I J : wd_I) : Prop := 0 ≤ (I 1 3).toInt → J 1 3 = I 1 3
def m_kf (M N : wd_I) : Prop := ¬ (M 102 24).toInt = -1 → N 102 24 = M 102 24
theorem t_kf.tr {I J K : wd_I} (h : t_kf I J) (h' : t_kf J K) : t_kf I K := fun q => (h' (by rw [h q]; exact q)).trans (h q)
theorem m_kf.tr {M N K : wd_I} (h : m_kf M N) (h' : m_kf N K) : m_kf M K := fun q => (h' (by rw [h q]; exact q)).trans (h q)
theorem t_step_kf {I : wd_I} : t_kf I (t_step I) := fun _ => by
  unfold t_step
  split
  · exact wd_up_ne _ _ (Or.inr (by decide))
  · rfl
theorem t_fail_kf {I : wd_I} {p : Int32} : t_kf I (t_fail I p) := fun q => by
  unfold t_fail
  rw [if_neg (by omega)]
theorem t_needs_kf {I : wd_I} {b : Int32} : t_kf I (t_needs I b) := by
  unfold t_needs
  split
  · exact t_step_kf
  · exact t_fail_kf
theorem t_dgl_kf : ∀ (r : Nat) {I : wd_I} {n : Int32}, t_kf I (t_dgl r I n).1
  | 0, I, n => fun _ => rfl
  | r + 1, I, n => by
    unfold t_dgl
    split
    · exact t_step_kf.tr (t_dgl_kf r)
    · exact fun _ => rfl
theorem t_digits_kf {I : wd_I} {m : Nat} : t_kf I (t_digits I m).1 := by
  unfold t_digits
  split
  · exact t_dgl_kf m
  · exact t_fail_kf
theorem t_signed_kf {I : wd_I} : t_kf I (t_signed I).1 := by
  unfold t_signed
  split
  · exact t_step_kf.tr t_digits_kf
  · exact t_digits_kf
theorem t_ltl_kf : ∀ (r : Nat) {I : wd_I} {n : Int32}, t_kf I (t_ltl r I n).1
  | 0, I, n => fun _ => rfl
  | r + 1, I, n => by
    unfold t_ltl
    split
    · exact t_step_kf.tr (t_ltl_kf r)
    · exact fun _ => rfl
theorem t_letters_kf {I : wd_I} : t_kf I (t_letters I).1 := by
  unfold t_letters
  split
  · exact t_ltl_kf 3
  · exact t_fail_kf
theorem m_stp_kf {M : wd_I} : m_kf M (m_stp M) := fun _ => wd_up_ne _ _ (Or.inr (by decide))
theorem m_fails_kf {M : wd_I} {p : Int32} : m_kf M (m_fails M p) := fun q => by
  unfold m_fails
  rw [wd_up_self, if_neg q]
theorem m_one_kf {M : wd_I} {lo hi : Int32} : m_kf M (m_one M lo hi).1 := by
  unfold m_one
  split
  · exact m_stp_kf
  · exact m_fails_kf
theorem m_dgl_kf : ∀ (r : Nat) {M : wd_I} {n : Int32}, m_kf M (m_dgl r M n).1
  | 0, M, n => fun _ => rfl
  | r + 1, M, n => by
    unfold m_dgl
    split
    · exact m_stp_kf.tr (m_dgl_kf r)
    · exact fun _ => rfl
theorem m_digits_kf {M : wd_I} {m : Nat} : m_kf M (m_digits M m).1 := m_one_kf.tr (m_dgl_kf _)
theorem m_signed_kf {M : wd_I} : m_kf M (m_signed M).1 := by
  unfold m_signed
  split
  · exact m_stp_kf.tr m_digits_kf
  · exact m_digits_kf
theorem m_ltl_kf : ∀ (r : Nat) {M : wd_I} {n : Int32}, m_kf M (m_ltl r M n).1
  | 0, M, n => fun _ => rfl
  | r + 1, M, n => by
    unfold m_ltl
    split
    · exact m_stp_kf.tr (m_ltl_kf r)
    · exact fun _ => rfl
theorem m_letters_kf {M : wd_I} : m_kf M (m_letters M).1 := m_one_kf.tr (m_ltl_kf _)
section
variable {I J M N : wd_I}
theorem h_tp.fr (h : h_tp I M) (hI : ∀ j, I 1 1 = J 1 1 ∧ J 2 j = I 2 j) (hM : N 102 22 = M 102 22 ∧ N 120 = M 120) : h_tp J N := ⟨by rw [← (hI 0).1, hM.1]; exact h.1, fun j hj => by rw [(hI j).2, hM.2]; exact h.2 j (by rw [← hM.1]; exact hj)⟩
theorem h_rd.flt (h : h_rd I M) (hf : 0 ≤ (M 102 24).toInt) (a : r_tf I J) (b : t_kf I J) (c : N 102 22 = M 102 22 ∧ N 120 = M 120) (ct : m_tp N) (d : m_kf M N) : h_rd J N := by
  obtain ⟨h1, h2, h3, h4, -⟩ := h
  have e1 := b (by rw [h4]; exact hf)
  have e2 := d (by omega)
  exact ⟨h1.fr (fun j => ⟨(a.1 1 1 (by omega)).symm, a.1 2 j (by omega)⟩) c, a.2.1, ct, by rw [e1, e2]; exact h4, Or.inr (by rw [e2]; exact hf)⟩
theorem m_sc.h (h : m_sc M N) : N 102 22 = M 102 22 ∧ N 120 = M 120 := ⟨h.2.1 22 (by decide) (by decide), h.1 120 (by decide)⟩
theorem h_rd.nx (h : h_rd I M) (hf : (M 102 24).toInt = -1) : t_next I = m_here M := by
  obtain ⟨⟨h1, h2⟩, h3, h4, h5, h6⟩ := h
  have e : I 1 2 = M 102 23 := by
    rcases h6 with h6 | h6
    · exact h6.2
    · omega
  unfold t_next m_here
  rw [h1, e]
  split
  · next hc => exact h2 _ (by have := h4.1; omega)
  · rfl
theorem h_rd.at (h : h_rd I M) (hf : (M 102 24).toInt = -1) : I 1 2 = M 102 23 := by
  rcases h.2.2.2.2 with h6 | h6
  · exact h6.2
  · omega
theorem h_step (h : h_rd I M) (hf : (M 102 24).toInt = -1) (hp : (M 102 23).toInt < (M 102 22).toInt) : h_rd (t_step I) (m_stp M) := by
  have ha := h.at hf
  obtain ⟨h1, h2, h3, h4, h5⟩ := h
  have s1 := (t_step_tf h2).1
  have s2 := (m_stp_sc h3 hp).1
  refine ⟨h1.fr (fun j => ⟨(s1.1 1 1 (by omega)).symm, s1.1 2 j (by omega)⟩) s2.h, s1.2.1, s2.2.2.1, ?_, Or.inl ⟨?_, ?_⟩⟩
  · rw [s1.2.1.1 |> fun _ => show m_stp M 102 24 = M 102 24 from wd_up_ne _ _ (Or.inr (by decide))]
    unfold t_step
    rw [if_pos (by rw [ha, h1.1]; exact hp), wd_up_ne _ _ (Or.inr (by decide))]
    exact h4
  · rw [show m_stp M 102 24 = M 102 24 from wd_up_ne _ _ (Or.inr (by decide))]
    exact hf
  · unfold t_step m_stp
    rw [if_pos (by rw [ha, h1.1]; exact hp), wd_up_self, wd_up_self, ha]
theorem h_fail (h : h_rd I M) {p p' : Int32} (hp : (M 102 24).toInt = -1 → p = p' ∧ 0 ≤ p'.toInt) : h_rd (t_fail I p) (m_fails M p') := by
  have h0 := h
  obtain ⟨h1, h2, h3, h4, h5⟩ := h
  have s1 := (t_fail_tf (p := p) h2).1
  rcases h5 with ⟨hf, ha⟩ | hf
  · obtain ⟨rfl, hp0⟩ := hp hf
    have s2 := (m_fails_sc (p := p) h3 hp0).1
    have e1 : t_fail I p 1 3 = p := by unfold t_fail; rw [if_pos (by rw [h4]; omega), wd_up_self]
    have e2 : m_fails M p 102 24 = p := by unfold m_fails; rw [wd_up_self, if_pos hf]
    exact ⟨h1.fr (fun j => ⟨(s1.1 1 1 (by omega)).symm, s1.1 2 j (by omega)⟩) s2.h, s1.2.1, s2.2.2.1, by rw [e1, e2], Or.inr (by rw [e2]; exact hp0)⟩
  · exact h0.flt hf s1 t_fail_kf ⟨wd_up_ne _ _ (Or.inr (by decide)), wd_up_row _ _ _ (by decide)⟩ (m_fails_tp h3) m_fails_kf
theorem h_rd.f0 (h : h_rd I M) : (M 102 24).toInt = -1 ∨ 0 ≤ (M 102 24).toInt := by
  rcases h.2.2.2.2 with h6 | h6
  · exact Or.inl h6.1
  · exact Or.inr h6
theorem h_failat (h : h_rd I M) : h_rd (t_fail I (I 1 2)) (m_fails M (M 102 23)) := h_fail h (fun q => ⟨h.at q, h.2.2.1.1⟩)
theorem h_needs (h : h_rd I M) {b : Int32} (hb : 0 ≤ b.toInt) : h_rd (t_needs I b) (m_one M b b).1 := by
  rcases h.f0 with hf | hf
  · have hn := h.nx hf
    unfold t_needs m_one
    by_cases c : (m_here M).toInt = b.toInt
    · rw [hn, if_pos c, if_pos ⟨hf, by omega, by omega⟩]
      exact h_step h hf (m_here_lt (by omega)).1
    · rw [hn, if_neg c, if_neg (by omega)]
      exact h_failat h
  · exact h.flt hf (t_needs_tf h.2.1) t_needs_kf (m_one_sc h.2.2.1 hb).1.h (m_one_tp h.2.2.1 hb) m_one_kf
/-- one of a range -/
theorem h_one (h : h_rd I M) (hf : (M 102 24).toInt = -1) {lo hi : Int32} (hb : 0 ≤ lo.toInt) : (lo.toInt ≤ (t_next I).toInt ∧ (t_next I).toInt ≤ hi.toInt → m_one M lo hi = (m_stp M, t_next I) ∧ h_rd (t_step I) (m_stp M) ∧ (m_stp M 102 24).toInt = -1) ∧ (¬ (lo.toInt ≤ (t_next I).toInt ∧ (t_next I).toInt ≤ hi.toInt) → m_one M lo hi = (m_fails M (M 102 23), lo) ∧ h_rd (t_fail I (I 1 2)) (m_fails M (M 102 23)) ∧ ¬ (m_fails M (M 102 23) 102 24).toInt = -1) := by
  have hn := h.nx hf
  rw [hn]
  refine ⟨fun c => ?_, fun c => ?_⟩
  · refine ⟨by unfold m_one; rw [if_pos ⟨hf, c.1, c.2⟩], h_step h hf (m_here_lt (by omega)).1, ?_⟩
    rw [show m_stp M 102 24 = M 102 24 from wd_up_ne _ _ (Or.inr (by decide))]
    exact hf
  · refine ⟨by unfold m_one; rw [if_neg (fun q => c q.2)], h_failat h, ?_⟩
    unfold m_fails
    rw [wd_up_self, if_pos hf]
    have := h.2.2.1.1
    omega
theorem h_dgl : ∀ (r : Nat) {I M : wd_I} {n : Int32}, h_rd I M → (M 102 24).toInt = -1 → h_rd (t_dgl r I n).1 (m_dgl r M n).1 ∧ (m_dgl r M n).2 = (t_dgl r I n).2
  | 0, I, M, n, h, hf => ⟨h, rfl⟩
  | r + 1, I, M, n, h, hf => by
    have hn := h.nx hf
    unfold t_dgl m_dgl
    by_cases c : 48 ≤ (m_here M).toInt ∧ (m_here M).toInt ≤ 57
    · obtain ⟨hl, hv⟩ := m_here_lt (show 0 ≤ (m_here M).toInt by omega)
      rw [hn, if_pos c, if_pos ⟨hf, c.1, c.2⟩, ← hv, Int.mul_comm 10]
      exact h_dgl r (h_step h hf hl) (by rw [show m_stp M 102 24 = M 102 24 from wd_up_ne _ _ (Or.inr (by decide))]; exact hf)
    · rw [hn, if_neg c, if_neg (fun q => c q.2)]
      exact ⟨h, rfl⟩
theorem h_digits (h : h_rd I M) {m : Nat} (hm : 1 ≤ m) : h_rd (t_digits I m).1 (m_digits M m).1 ∧ (((m_digits M m).1 102 24).toInt = -1 → (m_digits M m).2 = (t_digits I m).2) := by
  obtain ⟨m, rfl⟩ : ∃ r, m = r + 1 := ⟨m - 1, by omega⟩
  rcases h.f0 with hf | hf
  · obtain ⟨h1, h2⟩ := h_one h hf (lo := ab_ii 48) (hi := ab_ii 57) (by decide)
    rw [show (ab_ii 48).toInt = 48 from rfl, show (ab_ii 57).toInt = 57 from rfl] at h1 h2
    unfold t_digits m_digits
    by_cases c : 48 ≤ (t_next I).toInt ∧ (t_next I).toInt ≤ 57
    · obtain ⟨e1, e2, e3⟩ := h1 c
      rw [if_pos c, e1]
      unfold t_dgl
      rw [if_pos c]
      have e : ab_ii ((ab_ii ((ab_ii ((ab_ii 0).toInt * 10)).toInt + (t_next I).toInt)).toInt - 48) = ab_ii ((t_next I).toInt - 48) := by
        rw [show (ab_ii 0).toInt = 0 from rfl, ab_tI (z := 0 * 10) (by omega) (by omega), ab_tI (by omega) (by omega)]
        congr 1
        omega
      rw [e]
      have := h_dgl m (n := ab_ii ((t_next I).toInt - 48)) e2 e3
      exact ⟨this.1, fun _ => this.2⟩
    · obtain ⟨e1, e2, e3⟩ := h2 c
      rw [if_neg c, e1]
      have e4 : m_dgl (m + 1 - 1) (m_fails M (M 102 23)) (ab_ii ((ab_ii 48).toInt - 48)) = (m_fails M (M 102 23), ab_ii ((ab_ii 48).toInt - 48)) := by
        cases m with
        | zero => rfl
        | succ m => show m_dgl (m + 1) _ _ = _; unfold m_dgl; rw [if_neg (fun q => e3 q.1)]
      dsimp only
      rw [e4]
      exact ⟨e2, fun q => absurd q e3⟩
  · have hk := m_digits_kf (m := m + 1) (show ¬ (M 102 24).toInt = -1 by omega)
    exact ⟨h.flt hf (t_digits_tf h.2.1 (by omega)).1 t_digits_kf (m_digits_sc h.2.2.1).1.h (m_digits_sc h.2.2.1).1.2.2.1 m_digits_kf, fun q => by rw [hk] at q; omega⟩
theorem h_signed (h : h_rd I M) : h_rd (t_signed I).1 (m_signed M).1 ∧ (((m_signed M).1 102 24).toInt = -1 → (m_signed M).2 = (t_signed I).2) := by
  rcases h.f0 with hf | hf
  · have hn := h.nx hf
    unfold t_signed m_signed
    by_cases c : (m_here M).toInt = 45
    · rw [hn, if_pos c, if_pos ⟨hf, c⟩]
      obtain ⟨e1, e2⟩ := h_digits (h_step h hf (m_here_lt (by omega)).1) (show 1 ≤ 6 by omega)
      exact ⟨e1, fun q => by rw [e2 q]⟩
    · rw [hn, if_neg c, if_neg (fun q => c q.2)]
      exact h_digits h (by omega)
  · have hk := m_signed_kf (M := M) (show ¬ (M 102 24).toInt = -1 by omega)
    exact ⟨h.flt hf (t_signed_tf h.2.1).1 t_signed_kf (m_signed_sc h.2.2.1).1.h (m_signed_sc h.2.2.1).1.2.2.1 m_signed_kf, fun q => by rw [hk] at q; omega⟩
theorem h_ltl : ∀ (r : Nat) {I M : wd_I} {n : Int32}, h_rd I M → (M 102 24).toInt = -1 → h_rd (t_ltl r I n).1 (m_ltl r M n).1 ∧ (m_ltl r M n).2 = (t_ltl r I n).2
  | 0, I, M, n, h, hf => ⟨h, rfl⟩
  | r + 1, I, M, n, h, hf => by
    have hn := h.nx hf
    unfold t_ltl m_ltl
    by_cases c : 97 ≤ (m_here M).toInt ∧ (m_here M).toInt ≤ 122
    · obtain ⟨hl, hv⟩ := m_here_lt (show 0 ≤ (m_here M).toInt by omega)
      rw [hn, if_pos c, if_pos ⟨hf, c.1, c.2⟩, ← hv, Int.mul_comm 27]
      exact h_ltl r (h_step h hf hl) (by rw [show m_stp M 102 24 = M 102 24 from wd_up_ne _ _ (Or.inr (by decide))]; exact hf)
    · rw [hn, if_neg c, if_neg (fun q => c q.2)]
      exact ⟨h, rfl⟩
theorem h_letters (h : h_rd I M) : h_rd (t_letters I).1 (m_letters M).1 ∧ (((m_letters M).1 102 24).toInt = -1 → (m_letters M).2 = (t_letters I).2) := by
  rcases h.f0 with hf | hf
  · obtain ⟨h1, h2⟩ := h_one h hf (lo := ab_ii 97) (hi := ab_ii 122) (by decide)
    rw [show (ab_ii 97).toInt = 97 from rfl, show (ab_ii 122).toInt = 122 from rfl] at h1 h2
    unfold t_letters m_letters
    by_cases c : 97 ≤ (t_next I).toInt ∧ (t_next I).toInt ≤ 122
    · obtain ⟨e1, e2, e3⟩ := h1 c
      rw [if_pos c, e1]
      unfold t_ltl
      rw [if_pos c]
      have e : ab_ii ((ab_ii ((ab_ii ((ab_ii ((ab_ii 0).toInt * 27)).toInt + (t_next I).toInt)).toInt - 97)).toInt + 1) = ab_ii ((ab_ii ((t_next I).toInt - 97)).toInt + 1) := by
        rw [show (ab_ii 0).toInt = 0 from rfl, ab_tI (z := 0 * 27) (by omega) (by omega), ab_tI (z := 0 * 27 + (t_next I).toInt) (by omega) (by omega), ab_tI (by omega) (by omega), ab_tI (by omega) (by omega)]
        congr 1
        omega
      rw [e]
      have := h_ltl 2 (n := ab_ii ((ab_ii ((t_next I).toInt - 97)).toInt + 1)) e2 e3
      exact ⟨this.1, fun _ => this.2⟩
    · obtain ⟨e1, e2, e3⟩ := h2 c
      rw [if_neg c, e1]
      dsimp only
      unfold m_ltl
      rw [if_neg (fun q => e3 q.1)]
      exact ⟨e2, fun q => absurd q e3⟩
  · have hk := m_letters_kf (M := M) (show ¬ (M 102 24).toInt = -1 by omega)
    exact ⟨h.flt hf (t_letters_tf h.2.1) t_letters_kf (m_letters_sc h.2.2.1).h (m_letters_sc h.2.2.1).2.2.1 m_letters_kf, fun q => by rw [hk] at q; omega⟩
end
end
section
/-! ===== both objects: a path read alike (own text) ===== -/
section
variable {I J M N : wd_I}
theorem h_rd.w (h : h_rd I M) {j : Nat} {v : Int32} (hj : j = 26 ∨ j = 27) : h_rd I (wd_up M 102 j v) := by
  have ht := (m_sd_w (x := v) (m_sd.rf h.2.2.1) hj).2.2.1
  obtain ⟨h1, h2, h3, h4, h5⟩ := h
  have e : ∀ i, i = 22 ∨ i = 23 ∨ i = 24 → wd_up M 102 j v 102 i = M 102 i := fun i q => wd_up_ne _ _ (by omega)
  exact ⟨h1.fr (fun _ => ⟨rfl, rfl⟩) ⟨e 22 (by omega), wd_up_row _ _ _ (by decide)⟩, h2, ht, by rw [e 24 (by omega)]; exact h4, by rw [e 24 (by omega), e 23 (by omega)]; exact h5⟩
theorem h_rd.wM (h : h_rd I M) {a j : Nat} {v : Int32} (ha : a = 121 ∨ a = 122) : h_rd I (wd_up M a j v) := by
  have e : ∀ i, wd_up M a j v 102 i = M 102 i := fun i => wd_up_ne _ _ (by omega)
  obtain ⟨h1, h2, h3, h4, h5⟩ := h
  exact ⟨h1.fr (fun _ => ⟨rfl, rfl⟩) ⟨e 22, wd_up_row _ _ _ (by omega)⟩, h2, (by unfold m_tp at *; rw [e 22, e 23]; exact h3), by rw [e 24]; exact h4, by rw [e 24, e 23]; exact h5⟩
theorem h_rd.wI (h : h_rd I M) {a j : Nat} {v : Int32} (ha : a = 5 ∨ a = 6) : h_rd (wd_up I a j v) M := by
  have e : ∀ b i, b = 1 ∨ b = 2 → wd_up I a j v b i = I b i := fun b i q => wd_up_ne _ _ (by omega)
  obtain ⟨h1, h2, h3, h4, h5⟩ := h
  exact ⟨h1.fr (fun i => ⟨(e 1 1 (by omega)).symm, e 2 i (by omega)⟩) ⟨rfl, rfl⟩, t_tp_up h2 (by omega), h3, by rw [e 1 3 (by omega)]; exact h4, by rw [e 1 2 (by omega)]; exact h5⟩
/-- a word found -/
def h_v (J N N' : wd_I) (w : Int32) : Prop := h_rd J N' ∧ ((N' 102 24).toInt = -1 → N' 102 26 = N 102 26 ∧ N' 102 27 = w)
theorem h_val {v w : Int32} (h : h_rd J N) (hv : (N 102 24).toInt = -1 → v = w) : h_v J N (wd_up N 102 27 v) w := ⟨h.w (Or.inr rfl), fun q => ⟨wd_up_ne _ _ (by omega), by rw [wd_up_self]; exact hv (by rw [wd_up_ne _ _ (by omega)] at q; exact q)⟩⟩
theorem h_cls {v w b : Int32} (h : h_rd J N) (hv : (N 102 24).toInt = -1 → v = w) (hb : 0 ≤ b.toInt) : h_v (t_needs J b) N (m_one (wd_up N 102 27 v) b b).1 w := by
  have h1 := h.w (v := v) (Or.inr (rfl : 27 = 27))
  have h2 := (m_one_sc (hi := b) h1.2.2.1 hb).1.2.1
  refine ⟨h_needs h1 hb, fun q => ?_⟩
  have q2 := m_one_uf q
  exact ⟨(h2 26 (by decide) (by decide)).trans (wd_up_ne _ _ (by omega)), (h2 27 (by decide) (by decide)).trans ((wd_up_self _ _ _ _).trans (hv (by rw [wd_up_ne _ _ (by omega)] at q2; exact q2)))⟩
theorem h_v.of {N0 N' : wd_I} {w : Int32} (h : h_v J N N' w) (e : (N' 102 24).toInt = -1 → N 102 26 = N0 102 26) : h_v J N0 N' w := ⟨h.1, fun q => ⟨(h.2 q).1.trans (e q), (h.2 q).2⟩⟩
theorem h_side (h : h_rd I M) (hf : (M 102 24).toInt = -1) : h_v (r_side I).1 M (wd_up (m_one M (ab_ii 48) (ab_ii 49)).1 102 27 (ab_ii ((m_one M (ab_ii 48) (ab_ii 49)).2.toInt - 48))) (r_side I).2 := by
  obtain ⟨h1, h2⟩ := h_one h hf (lo := ab_ii 48) (hi := ab_ii 49) (by decide)
  rw [show (ab_ii 48).toInt = 48 from rfl, show (ab_ii 49).toInt = 49 from rfl] at h1 h2
  have hs := (m_one_sc (lo := ab_ii 48) (hi := ab_ii 49) h.2.2.1 (by decide)).1.2.1 26 (by decide) (by decide)
  by_cases c : 48 ≤ (t_next I).toInt ∧ (t_next I).toInt ≤ 49
  · obtain ⟨e1, e2, e3⟩ := h1 c
    rw [e1] at hs ⊢
    by_cases c9 : (t_next I).toInt = 49
    · unfold r_side
      rw [if_pos c9]
      exact (h_val e2 (fun _ => by dsimp only; rw [c9]; rfl)).of (fun _ => hs)
    · unfold r_side t_needs
      rw [if_neg c9, if_pos (show (t_next I).toInt = (ab_ii 48).toInt by rw [show (ab_ii 48).toInt = 48 from rfl]; omega)]
      exact (h_val e2 (fun _ => by dsimp only; rw [show (t_next I).toInt = 48 by omega]; rfl)).of (fun _ => hs)
  · obtain ⟨e1, e2, e3⟩ := h2 c
    rw [e1] at hs ⊢
    unfold r_side t_needs
    rw [if_neg (by omega), if_neg (show ¬ (t_next I).toInt = (ab_ii 48).toInt by rw [show (ab_ii 48).toInt = 48 from rfl]; omega)]
    exact (h_val e2 (fun q => absurd q e3)).of (fun _ => hs)
theorem m_rS_26 {M : wd_I} {i : Int} : m_rS M i 102 26 = ab_ii i := by
  unfold m_rS m_stp
  rw [wd_up_ne _ _ (by omega)]
  unfold m_r0
  rw [wd_up_ne _ _ (by omega), wd_up_self]
theorem h_rS (h : h_rd I M) (hf : (M 102 24).toInt = -1) (hp : (M 102 23).toInt < (M 102 22).toInt) (i : Int) : h_rd (t_step I) (m_rS M i) ∧ (m_rS M i 102 24).toInt = -1 := by
  have h0 : h_rd I (m_r0 M i) := (h.w (Or.inl rfl)).w (Or.inr rfl)
  have f0 : (m_r0 M i 102 24).toInt = -1 := by rw [m_r0_n (by decide)]; exact hf
  refine ⟨h_step h0 f0 (by rw [m_r0_n (by decide), m_r0_n (by decide)]; exact hp), ?_⟩
  show (m_stp (m_r0 M i) 102 24).toInt = -1
  rw [show m_stp (m_r0 M i) 102 24 = m_r0 M i 102 24 from wd_up_ne _ _ (Or.inr (by decide))]
  exact f0
theorem h_rst (h : h_rd I M) (hf : (M 102 24).toInt = -1) (hp : (M 102 23).toInt < (M 102 22).toInt) : h_rd (r_step I).1 (m_rst M) ∧ ((m_rst M 102 24).toInt = -1 → m_rst M 102 26 = ab_ii (q_s (t_next I).toInt) ∧ m_rst M 102 27 = (r_step I).2) := by
  have hn := h.nx hf
  have key : ∀ (i : Int) (N : wd_I), q_s (t_next I).toInt = i → ¬ i = 9 → (m_rsi i (m_rS M i) = N) → h_v (r_step I).1 (m_rS M i) N (r_step I).2 → h_rd (r_step I).1 (m_rst M) ∧ ((m_rst M 102 24).toInt = -1 → m_rst M 102 26 = ab_ii (q_s (t_next I).toInt) ∧ m_rst M 102 27 = (r_step I).2) := by
    intro i N e1 e2 e3 hv
    have e0 : m_stc (m_here M).toInt = i := by rw [← hn]; exact e1
    have e4 : m_rst M = N := by unfold m_rst; rw [e0, if_neg e2]; exact e3
    rw [e4, e1]
    exact ⟨hv.1, fun q => ⟨(hv.2 q).1.trans m_rS_26, (hv.2 q).2⟩⟩
  have hS := h_rS h hf hp
  unfold r_step at key ⊢
  by_cases c0 : (t_next I).toInt = 42 ∨ (t_next I).toInt = 126 ∨ (t_next I).toInt = 37
  · rw [if_pos c0] at key ⊢
    rcases c0 with c | c | c
    · have hv := h_val (v := ab_ii 0) (w := ab_ii 0) (hS 4).1 (fun _ => rfl)
      exact key 4 _ (by rw [c]; rfl) (by decide) (by unfold m_rsi; simp only [reduceIte, Int.reduceEq]) hv
    · have hv := h_val (v := ab_ii 0) (w := ab_ii 0) (hS 5).1 (fun _ => rfl)
      exact key 5 _ (by rw [c]; rfl) (by decide) (by unfold m_rsi; simp only [reduceIte, Int.reduceEq]) hv
    · have hv := h_val (v := ab_ii 0) (w := ab_ii 0) (hS 6).1 (fun _ => rfl)
      exact key 6 _ (by rw [c]; rfl) (by decide) (by unfold m_rsi; simp only [reduceIte, Int.reduceEq]) hv
  rw [if_neg c0] at key ⊢
  by_cases c : (t_next I).toInt = 46
  · rw [if_pos c] at key ⊢
    have hv := h_side (hS 0).1 (hS 0).2
    exact key 0 _ (by rw [c]; rfl) (by decide) (by unfold m_rsi; simp only [reduceIte, Int.reduceEq]) hv
  rw [if_neg c] at key ⊢
  by_cases c : (t_next I).toInt = 47
  · rw [if_pos c] at key ⊢
    have e := h_digits (hS 1).1 (show 1 ≤ 2 by omega)
    have hv := (h_val e.1 e.2).of (N0 := m_rS M 1) (fun _ => (m_digits_sc (hS 1).1.2.2.1).1.2.1 26 (by decide) (by decide))
    exact key 1 _ (by rw [c]; rfl) (by decide) (by unfold m_rsi; simp only [reduceIte, Int.reduceEq]) hv
  rw [if_neg c] at key ⊢
  by_cases c : (t_next I).toInt = 35
  · rw [if_pos c] at key ⊢
    have e := h_digits (hS 3).1 (show 1 ≤ 1 by omega)
    have hv := (h_val e.1 e.2).of (N0 := m_rS M 3) (fun _ => (m_digits_sc (hS 3).1.2.2.1).1.2.1 26 (by decide) (by decide))
    exact key 3 _ (by rw [c]; rfl) (by decide) (by unfold m_rsi m_digits; simp only [reduceIte, Int.reduceEq]; rfl) hv
  rw [if_neg c] at key ⊢
  by_cases c : (t_next I).toInt = 36
  · rw [if_pos c] at key ⊢
    dsimp only at key ⊢
    have e := h_letters (hS 2).1
    have hv := (h_cls (b := ab_ii 46) e.1 e.2 (by decide)).of (N0 := m_rS M 2) (fun _ => (m_letters_sc (hS 2).1.2.2.1).2.1 26 (by decide) (by decide))
    exact key 2 _ (by rw [c]; rfl) (by decide) (by unfold m_rsi; simp only [reduceIte, Int.reduceEq]) hv
  rw [if_neg c] at key ⊢
  by_cases c : (t_next I).toInt = 60
  · rw [if_pos c] at key ⊢
    dsimp only at key ⊢
    have e := h_digits (hS 7).1 (show 1 ≤ 2 by omega)
    have hv := (h_cls (b := ab_ii 62) e.1 e.2 (by decide)).of (N0 := m_rS M 7) (fun _ => (m_digits_sc (hS 7).1.2.2.1).1.2.1 26 (by decide) (by decide))
    exact key 7 _ (by rw [c]; rfl) (by decide) (by unfold m_rsi; simp only [reduceIte, Int.reduceEq]) hv
  rw [if_neg c] at key ⊢
  by_cases c : (t_next I).toInt = 61
  · rw [if_pos c] at key ⊢
    dsimp only at key ⊢
    have e := h_signed (hS 8).1
    have hv := (h_cls (b := ab_ii 59) e.1 e.2 (by decide)).of (N0 := m_rS M 8) (fun _ => (m_signed_sc (hS 8).1.2.2.1).1.2.1 26 (by decide) (by decide))
    exact key 8 _ (by rw [c]; rfl) (by decide) (by unfold m_rsi; simp only [reduceIte, Int.reduceEq]) hv
  rw [if_neg c]
  have e0 : m_stc (m_here M).toInt = 9 := by
    rw [← hn]
    unfold m_stc
    repeat' split
    all_goals omega
  have e4 : m_rst M = m_fails (m_r0 M 9) (M 102 23) := by unfold m_rst; rw [if_pos e0]
  have h0 : h_rd I (m_r0 M 9) := (h.w (Or.inl rfl)).w (Or.inr rfl)
  have f0 : (m_r0 M 9 102 24).toInt = -1 := by rw [m_r0_n (by decide)]; exact hf
  have e5 : (m_fails (m_r0 M 9) (M 102 23) 102 24) = M 102 23 := by unfold m_fails; rw [wd_up_self, if_pos f0]
  have p0 := h.2.2.1.1
  rw [e4]
  refine ⟨?_, fun q => by rw [e5] at q; omega⟩
  have a1 := (t_step_tf h.2.1).1
  have a2 := (t_fail_tf (p := I 1 2) a1.2.1).1
  have a3 := a1.tr a2
  have a4 := m_fails_sc (p := M 102 23) h0.2.2.1 p0
  have a5 : t_step I 1 3 = I 1 3 := by
    unfold t_step
    split
    · exact wd_up_ne _ _ (Or.inr (by decide))
    · rfl
  have a6 : t_fail (t_step I) (I 1 2) 1 3 = I 1 2 := by
    unfold t_fail
    rw [a5, if_pos (by rw [h.2.2.2.1]; omega), wd_up_self]
  refine ⟨h0.1.fr (fun j => ⟨(a3.1 1 1 (by omega)).symm, a3.1 2 j (by omega)⟩) a4.1.h, a3.2.1, a4.1.2.2.1, ?_, Or.inr (by rw [e5]; exact p0)⟩
  show t_fail (t_step I) (I 1 2) 1 3 = _
  rw [a6, e5, h.at hf]
/-! all of a path -/
def h_st (n : Nat) (I M : wd_I) : Prop := ∀ i, i < n → q_s (I 5 i).toInt = (M 121 i).toInt ∧ I 6 i = M 122 i
theorem r_end_flt {I : wd_I} (h : 0 ≤ (I 1 3).toInt) : r_end I = I := by
  unfold r_end
  split
  · rfl
  · unfold t_fail
    rw [if_neg (by omega)]
theorem q_s_09 {x : Int} : 0 ≤ q_s x ∧ q_s x ≤ 9 := by
  unfold q_s
  repeat' split
  all_goals omega
theorem h_rl : ∀ (r f n : Nat) (I M : wd_I), h_rd I M → n + r = 8 → r + 2 ≤ f → ((M 102 24).toInt = -1 → h_st n I M) → h_rd (r_end (r_loop r I n).1) (m_pl f n M).1 ∧ (((m_pl f n M).1 102 24).toInt = -1 → (m_pl f n M).2 = (r_loop r I n).2 ∧ h_st (r_loop r I n).2 (r_end (r_loop r I n).1) (m_pl f n M).1)
  | r, 0, n, I, M, h, hn, hf, hs => by omega
  | r, f + 1, n, I, M, h, hn, hf, hs => by
    rcases h.f0 with f0 | f0
    · have ha := h.at f0
      by_cases hp : (M 102 23).toInt < (M 102 22).toInt
      · unfold m_pl
        rw [if_pos ⟨f0, hp⟩]
        by_cases h8 : n = 8
        · obtain rfl : r = 0 := by omega
          obtain ⟨f, rfl⟩ : ∃ j, f = j + 1 := ⟨f - 1, by omega⟩
          have e3 : ¬ (m_fails M (M 102 23) 102 24).toInt = -1 := by
            unfold m_fails
            rw [wd_up_self, if_pos f0]
            have := h.2.2.1.1
            omega
          have e : m_pl (f + 1) 8 (m_fails M (M 102 23)) = (m_fails M (M 102 23), 8) := by
            unfold m_pl
            rw [if_neg (fun q => e3 q.1)]
          rw [if_pos h8, e]
          unfold r_loop r_end
          dsimp only
          rw [if_neg (by rw [ha, h.1.1]; omega)]
          exact ⟨h_failat h, fun q => absurd q e3⟩
        · obtain ⟨r, rfl⟩ : ∃ j, r = j + 1 := ⟨r - 1, by omega⟩
          rw [if_neg h8]
          unfold r_loop
          rw [if_neg (by rw [ha, h.1.1]; omega), if_neg (by rw [h.2.2.2.1]; omega)]
          have h5 := h.wI (j := n) (v := t_next I) (Or.inl (rfl : 5 = 5))
          have hn5 := (h5.nx f0).trans (h.nx f0).symm
          obtain ⟨s1, s2⟩ := h_rst h5 f0 hp
          rw [hn5] at s2
          have sM := (m_rst_sd h.2.2.1 f0 hp).1.1
          have sI := (r_step_tf h5.2.1).1
          have hR : h_rd (r_one I n) (m_pw (m_rst M) n) := ((s1.wI (Or.inr rfl)).wM (Or.inl rfl)).wM (Or.inr rfl)
          refine h_rl r f (n + 1) _ _ hR (by omega) (by omega) (fun q => ?_)
          have q2 : (m_rst M 102 24).toInt = -1 := by
            unfold m_pw at q
            rw [wd_up_row _ _ _ (by omega), wd_up_row _ _ _ (by omega)] at q
            exact q
          obtain ⟨v1, v2⟩ := s2 q2
          intro i hi
          unfold r_one m_pw
          by_cases e : i = n
          · subst e
            rw [wd_up_self, wd_up_self, wd_up_row _ _ _ (show 121 ≠ 122 by decide), wd_up_self, wd_up_row _ _ _ (show 5 ≠ 6 by decide), sI 5 i (by omega), wd_up_self, v1, ab_tI (by have := @q_s_09 (t_next I).toInt; omega) (by have := @q_s_09 (t_next I).toInt; omega)]
            exact ⟨rfl, v2.symm⟩
          · obtain ⟨p1, p2⟩ := hs f0 i (by omega)
            rw [wd_up_ne (b := 5) _ _ (Or.inr e), sI 5 i (by omega), wd_up_ne (b := 5) _ _ (Or.inr e), wd_up_ne (b := 6) _ _ (Or.inr e), sI 6 i (by omega), wd_up_ne (b := 6) _ _ (Or.inr e), wd_up_ne (b := 121) _ _ (Or.inr e), wd_up_ne (b := 121) _ _ (Or.inr e), wd_up_ne (b := 122) _ _ (Or.inr e), wd_up_ne (b := 122) _ _ (Or.inr e), sM 121 (by decide), sM 122 (by decide)]
            exact ⟨p1, p2⟩
      · have e1 : m_pl (f + 1) n M = (M, n) := by
          unfold m_pl
          rw [if_neg (fun q => hp q.2)]
        have e2 : r_loop r I n = (I, n) := by
          cases r with
          | zero => rfl
          | succ r =>
            unfold r_loop
            rw [if_pos (by rw [ha, h.1.1]; omega)]
        have e3 : r_end I = I := by
          unfold r_end
          rw [if_pos (by rw [ha, h.1.1]; omega)]
        rw [e1, e2]
        dsimp only
        rw [e3]
        exact ⟨h, fun q => ⟨rfl, hs q⟩⟩
    · have e1 : m_pl (f + 1) n M = (M, n) := by
        unfold m_pl
        rw [if_neg (fun q => by have := q.1; omega)]
      have fI : 0 ≤ (I 1 3).toInt := by rw [h.2.2.2.1]; exact f0
      have e2 : r_loop r I n = (I, n) := by
        cases r with
        | zero => rfl
        | succ r =>
          unfold r_loop
          rw [if_pos fI, ite_self]
      rw [e1, e2]
      dsimp only
      rw [r_end_flt fI]
      exact ⟨h, fun q => by omega⟩
theorem h_who (h : h_tp I M) (hb : 0 ≤ (I 1 1).toInt ∧ (I 1 1).toInt ≤ 100) : h_rd (r_who I) (m_p1 M).1 ∧ (((m_p1 M).1 102 24).toInt = -1 → (m_p1 M).2 = r_len I ∧ h_st (r_len I) (r_who I) (m_p1 M).1) := by
  have e22 : m_p0 M 102 22 = M 102 22 := by unfold m_p0; rw [wd_up_ne _ _ (by omega), wd_up_ne _ _ (by omega)]
  have e23 : m_p0 M 102 23 = ab_ii 0 := by unfold m_p0; rw [wd_up_ne _ _ (by omega), wd_up_self]
  have e24 : m_p0 M 102 24 = ab_ii (-1) := by unfold m_p0; rw [wd_up_self]
  have f12 : r_new I 1 2 = ab_ii 0 := by unfold r_new; rw [wd_up_ne _ _ (by omega), wd_up_self]
  have f13 : r_new I 1 3 = ab_ii (-1) := by unfold r_new; rw [wd_up_self]
  have h0 : h_rd (r_new I) (m_p0 M) := by
    refine ⟨h.fr (fun j => ⟨?_, ?_⟩) ⟨e22, ?_⟩, r_new_tp hb, ?_, f13.trans e24.symm, Or.inl ⟨by rw [e24]; rfl, f12.trans e23.symm⟩⟩
    · unfold r_new; rw [wd_up_ne _ _ (by omega), wd_up_ne _ _ (by omega)]
    · unfold r_new; rw [wd_up_ne _ _ (by omega), wd_up_ne _ _ (by omega)]
    · unfold m_p0; rw [wd_up_row _ _ _ (by decide), wd_up_row _ _ _ (by decide)]
    · unfold m_tp
      rw [e22, e23, ← h.1]
      exact ⟨by decide, hb.1, hb.2⟩
  exact h_rl 8 102 0 (r_new I) (m_p0 M) h0 rfl (by omega) (fun _ i hi => absurd hi (Nat.not_lt_zero _))
end
end
