/-! ===== what a first call answers (own text) ===== -/
def p1_keep (L : Nat) (xs : Nat → Int32) (h : ab_H) : Prop := (∀ a, 102 ≤ a → a ≤ 124 → h.1 a = hp_F a) ∧ h.1 1000000000 = ab_ia 9 L xs
theorem ab_zz (z : Int) (k : Nat) (t : List (Int × Nat)) : ab_z ((z, k) :: t) = z := rfl
theorem ab_l0 : (Int64.ofNat (((0 : Fin 2)) : Nat)).toInt = 0 := by decide
theorem ab_l1 : (Int64.ofNat (((1 : Fin 2)) : Nat)).toInt = 1 := by decide
theorem ab_lN : (Int64.ofInt (-9223372036854775808)).toInt = -9223372036854775808 := by decide
theorem ab_li (x : Int32) : x.toInt64.toInt = x.toInt := by simp
def an_feed (a b r : Int) : Prop := (1 ≤ a ∧ a ≤ 4 → r = a) ∧ (¬ (1 ≤ a ∧ a ≤ 4) → r = -2)
def an_thing (a r : Int) : Prop := ((0 ≤ a ∧ a ≤ 11) → r = -100) ∧ (¬ ((0 ≤ a ∧ a ≤ 11)) → r = -2)
def an_path (a r : Int) : Prop := ((0 ≤ a ∧ a ≤ 7) → r = 0) ∧ (¬ ((0 ≤ a ∧ a ≤ 7)) → r = -2)
def an_join (a b r : Int) : Prop := ((0 ≤ a ∧ a ≤ 7) ∧ (0 ≤ b ∧ b ≤ 7) → r = 0) ∧ (¬ ((0 ≤ a ∧ a ≤ 7) ∧ (0 ≤ b ∧ b ≤ 7)) → r = -2)
def an_over (a b c d e r : Int) : Prop := ((0 ≤ a ∧ a ≤ 11) ∧ (0 ≤ b ∧ b ≤ 11) ∧ (0 ≤ c ∧ c ≤ 7) ∧ (0 ≤ d ∧ d ≤ 11) ∧ (d = 5 → 0 ≤ e ∧ e ≤ 9) ∧ (d = 7 → 0 ≤ e ∧ e ≤ 11) → r = 1) ∧ (¬ ((0 ≤ a ∧ a ≤ 11) ∧ (0 ≤ b ∧ b ≤ 11) ∧ (0 ≤ c ∧ c ≤ 7) ∧ (0 ≤ d ∧ d ≤ 11) ∧ (d = 5 → 0 ≤ e ∧ e ≤ 9) ∧ (d = 7 → 0 ≤ e ∧ e ≤ 11)) → r = -2)
def an_put (a b c d e r : Int) : Prop := ((0 ≤ a ∧ a ≤ 11) ∧ (0 ≤ c ∧ c ≤ 11) ∧ (0 ≤ d ∧ d ≤ 11) ∧ (b = 0 ∨ b = 1) → r = 3) ∧ ((0 ≤ a ∧ a ≤ 11) ∧ (0 ≤ c ∧ c ≤ 11) ∧ (0 ≤ d ∧ d ≤ 11) ∧ b = 2 ∧ 0 ≤ e ∧ e ≤ 25 → r = -3) ∧ (¬ ((0 ≤ a ∧ a ≤ 11) ∧ (0 ≤ c ∧ c ≤ 11) ∧ (0 ≤ d ∧ d ≤ 11) ∧ (b = 0 ∨ b = 1)) ∧ ¬ ((0 ≤ a ∧ a ≤ 11) ∧ (0 ≤ c ∧ c ≤ 11) ∧ (0 ≤ d ∧ d ≤ 11) ∧ b = 2 ∧ 0 ≤ e ∧ e ≤ 25) → r = -2)
def an_take (a b c d r : Int) : Prop := ((0 ≤ a ∧ a ≤ 11) ∧ (0 ≤ b ∧ b ≤ 11) ∧ (0 ≤ c ∧ c ≤ 7) ∧ d = 0 → r = 1) ∧ ((0 ≤ a ∧ a ≤ 11) ∧ (0 ≤ b ∧ b ≤ 11) ∧ (0 ≤ c ∧ c ≤ 7) ∧ ¬ d = 0 → r = -1) ∧ (¬ ((0 ≤ a ∧ a ≤ 11) ∧ (0 ≤ b ∧ b ≤ 11) ∧ (0 ≤ c ∧ c ≤ 7) ∧ d = 0) ∧ ¬ ((0 ≤ a ∧ a ≤ 11) ∧ (0 ≤ b ∧ b ≤ 11) ∧ (0 ≤ c ∧ c ≤ 7) ∧ ¬ d = 0) → r = -2)
def an_undo (a r : Int) : Prop := ((0 ≤ a ∧ a ≤ 11) → r = -3) ∧ (¬ ((0 ≤ a ∧ a ≤ 11)) → r = -2)
def an_look (a b c d r : Int) : Prop := ((0 ≤ a ∧ a ≤ 11) ∧ (0 ≤ b ∧ b ≤ 7) ∧ c = 0 ∧ (d = 0 ∨ d = 1 ∨ d = 3) → r = 0) ∧ ((0 ≤ a ∧ a ≤ 11) ∧ (0 ≤ b ∧ b ≤ 7) ∧ c = 0 ∧ d = 2 → r = 1) ∧ (¬ ((0 ≤ a ∧ a ≤ 11) ∧ (0 ≤ b ∧ b ≤ 7) ∧ c = 0 ∧ (d = 0 ∨ d = 1 ∨ d = 3)) ∧ ¬ ((0 ≤ a ∧ a ≤ 11) ∧ (0 ≤ b ∧ b ≤ 7) ∧ c = 0 ∧ d = 2) → r = (-9223372036854775808))
def an_key (a b c d r : Int) : Prop := r = -1
def an_fold (a b c r : Int) : Prop := ((0 ≤ a ∧ a ≤ 11) ∧ (0 ≤ b ∧ b ≤ 7) ∧ (c = 0 ∨ c = 4 ∨ c = 6) → r = 1) ∧ ((0 ≤ a ∧ a ≤ 11) ∧ (0 ≤ b ∧ b ≤ 7) ∧ (c = 1 ∨ c = 2 ∨ c = 3 ∨ c = 5) → r = 0) ∧ (¬ ((0 ≤ a ∧ a ≤ 11) ∧ (0 ≤ b ∧ b ≤ 7) ∧ (c = 0 ∨ c = 4 ∨ c = 6)) ∧ ¬ ((0 ≤ a ∧ a ≤ 11) ∧ (0 ≤ b ∧ b ≤ 7) ∧ (c = 1 ∨ c = 2 ∨ c = 3 ∨ c = 5)) → r = (-9223372036854775808))
def an_best (a b c d r : Int) : Prop := ((0 ≤ a ∧ a ≤ 11) ∧ (0 ≤ b ∧ b ≤ 7) ∧ (0 ≤ c ∧ c ≤ 2) ∧ d = 0 → r = 0) ∧ ((0 ≤ a ∧ a ≤ 11) ∧ (0 ≤ b ∧ b ≤ 7) ∧ (0 ≤ c ∧ c ≤ 2) ∧ ¬ d = 0 → r = -1) ∧ (¬ ((0 ≤ a ∧ a ≤ 11) ∧ (0 ≤ b ∧ b ≤ 7) ∧ (0 ≤ c ∧ c ≤ 2) ∧ d = 0) ∧ ¬ ((0 ≤ a ∧ a ≤ 11) ∧ (0 ≤ b ∧ b ≤ 7) ∧ (0 ≤ c ∧ c ≤ 2) ∧ ¬ d = 0) → r = -2)
def an_order (a b r : Int) : Prop := ((0 ≤ a ∧ a ≤ 11) ∧ (0 ≤ b ∧ b ≤ 11) → r = 0) ∧ (¬ ((0 ≤ a ∧ a ≤ 11) ∧ (0 ≤ b ∧ b ≤ 11)) → r = -2)
def an_shared (a b r : Int) : Prop := ((0 ≤ a ∧ a ≤ 11) ∧ (0 ≤ b ∧ b ≤ 11) ∧ a = b → r = 1) ∧ ((0 ≤ a ∧ a ≤ 11) ∧ (0 ≤ b ∧ b ≤ 11) ∧ ¬ a = b → r = 0) ∧ (¬ ((0 ≤ a ∧ a ≤ 11) ∧ (0 ≤ b ∧ b ≤ 11) ∧ a = b) ∧ ¬ ((0 ≤ a ∧ a ≤ 11) ∧ (0 ≤ b ∧ b ≤ 11) ∧ ¬ a = b) → r = -2)
def an_differ (a b c r : Int) : Prop := ((0 ≤ a ∧ a ≤ 11) ∧ (0 ≤ b ∧ b ≤ 11) ∧ c = -1 → r = 0) ∧ ((0 ≤ a ∧ a ≤ 11) ∧ (0 ≤ b ∧ b ≤ 11) ∧ ¬ c = -1 → r = -1) ∧ (¬ ((0 ≤ a ∧ a ≤ 11) ∧ (0 ≤ b ∧ b ≤ 11) ∧ c = -1) ∧ ¬ ((0 ≤ a ∧ a ≤ 11) ∧ (0 ≤ b ∧ b ≤ 11) ∧ ¬ c = -1) → r = -2)
def an_fit (a b c r : Int) : Prop := ((0 ≤ a ∧ a ≤ 11) ∧ (0 ≤ b ∧ b ≤ 7) ∧ (0 ≤ c ∧ c ≤ 11) → r = 7) ∧ (¬ ((0 ≤ a ∧ a ≤ 11) ∧ (0 ≤ b ∧ b ≤ 7) ∧ (0 ≤ c ∧ c ≤ 11)) → r = -2)
def an_image (r : Int) : Prop := r = 12
def an_back (r : Int) : Prop := r = -3
def an_count (a r : Int) : Prop := (0 ≤ a ∧ a ≤ 21 → r = 0) ∧ (¬ (0 ≤ a ∧ a ≤ 21) → r = -2)
