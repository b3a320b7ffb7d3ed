/-! ===== small things that the class's parts use (own text) ===== -/
def m_mx (a b : Int32) : Int32 := if b.toInt < a.toInt then a else b
theorem wd_m1 {j : Nat} : ((j + 1 : Nat) : Int) + -1 = (j : Int) := by omega
theorem i_getN {c : ab_C} {ci k : Nat} {K : ab_V → Prop} {fs : List ab_V} {w : ab_V} (h1 : c = ab_ob ci fs) (h2 : fs[k]? = some w) (h3 : ∀ v, v = w → K v) : ∃ fs w, c = ab_ob ci fs ∧ fs[k]? = some w ∧ K w := ⟨fs, w, h1, h2, h3 _ rfl⟩
theorem i_ialN {c : ab_C} {x : Int} {K : Int32 → Prop} {t n : Nat} {f : Nat → Int32} (h1 : c = ab_ia t n f) (h2 : t = 0 ∨ t = 9) (h3 : 0 ≤ x ∧ x < n) (h4 : ∀ v, v = f x.toNat → K v) : ∃ t n f, c = ab_ia t n f ∧ (t = 0 ∨ t = 9) ∧ (0 ≤ x ∧ x < n) ∧ ∀ v, v = f x.toNat → K v := ⟨t, n, f, h1, h2, h3, h4⟩
theorem i_aalN {c : ab_C} {x : Int} {K : Option Nat → Prop} {t n : Nat} {f : Nat → Option Nat} (h1 : c = ab_ra t n f) (h3 : 0 ≤ x ∧ x < n) (h4 : ∀ v, v = f x.toNat → K v) : ∃ t n f, c = ab_ra t n f ∧ (0 ≤ x ∧ x < n) ∧ ∀ v, v = f x.toNat → K v := ⟨t, n, f, h1, h3, h4⟩
