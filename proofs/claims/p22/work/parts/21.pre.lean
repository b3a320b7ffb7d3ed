/-! ===== small things that the class's parts use (own text) ===== -/
def m_mx (a b : Int32) : Int32 := if b.toInt < a.toInt then a else b
theorem wd_m1 {j : Nat} : ((j + 1 : Nat) : Int) + -1 = (j : Int) := by omega
theorem i_getN {c : ab_C} {ci k : Nat} {K : ab_V → Prop} {fs : List ab_V} {w : ab_V} (h1 : c = ab_ob ci fs) (h2 : fs[k]? = some w) (h3 : ∀ v, v = w → K v) : ∃ fs w, c = ab_ob ci fs ∧ fs[k]? = some w ∧ K w := ⟨fs, w, h1, h2, h3 _ rfl⟩
