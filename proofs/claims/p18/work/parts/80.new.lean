/-! ===== the class: new cells, a thing made (own text) ===== -/
theorem wd_mut_new {k : Nat} (h : 125 ≤ k) : wd_mut k = false := by
  unfold wd_mut
  rw [wd_bf (by omega), wd_bf (by omega), wd_bf (by omega)]
  simp
section
variable {I : wd_I} {P : wd_P} {M : wd_I} {g : Nat → ab_C} {k z : Nat}
theorem w_new {c : ab_C} {n : Nat} {K : ab_H → Prop} (hr : k < 600000 ∧ z + n ≤ 7302250) (hm : 125 ≤ k) (hK : K (wd I P M (ab_up g k c), k + 1, z + n)) : ((wd I P M g, k, z).2.1 < ab_CM ∧ (wd I P M g, k, z).2.2 + n ≤ ab_SM) ∧ ∀ h', h' = ab_new (wd I P M g, k, z) c n → K h' := by
  refine ⟨hr, fun h' hh => ?_⟩
  rw [hh]
  have e : ab_new (wd I P M g, k, z) c n = (wd I P M (ab_up g k c), k + 1, z + n) := by
    show (ab_up (wd I P M g) k c, k + 1, z + n) = _
    rw [wd_foldg (wd_mut_new hm)]
  rw [e]
  exact hK
theorem w_newR {x : Int32} {n t : Nat} {K : ab_H → Prop} (hx : x.toInt = (n : Int)) (hr : k < 600000 ∧ z + n ≤ 7302250) (hm : 125 ≤ k) (hK : K (wd I P M (ab_up g k (ab_ra t n (fun _ => none))), k + 1, z + n)) : (0 ≤ x.toInt ∧ (wd I P M g, k, z).2.1 < ab_CM ∧ (wd I P M g, k, z).2.2 + x.toInt.toNat ≤ ab_SM) ∧ ∀ h', h' = ab_new (wd I P M g, k, z) (ab_ra t x.toInt.toNat (fun _ => none)) x.toInt.toNat → K h' := by
  have e : x.toInt.toNat = n := by omega
  rw [e]
  exact ⟨⟨by omega, hr⟩, (w_new (K := K) hr hm hK).2⟩
theorem w_newI {x : Int32} {n t : Nat} {K : ab_H → Prop} (hx : x.toInt = (n : Int)) (hr : k < 600000 ∧ z + n ≤ 7302250) (hm : 125 ≤ k) (hK : K (wd I P M (ab_up g k (ab_ia t n (fun _ => 0))), k + 1, z + n)) : (0 ≤ x.toInt ∧ (wd I P M g, k, z).2.1 < ab_CM ∧ (wd I P M g, k, z).2.2 + x.toInt.toNat ≤ ab_SM) ∧ ∀ h', h' = ab_new (wd I P M g, k, z) (ab_ia t x.toInt.toNat (fun _ => 0)) x.toInt.toNat → K h' := by
  have e : x.toInt.toNat = n := by omega
  rw [e]
  exact ⟨⟨by omega, hr⟩, (w_new (K := K) hr hm hK).2⟩
theorem wd_upG {x : Nat} {c : ab_C} (hm : wd_mut x = false) : wd I P M (ab_up g x c) x = c := by rw [wd_g hm, ab_up_self]
theorem wd_upN {x b : Nat} {c : ab_C} (hm : wd_mut b = false) (hb : b ≠ x) : wd I P M (ab_up g x c) b = g b := by rw [wd_g hm, ab_up_ne _ _ hb]
theorem ab_up_up {α : Type} {f : Nat → α} {x : Nat} {v w : α} : ab_up (ab_up f x v) x w = ab_up f x w := by
  funext b
  by_cases e : b = x
  · subst e; rw [ab_up_self, ab_up_self]
  · rw [ab_up_ne _ _ e, ab_up_ne _ _ e, ab_up_ne _ _ e]
theorem w_putG {x ci j t : Nat} {v : ab_V} {fs : List ab_V} {K : ab_H → Prop} (hm : wd_mut x = false) (hj : Nat.blt j fs.length = true) (ht : ab_fit t v) (hK : ∀ fs', fs' = fs.set j v → K (wd I P M (ab_up g x (ab_ob ci fs')), k, z)) : ∃ fs0, (wd I P M (ab_up g x (ab_ob ci fs)), k, z).1 x = ab_ob ci fs0 ∧ j < fs0.length ∧ ab_fit t v ∧ ∀ h', h' = ab_set (wd I P M (ab_up g x (ab_ob ci fs)), k, z) x (ab_ob ci (fs0.set j v)) → K h' := by
  refine ⟨fs, wd_upG hm, Nat.le_of_ble_eq_true hj, ht, fun h' hh => ?_⟩
  have e : h' = (wd I P M (ab_up g x (ab_ob ci (fs.set j v))), k, z) := by
    rw [hh]
    show (ab_up (wd I P M (ab_up g x (ab_ob ci fs))) x _, k, z) = _
    rw [wd_foldg hm, ab_up_up]
  rw [e]
  exact hK _ rfl
theorem w_aasG {x n t : Nat} {i : Int32} {o : Option Nat} {f : Nat → Option Nat} {K : ab_H → Prop} (hm : wd_mut x = false) (hi : 0 ≤ i.toInt ∧ i.toInt < n) (ho : ∀ v, o = some v → ∃ fs, (wd I P M (ab_up g x (ab_ra t n f)), k, z).1 v = ab_ob (ab_ec t) fs) (hK : ∀ e, e = i.toInt.toNat → K (wd I P M (ab_up g x (ab_ra t n (ab_up f e o))), k, z)) : ∃ t0 n0 f0, (wd I P M (ab_up g x (ab_ra t n f)), k, z).1 x = ab_ra t0 n0 f0 ∧ (0 ≤ i.toInt ∧ i.toInt < n0) ∧ (∀ v, o = some v → ∃ fs, (wd I P M (ab_up g x (ab_ra t n f)), k, z).1 v = ab_ob (ab_ec t0) fs) ∧ ∀ h', h' = ab_set (wd I P M (ab_up g x (ab_ra t n f)), k, z) x (ab_ra t0 n0 (ab_up f0 i.toInt.toNat o)) → K h' := by
  refine ⟨t, n, f, wd_upG hm, hi, ho, fun h' hh => ?_⟩
  have e : h' = (wd I P M (ab_up g x (ab_ra t n (ab_up f i.toInt.toNat o))), k, z) := by
    rw [hh]
    show (ab_up (wd I P M (ab_up g x (ab_ra t n f))) x _, k, z) = _
    rw [wd_foldg hm, ab_up_up]
  rw [e]
  exact hK _ rfl
theorem w_iasG {x n : Nat} {i v : Int32} {f : Nat → Int32} {K : ab_H → Prop} (hm : wd_mut x = false) (hi : 0 ≤ i.toInt ∧ i.toInt < n) (hK : ∀ e, e = i.toInt.toNat → K (wd I P M (ab_up g x (ab_ia 0 n (ab_up f e v))), k, z)) : ∃ n0 f0, (wd I P M (ab_up g x (ab_ia 0 n f)), k, z).1 x = ab_ia 0 n0 f0 ∧ (0 ≤ i.toInt ∧ i.toInt < n0) ∧ ∀ h', h' = ab_set (wd I P M (ab_up g x (ab_ia 0 n f)), k, z) x (ab_ia 0 n0 (ab_up f0 i.toInt.toNat v)) → K h' := by
  refine ⟨n, f, wd_upG hm, hi, fun h' hh => ?_⟩
  have e : h' = (wd I P M (ab_up g x (ab_ia 0 n (ab_up f i.toInt.toNat v))), k, z) := by
    rw [hh]
    show (ab_up (wd I P M (ab_up g x (ab_ia 0 n f))) x _, k, z) = _
    rw [wd_foldg hm, ab_up_up]
  rw [e]
  exact hK _ rfl
end
/-- the first n of a row, nothing behind -/
def c_row (f : Nat → Option Nat) (n : Nat) : Nat → Option Nat := fun j => if j < n then f j else none
theorem c_row_0 {f : Nat → Option Nat} : c_row f 0 = fun _ => none := by
  funext j
  exact if_neg (by omega)
theorem c_row_s {f : Nat → Option Nat} {n : Nat} : ab_up (c_row f n) n (f n) = c_row f (n + 1) := by
  funext j
  by_cases e : j = n
  · subst e; rw [ab_up_self]; exact (if_pos (by omega)).symm
  · rw [ab_up_ne _ _ e]
    unfold c_row
    by_cases h : j < n
    · rw [if_pos h, if_pos (by omega)]
    · rw [if_neg h, if_neg (by omega)]
def c_nods (g : Nat → ab_C) (fp : Nat → Option Nat) : Nat → Int32
  | 0 => ab_ii 1
  | j + 1 => ab_ii ((c_nods g fp j).toInt + (c_i g ((fp j).getD 0) 2).toInt)
def c_hts (g : Nat → ab_C) (fp : Nat → Option Nat) : Nat → Int32
  | 0 => ab_ii (-1)
  | j + 1 => m_mx (c_i g ((fp j).getD 0) 3) (c_hts g fp j)
def c_new (g : Nat → ab_C) (kd wo : Int32) (ka pa np : Nat) (fp : Nat → Option Nat) : ab_C := ab_ob 9 [.inl kd, .inl wo, .inl (c_nods g fp np), .inl (ab_ii ((c_hts g fp np).toInt + 1)), wd_v ka, wd_v pa]
def c_th0 : List ab_V := [.inl 0, .inl 0, .inl 0, .inl 0, .inr (.inr none), .inr (.inr none)]
section
variable {d : Nat} {I : wd_I} {P : wd_P} {M : wd_I} {g : Nat → ab_C} {k kk z : Nat} {Q : ab_Q} {T : Nat → Prop}
theorem c_W_x {a x : Nat} {c : ab_C} (hW : c_W T g k) (ha : T a) (hx : a ≠ x) : (wd I P M (ab_up g x c), kk, z).1 a = ab_ob 9 [.inl (c_i g a 0), .inl (c_i g a 1), .inl (c_i g a 2), .inl (c_i g a 3), wd_v (c_ka g a), wd_v (c_pa g a)] := by
  obtain ⟨ka, pa, nk, np, fk, fp, hcc, -, -, -, -, -, ⟨e4, e5⟩, ⟨m1, -, -⟩, -⟩ := c_W_get hW ha
  rw [e4, e5]
  have h1 : g a = _ := (wd_g (I := I) (P := P) (M := M) m1).symm.trans (hcc I P M z).1
  exact (wd_upN m1 hx).trans h1
set_option maxHeartbeats 4000000 in
set_option maxRecDepth 100000 in
theorem y_tinit_l (hd : 2 ≤ d) (hW : c_W T g k) {x ka pa np : Nat} {kd wo : Int32} {fp : Nat → Option Nat} (hx : wd_mut x = false) (hxT : ¬ T x) (hpx : pa ≠ x) (hpa : wd_mut pa = false ∧ g pa = ab_ra 4 np fp) (hnp : np ≤ 13) (hf : ∀ j, j < np → ∃ b, fp j = some b ∧ T b) (hQ : Q none (wd I P M (ab_up g x (c_new g kd wo ka pa np fp)), kk, z)) : ∀ n j, j + n = np → ab_WB d 86 Q 43 [(0, wd_v x), (5, .inl (c_nods g fp j)), (6, .inl (c_hts g fp j)), (7, wd_v pa), (8, .inl (ab_ii (np : Int))), (9, .inl (ab_ii (j : Int)))] [] (wd I P M (ab_up g x (ab_ob 9 [.inl kd, .inl wo, .inl 0, .inl 0, wd_v ka, wd_v pa])), kk, z)
  | 0, j, hj => by
    have e : j = np := by omega
    subst e
    unfold c_new at hQ
    refine wd_rnC rfl ?_
    intro C9 X9 hC9 hX9
    repeat' ((conv => whnf); first
    | (apply w_putG hx; (focus (exact rfl)); (focus (exact trivial)); (intro v9 hv9; simp only [List.set_cons_zero, List.set_cons_succ] at hv9; subst hv9))
    | (intro v9 hv9; (try simp (disch := omega) only [ab_tI, ab_c0, wd_ix12, wd_ix8, wd_ix10, wd_up_self, wd_up_eq, wd_up_ne, Int.toNat_natCast, Int.toNat_of_nonneg, not_true_eq_false, not_false_eq_true, Option.some.injEq] at hv9); subst hv9)
    | (apply i_get; (focus (exact rfl)); (focus (exact rfl)))
    | (refine hX9 _ _ _ _ (wd_rnC rfl ?_); clear hC9 hX9 X9 C9; intro C9 X9 hC9 hX9)
    | (apply w_ialM; (focus (exact rfl)); (focus (exact (by first | exact ⟨by decide, by decide⟩ | ((try simp (disch := omega) only [ab_tI, ab_c0, wd_ix12, wd_ix8, wd_ix10, wd_up_self, wd_up_eq, wd_up_ne, Int.toNat_natCast, Int.toNat_of_nonneg, not_true_eq_false, not_false_eq_true, Option.some.injEq, wd_l103, wd_l104, wd_l105, wd_l106, wd_l107, wd_l108, wd_l109, wd_l110, wd_l111, wd_l112, wd_l113, wd_l114, wd_l115, wd_l116, wd_l117, wd_l118, wd_l119, wd_l120, wd_l121, wd_l122, wd_l123, wd_l124]); omega)))); (intro v9 hv9; (try simp (disch := omega) only [ab_tI, ab_c0, wd_ix12, wd_ix8, wd_ix10, wd_up_self, wd_up_eq, wd_up_ne, Int.toNat_natCast, Int.toNat_of_nonneg, not_true_eq_false, not_false_eq_true, Option.some.injEq] at hv9); subst hv9))
    | (apply w_putM; (focus (exact rfl)); (focus (first | exact trivial | exact Or.inl rfl | exact Or.inr rfl)); (focus (exact rfl)))
    | (apply w_iasM; (focus (exact rfl)); (focus (exact (by first | exact ⟨by decide, by decide⟩ | ((try simp (disch := omega) only [ab_tI, ab_c0, wd_ix12, wd_ix8, wd_ix10, wd_up_self, wd_up_eq, wd_up_ne, Int.toNat_natCast, Int.toNat_of_nonneg, not_true_eq_false, not_false_eq_true, Option.some.injEq, wd_l103, wd_l104, wd_l105, wd_l106, wd_l107, wd_l108, wd_l109, wd_l110, wd_l111, wd_l112, wd_l113, wd_l114, wd_l115, wd_l116, wd_l117, wd_l118, wd_l119, wd_l120, wd_l121, wd_l122, wd_l123, wd_l124]); omega)))); (intro v9 hv9; (try simp (disch := omega) only [ab_tI, ab_c0, wd_ix12, wd_ix8, wd_ix10, wd_up_self, wd_up_eq, wd_up_ne, Int.toNat_natCast, Int.toNat_of_nonneg, not_true_eq_false, not_false_eq_true, Option.some.injEq] at hv9); subst hv9))
    | (refine i_brF (by decide) ?_)
    | (refine i_brT (by decide) ?_)
    | (refine ⟨fun hc => ?_, fun hc => ?_⟩ <;> (try simp (disch := omega) only [ab_tI, ab_c0, wd_ix12, wd_ix8, wd_ix10, wd_up_self, wd_up_eq, wd_up_ne, Int.toNat_natCast, Int.toNat_of_nonneg, not_true_eq_false, not_false_eq_true, Option.some.injEq] at hc) <;> first | (exfalso; omega) | skip)
    | (apply i_cv; (focus (exact rfl)))
    | (apply i_len; (focus (exact rfl)))
    | (apply w_putI; (focus (exact rfl)); (focus (exact rfl)); (focus (exact rfl)); (focus (first | exact trivial | exact Or.inl rfl | exact Or.inr rfl)); (focus (exact rfl)))
    | (apply w_putP; (focus (exact rfl)); (focus (exact rfl)); (focus (exact rfl)); (focus (exact trivial)); (focus (exact rfl)))
    | (apply i_ialN; (focus (exact rfl)); (focus (first | exact Or.inl rfl | exact Or.inr rfl)); (focus (exact (by first | exact ⟨by decide, by decide⟩ | ((try simp (disch := omega) only [ab_tI, ab_c0, wd_ix12, wd_ix8, wd_ix10, wd_up_self, wd_up_eq, wd_up_ne, Int.toNat_natCast, Int.toNat_of_nonneg, not_true_eq_false, not_false_eq_true, Option.some.injEq, wd_l103, wd_l104, wd_l105, wd_l106, wd_l107, wd_l108, wd_l109, wd_l110, wd_l111, wd_l112, wd_l113, wd_l114, wd_l115, wd_l116, wd_l117, wd_l118, wd_l119, wd_l120, wd_l121, wd_l122, wd_l123, wd_l124]); omega)))); (intro v9 hv9; (try simp (disch := omega) only [ab_tI, ab_c0, wd_ix12, wd_ix8, wd_ix10, wd_up_self, wd_up_eq, wd_up_ne, Int.toNat_natCast, Int.toNat_of_nonneg, not_true_eq_false, not_false_eq_true, Option.some.injEq] at hv9); subst hv9))
    | (apply i_aalN; (focus (exact rfl)); (focus (exact (by first | exact ⟨by decide, by decide⟩ | ((try simp (disch := omega) only [ab_tI, ab_c0, wd_ix12, wd_ix8, wd_ix10, wd_up_self, wd_up_eq, wd_up_ne, Int.toNat_natCast, Int.toNat_of_nonneg, not_true_eq_false, not_false_eq_true, Option.some.injEq, wd_l103, wd_l104, wd_l105, wd_l106, wd_l107, wd_l108, wd_l109, wd_l110, wd_l111, wd_l112, wd_l113, wd_l114, wd_l115, wd_l116, wd_l117, wd_l118, wd_l119, wd_l120, wd_l121, wd_l122, wd_l123, wd_l124]); omega)))); (intro v9 hv9; (try simp (disch := omega) only [ab_tI, ab_c0, wd_ix12, wd_ix8, wd_ix10, wd_up_self, wd_up_eq, wd_up_ne, Int.toNat_natCast, Int.toNat_of_nonneg, not_true_eq_false, not_false_eq_true, Option.some.injEq] at hv9); subst hv9))
    | (apply w_iasI; (focus (exact rfl)); (focus (exact rfl)); (focus (exact (by first | exact ⟨by decide, by decide⟩ | ((try simp (disch := omega) only [ab_tI, ab_c0, wd_ix12, wd_ix8, wd_ix10, wd_up_self, wd_up_eq, wd_up_ne, Int.toNat_natCast, Int.toNat_of_nonneg, not_true_eq_false, not_false_eq_true, Option.some.injEq, wd_l103, wd_l104, wd_l105, wd_l106, wd_l107, wd_l108, wd_l109, wd_l110, wd_l111, wd_l112, wd_l113, wd_l114, wd_l115, wd_l116, wd_l117, wd_l118, wd_l119, wd_l120, wd_l121, wd_l122, wd_l123, wd_l124]); omega)))); (focus (intro _; exact rfl)); (intro v9 hv9; (try simp (disch := omega) only [ab_tI, ab_c0, wd_ix12, wd_ix8, wd_ix10, wd_up_self, wd_up_eq, wd_up_ne, Int.toNat_natCast, Int.toNat_of_nonneg, not_true_eq_false, not_false_eq_true, Option.some.injEq] at hv9); subst hv9))
    | (apply w_balM; (focus (exact (by first | exact ⟨by decide, by decide⟩ | ((try simp (disch := omega) only [ab_tI, ab_c0, wd_ix12, wd_ix8, wd_ix10, wd_up_self, wd_up_eq, wd_up_ne, Int.toNat_natCast, Int.toNat_of_nonneg, not_true_eq_false, not_false_eq_true, Option.some.injEq, wd_l103, wd_l104, wd_l105, wd_l106, wd_l107, wd_l108, wd_l109, wd_l110, wd_l111, wd_l112, wd_l113, wd_l114, wd_l115, wd_l116, wd_l117, wd_l118, wd_l119, wd_l120, wd_l121, wd_l122, wd_l123, wd_l124]); omega)))); (intro v9 hv9; (try simp (disch := omega) only [ab_tI, ab_c0, wd_ix12, wd_ix8, wd_ix10, wd_up_self, wd_up_eq, wd_up_ne, Int.toNat_natCast, Int.toNat_of_nonneg, not_true_eq_false, not_false_eq_true, Option.some.injEq] at hv9); subst hv9))
    | (apply w_basM; (focus (exact (by first | exact ⟨by decide, by decide⟩ | ((try simp (disch := omega) only [ab_tI, ab_c0, wd_ix12, wd_ix8, wd_ix10, wd_up_self, wd_up_eq, wd_up_ne, Int.toNat_natCast, Int.toNat_of_nonneg, not_true_eq_false, not_false_eq_true, Option.some.injEq, wd_l103, wd_l104, wd_l105, wd_l106, wd_l107, wd_l108, wd_l109, wd_l110, wd_l111, wd_l112, wd_l113, wd_l114, wd_l115, wd_l116, wd_l117, wd_l118, wd_l119, wd_l120, wd_l121, wd_l122, wd_l123, wd_l124]); omega)))); (focus (first | exact Or.inl rfl | exact Or.inr rfl)); (intro v9 hv9; (try simp (disch := omega) only [ab_tI, ab_c0, wd_ix12, wd_ix8, wd_ix10, wd_up_self, wd_up_eq, wd_up_ne, Int.toNat_natCast, Int.toNat_of_nonneg, not_true_eq_false, not_false_eq_true, Option.some.injEq] at hv9); subst hv9))
    | (refine And.intro trivial ?_)
    | (refine And.intro (Or.inl rfl) ?_)
    | (refine And.intro (Or.inr rfl) ?_)
    | (refine And.intro (by ((try simp (disch := omega) only [ab_tI, ab_c0, wd_ix12, wd_ix8, wd_ix10, wd_up_self, wd_up_eq, wd_up_ne, Int.toNat_natCast, Int.toNat_of_nonneg, not_true_eq_false, not_false_eq_true, Option.some.injEq]); omega)) ?_)
    | fail)
    all_goals first | exact hQ | (exfalso; omega)
  | n + 1, j, hj => by
    have ih := y_tinit_l hd hW hx hxT hpx hpa hnp hf hQ n (j + 1) (by omega)
    obtain ⟨b, hb, hTb⟩ := hf j (by omega)
    have h2 : (wd I P M (ab_up g x (ab_ob 9 [.inl kd, .inl wo, .inl 0, .inl 0, wd_v ka, wd_v pa])), kk, z).1 pa = ab_ra 4 np fp := (wd_upN hpa.1 hpx).trans hpa.2
    have h1 := c_W_x (I := I) (P := P) (M := M) (kk := kk) (z := z) (x := x) (c := ab_ob 9 [.inl kd, .inl wo, .inl 0, .inl 0, wd_v ka, wd_v pa]) hW hTb (fun q => hxT (by rw [← q]; exact hTb))
    unfold c_nods c_hts at ih
    rw [hb] at ih
    refine wd_rnC rfl ?_
    intro C9 X9 hC9 hX9
    (have chk9 := @hb; clear chk9); repeat' ((conv => whnf); first
    | (apply i_getN; (focus (first | exact h1 | exact h2)); (focus (exact rfl)); (intro v9 hv9; (try simp (disch := omega) only [ab_tI, ab_c0, wd_ix12, wd_ix8, wd_ix10, wd_up_self, wd_up_eq, wd_up_ne, Int.toNat_natCast, Int.toNat_of_nonneg, not_true_eq_false, not_false_eq_true, Option.some.injEq, hb] at hv9); subst hv9))
    | (apply i_cv; (focus (first | exact h1 | exact h2)))
    | (apply i_len; (focus (first | exact congrArg ab_len (h1) | exact congrArg ab_len (h2))))
    | (apply i_ialN; (focus (first | exact h1 | exact h2)); (focus (first | exact Or.inl rfl | exact Or.inr rfl)); (focus (exact (by first | exact ⟨by decide, by decide⟩ | ((try simp (disch := omega) only [ab_tI, ab_c0, wd_ix12, wd_ix8, wd_ix10, wd_up_self, wd_up_eq, wd_up_ne, Int.toNat_natCast, Int.toNat_of_nonneg, not_true_eq_false, not_false_eq_true, Option.some.injEq, hb, wd_l103, wd_l104, wd_l105, wd_l106, wd_l107, wd_l108, wd_l109, wd_l110, wd_l111, wd_l112, wd_l113, wd_l114, wd_l115, wd_l116, wd_l117, wd_l118, wd_l119, wd_l120, wd_l121, wd_l122, wd_l123, wd_l124]); omega)))); (intro v9 hv9; (try simp (disch := omega) only [ab_tI, ab_c0, wd_ix12, wd_ix8, wd_ix10, wd_up_self, wd_up_eq, wd_up_ne, Int.toNat_natCast, Int.toNat_of_nonneg, not_true_eq_false, not_false_eq_true, Option.some.injEq, hb] at hv9); subst hv9))
    | (apply i_aalN; (focus (first | exact h1 | exact h2)); (focus (exact (by first | exact ⟨by decide, by decide⟩ | ((try simp (disch := omega) only [ab_tI, ab_c0, wd_ix12, wd_ix8, wd_ix10, wd_up_self, wd_up_eq, wd_up_ne, Int.toNat_natCast, Int.toNat_of_nonneg, not_true_eq_false, not_false_eq_true, Option.some.injEq, hb, wd_l103, wd_l104, wd_l105, wd_l106, wd_l107, wd_l108, wd_l109, wd_l110, wd_l111, wd_l112, wd_l113, wd_l114, wd_l115, wd_l116, wd_l117, wd_l118, wd_l119, wd_l120, wd_l121, wd_l122, wd_l123, wd_l124]); omega)))); (intro v9 hv9; (try simp (disch := omega) only [ab_tI, ab_c0, wd_ix12, wd_ix8, wd_ix10, wd_up_self, wd_up_eq, wd_up_ne, Int.toNat_natCast, Int.toNat_of_nonneg, not_true_eq_false, not_false_eq_true, Option.some.injEq, hb] at hv9); subst hv9))
    | (refine hC9 199 _ _ _ (y_max (by omega) ?_))
    | (refine hX9 43 _ _ _ (ab_WB_sub ?_ ih); (repeat (first | exact ab_sub0 | (refine ab_sub1 ?_ ?_; (focus ((repeat (refine ab_skip rfl ?_)); first | exact List.mem_cons_self))))))
    | (intro v9 hv9; (try simp (disch := omega) only [ab_tI, ab_c0, wd_ix12, wd_ix8, wd_ix10, wd_up_self, wd_up_eq, wd_up_ne, Int.toNat_natCast, Int.toNat_of_nonneg, not_true_eq_false, not_false_eq_true, Option.some.injEq, hb] at hv9); subst hv9)
    | (apply i_get; (focus (exact rfl)); (focus (exact rfl)))
    | (refine hX9 _ _ _ _ (wd_rnC rfl ?_); clear hC9 hX9 X9 C9; intro C9 X9 hC9 hX9)
    | (apply w_ialM; (focus (exact rfl)); (focus (exact (by first | exact ⟨by decide, by decide⟩ | ((try simp (disch := omega) only [ab_tI, ab_c0, wd_ix12, wd_ix8, wd_ix10, wd_up_self, wd_up_eq, wd_up_ne, Int.toNat_natCast, Int.toNat_of_nonneg, not_true_eq_false, not_false_eq_true, Option.some.injEq, hb, wd_l103, wd_l104, wd_l105, wd_l106, wd_l107, wd_l108, wd_l109, wd_l110, wd_l111, wd_l112, wd_l113, wd_l114, wd_l115, wd_l116, wd_l117, wd_l118, wd_l119, wd_l120, wd_l121, wd_l122, wd_l123, wd_l124]); omega)))); (intro v9 hv9; (try simp (disch := omega) only [ab_tI, ab_c0, wd_ix12, wd_ix8, wd_ix10, wd_up_self, wd_up_eq, wd_up_ne, Int.toNat_natCast, Int.toNat_of_nonneg, not_true_eq_false, not_false_eq_true, Option.some.injEq, hb] at hv9); subst hv9))
    | (apply w_putM; (focus (exact rfl)); (focus (first | exact trivial | exact Or.inl rfl | exact Or.inr rfl)); (focus (exact rfl)))
    | (apply w_iasM; (focus (exact rfl)); (focus (exact (by first | exact ⟨by decide, by decide⟩ | ((try simp (disch := omega) only [ab_tI, ab_c0, wd_ix12, wd_ix8, wd_ix10, wd_up_self, wd_up_eq, wd_up_ne, Int.toNat_natCast, Int.toNat_of_nonneg, not_true_eq_false, not_false_eq_true, Option.some.injEq, hb, wd_l103, wd_l104, wd_l105, wd_l106, wd_l107, wd_l108, wd_l109, wd_l110, wd_l111, wd_l112, wd_l113, wd_l114, wd_l115, wd_l116, wd_l117, wd_l118, wd_l119, wd_l120, wd_l121, wd_l122, wd_l123, wd_l124]); omega)))); (intro v9 hv9; (try simp (disch := omega) only [ab_tI, ab_c0, wd_ix12, wd_ix8, wd_ix10, wd_up_self, wd_up_eq, wd_up_ne, Int.toNat_natCast, Int.toNat_of_nonneg, not_true_eq_false, not_false_eq_true, Option.some.injEq, hb] at hv9); subst hv9))
    | (refine i_brF (by decide) ?_)
    | (refine i_brT (by decide) ?_)
    | (refine ⟨fun hc => ?_, fun hc => ?_⟩ <;> (try simp (disch := omega) only [ab_tI, ab_c0, wd_ix12, wd_ix8, wd_ix10, wd_up_self, wd_up_eq, wd_up_ne, Int.toNat_natCast, Int.toNat_of_nonneg, not_true_eq_false, not_false_eq_true, Option.some.injEq, hb] at hc) <;> first | (exfalso; omega) | skip)
    | (apply i_cv; (focus (exact rfl)))
    | (apply i_len; (focus (exact rfl)))
    | (apply w_putI; (focus (exact rfl)); (focus (exact rfl)); (focus (exact rfl)); (focus (first | exact trivial | exact Or.inl rfl | exact Or.inr rfl)); (focus (exact rfl)))
    | (apply w_putP; (focus (exact rfl)); (focus (exact rfl)); (focus (exact rfl)); (focus (exact trivial)); (focus (exact rfl)))
    | (apply i_ialN; (focus (exact rfl)); (focus (first | exact Or.inl rfl | exact Or.inr rfl)); (focus (exact (by first | exact ⟨by decide, by decide⟩ | ((try simp (disch := omega) only [ab_tI, ab_c0, wd_ix12, wd_ix8, wd_ix10, wd_up_self, wd_up_eq, wd_up_ne, Int.toNat_natCast, Int.toNat_of_nonneg, not_true_eq_false, not_false_eq_true, Option.some.injEq, hb, wd_l103, wd_l104, wd_l105, wd_l106, wd_l107, wd_l108, wd_l109, wd_l110, wd_l111, wd_l112, wd_l113, wd_l114, wd_l115, wd_l116, wd_l117, wd_l118, wd_l119, wd_l120, wd_l121, wd_l122, wd_l123, wd_l124]); omega)))); (intro v9 hv9; (try simp (disch := omega) only [ab_tI, ab_c0, wd_ix12, wd_ix8, wd_ix10, wd_up_self, wd_up_eq, wd_up_ne, Int.toNat_natCast, Int.toNat_of_nonneg, not_true_eq_false, not_false_eq_true, Option.some.injEq, hb] at hv9); subst hv9))
    | (apply i_aalN; (focus (exact rfl)); (focus (exact (by first | exact ⟨by decide, by decide⟩ | ((try simp (disch := omega) only [ab_tI, ab_c0, wd_ix12, wd_ix8, wd_ix10, wd_up_self, wd_up_eq, wd_up_ne, Int.toNat_natCast, Int.toNat_of_nonneg, not_true_eq_false, not_false_eq_true, Option.some.injEq, hb, wd_l103, wd_l104, wd_l105, wd_l106, wd_l107, wd_l108, wd_l109, wd_l110, wd_l111, wd_l112, wd_l113, wd_l114, wd_l115, wd_l116, wd_l117, wd_l118, wd_l119, wd_l120, wd_l121, wd_l122, wd_l123, wd_l124]); omega)))); (intro v9 hv9; (try simp (disch := omega) only [ab_tI, ab_c0, wd_ix12, wd_ix8, wd_ix10, wd_up_self, wd_up_eq, wd_up_ne, Int.toNat_natCast, Int.toNat_of_nonneg, not_true_eq_false, not_false_eq_true, Option.some.injEq, hb] at hv9); subst hv9))
    | (apply w_iasI; (focus (exact rfl)); (focus (exact rfl)); (focus (exact (by first | exact ⟨by decide, by decide⟩ | ((try simp (disch := omega) only [ab_tI, ab_c0, wd_ix12, wd_ix8, wd_ix10, wd_up_self, wd_up_eq, wd_up_ne, Int.toNat_natCast, Int.toNat_of_nonneg, not_true_eq_false, not_false_eq_true, Option.some.injEq, hb, wd_l103, wd_l104, wd_l105, wd_l106, wd_l107, wd_l108, wd_l109, wd_l110, wd_l111, wd_l112, wd_l113, wd_l114, wd_l115, wd_l116, wd_l117, wd_l118, wd_l119, wd_l120, wd_l121, wd_l122, wd_l123, wd_l124]); omega)))); (focus (intro _; exact rfl)); (intro v9 hv9; (try simp (disch := omega) only [ab_tI, ab_c0, wd_ix12, wd_ix8, wd_ix10, wd_up_self, wd_up_eq, wd_up_ne, Int.toNat_natCast, Int.toNat_of_nonneg, not_true_eq_false, not_false_eq_true, Option.some.injEq, hb] at hv9); subst hv9))
    | (apply w_balM; (focus (exact (by first | exact ⟨by decide, by decide⟩ | ((try simp (disch := omega) only [ab_tI, ab_c0, wd_ix12, wd_ix8, wd_ix10, wd_up_self, wd_up_eq, wd_up_ne, Int.toNat_natCast, Int.toNat_of_nonneg, not_true_eq_false, not_false_eq_true, Option.some.injEq, hb, wd_l103, wd_l104, wd_l105, wd_l106, wd_l107, wd_l108, wd_l109, wd_l110, wd_l111, wd_l112, wd_l113, wd_l114, wd_l115, wd_l116, wd_l117, wd_l118, wd_l119, wd_l120, wd_l121, wd_l122, wd_l123, wd_l124]); omega)))); (intro v9 hv9; (try simp (disch := omega) only [ab_tI, ab_c0, wd_ix12, wd_ix8, wd_ix10, wd_up_self, wd_up_eq, wd_up_ne, Int.toNat_natCast, Int.toNat_of_nonneg, not_true_eq_false, not_false_eq_true, Option.some.injEq, hb] at hv9); subst hv9))
    | (apply w_basM; (focus (exact (by first | exact ⟨by decide, by decide⟩ | ((try simp (disch := omega) only [ab_tI, ab_c0, wd_ix12, wd_ix8, wd_ix10, wd_up_self, wd_up_eq, wd_up_ne, Int.toNat_natCast, Int.toNat_of_nonneg, not_true_eq_false, not_false_eq_true, Option.some.injEq, hb, wd_l103, wd_l104, wd_l105, wd_l106, wd_l107, wd_l108, wd_l109, wd_l110, wd_l111, wd_l112, wd_l113, wd_l114, wd_l115, wd_l116, wd_l117, wd_l118, wd_l119, wd_l120, wd_l121, wd_l122, wd_l123, wd_l124]); omega)))); (focus (first | exact Or.inl rfl | exact Or.inr rfl)); (intro v9 hv9; (try simp (disch := omega) only [ab_tI, ab_c0, wd_ix12, wd_ix8, wd_ix10, wd_up_self, wd_up_eq, wd_up_ne, Int.toNat_natCast, Int.toNat_of_nonneg, not_true_eq_false, not_false_eq_true, Option.some.injEq, hb] at hv9); subst hv9))
    | (refine And.intro trivial ?_)
    | (refine And.intro (Or.inl rfl) ?_)
    | (refine And.intro (Or.inr rfl) ?_)
    | (refine And.intro (by ((try simp (disch := omega) only [ab_tI, ab_c0, wd_ix12, wd_ix8, wd_ix10, wd_up_self, wd_up_eq, wd_up_ne, Int.toNat_natCast, Int.toNat_of_nonneg, not_true_eq_false, not_false_eq_true, Option.some.injEq, hb]); omega)) ?_)
    | fail)
    all_goals (exfalso; omega)
set_option maxHeartbeats 4000000 in
set_option maxRecDepth 100000 in
theorem y_tinit (hd : 2 ≤ d) (hW : c_W T g k) {x ka pa np : Nat} {kd wo : Int32} {fp : Nat → Option Nat} (hx : wd_mut x = false) (hxT : ¬ T x) (hpx : pa ≠ x) (hpa : wd_mut pa = false ∧ g pa = ab_ra 4 np fp) (hnp : np ≤ 13) (hf : ∀ j, j < np → ∃ b, fp j = some b ∧ T b) (hQ : Q none (wd I P M (ab_up g x (c_new g kd wo ka pa np fp)), kk, z)) : ab_CT d 86 [wd_v x, .inl kd, .inl wo, wd_v ka, wd_v pa] (wd I P M (ab_up g x (ab_ob 9 c_th0)), kk, z) Q := by
  have hl := y_tinit_l hd hW (ka := ka) (kd := kd) (wo := wo) hx hxT hpx hpa hnp hf hQ np 0 (by omega)
  have h2 := fun fs : List ab_V => ((wd_upN hpa.1 hpx).trans hpa.2 : wd I P M (ab_up g x (ab_ob 9 fs)) pa = ab_ra 4 np fp)
  unfold c_th0
  refine wd_inC rfl (by omega) rfl ?_
  intro C9 X9 hC9 hX9
  repeat' ((conv => whnf); first
    | (apply w_putG hx; (focus (exact rfl)); (focus (exact trivial)); (intro v9 hv9; simp only [List.set_cons_zero, List.set_cons_succ] at hv9; subst hv9))
    | (apply i_getN; (focus (first | exact h2 _)); (focus (exact rfl)); (intro v9 hv9; (try simp (disch := omega) only [ab_tI, ab_c0, wd_ix12, wd_ix8, wd_ix10, wd_up_self, wd_up_eq, wd_up_ne, Int.toNat_natCast, Int.toNat_of_nonneg, not_true_eq_false, not_false_eq_true, Option.some.injEq] at hv9); subst hv9))
    | (apply i_cv; (focus (first | exact h2 _)))
    | (apply i_len; (focus (first | exact congrArg ab_len (h2 _))))
    | (apply i_ialN; (focus (first | exact h2 _)); (focus (first | exact Or.inl rfl | exact Or.inr rfl)); (focus (exact (by first | exact ⟨by decide, by decide⟩ | ((try simp (disch := omega) only [ab_tI, ab_c0, wd_ix12, wd_ix8, wd_ix10, wd_up_self, wd_up_eq, wd_up_ne, Int.toNat_natCast, Int.toNat_of_nonneg, not_true_eq_false, not_false_eq_true, Option.some.injEq, wd_l103, wd_l104, wd_l105, wd_l106, wd_l107, wd_l108, wd_l109, wd_l110, wd_l111, wd_l112, wd_l113, wd_l114, wd_l115, wd_l116, wd_l117, wd_l118, wd_l119, wd_l120, wd_l121, wd_l122, wd_l123, wd_l124]); omega)))); (intro v9 hv9; (try simp (disch := omega) only [ab_tI, ab_c0, wd_ix12, wd_ix8, wd_ix10, wd_up_self, wd_up_eq, wd_up_ne, Int.toNat_natCast, Int.toNat_of_nonneg, not_true_eq_false, not_false_eq_true, Option.some.injEq] at hv9); subst hv9))
    | (apply i_aalN; (focus (first | exact h2 _)); (focus (exact (by first | exact ⟨by decide, by decide⟩ | ((try simp (disch := omega) only [ab_tI, ab_c0, wd_ix12, wd_ix8, wd_ix10, wd_up_self, wd_up_eq, wd_up_ne, Int.toNat_natCast, Int.toNat_of_nonneg, not_true_eq_false, not_false_eq_true, Option.some.injEq, wd_l103, wd_l104, wd_l105, wd_l106, wd_l107, wd_l108, wd_l109, wd_l110, wd_l111, wd_l112, wd_l113, wd_l114, wd_l115, wd_l116, wd_l117, wd_l118, wd_l119, wd_l120, wd_l121, wd_l122, wd_l123, wd_l124]); omega)))); (intro v9 hv9; (try simp (disch := omega) only [ab_tI, ab_c0, wd_ix12, wd_ix8, wd_ix10, wd_up_self, wd_up_eq, wd_up_ne, Int.toNat_natCast, Int.toNat_of_nonneg, not_true_eq_false, not_false_eq_true, Option.some.injEq] at hv9); subst hv9))
    | (refine hX9 43 _ _ _ (ab_WB_sub ?_ hl); (repeat (first | exact ab_sub0 | (refine ab_sub1 ?_ ?_; (focus ((repeat (refine ab_skip rfl ?_)); first | exact List.mem_cons_self))))))
    | (intro v9 hv9; (try simp (disch := omega) only [ab_tI, ab_c0, wd_ix12, wd_ix8, wd_ix10, wd_up_self, wd_up_eq, wd_up_ne, Int.toNat_natCast, Int.toNat_of_nonneg, not_true_eq_false, not_false_eq_true, Option.some.injEq] at hv9); subst hv9)
    | (apply i_get; (focus (exact rfl)); (focus (exact rfl)))
    | (refine hX9 _ _ _ _ (wd_rnC rfl ?_); clear hC9 hX9 X9 C9; intro C9 X9 hC9 hX9)
    | (apply w_ialM; (focus (exact rfl)); (focus (exact (by first | exact ⟨by decide, by decide⟩ | ((try simp (disch := omega) only [ab_tI, ab_c0, wd_ix12, wd_ix8, wd_ix10, wd_up_self, wd_up_eq, wd_up_ne, Int.toNat_natCast, Int.toNat_of_nonneg, not_true_eq_false, not_false_eq_true, Option.some.injEq, wd_l103, wd_l104, wd_l105, wd_l106, wd_l107, wd_l108, wd_l109, wd_l110, wd_l111, wd_l112, wd_l113, wd_l114, wd_l115, wd_l116, wd_l117, wd_l118, wd_l119, wd_l120, wd_l121, wd_l122, wd_l123, wd_l124]); omega)))); (intro v9 hv9; (try simp (disch := omega) only [ab_tI, ab_c0, wd_ix12, wd_ix8, wd_ix10, wd_up_self, wd_up_eq, wd_up_ne, Int.toNat_natCast, Int.toNat_of_nonneg, not_true_eq_false, not_false_eq_true, Option.some.injEq] at hv9); subst hv9))
    | (apply w_putM; (focus (exact rfl)); (focus (first | exact trivial | exact Or.inl rfl | exact Or.inr rfl)); (focus (exact rfl)))
    | (apply w_iasM; (focus (exact rfl)); (focus (exact (by first | exact ⟨by decide, by decide⟩ | ((try simp (disch := omega) only [ab_tI, ab_c0, wd_ix12, wd_ix8, wd_ix10, wd_up_self, wd_up_eq, wd_up_ne, Int.toNat_natCast, Int.toNat_of_nonneg, not_true_eq_false, not_false_eq_true, Option.some.injEq, wd_l103, wd_l104, wd_l105, wd_l106, wd_l107, wd_l108, wd_l109, wd_l110, wd_l111, wd_l112, wd_l113, wd_l114, wd_l115, wd_l116, wd_l117, wd_l118, wd_l119, wd_l120, wd_l121, wd_l122, wd_l123, wd_l124]); omega)))); (intro v9 hv9; (try simp (disch := omega) only [ab_tI, ab_c0, wd_ix12, wd_ix8, wd_ix10, wd_up_self, wd_up_eq, wd_up_ne, Int.toNat_natCast, Int.toNat_of_nonneg, not_true_eq_false, not_false_eq_true, Option.some.injEq] at hv9); subst hv9))
    | (refine i_brF (by decide) ?_)
    | (refine i_brT (by decide) ?_)
    | (refine ⟨fun hc => ?_, fun hc => ?_⟩ <;> (try simp (disch := omega) only [ab_tI, ab_c0, wd_ix12, wd_ix8, wd_ix10, wd_up_self, wd_up_eq, wd_up_ne, Int.toNat_natCast, Int.toNat_of_nonneg, not_true_eq_false, not_false_eq_true, Option.some.injEq] at hc) <;> first | (exfalso; omega) | skip)
    | (apply i_cv; (focus (exact rfl)))
    | (apply i_len; (focus (exact rfl)))
    | (apply w_putI; (focus (exact rfl)); (focus (exact rfl)); (focus (exact rfl)); (focus (first | exact trivial | exact Or.inl rfl | exact Or.inr rfl)); (focus (exact rfl)))
    | (apply w_putP; (focus (exact rfl)); (focus (exact rfl)); (focus (exact rfl)); (focus (exact trivial)); (focus (exact rfl)))
    | (apply i_ialN; (focus (exact rfl)); (focus (first | exact Or.inl rfl | exact Or.inr rfl)); (focus (exact (by first | exact ⟨by decide, by decide⟩ | ((try simp (disch := omega) only [ab_tI, ab_c0, wd_ix12, wd_ix8, wd_ix10, wd_up_self, wd_up_eq, wd_up_ne, Int.toNat_natCast, Int.toNat_of_nonneg, not_true_eq_false, not_false_eq_true, Option.some.injEq, wd_l103, wd_l104, wd_l105, wd_l106, wd_l107, wd_l108, wd_l109, wd_l110, wd_l111, wd_l112, wd_l113, wd_l114, wd_l115, wd_l116, wd_l117, wd_l118, wd_l119, wd_l120, wd_l121, wd_l122, wd_l123, wd_l124]); omega)))); (intro v9 hv9; (try simp (disch := omega) only [ab_tI, ab_c0, wd_ix12, wd_ix8, wd_ix10, wd_up_self, wd_up_eq, wd_up_ne, Int.toNat_natCast, Int.toNat_of_nonneg, not_true_eq_false, not_false_eq_true, Option.some.injEq] at hv9); subst hv9))
    | (apply i_aalN; (focus (exact rfl)); (focus (exact (by first | exact ⟨by decide, by decide⟩ | ((try simp (disch := omega) only [ab_tI, ab_c0, wd_ix12, wd_ix8, wd_ix10, wd_up_self, wd_up_eq, wd_up_ne, Int.toNat_natCast, Int.toNat_of_nonneg, not_true_eq_false, not_false_eq_true, Option.some.injEq, wd_l103, wd_l104, wd_l105, wd_l106, wd_l107, wd_l108, wd_l109, wd_l110, wd_l111, wd_l112, wd_l113, wd_l114, wd_l115, wd_l116, wd_l117, wd_l118, wd_l119, wd_l120, wd_l121, wd_l122, wd_l123, wd_l124]); omega)))); (intro v9 hv9; (try simp (disch := omega) only [ab_tI, ab_c0, wd_ix12, wd_ix8, wd_ix10, wd_up_self, wd_up_eq, wd_up_ne, Int.toNat_natCast, Int.toNat_of_nonneg, not_true_eq_false, not_false_eq_true, Option.some.injEq] at hv9); subst hv9))
    | (apply w_iasI; (focus (exact rfl)); (focus (exact rfl)); (focus (exact (by first | exact ⟨by decide, by decide⟩ | ((try simp (disch := omega) only [ab_tI, ab_c0, wd_ix12, wd_ix8, wd_ix10, wd_up_self, wd_up_eq, wd_up_ne, Int.toNat_natCast, Int.toNat_of_nonneg, not_true_eq_false, not_false_eq_true, Option.some.injEq, wd_l103, wd_l104, wd_l105, wd_l106, wd_l107, wd_l108, wd_l109, wd_l110, wd_l111, wd_l112, wd_l113, wd_l114, wd_l115, wd_l116, wd_l117, wd_l118, wd_l119, wd_l120, wd_l121, wd_l122, wd_l123, wd_l124]); omega)))); (focus (intro _; exact rfl)); (intro v9 hv9; (try simp (disch := omega) only [ab_tI, ab_c0, wd_ix12, wd_ix8, wd_ix10, wd_up_self, wd_up_eq, wd_up_ne, Int.toNat_natCast, Int.toNat_of_nonneg, not_true_eq_false, not_false_eq_true, Option.some.injEq] at hv9); subst hv9))
    | (apply w_balM; (focus (exact (by first | exact ⟨by decide, by decide⟩ | ((try simp (disch := omega) only [ab_tI, ab_c0, wd_ix12, wd_ix8, wd_ix10, wd_up_self, wd_up_eq, wd_up_ne, Int.toNat_natCast, Int.toNat_of_nonneg, not_true_eq_false, not_false_eq_true, Option.some.injEq, wd_l103, wd_l104, wd_l105, wd_l106, wd_l107, wd_l108, wd_l109, wd_l110, wd_l111, wd_l112, wd_l113, wd_l114, wd_l115, wd_l116, wd_l117, wd_l118, wd_l119, wd_l120, wd_l121, wd_l122, wd_l123, wd_l124]); omega)))); (intro v9 hv9; (try simp (disch := omega) only [ab_tI, ab_c0, wd_ix12, wd_ix8, wd_ix10, wd_up_self, wd_up_eq, wd_up_ne, Int.toNat_natCast, Int.toNat_of_nonneg, not_true_eq_false, not_false_eq_true, Option.some.injEq] at hv9); subst hv9))
    | (apply w_basM; (focus (exact (by first | exact ⟨by decide, by decide⟩ | ((try simp (disch := omega) only [ab_tI, ab_c0, wd_ix12, wd_ix8, wd_ix10, wd_up_self, wd_up_eq, wd_up_ne, Int.toNat_natCast, Int.toNat_of_nonneg, not_true_eq_false, not_false_eq_true, Option.some.injEq, wd_l103, wd_l104, wd_l105, wd_l106, wd_l107, wd_l108, wd_l109, wd_l110, wd_l111, wd_l112, wd_l113, wd_l114, wd_l115, wd_l116, wd_l117, wd_l118, wd_l119, wd_l120, wd_l121, wd_l122, wd_l123, wd_l124]); omega)))); (focus (first | exact Or.inl rfl | exact Or.inr rfl)); (intro v9 hv9; (try simp (disch := omega) only [ab_tI, ab_c0, wd_ix12, wd_ix8, wd_ix10, wd_up_self, wd_up_eq, wd_up_ne, Int.toNat_natCast, Int.toNat_of_nonneg, not_true_eq_false, not_false_eq_true, Option.some.injEq] at hv9); subst hv9))
    | (refine And.intro trivial ?_)
    | (refine And.intro (Or.inl rfl) ?_)
    | (refine And.intro (Or.inr rfl) ?_)
    | (refine And.intro (by ((try simp (disch := omega) only [ab_tI, ab_c0, wd_ix12, wd_ix8, wd_ix10, wd_up_self, wd_up_eq, wd_up_ne, Int.toNat_natCast, Int.toNat_of_nonneg, not_true_eq_false, not_false_eq_true, Option.some.injEq]); omega)) ?_)
    | fail)
  all_goals (exfalso; omega)
/-! a set of things, and a cell made -/
theorem c_i_up {x a j : Nat} {c : ab_C} (h : a ≠ x) : c_i (ab_up g x c) a j = c_i g a j := by unfold c_i; rw [ab_up_ne _ _ h]
theorem c_wf_up {x a : Nat} {c : ab_C} (h : c_wf T g k a) (hx : k ≤ x) (hk : k ≤ kk) : c_wf T (ab_up g x c) kk a ∧ c_sz (ab_up g x c) a = c_sz g a ∧ (∀ j, c_pt (ab_up g x c) a j = c_pt g a j) ∧ (∀ j, c_ky (ab_up g x c) a j = c_ky g a j) ∧ c_ka (ab_up g x c) a = c_ka g a ∧ c_pa (ab_up g x c) a = c_pa g a := by
  obtain ⟨⟨m1, m2⟩, kd, wo, nd, ht, ka, pa, nk, np, fk, fp, h1, ⟨⟨k1, k2⟩, k3, k4⟩, ⟨⟨p1, p2⟩, p3, p4⟩, h4⟩ := h
  have ea : ab_up g x c a = g a := ab_up_ne _ _ (by omega)
  have eka : ab_up g x c ka = g ka := ab_up_ne _ _ (by omega)
  have epa : ab_up g x c pa = g pa := ab_up_ne _ _ (by omega)
  have e4 : c_ka g a = ka := by unfold c_ka; rw [h1]; rfl
  have e5 : c_pa g a = pa := by unfold c_pa; rw [h1]; rfl
  have u4 : c_ka (ab_up g x c) a = ka := by unfold c_ka; rw [ea, h1]; rfl
  have u5 : c_pa (ab_up g x c) a = pa := by unfold c_pa; rw [ea, h1]; rfl
  have esz : c_sz (ab_up g x c) a = c_sz g a := by unfold c_sz; rw [u5, e5, epa]
  have ept : ∀ j, c_pt (ab_up g x c) a j = c_pt g a j := fun j => by unfold c_pt; rw [u5, e5, epa]
  have eky : ∀ j, c_ky (ab_up g x c) a j = c_ky g a j := fun j => by unfold c_ky; rw [u4, e4, eka]
  refine ⟨⟨⟨m1, by omega⟩, kd, wo, nd, ht, ka, pa, nk, np, fk, fp, by rw [ea]; exact h1, ⟨⟨k1, by omega⟩, by rw [eka]; exact k3, k4⟩, ⟨⟨p1, by omega⟩, by rw [epa]; exact p3, p4⟩, fun j hj => ?_⟩, esz, ept, eky, u4.trans e4.symm, u5.trans e5.symm⟩
  rw [ept]
  exact h4 j hj
theorem c_W_up {x : Nat} {c : ab_C} (hW : c_W T g k) (hx : k ≤ x) (hk : k ≤ kk) : c_W T (ab_up g x c) kk := fun a ha => (c_wf_up (hW a ha) hx hk).1
theorem c_wf_mono {T' : Nat → Prop} {a : Nat} (h : c_wf T g k a) (hT : ∀ b, T b → T' b) : c_wf T' g k a := by
  obtain ⟨m, kd, wo, nd, ht, ka, pa, nk, np, fk, fp, h1, h2, h3, h4⟩ := h
  exact ⟨m, kd, wo, nd, ht, ka, pa, nk, np, fk, fp, h1, h2, h3, fun j hj => ⟨(h4 j hj).1, hT _ (h4 j hj).2⟩⟩
/-- a thing more -/
theorem c_W_new {x ka pa np nk : Nat} {kd wo nd ht : Int32} {fk : Nat → Int32} {fp : Nat → Option Nat} (hW : c_W T g k) (hkx : k ≤ x) (hxk : x < kk) (hmx : wd_mut x = false) (hka : (wd_mut ka = false ∧ ka < kk) ∧ g ka = ab_ia 0 nk fk ∧ nk ≤ 13) (hpa : (wd_mut pa = false ∧ pa < kk) ∧ g pa = ab_ra 4 np fp ∧ np ≤ 13) (hne : ka ≠ x ∧ pa ≠ x) (hf : ∀ j, j < np → ∃ b, fp j = some b ∧ T b) : c_W (fun a => T a ∨ a = x) (ab_up g x (ab_ob 9 [.inl kd, .inl wo, .inl nd, .inl ht, wd_v ka, wd_v pa])) kk := by
  intro a ha
  rcases ha with ha | rfl
  · exact c_wf_mono (c_wf_up (hW a ha) hkx (by omega)).1 (fun b hb => Or.inl hb)
  · have e5 : c_pa (ab_up g a (ab_ob 9 [.inl kd, .inl wo, .inl nd, .inl ht, wd_v ka, wd_v pa])) a = pa := by unfold c_pa; rw [ab_up_self]; rfl
    refine ⟨⟨hmx, hxk⟩, kd, wo, nd, ht, ka, pa, nk, np, fk, fp, ab_up_self _ _ _, ⟨hka.1, by rw [ab_up_ne _ _ hne.1]; exact hka.2.1, hka.2.2⟩, ⟨hpa.1, by rw [ab_up_ne _ _ hne.2]; exact hpa.2.1, hpa.2.2⟩, fun j hj => ?_⟩
    obtain ⟨b, hb, hT⟩ := hf j hj
    have ept : c_pt (ab_up g a (ab_ob 9 [.inl kd, .inl wo, .inl nd, .inl ht, wd_v ka, wd_v pa])) a j = b := by
      unfold c_pt
      rw [e5, ab_up_ne _ _ hne.2, hpa.2.1]
      show (fp j).getD 0 = b
      rw [hb]; rfl
    rw [ept]
    exact ⟨hb, Or.inl hT⟩
end
