/-! ===== things whose NODES are what they should be, all the way down (own text) ===== -/
/-- its NODES are one more than those of its parts together -/
def c_ex (g : Nat → ab_C) (a : Nat) : Prop := 1 ≤ (c_i g a 2).toInt ∧ (c_i g a 2).toInt = 1 + c_nsm g (c_ptr g a) (c_sz g a)
def c_E : Nat → (Nat → ab_C) → Nat → Prop
  | 0, _, _ => True
  | f + 1, g, a => c_ex g a ∧ ∀ j, j < c_sz g a → c_E f g (c_pt g a j)
def c_EE (g : Nat → ab_C) (a : Nat) : Prop := ∀ f, c_E f g a
theorem c_EE.ex {g : Nat → ab_C} {a : Nat} (h : c_EE g a) : c_ex g a := (h 1).1
theorem c_EE.pt {g : Nat → ab_C} {a j : Nat} (h : c_EE g a) (hj : j < c_sz g a) : c_EE g (c_pt g a j) := fun f => (h (f + 1)).2 j hj
theorem c_EE.of {g : Nat → ab_C} {a : Nat} (h : c_ex g a) (hp : ∀ j, j < c_sz g a → c_EE g (c_pt g a j)) : c_EE g a := fun f => match f with
  | 0 => trivial
  | f + 1 => ⟨h, fun j hj => hp j hj f⟩
theorem c_EE.n1 {g : Nat → ab_C} {a : Nat} (h : c_EE g a) : c_n1 g (c_ptr g a) (c_sz g a) := fun j hj => (h.pt hj).ex.1
/-- a part has fewer -/
theorem c_nsm_at {g : Nat → ab_C} {fp : Nat → Option Nat} : ∀ n, c_n1 g fp n → ∀ j, j < n → (c_i g ((fp j).getD 0) 2).toInt ≤ c_nsm g fp n
  | 0, _, j, hj => absurd hj (Nat.not_lt_zero _)
  | n + 1, h, j, hj => by
    have h1 := h n (by omega)
    have h0 := c_nsm_0 n (fun i hi => h i (by omega))
    unfold c_nsm
    by_cases e : j = n
    · subst e; omega
    · have := c_nsm_at n (fun i hi => h i (by omega)) j (by omega)
      omega
theorem c_EE.lt {g : Nat → ab_C} {a j : Nat} (h : c_EE g a) (hj : j < c_sz g a) : (c_i g (c_pt g a j) 2).toInt < (c_i g a 2).toInt := by
  have h1 := c_nsm_at _ h.n1 j hj
  have h2 := h.ex.2
  change (c_i g (c_pt g a j) 2).toInt ≤ _ at h1
  omega
theorem c_nsm_le {g : Nat → ab_C} {fp : Nat → Option Nat} {m : Int} : ∀ n, (∀ j, j < n → (c_i g ((fp j).getD 0) 2).toInt ≤ m) → c_nsm g fp n ≤ n * m
  | 0, _ => by unfold c_nsm; omega
  | n + 1, h => by
    have h1 := h n (by omega)
    have h2 := c_nsm_le n (fun i hi => h i (by omega))
    have e : ((n + 1 : Nat) : Int) * m = n * m + m := by rw [Int.natCast_add, Int.add_mul]; simp
    unfold c_nsm
    rw [e]
    omega
/-- sums, part by part -/
theorem c_nsm_mul {g g' : Nat → ab_C} {fp fp' : Nat → Option Nat} {m : Int} : ∀ n, (∀ j, j < n → (c_i g' ((fp' j).getD 0) 2).toInt ≤ m * (c_i g ((fp j).getD 0) 2).toInt) → c_nsm g' fp' n ≤ m * c_nsm g fp n
  | 0, _ => by unfold c_nsm; omega
  | n + 1, h => by
    have h1 := h n (by omega)
    have h2 := c_nsm_mul n (fun i hi => h i (by omega))
    unfold c_nsm
    rw [Int.mul_add]
    omega
theorem c_nods_b {g : Nat → ab_C} {fp : Nat → Option Nat} : ∀ n, c_n1 g fp n → c_nsm g fp n ≤ 2000000000 → (c_nods g fp n).toInt = 1 + c_nsm g fp n
  | 0, _, _ => by unfold c_nods c_nsm; decide
  | n + 1, h, hl => by
    have h0 := c_nsm_0 n (fun j hj => h j (by omega))
    have h1 := h n (by omega)
    unfold c_nsm at hl
    have ih := c_nods_b n (fun j hj => h j (by omega)) (by omega)
    unfold c_nods c_nsm
    rw [ih, ab_tI (by omega) (by omega)]
    omega
/-- seen alike -/
def c_vw (g g' : Nat → ab_C) (a : Nat) : Prop := (∀ j, c_i g' a j = c_i g a j) ∧ c_sz g' a = c_sz g a ∧ ∀ j, c_pt g' a j = c_pt g a j
theorem c_vw_xt {T : Nat → Prop} {g g' : Nat → ab_C} {k k' : Nat} (hW : c_W T g k) (hx : c_ofr k g g') (hk : k ≤ k') : ∀ b, T b → c_vw g g' b := fun b hb => by
  obtain ⟨-, h1, h2, -, h3, -⟩ := c_wf_xt (hW b hb) hx hk
  exact ⟨h3, h1, h2⟩
theorem c_vw_nq {T : Nat → Prop} {g : Nat → ab_C} {k q : Nat} {c : ab_C} (hW : c_W T g k) (hn : c_nq T g q) : ∀ b, T b → c_vw g (ab_up g q c) b := fun b hb => by
  obtain ⟨-, h1, h2, -, h3, -⟩ := c_wf_nq (c := c) hW hb hn
  exact ⟨h3, h1, h2⟩
theorem c_E_vw {T : Nat → Prop} {g g' : Nat → ab_C} {k : Nat} (hW : c_W T g k) (hv : ∀ b, T b → c_vw g g' b) : ∀ f a, T a → c_E f g a → c_E f g' a
  | 0, _, _, _ => trivial
  | f + 1, a, ha, h => by
    obtain ⟨⟨h1, h2⟩, h3⟩ := h
    obtain ⟨v1, v2, v3⟩ := hv a ha
    refine ⟨⟨by rw [v1]; exact h1, ?_⟩, fun j hj => ?_⟩
    · rw [v1, v2, h2]
      congr 1
      refine (c_nsm_eq _ (fun j hj => ?_)).symm
      show (c_i g' (c_pt g' a j) 2).toInt = (c_i g (c_pt g a j) 2).toInt
      rw [v3, (hv _ (c_W_pt hW ha hj)).1]
    · rw [v2] at hj
      rw [v3]
      exact c_E_vw hW hv f _ (c_W_pt hW ha hj) (h3 j hj)
theorem c_EE_vw {T : Nat → Prop} {g g' : Nat → ab_C} {k : Nat} (hW : c_W T g k) (hv : ∀ b, T b → c_vw g g' b) {a : Nat} (ha : T a) (h : c_EE g a) : c_EE g' a := fun f => c_E_vw hW hv f a ha (h f)
/-- a new thing, at x, over things -/
theorem c_EE_new {T : Nat → Prop} {h : Nat → ab_C} {k x ka pa np : Nat} {kd wo : Int32} {fp : Nat → Option Nat} (hW : c_W T h k) (hkx : k ≤ x) (hpa : h pa = ab_ra 4 np fp) (hne : pa ≠ x) (hf : ∀ j, j < np → ∃ b, fp j = some b ∧ T b ∧ c_EE h b) (hs : c_nsm h fp np ≤ 2000000000) : c_EE (ab_up h x (c_new h kd wo ka pa np fp)) x ∧ (c_i (ab_up h x (c_new h kd wo ka pa np fp)) x 2).toInt = 1 + c_nsm h fp np := by
  have h1 : c_n1 h fp np := fun j hj => by
    obtain ⟨b, hb, -, he⟩ := hf j hj
    rw [hb]
    exact he.ex.1
  have hv : ∀ b, T b → c_vw h (ab_up h x (c_new h kd wo ka pa np fp)) b := fun b hb => by
    obtain ⟨-, q1, q2, -⟩ := c_wf_up (kk := k) (c := c_new h kd wo ka pa np fp) (hW b hb) hkx (Nat.le_refl _)
    exact ⟨fun j => c_i_up (by have := (hW b hb).1.2; omega), q1, q2⟩
  have e2 : (c_i (ab_up h x (c_new h kd wo ka pa np fp)) x 2).toInt = 1 + c_nsm h fp np := by
    rw [c_new_i.2.2.1]
    exact c_nods_b np h1 hs
  have e5 : c_pa (ab_up h x (c_new h kd wo ka pa np fp)) x = pa := by unfold c_pa; rw [ab_up_self]; rfl
  have esz : c_sz (ab_up h x (c_new h kd wo ka pa np fp)) x = np := by unfold c_sz; rw [e5, ab_up_ne _ _ hne, hpa]; rfl
  have ept : ∀ j, c_pt (ab_up h x (c_new h kd wo ka pa np fp)) x j = (fp j).getD 0 := fun j => by unfold c_pt; rw [e5, ab_up_ne _ _ hne, hpa]; rfl
  have h0 := c_nsm_0 np h1
  refine ⟨.of ⟨by rw [e2]; omega, ?_⟩ (fun j hj => ?_), e2⟩
  · rw [e2, esz]
    congr 1
    refine (c_nsm_eq _ (fun j hj => ?_)).symm
    show (c_i _ (c_pt _ x j) 2).toInt = _
    rw [ept]
    obtain ⟨b, hb, hT, -⟩ := hf j hj
    rw [hb]
    show (c_i _ b 2).toInt = (c_i h b 2).toInt
    rw [(hv b hT).1]
  · rw [esz] at hj
    obtain ⟨b, hb, hT, he⟩ := hf j hj
    rw [ept, hb]
    exact c_EE_vw hW hv hT he
/-! the sum of all numbers in such a thing is bounded -/
theorem i64_add {a b : Int64} {x y : Int} (ha : -x ≤ a.toInt ∧ a.toInt ≤ x) (hb : -y ≤ b.toInt ∧ b.toInt ≤ y) (h : x + y < 9223372036854775807) : -(x + y) ≤ (a + b).toInt ∧ (a + b).toInt ≤ x + y := by
  have e : (a + b).toInt = a.toInt + b.toInt := by
    rw [Int64.toInt_add]
    rw [Int.bmod_eq_of_le] <;> omega
  omega
theorem i64_32 {a : Int32} : -2147483648 ≤ a.toInt64.toInt ∧ a.toInt64.toInt ≤ 2147483648 := by
  have e : a.toInt64.toInt = a.toInt := Int32.toInt_toInt64 a
  have := ab_ltO (v := a)
  omega
section
variable {T : Nat → Prop} {g : Nat → ab_C} {k : Nat}
theorem c_suml_b {F : Nat → Int64} {a : Nat} (hE : c_EE g a) (hn : (c_i g a 2).toInt ≤ 1000000) (hF : ∀ j, j < c_sz g a → -(2147483648 * (c_i g (c_pt g a j) 2).toInt) ≤ (F (c_pt g a j)).toInt ∧ (F (c_pt g a j)).toInt ≤ 2147483648 * (c_i g (c_pt g a j) 2).toInt) : ∀ n, n ≤ c_sz g a → -(2147483648 * (1 + c_nsm g (c_ptr g a) n)) ≤ (c_suml F g a n).toInt ∧ (c_suml F g a n).toInt ≤ 2147483648 * (1 + c_nsm g (c_ptr g a) n)
  | 0, _ => by
    unfold c_suml c_nsm
    split
    · have := i64_32 (a := c_i g a 1)
      omega
    · have e : (Int64.ofNat 0).toInt = 0 := by decide
      omega
  | n + 1, hn1 => by
    have ih := c_suml_b hE hn hF n (by omega)
    have h1 := hF n (by omega)
    have h2 := c_nsm_at _ hE.n1
    have h3 : c_nsm g (c_ptr g a) (n + 1) ≤ c_nsm g (c_ptr g a) (c_sz g a) := by
      have hm : ∀ i, n + 1 + i ≤ c_sz g a → c_nsm g (c_ptr g a) (n + 1) ≤ c_nsm g (c_ptr g a) (n + 1 + i) := by
        intro i
        induction i with
        | zero => intro _; exact Int.le_refl _
        | succ i ih =>
          intro hi
          have q1 := ih (by omega)
          have q2 := hE.n1 (n + 1 + i) (by omega)
          have e : c_nsm g (c_ptr g a) (n + 1 + (i + 1)) = c_nsm g (c_ptr g a) (n + 1 + i) + (c_i g ((c_ptr g a (n + 1 + i)).getD 0) 2).toInt := rfl
          rw [e]
          omega
      have := hm (c_sz g a - (n + 1)) (by omega)
      rw [show n + 1 + (c_sz g a - (n + 1)) = c_sz g a by omega] at this
      exact this
    have h4 := hE.ex.2
    have h5 := c_nsm_0 n (fun j hj => hE.n1 j (by omega))
    have h6 := hE.n1 n (by omega)
    have e : c_nsm g (c_ptr g a) (n + 1) = c_nsm g (c_ptr g a) n + (c_i g (c_pt g a n) 2).toInt := rfl
    have := i64_add ih h1 (by omega)
    rw [e]
    show -(2147483648 * _) ≤ (c_suml F g a n + F (c_pt g a n)).toInt ∧ (c_suml F g a n + F (c_pt g a n)).toInt ≤ _
    omega
theorem c_sum_b : ∀ f a, c_EE g a → (c_i g a 2).toInt ≤ 1000000 → -(2147483648 * (c_i g a 2).toInt) ≤ (c_sum g f a).toInt ∧ (c_sum g f a).toInt ≤ 2147483648 * (c_i g a 2).toInt
  | 0, a, hE, hn => by
    have e : (Int64.ofNat 0).toInt = 0 := by decide
    have := hE.ex.1
    unfold c_sum
    omega
  | f + 1, a, hE, hn => by
    have h := c_suml_b (F := c_sum g f) hE hn (fun j hj => c_sum_b f _ (hE.pt hj) (by have := hE.lt hj; omega)) (c_sz g a) (Nat.le_refl _)
    rw [← hE.ex.2] at h
    exact h
theorem c_fsum_b {l : List Nat} (hl : ∀ j, j < l.length → c_EE g (l.getD j 0) ∧ (c_i g (l.getD j 0) 2).toInt ≤ 200) : ∀ n, n ≤ l.length → n ≤ 200 → -(2147483648 * (200 * (n : Int))) ≤ (c_fsum g l n).toInt ∧ (c_fsum g l n).toInt ≤ 2147483648 * (200 * (n : Int))
  | 0, _, _ => by
    have e : (Int64.ofNat 0).toInt = 0 := by decide
    unfold c_fsum
    omega
  | n + 1, hn, hn2 => by
    have ih := c_fsum_b hl n (by omega) (by omega)
    obtain ⟨h1, h2⟩ := hl n (by omega)
    have h3 := c_sum_b 41 _ h1 (by omega)
    have := i64_add ih h3 (by omega)
    show -(2147483648 * _) ≤ (c_fsum g l n + c_sum g 41 (l.getD n 0)).toInt ∧ (c_fsum g l n + c_sum g 41 (l.getD n 0)).toInt ≤ _
    omega
/-- foci of such things are such things, and no larger -/
theorem c_fol_EE {F : Nat → List Nat} {p a i : Nat} {m : Int} (hF : ∀ j, j < c_sz g a → ∀ b ∈ F (c_pt g a j), c_EE g b ∧ (c_i g b 2).toInt ≤ m) : ∀ n j, j + n = c_sz g a → ∀ b ∈ c_fol F g p a i n j, c_EE g b ∧ (c_i g b 2).toInt ≤ m
  | 0, j, _, b, hb => by unfold c_fol at hb; cases hb
  | n + 1, j, hj, b, hb => by
    unfold c_fol at hb
    split at hb
    · rcases List.mem_append.mp hb with hb | hb
      · exact hF j (by omega) b hb
      · exact c_fol_EE hF n (j + 1) (by omega) b hb
    · exact c_fol_EE hF n (j + 1) (by omega) b hb
theorem c_fo_EE {p : Nat} {m : Int} : ∀ f a i, c_EE g a → (c_i g a 2).toInt ≤ m → ∀ b ∈ c_fo g p f a i, c_EE g b ∧ (c_i g b 2).toInt ≤ m
  | 0, a, i, _, _, b, hb => by unfold c_fo at hb; cases hb
  | f + 1, a, i, hE, hm, b, hb => by
    unfold c_fo at hb
    split at hb
    · rcases List.mem_singleton.mp hb with rfl
      exact ⟨hE, hm⟩
    · split at hb
      · exact c_fo_EE f a (i + 1) hE hm b hb
      · exact c_fol_EE (fun j hj b hb => c_fo_EE f _ _ (hE.pt hj) (by have := hE.lt hj; omega) b hb) _ 0 (by omega) b hb
theorem c_fs41_EE {p a j : Nat} {m : Int} (hE : c_EE g a) (hm : (c_i g a 2).toInt ≤ m) (hj : j < (c_fs41 g p a).length) : c_EE g ((c_fs41 g p a).getD j 0) ∧ (c_i g ((c_fs41 g p a).getD j 0) 2).toInt ≤ m := by
  have h1 : (c_fs41 g p a).getD j 0 ∈ c_fs41 g p a := by
    rw [List.getD_eq_getElem?_getD, List.getElem?_eq_getElem hj]
    exact List.getElem_mem hj
  exact c_fo_EE 41 a 0 hE hm _ (List.mem_of_mem_take h1)
end
