/-! ===== texts: a text on the way, and one that is made (own text) ===== -/
/-- since the heap F0 with k0 cells: a builder at x with n letters; old cells kept; A cells made, B slots and twice its room -/
def st_T (F0 : Nat → ab_C) (k0 z0 A B : Nat) (F : Nat → ab_C) (k z x N n : Nat) : Prop := st_sp F ∧ (∃ v, st_sb F k x v N n ∧ k0 ≤ v) ∧ k0 ≤ x ∧ (∀ a, (a < k0 ∨ ab_scr ≤ a) → F a = F0 a) ∧ (k0 ≤ k ∧ k ≤ k0 + A) ∧ (z0 ≤ z ∧ z ≤ z0 + B + 2 * N) ∧ N ≤ 16 + 2 * n
/-- what a method that makes a text leaves: K cells, Z slots, L letters at most -/
def st_R (F0 : Nat → ab_C) (k0 z0 K Z L : Nat) (Q : ab_Q) : Prop := ∀ F' k' z' y w n, st_is F' k0 k' y w n → n ≤ L → (∀ a, (a < k0 ∨ ab_scr ≤ a) → F' a = F0 a) → (k0 ≤ k' ∧ k' ≤ k0 + K) → (z0 ≤ z' ∧ z' ≤ z0 + Z) → st_sp F' → Q (some (wd_v y)) (F', k', z')
section
variable {d : Nat} {F0 F : Nat → ab_C} {k0 z0 A B k z x N n : Nat} {Q : ab_Q}
theorem st_T.sp (h : st_T F0 k0 z0 A B F k z x N n) : st_sp F := h.1
theorem tx_cv {P : Prop} (h : st_T F0 k0 z0 A B F k z x N n) (hK : P) : ∃ fs, (F, k, z).1 x = ab_ob 14 fs ∧ P := by
  obtain ⟨v, ⟨⟨f, m, h1, h2⟩, -⟩, -⟩ := h.2.1
  exact ⟨_, h1, hK⟩
theorem tx_fr {F' : Nat → ab_C} {k' z' dk dz : Nat} (h : st_T F0 k0 z0 A B F k z x N n) (hk6 : k' ≤ 600000) (hf : ∀ a, (a < k ∨ ab_scr ≤ a) → F' a = F a) (hk : k ≤ k' ∧ k' ≤ k + dk) (hz : z ≤ z' ∧ z' ≤ z + dz) : st_T F0 k0 z0 (A + dk) (B + dz) F' k' z' x N n := by
  obtain ⟨h1, ⟨v, ⟨⟨f, m, b1, b2⟩, ⟨b3, b4, b5, b6⟩, b7, b8⟩, h3⟩, h4, h5, h6, h7, h8⟩ := h
  exact ⟨h1.eq (fun a ha => hf a (Or.inr ha)), ⟨v, ⟨⟨f, m, (hf x (Or.inl b3)).trans b1, (hf v (Or.inl b4)).trans b2⟩, ⟨by omega, by omega, b5, hk6⟩, b7, b8⟩, h3⟩, h4, fun a ha => (hf a (by omega)).trans (h5 a ha), ⟨by omega, by omega⟩, ⟨by omega, by omega⟩, h8⟩
theorem tx_of_ap {Q : ab_Q} {v N n n' : Nat} (h : st_T F0 k0 z0 A B F k z x N n) (hnn : n ≤ n') (hb : st_sb F k x v N n) (hv : k0 ≤ v) (hQ : ∀ F' k' z' N', st_T F0 k0 z0 (A + 1) B F' k' z' x N' n' → Q (some (wd_v x)) (F', k', z')) : st_ap F k z x v N n' Q := by
  obtain ⟨h1, -, h4, h5, h6, h7, h8⟩ := h
  have hscr : 700000 ≤ ab_scr := by decide
  intro F' k' z' v' N' a1 a2 a3 a4 a5 a6
  obtain ⟨-, ⟨b3, b4, b5, b6⟩, b7, b8⟩ := id hb
  obtain ⟨-, ⟨c3, c4, c5, c6⟩, c7, c8⟩ := id a1
  exact hQ F' k' z' N' ⟨h1.eq (fun a ha => a2 a (Or.inr ha) (by omega) (by omega)), ⟨v', a1, by omega⟩, h4, fun a ha => (a2 a (by omega) (by omega) (by omega)).trans (h5 a ha), ⟨by omega, by omega⟩, ⟨by omega, by omega⟩, by omega⟩
theorem tx_app (hd : 6 ≤ d) {lo s w m : Nat} (h : st_T F0 k0 z0 A B F k z x N n) (hs : st_is F lo k s w m) (hnm : n + m ≤ 400) (hroom : k0 + A + 1 ≤ 600000 ∧ z0 + B + 3000 ≤ 5000000) (hQ : ∀ F' k' z' N', st_T F0 k0 z0 (A + 1) B F' k' z' x N' (n + m) → Q (some (wd_v x)) (F', k', z')) : ab_CT d 164 [wd_v x, wd_v s] (F, k, z) Q := by
  obtain ⟨h1, ⟨v, hb, h3⟩, h4, h5, h6, h7, h8⟩ := id h
  exact j_app4 hd h1 hb hs hnm ⟨by omega, by omega⟩ (tx_of_ap h (by omega) hb h3 hQ)
theorem tx_appI (hd : 6 ≤ d) {i : Int32} (h : st_T F0 k0 z0 A B F k z x N n) (hi : 0 ≤ i.toInt ∧ i.toInt ≤ 99) (hnm : n + 2 ≤ 400) (hroom : k0 + A + 1 ≤ 600000 ∧ z0 + B + 3000 ≤ 5000000) (hQ : ∀ m, m ≤ 2 → ∀ F' k' z' N', st_T F0 k0 z0 (A + 1) B F' k' z' x N' (n + m) → Q (some (wd_v x)) (F', k', z')) : ab_CT d 166 [wd_v x, .inl i] (F, k, z) Q := by
  obtain ⟨h1, ⟨v, hb, h3⟩, h4, h5, h6, h7, h8⟩ := id h
  exact j_appI4 hd h1 hb hi hnm ⟨by omega, by omega⟩ (fun m hm => tx_of_ap h (by omega) hb h3 (hQ m hm))
theorem tx_appC (hd : 6 ≤ d) {c : Int32} (h : st_T F0 k0 z0 A B F k z x N n) (hc : c.toInt ≤ 255) (hnm : n + 1 ≤ 400) (hroom : k0 + A + 1 ≤ 600000 ∧ z0 + B + 3000 ≤ 5000000) (hQ : ∀ F' k' z' N', st_T F0 k0 z0 (A + 1) B F' k' z' x N' (n + 1) → Q (some (wd_v x)) (F', k', z')) : ab_CT d 165 [wd_v x, .inl c] (F, k, z) Q := by
  obtain ⟨h1, ⟨v, hb, h3⟩, h4, h5, h6, h7, h8⟩ := id h
  exact j_appC4 hd h1 hb hc hnm ⟨by omega, by omega⟩ (tx_of_ap h (by omega) hb h3 hQ)
theorem tx_ini (hd : 2 ≤ d) {F1 : Nat → ab_C} (g1 : F1 k0 = ab_ob 14 (ab_df 14)) (g2 : ∀ y, y ≠ k0 → F1 y = F0 y) (hsp : st_sp F0) (hroom : k0 + 2 ≤ 600000 ∧ z0 + 20 ≤ 5000000) (hQ : ∀ F', st_T F0 k0 z0 2 0 F' (k0 + 1 + 1) (z0 + 4 + 16) k0 16 0 → Q none (F', k0 + 1 + 1, z0 + 4 + 16)) : ab_CT d 163 [wd_v k0] (F1, k0 + 1, z0 + 4) Q := by
  have hscr : 700000 ≤ ab_scr := by decide
  refine j_init4 hd ((g2 _ (by omega)).trans hsp.2.1) (by omega) g1 ⟨by omega, by omega⟩ (fun F' a1 a2 => ?_)
  have e : ∀ a, (a < k0 ∨ ab_scr ≤ a) → F' a = F0 a := fun a ha => (a2 a (by omega) (by omega) (by omega)).trans (g2 a (by omega))
  exact hQ F' ⟨hsp.eq (fun a ha => e a (Or.inr ha)), ⟨k0 + 1, a1, by omega⟩, Nat.le_refl _, e, ⟨by omega, by omega⟩, ⟨by omega, by omega⟩, by omega⟩
theorem tx_end (hd : 6 ≤ d) (h : st_T F0 k0 z0 A B F k z x N n) (hn : n ≤ 400) (hroom : k0 + A + 2 ≤ 600000 ∧ z0 + B + 3000 ≤ 5000000) (hQ : st_R F0 k0 z0 (A + 2) (B + 40 + 5 * n) n Q) : ab_CT d 167 [wd_v x] (F, k, z) Q := by
  obtain ⟨h1, ⟨v, hb, h3⟩, h4, h5, h6, h7, h8⟩ := id h
  have hscr : 700000 ≤ ab_scr := by decide
  have hN := hb.2.2.2
  have hk := hb.2.1.2.2.2
  refine j_toString hd (lo := k0) (by omega) h1.2.1 hb hn ⟨by omega, by omega⟩ (fun F' a1 a2 => ?_)
  have e : ∀ a, (a < k0 ∨ ab_scr ≤ a) → F' a = F0 a := fun a ha => (a2 a (by omega) (by omega)).trans (h5 a ha)
  exact hQ F' _ _ _ _ _ a1 (Nat.le_refl _) e ⟨by omega, by omega⟩ ⟨by omega, by omega⟩ (h1.eq (fun a ha => a2 a (by omega) (by omega)))
theorem st_R.mo {K Z L K' Z' L' : Nat} (h : st_R F0 k0 z0 K Z L Q) (hK : K' ≤ K) (hZ : Z' ≤ Z) (hL : L' ≤ L) : st_R F0 k0 z0 K' Z' L' Q := fun F' k' z' y w n a1 a2 a3 a4 a5 a6 => h F' k' z' y w n a1 (by omega) a3 ⟨by omega, by omega⟩ ⟨by omega, by omega⟩ a6
end
section
variable {d : Nat} {Q : ab_Q}
set_option maxHeartbeats 4000000 in
set_option maxRecDepth 100000 in
theorem l_some (hd : 1 ≤ d) {a b : Int32} {h : ab_H} (hb : 0 < b.toInt ∧ b.toInt ≤ 1000) (hQ : ∀ r : Int32, 0 ≤ r.toInt ∧ r.toInt < b.toInt → Q (some (.inl r)) h) : ab_CT d 178 [.inl a, .inl b] h Q := by
  have e : ∀ v : Int32, (-b.toInt < v.toInt ∧ v.toInt < b.toInt) → v.toInt < 0 → Q (some (.inl (ab_ii (v.toInt + b.toInt)))) h := fun v q1 q2 => hQ _ (by rw [ab_tI (by omega) (by omega)]; omega)
  refine wd_inC rfl (by omega) rfl ?_
  intro C9 X9 hC9 hX9
  repeat' ((conv => whnf); first
    | (refine And.intro (by omega) (fun v9 hv9 => ?_))
    | (intro v9 hv9; (try simp (disch := omega) only [ab_tI, ab_c0, wd_ix12, wd_ix8, wd_ix10, wd_up_self, wd_up_eq, wd_up_ne, Int.toNat_natCast, Int.toNat_of_nonneg, not_true_eq_false, not_false_eq_true, Option.some.injEq] at hv9); subst hv9)
    | (apply i_get; (focus (exact rfl)); (focus (exact rfl)))
    | (refine hX9 _ _ _ _ (wd_rnC rfl ?_); clear hC9 hX9 X9 C9; intro C9 X9 hC9 hX9)
    | (refine i_brF (by decide) ?_)
    | (refine i_brT (by decide) ?_)
    | (refine ⟨fun hc => ?_, fun hc => ?_⟩ <;> (try simp (disch := omega) only [ab_tI, ab_c0, wd_ix12, wd_ix8, wd_ix10, wd_up_self, wd_up_eq, wd_up_ne, Int.toNat_natCast, Int.toNat_of_nonneg, not_true_eq_false, not_false_eq_true, Option.some.injEq] at hc) <;> first | (exfalso; omega) | skip)
    | (apply i_cv; (focus (exact rfl)))
    | (refine And.intro trivial ?_)
    | (refine And.intro (Or.inl rfl) ?_)
    | (refine And.intro (Or.inr rfl) ?_)
    | (refine And.intro (by ((try simp (disch := omega) only [ab_tI, ab_c0, wd_ix12, wd_ix8, wd_ix10, wd_up_self, wd_up_eq, wd_up_ne, Int.toNat_natCast, Int.toNat_of_nonneg, not_true_eq_false, not_false_eq_true, Option.some.injEq]); omega)) ?_)
    | fail)
  all_goals first | exact hQ _ (by omega) | exact e _ (by assumption) (by omega) | (exfalso; omega)
set_option maxHeartbeats 4000000 in
set_option maxRecDepth 100000 in
theorem l_next (hd : 1 ≤ d) {a : Int32} {h : ab_H} (hQ : ∀ r : Int32, Q (some (.inl r)) h) : ab_CT d 179 [.inl a] h Q := by
  refine wd_inC rfl (by omega) rfl ?_
  intro C9 X9 hC9 hX9
  repeat' ((conv => whnf); first
    | (intro v9 hv9; (try simp (disch := omega) only [ab_tI, ab_c0, wd_ix12, wd_ix8, wd_ix10, wd_up_self, wd_up_eq, wd_up_ne, Int.toNat_natCast, Int.toNat_of_nonneg, not_true_eq_false, not_false_eq_true, Option.some.injEq] at hv9); subst hv9)
    | (apply i_get; (focus (exact rfl)); (focus (exact rfl)))
    | (refine hX9 _ _ _ _ (wd_rnC rfl ?_); clear hC9 hX9 X9 C9; intro C9 X9 hC9 hX9)
    | (refine i_brF (by decide) ?_)
    | (refine i_brT (by decide) ?_)
    | (refine ⟨fun hc => ?_, fun hc => ?_⟩ <;> (try simp (disch := omega) only [ab_tI, ab_c0, wd_ix12, wd_ix8, wd_ix10, wd_up_self, wd_up_eq, wd_up_ne, Int.toNat_natCast, Int.toNat_of_nonneg, not_true_eq_false, not_false_eq_true, Option.some.injEq] at hc) <;> first | (exfalso; omega) | skip)
    | (apply i_cv; (focus (exact rfl)))
    | (refine And.intro trivial ?_)
    | (refine And.intro (Or.inl rfl) ?_)
    | (refine And.intro (Or.inr rfl) ?_)
    | (refine And.intro (by ((try simp (disch := omega) only [ab_tI, ab_c0, wd_ix12, wd_ix8, wd_ix10, wd_up_self, wd_up_eq, wd_up_ne, Int.toNat_natCast, Int.toNat_of_nonneg, not_true_eq_false, not_false_eq_true, Option.some.injEq]); omega)) ?_)
    | fail)
  all_goals exact hQ _
set_option maxHeartbeats 4000000 in
set_option maxRecDepth 100000 in
theorem l_at (hd : 1 ≤ d) {a L : Nat} {xs : Nat → Int32} {i : Int32} {h : ab_H} (h1 : h.1 a = ab_ia 9 L xs) (hL : L ≤ 260) (hi : 0 ≤ i.toInt) (hQ : ∀ r : Int32, Q (some (.inl r)) h) : ab_CT d 177 [wd_v a, .inl i] h Q := by
  refine wd_inC rfl (by omega) rfl ?_
  intro C9 X9 hC9 hX9
  repeat' ((conv => whnf); first
    | (apply i_getN; (focus (first | exact h1)); (focus (exact rfl)); (intro v9 hv9; (try simp (disch := omega) only [ab_tI, ab_c0, wd_ix12, wd_ix8, wd_ix10, wd_up_self, wd_up_eq, wd_up_ne, Int.toNat_natCast, Int.toNat_of_nonneg, not_true_eq_false, not_false_eq_true, Option.some.injEq] at hv9); subst hv9))
    | (apply i_cv; (focus (first | exact h1)))
    | (apply i_len; (focus (first | exact congrArg ab_len (h1))))
    | (apply i_ialN; (focus (first | exact h1)); (focus (first | exact Or.inl rfl | exact Or.inr rfl)); (focus (exact (by first | exact ⟨by decide, by decide⟩ | ((try simp (disch := omega) only [ab_tI, ab_c0, wd_ix12, wd_ix8, wd_ix10, wd_up_self, wd_up_eq, wd_up_ne, Int.toNat_natCast, Int.toNat_of_nonneg, not_true_eq_false, not_false_eq_true, Option.some.injEq, ab_c0]); omega)))); (intro v9 hv9; (try simp (disch := omega) only [ab_tI, ab_c0, wd_ix12, wd_ix8, wd_ix10, wd_up_self, wd_up_eq, wd_up_ne, Int.toNat_natCast, Int.toNat_of_nonneg, not_true_eq_false, not_false_eq_true, Option.some.injEq] at hv9); subst hv9))
    | (apply i_aalN; (focus (first | exact h1)); (focus (exact (by first | exact ⟨by decide, by decide⟩ | ((try simp (disch := omega) only [ab_tI, ab_c0, wd_ix12, wd_ix8, wd_ix10, wd_up_self, wd_up_eq, wd_up_ne, Int.toNat_natCast, Int.toNat_of_nonneg, not_true_eq_false, not_false_eq_true, Option.some.injEq, ab_c0]); omega)))); (intro v9 hv9; (try simp (disch := omega) only [ab_tI, ab_c0, wd_ix12, wd_ix8, wd_ix10, wd_up_self, wd_up_eq, wd_up_ne, Int.toNat_natCast, Int.toNat_of_nonneg, not_true_eq_false, not_false_eq_true, Option.some.injEq] at hv9); subst hv9))
    | (intro v9 hv9; (try simp (disch := omega) only [ab_tI, ab_c0, wd_ix12, wd_ix8, wd_ix10, wd_up_self, wd_up_eq, wd_up_ne, Int.toNat_natCast, Int.toNat_of_nonneg, not_true_eq_false, not_false_eq_true, Option.some.injEq] at hv9); subst hv9)
    | (apply i_get; (focus (exact rfl)); (focus (exact rfl)))
    | (refine hX9 _ _ _ _ (wd_rnC rfl ?_); clear hC9 hX9 X9 C9; intro C9 X9 hC9 hX9)
    | (refine i_brF (by decide) ?_)
    | (refine i_brT (by decide) ?_)
    | (refine ⟨fun hc => ?_, fun hc => ?_⟩ <;> (try simp (disch := omega) only [ab_tI, ab_c0, wd_ix12, wd_ix8, wd_ix10, wd_up_self, wd_up_eq, wd_up_ne, Int.toNat_natCast, Int.toNat_of_nonneg, not_true_eq_false, not_false_eq_true, Option.some.injEq] at hc) <;> first | (exfalso; omega) | skip)
    | (apply i_cv; (focus (exact rfl)))
    | (refine And.intro trivial ?_)
    | (refine And.intro (Or.inl rfl) ?_)
    | (refine And.intro (Or.inr rfl) ?_)
    | (refine And.intro (by ((try simp (disch := omega) only [ab_tI, ab_c0, wd_ix12, wd_ix8, wd_ix10, wd_up_self, wd_up_eq, wd_up_ne, Int.toNat_natCast, Int.toNat_of_nonneg, not_true_eq_false, not_false_eq_true, Option.some.injEq]); omega)) ?_)
    | fail)
  all_goals first | exact hQ _ | (exfalso; omega)
end
