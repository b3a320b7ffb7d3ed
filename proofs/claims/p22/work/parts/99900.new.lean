/-! ===== a new object's cells, from B on (own text) ===== -/
def nw_a (B : Nat) : List ab_C := [
  ab_ob 11 [wd_v (B + 1), wd_v (B + 3), wd_v (B + 4), wd_v (B + 7), wd_v (B + 8), wd_v (B + 9), wd_v (B + 10), wd_v (B + 11), wd_v (B + 14), wd_v (B + 16), wd_v (B + 17), .inl (ab_ii 0)],
  ab_ob 8 [wd_v (B + 2), .inl (ab_ii 0), .inl (ab_ii 0), .inl (ab_ii (-1))],
  ab_ia 0 100 (fun _ => ab_ii 0),
  ab_ob 10 [wd_v (B + 1)],
  ab_ob 5 [wd_v (B + 1), wd_v (B + 5), wd_v (B + 6)],
  ab_ia 0 8 (fun _ => ab_ii 0),
  ab_ia 0 8 (fun _ => ab_ii 0),
  ab_ra 3 12 (fun j => some (B + 18 + 5 * j)),
  ab_ra 2 8 (fun j => some (B + 78 + 3 * j)),
  ab_ob 7 [.inl (ab_ii 0)],
  ab_ob 0 [wd_v (B + 9), .inr (.inr none), .inl (ab_ii 0), .inl (ab_ii 0), .inr (.inr none), .inl (ab_ii 0), .inl (ab_ii 0)],
  ab_ob 2 [wd_v (B + 12), wd_v (B + 13), .inl (ab_ii 0)],
  ab_ra 4 200 (fun _ => none),
  ab_ia 0 200 (fun _ => ab_ii 0),
  ab_ob 1 [wd_v (B + 15), .inl (ab_ii 0)],
  ab_ia 0 200 (fun _ => ab_ii 0),
  ab_ra 4 12 (fun _ => none),
  ab_ra 2 8 (fun _ => none)]
/-- a shelf, its thing, that thing's rows, the shelf's row of the past -/
def nw_s (B k : Nat) : Nat → ab_C := fun r => match r with
  | 0 => ab_ob 6 [wd_v (B + 18 + 5 * k + 4), .inl (ab_ii 0), wd_v (B + 18 + 5 * k + 1)]
  | 1 => ab_ob 9 [.inl (ab_ii 0), .inl (ab_ii 0), .inl (ab_ii 1), .inl (ab_ii 0), wd_v (B + 18 + 5 * k + 2), wd_v (B + 18 + 5 * k + 3)]
  | 2 => ab_ia 0 0 (fun _ => ab_ii 0)
  | 3 => ab_ra 4 0 (fun _ => none)
  | _ => ab_ra 4 10 (fun _ => none)
def nw_p (B k : Nat) : Nat → ab_C := fun r => match r with
  | 0 => ab_ob 4 [wd_v (B + 78 + 3 * k + 1), wd_v (B + 78 + 3 * k + 2)]
  | _ => ab_ia 0 0 (fun _ => ab_ii 0)
def nw_F (B r : Nat) : ab_C := cond (Nat.blt r 18) (wd_nth (ab_ob 999 []) (nw_a B) r) (cond (Nat.blt r 78) (nw_s B ((r - 18) / 5) ((r - 18) % 5)) (cond (Nat.blt r 102) (nw_p B ((r - 78) / 3) ((r - 78) % 3)) (ab_ob 999 [])))
/-- two cells that hold the same serve alike -/
def ab_ceq : ab_C → ab_C → Prop
  | .inl (t, n, f), c => ∃ g, c = .inl (t, n, g) ∧ ∀ j, j < n → f j = g j
  | .inr (.inl (t, n, f)), c => ∃ g, c = .inr (.inl (t, n, g)) ∧ ∀ j, j < n → f j = g j
  | .inr (.inr o), c => c = .inr (.inr o)
theorem ab_ceq.rf {c : ab_C} : ab_ceq c c := match c with
  | .inl (_, _, f) => ⟨f, rfl, fun _ _ => rfl⟩
  | .inr (.inl (_, _, f)) => ⟨f, rfl, fun _ _ => rfl⟩
  | .inr (.inr _) => rfl
theorem ab_arrV_ext {cI : ClassId} {N : Nat} {f g : Nat → Value} (h : ∀ j, j < N → f j = g j) : arrV cI N f = arrV cI N g := by
  unfold arrV
  congr 2
  funext j
  exact h j.val j.isLt
theorem ab_by_ext {t n : Nat} {f g : Nat → Int32} (h : ∀ j, j < n → f j = g j) : ∀ j, j < n → ab_by t f j = ab_by t g j := fun j hj => by
  unfold ab_by
  split
  · show (f j).toInt8.toInt32 = (g j).toInt8.toInt32
    rw [h j hj]
  · exact h j hj
theorem ab_at_ext {D : va_G} {cT : Nat → ClassId} {b0 : Nat} {b : Nat → Nat} {q : Nat} {c c' : ab_C} {H : Heap} (hc : ab_ceq c c') (h : va_at D ab_cl (q, ab_ce b0 b cT c) H) : va_at D ab_cl (q, ab_ce b0 b cT c') H := by
  match c, hc, h with
  | .inl (t, n, f), hc, h =>
    obtain ⟨g, rfl, hg⟩ := hc
    show H[q]? = some (arrV (cT t) n (fun j => .int (ab_by t g j)))
    rw [← ab_arrV_ext (f := fun j => Value.int (ab_by t f j)) (fun j hj => by rw [ab_by_ext hg j hj])]
    exact h
  | .inr (.inl (t, n, f)), hc, h =>
    obtain ⟨g, rfl, hg⟩ := hc
    show H[q]? = some (arrV (cT t) n (fun j => va_rf ((g j).map (ab_phi b0 b))))
    rw [← ab_arrV_ext (f := fun j => va_rf ((f j).map (ab_phi b0 b))) (fun j hj => by rw [hg j hj])]
    exact h
  | .inr (.inr o), hc, h =>
    cases hc
    exact h
theorem ab_vt_ext {c c' : ab_C} (hc : ab_ceq c c') (h : ab_vt c) : ab_vt c' := by
  match c, hc, h with
  | .inl (t, n, f), hc, h => obtain ⟨g, rfl, -⟩ := hc; exact h
  | .inr (.inl (t, n, f)), hc, h => obtain ⟨g, rfl, -⟩ := hc; exact h
  | .inr (.inr o), hc, h => cases hc; exact h
theorem ab_WB_ext {d n : Nat} {Q : ab_Q} {pc : Nat} {ls : ab_L} {st : List ab_V} {h h' : ab_H} (h2 : h.2 = h'.2) (he : ∀ a, h.2.1 ≤ a → h'.1 a = h.1 a) (hc : ∀ a, a < h.2.1 → ab_ceq (h.1 a) (h'.1 a)) (k : ab_WB d n Q pc ls st h') : ab_WB d n Q pc ls st h := by
  intro p l e s m args below meth c D cT b0 b S n0 s0 hd C0 H locs lsA hl hR hS h3 h4
  have hR' : ab_Rl D cT b0 b S h' H := by
    obtain ⟨r1, r2, r3, r4, r5, r6, r7, r8⟩ := hR
    have hcm : h.2.1 ≤ ab_scr := Nat.le_trans r2 (by decide)
    refine ⟨by rw [← h2]; exact r1, by rw [← h2]; exact r2, by rw [← h2]; exact r3, fun a ha => (he a (Nat.le_trans hcm ha)).trans (r4 a ha), fun a ha hs => ?_, fun a ha => ab_vt_ext (hc a (by rw [h2]; exact ha)) (r6 a (by rw [h2]; exact ha)), fun j q hq => ?_, by rw [← h2]; exact r8⟩
    · rw [← h2] at ha
      exact (he a ha).trans (r5 a ha hs)
    · obtain ⟨hj, rfl⟩ := ab_ws_of hq
      rw [← h2] at hj
      exact ab_at_ext (hc j hj) (r7 j _ (ab_ws_at hj))
  have := k p l e s m args below meth c D cT b0 b S n0 s0 hd C0 H locs lsA hl hR' hS (by rw [← h2]; exact h3) (by rw [← h2]; exact h4)
  rw [h2]
  exact this
theorem l_z {z n z9 : Nat} (h : z9 = z + n) (hn : n ≤ 300) : z ≤ z9 ∧ z9 ≤ z + 300 := by omega
theorem l_zr {z n : Nat} (hn : n ≤ 300) (hz : z + 300 ≤ 5000000) : z + n ≤ 5000000 := by omega
section
variable {F : Nat → ab_C} {k z : Nat}
theorem l_new {c : ab_C} {n : Nat} {K : ab_H → Prop} (hr : k < 600000 ∧ z + n ≤ 5000000) (hK : ∀ k' z', k' = k + 1 → z' = z + n → K (ab_up F k c, k', z')) : ((F, k, z).2.1 < ab_CM ∧ (F, k, z).2.2 + n ≤ ab_SM) ∧ ∀ h', h' = ab_new (F, k, z) c n → K h' := by
  refine ⟨hr, fun h' hh => ?_⟩
  rw [hh]
  exact hK _ _ rfl rfl
theorem l_newR {x : Int32} {n t : Nat} {K : ab_H → Prop} (hx : x.toInt = (n : Int)) (hr : k < 600000 ∧ z + n ≤ 5000000) (hK : ∀ k' z', k' = k + 1 → z' = z + n → K (ab_up F k (ab_ra t n (fun _ => none)), k', z')) : (0 ≤ x.toInt ∧ (F, k, z).2.1 < ab_CM ∧ (F, k, z).2.2 + x.toInt.toNat ≤ ab_SM) ∧ ∀ h', h' = ab_new (F, k, z) (ab_ra t x.toInt.toNat (fun _ => none)) x.toInt.toNat → K h' := by
  have e : x.toInt.toNat = n := by omega
  rw [e]
  exact ⟨⟨by omega, hr⟩, (l_new (K := K) hr hK).2⟩
theorem l_newI {x : Int32} {n t : Nat} {K : ab_H → Prop} (hx : x.toInt = (n : Int)) (hr : k < 600000 ∧ z + n ≤ 5000000) (hK : ∀ k' z', k' = k + 1 → z' = z + n → K (ab_up F k (ab_ia t n (fun _ => 0)), k', z')) : (0 ≤ x.toInt ∧ (F, k, z).2.1 < ab_CM ∧ (F, k, z).2.2 + x.toInt.toNat ≤ ab_SM) ∧ ∀ h', h' = ab_new (F, k, z) (ab_ia t x.toInt.toNat (fun _ => 0)) x.toInt.toNat → K h' := by
  have e : x.toInt.toNat = n := by omega
  rw [e]
  exact ⟨⟨by omega, hr⟩, (l_new (K := K) hr hK).2⟩
theorem l_put {a ci j t : Nat} {v : ab_V} {fs : List ab_V} {K : ab_H → Prop} (h1 : F a = ab_ob ci fs) (hj : Nat.blt j fs.length = true) (ht : ab_fit t v) (hK : ∀ fs', fs' = fs.set j v → K (ab_up F a (ab_ob ci fs'), k, z)) : ∃ fs, (F, k, z).1 a = ab_ob ci fs ∧ j < fs.length ∧ ab_fit t v ∧ ∀ h', h' = ab_set (F, k, z) a (ab_ob ci (fs.set j v)) → K h' :=
  ⟨fs, h1, Nat.le_of_ble_eq_true hj, ht, fun h' hh => by rw [hh]; exact hK _ rfl⟩
theorem l_ias {a n : Nat} {i x : Int32} {f : Nat → Int32} {K : ab_H → Prop} (h1 : F a = ab_ia 0 n f) (hi : 0 ≤ i.toInt ∧ i.toInt < n) (hK : ∀ e, e = i.toInt.toNat → K (ab_up F a (ab_ia 0 n (ab_up f e x)), k, z)) : ∃ n f, (F, k, z).1 a = ab_ia 0 n f ∧ (0 ≤ i.toInt ∧ i.toInt < n) ∧ ∀ h', h' = ab_set (F, k, z) a (ab_ia 0 n (ab_up f i.toInt.toNat x)) → K h' :=
  ⟨n, f, h1, hi, fun h' hh => by rw [hh]; exact hK _ rfl⟩
theorem l_aas {a n t : Nat} {i : Int32} {o : Option Nat} {f : Nat → Option Nat} {K : ab_H → Prop} (h1 : F a = ab_ra t n f) (hi : 0 ≤ i.toInt ∧ i.toInt < n) (ho : ∀ v, o = some v → ∃ fs, F v = ab_ob (ab_ec t) fs) (hK : ∀ e, e = i.toInt.toNat → K (ab_up F a (ab_ra t n (ab_up f e o)), k, z)) : ∃ t n f, (F, k, z).1 a = ab_ra t n f ∧ (0 ≤ i.toInt ∧ i.toInt < n) ∧ (∀ v, o = some v → ∃ fs, (F, k, z).1 v = ab_ob (ab_ec t) fs) ∧ ∀ h', h' = ab_set (F, k, z) a (ab_ra t n (ab_up f i.toInt.toNat o)) → K h' :=
  ⟨t, n, f, h1, hi, ho, fun h' hh => by rw [hh]; exact hK _ rfl⟩
end
set_option maxHeartbeats 400000000 in
set_option maxRecDepth 100000 in
theorem n_new0 {d : Nat} {F : Nat → ab_C} {z : Nat} {Q : ab_Q} (hF : F 0 = ab_ob 11 (ab_df 11)) (hroom : z + 40000 ≤ 5000000) (hQ : ∀ F' z', (∀ r, r < 102 → ab_ceq (F' (0 + r)) (nw_F 0 r)) → (∀ a, ¬ (0 ≤ a ∧ a < 102) → F' a = F a) → (z ≤ z' ∧ z' ≤ z + 40000) → Q none (F', 102, z')) : ab_CT (d + 20) 103 [wd_v 0] (F, 1, z) Q := by
  repeat' ((conv => whnf); first
 | (intro v9 hv9; (try simp (disch := omega) only [ab_up_at, ab_up_ne, List.set_cons_zero, List.set_cons_succ, ab_tI, ab_c0, Int.toNat_natCast, Int.toNat_of_nonneg, not_true_eq_false, not_false_eq_true, Option.some.injEq] at hv9); subst hv9)
 | (apply l_new; (focus (exact ⟨Nat.le_of_ble_eq_true rfl, l_zr (Nat.le_of_ble_eq_true rfl) (by omega)⟩)); (intro k9 z9 hk9 hz9; simp only [Nat.reduceAdd] at hk9; subst hk9; dsimp only; have hz8 := l_z hz9 (Nat.le_of_ble_eq_true rfl); clear hz9))
 | (apply l_newR; (focus (exact rfl)); (focus (exact ⟨Nat.le_of_ble_eq_true rfl, l_zr (Nat.le_of_ble_eq_true rfl) (by omega)⟩)); (intro k9 z9 hk9 hz9; simp only [Nat.reduceAdd] at hk9; subst hk9; dsimp only; have hz8 := l_z hz9 (Nat.le_of_ble_eq_true rfl); clear hz9))
 | (apply l_newI; (focus (exact rfl)); (focus (exact ⟨Nat.le_of_ble_eq_true rfl, l_zr (Nat.le_of_ble_eq_true rfl) (by omega)⟩)); (intro k9 z9 hk9 hz9; simp only [Nat.reduceAdd] at hk9; subst hk9; dsimp only; have hz8 := l_z hz9 (Nat.le_of_ble_eq_true rfl); clear hz9))
 | (refine ab_inl rfl rfl ?_)
 | (refine ab_rn rfl ?_)
 | (apply i_get; (focus (first | exact rfl | exact hF | (simp (disch := omega) only [hF, ab_up_ne, ab_up_self, ab_tI, ab_c0, Int.toNat_natCast, Int.toNat_of_nonneg, not_true_eq_false, not_false_eq_true, Option.some.injEq] <;> rfl))); (focus (exact rfl)))
 | (apply l_put; (focus (first | exact rfl | exact hF | (simp (disch := omega) only [hF, ab_up_ne, ab_up_self, ab_tI, ab_c0, Int.toNat_natCast, Int.toNat_of_nonneg, not_true_eq_false, not_false_eq_true, Option.some.injEq] <;> rfl))); (focus (exact rfl)); (focus (first | exact trivial | exact Or.inl rfl | exact Or.inr rfl)); (intro f9 hf9; simp only [ab_df, List.set_cons_zero, List.set_cons_succ] at hf9; subst hf9))
 | (apply i_cv; (focus (first | exact rfl | exact hF | (simp (disch := omega) only [hF, ab_up_ne, ab_up_self, ab_tI, ab_c0, Int.toNat_natCast, Int.toNat_of_nonneg, not_true_eq_false, not_false_eq_true, Option.some.injEq] <;> rfl))))
 | (apply i_ialN; (focus (first | exact rfl | exact hF | (simp (disch := omega) only [hF, ab_up_ne, ab_up_self, ab_tI, ab_c0, Int.toNat_natCast, Int.toNat_of_nonneg, not_true_eq_false, not_false_eq_true, Option.some.injEq] <;> rfl))); (focus (first | exact Or.inl rfl | exact Or.inr rfl)); (focus (first | exact ⟨by decide, by decide⟩ | ((try simp (disch := omega) only [ab_tI, ab_c0, Int.toNat_natCast, Int.toNat_of_nonneg, not_true_eq_false, not_false_eq_true, Option.some.injEq]); omega))); (intro v9 hv9; (try simp (disch := omega) only [ab_up_at, ab_up_ne, List.set_cons_zero, List.set_cons_succ, ab_tI, ab_c0, Int.toNat_natCast, Int.toNat_of_nonneg, not_true_eq_false, not_false_eq_true, Option.some.injEq] at hv9); subst hv9))
 | (apply i_aalN; (focus (first | exact rfl | exact hF | (simp (disch := omega) only [hF, ab_up_ne, ab_up_self, ab_tI, ab_c0, Int.toNat_natCast, Int.toNat_of_nonneg, not_true_eq_false, not_false_eq_true, Option.some.injEq] <;> rfl))); (focus (first | exact ⟨by decide, by decide⟩ | ((try simp (disch := omega) only [ab_tI, ab_c0, Int.toNat_natCast, Int.toNat_of_nonneg, not_true_eq_false, not_false_eq_true, Option.some.injEq]); omega))); (intro v9 hv9; (try simp (disch := omega) only [ab_up_at, ab_up_ne, List.set_cons_zero, List.set_cons_succ, ab_tI, ab_c0, Int.toNat_natCast, Int.toNat_of_nonneg, not_true_eq_false, not_false_eq_true, Option.some.injEq] at hv9); subst hv9))
 | (apply l_ias; (focus (first | exact rfl | exact hF | (simp (disch := omega) only [hF, ab_up_ne, ab_up_self, ab_tI, ab_c0, Int.toNat_natCast, Int.toNat_of_nonneg, not_true_eq_false, not_false_eq_true, Option.some.injEq] <;> rfl))); (focus (first | exact ⟨by decide, by decide⟩ | ((try simp (disch := omega) only [ab_tI, ab_c0, Int.toNat_natCast, Int.toNat_of_nonneg, not_true_eq_false, not_false_eq_true, Option.some.injEq]); omega))); (intro e9 he9; (try simp (disch := omega) only [ab_tI, ab_c0, Int.toNat_natCast, Int.toNat_of_nonneg, not_true_eq_false, not_false_eq_true, Option.some.injEq] at he9); subst he9))
 | (apply l_aas; (focus (first | exact rfl | exact hF | (simp (disch := omega) only [hF, ab_up_ne, ab_up_self, ab_tI, ab_c0, Int.toNat_natCast, Int.toNat_of_nonneg, not_true_eq_false, not_false_eq_true, Option.some.injEq] <;> rfl))); (focus (first | exact ⟨by decide, by decide⟩ | ((try simp (disch := omega) only [ab_tI, ab_c0, Int.toNat_natCast, Int.toNat_of_nonneg, not_true_eq_false, not_false_eq_true, Option.some.injEq]); omega))); (focus (intro w hw; cases hw <;> (apply i_ex; (first | exact rfl | exact hF | (simp (disch := omega) only [hF, ab_up_ne, ab_up_self, ab_tI, ab_c0, Int.toNat_natCast, Int.toNat_of_nonneg, not_true_eq_false, not_false_eq_true, Option.some.injEq] <;> rfl))))); (intro e9 he9; (try simp (disch := omega) only [ab_tI, ab_c0, Int.toNat_natCast, Int.toNat_of_nonneg, not_true_eq_false, not_false_eq_true, Option.some.injEq] at he9); subst he9))
 | (apply i_len; (focus (first | exact rfl | exact hF | (simp (disch := omega) only [hF, ab_up_ne, ab_up_self, ab_tI, ab_c0, Int.toNat_natCast, Int.toNat_of_nonneg, not_true_eq_false, not_false_eq_true, Option.some.injEq] <;> rfl))))
 | (refine i_brF (by decide) ?_)
 | (refine i_brT (by decide) ?_)
 | (refine ⟨fun hc => ?_, fun hc => ?_⟩ <;> (try simp (disch := omega) only [ab_up_at, ab_up_ne, ab_tI, ab_c0, Int.toNat_natCast, Int.toNat_of_nonneg, not_true_eq_false, not_false_eq_true, Option.some.injEq] at hc) <;> first | (exfalso; omega) | skip)
 | (refine ⟨trivial, ?_⟩) | (refine ⟨Or.inl rfl, ?_⟩) | (refine ⟨Or.inr rfl, ?_⟩)
 | fail)
  refine hQ _ _ ?_ ?_ ?_
  · intro r hr
    match r, hr with
    | 0, _ => first | exact rfl | exact ⟨_, rfl, fun _ _ => rfl⟩
    | 1, _ => first | exact rfl | exact ⟨_, rfl, fun _ _ => rfl⟩
    | 2, _ => first | exact rfl | exact ⟨_, rfl, fun _ _ => rfl⟩
    | 3, _ => first | exact rfl | exact ⟨_, rfl, fun _ _ => rfl⟩
    | 4, _ => first | exact rfl | exact ⟨_, rfl, fun _ _ => rfl⟩
    | 5, _ => first | exact rfl | exact ⟨_, rfl, fun _ _ => rfl⟩
    | 6, _ => first | exact rfl | exact ⟨_, rfl, fun _ _ => rfl⟩
    | 7, _ => exact ⟨_, rfl, fun j hj => by
        match j, hj with
        | 0, _ => exact rfl
        | 1, _ => exact rfl
        | 2, _ => exact rfl
        | 3, _ => exact rfl
        | 4, _ => exact rfl
        | 5, _ => exact rfl
        | 6, _ => exact rfl
        | 7, _ => exact rfl
        | 8, _ => exact rfl
        | 9, _ => exact rfl
        | 10, _ => exact rfl
        | 11, _ => exact rfl
        | j + 12, hj => exact absurd (show j + 12 < 12 from hj) (by omega)⟩
    | 8, _ => exact ⟨_, rfl, fun j hj => by
        match j, hj with
        | 0, _ => exact rfl
        | 1, _ => exact rfl
        | 2, _ => exact rfl
        | 3, _ => exact rfl
        | 4, _ => exact rfl
        | 5, _ => exact rfl
        | 6, _ => exact rfl
        | 7, _ => exact rfl
        | j + 8, hj => exact absurd (show j + 8 < 8 from hj) (by omega)⟩
    | 9, _ => first | exact rfl | exact ⟨_, rfl, fun _ _ => rfl⟩
    | 10, _ => first | exact rfl | exact ⟨_, rfl, fun _ _ => rfl⟩
    | 11, _ => first | exact rfl | exact ⟨_, rfl, fun _ _ => rfl⟩
    | 12, _ => first | exact rfl | exact ⟨_, rfl, fun _ _ => rfl⟩
    | 13, _ => first | exact rfl | exact ⟨_, rfl, fun _ _ => rfl⟩
    | 14, _ => first | exact rfl | exact ⟨_, rfl, fun _ _ => rfl⟩
    | 15, _ => first | exact rfl | exact ⟨_, rfl, fun _ _ => rfl⟩
    | 16, _ => first | exact rfl | exact ⟨_, rfl, fun _ _ => rfl⟩
    | 17, _ => first | exact rfl | exact ⟨_, rfl, fun _ _ => rfl⟩
    | 18, _ => first | exact rfl | exact ⟨_, rfl, fun _ _ => rfl⟩
    | 19, _ => first | exact rfl | exact ⟨_, rfl, fun _ _ => rfl⟩
    | 20, _ => first | exact rfl | exact ⟨_, rfl, fun _ _ => rfl⟩
    | 21, _ => first | exact rfl | exact ⟨_, rfl, fun _ _ => rfl⟩
    | 22, _ => first | exact rfl | exact ⟨_, rfl, fun _ _ => rfl⟩
    | 23, _ => first | exact rfl | exact ⟨_, rfl, fun _ _ => rfl⟩
    | 24, _ => first | exact rfl | exact ⟨_, rfl, fun _ _ => rfl⟩
    | 25, _ => first | exact rfl | exact ⟨_, rfl, fun _ _ => rfl⟩
    | 26, _ => first | exact rfl | exact ⟨_, rfl, fun _ _ => rfl⟩
    | 27, _ => first | exact rfl | exact ⟨_, rfl, fun _ _ => rfl⟩
    | 28, _ => first | exact rfl | exact ⟨_, rfl, fun _ _ => rfl⟩
    | 29, _ => first | exact rfl | exact ⟨_, rfl, fun _ _ => rfl⟩
    | 30, _ => first | exact rfl | exact ⟨_, rfl, fun _ _ => rfl⟩
    | 31, _ => first | exact rfl | exact ⟨_, rfl, fun _ _ => rfl⟩
    | 32, _ => first | exact rfl | exact ⟨_, rfl, fun _ _ => rfl⟩
    | 33, _ => first | exact rfl | exact ⟨_, rfl, fun _ _ => rfl⟩
    | 34, _ => first | exact rfl | exact ⟨_, rfl, fun _ _ => rfl⟩
    | 35, _ => first | exact rfl | exact ⟨_, rfl, fun _ _ => rfl⟩
    | 36, _ => first | exact rfl | exact ⟨_, rfl, fun _ _ => rfl⟩
    | 37, _ => first | exact rfl | exact ⟨_, rfl, fun _ _ => rfl⟩
    | 38, _ => first | exact rfl | exact ⟨_, rfl, fun _ _ => rfl⟩
    | 39, _ => first | exact rfl | exact ⟨_, rfl, fun _ _ => rfl⟩
    | 40, _ => first | exact rfl | exact ⟨_, rfl, fun _ _ => rfl⟩
    | 41, _ => first | exact rfl | exact ⟨_, rfl, fun _ _ => rfl⟩
    | 42, _ => first | exact rfl | exact ⟨_, rfl, fun _ _ => rfl⟩
    | 43, _ => first | exact rfl | exact ⟨_, rfl, fun _ _ => rfl⟩
    | 44, _ => first | exact rfl | exact ⟨_, rfl, fun _ _ => rfl⟩
    | 45, _ => first | exact rfl | exact ⟨_, rfl, fun _ _ => rfl⟩
    | 46, _ => first | exact rfl | exact ⟨_, rfl, fun _ _ => rfl⟩
    | 47, _ => first | exact rfl | exact ⟨_, rfl, fun _ _ => rfl⟩
    | 48, _ => first | exact rfl | exact ⟨_, rfl, fun _ _ => rfl⟩
    | 49, _ => first | exact rfl | exact ⟨_, rfl, fun _ _ => rfl⟩
    | 50, _ => first | exact rfl | exact ⟨_, rfl, fun _ _ => rfl⟩
    | 51, _ => first | exact rfl | exact ⟨_, rfl, fun _ _ => rfl⟩
    | 52, _ => first | exact rfl | exact ⟨_, rfl, fun _ _ => rfl⟩
    | 53, _ => first | exact rfl | exact ⟨_, rfl, fun _ _ => rfl⟩
    | 54, _ => first | exact rfl | exact ⟨_, rfl, fun _ _ => rfl⟩
    | 55, _ => first | exact rfl | exact ⟨_, rfl, fun _ _ => rfl⟩
    | 56, _ => first | exact rfl | exact ⟨_, rfl, fun _ _ => rfl⟩
    | 57, _ => first | exact rfl | exact ⟨_, rfl, fun _ _ => rfl⟩
    | 58, _ => first | exact rfl | exact ⟨_, rfl, fun _ _ => rfl⟩
    | 59, _ => first | exact rfl | exact ⟨_, rfl, fun _ _ => rfl⟩
    | 60, _ => first | exact rfl | exact ⟨_, rfl, fun _ _ => rfl⟩
    | 61, _ => first | exact rfl | exact ⟨_, rfl, fun _ _ => rfl⟩
    | 62, _ => first | exact rfl | exact ⟨_, rfl, fun _ _ => rfl⟩
    | 63, _ => first | exact rfl | exact ⟨_, rfl, fun _ _ => rfl⟩
    | 64, _ => first | exact rfl | exact ⟨_, rfl, fun _ _ => rfl⟩
    | 65, _ => first | exact rfl | exact ⟨_, rfl, fun _ _ => rfl⟩
    | 66, _ => first | exact rfl | exact ⟨_, rfl, fun _ _ => rfl⟩
    | 67, _ => first | exact rfl | exact ⟨_, rfl, fun _ _ => rfl⟩
    | 68, _ => first | exact rfl | exact ⟨_, rfl, fun _ _ => rfl⟩
    | 69, _ => first | exact rfl | exact ⟨_, rfl, fun _ _ => rfl⟩
    | 70, _ => first | exact rfl | exact ⟨_, rfl, fun _ _ => rfl⟩
    | 71, _ => first | exact rfl | exact ⟨_, rfl, fun _ _ => rfl⟩
    | 72, _ => first | exact rfl | exact ⟨_, rfl, fun _ _ => rfl⟩
    | 73, _ => first | exact rfl | exact ⟨_, rfl, fun _ _ => rfl⟩
    | 74, _ => first | exact rfl | exact ⟨_, rfl, fun _ _ => rfl⟩
    | 75, _ => first | exact rfl | exact ⟨_, rfl, fun _ _ => rfl⟩
    | 76, _ => first | exact rfl | exact ⟨_, rfl, fun _ _ => rfl⟩
    | 77, _ => first | exact rfl | exact ⟨_, rfl, fun _ _ => rfl⟩
    | 78, _ => first | exact rfl | exact ⟨_, rfl, fun _ _ => rfl⟩
    | 79, _ => first | exact rfl | exact ⟨_, rfl, fun _ _ => rfl⟩
    | 80, _ => first | exact rfl | exact ⟨_, rfl, fun _ _ => rfl⟩
    | 81, _ => first | exact rfl | exact ⟨_, rfl, fun _ _ => rfl⟩
    | 82, _ => first | exact rfl | exact ⟨_, rfl, fun _ _ => rfl⟩
    | 83, _ => first | exact rfl | exact ⟨_, rfl, fun _ _ => rfl⟩
    | 84, _ => first | exact rfl | exact ⟨_, rfl, fun _ _ => rfl⟩
    | 85, _ => first | exact rfl | exact ⟨_, rfl, fun _ _ => rfl⟩
    | 86, _ => first | exact rfl | exact ⟨_, rfl, fun _ _ => rfl⟩
    | 87, _ => first | exact rfl | exact ⟨_, rfl, fun _ _ => rfl⟩
    | 88, _ => first | exact rfl | exact ⟨_, rfl, fun _ _ => rfl⟩
    | 89, _ => first | exact rfl | exact ⟨_, rfl, fun _ _ => rfl⟩
    | 90, _ => first | exact rfl | exact ⟨_, rfl, fun _ _ => rfl⟩
    | 91, _ => first | exact rfl | exact ⟨_, rfl, fun _ _ => rfl⟩
    | 92, _ => first | exact rfl | exact ⟨_, rfl, fun _ _ => rfl⟩
    | 93, _ => first | exact rfl | exact ⟨_, rfl, fun _ _ => rfl⟩
    | 94, _ => first | exact rfl | exact ⟨_, rfl, fun _ _ => rfl⟩
    | 95, _ => first | exact rfl | exact ⟨_, rfl, fun _ _ => rfl⟩
    | 96, _ => first | exact rfl | exact ⟨_, rfl, fun _ _ => rfl⟩
    | 97, _ => first | exact rfl | exact ⟨_, rfl, fun _ _ => rfl⟩
    | 98, _ => first | exact rfl | exact ⟨_, rfl, fun _ _ => rfl⟩
    | 99, _ => first | exact rfl | exact ⟨_, rfl, fun _ _ => rfl⟩
    | 100, _ => first | exact rfl | exact ⟨_, rfl, fun _ _ => rfl⟩
    | 101, _ => first | exact rfl | exact ⟨_, rfl, fun _ _ => rfl⟩
    | r + 102, hr => exact absurd hr (by omega)
  · intro a ha
    simp (disch := omega) only [ab_up_ne]
  · constructor <;> omega
set_option maxHeartbeats 400000000 in
set_option maxRecDepth 100000 in
theorem n_new102 {d : Nat} {F : Nat → ab_C} {z : Nat} {Q : ab_Q} (hF : F 102 = ab_ob 11 (ab_df 11)) (hroom : z + 40000 ≤ 5000000) (hQ : ∀ F' z', (∀ r, r < 102 → ab_ceq (F' (102 + r)) (nw_F 102 r)) → (∀ a, ¬ (102 ≤ a ∧ a < 204) → F' a = F a) → (z ≤ z' ∧ z' ≤ z + 40000) → Q none (F', 204, z')) : ab_CT (d + 20) 103 [wd_v 102] (F, 103, z) Q := by
  repeat' ((conv => whnf); first
 | (intro v9 hv9; (try simp (disch := omega) only [ab_up_at, ab_up_ne, List.set_cons_zero, List.set_cons_succ, ab_tI, ab_c0, Int.toNat_natCast, Int.toNat_of_nonneg, not_true_eq_false, not_false_eq_true, Option.some.injEq] at hv9); subst hv9)
 | (apply l_new; (focus (exact ⟨Nat.le_of_ble_eq_true rfl, l_zr (Nat.le_of_ble_eq_true rfl) (by omega)⟩)); (intro k9 z9 hk9 hz9; simp only [Nat.reduceAdd] at hk9; subst hk9; dsimp only; have hz8 := l_z hz9 (Nat.le_of_ble_eq_true rfl); clear hz9))
 | (apply l_newR; (focus (exact rfl)); (focus (exact ⟨Nat.le_of_ble_eq_true rfl, l_zr (Nat.le_of_ble_eq_true rfl) (by omega)⟩)); (intro k9 z9 hk9 hz9; simp only [Nat.reduceAdd] at hk9; subst hk9; dsimp only; have hz8 := l_z hz9 (Nat.le_of_ble_eq_true rfl); clear hz9))
 | (apply l_newI; (focus (exact rfl)); (focus (exact ⟨Nat.le_of_ble_eq_true rfl, l_zr (Nat.le_of_ble_eq_true rfl) (by omega)⟩)); (intro k9 z9 hk9 hz9; simp only [Nat.reduceAdd] at hk9; subst hk9; dsimp only; have hz8 := l_z hz9 (Nat.le_of_ble_eq_true rfl); clear hz9))
 | (refine ab_inl rfl rfl ?_)
 | (refine ab_rn rfl ?_)
 | (apply i_get; (focus (first | exact rfl | exact hF | (simp (disch := omega) only [hF, ab_up_ne, ab_up_self, ab_tI, ab_c0, Int.toNat_natCast, Int.toNat_of_nonneg, not_true_eq_false, not_false_eq_true, Option.some.injEq] <;> rfl))); (focus (exact rfl)))
 | (apply l_put; (focus (first | exact rfl | exact hF | (simp (disch := omega) only [hF, ab_up_ne, ab_up_self, ab_tI, ab_c0, Int.toNat_natCast, Int.toNat_of_nonneg, not_true_eq_false, not_false_eq_true, Option.some.injEq] <;> rfl))); (focus (exact rfl)); (focus (first | exact trivial | exact Or.inl rfl | exact Or.inr rfl)); (intro f9 hf9; simp only [ab_df, List.set_cons_zero, List.set_cons_succ] at hf9; subst hf9))
 | (apply i_cv; (focus (first | exact rfl | exact hF | (simp (disch := omega) only [hF, ab_up_ne, ab_up_self, ab_tI, ab_c0, Int.toNat_natCast, Int.toNat_of_nonneg, not_true_eq_false, not_false_eq_true, Option.some.injEq] <;> rfl))))
 | (apply i_ialN; (focus (first | exact rfl | exact hF | (simp (disch := omega) only [hF, ab_up_ne, ab_up_self, ab_tI, ab_c0, Int.toNat_natCast, Int.toNat_of_nonneg, not_true_eq_false, not_false_eq_true, Option.some.injEq] <;> rfl))); (focus (first | exact Or.inl rfl | exact Or.inr rfl)); (focus (first | exact ⟨by decide, by decide⟩ | ((try simp (disch := omega) only [ab_tI, ab_c0, Int.toNat_natCast, Int.toNat_of_nonneg, not_true_eq_false, not_false_eq_true, Option.some.injEq]); omega))); (intro v9 hv9; (try simp (disch := omega) only [ab_up_at, ab_up_ne, List.set_cons_zero, List.set_cons_succ, ab_tI, ab_c0, Int.toNat_natCast, Int.toNat_of_nonneg, not_true_eq_false, not_false_eq_true, Option.some.injEq] at hv9); subst hv9))
 | (apply i_aalN; (focus (first | exact rfl | exact hF | (simp (disch := omega) only [hF, ab_up_ne, ab_up_self, ab_tI, ab_c0, Int.toNat_natCast, Int.toNat_of_nonneg, not_true_eq_false, not_false_eq_true, Option.some.injEq] <;> rfl))); (focus (first | exact ⟨by decide, by decide⟩ | ((try simp (disch := omega) only [ab_tI, ab_c0, Int.toNat_natCast, Int.toNat_of_nonneg, not_true_eq_false, not_false_eq_true, Option.some.injEq]); omega))); (intro v9 hv9; (try simp (disch := omega) only [ab_up_at, ab_up_ne, List.set_cons_zero, List.set_cons_succ, ab_tI, ab_c0, Int.toNat_natCast, Int.toNat_of_nonneg, not_true_eq_false, not_false_eq_true, Option.some.injEq] at hv9); subst hv9))
 | (apply l_ias; (focus (first | exact rfl | exact hF | (simp (disch := omega) only [hF, ab_up_ne, ab_up_self, ab_tI, ab_c0, Int.toNat_natCast, Int.toNat_of_nonneg, not_true_eq_false, not_false_eq_true, Option.some.injEq] <;> rfl))); (focus (first | exact ⟨by decide, by decide⟩ | ((try simp (disch := omega) only [ab_tI, ab_c0, Int.toNat_natCast, Int.toNat_of_nonneg, not_true_eq_false, not_false_eq_true, Option.some.injEq]); omega))); (intro e9 he9; (try simp (disch := omega) only [ab_tI, ab_c0, Int.toNat_natCast, Int.toNat_of_nonneg, not_true_eq_false, not_false_eq_true, Option.some.injEq] at he9); subst he9))
 | (apply l_aas; (focus (first | exact rfl | exact hF | (simp (disch := omega) only [hF, ab_up_ne, ab_up_self, ab_tI, ab_c0, Int.toNat_natCast, Int.toNat_of_nonneg, not_true_eq_false, not_false_eq_true, Option.some.injEq] <;> rfl))); (focus (first | exact ⟨by decide, by decide⟩ | ((try simp (disch := omega) only [ab_tI, ab_c0, Int.toNat_natCast, Int.toNat_of_nonneg, not_true_eq_false, not_false_eq_true, Option.some.injEq]); omega))); (focus (intro w hw; cases hw <;> (apply i_ex; (first | exact rfl | exact hF | (simp (disch := omega) only [hF, ab_up_ne, ab_up_self, ab_tI, ab_c0, Int.toNat_natCast, Int.toNat_of_nonneg, not_true_eq_false, not_false_eq_true, Option.some.injEq] <;> rfl))))); (intro e9 he9; (try simp (disch := omega) only [ab_tI, ab_c0, Int.toNat_natCast, Int.toNat_of_nonneg, not_true_eq_false, not_false_eq_true, Option.some.injEq] at he9); subst he9))
 | (apply i_len; (focus (first | exact rfl | exact hF | (simp (disch := omega) only [hF, ab_up_ne, ab_up_self, ab_tI, ab_c0, Int.toNat_natCast, Int.toNat_of_nonneg, not_true_eq_false, not_false_eq_true, Option.some.injEq] <;> rfl))))
 | (refine i_brF (by decide) ?_)
 | (refine i_brT (by decide) ?_)
 | (refine ⟨fun hc => ?_, fun hc => ?_⟩ <;> (try simp (disch := omega) only [ab_up_at, ab_up_ne, ab_tI, ab_c0, Int.toNat_natCast, Int.toNat_of_nonneg, not_true_eq_false, not_false_eq_true, Option.some.injEq] at hc) <;> first | (exfalso; omega) | skip)
 | (refine ⟨trivial, ?_⟩) | (refine ⟨Or.inl rfl, ?_⟩) | (refine ⟨Or.inr rfl, ?_⟩)
 | fail)
  refine hQ _ _ ?_ ?_ ?_
  · intro r hr
    match r, hr with
    | 0, _ => first | exact rfl | exact ⟨_, rfl, fun _ _ => rfl⟩
    | 1, _ => first | exact rfl | exact ⟨_, rfl, fun _ _ => rfl⟩
    | 2, _ => first | exact rfl | exact ⟨_, rfl, fun _ _ => rfl⟩
    | 3, _ => first | exact rfl | exact ⟨_, rfl, fun _ _ => rfl⟩
    | 4, _ => first | exact rfl | exact ⟨_, rfl, fun _ _ => rfl⟩
    | 5, _ => first | exact rfl | exact ⟨_, rfl, fun _ _ => rfl⟩
    | 6, _ => first | exact rfl | exact ⟨_, rfl, fun _ _ => rfl⟩
    | 7, _ => exact ⟨_, rfl, fun j hj => by
        match j, hj with
        | 0, _ => exact rfl
        | 1, _ => exact rfl
        | 2, _ => exact rfl
        | 3, _ => exact rfl
        | 4, _ => exact rfl
        | 5, _ => exact rfl
        | 6, _ => exact rfl
        | 7, _ => exact rfl
        | 8, _ => exact rfl
        | 9, _ => exact rfl
        | 10, _ => exact rfl
        | 11, _ => exact rfl
        | j + 12, hj => exact absurd (show j + 12 < 12 from hj) (by omega)⟩
    | 8, _ => exact ⟨_, rfl, fun j hj => by
        match j, hj with
        | 0, _ => exact rfl
        | 1, _ => exact rfl
        | 2, _ => exact rfl
        | 3, _ => exact rfl
        | 4, _ => exact rfl
        | 5, _ => exact rfl
        | 6, _ => exact rfl
        | 7, _ => exact rfl
        | j + 8, hj => exact absurd (show j + 8 < 8 from hj) (by omega)⟩
    | 9, _ => first | exact rfl | exact ⟨_, rfl, fun _ _ => rfl⟩
    | 10, _ => first | exact rfl | exact ⟨_, rfl, fun _ _ => rfl⟩
    | 11, _ => first | exact rfl | exact ⟨_, rfl, fun _ _ => rfl⟩
    | 12, _ => first | exact rfl | exact ⟨_, rfl, fun _ _ => rfl⟩
    | 13, _ => first | exact rfl | exact ⟨_, rfl, fun _ _ => rfl⟩
    | 14, _ => first | exact rfl | exact ⟨_, rfl, fun _ _ => rfl⟩
    | 15, _ => first | exact rfl | exact ⟨_, rfl, fun _ _ => rfl⟩
    | 16, _ => first | exact rfl | exact ⟨_, rfl, fun _ _ => rfl⟩
    | 17, _ => first | exact rfl | exact ⟨_, rfl, fun _ _ => rfl⟩
    | 18, _ => first | exact rfl | exact ⟨_, rfl, fun _ _ => rfl⟩
    | 19, _ => first | exact rfl | exact ⟨_, rfl, fun _ _ => rfl⟩
    | 20, _ => first | exact rfl | exact ⟨_, rfl, fun _ _ => rfl⟩
    | 21, _ => first | exact rfl | exact ⟨_, rfl, fun _ _ => rfl⟩
    | 22, _ => first | exact rfl | exact ⟨_, rfl, fun _ _ => rfl⟩
    | 23, _ => first | exact rfl | exact ⟨_, rfl, fun _ _ => rfl⟩
    | 24, _ => first | exact rfl | exact ⟨_, rfl, fun _ _ => rfl⟩
    | 25, _ => first | exact rfl | exact ⟨_, rfl, fun _ _ => rfl⟩
    | 26, _ => first | exact rfl | exact ⟨_, rfl, fun _ _ => rfl⟩
    | 27, _ => first | exact rfl | exact ⟨_, rfl, fun _ _ => rfl⟩
    | 28, _ => first | exact rfl | exact ⟨_, rfl, fun _ _ => rfl⟩
    | 29, _ => first | exact rfl | exact ⟨_, rfl, fun _ _ => rfl⟩
    | 30, _ => first | exact rfl | exact ⟨_, rfl, fun _ _ => rfl⟩
    | 31, _ => first | exact rfl | exact ⟨_, rfl, fun _ _ => rfl⟩
    | 32, _ => first | exact rfl | exact ⟨_, rfl, fun _ _ => rfl⟩
    | 33, _ => first | exact rfl | exact ⟨_, rfl, fun _ _ => rfl⟩
    | 34, _ => first | exact rfl | exact ⟨_, rfl, fun _ _ => rfl⟩
    | 35, _ => first | exact rfl | exact ⟨_, rfl, fun _ _ => rfl⟩
    | 36, _ => first | exact rfl | exact ⟨_, rfl, fun _ _ => rfl⟩
    | 37, _ => first | exact rfl | exact ⟨_, rfl, fun _ _ => rfl⟩
    | 38, _ => first | exact rfl | exact ⟨_, rfl, fun _ _ => rfl⟩
    | 39, _ => first | exact rfl | exact ⟨_, rfl, fun _ _ => rfl⟩
    | 40, _ => first | exact rfl | exact ⟨_, rfl, fun _ _ => rfl⟩
    | 41, _ => first | exact rfl | exact ⟨_, rfl, fun _ _ => rfl⟩
    | 42, _ => first | exact rfl | exact ⟨_, rfl, fun _ _ => rfl⟩
    | 43, _ => first | exact rfl | exact ⟨_, rfl, fun _ _ => rfl⟩
    | 44, _ => first | exact rfl | exact ⟨_, rfl, fun _ _ => rfl⟩
    | 45, _ => first | exact rfl | exact ⟨_, rfl, fun _ _ => rfl⟩
    | 46, _ => first | exact rfl | exact ⟨_, rfl, fun _ _ => rfl⟩
    | 47, _ => first | exact rfl | exact ⟨_, rfl, fun _ _ => rfl⟩
    | 48, _ => first | exact rfl | exact ⟨_, rfl, fun _ _ => rfl⟩
    | 49, _ => first | exact rfl | exact ⟨_, rfl, fun _ _ => rfl⟩
    | 50, _ => first | exact rfl | exact ⟨_, rfl, fun _ _ => rfl⟩
    | 51, _ => first | exact rfl | exact ⟨_, rfl, fun _ _ => rfl⟩
    | 52, _ => first | exact rfl | exact ⟨_, rfl, fun _ _ => rfl⟩
    | 53, _ => first | exact rfl | exact ⟨_, rfl, fun _ _ => rfl⟩
    | 54, _ => first | exact rfl | exact ⟨_, rfl, fun _ _ => rfl⟩
    | 55, _ => first | exact rfl | exact ⟨_, rfl, fun _ _ => rfl⟩
    | 56, _ => first | exact rfl | exact ⟨_, rfl, fun _ _ => rfl⟩
    | 57, _ => first | exact rfl | exact ⟨_, rfl, fun _ _ => rfl⟩
    | 58, _ => first | exact rfl | exact ⟨_, rfl, fun _ _ => rfl⟩
    | 59, _ => first | exact rfl | exact ⟨_, rfl, fun _ _ => rfl⟩
    | 60, _ => first | exact rfl | exact ⟨_, rfl, fun _ _ => rfl⟩
    | 61, _ => first | exact rfl | exact ⟨_, rfl, fun _ _ => rfl⟩
    | 62, _ => first | exact rfl | exact ⟨_, rfl, fun _ _ => rfl⟩
    | 63, _ => first | exact rfl | exact ⟨_, rfl, fun _ _ => rfl⟩
    | 64, _ => first | exact rfl | exact ⟨_, rfl, fun _ _ => rfl⟩
    | 65, _ => first | exact rfl | exact ⟨_, rfl, fun _ _ => rfl⟩
    | 66, _ => first | exact rfl | exact ⟨_, rfl, fun _ _ => rfl⟩
    | 67, _ => first | exact rfl | exact ⟨_, rfl, fun _ _ => rfl⟩
    | 68, _ => first | exact rfl | exact ⟨_, rfl, fun _ _ => rfl⟩
    | 69, _ => first | exact rfl | exact ⟨_, rfl, fun _ _ => rfl⟩
    | 70, _ => first | exact rfl | exact ⟨_, rfl, fun _ _ => rfl⟩
    | 71, _ => first | exact rfl | exact ⟨_, rfl, fun _ _ => rfl⟩
    | 72, _ => first | exact rfl | exact ⟨_, rfl, fun _ _ => rfl⟩
    | 73, _ => first | exact rfl | exact ⟨_, rfl, fun _ _ => rfl⟩
    | 74, _ => first | exact rfl | exact ⟨_, rfl, fun _ _ => rfl⟩
    | 75, _ => first | exact rfl | exact ⟨_, rfl, fun _ _ => rfl⟩
    | 76, _ => first | exact rfl | exact ⟨_, rfl, fun _ _ => rfl⟩
    | 77, _ => first | exact rfl | exact ⟨_, rfl, fun _ _ => rfl⟩
    | 78, _ => first | exact rfl | exact ⟨_, rfl, fun _ _ => rfl⟩
    | 79, _ => first | exact rfl | exact ⟨_, rfl, fun _ _ => rfl⟩
    | 80, _ => first | exact rfl | exact ⟨_, rfl, fun _ _ => rfl⟩
    | 81, _ => first | exact rfl | exact ⟨_, rfl, fun _ _ => rfl⟩
    | 82, _ => first | exact rfl | exact ⟨_, rfl, fun _ _ => rfl⟩
    | 83, _ => first | exact rfl | exact ⟨_, rfl, fun _ _ => rfl⟩
    | 84, _ => first | exact rfl | exact ⟨_, rfl, fun _ _ => rfl⟩
    | 85, _ => first | exact rfl | exact ⟨_, rfl, fun _ _ => rfl⟩
    | 86, _ => first | exact rfl | exact ⟨_, rfl, fun _ _ => rfl⟩
    | 87, _ => first | exact rfl | exact ⟨_, rfl, fun _ _ => rfl⟩
    | 88, _ => first | exact rfl | exact ⟨_, rfl, fun _ _ => rfl⟩
    | 89, _ => first | exact rfl | exact ⟨_, rfl, fun _ _ => rfl⟩
    | 90, _ => first | exact rfl | exact ⟨_, rfl, fun _ _ => rfl⟩
    | 91, _ => first | exact rfl | exact ⟨_, rfl, fun _ _ => rfl⟩
    | 92, _ => first | exact rfl | exact ⟨_, rfl, fun _ _ => rfl⟩
    | 93, _ => first | exact rfl | exact ⟨_, rfl, fun _ _ => rfl⟩
    | 94, _ => first | exact rfl | exact ⟨_, rfl, fun _ _ => rfl⟩
    | 95, _ => first | exact rfl | exact ⟨_, rfl, fun _ _ => rfl⟩
    | 96, _ => first | exact rfl | exact ⟨_, rfl, fun _ _ => rfl⟩
    | 97, _ => first | exact rfl | exact ⟨_, rfl, fun _ _ => rfl⟩
    | 98, _ => first | exact rfl | exact ⟨_, rfl, fun _ _ => rfl⟩
    | 99, _ => first | exact rfl | exact ⟨_, rfl, fun _ _ => rfl⟩
    | 100, _ => first | exact rfl | exact ⟨_, rfl, fun _ _ => rfl⟩
    | 101, _ => first | exact rfl | exact ⟨_, rfl, fun _ _ => rfl⟩
    | r + 102, hr => exact absurd hr (by omega)
  · intro a ha
    simp (disch := omega) only [ab_up_ne]
  · constructor <;> omega
