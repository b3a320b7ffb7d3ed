/-! ===== OVER on both sides: what is counted (own text) ===== -/
/-- counted: at most 3000, and 3000 as soon as nothing more may be made -/
def o_ns (S : c_St) : Prop := (0 ≤ (S.1 9 0).toInt ∧ (S.1 9 0).toInt ≤ 3000) ∧ (¬ (S.1 10 6).toInt = 0 → (S.1 9 0).toInt = 3000)
def o_mo (S S' : c_St) : Prop := o_ns S → o_ns S' ∧ (S.1 9 0).toInt ≤ (S'.1 9 0).toInt ∧ (¬ (S.1 10 6).toInt = 0 → ¬ (S'.1 10 6).toInt = 0)
/-- one more, or nothing more may be made -/
def o_m1 (S S' : c_St) : Prop := o_ns S → ¬ (S'.1 10 6).toInt = 0 ∨ (S.1 9 0).toInt + 1 ≤ (S'.1 9 0).toInt
theorem o_mo.rf {S : c_St} : o_mo S S := fun h => ⟨h, Int.le_refl _, fun q => q⟩
theorem o_mo.tr {S S' S'' : c_St} (h : o_mo S S') (h' : o_mo S' S'') : o_mo S S'' := fun q => by
  obtain ⟨a1, a2, a3⟩ := h q
  obtain ⟨b1, b2, b3⟩ := h' a1
  exact ⟨b1, Int.le_trans a2 b2, fun e => b3 (a3 e)⟩
theorem o_m1.of {S S' S'' : c_St} (h : o_mo S S') (h' : o_m1 S' S'') : o_m1 S S'' := fun q => by
  obtain ⟨a1, a2, -⟩ := h q
  rcases h' a1 with e | e
  · exact Or.inl e
  · exact Or.inr (by omega)
theorem o_m1.be {S S' S'' : c_St} (h0 : o_mo S S') (h : o_m1 S S') (h' : o_mo S' S'') : o_m1 S S'' := fun q => by
  obtain ⟨a1, -, -⟩ := h0 q
  obtain ⟨b1, b2, b3⟩ := h' a1
  rcases h q with e | e
  · exact Or.inl (b3 e)
  · exact Or.inr (by omega)
theorem o_eq {S S' : c_St} (e9 : S'.1 9 0 = S.1 9 0) (e6 : S'.1 10 6 = S.1 10 6) : o_mo S S' := fun h => by
  unfold o_ns at *
  rw [e9, e6]
  exact ⟨h, Int.le_refl _, fun q => q⟩
theorem o_I1 {S S' : c_St} (hm : (S.1 9 0).toInt < 3000) (e : S'.1 = c_I1 S.1) : o_mo S S' ∧ o_m1 S S' := by
  refine ⟨fun h => ?_, fun h => ?_⟩
  · obtain ⟨u1, u2⟩ := c_I1_9 (I := S.1) ⟨h.1.1, hm⟩
    unfold o_ns at *
    rw [e, u1, u2]
    omega
  · obtain ⟨u1, u2⟩ := c_I1_9 (I := S.1) ⟨h.1.1, hm⟩
    rw [e, u1]
    exact Or.inr (Int.le_refl _)
theorem o_I0 {S S' : c_St} (hm : ¬ (S.1 9 0).toInt < 3000) (e : S'.1 = c_I0 S.1) : o_mo S S' ∧ o_m1 S S' := by
  obtain ⟨u1, u2⟩ := c_I0_9 (I := S.1)
  refine ⟨fun h => ?_, fun h => ?_⟩
  · unfold o_ns at *
    rw [e, u1, u2]
    omega
  · rw [e, u2]
    exact Or.inl (by decide)
theorem o_mkA {a q np : Nat} {fq : Nat → Option Nat} {S : c_St} : o_mo S (c_mkA a q np fq S).2 ∧ o_m1 S (c_mkA a q np fq S).2 := by
  unfold c_mkA
  split
  next hs =>
    split
    next hm => exact o_I1 hm rfl
    next hm => exact o_I0 hm rfl
  next hs => exact ⟨o_mo.rf, fun _ => Or.inl hs⟩
theorem o_mkN {kd wo : Int32} {q np r : Nat} {fq : Nat → Option Nat} {S : c_St} : o_mo S (c_mkN kd wo q np fq r S).2 ∧ o_m1 S (c_mkN kd wo q np fq r S).2 := by
  unfold c_mkN
  split
  next hs =>
    split
    next hm => exact o_I1 hm rfl
    next hm => exact o_I0 hm rfl
  next hs => exact ⟨o_mo.rf, fun _ => Or.inl hs⟩
theorem o_ordr {S : c_St} {a : Nat} : o_mo S (c_ordr S a).2 := by
  unfold c_ordr
  split
  · exact o_mo.tr (S' := c_arr S _ _) (o_eq rfl rfl) o_mkA.1
  · split
    · exact o_mo.tr (S' := c_arr S _ _) (o_eq rfl rfl) o_mkA.1
    · split
      · exact o_mo.tr (S' := c_arr S _ _) (o_eq rfl rfl) o_mkA.1
      · exact o_mo.rf
theorem o_fI {I : wd_I} {r : (Nat → ab_C) × Nat × Nat} : o_mo (I, r) (c_fI I, r) := fun h => by
  obtain ⟨f9, f6, -⟩ := c_fI_9 (I := I)
  unfold o_ns at *
  dsimp only at *
  rw [f9, f6]
  exact ⟨h, Int.le_refl _, fun q => q⟩
theorem o_foc {gv a : Nat} {S : c_St} : o_mo S (c_foc gv S a).2 := by
  obtain ⟨I, g, k, z⟩ := S
  have e9 : c_fI I 9 0 = I 9 0 := (c_fI_9 (I := I)).1
  have hfI : o_mo (I, g, k, z) (c_fI I, g, k, z) := o_fI
  have hI1 : ∀ S' : c_St, (I 9 0).toInt < 3000 → S'.1 = c_I1 (c_fI I) → o_mo (I, g, k, z) S' := fun S' hm e => hfI.tr (o_I1 (S := (c_fI I, g, k, z)) (by dsimp only; rw [e9]; exact hm) e).1
  have hI0 : ∀ S' : c_St, ¬ (I 9 0).toInt < 3000 → S'.1 = c_I0 (c_fI I) → o_mo (I, g, k, z) S' := fun S' hm e => hfI.tr (o_I0 (S := (c_fI I, g, k, z)) (by dsimp only; rw [e9]; exact hm) e).1
  have harr : ∀ f n, o_mo (I, g, k, z) (c_arr (c_fI I, g, k, z) f n) := fun f n => hfI.tr (o_eq rfl rfl)
  unfold c_foc
  dsimp only
  split
  · split
    · split
      next hm => exact hI1 _ hm rfl
      next hm => exact hI0 _ hm rfl
    · exact hfI
  · split
    · split
      next hm => exact (hI1 (c_I1 (c_fI I), c_g4y g k a (I 10 3), k + 1 + 1 + 2, z + 2 + 0 + 6) hm rfl).tr o_mkN.1
      next hm => exact (hI0 (c_I0 (c_fI I), c_g4n g k a, k + 1 + 1, z + 2 + 0) hm rfl).tr o_mkN.1
    · split
      · exact (harr _ _).tr o_mkN.1
      · split
        · exact (harr _ _).tr o_mkN.1
        · split
          · exact hfI
          · exact hfI.tr o_ordr
theorem o_chl {F : Nat → c_St → Nat × c_St} {p i a : Nat} (hF : ∀ b S, o_mo S (F b S).2) : ∀ (n j : Nat) (o : Option (Nat × (Nat → Option Nat))) (S : c_St), o_mo S (c_chl F p i a n j o S).2 ∧ (¬ o = none → o_m1 S (c_chl F p i a n j o S).2)
  | 0, j, none, S => ⟨o_mo.rf, fun q => absurd rfl q⟩
  | 0, j, some (q, fq), S => ⟨o_mkA.1, fun _ => o_mkA.2⟩
  | n + 1, j, none, S => by
    have h1 := hF (c_pt S.2.1 a j) S
    refine ⟨?_, fun q => absurd rfl q⟩
    unfold c_chl
    split
    · split
      · exact h1.tr (o_chl hF n (j + 1) none _).1
      · exact (h1.tr (o_eq (S' := c_arr (F (c_pt S.2.1 a j) S).2 _ _) rfl rfl)).tr (o_chl hF n (j + 1) (some _) _).1
    · exact (o_chl hF n (j + 1) none S).1
  | n + 1, j, some (q, fq), S => by
    have h1 := hF (c_pt S.2.1 a j) S
    unfold c_chl
    split
    · split
      · have h2 := o_chl (p := p) (i := i) (a := a) hF n (j + 1) (some (q, fq)) (F (c_pt S.2.1 a j) S).2
        exact ⟨h1.tr h2.1, fun _ => o_m1.of h1 (h2.2 (by simp))⟩
      · have h2 := o_chl (p := p) (i := i) (a := a) hF n (j + 1) (some (q, ab_up fq j (some (F (c_pt S.2.1 a j) S).1))) ((F (c_pt S.2.1 a j) S).2.1, ab_up (F (c_pt S.2.1 a j) S).2.2.1 q (ab_ra 4 (c_sz (F (c_pt S.2.1 a j) S).2.2.1 a) (ab_up fq j (some (F (c_pt S.2.1 a j) S).1))), (F (c_pt S.2.1 a j) S).2.2.2)
        have h3 := h1.tr (o_eq (S' := ((F (c_pt S.2.1 a j) S).2.1, ab_up (F (c_pt S.2.1 a j) S).2.2.1 q (ab_ra 4 (c_sz (F (c_pt S.2.1 a j) S).2.2.1 a) (ab_up fq j (some (F (c_pt S.2.1 a j) S).1))), (F (c_pt S.2.1 a j) S).2.2.2)) rfl rfl)
        exact ⟨h3.tr h2.1, fun _ => o_m1.of h3 (h2.2 (by simp))⟩
    · have h2 := o_chl (p := p) (i := i) (a := a) hF n (j + 1) (some (q, fq)) S
      exact ⟨h2.1, fun _ => h2.2 (by simp)⟩
theorem o_chw {gv p : Nat} : ∀ (f a i : Nat) (S : c_St), o_mo S (c_chw gv p f a i S).2
  | 0, a, i, S => o_mo.rf
  | f + 1, a, i, S => by
    unfold c_chw
    split
    · split
      · exact o_foc
      · split
        · exact o_chw f a (i + 1) S
        · exact (o_chl (fun b S' => o_chw f b _ S') _ 0 none S).1
    · exact o_mo.rf
/-! the reference -/
def o_rs (M : wd_I) : Prop := ¬ (M 102 36).toInt = 0 → (M 102 9).toInt = 3000
section
variable {M N : wd_I}
theorem o_rs_no (h : o_rs M) (hc : ¬ m_can M) : o_rs (m_nomk M) := fun _ => by
  rw [m_nomk_9]
  unfold m_can at hc
  by_cases e : (M 102 36).toInt = 0
  · omega
  · exact h e
theorem o_rs_s1 (hc : m_can M) (h : m_s1 (m_mk M) N) : o_rs N := fun q => by
  rw [h.2 36 (by decide), show m_mk M 102 36 = M 102 36 from wd_up_ne _ _ (Or.inr (by decide))] at q
  exact absurd hc.1 q
theorem o_cp_s1 {t x : Int32} {s i : Nat} : m_s1 M (wd_up (m_copyOf M t s) 108 i x) := by
  have e : wd_up (m_copyOf M t s) 108 i x 102 = m_copyOf M t s 102 := wd_up_row _ _ _ (by decide)
  refine ⟨?_, fun k hk => ?_⟩
  · rw [e, m_copyOf_8]
  · rw [e]
    unfold m_copyOf
    rw [m_cpl_row (by decide) (by decide), m_begins_n hk]
theorem o_rs_numb {v : Int32} (h : o_rs M) : o_rs (m_numb M v).1 := by
  unfold m_numb
  by_cases hc : m_can M
  · rw [m_cani_t hc]
    exact o_rs_s1 hc m_number_s1
  · rw [m_cani_f hc]
    exact o_rs_no h hc
theorem o_rs_bec {how : Int} {hw f t : Int32} {s : Nat} (h : o_rs M) : o_rs (m_bec M how hw f t s).1 := by
  unfold m_bec
  split
  · split
    · exact o_rs_numb h
    · exact h
  · split
    · exact h
    · split
      · by_cases hc : m_can (m_numb M hw).1
        · rw [m_cani_t hc]
          exact o_rs_s1 hc m_pair_s1
        · rw [m_cani_f hc]
          exact o_rs_no (o_rs_numb h) hc
      · split
        · by_cases hc : m_can M
          · rw [m_cani_t hc]
            split
            · exact o_rs_s1 hc m_around_s1
            · split
              · exact o_rs_s1 hc m_around_s1
              · exact o_rs_s1 hc m_changed_s1
          · rw [m_cani_f hc]
            exact o_rs_no h hc
        · exact h
theorem o_rs_became {t : Int32} {s : Nat} (h : o_rs M) : o_rs (m_became M t s).1 := by
  unfold m_became
  refine o_rs_bec ?_
  unfold o_rs at *
  rw [show m_ov1 M 102 36 = M 102 36 from wd_up_ne _ _ (Or.inr (by decide)), show m_ov1 M 102 9 = M 102 9 from wd_up_ne _ _ (Or.inr (by decide))]
  exact h
theorem o_rs_row {a i : Nat} {x : Int32} (ha : 102 ≠ a) (h : o_rs N) : o_rs (wd_up N a i x) := by
  unfold o_rs at *
  rw [wd_up_row _ _ _ ha]
  exact h
theorem o_rs_ovs {G : wd_I → Int32 → wd_I × Int32} (hG : ∀ N q, o_rs N → o_rs (G N q).1) {p i s j : Nat} {t : Int32} {r : wd_I × Int32} (h : o_rs r.1) : o_rs (m_ovs G p i s t j r).1 := by
  have h1 := hG r.1 (r.1 108 (12 * t.toInt.toNat + j)) h
  unfold m_ovs
  split
  · split
    · exact h1
    · split
      · by_cases hc : m_can (G r.1 (r.1 108 (12 * t.toInt.toNat + j))).1
        · rw [m_cani_t hc]
          have h2 := o_cp_s1 (M := m_mk (G r.1 (r.1 108 (12 * t.toInt.toNat + j))).1) (t := t) (x := (G r.1 (r.1 108 (12 * t.toInt.toNat + j))).2) (s := s) (i := 12 * ((G r.1 (r.1 108 (12 * t.toInt.toNat + j))).1 102 8).toInt.toNat + j)
          exact o_rs_s1 hc h2
        · rw [m_cani_f hc]
          exact o_rs_no h1 hc
      · exact o_rs_row (by decide) h1
  · exact h
theorem o_rs_ovl {G : wd_I → Int32 → wd_I × Int32} (hG : ∀ N q, o_rs N → o_rs (G N q).1) {p i s : Nat} {t : Int32} : ∀ (n j : Nat) (r : wd_I × Int32), o_rs r.1 → o_rs (m_ovl G p i s t n j r).1
  | 0, _, _, h => h
  | n + 1, j, r, h => by
    unfold m_ovl
    exact o_rs_ovl hG n (j + 1) _ (o_rs_ovs hG h)
theorem o_rs_fin {s : Nat} {t : Int32} {r : wd_I × Int32} (h : o_rs r.1) : o_rs (m_fin s t r).1 := by
  unfold m_fin
  split
  · exact h
  · show o_rs (m_ends r.1 r.2 s)
    unfold o_rs at *
    rw [m_ends_row (by decide) (by decide)]
    exact h
theorem o_rs_ov {p : Nat} : ∀ (f : Nat) (M : wd_I) (t : Int32) (i : Nat), o_rs M → o_rs (m_ov p f M t i).1
  | 0, M, t, i, h => h
  | f + 1, M, t, i, h => by
    unfold m_ov
    split
    · split
      · exact o_rs_became h
      · split
        · exact o_rs_ov f M t (i + 1) h
        · exact o_rs_fin (o_rs_ovl (fun N q hN => o_rs_ov f N q _ hN) _ 0 _ h)
    · exact h
end
