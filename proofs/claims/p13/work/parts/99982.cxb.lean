/-! ===== both objects: best answers alike (own text) ===== -/
section
variable {g : Nat → ab_C} {M : wd_I} {l : List Nat} {l' : List Int32} {o : Int} {D : Nat → Nat → Int} {n i : Nat}
theorem b_sin (hn : n ≤ 200) (hD : ∀ x y, x < n → y < n → (c_ah g (l.getD x 0) (l.getD y 0) o ↔ D x y < 0)) (hi : i < n) : ∀ (A : List Nat) (q : Nat) (I : wd_I), A.length = q → (∀ y, y ∈ A → y < n) → (∀ j, j < q → I 13 j = ab_ii ((A.getD (q - 1 - j) 0 : Nat) : Int)) → (∀ j, j ≤ q → c_sin g l o i q I 13 j = ab_ii (((b_in D i A).getD (q - j) 0 : Nat) : Int)) ∧ ∀ j, q < j → c_sin g l o i q I 13 j = I 13 j
  | [], q, I, hl, hA, hI => by
    have e : q = 0 := hl.symm
    subst e
    refine ⟨fun j hj => ?_, fun j hj => wd_up_ne _ _ (Or.inr (by omega))⟩
    have e : j = 0 := by omega
    subst e
    exact wd_up_self _ _ _ _
  | a :: A, q, I, hl, hA, hI => by
    rw [List.length_cons] at hl
    obtain ⟨q', rfl⟩ : ∃ q', q = q' + 1 := ⟨A.length, hl.symm⟩
    have ha := hA a List.mem_cons_self
    have ea : I 13 q' = ab_ii (a : Int) := by
      rw [hI q' (by omega), show q' + 1 - 1 - q' = 0 by omega]
      rfl
    have et : (I 13 q').toInt.toNat = a := by rw [ea, ab_tI (by omega) (by omega), Int.toNat_natCast]
    have hca : c_ah g (l.getD i 0) (l.getD (I 13 q').toInt.toNat 0) o ↔ D i a < 0 := by rw [et]; exact hD i a hi ha
    have hI2 : ∀ j, j ≤ q' → I 13 j = ab_ii (((a :: A).getD (q' - j) 0 : Nat) : Int) := fun j hj => by
      rw [hI j (by omega), show q' + 1 - 1 - j = q' - j by omega]
    unfold c_sin b_in
    by_cases hc : D i a < 0
    · rw [if_pos (hca.mpr hc), if_pos hc]
      obtain ⟨i1, i2⟩ := b_sin hn hD hi A q' (wd_up I 13 (q' + 1) (I 13 q')) (by omega) (fun y hy => hA y (List.mem_cons_of_mem _ hy)) (fun j hj => by
        rw [wd_up_ne _ _ (Or.inr (by omega)), hI2 j (by omega), show q' - j = (q' - 1 - j) + 1 by omega]
        rfl)
      refine ⟨fun j hj => ?_, fun j hj => ?_⟩
      · by_cases e : j = q' + 1
        · rw [i2 j (by omega), e, wd_up_self, ea, show q' + 1 - (q' + 1) = 0 by omega]
          rfl
        · rw [i1 j (by omega), show q' + 1 - j = (q' - j) + 1 by omega]
          rfl
      · rw [i2 j (by omega), wd_up_ne _ _ (Or.inr (by omega))]
    · rw [if_neg (fun q => hc (hca.mp q)), if_neg hc]
      refine ⟨fun j hj => ?_, fun j hj => wd_up_ne _ _ (Or.inr (by omega))⟩
      by_cases e : j = q' + 1
      · rw [e, wd_up_self, show q' + 1 - (q' + 1) = 0 by omega]
        rfl
      · rw [wd_up_ne _ _ (Or.inr e), hI2 j (by omega), show q' + 1 - j = (q' - j) + 1 by omega]
        rfl
theorem b_srt (hn : n ≤ 200) (hD : ∀ x y, x < n → y < n → (c_ah g (l.getD x 0) (l.getD y 0) o ↔ D x y < 0)) {I : wd_I} : ∀ i, i ≤ n → ∀ j, j < i → c_srt g l o I i 13 j = ab_ii (((b_A D i).getD (i - 1 - j) 0 : Nat) : Int)
  | 0, _, j, hj => absurd hj (Nat.not_lt_zero _)
  | i + 1, hi, j, hj => by
    have ih := b_srt hn hD (I := I) i (by omega)
    have h1 := (b_sin hn hD (show i < n by omega) (b_A D i) i (c_srt g l o I i) (b_A_len i) (fun y hy => by have := (b_A_mem i y).mp hy; omega) ih).1 j (by omega)
    show c_sin g l o i i (c_srt g l o I i) 13 j = ab_ii (((b_in D i (b_A D i)).getD (i + 1 - 1 - j) 0 : Nat) : Int)
    rw [h1, show i + 1 - 1 - j = i - j by omega]
theorem b_ahead (hD : ∀ x y, D x y = m_ob M o (l'.getD x 0) (l'.getD y 0)) {x : Nat} : ∀ q, m_ahead M l' o x q = b_ct D x (b_A D q)
  | 0 => rfl
  | q + 1 => by
    have ih := b_ahead hD (x := x) q
    show m_ahead M l' o x (q + 1) = b_ct D x (b_in D q (b_A D q))
    rw [b_in_ct]
    unfold m_ahead b_ct
    have e : b_R D q x ↔ (m_ob M o (l'.getD q 0) (l'.getD x 0) < 0 ∨ (m_ob M o (l'.getD q 0) (l'.getD x 0) = 0 ∧ q < x)) := by
      unfold b_R
      rw [hD]
    by_cases c : b_R D q x
    · rw [if_pos c, if_pos (e.mp c), ih]
    · rw [if_neg c, if_neg (fun p => c (e.mpr p)), ih]
theorem b_bst_y {w : Int} {x : Nat} (hx : (m_ahead M l' o x l'.length : Int) = w) (hu : ∀ i, i < n → i ≠ x → ¬ (m_ahead M l' o i l'.length : Int) = w) (hxn : x < n) : ∀ r i, i + r = n → i ≤ x → m_bst M l' o w r i = ab_ii (x : Int)
  | 0, i, h1, h2 => by omega
  | r + 1, i, h1, h2 => by
    unfold m_bst
    by_cases e : i = x
    · rw [e, if_pos hx]
    · rw [if_neg (hu i (by omega) e)]
      exact b_bst_y hx hu hxn r (i + 1) (by omega) (by omega)
theorem b_bst_n {w : Int} (hu : ∀ i, i < n → ¬ (m_ahead M l' o i l'.length : Int) = w) : ∀ r i, i + r = n → m_bst M l' o w r i = ab_ii (-1)
  | 0, i, h1 => rfl
  | r + 1, i, h1 => by
    unfold m_bst
    rw [if_neg (hu i (by omega))]
    exact b_bst_n hu r (i + 1) (by omega)
theorem b_best (hn : n ≤ 200) (hl : l.length = n) (hl' : l'.length = n) (hc : ∀ x y, x < n → y < n → (c_ah g (l.getD x 0) (l.getD y 0) o ↔ D x y < 0)) (hD : ∀ x y, D x y = m_ob M o (l'.getD x 0) (l'.getD y 0)) (hb : b_D D n) {w : Int} {I : wd_I} : c_srtA g l o w I = m_bst M l' o w n 0 := by
  have hso := b_A_so hb n (Nat.le_refl _)
  have hlen : (b_A D n).length = n := b_A_len n
  have hat : ∀ k, k < n → (b_A D n).getD k 0 < n ∧ m_ahead M l' o ((b_A D n).getD k 0) n = n - 1 - k := fun k hk => by
    refine ⟨?_, ?_⟩
    · exact (b_A_mem n _).mp (b_mem _ k (by omega))
    · rw [b_ahead hD, b_ct_at hb (b_A D n) k hso (by omega), hlen]
  have hal : ∀ i, i < n → ∃ k, k < n ∧ (b_A D n).getD k 0 = i := fun i hi => by
    obtain ⟨k, hk, e⟩ := b_ex _ ((b_A_mem (D := D) n i).mpr hi)
    exact ⟨k, by omega, e⟩
  unfold c_srtA
  rw [hl]
  by_cases hw : 0 ≤ w ∧ w < (n : Int)
  · rw [if_pos hw, b_srt hn hc n (Nat.le_refl _) w.toNat (by omega)]
    obtain ⟨h1, h2⟩ := hat (n - 1 - w.toNat) (by omega)
    refine (b_bst_y (n := n) (x := (b_A D n).getD (n - 1 - w.toNat) 0) ?_ (fun i hi hne e => ?_) h1 n 0 (Nat.zero_add _) (Nat.zero_le _)).symm
    · rw [hl', h2]
      omega
    · rw [hl'] at e
      obtain ⟨k, hk, ek⟩ := hal i hi
      have h3 := (hat k hk).2
      rw [ek] at h3
      have : k = n - 1 - w.toNat := by omega
      rw [this] at ek
      exact hne ek.symm
  · rw [if_neg hw]
    refine (b_bst_n (n := n) (fun i hi e => ?_) n 0 (Nat.zero_add _)).symm
    rw [hl'] at e
    obtain ⟨k, hk, ek⟩ := hal i hi
    have h3 := (hat k hk).2
    rw [ek] at h3
    omega
end
section
variable {F : Nat → Int32 → Prop} {T : Nat → Prop} {I : wd_I} {P : wd_P} {M : wd_I} {g : Nat → ab_C} {k z d m : Nat} {Q : ab_Q}
theorem w_ah (h : w_In F T I P M g k) {o : Int} (ho : 0 ≤ o ∧ o ≤ 2) {a b : Nat} {t u : Int32} (ha : F a t) (hb : F b u) : c_ah g a b o ↔ m_ob M o t u < 0 := by
  have pa := h.2.2.1.1.p ha
  have pb := h.2.2.1.1.p hb
  have hc := h_cmp41 (f' := 13) h.2.2.1.1 h.tab (by omega) ha hb
  unfold c_ah m_ob
  rw [pa.2.2.1, pa.2.2.2.1, pb.2.2.1, pb.2.2.2.1, hc]
  by_cases e1 : o = 2 ∧ ¬ (M 107 t.toInt.toNat).toInt = (M 107 u.toInt.toNat).toInt
  · rw [if_pos e1, if_pos e1]
    by_cases e : (M 107 u.toInt.toNat).toInt < (M 107 t.toInt.toNat).toInt
    · rw [if_pos e]; omega
    · rw [if_neg e]; omega
  · rw [if_neg e1, if_neg e1]
    by_cases e2 : 0 < o ∧ ¬ (M 106 t.toInt.toNat).toInt = (M 106 u.toInt.toNat).toInt
    · rw [if_pos (show ¬ o = 0 ∧ ¬ (M 106 t.toInt.toNat).toInt = (M 106 u.toInt.toNat).toInt from ⟨by omega, e2.2⟩), if_pos e2]
      by_cases e : (M 106 t.toInt.toNat).toInt < (M 106 u.toInt.toNat).toInt
      · rw [if_pos e]; omega
      · rw [if_neg e]; omega
    · rw [if_neg (show ¬ (¬ o = 0 ∧ ¬ (M 106 t.toInt.toNat).toInt = (M 106 u.toInt.toNat).toInt) from fun q => e2 ⟨by omega, q.2⟩), if_neg e2]
      by_cases e3 : o = 2
      · rw [if_pos e3]; omega
      · rw [if_neg e3]; omega
theorem hc_best (hd : 50 ≤ d) (h : w_In F T I P M g k) (hr : k_rm (m + 1) I k z) {s p o q : Int32} (hQ : w_res 185 25 [wd_v 102, .inl s, .inl p, .inl o, .inl q] m M Q) : ab_CT d 115 [wd_v 0, .inl s, .inl p, .inl o, .inl q] (wd I P M g, k, z) Q := by
  have hr0 : k_rm m I k z := hr.le (Int.le_refl _) (Nat.le_add_right _ _) (Nat.le_add_right _ _)
  obtain ⟨a, ha⟩ := h.sh s
  obtain ⟨b, hb⟩ := h.pa p
  have hiff : (0 ≤ s.toInt ∧ s.toInt ≤ 11 ∧ 0 ≤ p.toInt ∧ p.toInt ≤ 7 ∧ 0 ≤ o.toInt ∧ o.toInt ≤ 2) ↔ (c_sh s ∧ c_pp p ∧ 0 ≤ o.toInt ∧ o.toInt ≤ 2) := by
    unfold c_sh c_pp
    omega
  have hx := fun (I' : wd_I) (P' : wd_P) (h' : w_In F T I' P' M g k) (k' z' d : Nat) (Q : ab_Q) (hd : 25 ≤ d) (hq : ∀ (M' : wd_I), w_In F T I' P' M' g k → Q (some (.inl (m_best M s p o q))) (wd I' P' M' g, k', z')) => x_best (d := d) (I := I') (P := P') (g := g) (k := k') (z := z') (Q := Q) (s := s) (p := p) (o := o) (n := q) hd h.1.lok (fun M' hE => hq M' (h'.eqv hE))
  have hf := h.fnd (p := b) (a := a)
  have heq : (c_sh s ∧ c_pp p ∧ 0 ≤ o.toInt ∧ o.toInt ≤ 2) → c_srtA g (c_fs41 g b a) o.toInt q.toInt (f_fnd I P g b a).1 = m_best M s p o q := fun e => by
    have hls := h_fs h.2.2.1.1 h.tab (hb e.2.1).2 (ha e.1).2
    have hlen := hls.len
    have hb0 := (h.2.2.1.in (ha e.1).2).2
    have hn := m_fs_len h.tab.tb hb0.1 hb0.2 (p := p)
    unfold m_best
    rw [if_pos (hiff.mpr e), ← hlen]
    refine b_best (D := fun x y => m_ob M o.toInt ((m_fs M p (M 110 s.toInt.toNat)).getD x 0) ((m_fs M p (M 110 s.toInt.toNat)).getD y 0)) (by omega) rfl hlen.symm (fun x y hx hy => w_ah h e.2.2 (hls.at x hx) (hls.at y hy)) (fun _ _ => rfl) ⟨fun x y => b_ob_an _ _, fun x y w hx hy hw => ?_⟩
    exact b_ob h.tab _ _ _ (h.2.2.1.in (hls.at x hx)).2 (h.2.2.1.in (hls.at y hy)).2 (h.2.2.1.in (hls.at w hw)).2
  refine y_best hd h.2.1.1 (fun e => ?_) (fun q => (ha q).1) (fun q => (hb q).1) (fun e e2 => ?_) (fun e e2 e3 => ?_)
  · have e0 : m_best M s p o q = ab_ii (-2) := by
      unfold m_best
      rw [if_neg (fun p => e (hiff.mp p))]
    rw [← e0]
    exact hQ _ F T _ _ _ _ _ (hx _ _ h _ _) hr0
  · have e0 : m_best M s p o q = ab_ii (-1) := by
      rw [← heq e]
      unfold c_srtA
      rw [if_neg (by omega)]
    rw [← e0]
    exact hQ _ F T _ _ _ _ _ (hx _ _ hf _ _) (hr.le (by rw [f_fnd_ne.1 _ _ (by omega)]; exact Int.le_refl _) (Nat.le_add_right _ _) (Nat.le_add_right _ _))
  · rw [heq e]
    exact hQ _ F T _ _ _ _ _ (hx _ _ (hf.ix (fun x j hx => c_srt_ne (by omega)) (fun _ _ _ => rfl)) _ _) (hr.le (by rw [c_srt_ne (by omega), f_fnd_ne.1 _ _ (by omega)]; exact Int.le_refl _) (Nat.le_add_right _ _) (Nat.le_add_right _ _))
end
