/-! ===== OVER on both sides: whole (own text) ===== -/
theorem o_ovw {F0 : Nat → Int32 → Prop} {M0 : wd_I} {n0 : Int} {p q gv : Nat} (hcx : o_cx F0 M0 n0 gv) : ∀ (f f' a i : Nat) (t : Int32) (u : Nat) (F : Nat → Int32 → Prop) (T : Nat → Prop) (S : c_St) (M : wd_I), o_in F0 M0 n0 p q gv u F T S M → F0 a t → (i : Int) ≤ (M0 115 q).toInt → (M0 107 t.toInt.toNat).toInt + (M0 115 q).toInt - (i : Int) < (f : Int) → (M0 107 t.toInt.toNat).toInt + (M0 115 q).toInt - (i : Int) < (f' : Int) → o_res F0 M0 n0 p q gv u F T S M (c_chw gv p f a i S) (m_ov q f' M t i)
  | 0, f', a, i, t, u, F, T, S, M, h, ha, hi, h1, h2 => by have := (h.1.2.1.2 a t ha).2.1; omega
  | f + 1, 0, a, i, t, u, F, T, S, M, h, ha, hi, h1, h2 => by have := (h.1.2.1.2 a t ha).2.1; omega
  | f + 1, f' + 1, a, i, t, u, F, T, S, M, h, ha, hi, h1, h2 => by
    obtain ⟨hop, hT0, h7⟩ := id hcx
    obtain ⟨⟨w1, h0k, hpw, hpt⟩, ⟨b1, b2, b3⟩, ⟨d1, d2⟩, e1, e2, e3, e4, e5, e6⟩ := id h
    obtain ⟨⟨hTa, ht0, ht1⟩, pr⟩ := h0k.1.1 a t ha
    have hrow := h0k.1.row hT0 ha
    obtain ⟨s1, s2, s3, s4, s5, s6, s7⟩ := hrow
    have hsz : (M0 105 t.toInt.toNat).toInt = (c_sz S.2.1 a : Int) := pr.2.2.2.2.1.symm
    have e115 : M 115 = M0 115 := b1.2.1 115 (by decide)
    have e105 : M 105 t.toInt.toNat = M0 105 t.toInt.toNat := (b1.1.1 t.toInt.toNat (by omega)).2.2.1
    have hopM : m_op n0 M := o_op hop b1 b2 b3
    have hTM : m_T M n0 := m_T_sb hT0 b1.1
    have hq := m_ov_oq (p := q) (f' + 1) M t i hopM hTM ht0 ht1
    have hpn := hpt.1
    have e107 : M 107 t.toInt.toNat = M0 107 t.toInt.toNat := (b1.1.1 t.toInt.toNat (by omega)).2.2.2.2
    unfold m_ov at hq ⊢
    unfold c_chw
    rw [if_pos e2] at hq ⊢
    rw [if_pos e1, e105] at *
    rw [e115] at hq ⊢
    rw [s1] at hq ⊢
    by_cases ci : p_n S.2.1 p ≤ i
    · rw [if_pos ci, if_pos (show (i : Int) = (M0 115 q).toInt by omega)]
      obtain ⟨I, g, k, z⟩ := S
      exact o_bec hcx h ha hsz
    · have hi2 : i < p_n S.2.1 p := by omega
      rw [if_neg (show ¬ (i : Int) = (M0 115 q).toInt by omega)] at hq ⊢
      rw [if_neg ci]
      have hk : p_keep S.2.1 p i a ↔ m_self M q t.toInt.toNat i := (h_keep hpt hi2 pr).trans (o_self b1 (by omega)).symm
      by_cases ck : p_keep S.2.1 p i a
      · rw [if_pos ck, if_pos (hk.mp ck)]
        exact o_ovw hcx f f' a (i + 1) t u F T S M h ha (by omega) (by omega) (by omega)
      · rw [if_neg (fun e => ck (hk.mpr e))] at hq ⊢
        rw [if_neg ck]
        have hnxt : m_nxt M q i = m_nxt M0 q i := o_nxt b1
        have hnx1 : i ≤ m_nxt M0 q i ∧ m_nxt M0 q i ≤ i + 1 := by unfold m_nxt; split <;> omega
        have hpx := h_nx hpt hi2
        refine o_loop hop hT0 h ha hsz (by omega) (fun u' F' T' S' M' j h' hj => ?_) ⟨fun N x hf => ?_, fun N x hN hx0 hx1 => m_ov_good f' N x _ hN hx0 hx1, fun N x hN hTN hx0 hx1 => m_ov_oq f' N x _ hN hTN hx0 hx1⟩ (fun b S' => o_chw f b _ S') (c_sz S.2.1 a) 0 none F T S M (ab_ii (-1)) (Nat.zero_add _) ⟨c_st.rf w1.1, ⟨fun _ _ e => e, fun _ _ e => Or.inl e⟩, Int.le_refl _, Or.inl ⟨rfl, rfl, h⟩⟩ (fun e => ?_)
        · obtain ⟨-, -, -, -, p4', p5'⟩ := (h'.1.2.1.1.1 a t ha).2
          have hFj := (p5' j (by omega)).2
          have hpt' := h'.1.2.2.2
          have hn' : p_n S'.2.1 p = p_n S.2.1 p := by have := hpt'.1; omega
          have hpx' := h_nx hpt' (show i < p_n S'.2.1 p by omega)
          have hh := s7 j hj
          show o_res F0 M0 n0 p q gv u' F' T' S' M' (c_chw gv p f (c_pt S'.2.1 a j) (p_nx S'.2.1 p i) S') (m_ov q f' M' (M0 108 (12 * t.toInt.toNat + j)) (m_nxt M q i))
          rw [hpx', hnxt]
          exact o_ovw hcx f f' _ _ _ u' F' T' S' M' h' hFj (by omega) (by omega) (by omega)
        · show m_ov q f' N x (m_nxt M q i) = (N, x)
          cases f' with
          | zero => rfl
          | succ f' => unfold m_ov; rw [if_neg hf]
        · have := (hq e).2.2.2.2.2
          rw [e107] at this
          omega
