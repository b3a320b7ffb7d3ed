/-! ===== both objects: a thing read (own text) ===== -/
theorem m_e3_kf {R : wd_I × Int32} {t key : Int32} {s : Nat} : m_kf R.1 (m_e3 R t key s) := by
  unfold m_e3
  split
  · exact m_kf_e (by rw [m_puts_102])
  · exact fun _ => rfl
theorem m_itl_kf {G' : wd_I → wd_I × Int32} {mp : Int} {t : Int32} : ∀ f M, m_kf M (m_itl G' mp t f M)
  | 0, M => fun _ => rfl
  | f + 1, M => fun q => by
    unfold m_itl
    rw [if_neg (fun c => q c.1)]
section
variable {F0 F : Nat → Int32 → Prop} {T0 T : Nat → Prop} {S0 S : c_St} {M0 M N : wd_I} {t sort wo : Int32} {hb : Int} {G : c_St → r_O} {G' : wd_I → wd_I × Int32} {n x : Nat} {fk : Nat → Int32} {fp : Nat → Option Nat}
theorem h_ft {J X Y : wd_I} (h : h_rd J X) (hx : m_rg M X) (hn : m_rg M Y) (hk : m_kf X Y) (hf : ¬ (X 102 24).toInt = -1) : h_rd J Y ∧ ¬ (Y 102 24).toInt = -1 := by
  have h0 : 0 ≤ (X 102 24).toInt := by
    rcases h.f0 with q | q
    · exact absurd q hf
    · exact q
  exact ⟨h.flt h0 (r_tf.rf h.2.1) (fun _ => rfl) ⟨(hn.1.2.2 22 (by decide) (by decide) (by decide) (by decide)).trans (hx.1.2.2 22 (by decide) (by decide) (by decide) (by decide)).symm, (hn.1.2.1 120 (by decide)).trans (hx.1.2.1 120 (by decide)).symm⟩ hn.2.1 hk, by rw [hk hf]; exact hf⟩
/-- one item of a row or map -/
theorem h_item (h : h_at F0 T0 S0 M0 t sort wo hb F T S M n fk fp) (h11 : n ≤ 11) (hG : h_G G G' hb) (hGr : m_rG G') (hGk : ∀ M, m_kf M (G' M).1) (hs : sort.toInt = 3 → h_so fk n) (hz : ¬ sort.toInt = 3 → ∀ j, j < n → fk j = ab_ii 0) (hx : S0.2.2.1 ≤ x) (hn3 : c_nq3 T S.2.1 x) (hxk : x + 3 ≤ S.2.2.1) (hNr : m_rg M0 (m_item G' sort.toInt M t n)) :
    (¬ (m_item G' sort.toInt M t n 102 24).toInt = -1 → ∃ J : c_St, h_rd J.1 (m_item G' sort.toInt M t n) ∧ ((0 ≤ ((r_key sort S.1 fk n).1 1 3).toInt ∧ J = ((r_key sort S.1 fk n).1, S.2)) ∨ (¬ 0 ≤ ((r_key sort S.1 fk n).1 1 3).toInt ∧ G ((r_key sort S.1 fk n).1, S.2) = (none, J)))) ∧
    ((m_item G' sort.toInt M t n 102 24).toInt = -1 → ¬ 0 ≤ ((r_key sort S.1 fk n).1 1 3).toInt ∧ ∃ (T' : Nat → Prop) (F' : Nat → Int32 → Prop) (b : Nat) (S2 : c_St), G ((r_key sort S.1 fk n).1, S.2) = (some b, S2) ∧ h_at F0 T0 S0 M0 t sort wo hb F' T' (r_S3 x (r_pp sort (r_key sort S.1 fk n).2 fk n) n (r_key sort S.1 fk n).2 fk fp b S2) (m_item G' sort.toInt M t n) (n + 1) (c_ins fk n (r_pp sort (r_key sort S.1 fk n).2 fk n) (r_key sort S.1 fk n).2) (c_ins fp n (r_pp sort (r_key sort S.1 fk n).2 fk n) (some b)) ∧ c_nq3 T' (r_S3 x (r_pp sort (r_key sort S.1 fk n).2 fk n) n (r_key sort S.1 fk n).2 fk fp b S2).2.1 x ∧ (sort.toInt = 3 → h_so (c_ins fk n (r_pp sort (r_key sort S.1 fk n).2 fk n) (r_key sort S.1 fk n).2) (n + 1)) ∧ (¬ sort.toInt = 3 → ∀ j, j < n + 1 → c_ins fk n (r_pp sort (r_key sort S.1 fk n).2 fk n) (r_key sort S.1 fk n).2 j = ab_ii 0) ∧ x + 3 ≤ S2.2.2.1) := by
  have hrd := h.2.2.2.1.1
  have hf := h.2.2.2.1.2
  have hpd := h.2.1
  have hmp := h.1.1
  have hky : ∀ j, j < n → M 109 (12 * t.toInt.toNat + j) = fk j := fun j hj => by
    obtain ⟨b', b1, b2, b3, b4⟩ := h.2.2.2.2.2.2.1.2 j hj
    exact b3
  by_cases e3 : sort.toInt = 3
  · have eK : r_key sort S.1 fk n = r_nk S.1 fk n := if_pos e3
    have eP : ∀ l, r_pp sort l fk n = c_plc fk l n 0 := fun l => if_pos e3
    have eN : m_item G' sort.toInt M t n = m_e3 (G' (m_e2 M t n)) t (m_letters M).2 n := if_pos e3
    rw [eK]
    rw [eP]
    rw [eN] at hNr ⊢
    obtain ⟨k1, k2⟩ := h_nk (t := t) hrd hf hky (hs e3)
    have ksc := m_e2_sc (t := t) (s := n) hrd.2.2.1
    generalize r_nk S.1 fk n = K at *
    obtain ⟨I', l⟩ := K
    dsimp only at *
    by_cases fe : (m_e2 M t n 102 24).toInt = -1
    · obtain ⟨k3, k4⟩ := k2 fe
      have h1 := h.sc k1 ksc fe
      have hun : ¬ 0 ≤ (I' 1 3).toInt := k1.un (S := (I', S.2)) fe
      obtain ⟨r1, r2, r3, r4⟩ := h1.go hG hGr
      generalize G' (m_e2 M t n) = R at *
      obtain ⟨X, u⟩ := R
      dsimp only at *
      by_cases fg : (X 102 24).toInt = -1
      · obtain ⟨T', F', b, s1, h2, s6, s7, s8⟩ := r4 fg
        have eE : m_e3 (X, u) t (m_letters M).2 n = m_puts X t (m_letters M).2 u n := if_pos fg
        rw [eE] at hNr ⊢
        have e102 : m_puts X t (m_letters M).2 u n 102 = X 102 := m_puts_102
        refine ⟨fun q => absurd (by rw [e102]; exact fg) q, fun _ => ⟨hun, T', F', b, (G (I', S.2)).2, Prod.ext s1 rfl, ?_⟩⟩
        obtain ⟨p1, p2⟩ := h2.puts h11 s6 s7 (hs e3) k4
        have n0 := (c_hs_nq s8) x (by show x < S.2.2.1; omega) hn3.1
        have n1 := (c_hs_nq s8) (x + 1) (by show x + 1 < S.2.2.1; omega) hn3.2.1
        have n2 := (c_hs_nq s8) (x + 2) (by show x + 2 < S.2.2.1; omega) hn3.2.2
        have p3 := p1.rows hx ⟨n0, n1, n2⟩ (m := n + 1) (fk' := c_ins fk n (c_plc fk l n 0) l) (fp' := c_ins fp n (c_plc fk l n 0) (some b))
        rw [← k3] at p2 p3 ⊢
        exact ⟨p3.1, p3.2, fun _ => p2, fun q => absurd e3 q, Nat.le_trans hxk (c_hs_kk s8)⟩
      · have eE : m_e3 (X, u) t (m_letters M).2 n = X := if_neg fg
        rw [eE] at hNr ⊢
        exact ⟨fun _ => ⟨(G (I', S.2)).2, r1, Or.inr ⟨hun, Prod.ext (r3 fg) rfl⟩⟩, fun q => absurd q fg⟩
    · have hx := hpd.1.tr ksc.rg
      obtain ⟨q1, q2⟩ := h_ft k1 hx hNr ((hGk _).tr m_e3_kf) fe
      exact ⟨fun _ => ⟨(I', S.2), q1, Or.inl ⟨h_rd.ft (S := (I', S.2)) k1 fe, rfl⟩⟩, fun q => absurd q q2⟩
  · have eK : r_key sort S.1 fk n = (S.1, ab_ii 0) := if_neg e3
    have eP : ∀ l, r_pp sort l fk n = n := fun l => if_neg e3
    have eN : m_item G' sort.toInt M t n = m_adds (G' M).1 t (ab_ii 0) (G' M).2 n := if_neg e3
    rw [eK]
    rw [eP]
    rw [eN] at hNr ⊢
    dsimp only
    have hun : ¬ 0 ≤ (S.1 1 3).toInt := hrd.un hf
    obtain ⟨r1, r2, r3, r4⟩ := h.go hG hGr
    generalize G' M = R at *
    obtain ⟨X, u⟩ := R
    dsimp only at *
    have e102 : m_adds X t (ab_ii 0) u n 102 = X 102 := m_adds_102
    have e120 : m_adds X t (ab_ii 0) u n 120 = X 120 := by unfold m_adds; rw [wd_up_row _ _ _ (by decide), wd_up_row _ _ _ (by decide), wd_up_row _ _ _ (by decide)]
    by_cases fg : (X 102 24).toInt = -1
    · obtain ⟨T', F', b, s1, h2, s6, s7, s8⟩ := r4 fg
      refine ⟨fun q => absurd (by rw [e102]; exact fg) q, fun _ => ⟨hun, T', F', b, (G (S.1, S.2)).2, Prod.ext s1 rfl, ?_⟩⟩
      have hfk : ∀ j, j < n → c_ins fk n n (ab_ii 0) j = fk j := fun j hj => c_ins_lt hj
      have p1 := h2.adds h11 s6 s7 (fk' := c_ins fk n n (ab_ii 0)) (fp' := c_ins fp n n (some b)) hfk c_ins_at (fun j hj => c_ins_lt hj) c_ins_at
      have n0 := (c_hs_nq s8) x (by show x < S.2.2.1; omega) hn3.1
      have n1 := (c_hs_nq s8) (x + 1) (by show x + 1 < S.2.2.1; omega) hn3.2.1
      have n2 := (c_hs_nq s8) (x + 2) (by show x + 2 < S.2.2.1; omega) hn3.2.2
      have p3 := p1.rows hx ⟨n0, n1, n2⟩ (m := n + 1) (fk' := c_ins fk n n (ab_ii 0)) (fp' := c_ins fp n n (some b))
      refine ⟨p3.1, p3.2, fun q => absurd q e3, fun _ j hj => ?_, Nat.le_trans hxk (c_hs_kk s8)⟩
      by_cases e : j = n
      · subst e; exact c_ins_at
      · rw [hfk j (by omega)]; exact hz e3 j (by omega)
    · exact ⟨fun _ => ⟨(G (S.1, S.2)).2, r1.cg (fun j _ => by rw [e102]) e120, Or.inr ⟨hun, Prod.ext (r3 fg) rfl⟩⟩, fun q => absurd (by rw [e102] at q; exact q) fg⟩
theorem h_rgf {close : Int32} {s : Nat} (hcl : 0 ≤ close.toInt) (hp0 : m_rp M0) (h : m_pd M0 N t s) (h12 : s ≤ 12) (h0 : 0 ≤ t.toInt) (ht : (M0 102 8).toInt ≤ t.toInt) : m_rg M0 (m_one N close close).1 ∧ m_rg M0 (m_ends (m_one N close close).1 t (m_sz (m_one N close close).1 t)) := by
  have h1 := m_pd_rg h h12 h0 (m_one_sc (lo := close) (hi := close) (h.1.rp hp0).1 hcl).1.rg
  refine ⟨h1.1, ?_⟩
  rw [m_pd_sz h1]
  exact (m_pd_ends hp0 h1 h0 ht).1
theorem h_mnl (hG : h_G G G' hb) (hGr : m_rG G') (hGk : ∀ M, m_kf M (G' M).1) (hb0 : 0 ≤ hb ∧ hb ≤ 12) {close : Int32} (hcl : close.toInt = 93 ∨ close.toInt = 125) (hx : S0.2.2.1 ≤ x) : ∀ (r n f : Nat) (fk : Nat → Int32) (fp : Nat → Option Nat) (F : Nat → Int32 → Prop) (T : Nat → Prop) (S : c_St) (M : wd_I), r + n = 12 → 1 ≤ r → r ≤ f → h_at F0 T0 S0 M0 t sort (ab_ii 0) hb F T S M n fk fp → (sort.toInt = 3 → h_so fk n) → (¬ sort.toInt = 3 → ∀ j, j < n → fk j = ab_ii 0) → c_nq3 T S.2.1 x → x + 3 ≤ S.2.2.1 → h_res F0 T0 S0 M0 (r_mnl G sort close x r n fk fp S) (m_ends (m_one (m_itl G' sort.toInt t f (m_item G' sort.toInt M t n)) close close).1 t (m_sz (m_one (m_itl G' sort.toInt t f (m_item G' sort.toInt M t n)) close close).1 t), t) (hb + 1)
  | 0, n, f, fk, fp, F, T, S, M, hr, h1, hf, h, hs, hz, hn3, hxk => by omega
  | r + 1, n, 0, fk, fp, F, T, S, M, hr, h1, hf, h, hs, hz, hn3, hxk => by omega
  | r + 1, n, f + 1, fk, fp, F, T, S, M, hr, h1, hf, h, hs, hz, hn3, hxk => by
    obtain ⟨a1, a2, a3, a4, a5⟩ := h.1
    have hc0 : 0 ≤ close.toInt := by omega
    obtain ⟨s', p1, p2⟩ := m_pd_item hGr (mp := sort.toInt) a1 h.2.1 a3 a2 (by omega)
    obtain ⟨i1, i2⟩ := h_item h (by omega) hG hGr hGk hs hz hx hn3 hxk p1.1
    have hitl := fun f => m_pd_itl hGr (mp := sort.toInt) a1 a3 a2 f _ s' p1 (by omega)
    unfold r_mnl
    by_cases fN : (m_item G' sort.toInt M t n 102 24).toInt = -1
    · obtain ⟨u1, T', F', b, S2, u2, u3, u4, u5, u6, u7⟩ := i2 fN
      rw [if_neg u1, u2]
      dsimp only
      have hsz : m_sz (m_item G' sort.toInt M t n) t = n + 1 := m_pd_sz u3.2.1
      have hrd := u3.2.2.2.1.1
      change h_rd S2.1 _ at hrd
      have hnx := hrd.nx fN
      have ih := fun Q hQ1 hQ2 => h_mnl hG hGr hGk hb0 hcl hx r (n + 1) f (c_ins fk n (r_pp sort (r_key sort S.1 fk n).2 fk n) (r_key sort S.1 fk n).2) (c_ins fp n (r_pp sort (r_key sort S.1 fk n).2 fk n) (some b)) F' T' (t_step S2.1, (r_S3 x (r_pp sort (r_key sort S.1 fk n).2 fk n) n (r_key sort S.1 fk n).2 fk fp b S2).2) Q (by omega) hQ1 (by omega) hQ2 u5 u6 u4 u7
      generalize m_item G' sort.toInt M t n = N at *
      by_cases c1 : (t_next S2.1).toInt = close.toInt
      · rw [if_pos c1]
        have e1 : m_itl G' sort.toInt t (f + 1) N = N := by
          unfold m_itl
          rw [if_neg (fun q => by have := q.2.1; rw [← hnx] at this; omega)]
        rw [e1]
        have n1 := h_needs hrd (b := close) hc0
        have n2 := (m_one_sc (lo := close) (hi := close) hrd.2.2.1 hc0).1
        have e2 : t_needs S2.1 close = t_step S2.1 := by unfold t_needs; rw [if_pos c1]
        have e3 : ((m_one N close close).1 102 24).toInt = -1 := by
          unfold m_one
          rw [if_pos ⟨fN, by rw [← hnx]; omega, by rw [← hnx]; omega⟩]
          show (m_stp N 102 24).toInt = -1
          rw [show m_stp N 102 24 = N 102 24 from wd_up_ne _ _ (Or.inr (by decide))]
          exact fN
        rw [e2] at n1
        have h4 := u3.sc n1 n2 e3
        have hsz2 : m_sz (m_one N close close).1 t = n + 1 := m_pd_sz h4.2.1
        rw [hsz2]
        exact h4.tog hb0 u6
      · rw [if_neg c1]
        by_cases c2 : r = 0 ∨ ¬ (t_next S2.1).toInt = 44
        · rw [if_pos c2]
          have e1 : m_itl G' sort.toInt t (f + 1) N = N := by
            unfold m_itl
            rw [if_neg (fun q => by have q1 := q.2.1; have q2 := q.2.2; rw [← hnx] at q1; rw [hsz] at q2; omega)]
          rw [e1]
          obtain ⟨w1, w2⟩ := h_rgf (t := t) hc0 a1 u3.2.1 (by omega) a3 a2
          have e2 : (m_one N close close).1 = m_fails N (N 102 23) := by
            unfold m_one
            rw [if_neg (fun q => by have q1 := q.2; rw [← hnx] at q1; omega)]
          rw [e2] at w1 w2 ⊢
          have n1 := h_failat hrd
          refine h_res_no (J := (t_fail S2.1 (S2.1 1 2), (r_S3 x (r_pp sort (r_key sort S.1 fk n).2 fk n) n (r_key sort S.1 fk n).2 fk fp b S2).2)) n1 w1 w2 m_ends_kf ?_
          unfold m_fails
          rw [wd_up_self, if_pos fN]
          have := hrd.2.2.1.1
          omega
        · rw [if_neg c2]
          have c3 : (t_next S2.1).toInt = 44 := by
            by_cases q : (t_next S2.1).toInt = 44
            · exact q
            · exact absurd (Or.inr q) c2
          have c4 : 1 ≤ r := by
            by_cases q : r = 0
            · exact absurd (Or.inl q) c2
            · omega
          have e1 : m_itl G' sort.toInt t (f + 1) N = m_itl G' sort.toInt t f (m_item G' sort.toInt (m_stp N) t (n + 1)) := by
            show (if _ then _ else _) = _
            rw [if_pos ⟨fN, by rw [← hnx]; exact c3, by rw [hsz]; omega⟩, hsz]
          rw [e1]
          have hlt := (m_here_lt (M := N) (by rw [← hnx]; omega)).1
          have n1 := h_step hrd fN hlt
          have n2 := (m_stp_sc hrd.2.2.1 hlt).1
          have n3 : (m_stp N 102 24).toInt = -1 := by
            rw [show m_stp N 102 24 = N 102 24 from wd_up_ne _ _ (Or.inr (by decide))]
            exact fN
          exact ih (m_stp N) c4 (u3.sc n1 n2 n3)
    · obtain ⟨J, j1, j2⟩ := i1 fN
      obtain ⟨s2, q1, q2⟩ := hitl (f + 1)
      obtain ⟨w1, w2⟩ := h_rgf (t := t) hc0 a1 q1 q2 a3 a2
      rcases j2 with ⟨j2, j3⟩ | ⟨j2, j3⟩
      · rw [if_pos j2, ← j3]
        exact h_res_no j1 p1.1 w2 (((m_itl_kf _ _).tr m_one_kf).tr m_ends_kf) fN
      · rw [if_neg j2, j3]
        exact h_res_no j1 p1.1 w2 (((m_itl_kf _ _).tr m_one_kf).tr m_ends_kf) fN
end
