/-! ===== OVER on both sides: over all that is in a thing (own text) ===== -/
theorem o_part {M0 N : wd_I} {n0 : Int} {q t i j : Nat} (h : m_fr n0 M0 N) (ht : (t : Int) < n0) (hj : j < 12) : m_part N q t i j ↔ m_part M0 q t i j := by
  have r := h.1.ra ht
  unfold m_part
  rw [h.2.1 113 (by decide), h.2.1 114 (by decide), r.1, r.2.1, (r.2.2.2.2.2 j hj).2]
theorem o_self {M0 N : wd_I} {n0 : Int} {q t i : Nat} (h : m_fr n0 M0 N) (ht : (t : Int) < n0) : m_self N q t i ↔ m_self M0 q t i := by
  have r := h.1.ra ht
  unfold m_self
  rw [h.2.1 113 (by decide), h.2.1 114 (by decide), r.1, r.2.1, r.2.2.2.1]
theorem o_nxt {M0 N : wd_I} {n0 : Int} {q i : Nat} (h : m_fr n0 M0 N) : m_nxt N q i = m_nxt M0 q i := by
  unfold m_nxt
  rw [h.2.1 113 (by decide)]
theorem o_op {M0 N : wd_I} {n0 : Int} (h : m_op n0 M0) (hf : m_fr n0 M0 N) (hr : m_rm N) (h8 : n0 ≤ (N 102 8).toInt) : m_op n0 N := by
  obtain ⟨a1, a2, a3, a4, a5, a6⟩ := h
  refine ⟨m_cl_sb hf.1 a1, a2, h8, hr, ?_, ?_⟩
  · rw [hf.2.2 33 (by decide) (by decide) (by decide) (by decide)]; exact a5
  · rw [hf.2.2 33 (by decide) (by decide) (by decide) (by decide), hf.2.2 34 (by decide) (by decide) (by decide) (by decide), hf.2.1 110 (by decide)]; exact a6
theorem o_ovs_eq {G : wd_I → Int32 → wd_I × Int32} {p i s j : Nat} {t y : Int32} {r : wd_I × Int32} (he : m_part r.1 p t.toInt.toNat i j) (hy : r.1 108 (12 * t.toInt.toNat + j) = y) : m_ovs G p i s t j r = if (G r.1 y).2.toInt = y.toInt then ((G r.1 y).1, r.2) else if r.2.toInt = -1 then m_cani (G r.1 y).1 (wd_up (m_copyOf (m_mk (G r.1 y).1) t s) 108 (12 * ((G r.1 y).1 102 8).toInt.toNat + j) (G r.1 y).2, (G r.1 y).1 102 8) (m_nomk (G r.1 y).1, r.2) else (wd_up (G r.1 y).1 108 (12 * r.2.toInt.toNat + j) (G r.1 y).2, r.2) := by
  subst hy
  unfold m_ovs
  rw [if_pos he]
theorem o_fin36 {s : Nat} {t : Int32} {r : wd_I × Int32} : (m_fin s t r).1 102 = r.1 102 := by
  unfold m_fin
  split
  · rfl
  · show m_ends r.1 r.2 s 102 = _
    rw [m_ends_row (by decide) (by decide)]
/-- a row of the reference that is not ended yet; its parts in the class -/
def o_pd (M0 : wd_I) (k0 : Nat) (n1 : Int) (t : Int32) (s : Nat) (F : Nat → Int32 → Prop) (T : Nat → Prop) (S : c_St) (N : wd_I) (an : Int32) (r : Nat) (fq : Nat → Option Nat) : Prop :=
  (n1 ≤ an.toInt ∧ 0 ≤ an.toInt ∧ an.toInt < (N 102 8).toInt) ∧ (∀ b, ¬ F b an) ∧ (k0 ≤ r ∧ wd_mut r = false ∧ r < S.2.2.1) ∧ S.2.1 r = ab_ra 4 s fq ∧ c_nq T S.2.1 r ∧ (N 103 an.toInt.toNat = M0 103 t.toInt.toNat ∧ N 104 an.toInt.toNat = M0 104 t.toInt.toNat ∧ (N 105 an.toInt.toNat).toInt = (s : Int)) ∧ ∀ j, j < s → ∃ b, fq j = some b ∧ F b (N 108 (12 * an.toInt.toNat + j)) ∧ N 109 (12 * an.toInt.toNat + j) = M0 109 (12 * t.toInt.toNat + j)
section
variable {F0 F F1 Fs : Nat → Int32 → Prop} {M0 M Ms N N1 : wd_I} {n0 n1 : Int} {p q gv u u' s i k0 : Nat} {T T1 Ts : Nat → Prop} {S S1 Ss : c_St} {t an : Int32}
theorem o_pd.mv {r : Nat} {fq : Nat → Option Nat} (h : o_pd M0 k0 n1 t s F T S N an r fq) (h12 : s ≤ 12) (hst : c_st T S T1 S1) (hfr : m_fr (N 102 8).toInt N N1) (h8 : (N 102 8).toInt ≤ (N1 102 8).toInt) (hF : ∀ b t, F b t → F1 b t) (hF1 : ∀ b t, F1 b t → F b t ∨ (N 102 8).toInt ≤ t.toInt) : o_pd M0 k0 n1 t s F1 T1 S1 N1 an r fq := by
  obtain ⟨⟨a1, a2, a3⟩, b, ⟨c1, c2, c3⟩, d, e, ⟨f1, f2, f3⟩, g⟩ := h
  have hk := hst.kk
  obtain ⟨r3, r4, r5, r6, r7, r8⟩ := hfr.1.ra (q := an.toInt.toNat) (by omega)
  refine ⟨⟨a1, a2, by omega⟩, fun x hx => ?_, ⟨c1, c2, by omega⟩, (hst.ofr r c3 c2).trans d, hst.nq r c3 e, ⟨r3.trans f1, r4.trans f2, by rw [r5]; exact f3⟩, fun j hj => ?_⟩
  · rcases hF1 x an hx with q | q
    · exact b x q
    · omega
  · obtain ⟨x, x1, x2, x3⟩ := g j hj
    obtain ⟨r81, r82⟩ := r8 j (by omega)
    exact ⟨x, x1, by rw [r81]; exact hF _ _ x2, by rw [r82]; exact x3⟩
/-- a part of a row put, on both sides -/
theorem o_in.upd {I : wd_I} {g : Nat → ab_C} {k z : Nat} (h : o_in F0 M0 n0 p q gv u' F T (I, g, k, z) N) (hs0 : o_in F0 M0 n0 p q gv u Fs Ts Ss Ms) (hst : c_st Ts Ss T (I, g, k, z)) (h0 : 0 ≤ n0) {r : Nat} {c : ab_C} (hr : Ss.2.2.1 ≤ r) (hn : c_nq T g r) (han : n0 ≤ an.toInt) (hnt : ∀ b, ¬ F b an) {j : Nat} {x : Int32} (hj : j < 12) : o_in F0 M0 n0 p q gv u' F T (I, ab_up g r c, k, z) (wd_up N 108 (12 * an.toInt.toNat + j) x) := by
  obtain ⟨⟨⟨w1, w2, w3, w4⟩, a2, a3, a4⟩, ⟨b1, b2, b3⟩, ⟨d1, d2⟩, e1, e2, e3, e4, e5, e6⟩ := id h
  obtain ⟨⟨-, -, x3, x4⟩, -⟩ := hs0
  have hrow := c_st.row (c := c) hst hr hn
  obtain ⟨p1, p2, p3, p4⟩ := p_wf_xt x3 hrow.ofr hrow.kk
  have er : wd_up N 108 (12 * an.toInt.toNat + j) x 102 = N 102 := wd_up_row _ _ _ (by decide)
  have hsm : ∀ a, T a → h_sm g (ab_up g r c) a := fun a ha => h_sm_wf (c_wf_nq w1 ha hn)
  have hra : ∀ b u, F b u → m_ra N (wd_up N 108 (12 * an.toInt.toNat + j) x) u.toInt.toNat := fun b v hb => by
    have hv := d1.in hb
    have hne : v.toInt ≠ an.toInt := fun e => by
      have e2 : v = an := Int32.toInt_inj.mp e
      rw [e2] at hb
      exact hnt b hb
    exact ⟨by rw [wd_up_row _ _ _ (by decide)], by rw [wd_up_row _ _ _ (by decide)], by rw [wd_up_row _ _ _ (by decide)], by rw [wd_up_row _ _ _ (by decide)], by rw [wd_up_row _ _ _ (by decide)], fun j' hj' => ⟨wd_up_ne _ _ (Or.inr (by omega)), by rw [wd_up_row _ _ _ (by decide)]⟩⟩
  refine ⟨⟨⟨hrow.wf, w2, w3, w4⟩, a2.mv (fun _ e => e) hsm (fun _ _ _ => m_ra.rf) (Int.le_refl _), p1, o_pt x4 p2 p3 p4⟩, ⟨m_fr_up b1 (by unfold m_wr; omega), ?_, by rw [er]; exact b3⟩, ⟨d1.mv (fun _ e => e) hsm hra (by rw [er]; exact Int.le_refl _), d2⟩, e1, by rw [er]; exact e2, by rw [er]; exact e3, by rw [er]; exact e4, e5, e6⟩
  unfold m_rm
  rw [er]
  exact b2
/-- where the loop stands -/
def o_lp (F0 : Nat → Int32 → Prop) (M0 : wd_I) (n0 : Int) (p q gv u : Nat) (Fs : Nat → Int32 → Prop) (Ts : Nat → Prop) (Ss : c_St) (n1 : Int) (t : Int32) (s : Nat) (F : Nat → Int32 → Prop) (T : Nat → Prop) (S : c_St) (N : wd_I) (an : Int32) (o : Option (Nat × (Nat → Option Nat))) : Prop :=
  c_st Ts Ss T S ∧ ((∀ b t, Fs b t → F b t) ∧ ∀ b t, F b t → Fs b t ∨ n1 ≤ t.toInt) ∧ n1 ≤ (N 102 8).toInt ∧ ((o = none ∧ an.toInt = -1 ∧ o_in F0 M0 n0 p q gv u F T S N) ∨ ∃ r fq, o = some (r, fq) ∧ o_in F0 M0 n0 p q gv (u + 1) F T S N ∧ o_pd M0 Ss.2.2.1 n1 t s F T S N an r fq)
/-- behind a part that is another thing, or the same -/
theorem o_lp.go {o : Option (Nat × (Nat → Option Nat))} (h12 : s ≤ 12) (h : o_lp F0 M0 n0 p q gv u Fs Ts Ss n1 t s F T S N an o) (hst : c_st T S T1 S1) (hfr : m_fr (N 102 8).toInt N N1) (h8 : (N 102 8).toInt ≤ (N1 102 8).toInt) (hF : ∀ b t, F b t → F1 b t) (hF1 : ∀ b t, F1 b t → F b t ∨ (N 102 8).toInt ≤ t.toInt) (hin : o_in F0 M0 n0 p q gv (if o = none then u else u + 1) F1 T1 S1 N1) : o_lp F0 M0 n0 p q gv u Fs Ts Ss n1 t s F1 T1 S1 N1 an o := by
  obtain ⟨a, ⟨b1, b2⟩, c, d⟩ := h
  refine ⟨a.tr hst, ⟨fun b t e => hF b t (b1 b t e), fun b t e => ?_⟩, by omega, ?_⟩
  · rcases hF1 b t e with e | e
    · exact b2 b t e
    · exact Or.inr (by omega)
  · rcases d with ⟨d1, d2, d3⟩ | ⟨r, fq, d1, d2, d3⟩
    · subst d1
      rw [if_pos rfl] at hin
      exact Or.inl ⟨rfl, d2, hin⟩
    · subst d1
      rw [if_neg (by simp)] at hin
      exact Or.inr ⟨r, fq, rfl, hin, d3.mv h12 hst hfr h8 hF hF1⟩
end
section
variable {F0 Fs : Nat → Int32 → Prop} {M0 Ms : wd_I} {n0 : Int} {p q gv u s i a : Nat} {Ts : Nat → Prop} {Ss : c_St} {t : Int32} {Fc : Nat → c_St → Nat × c_St} {G : wd_I → Int32 → wd_I × Int32}
theorem o_loop (hop : m_op n0 M0) (hTt : m_T M0 n0) (hs0 : o_in F0 M0 n0 p q gv u Fs Ts Ss Ms) (ha : F0 a t) (hsz : (M0 105 t.toInt.toNat).toInt = (s : Int)) (hi : (i : Int) < (M0 115 q).toInt)
    (hG : ∀ u' F' T' S' M' j, o_in F0 M0 n0 p q gv u' F' T' S' M' → j < s → o_res F0 M0 n0 p q gv u' F' T' S' M' (Fc (c_pt S'.2.1 a j) S') (G M' (M0 108 (12 * t.toInt.toNat + j))))
    (hGq : m_Gq n0 G) (hFm : ∀ b S, o_mo S (Fc b S).2) : ∀ (n j : Nat) (o : Option (Nat × (Nat → Option Nat))) (F : Nat → Int32 → Prop) (T : Nat → Prop) (S : c_St) (N : wd_I) (an : Int32), j + n = s → o_lp F0 M0 n0 p q gv u Fs Ts Ss (Ms 102 8).toInt t s F T S N an o → (((m_fin s t (m_ovl G q i s t n j (N, an))).1 102 36).toInt = 0 → ((m_fin s t (m_ovl G q i s t n j (N, an))).1 107 (m_fin s t (m_ovl G q i s t n j (N, an))).2.toInt.toNat).toInt ≤ 1000) → o_res F0 M0 n0 p q gv u Fs Ts Ss Ms (c_chl Fc p i a n j o S) (m_fin s t (m_ovl G q i s t n j (N, an)))
  | 0, j, o, F, T, S, N, an, hj, hlp, hB => by
    have hn1 : 0 ≤ (Ms 102 8).toInt := hs0.2.1.2.1.1
    have hle := hs0.2.1.2.2
    obtain ⟨c1, ⟨c2, c3⟩, c4, c5⟩ := hlp
    rcases c5 with ⟨rfl, d2, d3⟩ | ⟨r, fq, rfl, d2, d3⟩
    · have e : m_fin s t (m_ovl G q i s t 0 j (N, an)) = (N, t) := by
        show m_fin s t (N, an) = (N, t)
        unfold m_fin
        rw [if_pos d2]
      rw [e]
      exact ⟨fun _ => ⟨F, T, c1, d3, c2, c3, d3.2.2.1.2 a t ha⟩, fun q => absurd d3.2.2.2.2.1 q⟩
    · obtain ⟨I, g, k, z⟩ := S
      obtain ⟨⟨a1, a2, a3⟩, b, ⟨r1, r2, r3⟩, d, e, ⟨f1, f2, f3⟩, g5⟩ := d3
      obtain ⟨⟨hTa, ht0, ht1⟩, p0, p1, p2, p3, p4, p5⟩ := d2.1.2.1.1.1 a t ha
      have h12 := (d2.1.2.1.2 a t ha).1
      change c_sz g a ≤ 12 at h12
      change (c_sz g a : Int) = (M0 105 t.toInt.toNat).toInt at p4
      have es : c_sz g a = s := by omega
      have eR : m_fin s t (m_ovl G q i s t 0 j (N, an)) = (m_ends N an s, an) := by
        show m_fin s t (N, an) = _
        unfold m_fin
        rw [if_neg (show ¬ an.toInt = -1 by omega)]
      rw [eR] at hB ⊢
      have e36 : (m_ends N an s 102 36).toInt = 0 := by rw [m_ends_row (by decide) (by decide)]; exact d2.2.2.2.2.1
      have hmk := o_mka (z' := z + 6) (r := r) (a := a) d2 c1 hTa r1 ⟨⟨r2, r3⟩, d⟩ (by omega) ⟨by omega, a2, a3⟩ b f3 (f1.trans p0.symm) (f2.trans p1.symm) (fun j hj => by
        obtain ⟨x, x1, x2, x3⟩ := g5 j hj
        exact ⟨x, x1, x2, x3.trans (p5 j (by show j < c_sz g a; omega)).1.symm⟩) (hB e36) (by rw [p0, p1]; exact (d2.1.2.1.2 a t ha).2.2.2)
      have hm : (I 9 0).toInt < 3000 := by
        have q1 := d2.2.2.2.2.2.2.1
        have q2 := d2.2.1.2.1.2.2
        change (I 9 0).toInt + ((u + 1 : Nat) : Int) = _ at q1
        omega
      have eC : c_chl Fc p i a 0 j (some (r, fq)) (I, g, k, z) = (k, (c_I1 I, c_mka g k a r s fq, k + 1, z + 6)) := by
        show c_mkA a r (c_sz g a) fq (I, g, k, z) = _
        unfold c_mkA
        dsimp only
        rw [if_pos (show (I 10 6).toInt = 0 from d2.2.2.2.1), if_pos hm, es]
      rw [eC]
      refine ⟨fun _ => ⟨_, _, hmk.2, hmk.1, fun b t e => Or.inl (c2 b t e), fun b t e => ?_, Or.inr ⟨rfl, rfl⟩⟩, fun e => absurd e36 e⟩
      rcases e with e | ⟨-, e⟩
      · exact c3 b t e
      · rw [e]
        exact Or.inr a1
  | n + 1, j, o, F, T, S, N, an, hj, hlp, hB => by
    have hn1 : 0 ≤ (Ms 102 8).toInt := hs0.2.1.2.1.1
    have hle := hs0.2.1.2.2
    obtain ⟨c1, ⟨c2, c3⟩, c4, c5⟩ := id hlp
    obtain ⟨u', hu', hin⟩ : ∃ u', u' = (if o = none then u else u + 1) ∧ o_in F0 M0 n0 p q gv u' F T S N := by
      rcases c5 with ⟨rfl, d2, d3⟩ | ⟨r, fq, rfl, d2, d3⟩
      · exact ⟨u, by rw [if_pos rfl], d3⟩
      · exact ⟨u + 1, by rw [if_neg (by simp)], d2⟩
    obtain ⟨⟨w1, h0k, hpw, hpt⟩, ⟨b1, b2, b3⟩, ⟨d1, d2⟩, e1, e2, e3, e4, e5, e6⟩ := id hin
    obtain ⟨⟨hTa, ht0, ht1⟩, pr⟩ := h0k.1.1 a t ha
    obtain ⟨p0, p1, p2, p3, p4, p5⟩ := id pr
    have h12 := (h0k.2 a t ha).1
    have es : c_sz S.2.1 a = s := by omega
    have hjs : j < c_sz S.2.1 a := by omega
    obtain ⟨hky, hFj⟩ := p5 j hjs
    have hin2 : i < p_n S.2.1 p := by have := hpt.1; omega
    have hent : p_ent S.2.1 p i a j ↔ m_part N q t.toInt.toNat i j := (h_ent hpt hin2 pr hjs).trans (o_part b1 (by omega) (by omega)).symm
    have e108 : N 108 (12 * t.toInt.toNat + j) = M0 108 (12 * t.toInt.toNat + j) := (b1.1.2 _ (by omega)).1
    have eL : ∀ r, m_ovl G q i s t (n + 1) j r = m_ovl G q i s t n (j + 1) (m_ovs G q i s t j r) := fun _ => rfl
    rw [eL] at hB ⊢
    by_cases he : m_part N q t.toInt.toNat i j
    · have eS : m_ovs G q i s t j (N, an) = if (G N (M0 108 (12 * t.toInt.toNat + j))).2.toInt = (M0 108 (12 * t.toInt.toNat + j)).toInt then ((G N (M0 108 (12 * t.toInt.toNat + j))).1, an) else if an.toInt = -1 then m_cani (G N (M0 108 (12 * t.toInt.toNat + j))).1 (wd_up (m_copyOf (m_mk (G N (M0 108 (12 * t.toInt.toNat + j))).1) t s) 108 (12 * ((G N (M0 108 (12 * t.toInt.toNat + j))).1 102 8).toInt.toNat + j) (G N (M0 108 (12 * t.toInt.toNat + j))).2, (G N (M0 108 (12 * t.toInt.toNat + j))).1 102 8) (m_nomk (G N (M0 108 (12 * t.toInt.toNat + j))).1, an) else (wd_up (G N (M0 108 (12 * t.toInt.toNat + j))).1 108 (12 * an.toInt.toNat + j) (G N (M0 108 (12 * t.toInt.toNat + j))).2, an) := o_ovs_eq (r := (N, an)) he e108
      have hR := hG u' F T S N j hin (by omega)
      have hxb := (h0k.1.1 _ _ hFj).1.2
      have hgood := hGq.2.1 N (M0 108 (12 * t.toInt.toNat + j)) (o_op hop b1 b2 b3) hxb.1 hxb.2
      have hmoR := hFm (c_pt S.2.1 a j) S hin.ns
      have eC : c_chl Fc p i a (n + 1) j o S = match o with
        | none => if (Fc (c_pt S.2.1 a j) S).1 = c_pt S.2.1 a j then c_chl Fc p i a n (j + 1) none (Fc (c_pt S.2.1 a j) S).2 else c_chl Fc p i a n (j + 1) (some ((Fc (c_pt S.2.1 a j) S).2.2.2.1, ab_up (c_row (c_ptr (Fc (c_pt S.2.1 a j) S).2.2.1 a) (c_sz (Fc (c_pt S.2.1 a j) S).2.2.1 a)) j (some (Fc (c_pt S.2.1 a j) S).1))) (c_arr (Fc (c_pt S.2.1 a j) S).2 (ab_up (c_row (c_ptr (Fc (c_pt S.2.1 a j) S).2.2.1 a) (c_sz (Fc (c_pt S.2.1 a j) S).2.2.1 a)) j (some (Fc (c_pt S.2.1 a j) S).1)) (c_sz (Fc (c_pt S.2.1 a j) S).2.2.1 a))
        | some (r, fq) => if (Fc (c_pt S.2.1 a j) S).1 = c_pt S.2.1 a j then c_chl Fc p i a n (j + 1) (some (r, fq)) (Fc (c_pt S.2.1 a j) S).2 else c_chl Fc p i a n (j + 1) (some (r, ab_up fq j (some (Fc (c_pt S.2.1 a j) S).1))) ((Fc (c_pt S.2.1 a j) S).2.1, ab_up (Fc (c_pt S.2.1 a j) S).2.2.1 r (ab_ra 4 (c_sz (Fc (c_pt S.2.1 a j) S).2.2.1 a) (ab_up fq j (some (Fc (c_pt S.2.1 a j) S).1))), (Fc (c_pt S.2.1 a j) S).2.2.2) := by
        cases o with
        | none =>
          show c_chl Fc p i a (n + 1) j none S = _
          conv => lhs; unfold c_chl
          rw [if_pos (hent.mpr he)]
        | some v =>
          obtain ⟨r, fq⟩ := v
          show c_chl Fc p i a (n + 1) j (some (r, fq)) S = _
          conv => lhs; unfold c_chl
          rw [if_pos (hent.mpr he)]
      rw [eS] at hB ⊢
      rw [eC]
      clear eS eC
      generalize Fc (c_pt S.2.1 a j) S = R at *
      generalize G N (M0 108 (12 * t.toInt.toNat + j)) = X at *
      obtain ⟨ca, I1, g1, k1, z1⟩ := R
      obtain ⟨N1, x⟩ := X
      dsimp only at *
      obtain ⟨gf, gr, g8, gx0, gx1⟩ := hgood
      change m_fr (N 102 8).toInt N N1 at gf
      change (N 102 8).toInt ≤ (N1 102 8).toInt at g8
      -- what the class counts from here on
      have hmono : ∀ (m j' : Nat) (o' : Option (Nat × (Nat → Option Nat))) (S' : c_St), S'.1 = I1 → o_mo (I1, g1, k1, z1) (c_chl Fc p i a m j' o' S').2 ∧ (¬ o' = none → o_m1 (I1, g1, k1, z1) (c_chl Fc p i a m j' o' S').2) := fun m j' o' S' e => by
        have h1 := o_chl (F := Fc) (p := p) (i := i) (a := a) hFm m j' o' S'
        have h2 : o_mo (I1, g1, k1, z1) S' := o_eq (by rw [e]) (by rw [e])
        exact ⟨h2.tr h1.1, fun e => o_m1.of h2 (h1.2 e)⟩
      have hcls : ∀ C : Nat × c_St, C = (match o with
        | none => if ca = c_pt S.2.1 a j then c_chl Fc p i a n (j + 1) none (I1, g1, k1, z1) else c_chl Fc p i a n (j + 1) (some (k1, ab_up (c_row (c_ptr g1 a) (c_sz g1 a)) j (some ca))) (c_arr (I1, g1, k1, z1) (ab_up (c_row (c_ptr g1 a) (c_sz g1 a)) j (some ca)) (c_sz g1 a))
        | some (r, fq) => if ca = c_pt S.2.1 a j then c_chl Fc p i a n (j + 1) (some (r, fq)) (I1, g1, k1, z1) else c_chl Fc p i a n (j + 1) (some (r, ab_up fq j (some ca))) (I1, ab_up g1 r (ab_ra 4 (c_sz g1 a) (ab_up fq j (some ca))), k1, z1)) → o_mo (I1, g1, k1, z1) C.2 ∧ (¬ o = none → o_m1 (I1, g1, k1, z1) C.2) := fun C e => by
        rw [e]
        cases o with
        | none =>
          dsimp only
          split
          · exact ⟨(hmono _ _ _ _ rfl).1, fun q => absurd rfl q⟩
          · exact ⟨(hmono _ _ _ _ rfl).1, fun q => absurd rfl q⟩
        | some v =>
          obtain ⟨r, fq⟩ := v
          dsimp only
          split
          · exact ⟨(hmono _ _ _ _ rfl).1, fun _ => (hmono _ _ _ _ rfl).2 (by simp)⟩
          · exact ⟨(hmono _ _ _ _ rfl).1, fun _ => (hmono _ _ _ _ rfl).2 (by simp)⟩
      by_cases hsp : (N1 102 36).toInt = 0
      · obtain ⟨F1, T1, q1, q2, q3, q4, q5⟩ := hR.1 hsp
        dsimp only at q1 q2 q5
        have hbj := q3 _ _ (d2 _ _ hFj)
        have heq : ca = c_pt S.2.1 a j ↔ x.toInt = (M0 108 (12 * t.toInt.toNat + j)).toInt := q2.2.2.1.1.1.eq q5 hbj
        have hlp1 := hlp.go (by omega) q1 gf g8 q3 q4 (by rw [← hu']; exact q2)
        by_cases ee : x.toInt = (M0 108 (12 * t.toInt.toNat + j)).toInt
        · rw [if_pos ee] at hB ⊢
          have := o_loop hop hTt hs0 ha hsz hi hG hGq hFm n (j + 1) o F1 T1 (I1, g1, k1, z1) N1 an (by omega) hlp1 hB
          cases o with
          | none =>
            dsimp only
            rw [if_pos (heq.mpr ee)]
            exact this
          | some v =>
            obtain ⟨r, fq⟩ := v
            dsimp only
            rw [if_pos (heq.mpr ee)]
            exact this
        · rw [if_neg ee] at hB ⊢
          obtain ⟨x1, ⟨x2, x3⟩, x4, x5⟩ := id hlp1
          have hW1 : c_W T1 g1 k1 := q2.1.1.1
          obtain ⟨s1, s2, s3, s4⟩ := h_sm_wf (c_wf_xt (w1.1 a hTa) q1.ofr q1.kk)
          change c_sz g1 a = c_sz S.2.1 a at s1
          change ∀ j, c_pt g1 a j = c_pt S.2.1 a j at s2
          have es1 : c_sz g1 a = s := by omega
          rcases x5 with ⟨rfl, y2, y3⟩ | ⟨r, fq, rfl, y2, y3⟩
          · rw [if_pos y2] at hB ⊢
            dsimp only
            rw [if_neg (fun e => ee (heq.mp e))]
            by_cases hcan : m_can N1
            · rw [m_cani_t hcan] at hB ⊢
              have z8 := m_mk_8 (M := N1)
              have hfc : m_fr (N1 102 8).toInt N1 (m_copyOf (m_mk N1) t s) := m_copyOf_fr (m_mk_fr m_fr.rf) (by rw [z8]; exact Int.le_refl _)
              have hfc2 : m_fr (N1 102 8).toInt N1 (wd_up (m_copyOf (m_mk N1) t s) 108 (12 * (N1 102 8).toInt.toNat + j) x) := m_fr_up hfc (by unfold m_wr; omega)
              obtain ⟨i1, i2, i3⟩ := y3.beg hop.2.1 hcan o_cp_s1 hfc2
              obtain ⟨i4, i5⟩ := i1.arr (f := ab_up (c_row (c_ptr g1 a) (c_sz g1 a)) j (some ca)) (n := c_sz g1 a)
              obtain ⟨cp1, -, ⟨cp5, cp3, cp4⟩, -⟩ := o_cp y3 hTt hop.2.1 ha hsz
              have hle1 := y3.2.1.2.2
              have hfrq := c_nq_fr (q := k1) hW1 (Nat.le_refl _)
              have hk1 : Ss.2.2.1 ≤ k1 := x1.kk
              refine o_loop hop hTt hs0 ha hsz hi hG hGq hFm n (j + 1) _ F1 T1 _ _ _ (by omega) ⟨x1.tr i5, ⟨x2, x3⟩, by omega, Or.inr ⟨_, _, rfl, i4, ⟨⟨x4, by omega, by omega⟩, fun b e => by have := (y3.2.2.1.1.in e).2.2; omega, ⟨hk1, wd_mut_new y3.1.1.2.1, Nat.lt_succ_self _⟩, ?_, c_nq_up hW1 hfrq hfrq, ⟨?_, ?_, ?_⟩, fun j' hj' => ?_⟩⟩⟩ hB
              · show ab_up g1 k1 _ k1 = _
                rw [ab_up_self, es1]
              · rw [wd_up_row _ _ _ (by decide)]; exact cp3
              · rw [wd_up_row _ _ _ (by decide)]; exact cp4
              · rw [wd_up_row _ _ _ (by decide), cp5]; exact hsz
              · obtain ⟨v1, v2, v3, v4, v5⟩ := cp1 j' hj'
                by_cases ej : j' = j
                · subst ej
                  exact ⟨ca, ab_up_self _ _ _, by rw [wd_up_self]; exact q5, by rw [wd_up_row _ _ _ (by decide)]; exact v3⟩
                · refine ⟨c_pt g1 a j', ?_, ?_, by rw [wd_up_row _ _ _ (by decide)]; exact v3⟩
                  · rw [ab_up_ne _ _ ej]
                    unfold c_row c_ptr
                    rw [if_pos (by omega)]
                  · rw [wd_up_ne _ _ (Or.inr (by omega)), v1]
                    exact y3.2.2.1.2 _ _ v4
            · rw [m_cani_f hcan]
              have hfs : ¬ ((m_nomk N1) 102 36).toInt = 0 := by rw [m_nomk_36]; decide
              rw [m_ovl_fl hGq n (j + 1) (m_nomk N1, an) hfs]
              refine ⟨fun e => ?_, fun _ => ?_⟩
              · rw [o_fin36] at e
                exact absurd e hfs
              · have hm1 := (hmono n (j + 1) (some (k1, ab_up (c_row (c_ptr g1 a) (c_sz g1 a)) j (some ca))) (c_arr (I1, g1, k1, z1) (ab_up (c_row (c_ptr g1 a) (c_sz g1 a)) j (some ca)) (c_sz g1 a)) rfl).2 (by simp) hmoR.1
                have v4 := y3.2.2.2.2.2.2.1
                change (I1 9 0).toInt + (u : Int) = (N1 102 9).toInt at v4
                unfold m_can at hcan
                rcases hm1 with e | e
                · exact Or.inl e
                · change (I1 9 0).toInt + 1 ≤ _ at e
                  exact Or.inr (by omega)
          · obtain ⟨⟨a1, a2, a3⟩, b, ⟨r1, r2, r3⟩, d, e, ⟨f1, f2, f3⟩, g5⟩ := id y3
            rw [if_neg (show ¬ an.toInt = -1 by omega)] at hB ⊢
            dsimp only
            rw [if_neg (fun e => ee (heq.mp e))]
            have hup := y2.upd hs0 x1 hop.2.1 (c := ab_ra 4 (c_sz g1 a) (ab_up fq j (some ca))) r1 e (by omega) b (j := j) (x := x) (by omega)
            have hrow := c_st.row (c := ab_ra 4 (c_sz g1 a) (ab_up fq j (some ca))) x1 r1 e
            have er : wd_up N1 108 (12 * an.toInt.toNat + j) x 102 = N1 102 := wd_up_row _ _ _ (by decide)
            refine o_loop hop hTt hs0 ha hsz hi hG hGq hFm n (j + 1) _ F1 T1 _ _ _ (by omega) ⟨hrow, ⟨x2, x3⟩, by rw [er]; exact x4, Or.inr ⟨_, _, rfl, hup, ⟨⟨a1, a2, by rw [er]; exact a3⟩, b, ⟨r1, r2, r3⟩, ?_, c_nq_up hW1 e e, ⟨?_, ?_, ?_⟩, fun j' hj' => ?_⟩⟩⟩ hB
            · show ab_up g1 r _ r = _
              rw [ab_up_self, es1]
            · rw [wd_up_row _ _ _ (by decide)]; exact f1
            · rw [wd_up_row _ _ _ (by decide)]; exact f2
            · rw [wd_up_row _ _ _ (by decide)]; exact f3
            · obtain ⟨v, v1, v2, v3⟩ := g5 j' hj'
              by_cases ej : j' = j
              · subst ej
                exact ⟨ca, ab_up_self _ _ _, by rw [wd_up_self]; exact q5, by rw [wd_up_row _ _ _ (by decide)]; exact v3⟩
              · exact ⟨v, (ab_up_ne _ _ ej).trans v1, by rw [wd_up_ne _ _ (Or.inr (by omega))]; exact v2, by rw [wd_up_row _ _ _ (by decide)]; exact v3⟩
      · -- the reference may make nothing more
        have hfs : ∀ r : wd_I × Int32, r = (if x.toInt = (M0 108 (12 * t.toInt.toNat + j)).toInt then (N1, an) else if an.toInt = -1 then m_cani N1 (wd_up (m_copyOf (m_mk N1) t s) 108 (12 * (N1 102 8).toInt.toNat + j) x, N1 102 8) (m_nomk N1, an) else (wd_up N1 108 (12 * an.toInt.toNat + j) x, an)) → ¬ (r.1 102 36).toInt = 0 := fun r e => by
          rw [e]
          split
          · exact hsp
          · split
            · rw [m_cani_f (fun hc => hsp hc.1)]
              show ¬ (m_nomk N1 102 36).toInt = 0
              rw [m_nomk_36]
              decide
            · show ¬ (wd_up N1 108 (12 * an.toInt.toNat + j) x 102 36).toInt = 0
              rw [wd_up_row _ _ _ (by decide)]
              exact hsp
        have hf := hfs _ rfl
        rw [m_ovl_fl hGq n (j + 1) _ hf]
        refine ⟨fun e => ?_, fun _ => ?_⟩
        · rw [o_fin36] at e
          exact absurd e hf
        · obtain ⟨hc1, hc2⟩ := hcls _ rfl
          obtain ⟨k1', k2', k3'⟩ := hc1 hmoR.1
          rcases hR.2 hsp with e | e
          · exact Or.inl (k3' e)
          · by_cases ho : o = none
            · rw [if_pos ho] at hu'
              change 3001 ≤ (I1 9 0).toInt + (u' : Int) at e
              change (I1 9 0).toInt ≤ _ at k2'
              exact Or.inr (by omega)
            · rw [if_neg ho] at hu'
              change 3001 ≤ (I1 9 0).toInt + (u' : Int) at e
              rcases hc2 ho hmoR.1 with e' | e'
              · exact Or.inl e'
              · change (I1 9 0).toInt + 1 ≤ _ at e'
                exact Or.inr (by omega)
    · have eS : m_ovs G q i s t j (N, an) = (N, an) := by
        unfold m_ovs
        rw [if_neg he]
      rw [eS] at hB ⊢
      have := o_loop hop hTt hs0 ha hsz hi hG hGq hFm n (j + 1) o F T S N an (by omega) hlp hB
      rcases c5 with ⟨rfl, -⟩ | ⟨r, fq, rfl, -⟩
      · unfold c_chl
        rw [if_neg (fun e => he (hent.mp e))]
        exact this
      · unfold c_chl
        rw [if_neg (fun e => he (hent.mp e))]
        exact this
end
