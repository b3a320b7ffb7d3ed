/-! ===== both objects: the tape scanned alike (own text) ===== -/
def h_tp (I M : wd_I) : Prop := I 1 1 = M 102 22 ∧ ∀ j : Nat, (j : Int) < (M 102 22).toInt → I 2 j = M 120 j
def h_rd (I M : wd_I) : Prop := h_tp I M ∧ t_tp I ∧ m_tp M ∧ I 1 3 = M 102 24 ∧ ((M 102 24).toInt = -1 ∧ I 1 2 = M 102 23 ∨ 0 ≤ (M 102 24).toInt)
/-! a fault stays -/
def t_kf (I J : wd_I) : Prop := 0 ≤ (I 1 3).toInt → J 1 3 = I 1 3
def m_kf (M N : wd_I) : Prop := ¬ (M 102 24).toInt = -1 → N 102 24 = M 102 24
theorem t_kf.tr {I J K : wd_I} (h : t_kf I J) (h' : t_kf J K) : t_kf I K := fun q => (h' (by rw [h q]; exact q)).trans (h q)
theorem m_kf.tr {M N K : wd_I} (h : m_kf M N) (h' : m_kf N K) : m_kf M K := fun q => (h' (by rw [h q]; exact q)).trans (h q)
theorem t_step_kf {I : wd_I} : t_kf I (t_step I) := fun _ => by
  unfold t_step
  split
  · exact wd_up_ne _ _ (Or.inr (by decide))
  · rfl
theorem t_fail_kf {I : wd_I} {p : Int32} : t_kf I (t_fail I p) := fun q => by
  unfold t_fail
  rw [if_neg (by omega)]
theorem t_needs_kf {I : wd_I} {b : Int32} : t_kf I (t_needs I b) := by
  unfold t_needs
  split
  · exact t_step_kf
  · exact t_fail_kf
theorem t_dgl_kf : ∀ (r : Nat) {I : wd_I} {n : Int32}, t_kf I (t_dgl r I n).1
  | 0, I, n => fun _ => rfl
  | r + 1, I, n => by
    unfold t_dgl
    split
    · exact t_step_kf.tr (t_dgl_kf r)
    · exact fun _ => rfl
theorem t_digits_kf {I : wd_I} {m : Nat} : t_kf I (t_digits I m).1 := by
  unfold t_digits
  split
  · exact t_dgl_kf m
  · exact t_fail_kf
theorem t_signed_kf {I : wd_I} : t_kf I (t_signed I).1 := by
  unfold t_signed
  split
  · exact t_step_kf.tr t_digits_kf
  · exact t_digits_kf
theorem t_ltl_kf : ∀ (r : Nat) {I : wd_I} {n : Int32}, t_kf I (t_ltl r I n).1
  | 0, I, n => fun _ => rfl
  | r + 1, I, n => by
    unfold t_ltl
    split
    · exact t_step_kf.tr (t_ltl_kf r)
    · exact fun _ => rfl
theorem t_letters_kf {I : wd_I} : t_kf I (t_letters I).1 := by
  unfold t_letters
  split
  · exact t_ltl_kf 3
  · exact t_fail_kf
theorem m_stp_kf {M : wd_I} : m_kf M (m_stp M) := fun _ => wd_up_ne _ _ (Or.inr (by decide))
theorem m_fails_kf {M : wd_I} {p : Int32} : m_kf M (m_fails M p) := fun q => by
  unfold m_fails
  rw [wd_up_self, if_neg q]
theorem m_one_kf {M : wd_I} {lo hi : Int32} : m_kf M (m_one M lo hi).1 := by
  unfold m_one
  split
  · exact m_stp_kf
  · exact m_fails_kf
theorem m_dgl_kf : ∀ (r : Nat) {M : wd_I} {n : Int32}, m_kf M (m_dgl r M n).1
  | 0, M, n => fun _ => rfl
  | r + 1, M, n => by
    unfold m_dgl
    split
    · exact m_stp_kf.tr (m_dgl_kf r)
    · exact fun _ => rfl
theorem m_digits_kf {M : wd_I} {m : Nat} : m_kf M (m_digits M m).1 := m_one_kf.tr (m_dgl_kf _)
theorem m_signed_kf {M : wd_I} : m_kf M (m_signed M).1 := by
  unfold m_signed
  split
  · exact m_stp_kf.tr m_digits_kf
  · exact m_digits_kf
theorem m_ltl_kf : ∀ (r : Nat) {M : wd_I} {n : Int32}, m_kf M (m_ltl r M n).1
  | 0, M, n => fun _ => rfl
  | r + 1, M, n => by
    unfold m_ltl
    split
    · exact m_stp_kf.tr (m_ltl_kf r)
    · exact fun _ => rfl
theorem m_letters_kf {M : wd_I} : m_kf M (m_letters M).1 := m_one_kf.tr (m_ltl_kf _)
section
variable {I J M N : wd_I}
theorem h_tp.fr (h : h_tp I M) (hI : ∀ j, I 1 1 = J 1 1 ∧ J 2 j = I 2 j) (hM : N 102 22 = M 102 22 ∧ N 120 = M 120) : h_tp J N := ⟨by rw [← (hI 0).1, hM.1]; exact h.1, fun j hj => by rw [(hI j).2, hM.2]; exact h.2 j (by rw [← hM.1]; exact hj)⟩
theorem h_rd.flt (h : h_rd I M) (hf : 0 ≤ (M 102 24).toInt) (a : r_tf I J) (b : t_kf I J) (c : N 102 22 = M 102 22 ∧ N 120 = M 120) (ct : m_tp N) (d : m_kf M N) : h_rd J N := by
  obtain ⟨h1, h2, h3, h4, -⟩ := h
  have e1 := b (by rw [h4]; exact hf)
  have e2 := d (by omega)
  exact ⟨h1.fr (fun j => ⟨(a.1 1 1 (by omega)).symm, a.1 2 j (by omega)⟩) c, a.2.1, ct, by rw [e1, e2]; exact h4, Or.inr (by rw [e2]; exact hf)⟩
theorem m_sc.h (h : m_sc M N) : N 102 22 = M 102 22 ∧ N 120 = M 120 := ⟨h.2.1 22 (by decide) (by decide), h.1 120 (by decide)⟩
theorem h_rd.nx (h : h_rd I M) (hf : (M 102 24).toInt = -1) : t_next I = m_here M := by
  obtain ⟨⟨h1, h2⟩, h3, h4, h5, h6⟩ := h
  have e : I 1 2 = M 102 23 := by
    rcases h6 with h6 | h6
    · exact h6.2
    · omega
  unfold t_next m_here
  rw [h1, e]
  split
  · next hc => exact h2 _ (by have := h4.1; omega)
  · rfl
theorem h_rd.at (h : h_rd I M) (hf : (M 102 24).toInt = -1) : I 1 2 = M 102 23 := by
  rcases h.2.2.2.2 with h6 | h6
  · exact h6.2
  · omega
theorem h_step (h : h_rd I M) (hf : (M 102 24).toInt = -1) (hp : (M 102 23).toInt < (M 102 22).toInt) : h_rd (t_step I) (m_stp M) := by
  have ha := h.at hf
  obtain ⟨h1, h2, h3, h4, h5⟩ := h
  have s1 := (t_step_tf h2).1
  have s2 := (m_stp_sc h3 hp).1
  refine ⟨h1.fr (fun j => ⟨(s1.1 1 1 (by omega)).symm, s1.1 2 j (by omega)⟩) s2.h, s1.2.1, s2.2.2.1, ?_, Or.inl ⟨?_, ?_⟩⟩
  · rw [s1.2.1.1 |> fun _ => show m_stp M 102 24 = M 102 24 from wd_up_ne _ _ (Or.inr (by decide))]
    unfold t_step
    rw [if_pos (by rw [ha, h1.1]; exact hp), wd_up_ne _ _ (Or.inr (by decide))]
    exact h4
  · rw [show m_stp M 102 24 = M 102 24 from wd_up_ne _ _ (Or.inr (by decide))]
    exact hf
  · unfold t_step m_stp
    rw [if_pos (by rw [ha, h1.1]; exact hp), wd_up_self, wd_up_self, ha]
theorem h_fail (h : h_rd I M) {p p' : Int32} (hp : (M 102 24).toInt = -1 → p = p' ∧ 0 ≤ p'.toInt) : h_rd (t_fail I p) (m_fails M p') := by
  have h0 := h
  obtain ⟨h1, h2, h3, h4, h5⟩ := h
  have s1 := (t_fail_tf (p := p) h2).1
  rcases h5 with ⟨hf, ha⟩ | hf
  · obtain ⟨rfl, hp0⟩ := hp hf
    have s2 := (m_fails_sc (p := p) h3 hp0).1
    have e1 : t_fail I p 1 3 = p := by unfold t_fail; rw [if_pos (by rw [h4]; omega), wd_up_self]
    have e2 : m_fails M p 102 24 = p := by unfold m_fails; rw [wd_up_self, if_pos hf]
    exact ⟨h1.fr (fun j => ⟨(s1.1 1 1 (by omega)).symm, s1.1 2 j (by omega)⟩) s2.h, s1.2.1, s2.2.2.1, by rw [e1, e2], Or.inr (by rw [e2]; exact hp0)⟩
  · exact h0.flt hf s1 t_fail_kf ⟨wd_up_ne _ _ (Or.inr (by decide)), wd_up_row _ _ _ (by decide)⟩ (m_fails_tp h3) m_fails_kf
theorem h_rd.f0 (h : h_rd I M) : (M 102 24).toInt = -1 ∨ 0 ≤ (M 102 24).toInt := by
  rcases h.2.2.2.2 with h6 | h6
  · exact Or.inl h6.1
  · exact Or.inr h6
theorem h_failat (h : h_rd I M) : h_rd (t_fail I (I 1 2)) (m_fails M (M 102 23)) := h_fail h (fun q => ⟨h.at q, h.2.2.1.1⟩)
theorem h_needs (h : h_rd I M) {b : Int32} (hb : 0 ≤ b.toInt) : h_rd (t_needs I b) (m_one M b b).1 := by
  rcases h.f0 with hf | hf
  · have hn := h.nx hf
    unfold t_needs m_one
    by_cases c : (m_here M).toInt = b.toInt
    · rw [hn, if_pos c, if_pos ⟨hf, by omega, by omega⟩]
      exact h_step h hf (m_here_lt (by omega)).1
    · rw [hn, if_neg c, if_neg (by omega)]
      exact h_failat h
  · exact h.flt hf (t_needs_tf h.2.1) t_needs_kf (m_one_sc h.2.2.1 hb).1.h (m_one_tp h.2.2.1 hb) m_one_kf
/-- one of a range -/
theorem h_one (h : h_rd I M) (hf : (M 102 24).toInt = -1) {lo hi : Int32} (hb : 0 ≤ lo.toInt) : (lo.toInt ≤ (t_next I).toInt ∧ (t_next I).toInt ≤ hi.toInt → m_one M lo hi = (m_stp M, t_next I) ∧ h_rd (t_step I) (m_stp M) ∧ (m_stp M 102 24).toInt = -1) ∧ (¬ (lo.toInt ≤ (t_next I).toInt ∧ (t_next I).toInt ≤ hi.toInt) → m_one M lo hi = (m_fails M (M 102 23), lo) ∧ h_rd (t_fail I (I 1 2)) (m_fails M (M 102 23)) ∧ ¬ (m_fails M (M 102 23) 102 24).toInt = -1) := by
  have hn := h.nx hf
  rw [hn]
  refine ⟨fun c => ?_, fun c => ?_⟩
  · refine ⟨by unfold m_one; rw [if_pos ⟨hf, c.1, c.2⟩], h_step h hf (m_here_lt (by omega)).1, ?_⟩
    rw [show m_stp M 102 24 = M 102 24 from wd_up_ne _ _ (Or.inr (by decide))]
    exact hf
  · refine ⟨by unfold m_one; rw [if_neg (fun q => c q.2)], h_failat h, ?_⟩
    unfold m_fails
    rw [wd_up_self, if_pos hf]
    have := h.2.2.1.1
    omega
theorem h_dgl : ∀ (r : Nat) {I M : wd_I} {n : Int32}, h_rd I M → (M 102 24).toInt = -1 → h_rd (t_dgl r I n).1 (m_dgl r M n).1 ∧ (m_dgl r M n).2 = (t_dgl r I n).2
  | 0, I, M, n, h, hf => ⟨h, rfl⟩
  | r + 1, I, M, n, h, hf => by
    have hn := h.nx hf
    unfold t_dgl m_dgl
    by_cases c : 48 ≤ (m_here M).toInt ∧ (m_here M).toInt ≤ 57
    · obtain ⟨hl, hv⟩ := m_here_lt (show 0 ≤ (m_here M).toInt by omega)
      rw [hn, if_pos c, if_pos ⟨hf, c.1, c.2⟩, ← hv, Int.mul_comm 10]
      exact h_dgl r (h_step h hf hl) (by rw [show m_stp M 102 24 = M 102 24 from wd_up_ne _ _ (Or.inr (by decide))]; exact hf)
    · rw [hn, if_neg c, if_neg (fun q => c q.2)]
      exact ⟨h, rfl⟩
theorem h_digits (h : h_rd I M) {m : Nat} (hm : 1 ≤ m) : h_rd (t_digits I m).1 (m_digits M m).1 ∧ (((m_digits M m).1 102 24).toInt = -1 → (m_digits M m).2 = (t_digits I m).2) := by
  obtain ⟨m, rfl⟩ : ∃ r, m = r + 1 := ⟨m - 1, by omega⟩
  rcases h.f0 with hf | hf
  · obtain ⟨h1, h2⟩ := h_one h hf (lo := ab_ii 48) (hi := ab_ii 57) (by decide)
    rw [show (ab_ii 48).toInt = 48 from rfl, show (ab_ii 57).toInt = 57 from rfl] at h1 h2
    unfold t_digits m_digits
    by_cases c : 48 ≤ (t_next I).toInt ∧ (t_next I).toInt ≤ 57
    · obtain ⟨e1, e2, e3⟩ := h1 c
      rw [if_pos c, e1]
      unfold t_dgl
      rw [if_pos c]
      have e : ab_ii ((ab_ii ((ab_ii ((ab_ii 0).toInt * 10)).toInt + (t_next I).toInt)).toInt - 48) = ab_ii ((t_next I).toInt - 48) := by
        rw [show (ab_ii 0).toInt = 0 from rfl, ab_tI (z := 0 * 10) (by omega) (by omega), ab_tI (by omega) (by omega)]
        congr 1
        omega
      rw [e]
      have := h_dgl m (n := ab_ii ((t_next I).toInt - 48)) e2 e3
      exact ⟨this.1, fun _ => this.2⟩
    · obtain ⟨e1, e2, e3⟩ := h2 c
      rw [if_neg c, e1]
      have e4 : m_dgl (m + 1 - 1) (m_fails M (M 102 23)) (ab_ii ((ab_ii 48).toInt - 48)) = (m_fails M (M 102 23), ab_ii ((ab_ii 48).toInt - 48)) := by
        cases m with
        | zero => rfl
        | succ m => show m_dgl (m + 1) _ _ = _; unfold m_dgl; rw [if_neg (fun q => e3 q.1)]
      dsimp only
      rw [e4]
      exact ⟨e2, fun q => absurd q e3⟩
  · have hk := m_digits_kf (m := m + 1) (show ¬ (M 102 24).toInt = -1 by omega)
    exact ⟨h.flt hf (t_digits_tf h.2.1 (by omega)).1 t_digits_kf (m_digits_sc h.2.2.1).1.h (m_digits_sc h.2.2.1).1.2.2.1 m_digits_kf, fun q => by rw [hk] at q; omega⟩
theorem h_signed (h : h_rd I M) : h_rd (t_signed I).1 (m_signed M).1 ∧ (((m_signed M).1 102 24).toInt = -1 → (m_signed M).2 = (t_signed I).2) := by
  rcases h.f0 with hf | hf
  · have hn := h.nx hf
    unfold t_signed m_signed
    by_cases c : (m_here M).toInt = 45
    · rw [hn, if_pos c, if_pos ⟨hf, c⟩]
      obtain ⟨e1, e2⟩ := h_digits (h_step h hf (m_here_lt (by omega)).1) (show 1 ≤ 6 by omega)
      exact ⟨e1, fun q => by rw [e2 q]⟩
    · rw [hn, if_neg c, if_neg (fun q => c q.2)]
      exact h_digits h (by omega)
  · have hk := m_signed_kf (M := M) (show ¬ (M 102 24).toInt = -1 by omega)
    exact ⟨h.flt hf (t_signed_tf h.2.1).1 t_signed_kf (m_signed_sc h.2.2.1).1.h (m_signed_sc h.2.2.1).1.2.2.1 m_signed_kf, fun q => by rw [hk] at q; omega⟩
theorem h_ltl : ∀ (r : Nat) {I M : wd_I} {n : Int32}, h_rd I M → (M 102 24).toInt = -1 → h_rd (t_ltl r I n).1 (m_ltl r M n).1 ∧ (m_ltl r M n).2 = (t_ltl r I n).2
  | 0, I, M, n, h, hf => ⟨h, rfl⟩
  | r + 1, I, M, n, h, hf => by
    have hn := h.nx hf
    unfold t_ltl m_ltl
    by_cases c : 97 ≤ (m_here M).toInt ∧ (m_here M).toInt ≤ 122
    · obtain ⟨hl, hv⟩ := m_here_lt (show 0 ≤ (m_here M).toInt by omega)
      rw [hn, if_pos c, if_pos ⟨hf, c.1, c.2⟩, ← hv, Int.mul_comm 27]
      exact h_ltl r (h_step h hf hl) (by rw [show m_stp M 102 24 = M 102 24 from wd_up_ne _ _ (Or.inr (by decide))]; exact hf)
    · rw [hn, if_neg c, if_neg (fun q => c q.2)]
      exact ⟨h, rfl⟩
theorem h_letters (h : h_rd I M) : h_rd (t_letters I).1 (m_letters M).1 ∧ (((m_letters M).1 102 24).toInt = -1 → (m_letters M).2 = (t_letters I).2) := by
  rcases h.f0 with hf | hf
  · obtain ⟨h1, h2⟩ := h_one h hf (lo := ab_ii 97) (hi := ab_ii 122) (by decide)
    rw [show (ab_ii 97).toInt = 97 from rfl, show (ab_ii 122).toInt = 122 from rfl] at h1 h2
    unfold t_letters m_letters
    by_cases c : 97 ≤ (t_next I).toInt ∧ (t_next I).toInt ≤ 122
    · obtain ⟨e1, e2, e3⟩ := h1 c
      rw [if_pos c, e1]
      unfold t_ltl
      rw [if_pos c]
      have e : ab_ii ((ab_ii ((ab_ii ((ab_ii ((ab_ii 0).toInt * 27)).toInt + (t_next I).toInt)).toInt - 97)).toInt + 1) = ab_ii ((ab_ii ((t_next I).toInt - 97)).toInt + 1) := by
        rw [show (ab_ii 0).toInt = 0 from rfl, ab_tI (z := 0 * 27) (by omega) (by omega), ab_tI (z := 0 * 27 + (t_next I).toInt) (by omega) (by omega), ab_tI (by omega) (by omega), ab_tI (by omega) (by omega)]
        congr 1
        omega
      rw [e]
      have := h_ltl 2 (n := ab_ii ((ab_ii ((t_next I).toInt - 97)).toInt + 1)) e2 e3
      exact ⟨this.1, fun _ => this.2⟩
    · obtain ⟨e1, e2, e3⟩ := h2 c
      rw [if_neg c, e1]
      dsimp only
      unfold m_ltl
      rw [if_neg (fun q => e3 q.1)]
      exact ⟨e2, fun q => absurd q e3⟩
  · have hk := m_letters_kf (M := M) (show ¬ (M 102 24).toInt = -1 by omega)
    exact ⟨h.flt hf (t_letters_tf h.2.1) t_letters_kf (m_letters_sc h.2.2.1).h (m_letters_sc h.2.2.1).2.2.1 m_letters_kf, fun q => by rw [hk] at q; omega⟩
end
