/-! ===== the class: a thing read, as a function (own text) ===== -/
abbrev r_O : Type := Option Nat × c_St
def r_two (a b : Nat) (S : c_St) : r_O := (some (S.2.2.1 + 1 + 1 + 1 + 1 + 1), (S.1, c_tog (c_pu S.2.1 S.2.2.1 c_k2 (c_p2 a b) 2) (S.2.2.1 + 1 + 1 + 1) 2 (c_tm (ab_ii 1) 2) (ab_ii 1) c_k2 (c_p2 a b), S.2.2.1 + 1 + 1 + 1 + 1 + 1 + 1, S.2.2.2 + 3 + 13 + 13 + 2 + c_tm (ab_ii 1) 2 + 6))
def r_numg (g : Nat → ab_C) (k : Nat) (v : Int32) : Nat → ab_C := ab_up (ab_up (ab_up g (k + 1) (ab_ia 0 0 (fun _ => 0))) (k + 1 + 1) (ab_ra 4 0 (fun _ => none))) k (c_num v (k + 1) (k + 1 + 1))
def r_num (S : c_St) : r_O := if 0 ≤ ((t_signed S.1).1 1 3).toInt then (none, ((t_signed S.1).1, S.2)) else (some S.2.2.1, ((t_signed S.1).1, r_numg S.2.1 S.2.2.1 (t_signed S.1).2, S.2.2.1 + 1 + 1 + 1, S.2.2.2 + 6))
def r_pair2 (a : Nat) (R : r_O) : r_O := match R with
  | (none, S) => (none, S)
  | (some b, S) => if 0 ≤ (t_needs S.1 (ab_ii 41) 1 3).toInt then (none, (t_needs S.1 (ab_ii 41), S.2)) else r_two a b (t_needs S.1 (ab_ii 41), S.2)
def r_pair1 (G : c_St → r_O) (R : r_O) : r_O := match R with
  | (none, S) => (none, S)
  | (some a, S) => if 0 ≤ (t_needs S.1 (ab_ii 44) 1 3).toInt then (none, (t_needs S.1 (ab_ii 44), S.2)) else r_pair2 a (G (t_needs S.1 (ab_ii 44), S.2))
def r_tag2 (v : Int32) (R : r_O) : r_O := match R with
  | (none, S) => (none, S)
  | (some b, S) => (some (S.2.2.1 + 1), (S.1, c_mkg (ab_up S.2.1 S.2.2.1 (ab_ra 4 1 (ab_up (fun _ => none) 0 (some b)))) (S.2.2.1 + 1) (ab_ii 4) v S.2.2.1 1 (ab_up (fun _ => none) 0 (some b)), S.2.2.1 + 1 + 2, S.2.2.2 + 1 + 6))
def r_tagg (G : c_St → r_O) (S : c_St) : r_O := if 0 ≤ ((t_digits S.1 1).1 1 3).toInt then (none, ((t_digits S.1 1).1, S.2)) else r_tag2 (t_digits S.1 1).2 (G ((t_digits S.1 1).1, S.2))
def r_tog (n : Nat) (kd : Int32) (fk : Nat → Int32) (fp : Nat → Option Nat) (S : c_St) : r_O := (some (S.2.2.1 + 1 + 1), (S.1, c_tog S.2.1 S.2.2.1 n (c_tm kd n) kd fk fp, S.2.2.1 + 1 + 1 + 1, S.2.2.2 + n + c_tm kd n + 6))
noncomputable def r_key (kd : Int32) (I : wd_I) (fk : Nat → Int32) (n : Nat) : wd_I × Int32 := if kd.toInt = 3 then r_nk I fk n else (I, ab_ii 0)
def r_pp (kd l : Int32) (fk : Nat → Int32) (n : Nat) : Nat := if kd.toInt = 3 then c_plc fk l n 0 else n
/-- the parts with one more -/
def r_S3 (x p n : Nat) (l : Int32) (fk : Nat → Int32) (fp : Nat → Option Nat) (b : Nat) (S : c_St) : c_St := (S.1, c_pu S.2.1 x (c_ins fk n p l) (c_ins fp n p (some b)) (n + 1), S.2.2)
noncomputable def r_mnl (G : c_St → r_O) (kd close : Int32) (x : Nat) : Nat → Nat → (Nat → Int32) → (Nat → Option Nat) → c_St → r_O
  | 0, _, _, _, S => (none, S)
  | r + 1, n, fk, fp, S => if 0 ≤ ((r_key kd S.1 fk n).1 1 3).toInt then (none, ((r_key kd S.1 fk n).1, S.2)) else
    match G ((r_key kd S.1 fk n).1, S.2) with
    | (none, S2) => (none, S2)
    | (some b, S2) => if (t_next S2.1).toInt = close.toInt then r_tog (n + 1) kd (c_ins fk n (r_pp kd (r_key kd S.1 fk n).2 fk n) (r_key kd S.1 fk n).2) (c_ins fp n (r_pp kd (r_key kd S.1 fk n).2 fk n) (some b)) (t_step S2.1, (r_S3 x (r_pp kd (r_key kd S.1 fk n).2 fk n) n (r_key kd S.1 fk n).2 fk fp b S2).2)
      else if r = 0 ∨ ¬ (t_next S2.1).toInt = 44 then (none, (t_fail S2.1 (S2.1 1 2), (r_S3 x (r_pp kd (r_key kd S.1 fk n).2 fk n) n (r_key kd S.1 fk n).2 fk fp b S2).2))
      else r_mnl G kd close x r (n + 1) (c_ins fk n (r_pp kd (r_key kd S.1 fk n).2 fk n) (r_key kd S.1 fk n).2) (c_ins fp n (r_pp kd (r_key kd S.1 fk n).2 fk n) (some b)) (t_step S2.1, (r_S3 x (r_pp kd (r_key kd S.1 fk n).2 fk n) n (r_key kd S.1 fk n).2 fk fp b S2).2)
/-- parts begun -/
def r_S0 (S : c_St) : c_St := (S.1, c_pu S.2.1 S.2.2.1 (fun _ => 0) (fun _ => none) 0, S.2.2.1 + 1 + 1 + 1, S.2.2.2 + 3 + 13 + 13)
noncomputable def r_many (G : c_St → r_O) (kd close : Int32) (S : c_St) : r_O := if (t_next S.1).toInt = close.toInt then r_tog 0 kd (fun _ => 0) (fun _ => none) (t_step S.1, (r_S0 S).2) else r_mnl G kd close S.2.2.1 12 0 (fun _ => 0) (fun _ => none) (r_S0 S)
noncomputable def r_rd1 (G : c_St → r_O) (S : c_St) : r_O :=
  if (t_next S.1).toInt = 40 then r_pair1 G (G (t_step S.1, S.2))
  else if (t_next S.1).toInt = 91 then r_many G (ab_ii 2) (ab_ii 93) (t_step S.1, S.2)
  else if (t_next S.1).toInt = 123 then r_many G (ab_ii 3) (ab_ii 125) (t_step S.1, S.2)
  else if (t_next S.1).toInt = 35 then r_tagg G (t_step S.1, S.2)
  else r_num S
noncomputable def r_rd : Nat → c_St → r_O
  | 0, S => (none, (t_fail S.1 (S.1 1 2), S.2))
  | f + 1, S => r_rd1 (r_rd f) S
/-! what the tape's scanning leaves -/
def t_lf (I : wd_I) : Int := (I 1 1).toInt - (I 1 2).toInt
def t_frm (I I' : wd_I) : Prop := ∀ a j, ¬ (a = 1 ∧ (j = 2 ∨ j = 3)) → I' a j = I a j
def r_tf (I I' : wd_I) : Prop := t_frm I I' ∧ t_tp I' ∧ t_lf I' ≤ t_lf I
theorem r_tf.rf {I : wd_I} (h : t_tp I) : r_tf I I := ⟨fun _ _ _ => rfl, h, Int.le_refl _⟩
theorem r_tf.tr {I I' I'' : wd_I} (h : r_tf I I') (h' : r_tf I' I'') : r_tf I I'' := ⟨fun a j q => (h'.1 a j q).trans (h.1 a j q), h'.2.1, Int.le_trans h'.2.2 h.2.2⟩
theorem t_step_tf {I : wd_I} (h : t_tp I) : r_tf I (t_step I) ∧ ((I 1 2).toInt < (I 1 1).toInt → t_lf (t_step I) + 1 = t_lf I) := by
  have ht := t_step_tp h
  obtain ⟨t1, t2, t3⟩ := h
  unfold r_tf t_frm t_lf
  unfold t_step at *
  by_cases hc : (I 1 2).toInt < (I 1 1).toInt
  · rw [if_pos hc] at *
    rw [wd_up_self, wd_up_ne _ _ (Or.inr (by decide)), ab_tI (by omega) (by omega)]
    exact ⟨⟨fun a j q => wd_up_ne _ _ (by omega), ht, by omega⟩, fun _ => by omega⟩
  · rw [if_neg hc] at *
    exact ⟨⟨fun _ _ _ => rfl, ht, Int.le_refl _⟩, fun q => absurd q hc⟩
theorem t_fail_tf {I : wd_I} {p : Int32} (h : t_tp I) : r_tf I (t_fail I p) ∧ t_lf (t_fail I p) = t_lf I ∧ (0 ≤ p.toInt → 0 ≤ (t_fail I p 1 3).toInt) := by
  have ht := t_fail_tp (p := p) h
  unfold r_tf t_frm t_lf
  unfold t_fail at *
  by_cases hc : (I 1 3).toInt < 0
  · rw [if_pos hc] at *
    rw [wd_up_self, wd_up_ne _ _ (Or.inr (by decide)), wd_up_ne _ _ (Or.inr (by decide))]
    exact ⟨⟨fun a j q => wd_up_ne _ _ (by omega), ht, Int.le_refl _⟩, rfl, fun q => q⟩
  · rw [if_neg hc] at *
    exact ⟨⟨fun _ _ _ => rfl, ht, Int.le_refl _⟩, rfl, fun _ => by omega⟩
theorem t_needs_tf {I : wd_I} {b : Int32} (h : t_tp I) : r_tf I (t_needs I b) := by
  unfold t_needs
  split
  · exact (t_step_tf h).1
  · exact (t_fail_tf h).1
theorem t_dgl_tf : ∀ (r : Nat) {I : wd_I} {n : Int32}, t_tp I → r_tf I (t_dgl r I n).1
  | 0, I, n, h => r_tf.rf h
  | r + 1, I, n, h => by
    unfold t_dgl
    split
    · exact (t_step_tf h).1.tr (t_dgl_tf r (t_step_tp h))
    · exact r_tf.rf h
theorem t_digits_tf {I : wd_I} {most : Nat} (h : t_tp I) (hm : 1 ≤ most) : r_tf I (t_digits I most).1 ∧ (((t_digits I most).1 1 3).toInt < 0 → t_lf (t_digits I most).1 + 1 ≤ t_lf I) := by
  unfold t_digits
  by_cases hd : 48 ≤ (t_next I).toInt ∧ (t_next I).toInt ≤ 57
  · rw [if_pos hd]
    obtain ⟨m, rfl⟩ : ∃ m, most = m + 1 := ⟨most - 1, by omega⟩
    unfold t_dgl
    rw [if_pos hd]
    obtain ⟨h1, h2⟩ := t_step_tf h
    have h3 := t_dgl_tf m (n := ab_ii ((ab_ii ((ab_ii ((ab_ii 0).toInt * 10)).toInt + (t_next I).toInt)).toInt - 48)) (t_step_tp h)
    refine ⟨h1.tr h3, fun _ => ?_⟩
    have h4 := h2 (t_next_lt (by omega))
    have h5 := h3.2.2
    omega
  · rw [if_neg hd]
    obtain ⟨h1, h2, h3⟩ := t_fail_tf (p := I 1 2) h
    exact ⟨h1, fun q => by have := h3 h.1; dsimp only at q; omega⟩
theorem t_signed_tf {I : wd_I} (h : t_tp I) : r_tf I (t_signed I).1 ∧ (((t_signed I).1 1 3).toInt < 0 → t_lf (t_signed I).1 + 1 ≤ t_lf I) := by
  unfold t_signed
  split
  · obtain ⟨h1, h2⟩ := t_step_tf h
    obtain ⟨h3, h4⟩ := t_digits_tf (t_step_tp h) (most := 6) (by omega)
    exact ⟨h1.tr h3, fun q => by have := h4 q; have := h1.2.2; dsimp only; omega⟩
  · exact t_digits_tf h (by omega)
theorem t_ltl_tf : ∀ (r : Nat) {I : wd_I} {n : Int32}, t_tp I → r_tf I (t_ltl r I n).1
  | 0, I, n, h => r_tf.rf h
  | r + 1, I, n, h => by
    unfold t_ltl
    split
    · exact (t_step_tf h).1.tr (t_ltl_tf r (t_step_tp h))
    · exact r_tf.rf h
theorem t_letters_tf {I : wd_I} (h : t_tp I) : r_tf I (t_letters I).1 := by
  unfold t_letters
  split
  · exact t_ltl_tf 3 h
  · exact (t_fail_tf h).1
theorem t_needs_fl {I : wd_I} {b : Int32} (h : 0 ≤ (I 1 3).toInt) : 0 ≤ (t_needs I b 1 3).toInt := by
  unfold t_needs
  split
  · unfold t_step
    split
    · rw [wd_up_ne _ _ (Or.inr (by decide))]; exact h
    · exact h
  · unfold t_fail
    rw [if_neg (by omega)]
    exact h
theorem r_nk_tf {I : wd_I} {fk : Nat → Int32} {n : Nat} (h : t_tp I) : r_tf I (r_nk I fk n).1 ∧ (c_has fk n (t_letters I).2 → 0 ≤ ((r_nk I fk n).1 1 3).toInt) ∧ (r_nk I fk n).2 = (t_letters I).2 := by
  have hl := t_letters_tf h
  unfold r_nk
  by_cases hc : c_has fk n (t_letters I).2
  · rw [if_pos hc]
    dsimp only
    obtain ⟨f1, f2, f3⟩ := t_fail_tf (p := I 1 2) hl.2.1
    refine ⟨(hl.tr f1).tr (t_needs_tf f1.2.1), fun _ => ?_, rfl⟩
    exact t_needs_fl (f3 h.1)
  · rw [if_neg hc]
    dsimp only
    exact ⟨hl.tr (t_needs_tf hl.2.1), fun q => absurd q hc, rfl⟩
theorem r_key_tf {kd : Int32} {I : wd_I} {fk : Nat → Int32} {n : Nat} (h : t_tp I) : r_tf I (r_key kd I fk n).1 := by
  unfold r_key
  split
  · exact (r_nk_tf h).1
  · exact r_tf.rf h
theorem r_pp_le {kd l : Int32} {fk : Nat → Int32} {n : Nat} : r_pp kd l fk n ≤ n := by
  unfold r_pp
  split
  · have := c_plc_le (fk := fk) (l := l) n 0; omega
  · exact Nat.le_refl _
