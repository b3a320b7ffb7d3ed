/-! ===== calls that only look: what they answer, what they leave (own text) ===== -/
/-- rows that only help to look may change -/
def k_qt (I : wd_I) (P : wd_P) (I' : wd_I) (P' : wd_P) : Prop := (∀ a j, (a = 0 ∨ a = 1 ∨ a = 9 ∨ 18 ≤ a) → I' a j = I a j) ∧ ∀ a j, (a = 8 ∨ 16 ≤ a) → P' a j = P a j
section
variable {d : Nat} {T : Nat → Prop} {I I' I'' : wd_I} {P P' P'' : wd_P} {M : wd_I} {g g' : Nat → ab_C} {k k' z n : Nat} {Q : ab_Q}
theorem k_qt.rf : k_qt I P I P := ⟨fun _ _ _ => rfl, fun _ _ _ => rfl⟩
theorem k_qt.tr (h : k_qt I P I' P') (h' : k_qt I' P' I'' P'') : k_qt I P I'' P'' := ⟨fun a j q => (h'.1 a j q).trans (h.1 a j q), fun a j q => (h'.2 a j q).trans (h.2 a j q)⟩
theorem k_qt.sh (h : k_qt I P I' P') (j : Nat) : P' (18 + 5 * j) 2 = P (18 + 5 * j) 2 := h.2 _ _ (by omega)
theorem k_qt.pa (h : k_qt I P I' P') (p : Nat) : P' 8 p = P 8 p := h.2 _ _ (by omega)
theorem k_ok.qt (h : k_ok T I P g k) (hq : k_qt I P I' P') : k_ok T I' P' g k := h.ix hq.1 hq.2
theorem f_fnd_qt {p a : Nat} : k_qt I P (f_fnd I P g p a).1 (f_fnd I P g p a).2 := ⟨fun x j _ => f_fnd_ne.1 x j (by omega), fun x j _ => f_fnd_ne.2 x j (by omega)⟩
def v_look (g : Nat → ab_C) (l : List Nat) (n : Nat) (w : Int) : Int64 := if n < l.length then c_look g (l.getD n 0) w else c_NO
def v_key (g : Nat → ab_C) (l : List Nat) (n : Nat) (i : Int) : Int32 := if n < l.length then c_key g (l.getD n 0) i else ab_ii (-1)
theorem q_look (hd : 50 ≤ d) (h : k_ok T I P g k) {s p n w : Int32} {a b sn pn n' : Nat} {w' : Int} (hs : c_sh s) (hsn : s.toInt.toNat = sn) (ha : P (18 + 5 * sn) 2 = some a) (hp : c_pp p) (hpn : p.toInt.toNat = pn) (hb : P 8 pn = some b) (hn : n.toInt = (n' : Int)) (hw : w.toInt = w') (hQ : ∀ I' P', k_qt I P I' P' → Q (some (.inr (.inl (v_look g (c_fs41 g b a) n' w')))) (wd I' P' M g, k, z)) : ab_CT d 112 [wd_v 0, .inl s, .inl p, .inl n, .inl w] (wd I P M g, k, z) Q := by
  subst hsn hpn hw
  obtain ⟨a', ha1, ha2⟩ := h.held hs
  cases ha1.symm.trans ha
  obtain ⟨b', hb1, hb2⟩ := h.pth hp
  cases hb1.symm.trans hb
  have h1 := hQ _ _ (f_fnd_qt (g := g) (p := b) (a := a))
  have e : n.toInt.toNat = n' := by omega
  refine y_look hd h.1 (fun q => absurd ⟨hs, hp⟩ q) (fun _ => ⟨ha, ha2⟩) (fun _ => ⟨hb, hb2⟩) (fun _ q => ?_) (fun _ q1 q2 => ?_)
  · unfold v_look at h1
    rw [if_neg (by omega)] at h1
    exact h1
  · unfold v_look at h1
    rw [if_pos (by omega)] at h1
    rw [e]
    exact h1
theorem q_key (hd : 50 ≤ d) (h : k_ok T I P g k) {s p n w : Int32} {a b sn pn n' : Nat} {w' : Int} (hs : c_sh s) (hsn : s.toInt.toNat = sn) (ha : P (18 + 5 * sn) 2 = some a) (hp : c_pp p) (hpn : p.toInt.toNat = pn) (hb : P 8 pn = some b) (hn : n.toInt = (n' : Int)) (hw : w.toInt = w') (hQ : ∀ I' P', k_qt I P I' P' → Q (some (.inl (v_key g (c_fs41 g b a) n' w'))) (wd I' P' M g, k, z)) : ab_CT d 113 [wd_v 0, .inl s, .inl p, .inl n, .inl w] (wd I P M g, k, z) Q := by
  subst hsn hpn hw
  obtain ⟨a', ha1, ha2⟩ := h.held hs
  cases ha1.symm.trans ha
  obtain ⟨b', hb1, hb2⟩ := h.pth hp
  cases hb1.symm.trans hb
  have h1 := hQ _ _ (f_fnd_qt (g := g) (p := b) (a := a))
  have e : n.toInt.toNat = n' := by omega
  refine y_key hd h.1 (fun q => absurd ⟨hs, hp⟩ q) (fun _ => ⟨ha, ha2⟩) (fun _ => ⟨hb, hb2⟩) (fun _ q => ?_) (fun _ q1 q2 => ?_)
  · unfold v_key at h1
    rw [if_neg (by omega)] at h1
    exact h1
  · unfold v_key at h1
    rw [if_pos (by omega)] at h1
    rw [e]
    exact h1
theorem q_fold (hd : 50 ≤ d) (h : k_ok T I P g k) {s p w : Int32} {a b sn pn : Nat} {w' : Int} (hs : c_sh s) (hsn : s.toInt.toNat = sn) (ha : P (18 + 5 * sn) 2 = some a) (hp : c_pp p) (hpn : p.toInt.toNat = pn) (hb : P 8 pn = some b) (hw : w.toInt = w') (hQ : ∀ I' P', k_qt I P I' P' → Q (some (.inr (.inl (c_fold g (c_fs41 g b a) w')))) (wd I' P' M g, k, z)) : ab_CT d 114 [wd_v 0, .inl s, .inl p, .inl w] (wd I P M g, k, z) Q := by
  subst hsn hpn hw
  obtain ⟨a', ha1, ha2⟩ := h.held hs
  cases ha1.symm.trans ha
  obtain ⟨b', hb1, hb2⟩ := h.pth hp
  cases hb1.symm.trans hb
  exact y_fold hd h.1 (fun q => absurd ⟨hs, hp⟩ q) (fun _ => ⟨ha, ha2⟩) (fun _ => ⟨hb, hb2⟩) (fun _ => hQ _ _ f_fnd_qt)
theorem q_best (hd : 50 ≤ d) (h : k_ok T I P g k) {s p o n : Int32} (hQ : ∀ (r : Int32) I' P', k_qt I P I' P' → Q (some (.inl r)) (wd I' P' M g, k, z)) : ab_CT d 115 [wd_v 0, .inl s, .inl p, .inl o, .inl n] (wd I P M g, k, z) Q := by
  obtain ⟨a, c, ha⟩ := k_oks h s
  obtain ⟨b, hb⟩ := k_okp h p
  exact y_best hd h.1 (fun _ => hQ _ _ _ .rf) (fun hs => (ha hs).1) hb (fun _ _ => hQ _ _ _ f_fnd_qt) (fun _ _ _ => hQ _ _ _ (f_fnd_qt.tr ⟨fun x j _ => c_srt_ne (by omega), fun _ _ _ => rfl⟩))
theorem q_order (hd : 46 ≤ d) (h : k_ok T I P g k) {s t : Int32} (hQ : ∀ r : Int32, Q (some (.inl r)) (wd I P M g, k, z)) : ab_CT d 116 [wd_v 0, .inl s, .inl t] (wd I P M g, k, z) Q := by
  obtain ⟨a, c, ha⟩ := k_oks h s
  obtain ⟨b, c2, hb⟩ := k_oks h t
  exact y_order2 hd h.1 (fun _ => hQ _) (fun q => (ha q).1) (fun q => (hb q).1) (fun _ _ => hQ _)
theorem q_shared (hd : 88 ≤ d) (h : k_ok T I P g k) {s t : Int32} (hQ : ∀ r : Int32, Q (some (.inl r)) (wd I P M g, k, z)) : ab_CT d 117 [wd_v 0, .inl s, .inl t] (wd I P M g, k, z) Q := by
  obtain ⟨a, c, ha⟩ := k_oks h s
  obtain ⟨b, c2, hb⟩ := k_oks h t
  exact y_shared hd h.1 (fun _ => hQ _) (fun q => (ha q).1) (fun q => (hb q).1) (fun _ _ => hQ _)
theorem q_differ (hd : 92 ≤ d) (h : k_ok T I P g k) {s t n : Int32} (hQ : ∀ (r : Int32) I' P', k_qt I P I' P' → Q (some (.inl r)) (wd I' P' M g, k, z)) : ab_CT d 118 [wd_v 0, .inl s, .inl t, .inl n] (wd I P M g, k, z) Q := by
  obtain ⟨a, c, ha⟩ := k_oks h s
  obtain ⟨b, c2, hb⟩ := k_oks h t
  exact y_differ hd h.1 (fun _ => hQ _ _ _ .rf) (fun q => (ha q).1) (fun q => (hb q).1) (fun _ _ => hQ _ _ _ ⟨fun x j _ => d_fnd_ne (by omega) (by omega), fun _ _ _ => rfl⟩)
theorem q_cnt_b (hd : 3 ≤ d) {w : Int32} (hw : w.toInt < 0 ∨ 21 < w.toInt) (hQ : Q (some (.inl (ab_ii (-2)))) (wd I P M g, k, z)) : ab_CT d 122 [wd_v 0, .inl w] (wd I P M g, k, z) Q := y_count hd (fun _ => hQ) (fun _ _ => by omega) (fun _ _ => by omega) (fun _ => by omega) (fun _ => by omega)
theorem q_cnt_21 (hd : 3 ≤ d) {w : Int32} (hw : w.toInt = 21) (hQ : Q (some (.inl (I 9 0))) (wd I P M g, k, z)) : ab_CT d 122 [wd_v 0, .inl w] (wd I P M g, k, z) Q := y_count hd (fun _ => by omega) (fun _ _ => by omega) (fun _ _ => by omega) (fun _ => by omega) (fun _ => hQ)
theorem q_cnt_s (hd : 3 ≤ d) {w : Int32} {j : Nat} (hw : w.toInt = (j : Int)) (hj : j < 12) (hQ : Q (some (.inl (I (18 + 5 * j) 1))) (wd I P M g, k, z)) : ab_CT d 122 [wd_v 0, .inl w] (wd I P M g, k, z) Q := by
  have e : w.toInt.toNat = j := by omega
  exact y_count hd (fun _ => by omega) (fun _ _ => by rw [e]; exact hQ) (fun _ _ => by omega) (fun _ => by omega) (fun _ => by omega)
theorem q_cnt_p (hd : 3 ≤ d) (h : k_ok T I P g k) {w : Int32} {j b : Nat} (hw : w.toInt = (j : Int) + 12) (hj : j < 8) (hb : P 8 j = some b) (hQ : Q (some (.inl (ab_ii (p_n g b : Int)))) (wd I P M g, k, z)) : ab_CT d 122 [wd_v 0, .inl w] (wd I P M g, k, z) Q := by
  have e : (w.toInt - 12).toNat = j := by omega
  obtain ⟨b', hb1, hb2⟩ := h.2.2.2.2.1 j hj
  cases hb1.symm.trans hb
  exact y_count hd (fun _ => by omega) (fun _ _ => by omega) (fun _ _ => ⟨b, by rw [e]; exact hb, hb2, hQ⟩) (fun _ => by omega) (fun _ => by omega)
/-! refused -/
theorem q_over_b (hd : 96 ≤ d) (h : k_ok T I P g k) (hr : k_rm (n + 1) I k z) {s f p how v : Int32} (hb : 11 < how.toInt) (hQ : Q (some (.inl (ab_ii (-2)))) (wd I P M g, k, z)) : ab_CT d 108 [wd_v 0, .inl s, .inl f, .inl p, .inl how, .inl v] (wd I P M g, k, z) Q := by
  have hno : ¬ c_isHow how v := fun q => by have := c_isHow_b q; omega
  obtain ⟨a0, c, hs⟩ := k_oks h s
  obtain ⟨a, c0, ha⟩ := k_oks h f
  obtain ⟨b, hb'⟩ := k_okp h p
  exact y_over hd h.1 h.2.1 h.2.2.1 hr.ro (o := none) (gv := 0) (fun _ => hQ) (fun q => (hs q).2) (fun q => (ha q).1) hb' (fun q _ => by omega) (fun _ => rfl) (fun q _ => absurd q.2.2.2 hno) (fun q _ _ => absurd q.2.2.2 hno) (fun q _ _ => absurd q.2.2.2 hno)
theorem q_put_b (hd : 10 ≤ d) (h : k_ok T I P g k) (hr : k_rm (n + 1) I k z) {s what a b v : Int32} (hb : 2 < what.toInt) (hQ : Q (some (.inl (ab_ii (-2)))) (wd I P M g, k, z)) : ab_CT d 109 [wd_v 0, .inl s, .inl what, .inl a, .inl b, .inl v] (wd I P M g, k, z) Q := by
  have hrb := hr.b h.2.2.1.2
  have hno : ¬ c_pt1 s what a b v := fun q => by unfold c_pt1 at q; omega
  obtain ⟨a0, c, hs⟩ := k_oks h s
  obtain ⟨x, c0, ha⟩ := k_oks h a
  obtain ⟨y, c1, hb'⟩ := k_oks h b
  exact y_put hd h.1 h.2.1 h.2.2.1 ⟨by omega, by omega⟩ (fun _ => hQ) (fun q => (hs q).2) (fun q => (ha q).1) (fun q => (hb' q).1) (fun q _ _ => absurd q hno) (fun q _ _ => absurd q hno) (fun q _ _ _ => absurd q hno) (fun q _ _ _ => absurd q hno)
theorem q_take_b (hd : 50 ≤ d) (h : k_ok T I P g k) {s f p n : Int32} (hb : 7 < p.toInt) (hQ : Q (some (.inl (ab_ii (-2)))) (wd I P M g, k, z)) : ab_CT d 110 [wd_v 0, .inl s, .inl f, .inl p, .inl n] (wd I P M g, k, z) Q := by
  have hno : ¬ c_pp p := fun q => by unfold c_pp at q; omega
  obtain ⟨a0, c, hs⟩ := k_oks h s
  obtain ⟨a, c0, ha⟩ := k_oks h f
  obtain ⟨b, hb'⟩ := k_okp h p
  exact y_take hd h.1 (fun _ => hQ) (fun q => (hs q).2) (fun q => (ha q).1) hb' (fun q _ => absurd q.2.2 hno) (fun q _ _ => absurd q.2.2 hno)
theorem q_undo_b (hd : 3 ≤ d) {s : Int32} (hb : s.toInt < 0) (hQ : Q (some (.inl (ab_ii (-2)))) (wd I P M g, k, z)) : ab_CT d 111 [wd_v 0, .inl s] (wd I P M g, k, z) Q := by
  have hno : ¬ c_sh s := fun q => by unfold c_sh at q; omega
  exact y_undo hd (c := 0) (fun _ => hQ) (fun q => absurd q hno) (by omega) (fun q => absurd q hno) (fun q => absurd q hno)
theorem q_undo_0 (hd : 3 ≤ d) {s : Int32} {j : Nat} (hs : s.toInt = (j : Int)) (hj : j < 12) (h0 : I (18 + 5 * j) 1 = ab_ii 0) (hQ : Q (some (.inl (ab_ii (-3)))) (wd I P M g, k, z)) : ab_CT d 111 [wd_v 0, .inl s] (wd I P M g, k, z) Q := by
  have e : s.toInt.toNat = j := by omega
  exact y_undo hd (c := 0) (fun q => absurd (show c_sh s by unfold c_sh; omega) q) (fun _ => by rw [e]; exact h0) (by omega) (fun _ _ => hQ) (fun _ c' hc => absurd hc (by omega))
theorem q_feed_b (hd : 3 ≤ d) (h : k_ok T I P g k) {a w : Int32} (hb : 4 < a.toInt) (hQ : Q (some (.inl (ab_ii (-2)))) (wd I P M g, k, z)) : ab_CT d 104 [wd_v 0, .inl a, .inl w] (wd I P M g, k, z) Q := by
  obtain ⟨n, h1, h2⟩ := h.2.2.2.2.2.1
  exact y_feed hd h1 h2 (fun _ => hQ) (fun _ _ => by omega) (fun _ _ => by omega)
end
/-! what is seen stays so, where old cells stay -/
section
variable {T : Nat → Prop} {g g' : Nat → ab_C} {k k' : Nat}
theorem e_ent {p i a j : Nat} (hv : ∀ j, c_i g' a j = c_i g a j) (hk : ∀ j, c_ky g' a j = c_ky g a j) (hs : c_sz g' a = c_sz g a) (h1 : ∀ i, p_sg g' p i = p_sg g p i) (h2 : ∀ i, p_wd g' p i = p_wd g p i) : p_ent g' p i a j = p_ent g p i a j := by
  unfold p_ent
  simp only [hv, hk, hs, h1, h2]
theorem e_keep {p i a : Nat} (hv : ∀ j, c_i g' a j = c_i g a j) (h1 : ∀ i, p_sg g' p i = p_sg g p i) (h2 : ∀ i, p_wd g' p i = p_wd g p i) : p_keep g' p i a = p_keep g p i a := by
  unfold p_keep
  simp only [hv, h1, h2]
theorem e_nx {p i : Nat} (h1 : ∀ i, p_sg g' p i = p_sg g p i) : p_nx g' p i = p_nx g p i := by
  unfold p_nx
  simp only [h1]
theorem e_fol {F F' : Nat → List Nat} {p i a : Nat} (hE : ∀ j, p_ent g' p i a j = p_ent g p i a j) (hpt : ∀ j, c_pt g' a j = c_pt g a j) (hF : ∀ j, j < c_sz g a → F' (c_pt g a j) = F (c_pt g a j)) : ∀ n j, j + n = c_sz g a → c_fol F' g' p a i n j = c_fol F g p a i n j
  | 0, j, _ => rfl
  | n + 1, j, hj => by
    unfold c_fol
    rw [e_fol hE hpt hF n (j + 1) (by omega), hpt, hF j (by omega)]
    by_cases h : p_ent g p i a j
    · rw [if_pos h, if_pos (by rw [hE]; exact h)]
    · rw [if_neg h, if_neg (by rw [hE]; exact h)]
theorem e_fo (hW : c_W T g k) (hx : c_ofr k g g') (hk : k ≤ k') {p : Nat} (hp : p_wf g k p) : ∀ f a i, T a → c_fo g' p f a i = c_fo g p f a i
  | 0, a, i, _ => rfl
  | f + 1, a, i, ha => by
    obtain ⟨-, u1, u2, u3, u4, -⟩ := c_wf_xt (hW a ha) hx hk
    obtain ⟨-, v1, v2, v3⟩ := p_wf_xt hp hx hk
    unfold c_fo
    rw [v1, e_fo hW hx hk hp f a (i + 1) ha, e_nx v2, u1, e_fol (F := fun b => c_fo g p f b (p_nx g p i)) (fun j => e_ent u4 u3 u1 v2 v3) u2 (fun j hj => e_fo hW hx hk hp f _ _ (c_W_pt hW ha hj)) _ 0 (by omega)]
    split
    · rfl
    · by_cases h : p_keep g p i a
      · rw [if_pos h, if_pos (by rw [e_keep u4 v2 v3]; exact h)]
      · rw [if_neg h, if_neg (by rw [e_keep u4 v2 v3]; exact h)]
theorem e_fs41 (hW : c_W T g k) (hx : c_ofr k g g') (hk : k ≤ k') {p a : Nat} (hp : p_wf g k p) (ha : T a) : c_fs41 g' p a = c_fs41 g p a := by
  unfold c_fs41
  rw [e_fo hW hx hk hp 41 a 0 ha]
theorem e_look {l : List Nat} (hW : c_W T g k) (hx : c_ofr k g g') (hk : k ≤ k') (hl : ∀ j, j < l.length → T (l.getD j 0)) (n : Nat) (w : Int) : v_look g' l n w = v_look g l n w := by
  unfold v_look
  split
  next h =>
    obtain ⟨-, u1, u2, u3, u4, -⟩ := c_wf_xt (hW _ (hl n h)) hx hk
    unfold c_look
    simp only [u1, u4]
  next => rfl
theorem e_key {l : List Nat} (hW : c_W T g k) (hx : c_ofr k g g') (hk : k ≤ k') (hl : ∀ j, j < l.length → T (l.getD j 0)) (n : Nat) (w : Int) : v_key g' l n w = v_key g l n w := by
  unfold v_key
  split
  next h =>
    obtain ⟨-, u1, u2, u3, u4, -⟩ := c_wf_xt (hW _ (hl n h)) hx hk
    unfold c_key
    simp only [u1, u3, u4]
  next => rfl
theorem e_suml {F F' : Nat → Int64} {a : Nat} (hi : ∀ j, c_i g' a j = c_i g a j) (hpt : ∀ j, c_pt g' a j = c_pt g a j) (hF : ∀ j, j < c_sz g a → F' (c_pt g a j) = F (c_pt g a j)) : ∀ n, n ≤ c_sz g a → c_suml F' g' a n = c_suml F g a n
  | 0, _ => by unfold c_suml; simp only [hi]
  | n + 1, hn => by
    unfold c_suml
    rw [e_suml hi hpt hF n (by omega), hpt, hF n (by omega)]
theorem e_sum (hW : c_W T g k) (hx : c_ofr k g g') (hk : k ≤ k') : ∀ f a, T a → c_sum g' f a = c_sum g f a
  | 0, a, _ => rfl
  | f + 1, a, ha => by
    obtain ⟨-, u1, u2, u3, u4, -⟩ := c_wf_xt (hW a ha) hx hk
    unfold c_sum
    rw [u1]
    exact e_suml u4 u2 (fun j hj => e_sum hW hx hk f _ (c_W_pt hW ha hj)) _ (Nat.le_refl _)
theorem e_fsum {l : List Nat} (hW : c_W T g k) (hx : c_ofr k g g') (hk : k ≤ k') (hl : ∀ j, j < l.length → T (l.getD j 0)) : ∀ n, n ≤ l.length → c_fsum g' l n = c_fsum g l n
  | 0, _ => rfl
  | n + 1, hn => by
    unfold c_fsum
    rw [e_fsum hW hx hk hl n (by omega), e_sum hW hx hk 41 _ (hl n (by omega))]
end
/-! ===== the worth of a shelf ===== -/
def w_M : Int64 := Int64.ofInt 1000003
def w_4 (g : Nat → ab_C) (l : List Nat) (n : Nat) (d : Int64) : Int64 := w_M * (w_M * (w_M * (w_M * d + v_look g l n 0) + v_look g l n 1) + v_look g l n 2) + v_look g l n 3
def w_3 (g : Nat → ab_C) (l : List Nat) (d : Int64) : Int64 := w_M * (w_M * (w_M * d + (v_key g l 0 0).toInt64) + (v_key g l 0 1).toInt64) + (v_key g l 0 2).toInt64
def w_ps (g : Nat → ab_C) (l : List Nat) : Nat → Nat → Int64 → Int64
  | 0, _, d => d
  | r + 1, p, d => w_ps g l r (p + 1) (w_4 g l p d)
noncomputable def c_wor (g : Nat → ab_C) (a b7 b6 : Nat) : Int64 := w_M * (w_ps g (c_fs41 g b6 a) (c_fs41 g b6 a).length 0 (w_3 g (c_fs41 g b7 a) (w_4 g (c_fs41 g b7 a) 0 (Int64.ofInt 7)))) + c_fold g (c_fs41 g b7 a) 1
theorem e_wor {T : Nat → Prop} {g g' : Nat → ab_C} {k k' a b7 b6 : Nat} (hW : c_W T g k) (hx : c_ofr k g g') (hk : k ≤ k') (ha : T a) (h7 : p_wf g k b7) (h6 : p_wf g k b6) : c_wor g' a b7 b6 = c_wor g a b7 b6 := by
  have l7 := fun j hj => c_fs41_T (p := b7) (j := j) hW ha hj
  have l6 := fun j hj => c_fs41_T (p := b6) (j := j) hW ha hj
  have e4 : ∀ (l : List Nat) (n : Nat) (d : Int64), (∀ j, j < l.length → T (l.getD j 0)) → w_4 g' l n d = w_4 g l n d := fun l n d hl => by
    unfold w_4
    rw [e_look hW hx hk hl, e_look hW hx hk hl, e_look hW hx hk hl, e_look hW hx hk hl]
  have ep : ∀ (l : List Nat), (∀ j, j < l.length → T (l.getD j 0)) → ∀ r n d, w_ps g' l r n d = w_ps g l r n d := fun l hl r => by
    induction r with
    | zero => intro n d; rfl
    | succ r ih => intro n d; unfold w_ps; rw [e4 l n d hl, ih]
  unfold c_wor
  rw [e_fs41 hW hx hk h7 ha, e_fs41 hW hx hk h6 ha, e4 _ _ _ l7, ep _ l6]
  unfold w_3 c_fold
  rw [e_key hW hx hk l7, e_key hW hx hk l7, e_key hW hx hk l7, if_neg (by decide), if_pos rfl, if_neg (by decide), if_pos rfl, e_fsum hW hx hk l7 _ (Nat.le_refl _)]
