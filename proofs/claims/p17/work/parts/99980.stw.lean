/-! ===== both objects new: alike (own text) ===== -/
def st_F (a : Nat) (t : Int32) : Prop := ∃ s : Nat, s < 12 ∧ a = 18 + 5 * s + 1 ∧ t = ab_ii (s : Int)
theorem st_z0 : (ab_ii 0).toInt = 0 := by decide
theorem st_hk {L : Nat} {xs : Nat → Int32} : h_k st_F st_T (st_g L xs) st_M (st_M 102 8).toInt := by
  have e8 : (st_M 102 8).toInt = 12 := by decide
  have hs : ∀ s : Nat, s < 12 → (ab_ii (s : Int)).toInt = (s : Int) := fun s h => ab_tI (by omega) (by omega)
  have hv := fun (s : Nat) (h : s < 12) => h_vw (g := st_g L xs) ((st_gF (L := L) (xs := xs) (show 18 + 5 * s + 1 < 125 by omega)).trans (hp_F_s1 h)) ((st_gF (L := L) (xs := xs) (show 18 + 5 * s + 2 < 125 by omega)).trans (hp_F_s2 h)) ((st_gF (L := L) (xs := xs) (show 18 + 5 * s + 3 < 125 by omega)).trans (hp_F_s3 h))
  refine ⟨⟨fun a t ha => ?_, fun a t t' ha ha' => ?_, fun a a' t ha ha' => ?_⟩, fun a t ha => ?_⟩
  · obtain ⟨s, h, ea, et⟩ := ha
    obtain ⟨⟨v0, v1, v2, v3⟩, v4, -⟩ := hv s h
    subst ea
    subst et
    have en : st_M 106 (ab_ii (s : Int)).toInt.toNat = ab_ii 1 := ab_nd_lt (by rw [hs s h]; omega)
    refine ⟨⟨⟨s, h, rfl⟩, by rw [hs s h]; omega, by rw [hs s h, e8]; omega⟩, v0.trans rfl, v1.trans rfl, v2.trans en.symm, v3.trans rfl, ?_, fun j hj => ?_⟩
    · rw [v4]
      rfl
    · rw [v4] at hj
      exact absurd hj (Nat.not_lt_zero _)
  · obtain ⟨s, h, ea, et⟩ := ha
    obtain ⟨s', h', ea', et'⟩ := ha'
    rw [et, et', show s = s' by omega]
  · obtain ⟨s, h, ea, et⟩ := ha
    obtain ⟨s', h', ea', et'⟩ := ha'
    have := congrArg Int32.toInt (et.symm.trans et')
    rw [hs s h, hs s' h'] at this
    rw [ea, ea', show s = s' by omega]
  · obtain ⟨s, h, ea, et⟩ := ha
    obtain ⟨-, v4, -⟩ := hv s h
    subst ea
    subst et
    refine ⟨by rw [v4]; omega, ?_, ?_, fun _ => rfl⟩
    · show 0 ≤ (ab_ii 0).toInt
      decide
    · show (ab_ii 0).toInt ≤ 13
      decide
theorem st_w {L : Nat} {xs : Nat → Int32} : w_In st_F st_T st_I st_P st_M (st_g L xs) 125 := by
  refine ⟨st_m, st_k, st_hk, ⟨st_I_0 (Or.inr (by omega)), v_tb_0 rfl⟩, st_I_0 (Or.inl (by omega)), fun s hs => ⟨0, st_I_0 (Or.inl (by omega)), rfl, by omega, ⟨_, st_P_s hs, s, hs, rfl, rfl⟩, fun i hi => absurd hi (Nat.not_lt_zero _)⟩, fun q => absurd (by rw [st_I_0 (Or.inl (by omega))]; decide) q, fun p hp => ⟨78 + 3 * p, rfl, ?_⟩, ⟨fun _ => st_z0, fun _ => by rw [st_I_0 (Or.inl (by omega))]; exact st_z0⟩, fun q => absurd (by rw [st_I_0 (Or.inl (by omega))]; decide) q⟩
  have e0 : st_g L xs (78 + 3 * p) = _ := (st_gF (by omega)).trans (hp_F_p0 hp)
  have e1 : st_g L xs (78 + 3 * p + 1) = _ := (st_gF (by omega)).trans (hp_F_p1 hp)
  have es : p_sa (st_g L xs) (78 + 3 * p) = 78 + 3 * p + 1 := by unfold p_sa; rw [e0]; rfl
  have en : p_n (st_g L xs) (78 + 3 * p) = 0 := by unfold p_n; rw [es, e1]; rfl
  unfold h_pt
  rw [en]
  exact ⟨rfl, by omega, fun i hi => absurd hi (Nat.not_lt_zero _)⟩
