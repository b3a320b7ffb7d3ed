/-! ===== rules: the heap (own text) ===== -/
theorem ab_Nw_warm {w : Jvm.Cond} (h : ab_okw w = true) {u U : State} (hW : u.WarmedH U.vm) (hZ : va_Nw w u) : va_Nw w U := by
  by_cases hg : goodWord w = true
  · exact word_at hW (good_of_word hg) hZ
  · unfold ab_okw at h
    rw [Bool.or_eq_true] at h
    rcases h with h | h
    · exact absurd h hg
    · split at h
      · exact va_Nw.warmM hW hZ
      · exact va_Nw.warmF hW hZ
      · exact va_AO.moved hW.alike hZ
      · cases h
theorem ab_KV.warm {D : va_G} {cT : Nat → ClassId} {u U : State} (h : ab_KV D cT u) (hW : u.WarmedH U.vm) : ab_KV D cT U :=
  ⟨fun w hw ho => ab_Nw_warm ho hW (h.1 w hw ho), va_K.moved hW.alike h.2⟩
section AB2
variable {p : Program} {l : Launch} {e : Env} {s : State} {m : MethodId} {args : Array Value} {below : List Frame} {meth : Method} {c : Code} {n : Nat} {D : va_G} {cT : Nat → ClassId} {b0 b L : Nat} {xs : Nat → Int32} {n0 s0 d : Nat} {E : State → Prop} {pc : Nat} {ls : ab_L} {st : List ab_V} {h : ab_H} {H : Heap}
theorem ab_ws_len : (ab_ws b0 b cT h).length = h.2.1 := by simp [ab_ws]
theorem ab_ws_at {a : Nat} (ha : a < h.2.1) : (ab_ws b0 b cT h)[a]? = some (b0 + a, ab_ce b0 b cT (h.1 a)) := by
  simp [ab_ws, ha]
theorem ab_ws_of {k : Nat} {q : Nat × va_E} (hk : (ab_ws b0 b cT h)[k]? = some q) : k < h.2.1 ∧ q = (b0 + k, ab_ce b0 b cT (h.1 k)) := by
  have hl : k < (ab_ws b0 b cT h).length := (List.getElem?_eq_some_iff.mp hk).1
  rw [ab_ws_len] at hl
  rw [ab_ws_at hl] at hk
  exact ⟨hl, (Option.some.inj hk).symm⟩
theorem ab_ws_D : va_D (ab_A b0) (ab_ws b0 b cT h) := by
  refine ⟨fun i j p q hp hq he => ?_, fun k q hq => ?_⟩
  · obtain ⟨-, rfl⟩ := ab_ws_of hp
    obtain ⟨-, rfl⟩ := ab_ws_of hq
    exact Nat.add_left_cancel he
  · obtain ⟨-, rfl⟩ := ab_ws_of hq
    exact Nat.le_add_right _ _
theorem ab_up_self {α : Type} (f : Nat → α) (k : Nat) (v : α) : ab_up f k v k = v := by simp [ab_up]
theorem ab_up_ne {α : Type} (f : Nat → α) {k j : Nat} (v : α) (h : j ≠ k) : ab_up f k v j = f j := by
  unfold ab_up
  rw [show Nat.beq j k = false from by
    cases e : Nat.beq j k with
    | false => rfl
    | true => exact absurd (Nat.eq_of_beq_eq_true e) h]
  rfl
theorem ab_ws_set {a : Nat} {x : ab_C} (ha : a < h.2.1) : (ab_ws b0 b cT h).set a (b0 + a, ab_ce b0 b cT x) = ab_ws b0 b cT (ab_set h a x) := by
  apply List.ext_getElem?
  intro k
  by_cases hk : k < h.2.1
  · rw [ab_ws_at (h := ab_set h a x) hk]
    by_cases e : k = a
    · subst e
      rw [List.getElem?_set_self (by rw [ab_ws_len]; exact ha)]
      show _ = some (_, ab_ce b0 b cT (ab_up h.1 k x k))
      rw [ab_up_self]
    · rw [List.getElem?_set_ne (Ne.symm e), ab_ws_at hk]
      show _ = some (_, ab_ce b0 b cT (ab_up h.1 a x k))
      rw [ab_up_ne _ _ e]
  · rw [List.getElem?_eq_none (by simp [ab_ws_len]; omega), List.getElem?_eq_none (by rw [ab_ws_len]; show h.2.1 ≤ k; omega)]
theorem ab_Rl_sz (hR : ab_Rl D cT b0 b L xs h H) : H.size = b0 + h.2.1 := hR.1
theorem ab_Rl_P (hR : ab_Rl D cT b0 b L xs h H) : va_P D ab_cl (ab_ws b0 b cT h) H := hR.2.2.2.2.2.2
theorem ab_lt {a : Nat} (hR : ab_Rl D cT b0 b L xs h H) (h1 : a ≠ ab_scr) (h2 : h.1 a ≠ ab_ob 999 []) : a < h.2.1 := by
  rcases Nat.lt_or_ge a h.2.1 with q | q
  · exact q
  · exact absurd (hR.2.2.2.2.1 a q h1) h2
theorem ab_ob_real {a ci : Nat} {fs : List ab_V} (hR : ab_Rl D cT b0 b L xs h H) (hc : h.1 a = ab_ob ci fs) (h9 : ci ≠ 999) : a ≠ ab_scr ∧ a < h.2.1 := by
  have h1 : a ≠ ab_scr := fun e => by
    rw [e, hR.2.2.2.1] at hc
    cases hc
  exact ⟨h1, ab_lt hR h1 (fun e => by rw [hc] at e; cases e; exact h9 rfl)⟩
theorem ab_ra_real {a t k : Nat} {f : Nat → Option Nat} (hR : ab_Rl D cT b0 b L xs h H) (hc : h.1 a = ab_ra t k f) : a ≠ ab_scr ∧ a < h.2.1 := by
  have h1 : a ≠ ab_scr := fun e => by
    rw [e, hR.2.2.2.1] at hc
    cases hc
  exact ⟨h1, ab_lt hR h1 (fun e => by rw [hc] at e; cases e)⟩
theorem ab_ia_real {a t k : Nat} {f : Nat → Int32} (hR : ab_Rl D cT b0 b L xs h H) (hc : h.1 a = ab_ia t k f) (h9 : t ≠ 9) : a ≠ ab_scr ∧ a < h.2.1 := by
  have h1 : a ≠ ab_scr := fun e => by
    rw [e, hR.2.2.2.1] at hc
    cases hc
    exact h9 rfl
  exact ⟨h1, ab_lt hR h1 (fun e => by rw [hc] at e; cases e)⟩
theorem ab_Rl_set {a : Nat} {x : ab_C} {H1 : Heap} (hR : ab_Rl D cT b0 b L xs h H) (ha : a < h.2.1) (hv : ab_vt x) (hz : H1.size = H.size) (hP : va_P D ab_cl ((ab_ws b0 b cT h).set a (b0 + a, ab_ce b0 b cT x)) H1) : ab_Rl D cT b0 b L xs (ab_set h a x) H1 := by
  obtain ⟨r1, r2, r3, r4, r5, r6, r7⟩ := hR
  have hs : a ≠ ab_scr := by have h9 : ab_CM < ab_scr := by decide
                             omega
  refine ⟨by rw [hz]; exact r1, r2, r3, ?_, ?_, ?_, ?_⟩
  · show ab_up h.1 a x ab_scr = _
    rw [ab_up_ne _ _ (Ne.symm hs)]
    exact r4
  · intro k hk hks
    show ab_up h.1 a x k = _
    have hk' : h.2.1 ≤ k := hk
    rw [ab_up_ne _ _ (by omega)]
    exact r5 k hk hks
  · intro k hk
    show ab_vt (ab_up h.1 a x k)
    by_cases e : k = a
    · subst e; rw [ab_up_self]; exact hv
    · rw [ab_up_ne _ _ e]; exact r6 k hk
  · rw [← ab_ws_set ha]
    exact hP
theorem ab_Rl_new {x : ab_C} {k : Nat} {H1 : Heap} (hR : ab_Rl D cT b0 b L xs h H) (hc : h.2.1 < ab_CM) (hk : h.2.2 + k ≤ ab_SM) (hv : ab_vt x) (hz : H1.size = b0 + h.2.1 + 1) (ho : ∀ q, q < b0 + h.2.1 → H1[q]? = H[q]?) (hP : va_at D ab_cl (b0 + h.2.1, ab_ce b0 b cT x) H1) : ab_Rl D cT b0 b L xs (ab_new h x k) H1 := by
  obtain ⟨r1, r2, r3, r4, r5, r6, r7⟩ := hR
  have hs : h.2.1 ≠ ab_scr := by have h9 : ab_CM < ab_scr := by decide
                                 omega
  refine ⟨by rw [hz]; rfl, hc, hk, ?_, ?_, ?_, ?_⟩
  · show ab_up h.1 h.2.1 x ab_scr = _
    rw [ab_up_ne _ _ (Ne.symm hs)]
    exact r4
  · intro j hj hjs
    have hj' : h.2.1 + 1 ≤ j := hj
    show ab_up h.1 h.2.1 x j = _
    rw [ab_up_ne _ _ (by omega)]
    exact r5 j (by omega) hjs
  · intro j hj
    have hj' : j < h.2.1 + 1 := hj
    show ab_vt (ab_up h.1 h.2.1 x j)
    by_cases e : j = h.2.1
    · subst e; rw [ab_up_self]; exact hv
    · rw [ab_up_ne _ _ e]; exact r6 j (by omega)
  · intro j q hq
    obtain ⟨hj, rfl⟩ := ab_ws_of hq
    have hj' : j < h.2.1 + 1 := hj
    show va_at D ab_cl (b0 + j, ab_ce b0 b cT (ab_up h.1 h.2.1 x j)) H1
    by_cases e : j = h.2.1
    · subst e; rw [ab_up_self]; exact hP
    · rw [ab_up_ne _ _ e]
      exact (r7 j _ (ab_ws_at (by omega))).kept (ho _ (by show b0 + j < _; omega))
theorem ws_tsC (C0 : ab_Cx p s m meth c n D cT b0 b L xs n0) {ci : Nat} {q : vw_C} (hc : ab_cl[ci]? = some q) : ∀ w ∈ u_ws q.1 q.2.1 q.2.2, w.before args s = true := by
  intro w hw
  have h1 := C0.2.2.2.2.2.1.1 w (ab_inC ci q hc w hw)
  obtain ⟨k, -, rfl⟩ := List.mem_map.mp hw
  refine va_Nw.use ?_ (h1 ?_)
  · unfold u_lay
    split <;> rfl
  · unfold u_lay
    split <;> rfl
theorem ws_getfield (C0 : ab_Cx p s m meth c n D cT b0 b L xs n0) {ci k0 i a : Nat} {q : vw_C} {fs : List ab_V} {v : ab_V} (hc : ab_cl[ci]? = some q) (hk : k0 < q.2.2) (h9 : ci ≠ 999) (hw : Jvm.Cond.fieldLink (ab_nm n).cls i (q.2.1 k0).1 (q.2.1 k0).2.1 (q.2.1 k0).2.2.1 ∈ lw_tbl ∨ ∃ host, Jvm.Cond.fieldLinkNest (ab_nm n).cls i (q.2.1 k0).1 (q.2.1 k0).2.1 (q.2.1 k0).2.2.1 host ∈ lw_tbl)
    (hdg : decode (ab_bt n) pc = .ok (.getfield i, 3)) (ho : h.1 a = ab_ob ci fs) (hv : fs[k0]? = some v) (k : ab_WG p l e s m args below meth c n D cT b0 b L xs n0 s0 d E (pc + 3) ls (v :: st) h) : ab_WG p l e s m args below meth c n D cT b0 b L xs n0 s0 d E pc ls (.inr (.inr (some a)) :: st) h := by
  intro H locs lsA hl hR hS h1 h2
  obtain ⟨g1, g2⟩ := ab_ob_real hR ho h9
  have hat : (ab_ws b0 b cT h)[a]? = some (b0 + a, .inr (ci, fs.map (ab_pv b0 b))) := by rw [ab_ws_at g2, ho]; rfl
  have hv' : (fs.map (ab_pv b0 b))[k0]? = some (ab_pv b0 b v) := by simp [hv]
  obtain ⟨C, T, N⟩ := q
  show W p l e _ s m args below meth c H locs _ _ E (F0 m pc lsA (.ref (ab_phi b0 b a) :: st.map (ab_pv b0 b)))
  rw [ab_phi_ne g1]
  rcases hw with hw | ⟨host, hw⟩
  · exact va_get (Ts := u_ws C T N) C0.1 C0.2.1 (ws_tsC C0 hc) (fun _ h => h) C0.2.2.2.2.1 C0.2.2.2.2.2.1.2 (ab_Rl_P hR) a hat hc k0 hk (ws_tw C0 hw rfl) (fun _ h => h) hv' hdg (k H locs lsA hl hR hS h1 h2)
  · exact va_getN (Ts := u_ws C T N) C0.1 C0.2.1 (ws_tsC C0 hc) (fun _ h => h) C0.2.2.2.2.1 C0.2.2.2.2.2.1.2 (ab_Rl_P hR) a hat hc k0 hk (ws_tw C0 hw rfl) (fun _ h => h) hv' hdg (k H locs lsA hl hR hS h1 h2)
def ab_tyc : FieldType → Nat
  | .int => 0
  | .boolean => 1
  | .object _ => 2
  | .array _ => 2
  | _ => 9
theorem ab_toInt01 {x : Int32} (h : x.toInt = 0 ∨ x.toInt = 1) : x = 0 ∨ x = 1 := by
  rcases h with h | h
  · exact Or.inl (Int32.toInt_inj.mp (h.trans ab_c0.symm))
  · exact Or.inr (Int32.toInt_inj.mp (h.trans (by decide)))
theorem ab_fitok {ty : FieldType} {v : ab_V} (hf : ab_fit (ab_tyc ty) v) : narrow ty (ab_pv b0 b v) = ab_pv b0 b v ∧ fits ty (ab_pv b0 b v) = true := by
  cases ty <;> match v, hf with
    | .inl x, hf => first | exact hf.elim | exact ⟨rfl, rfl⟩ | (rcases ab_toInt01 hf with rfl | rfl <;> exact ⟨rfl, rfl⟩)
    | .inr (.inl x), hf => exact hf.elim
    | .inr (.inr none), hf => first | exact hf.elim | exact ⟨rfl, rfl⟩
    | .inr (.inr (some a)), hf => first | exact hf.elim | exact ⟨rfl, rfl⟩
theorem ab_szP {ws : va_W} {A : Nat → Prop} {H0 H1 : Heap} {locs : List Loc} (hS : va_S A H0 H1 locs) : va_S A H0 H1 locs := hS
end AB2
