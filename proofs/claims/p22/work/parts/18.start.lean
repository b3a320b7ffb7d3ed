/-! THE CLAIM OUT OF ONE WALK OF THE LAW'S BODY. Your part is whole_start (and what it stands on); all else here is the same for every law, but numbers. -/
def R_law : String := "NestedFociLaw"
def lw_P (b : Addr) (xs : List Int32) (args : Array Value) (s : State) : Prop := args = #[.ref b] ∧ s.IntsAt b xs ∧ xs.length ≤ 260 ∧ (Jvm.Cond.and given_1 narrow_1).before args s = true
def lw_Q (_ : Array Value) (s : State) (o : Outcome) (t : State) : Prop := o = .returned (some (.int 1)) ∧ Framed s o t [] 867806 6498830
def lw_Z (below : List Frame) (a : Array Value) (s : State) : State → Prop := fun t => ∃ o, t.status = .running ∧ Ended t below o ∧ lw_Q a s o t
/-- the law's own end, with 1 on the stack, nothing written that was there before, its room as the claim has it -/
theorem lw_ret {p : Program} {l : Launch} {e : Env} {s : State} {m : MethodId} {below : List Frame} {meth : Method} {c : Code} {b : Nat} (hx : p.tables.exec = Jvm.exec) (hb : c.code = code) (hr : meth.sig.returnType = ret) (hlocks : meth.locks = false) {pc : Nat} {H : Heap} {ls : Array Slot} (hdg : decode code pc = .ok (.ireturn, 1)) : W p l e room_1 s m #[Value.ref b] below meth c H [] 867806 6498830 (lw_Z below #[Value.ref b] s) (F0 m pc ls [.int 1]) := by
  intro T hT X
  obtain ⟨fs, hret, hrun, hended, hW, hframe⟩ := X.leave (v := some (.int 1)) (hlocks := hlocks) (fun h => by rw [hr] at h; cases h)
  have hmeth' : T.vm.method? m = some meth := X.method'
  refine ⟨T.setFrames fs, ?_, .returned (some (.int 1)), hrun, hended, rfl, ⟨_, rfl⟩, hW, hframe⟩
  jvm_step X.here [X.here.top, hx, hb, hdg, hmeth', hr, ret, narrow_b1]
  (try refine ⟨rfl, ?_⟩); (try refine ⟨rfl, ?_⟩)
  first | (intro acts; rw [hret _ acts rfl rfl rfl]) | rw [hret _ _ rfl rfl rfl]
  exact Steps.refl _
/-- what holds at the law's entry: the machine, the code, the tables' words (any of lw_tbl by 'hts w (by decide +kernel)'), the script of L ints xs at the cell b, what the Statement gives of the start (any of its parts by flat_of_before) -/
def lw_At (p : Program) (s : State) (m : MethodId) (meth : Method) (c : Code) (b L : Nat) (xs : Nat → Int32) : Prop :=
  p.tables.exec = Jvm.exec ∧ c.code = code ∧ meth.sig.returnType = ret ∧ c.maxLocals = 14 ∧ s.vm.findClass R_law = some m.cls ∧ (∀ w ∈ lw_tbl, w.before #[Value.ref b] s = true) ∧ va_X b L xs s s.heap ∧ b < s.heap.size ∧ meth.locks = false ∧ (meth.name = "law" ∧ (Jvm.Cond.and given_1 narrow_1).before #[Value.ref b] s = true)
theorem ab_Nw_of {w : Jvm.Cond} (h : ab_okw w = true) {A : Array Value} {s : State} (hb : w.before A s = true) : va_Nw w s := by
  by_cases hg : goodWord w = true
  · rcases good_of_word hg with h1 | ⟨ty, rfl⟩
    · rw [Bool.and_eq_true] at h1
      exact va_Nw.of h1.1 hb
    · exact hb
  · unfold ab_okw at h
    rw [Bool.or_eq_true] at h
    rcases h with h | h
    · exact absurd h hg
    · split at h
      · exact va_Nw.of rfl hb
      · exact va_Nw.of rfl hb
      · exact hb
      · exact va_Nw.of rfl hb
      · exact va_Nw.of rfl hb
      · cases h
theorem ab_inst : ∀ (k : Nat) (q : vw_C), ab_cl[k]? = some q → ∃ N, Jvm.Cond.instantiable q.1 N ∈ lw_tbl := ab_cl_of ⟨_, wd_326⟩ ⟨_, wd_338⟩ ⟨_, wd_332⟩ ⟨_, wd_273⟩ ⟨_, wd_179⟩ ⟨_, wd_308⟩ ⟨_, wd_347⟩ ⟨_, wd_320⟩ ⟨_, wd_296⟩ ⟨_, wd_64⟩ ⟨_, wd_302⟩ ⟨_, wd_643⟩ ⟨_, wd_602⟩ ⟨_, wd_568⟩ ⟨_, wd_602⟩
theorem ab_KV_of {s : State} {A : Array Value} (hts : ∀ w ∈ lw_tbl, w.before A s = true) : ∃ (D : va_G) (cT : Nat → ClassId), ab_KV D cT s := by
  have h1 : ∀ k : Nat, ∃ (cC : ClassId) (iS : Nat → Nat), ∀ q : vw_C, ab_cl[k]? = some q → u_Kn s q.1 q.2.1 q.2.2 cC iS := by
    intro k
    cases hq : ab_cl[k]? with
    | none => exact ⟨0, fun _ => 0, fun q h => by cases h⟩
    | some q =>
      obtain ⟨N, hN⟩ := ab_inst k q hq
      have hl : ∀ w ∈ u_ws q.1 q.2.1 q.2.2, w.before A s = true := fun w hw => hts w (ab_inC k q hq w hw)
      obtain ⟨cC, iS, hk⟩ := u_known (args := A) (C := q.1) (T := q.2.1) (N := q.2.2) (n := N) hl (fun _ h => h) (hts _ hN)
      exact ⟨cC, iS, fun q' h => by cases h; exact hk⟩
  have h2 : ∀ C : String, Jvm.Cond.arrayOver (.object C) ∈ lw_tbl → ∃ cA, ArrOfT s cA (.object C) ∧ va_RA s cA (.object C) := by
    intro C hC
    obtain ⟨comp, cA, kA, g1, g2, g3, g4, g5⟩ := Cond.arrayOver_spec (hts _ hC)
    exact ⟨cA, fun n z => ⟨fun k h => (by cases h), kA, g3, comp, g4⟩, kA, comp, g3, g4, g1, g5⟩
  have h3 : ∀ ty : FieldType, (ty = .int ∨ ty = .byte) → Jvm.Cond.arrayClass ty ∈ lw_tbl → ∃ cA, ArrOfT s cA ty ∧ va_RA s cA ty := by
    intro ty hty hC
    obtain ⟨cA, kA, comp, g1, g2, g3⟩ := Cond.arrayClass_spec (hts _ hC)
    refine ⟨cA, fun n z => ⟨fun k h => (by cases h), kA, g2, comp, g3⟩, ?_⟩
    rcases hty with rfl | rfl <;> exact g1
  obtain ⟨c0, a0⟩ := h3 .int (Or.inl rfl) wd_66
  obtain ⟨c1, a1⟩ := h3 .byte (Or.inr rfl) wd_482
  obtain ⟨c2, a2⟩ := h2 RX4 wd_317
  obtain ⟨c3, a3⟩ := h2 RX6 wd_314
  obtain ⟨c4, a4⟩ := h2 RX9 wd_45
  refine ⟨(fun k => (h1 k).choose, fun k => (h1 k).choose_spec.choose), fun t => match t with
    | 0 => c0
    | 1 => c1
    | 2 => c2
    | 3 => c3
    | _ => c4, fun w hw ho => ab_Nw_of ho (hts w hw), fun k q hq => (h1 k).choose_spec.choose_spec q hq, fun k q hq => ?_⟩
  have hk : k < 5 := (List.getElem?_eq_some_iff.mp hq).1
  match k, hk, hq with
  | 0, _, hq => cases hq; exact a0
  | 1, _, hq => cases hq; exact a1
  | 2, _, hq => cases hq; exact a2
  | 3, _, hq => cases hq; exact a3
  | 4, _, hq => cases hq; exact a4
/-! what was there before: its addresses, its cells (own text) -/
def ab_FL : List Jvm.Cond := flatC (Jvm.Cond.and given_1 narrow_1)
def ab_ixs : List Nat := [32, 45, 47, 53, 55, 57, 59, 61, 63, 65, 67, 69, 71, 73, 75, 77, 79, 81, 83, 88, 90, 92, 94, 96, 98]
def ab_len1 : List Nat := [0, 1, 1, 1, 1, 1, 1, 2, 3, 1, 3, 3, 1, 4, 5, 2, 2, 1, 1, 1, 1, 1, 1, 1, 1]
def ab_byt1 : List (List Int32) := [[], [45], [40], [44], [41], [91], [93], [91, 93], [123, 97, 58], [125], [123, 98, 58], [44, 97, 58], [35], [123, 97, 97, 58], [44, 99, 58, 55, 125], [46, 48], [46, 49], [47], [36], [46], [42], [126], [37], [60], [62]]
abbrev ab_tm (i : Nat) : Term := .string "NestedFociLaw" (ab_ixs.getD i 0)
abbrev ab_tv (i : Nat) : Term := .field (ab_tm i) "java/lang/String" "value" "[B"
abbrev ab_dg (k : Nat) : Term := .static "java/lang/Integer" (match k with
  | 0 => "DigitOnes"
  | _ => "DigitTens") "[B"
def ab_dv (k j : Nat) : Int32 := match k with
  | 0 => Int32.ofNat (48 + j % 10)
  | _ => Int32.ofNat (48 + j / 10)
def fl_px : List Nat := [254, 258, 264, 271, 279, 288, 298, 309, 322, 337, 351, 368, 386, 403, 424, 447, 468, 490, 512, 535, 559, 584, 610, 637, 665]
def fl_pc : List Nat := [255, 259, 265, 272, 280, 289, 299, 310, 323, 338, 352, 369, 387, 404, 425, 448, 469, 491, 513, 536, 560, 585, 611, 638, 666]
def fl_pa : List Nat := [256, 260, 266, 273, 281, 290, 300, 311, 324, 339, 353, 370, 388, 405, 426, 449, 470, 492, 514, 537, 561, 586, 612, 639, 667]
def fl_pl : List Nat := [257, 261, 267, 274, 282, 291, 301, 312, 325, 340, 354, 371, 389, 406, 427, 450, 471, 493, 515, 538, 562, 587, 613, 640, 668]
def fl_pe : List Nat := [0, 0, 0, 0, 0, 0, 0, 0, 262, 0, 0, 0, 0, 0, 0, 0, 268, 0, 0, 0, 0, 0, 0, 0, 275, 0, 0, 0, 0, 0, 0, 0, 283, 0, 0, 0, 0, 0, 0, 0, 292, 0, 0, 0, 0, 0, 0, 0, 302, 0, 0, 0, 0, 0, 0, 0, 313, 314, 0, 0, 0, 0, 0, 0, 326, 327, 328, 0, 0, 0, 0, 0, 341, 0, 0, 0, 0, 0, 0, 0, 355, 356, 357, 0, 0, 0, 0, 0, 372, 373, 374, 0, 0, 0, 0, 0, 390, 0, 0, 0, 0, 0, 0, 0, 407, 408, 409, 410, 0, 0, 0, 0, 428, 429, 430, 431, 432, 0, 0, 0, 451, 452, 0, 0, 0, 0, 0, 0, 472, 473, 0, 0, 0, 0, 0, 0, 494, 0, 0, 0, 0, 0, 0, 0, 516, 0, 0, 0, 0, 0, 0, 0, 539, 0, 0, 0, 0, 0, 0, 0, 563, 0, 0, 0, 0, 0, 0, 0, 588, 0, 0, 0, 0, 0, 0, 0, 614, 0, 0, 0, 0, 0, 0, 0, 641, 0, 0, 0, 0, 0, 0, 0, 669, 0, 0, 0, 0, 0, 0, 0]
def fl_pn : List Nat := [0, 0, 0, 0, 0, 0, 0, 0, 0, 0, 0, 0, 0, 0, 0, 0, 0, 0, 0, 0, 0, 0, 0, 0, 0, 263, 0, 0, 0, 0, 0, 0, 0, 0, 0, 0, 0, 0, 0, 0, 0, 0, 0, 0, 0, 0, 0, 0, 0, 0, 269, 270, 0, 0, 0, 0, 0, 0, 0, 0, 0, 0, 0, 0, 0, 0, 0, 0, 0, 0, 0, 0, 0, 0, 0, 276, 277, 278, 0, 0, 0, 0, 0, 0, 0, 0, 0, 0, 0, 0, 0, 0, 0, 0, 0, 0, 0, 0, 0, 0, 284, 285, 286, 287, 0, 0, 0, 0, 0, 0, 0, 0, 0, 0, 0, 0, 0, 0, 0, 0, 0, 0, 0, 0, 0, 293, 294, 295, 296, 297, 0, 0, 0, 0, 0, 0, 0, 0, 0, 0, 0, 0, 0, 0, 0, 0, 0, 0, 0, 0, 303, 304, 305, 306, 307, 308, 0, 0, 0, 0, 0, 0, 0, 0, 0, 0, 0, 0, 0, 0, 0, 0, 0, 0, 0, 315, 316, 317, 318, 319, 320, 321, 0, 0, 0, 0, 0, 0, 0, 0, 0, 0, 0, 0, 0, 0, 0, 0, 0, 0, 329, 330, 331, 332, 333, 334, 335, 336, 0, 0, 0, 0, 0, 0, 0, 0, 0, 0, 0, 0, 0, 0, 0, 0, 0, 342, 343, 344, 345, 346, 347, 348, 349, 350, 0, 0, 0, 0, 0, 0, 0, 0, 0, 0, 0, 0, 0, 0, 0, 0, 358, 359, 360, 361, 362, 363, 364, 365, 366, 367, 0, 0, 0, 0, 0, 0, 0, 0, 0, 0, 0, 0, 0, 0, 0, 375, 376, 377, 378, 379, 380, 381, 382, 383, 384, 385, 0, 0, 0, 0, 0, 0, 0, 0, 0, 0, 0, 0, 0, 0, 391, 392, 393, 394, 395, 396, 397, 398, 399, 400, 401, 402, 0, 0, 0, 0, 0, 0, 0, 0, 0, 0, 0, 0, 0, 411, 412, 413, 414, 415, 416, 417, 418, 419, 420, 421, 422, 423, 0, 0, 0, 0, 0, 0, 0, 0, 0, 0, 0, 0, 433, 434, 435, 436, 437, 438, 439, 440, 441, 442, 443, 444, 445, 446, 0, 0, 0, 0, 0, 0, 0, 0, 0, 0, 0, 453, 454, 455, 456, 457, 458, 459, 460, 461, 462, 463, 464, 465, 466, 467, 0, 0, 0, 0, 0, 0, 0, 0, 0, 0, 474, 475, 476, 477, 478, 479, 480, 481, 482, 483, 484, 485, 486, 487, 488, 489, 0, 0, 0, 0, 0, 0, 0, 0, 0, 495, 496, 497, 498, 499, 500, 501, 502, 503, 504, 505, 506, 507, 508, 509, 510, 511, 0, 0, 0, 0, 0, 0, 0, 0, 517, 518, 519, 520, 521, 522, 523, 524, 525, 526, 527, 528, 529, 530, 531, 532, 533, 534, 0, 0, 0, 0, 0, 0, 0, 540, 541, 542, 543, 544, 545, 546, 547, 548, 549, 550, 551, 552, 553, 554, 555, 556, 557, 558, 0, 0, 0, 0, 0, 0, 564, 565, 566, 567, 568, 569, 570, 571, 572, 573, 574, 575, 576, 577, 578, 579, 580, 581, 582, 583, 0, 0, 0, 0, 0, 589, 590, 591, 592, 593, 594, 595, 596, 597, 598, 599, 600, 601, 602, 603, 604, 605, 606, 607, 608, 609, 0, 0, 0, 0, 615, 616, 617, 618, 619, 620, 621, 622, 623, 624, 625, 626, 627, 628, 629, 630, 631, 632, 633, 634, 635, 636, 0, 0, 0, 642, 643, 644, 645, 646, 647, 648, 649, 650, 651, 652, 653, 654, 655, 656, 657, 658, 659, 660, 661, 662, 663, 664, 0, 0, 670, 671, 672, 673, 674, 675, 676, 677, 678, 679, 680, 681, 682, 683, 684, 685, 686, 687, 688, 689, 690, 691, 692, 693, 0]
def fl_pv : List Nat := [12, 13, 14, 15, 16, 17, 18, 19, 20, 21, 22, 23, 24, 25, 26, 27, 28, 29, 30, 31, 32, 33, 34, 35, 36, 37, 38, 39, 40, 41, 42, 43, 44, 45, 46, 47, 48, 49, 50, 51, 52, 53, 54, 55, 56, 57, 58, 59, 60, 61, 62, 63, 64, 65, 66, 67, 68, 69, 70, 71, 72, 73, 74, 75, 76, 77, 78, 79, 80, 81, 82, 83, 84, 85, 86, 87, 88, 89, 90, 91, 92, 93, 94, 95, 96, 97, 98, 99, 100, 101, 102, 103, 104, 105, 106, 107, 108, 109, 110, 111, 115, 116, 117, 118, 119, 120, 121, 122, 123, 124, 125, 126, 127, 128, 129, 130, 131, 132, 133, 134, 135, 136, 137, 138, 139, 140, 141, 142, 143, 144, 145, 146, 147, 148, 149, 150, 151, 152, 153, 154, 155, 156, 157, 158, 159, 160, 161, 162, 163, 164, 165, 166, 167, 168, 169, 170, 171, 172, 173, 174, 175, 176, 177, 178, 179, 180, 181, 182, 183, 184, 185, 186, 187, 188, 189, 190, 191, 192, 193, 194, 195, 196, 197, 198, 199, 200, 201, 202, 203, 204, 205, 206, 207, 208, 209, 210, 211, 212, 213, 214]
set_option maxRecDepth 100000 in
theorem fl_x' : ∀ i, i < 25 → ab_FL[fl_px.getD i 0]? = some (Jvm.Cond.exactly (ab_tm i) "java/lang/String") := by decide +kernel
theorem fl_x : ∀ i, i < 25 → (Jvm.Cond.exactly (ab_tm i) "java/lang/String") ∈ ab_FL := fun i hi => List.mem_of_getElem? (fl_x' i hi)
set_option maxRecDepth 100000 in
theorem fl_c' : ∀ i, i < 25 → ab_FL[fl_pc.getD i 0]? = some (Jvm.Cond.eq (.field (ab_tm i) "java/lang/String" "coder" "B") (.int 0)) := by decide +kernel
theorem fl_c : ∀ i, i < 25 → (Jvm.Cond.eq (.field (ab_tm i) "java/lang/String" "coder" "B") (.int 0)) ∈ ab_FL := fun i hi => List.mem_of_getElem? (fl_c' i hi)
set_option maxRecDepth 100000 in
theorem fl_a' : ∀ i, i < 25 → ab_FL[fl_pa.getD i 0]? = some (Jvm.Cond.arrayOf (ab_tv i) .byte) := by decide +kernel
theorem fl_a : ∀ i, i < 25 → (Jvm.Cond.arrayOf (ab_tv i) .byte) ∈ ab_FL := fun i hi => List.mem_of_getElem? (fl_a' i hi)
set_option maxRecDepth 100000 in
theorem fl_l' : ∀ i, i < 25 → ab_FL[fl_pl.getD i 0]? = some (Jvm.Cond.eq (.length (ab_tv i)) (.int (Int32.ofNat (ab_len1.getD i 0)))) := by decide +kernel
theorem fl_l : ∀ i, i < 25 → (Jvm.Cond.eq (.length (ab_tv i)) (.int (Int32.ofNat (ab_len1.getD i 0)))) ∈ ab_FL := fun i hi => List.mem_of_getElem? (fl_l' i hi)
set_option maxRecDepth 100000 in
theorem fl_e' : ∀ i, i < 25 → ∀ j, j < ab_len1.getD i 0 → ab_FL[fl_pe.getD (8 * i + j) 0]? = some (Jvm.Cond.eq (.elem (ab_tv i) (.int (Int32.ofNat j))) (.int ((ab_byt1.getD i []).getD j 0))) := by decide +kernel
theorem fl_e : ∀ i, i < 25 → ∀ j, j < ab_len1.getD i 0 → (Jvm.Cond.eq (.elem (ab_tv i) (.int (Int32.ofNat j))) (.int ((ab_byt1.getD i []).getD j 0))) ∈ ab_FL := fun i hi j hj => List.mem_of_getElem? (fl_e' i hi j hj)
set_option maxRecDepth 100000 in
theorem fl_n' : ∀ i, i < 25 → ∀ j, j < i → ab_FL[fl_pn.getD (25 * i + j) 0]? = some (Jvm.Cond.not (Jvm.Cond.eq (ab_tm j) (ab_tm i))) := by decide +kernel
theorem fl_n : ∀ i, i < 25 → ∀ j, j < i → (Jvm.Cond.not (Jvm.Cond.eq (ab_tm j) (ab_tm i))) ∈ ab_FL := fun i hi j hj => List.mem_of_getElem? (fl_n' i hi j hj)
set_option maxRecDepth 100000 in
theorem fl_v' : ∀ k, k < 2 → ∀ j, j < 100 → ab_FL[fl_pv.getD (100 * k + j) 0]? = some (Jvm.Cond.eq (.elem (ab_dg k) (.int (Int32.ofNat j))) (.int (ab_dv k j))) := by decide +kernel
theorem fl_v : ∀ k, k < 2 → ∀ j, j < 100 → (Jvm.Cond.eq (.elem (ab_dg k) (.int (Int32.ofNat j))) (.int (ab_dv k j))) ∈ ab_FL := fun k hk j hj => List.mem_of_getElem? (fl_v' k hk j hj)
set_option maxRecDepth 100000 in
theorem fl_d0 : ab_FL[10]? = some (Jvm.Cond.arrayOf (ab_dg 0) .byte) ∧ ab_FL[11]? = some (Jvm.Cond.eq (.length (ab_dg 0)) (.int 100)) ∧ ab_FL[113]? = some (Jvm.Cond.arrayOf (ab_dg 1) .byte) ∧ ab_FL[114]? = some (Jvm.Cond.eq (.length (ab_dg 1)) (.int 100)) := by decide +kernel
theorem fl_d : ∀ k, k < 2 → (Jvm.Cond.arrayOf (ab_dg k) .byte) ∈ ab_FL ∧ (Jvm.Cond.eq (.length (ab_dg k)) (.int 100)) ∈ ab_FL := fun k hk => match k, hk with
  | 0, _ => ⟨List.mem_of_getElem? fl_d0.1, List.mem_of_getElem? fl_d0.2.1⟩
  | 1, _ => ⟨List.mem_of_getElem? fl_d0.2.2.1, List.mem_of_getElem? fl_d0.2.2.2⟩
  | k + 2, hk => absurd hk (by omega)
set_option maxRecDepth 100000 in
theorem fl_s0 : ab_FL[4]? = some (Jvm.Cond.eq (.static "java/lang/String" "COMPACT_STRINGS" "Z") (.int 1)) ∧ ab_FL[5]? = some (Jvm.Cond.isRef (.static "jdk/internal/util/Preconditions" "SIOOBE_FORMATTER" "Ljava/util/function/BiFunction;")) := by decide +kernel
theorem fl_s : (Jvm.Cond.eq (.static "java/lang/String" "COMPACT_STRINGS" "Z") (.int 1)) ∈ ab_FL ∧ (Jvm.Cond.isRef (.static "jdk/internal/util/Preconditions" "SIOOBE_FORMATTER" "Ljava/util/function/BiFunction;")) ∈ ab_FL := ⟨List.mem_of_getElem? fl_s0.1, List.mem_of_getElem? fl_s0.2⟩
/-- a byte is its own narrowing -/
theorem fl_b : ∀ i, i < 25 → ∀ j, j < 8 → ((ab_byt1.getD i []).getD j 0).toInt8.toInt32 = (ab_byt1.getD i []).getD j 0 := by decide +kernel
theorem fl_b2 : ∀ k, k < 2 → ∀ j, j < 100 → (ab_dv k j).toInt8.toInt32 = ab_dv k j := by decide +kernel
/-! addresses that stand for others: the first of those that are the same -/
theorem rp_ex (R : Nat → Nat) (k : Nat) : ∃ j, R j = R k ∧ ∀ i, i < j → R i ≠ R k := by
  induction k using Nat.strongRecOn with
  | ind k ih =>
    by_cases h : ∃ i, i < k ∧ R i = R k
    · obtain ⟨i, h1, h2⟩ := h
      obtain ⟨j, h3, h4⟩ := ih i h1
      exact ⟨j, h3.trans h2, fun x hx => by rw [← h2]; exact h4 x hx⟩
    · exact ⟨k, rfl, fun i hi e => h ⟨i, hi, e⟩⟩
noncomputable def rp (R : Nat → Nat) (k : Nat) : Nat := (rp_ex R k).choose
theorem rp_eq (R : Nat → Nat) (k : Nat) : R (rp R k) = R k := (rp_ex R k).choose_spec.1
theorem rp_min (R : Nat → Nat) (k : Nat) : ∀ i, i < rp R k → R i ≠ R k := (rp_ex R k).choose_spec.2
theorem rp_le (R : Nat → Nat) (k : Nat) : rp R k ≤ k := Nat.not_lt.mp fun h => rp_min R k k h rfl
theorem rp_same {R : Nat → Nat} {i k : Nat} (h : R i = R k) : rp R i = rp R k := by
  rcases Nat.lt_trichotomy (rp R i) (rp R k) with q | q | q
  · exact absurd ((rp_eq R i).trans h) (rp_min R k _ q)
  · exact q
  · exact absurd ((rp_eq R k).trans h.symm) (rp_min R i _ q)
/-- the map: 64 places at ab_scr for what was there before -/
noncomputable def ab_m (b0 : Nat) (R : Nat → Nat) (a : Nat) : Nat := if ab_scr ≤ a ∧ a < ab_scr + 64 ∧ rp R (a - ab_scr) = a - ab_scr then R (a - ab_scr) else b0 + a
theorem ab_m_at {b0 : Nat} {R : Nat → Nat} {k : Nat} (hk : k < 64) : ab_m b0 R (ab_scr + rp R k) = R k := by
  have h1 := rp_le R k
  unfold ab_m
  rw [if_pos ⟨Nat.le_add_right _ _, by omega, by rw [Nat.add_sub_cancel_left]; exact rp_same (rp_eq R k)⟩, Nat.add_sub_cancel_left]
  exact rp_eq R k
theorem ab_m_out {b0 : Nat} {R : Nat → Nat} {a : Nat} (h : ¬ (ab_scr ≤ a ∧ a < ab_scr + 64 ∧ rp R (a - ab_scr) = a - ab_scr)) : ab_m b0 R a = b0 + a := by
  unfold ab_m
  rw [if_neg h]
theorem ab_m_bm {b0 : Nat} {R : Nat → Nat} (hR : ∀ k, k < 64 → R k < b0) : ab_bm b0 (ab_m b0 R) 0 := by
  refine ⟨fun a _ hs => ab_m_out (fun h => by omega), fun a ha => absurd ha (Nat.not_lt_zero _), fun a a' h => ?_⟩
  by_cases h1 : ab_scr ≤ a ∧ a < ab_scr + 64 ∧ rp R (a - ab_scr) = a - ab_scr
  · by_cases h2 : ab_scr ≤ a' ∧ a' < ab_scr + 64 ∧ rp R (a' - ab_scr) = a' - ab_scr
    · unfold ab_m at h
      rw [if_pos h1, if_pos h2] at h
      have h3 := rp_same h
      omega
    · rw [ab_m_out h2] at h
      unfold ab_m at h
      rw [if_pos h1] at h
      have := hR (a - ab_scr) (by omega)
      omega
  · rw [ab_m_out h1] at h
    by_cases h2 : ab_scr ≤ a' ∧ a' < ab_scr + 64 ∧ rp R (a' - ab_scr) = a' - ab_scr
    · unfold ab_m at h
      rw [if_pos h2] at h
      have := hR (a' - ab_scr) (by omega)
      omega
    · rw [ab_m_out h2] at h
      omega
theorem sp_XO {s : State} {b t L : Nat} {xs : Nat → Int32} {A : Nat → Prop} {c0 : ClassId} (hK : ClassAt s "java/lang/String" c0) (h1 : va_X b L xs s s.heap) (h2 : va_O "java/lang/String" t A s s.heap) : b ≠ t := by
  intro e
  subst e
  obtain ⟨scr, e1, ⟨-, k, hk, comp, hkd⟩, -⟩ := h1
  obtain ⟨cell, f1, -, f3, -⟩ := h2
  cases e1.symm.trans f1
  obtain ⟨g1, kC, g2, g3⟩ := hK
  have e2 : scr.cls = c0 := Option.some.inj (f3.symm.trans g1)
  rw [e2] at hk
  cases hk.symm.trans g2
  rw [g3] at hkd
  cases hkd
theorem sp_TO {s : State} {t t' N : Nat} {f : Nat → Value} {A A' : Nat → Prop} {c0 : ClassId} (hK : ClassAt s "java/lang/String" c0) (h1 : va_T .byte t N f A s s.heap) (h2 : va_O "java/lang/String" t' A' s s.heap) : t ≠ t' := by
  intro e
  subst e
  obtain ⟨scr, e1, ⟨-, k, hk, comp, hkd⟩, -⟩ := h1
  obtain ⟨cell, f1, -, f3, -⟩ := h2
  cases e1.symm.trans f1
  obtain ⟨g1, kC, g2, g3⟩ := hK
  have e2 : scr.cls = c0 := Option.some.inj (f3.symm.trans g1)
  rw [e2] at hk
  cases hk.symm.trans g2
  rw [g3] at hkd
  cases hkd
theorem sp_XT {s : State} {b t L N : Nat} {xs : Nat → Int32} {f : Nat → Value} {A : Nat → Prop} (h1 : va_X b L xs s s.heap) (h2 : va_T .byte t N f A s s.heap) : b ≠ t := by
  intro e
  subst e
  obtain ⟨scr, e1, ⟨-, k, hk, comp, hkd⟩, -⟩ := h1
  obtain ⟨cell, f1, ⟨-, k', hk', comp', hkd'⟩, -⟩ := h2
  cases e1.symm.trans f1
  cases hk.symm.trans hk'
  rw [hkd] at hkd'
  cases hkd'
theorem sp_TT {s : State} {t N N' : Nat} {f f' : Nat → Value} {A A' : Nat → Prop} (hN : N < 1000) (hN' : N' < 1000) (h1 : va_T .byte t N f A s s.heap) (h2 : va_T .byte t N' f' A' s s.heap) : N = N' := by
  obtain ⟨c1, e1, -, -, -, e2, -⟩ := h1
  obtain ⟨c2, f1, -, -, -, f2, -⟩ := h2
  cases e1.symm.trans f1
  exact (nI_eq (by omega) (by omega)).mp (e2.symm.trans f2)
def ab_txs : List String := ["", "-", "(", ",", ")", "[", "]", "[]", "{a:", "}", "{b:", ",a:", "#", "{aa:", ",c:7}", ".0", ".1", "/", "$", ".", "*", "~", "%", "<", ">"]
theorem fl_q : ∀ i, i < 25 → ab_strs[i]? = some (ab_ixs.getD i 0, ab_txs.getD i "") := by decide +kernel
theorem fl_r : ∀ i, i < 25 → (Jvm.Cond.stringRef "NestedFociLaw" (ab_ixs.getD i 0) (ab_txs.getD i "")) ∈ lw_tbl := fun i hi => match i, hi with
  | 0, _ => ab_tb3 _ (List.mem_of_getElem? (i := 212) rfl)
  | 1, _ => ab_tb4 _ (List.mem_of_getElem? (i := 174) rfl)
  | 2, _ => ab_tb4 _ (List.mem_of_getElem? (i := 175) rfl)
  | 3, _ => ab_tb4 _ (List.mem_of_getElem? (i := 176) rfl)
  | 4, _ => ab_tb4 _ (List.mem_of_getElem? (i := 177) rfl)
  | 5, _ => ab_tb4 _ (List.mem_of_getElem? (i := 178) rfl)
  | 6, _ => ab_tb4 _ (List.mem_of_getElem? (i := 179) rfl)
  | 7, _ => ab_tb4 _ (List.mem_of_getElem? (i := 180) rfl)
  | 8, _ => ab_tb4 _ (List.mem_of_getElem? (i := 181) rfl)
  | 9, _ => ab_tb4 _ (List.mem_of_getElem? (i := 182) rfl)
  | 10, _ => ab_tb4 _ (List.mem_of_getElem? (i := 183) rfl)
  | 11, _ => ab_tb4 _ (List.mem_of_getElem? (i := 184) rfl)
  | 12, _ => ab_tb4 _ (List.mem_of_getElem? (i := 185) rfl)
  | 13, _ => ab_tb4 _ (List.mem_of_getElem? (i := 186) rfl)
  | 14, _ => ab_tb4 _ (List.mem_of_getElem? (i := 187) rfl)
  | 15, _ => ab_tb5 _ (List.mem_of_getElem? (i := 83) rfl)
  | 16, _ => ab_tb5 _ (List.mem_of_getElem? (i := 84) rfl)
  | 17, _ => ab_tb5 _ (List.mem_of_getElem? (i := 85) rfl)
  | 18, _ => ab_tb5 _ (List.mem_of_getElem? (i := 86) rfl)
  | 19, _ => ab_tb5 _ (List.mem_of_getElem? (i := 100) rfl)
  | 20, _ => ab_tb5 _ (List.mem_of_getElem? (i := 101) rfl)
  | 21, _ => ab_tb5 _ (List.mem_of_getElem? (i := 102) rfl)
  | 22, _ => ab_tb5 _ (List.mem_of_getElem? (i := 103) rfl)
  | 23, _ => ab_tb5 _ (List.mem_of_getElem? (i := 104) rfl)
  | 24, _ => ab_tb5 _ (List.mem_of_getElem? (i := 105) rfl)
  | i + 25, hi => absurd hi (by omega)
theorem fl_w : (Jvm.Cond.laysStatic "java/lang/String" "COMPACT_STRINGS" "Z") ∈ lw_tbl ∧ (Jvm.Cond.laysStatic "java/lang/Integer" "DigitOnes" "[B") ∈ lw_tbl ∧ (Jvm.Cond.laysStatic "java/lang/Integer" "DigitTens" "[B") ∈ lw_tbl ∧ (Jvm.Cond.laysStatic "jdk/internal/util/Preconditions" "SIOOBE_FORMATTER" "Ljava/util/function/BiFunction;") ∈ lw_tbl ∧ (Jvm.Cond.initialized "java/lang/String") ∈ lw_tbl ∧ (Jvm.Cond.initialized "java/lang/Integer") ∈ lw_tbl ∧ (Jvm.Cond.initialized "jdk/internal/util/Preconditions") ∈ lw_tbl := ⟨ab_tb3 _ (List.mem_of_getElem? (i := 190) rfl), ab_tb4 _ (List.mem_of_getElem? (i := 103) rfl), ab_tb4 _ (List.mem_of_getElem? (i := 105) rfl), ab_tb4 _ (List.mem_of_getElem? (i := 33) rfl), ab_tb1 _ (List.mem_of_getElem? (i := 15) rfl), ab_tb1 _ (List.mem_of_getElem? (i := 22) rfl), ab_tb1 _ (List.mem_of_getElem? (i := 20) rfl)⟩
/-- what may be used of the special cells -/
def ab_SpOk (S : ab_Sp) : Prop :=
  (∀ i, i < 25 → ∃ a v n f, S (ab_scr + 100 + i) = ab_ob 998 [.inr (.inr (some a))] ∧ ab_scr ≤ a ∧ S a = ab_ob 13 [.inr (.inr (some v)), .inl 0] ∧ ab_scr ≤ v ∧ S v = ab_ia 1 n f ∧ n = ab_len1.getD i 0) ∧
  S (ab_scr + 130) = ab_ob 998 [.inl 1] ∧ (∃ a f, S (ab_scr + 131) = ab_ob 998 [.inr (.inr (some a))] ∧ ab_scr ≤ a ∧ S a = ab_ia 1 100 f) ∧ (∃ a f, S (ab_scr + 132) = ab_ob 998 [.inr (.inr (some a))] ∧ ab_scr ≤ a ∧ S a = ab_ia 1 100 f) ∧ ∃ o, S (ab_scr + 133) = ab_ob 998 [.inr (.inr o)]
/-- the cells that were there, by their places -/
noncomputable def ab_cx (L : Nat) (xs : Nat → Int32) (R : Nat → Nat) (j : Nat) : ab_C :=
  if j = 0 then ab_ia 9 L xs
  else if j < 26 then ab_ob 13 [.inr (.inr (some (ab_scr + rp R (25 + j)))), .inl 0]
  else if j < 51 then ab_ia 1 (ab_len1.getD (j - 26) 0) (fun k => (ab_byt1.getD (j - 26) []).getD k 0)
  else if j < 53 then ab_ia 1 100 (ab_dv (j - 51))
  else ab_ob 999 []
noncomputable def ab_S1 (L : Nat) (xs : Nat → Int32) (R : Nat → Nat) (o : Option Nat) (a : Nat) : ab_C :=
  if a < ab_scr + 64 then (if rp R (a - ab_scr) = a - ab_scr then ab_cx L xs R (a - ab_scr) else ab_ob 999 [])
  else if a < ab_scr + 100 then ab_ob 999 []
  else if a < ab_scr + 125 then ab_ob 998 [.inr (.inr (some (ab_scr + rp R (a - ab_scr - 99))))]
  else if a = ab_scr + 130 then ab_ob 998 [.inl 1]
  else if a = ab_scr + 131 then ab_ob 998 [.inr (.inr (some (ab_scr + rp R 51)))]
  else if a = ab_scr + 132 then ab_ob 998 [.inr (.inr (some (ab_scr + rp R 52)))]
  else if a = ab_scr + 133 then ab_ob 998 [.inr (.inr o)]
  else ab_ob 999 []
section
variable {L : Nat} {xs : Nat → Int32} {R : Nat → Nat} {o : Option Nat}
theorem ab_S1_at {k : Nat} (hk : k < 64) : ab_S1 L xs R o (ab_scr + rp R k) = ab_cx L xs R (rp R k) := by
  have h1 := rp_le R k
  unfold ab_S1
  rw [if_pos (by omega), Nat.add_sub_cancel_left, if_pos (rp_same (rp_eq R k))]
theorem ab_S1_p {i : Nat} (hi : i < 25) : ab_S1 L xs R o (ab_scr + 100 + i) = ab_ob 998 [.inr (.inr (some (ab_scr + rp R (1 + i))))] := by
  unfold ab_S1
  rw [if_neg (by omega), if_neg (by omega), if_pos (by omega), show ab_scr + 100 + i - ab_scr - 99 = 1 + i by omega]
theorem ab_S1_0 : ab_S1 L xs R o (ab_scr + 130) = ab_ob 998 [.inl 1] := by
  unfold ab_S1
  rw [if_neg (by omega), if_neg (by omega), if_neg (by omega), if_pos rfl]
theorem ab_S1_1 : ab_S1 L xs R o (ab_scr + 131) = ab_ob 998 [.inr (.inr (some (ab_scr + rp R 51)))] := by
  unfold ab_S1
  rw [if_neg (by omega), if_neg (by omega), if_neg (by omega), if_neg (by omega), if_pos rfl]
theorem ab_S1_2 : ab_S1 L xs R o (ab_scr + 132) = ab_ob 998 [.inr (.inr (some (ab_scr + rp R 52)))] := by
  unfold ab_S1
  rw [if_neg (by omega), if_neg (by omega), if_neg (by omega), if_neg (by omega), if_neg (by omega), if_pos rfl]
theorem ab_S1_3 : ab_S1 L xs R o (ab_scr + 133) = ab_ob 998 [.inr (.inr o)] := by
  unfold ab_S1
  rw [if_neg (by omega), if_neg (by omega), if_neg (by omega), if_neg (by omega), if_neg (by omega), if_neg (by omega), if_pos rfl]
end
/-- all that was there, in one: addresses R k for the places k -/
theorem ab_R_all {s : State} {A : Array Value} {b L : Nat} {xs : Nat → Int32} (hts : ∀ w ∈ lw_tbl, w.before A s = true) (hgv : (Jvm.Cond.and given_1 narrow_1).before A s = true) (hbl : b < s.heap.size) :
    ∃ (R : Nat → Nat) (v : Value), R 0 = b ∧ (∀ k, k < 64 → R k < s.heap.size) ∧ (∀ i, i < 25 → va_O "java/lang/String" (R (1 + i)) (ab_A s.heap.size) s s.heap ∧ va_OF "java/lang/String" "coder" "B" (.int 0) (R (1 + i)) (ab_A s.heap.size) s s.heap ∧ va_OF "java/lang/String" "value" "[B" (.ref (R (26 + i))) (R (1 + i)) (ab_A s.heap.size) s s.heap ∧ va_T .byte (R (26 + i)) (ab_len1.getD i 0) (fun j => .int ((ab_byt1.getD i []).getD j 0)) (ab_A s.heap.size) s s.heap) ∧
      (∀ i j, i < 25 → j < 25 → R (1 + i) = R (1 + j) → i = j) ∧ (∀ i, i < 25 → vk_R "NestedFociLaw" (ab_ixs.getD i 0) (ab_txs.getD i "") (R (1 + i)) s) ∧ (∀ k, k < 2 → va_T .byte (R (51 + k)) 100 (fun j => .int (ab_dv k j)) (ab_A s.heap.size) s s.heap) ∧
      va_Z "java/lang/String" "COMPACT_STRINGS" "Z" (.int 1) (ab_A s.heap.size) s s.heap ∧ va_Z "java/lang/Integer" "DigitOnes" "[B" (.ref (R 51)) (ab_A s.heap.size) s s.heap ∧ va_Z "java/lang/Integer" "DigitTens" "[B" (.ref (R 52)) (ab_A s.heap.size) s s.heap ∧ (v = .null ∨ ∃ t, v = .ref t) ∧ va_Z "jdk/internal/util/Preconditions" "SIOOBE_FORMATTER" "Ljava/util/function/BiFunction;" v (ab_A s.heap.size) s s.heap := by
  have hs := flat_of_before _ hgv
  have hA : ∀ a : Nat, a < s.heap.size → ¬ ab_A s.heap.size a := fun a h => Nat.not_le.mpr h
  obtain ⟨adK, adV, hE, hev⟩ := vk_Sof (N := 25) (tm := ab_tm) (len := ab_len1) (byt := ab_byt1) (A := ab_A s.heap.size) (args := A) (s := s) (by decide) (fun i hi => hs _ (fl_x i hi)) (fun i hi => hs _ (fl_c i hi)) (fun i hi => hs _ (fl_a i hi)) (fun i hi => hs _ (fl_l i hi)) (fun i hi j hj => hs _ (fl_e i hi j hj)) (fun i j hi hj hij => by
    rcases Nat.lt_or_ge j i with q | q
    · exact Or.inr (hs _ (fl_n i hi j q))
    · exact Or.inl (hs _ (fl_n j hj i (by omega)))) hA
  obtain ⟨w1, w2, w3, w4, w5, w6, w7⟩ := fl_w
  have hd : ∀ k, k < 2 → ∃ t, (ab_dg k).eval A s none [] s = some (.ref t) ∧ va_T .byte t 100 (fun j => .int (ab_dv k j)) (ab_A s.heap.size) s s.heap := fun k hk =>
    va_Tof (by decide) (hs _ (fl_d k hk).1) (va_eqt (hs _ (fl_d k hk).2)) (fun j hj => va_eqt (hs _ (fl_v k hk j hj))) hA
  obtain ⟨t1, d1, d2⟩ := hd 0 (by decide)
  obtain ⟨t2, d3, d4⟩ := hd 1 (by decide)
  have hq := va_Zqof (A := ab_A s.heap.size) (hts _ w4) (hts _ w7) (hs _ fl_s.2) hA
  have hlt : ∀ {N : Nat} {t : Nat} {f : Nat → Value}, va_T .byte t N f (ab_A s.heap.size) s s.heap → t < s.heap.size := fun h => Nat.not_le.mp h.out
  let R : Nat → Nat := fun k => if k = 0 then b else if k < 26 then adK (k - 1) else if k < 51 then adV (k - 26) else if k = 51 then t1 else if k = 52 then t2 else b
  have e0 : R 0 = b := rfl
  have e1 : ∀ i, i < 25 → R (1 + i) = adK i := fun i hi => by
    show (if 1 + i = 0 then b else if 1 + i < 26 then adK (1 + i - 1) else _) = _
    rw [if_neg (by omega), if_pos (by omega), Nat.add_sub_cancel_left]
  have e2 : ∀ i, i < 25 → R (26 + i) = adV i := fun i hi => by
    show (if 26 + i = 0 then b else if 26 + i < 26 then adK (26 + i - 1) else if 26 + i < 51 then adV (26 + i - 26) else _) = _
    rw [if_neg (by omega), if_neg (by omega), if_pos (by omega), Nat.add_sub_cancel_left]
  have e3 : R 51 = t1 := rfl
  have e4 : R 52 = t2 := rfl
  have e5 : ∀ k, 53 ≤ k → R k = b := fun k hk => by
    show (if k = 0 then b else if k < 26 then adK (k - 1) else if k < 51 then adV (k - 26) else if k = 51 then t1 else if k = 52 then t2 else b) = b
    rw [if_neg (by omega), if_neg (by omega), if_neg (by omega), if_neg (by omega), if_neg (by omega)]
  clear_value R
  have h9 : ∃ v, (v = .null ∨ ∃ t, v = .ref t) ∧ va_Z "jdk/internal/util/Preconditions" "SIOOBE_FORMATTER" "Ljava/util/function/BiFunction;" v (ab_A s.heap.size) s s.heap := by
    rcases hq with hq | ⟨t, hq⟩
    · exact ⟨_, Or.inl rfl, hq⟩
    · exact ⟨_, Or.inr ⟨t, rfl⟩, hq⟩
  obtain ⟨v, g1, g2⟩ := h9
  refine ⟨R, v, e0, fun k hk => ?_, fun i hi => ?_, fun i j hi hj he => ?_, fun i hi => ?_, fun k hk => ?_, va_Zof (hts _ w1) (hts _ w5) (va_eqi (hs _ fl_s.1)) hA, ?_, ?_, g1, g2⟩
  · rcases Nat.lt_or_ge k 1 with q | q
    · obtain rfl : k = 0 := by omega
      rw [e0]; exact hbl
    · rcases Nat.lt_or_ge k 26 with q2 | q2
      · obtain ⟨i, rfl⟩ : ∃ i, k = 1 + i := ⟨k - 1, by omega⟩
        rw [e1 i (by omega)]
        obtain ⟨cell, f1, -, -, f2⟩ := (hE.1 i (by omega)).1
        exact Nat.not_le.mp f2
      · rcases Nat.lt_or_ge k 51 with q3 | q3
        · obtain ⟨i, rfl⟩ : ∃ i, k = 26 + i := ⟨k - 26, by omega⟩
          rw [e2 i (by omega)]
          exact hlt (hE.1 i (by omega)).2.2.2
        · rcases Nat.lt_or_ge k 53 with q4 | q4
          · rcases Nat.lt_or_ge k 52 with q5 | q5
            · obtain rfl : k = 51 := by omega
              rw [e3]; exact hlt d2
            · obtain rfl : k = 52 := by omega
              rw [e4]; exact hlt d4
          · rw [e5 k q4]; exact hbl
  · rw [e1 i hi, e2 i hi]
    exact hE.1 i hi
  · rw [e1 i hi, e1 j hj] at he
    exact hE.2 i j hi hj he
  · rw [e1 i hi]
    exact vk_R.of (hts _ (fl_r i hi)) (hev i hi)
  · rcases Nat.lt_or_ge k 1 with q | q
    · obtain rfl : k = 0 := by omega
      rw [show 51 + 0 = 51 from rfl, e3]; exact d2
    · obtain rfl : k = 1 := by omega
      rw [show 51 + 1 = 52 from rfl, e4]; exact d4
  · rw [e3]; exact va_Zref (hts _ w2) (hts _ w6) d1 hA
  · rw [e4]; exact va_Zref (hts _ w3) (hts _ w6) d3 hA
/-- an address map that reaches one address more -/
theorem ab_m_at2 {b0 : Nat} {m : Nat → Nat} {k : Nat} (h : ab_bm b0 m k) (hk : k ≤ ab_scr) (t : Nat) : ∃ (m' : Nat → Nat) (a : Nat), ab_bm b0 m' k ∧ m' a = t ∧ ∀ x, x ≠ ab_scr + 70 → m' x = m x := by
  by_cases ht : ∃ a, m a = t
  · obtain ⟨a, ha⟩ := ht
    exact ⟨m, a, h, ha, fun _ _ => rfl⟩
  · refine ⟨fun x => if x = ab_scr + 70 then t else m x, ab_scr + 70, ⟨fun a h1 h2 => ?_, fun a h1 => ?_, fun a a' he => ?_⟩, if_pos rfl, fun x hx => if_neg hx⟩
    · show (if a = ab_scr + 70 then t else m a) = b0 + a
      rw [if_neg (by omega)]; exact h.1 a h1 h2
    · show b0 ≤ (if a = ab_scr + 70 then t else m a) ∧ (if a = ab_scr + 70 then t else m a) < b0 + k
      rw [if_neg (by omega)]; exact h.2.1 a h1
    · change (if a = ab_scr + 70 then t else m a) = (if a' = ab_scr + 70 then t else m a') at he
      by_cases q : a = ab_scr + 70
      · by_cases q' : a' = ab_scr + 70
        · rw [q, q']
        · rw [if_pos q, if_neg q'] at he
          exact absurd ⟨a', he.symm⟩ ht
      · by_cases q' : a' = ab_scr + 70
        · rw [if_neg q, if_pos q'] at he
          exact absurd ⟨a, he⟩ ht
        · rw [if_neg q, if_neg q'] at he
          exact h.2.2 a a' he
theorem ab_spec {s : State} {A : Array Value} {b L : Nat} {xs : Nat → Int32} {D : va_G} {cT : Nat → ClassId} (hKV : ab_KV D cT s) (hts : ∀ w ∈ lw_tbl, w.before A s = true) (hgv : (Jvm.Cond.and given_1 narrow_1).before A s = true) (hX : va_X b L xs s s.heap) (hbl : b < s.heap.size) :
    ∃ (m : Nat → Nat) (S : ab_Sp), m ab_scr = b ∧ ab_bm s.heap.size m 0 ∧ ab_ZS s.heap.size m S s s.heap ∧ S ab_scr = ab_ia 9 L xs ∧ ab_SpOk S := by
  obtain ⟨R, v, r0, rlt, rS, rI, rV, rD, z0, z1, z2, hv, z3⟩ := ab_R_all (L := L) (xs := xs) hts hgv hbl
  have hC : ClassAt s "java/lang/String" (D.1 13) := (hKV.2.1 13 (RJ0, TJ0, 4) rfl).2
  rw [← r0] at hX
  -- the places that stand for themselves
  have p0 : rp R 0 = 0 := Nat.le_zero.mp (rp_le R 0)
  have p1 : ∀ i, i < 25 → rp R (1 + i) = 1 + i := fun i hi => by
    have h1 := rp_le R (1 + i)
    have h2 := rp_eq R (1 + i)
    rcases Nat.lt_or_ge (rp R (1 + i)) 1 with q | q
    · exfalso
      have h3 : rp R (1 + i) = 0 := by omega
      rw [h3] at h2
      exact sp_XO hC hX (rS i hi).1 h2
    · obtain ⟨j, hj⟩ : ∃ j, rp R (1 + i) = 1 + j := ⟨rp R (1 + i) - 1, by omega⟩
      rw [hj] at h2
      have := rI j i (by omega) hi h2
      omega
  have p2 : ∀ i, i < 25 → ∃ j, j < 25 ∧ rp R (26 + i) = 26 + j := fun i hi => by
    have h1 := rp_le R (26 + i)
    have h2 := rp_eq R (26 + i)
    rcases Nat.lt_or_ge (rp R (26 + i)) 1 with q | q
    · exfalso
      have h3 : rp R (26 + i) = 0 := by omega
      rw [h3] at h2
      exact sp_XT hX (rS i hi).2.2.2 h2
    · rcases Nat.lt_or_ge (rp R (26 + i)) 26 with q2 | q2
      · exfalso
        obtain ⟨j, hj⟩ : ∃ j, rp R (26 + i) = 1 + j := ⟨rp R (26 + i) - 1, by omega⟩
        rw [hj] at h2
        exact sp_TO hC (rS i hi).2.2.2 (rS j (by omega)).1 h2.symm
      · exact ⟨rp R (26 + i) - 26, by omega, by omega⟩
  have p3 : ∀ k, k < 2 → ∃ j, j < 2 ∧ rp R (51 + k) = 51 + j := fun k hk => by
    have h1 := rp_le R (51 + k)
    have h2 := rp_eq R (51 + k)
    rcases Nat.lt_or_ge (rp R (51 + k)) 1 with q | q
    · exfalso
      have h3 : rp R (51 + k) = 0 := by omega
      rw [h3] at h2
      exact sp_XT hX (rD k hk) h2
    · rcases Nat.lt_or_ge (rp R (51 + k)) 26 with q2 | q2
      · exfalso
        obtain ⟨j, hj⟩ : ∃ j, rp R (51 + k) = 1 + j := ⟨rp R (51 + k) - 1, by omega⟩
        rw [hj] at h2
        exact sp_TO hC (rD k hk) (rS j (by omega)).1 h2.symm
      · rcases Nat.lt_or_ge (rp R (51 + k)) 51 with q3 | q3
        · exfalso
          obtain ⟨j, hj⟩ : ∃ j, rp R (51 + k) = 26 + j := ⟨rp R (51 + k) - 26, by omega⟩
          rw [hj] at h2
          have hj9 : j < 25 := by omega
          have h8 := (rS j hj9).2.2.2
          rw [h2] at h8
          have hl8 : ∀ i, i < 25 → ab_len1.getD i 0 ≤ 8 := by decide
          have h7 := hl8 j hj9
          have h6 := sp_TT (by omega) (by decide) h8 (rD k hk)
          omega
        · exact ⟨rp R (51 + k) - 51, by omega, by omega⟩
  have hl8 : ∀ i, i < 25 → ab_len1.getD i 0 ≤ 8 := by decide
  -- the map
  have hm0 := ab_m_bm (b0 := s.heap.size) rlt
  obtain ⟨m, o, hm, ho, hmx⟩ : ∃ (m : Nat → Nat) (o : Option Nat), ab_bm s.heap.size m 0 ∧ v = ab_pv s.heap.size m (.inr (.inr o)) ∧ ∀ x, x ≠ ab_scr + 70 → m x = ab_m s.heap.size R x := by
    rcases hv with hv | ⟨t, hv⟩
    · exact ⟨_, none, hm0, hv, fun _ _ => rfl⟩
    · obtain ⟨m, a, h1, h2, h3⟩ := ab_m_at2 hm0 (Nat.zero_le _) t
      exact ⟨m, some a, h1, by rw [hv, ← h2]; rfl, h3⟩
  have hat : ∀ k, k < 64 → m (ab_scr + rp R k) = R k := fun k hk => by
    have h1 := rp_le R k
    rw [hmx _ (by omega)]
    exact ab_m_at hk
  have hb : m ab_scr = b := by
    have := hat 0 (by decide)
    rw [p0] at this
    rw [← r0]; exact this
  have hat1 : ∀ i, i < 25 → m (ab_scr + (1 + i)) = R (1 + i) := fun i hi => by
    have := hat (1 + i) (by omega)
    rw [p1 i hi] at this
    exact this
  refine ⟨m, ab_S1 L xs R o, hb, hm, ⟨⟨L, xs, ?_, by rw [hb]; exact hbl, by rw [hb, ← r0]; exact hX⟩, fun a ha => ?_, fun i k tx hi => ?_, fun i C nn dd hi => ?_⟩, ?_, fun i hi => ?_, ab_S1_0, ?_, ?_, ⟨o, ab_S1_3⟩⟩
  · have h1 := ab_S1_at (L := L) (xs := xs) (R := R) (o := o) (k := 0) (by decide)
    rw [p0] at h1
    exact h1
  · -- each special cell
    unfold ab_S1
    split
    next q =>
      split
      next q2 =>
        generalize hj : a - ab_scr = j at q2
        obtain rfl : a = ab_scr + j := by omega
        have hj64 : j < 64 := by omega
        have hmj : m (ab_scr + j) = R j := by have := hat j hj64; rw [q2] at this; exact this
        unfold ab_cx
        split
        next e => exact Or.inl ⟨rfl, by omega⟩
        next e =>
          split
          next e2 =>
            obtain ⟨i, rfl⟩ : ∃ i, j = 1 + i := ⟨j - 1, by omega⟩
            obtain ⟨s1, s2, s3, -⟩ := rS i (by omega)
            refine Or.inr (Or.inr ⟨rfl, _, rfl, by rw [hmj]; exact s1, by rw [hmj]; exact s2, ?_⟩)
            rw [hmj, show 25 + (1 + i) = 26 + i by omega, hat (26 + i) (by omega)]
            exact s3
          next e2 =>
            split
            next e3 =>
              obtain ⟨i, rfl⟩ : ∃ i, j = 26 + i := ⟨j - 26, by omega⟩
              refine Or.inr ⟨rfl, ?_⟩
              rw [hmj, Nat.add_sub_cancel_left]
              have h5 := (rS i (by omega)).2.2.2
              have hlen := hl8 i (by omega)
              obtain ⟨cell, g1, g2, g3, g4, g5, g6, g7⟩ := h5
              refine ⟨cell, g1, g2, g3, g4, g5, fun x hx => ?_, g7⟩
              show cell.slots[x]? = some (Value.int ((ab_byt1.getD i []).getD x 0).toInt8.toInt32)
              rw [fl_b i (by omega) x (by omega)]
              exact g6 x hx
            next e3 =>
              split
              next e4 =>
                obtain ⟨i, rfl⟩ : ∃ i, j = 51 + i := ⟨j - 51, by omega⟩
                refine Or.inr ⟨rfl, ?_⟩
                rw [hmj, Nat.add_sub_cancel_left]
                obtain ⟨cell, g1, g2, g3, g4, g5, g6, g7⟩ := rD i (by omega)
                refine ⟨cell, g1, g2, g3, g4, g5, fun x hx => ?_, g7⟩
                show cell.slots[x]? = some (Value.int (ab_dv i x).toInt8.toInt32)
                rw [fl_b2 i (by omega) x hx]
                exact g6 x hx
              next => exact Or.inl rfl
      next => exact Or.inl rfl
    next =>
      split
      next => exact Or.inl rfl
      next =>
        split
        next => exact Or.inr (Or.inl rfl)
        next =>
          split
          next => exact Or.inr (Or.inl rfl)
          next =>
            split
            next => exact Or.inr (Or.inl rfl)
            next =>
              split
              next => exact Or.inr (Or.inl rfl)
              next =>
                split
                next => exact Or.inr (Or.inl rfl)
                next => exact Or.inl rfl
  · have hl : i < 25 := (List.getElem?_eq_some_iff.mp hi).1
    have h1 := hi.symm.trans (fl_q i hl)
    cases h1
    refine ⟨_, ab_S1_p hl, ?_⟩
    rw [p1 i hl, hat1 i hl]
    exact rV i hl
  · have hl : i < 4 := (List.getElem?_eq_some_iff.mp hi).1
    have hat2 : ∀ k, k < 2 → m (ab_scr + rp R (51 + k)) = R (51 + k) := fun k hk => hat _ (by omega)
    match i, hl, hi with
    | 0, _, hi =>
      cases hi
      exact ⟨_, ab_S1_0, z0⟩
    | 1, _, hi =>
      cases hi
      refine ⟨_, ab_S1_1, ?_⟩
      show va_Z _ _ _ (.ref (m (ab_scr + rp R (51 + 0)))) _ _ _
      rw [hat2 0 (by decide)]
      exact z1
    | 2, _, hi =>
      cases hi
      refine ⟨_, ab_S1_2, ?_⟩
      show va_Z _ _ _ (.ref (m (ab_scr + rp R (51 + 1)))) _ _ _
      rw [hat2 1 (by decide)]
      exact z2
    | 3, _, hi =>
      cases hi
      exact ⟨_, ab_S1_3, by rw [← ho]; exact z3⟩
  · have h1 := ab_S1_at (L := L) (xs := xs) (R := R) (o := o) (k := 0) (by decide)
    rw [p0] at h1
    exact h1
  · obtain ⟨j, hj, hj2⟩ := p2 i hi
    refine ⟨ab_scr + rp R (1 + i), ab_scr + rp R (26 + i), ab_len1.getD j 0, fun k => (ab_byt1.getD j []).getD k 0, ab_S1_p hi, Nat.le_add_right _ _, ?_, Nat.le_add_right _ _, ?_, ?_⟩
    · rw [ab_S1_at (by omega), p1 i hi]
      unfold ab_cx
      rw [if_neg (by omega), if_pos (by omega), show 25 + (1 + i) = 26 + i by omega]
    · rw [ab_S1_at (by omega), hj2]
      unfold ab_cx
      rw [if_neg (by omega), if_neg (by omega), if_pos (by omega), Nat.add_sub_cancel_left]
    · have h8 := (rS j hj).2.2.2
      have e8 := rp_eq R (26 + i)
      rw [hj2] at e8
      rw [e8] at h8
      exact sp_TT (by have := hl8 j hj; omega) (by have := hl8 i hi; omega) h8 (rS i hi).2.2.2
  · obtain ⟨j, hj, hj2⟩ := p3 0 (by decide)
    refine ⟨ab_scr + rp R 51, ab_dv j, ab_S1_1, Nat.le_add_right _ _, ?_⟩
    rw [ab_S1_at (by decide), show (51 : Nat) = 51 + 0 from rfl, hj2]
    unfold ab_cx
    rw [if_neg (by omega), if_neg (by omega), if_neg (by omega), if_pos (by omega), Nat.add_sub_cancel_left]
  · obtain ⟨j, hj, hj2⟩ := p3 1 (by decide)
    refine ⟨ab_scr + rp R 52, ab_dv j, ab_S1_2, Nat.le_add_right _ _, ?_⟩
    rw [ab_S1_at (by decide), show (52 : Nat) = 51 + 1 from rfl, hj2]
    unfold ab_cx
    rw [if_neg (by omega), if_neg (by omega), if_neg (by omega), if_pos (by omega), Nat.add_sub_cancel_left]
/-! ===== the machine's start (own text) ===== -/
def ab_h0 (S : ab_Sp) : ab_H := (fun a => cond (Nat.blt a ab_scr) (ab_ob 999 []) (S a), 0, 0)
theorem ab_Rl_0 {D : va_G} {cT : Nat → ClassId} {b0 : Nat} {b : Nat → Nat} {S : ab_Sp} {H : Heap} (hH : H.size = b0) (hm : ab_bm b0 b 0) : ab_Rl D cT b0 b S (ab_h0 S) H := by
  refine ⟨hH, Nat.zero_le _, Nat.zero_le _, fun a ha => ?_, fun a _ ha => ?_, fun a ha => absurd ha (Nat.not_lt_zero _), fun k q hq => ?_, hm⟩
  · show cond (Nat.blt a ab_scr) (ab_ob 999 []) (S a) = S a
    cases e : Nat.blt a ab_scr with
    | false => rfl
    | true => exact absurd (Nat.le_of_ble_eq_true e) (by omega)
  · show cond (Nat.blt a ab_scr) (ab_ob 999 []) (S a) = _
    have e : Nat.blt a ab_scr = true := Nat.ble_eq.mpr ha
    rw [e]
    rfl
  · obtain ⟨h1, -⟩ := ab_ws_of hq
    exact absurd h1 (Nat.not_lt_zero _)
theorem ab_forget {s t : State} {o : Outcome} {Lc : List Loc} {mc ms : Nat} (h : FrameEnd s o t Lc mc ms) (hL : ∀ q ∈ Lc, s.heap.size ≤ q.base) (hc : mc ≤ 600000) (hs : ms ≤ 5000000) : Framed s o t [] 867806 6498830 :=
  ⟨h.1, h.2.1, h.2.2.weaken (fun x hx hlt => absurd (hL x hx) (Nat.not_le.mpr hlt)) (by omega) (by omega)⟩
theorem ab_hasRoom {s : State} {pl : Platform} {r r' : Room} (h : s.hasRoom pl r = true) (h1 : r'.frames ≤ r.frames) (h2 : r'.cells ≤ r.cells) (h3 : r'.slots ≤ r.slots) (h4 : r'.locals ≤ r.locals) : s.hasRoom pl r' = true := by
  simp only [State.hasRoom, Bool.and_eq_true, decide_eq_true_eq] at h ⊢
  obtain ⟨⟨⟨⟨a1, a2, a3, a4, a5, a6⟩, a7⟩, a8⟩, a9⟩ := h
  exact ⟨⟨⟨⟨by omega, by omega, by omega, by omega, by omega, a6⟩, by omega⟩, by omega⟩, a9⟩
theorem ab_Wless {p : Program} {l : Launch} {e : Env} {R R' : Room} {s : State} {m : MethodId} {args : Array Value} {below : List Frame} {meth : Method} {c : Code} {H : Heap} {locs : List Loc} {cells slots : Nat} {Q : State → Prop} {g : JFrame} (h1 : R'.frames ≤ R.frames) (h2 : R'.cells ≤ R.cells) (h3 : R'.slots ≤ R.slots) (h4 : R'.locals ≤ R.locals) (k : W p l e R' s m args below meth c H locs cells slots Q g) : W p l e R s m args below meth c H locs cells slots Q g := by
  intro T hT X
  exact k T hT { X with room := ab_hasRoom X.room h1 h2 h3 h4 }
