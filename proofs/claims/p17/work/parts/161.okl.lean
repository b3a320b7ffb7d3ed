/-! ===== the law's own list is its code, by pieces ===== -/
def ab_end : Nat → List ab_E → Nat
  | p, [] => p
  | p, (_, _, _, len, _, _, _) :: t => ab_end (p + len) t
theorem ab_chn_tk {n : Nat} : ∀ (j p q : Nat) (l : List ab_E), ab_chn n p (l.take j) = true → ab_end p (l.take j) = q → ab_chn n q (l.drop j) = true → ab_chn n p l = true
  | 0, p, q, l, _, h2, h3 => by
    rw [List.take_zero] at h2
    have h4 : p = q := h2
    rw [h4]; exact h3
  | j + 1, p, q, [], _, _, _ => rfl
  | j + 1, p, q, (mk0, pc', ins, len, a1, a2, sw) :: t, h1, h2, h3 => by
    have h1' : (Nat.beq pc' p && decide (decode (ab_bt n) p = .ok (ins, len)) && ab_ck n p ins len a1 a2 sw && ab_chn n (p + len) (t.take j)) = true := h1
    rw [Bool.and_eq_true] at h1'
    have h4 := ab_chn_tk j (p + len) q t h1'.2 h2 h3
    show (Nat.beq pc' p && decide (decode (ab_bt n) p = .ok (ins, len)) && ab_ck n p ins len a1 a2 sw && ab_chn n (p + len) t) = true
    rw [h1'.1, h4]; rfl
set_option maxRecDepth 100000 in
theorem okc0 : ab_chn iL_law 0 (kL_law.take 80) = true := by decide +kernel
set_option maxRecDepth 100000 in
theorem oke0 : ab_end 0 (kL_law.take 80) = 196 := by decide +kernel
set_option maxRecDepth 100000 in
theorem okc1 : ab_chn iL_law 196 ((kL_law.drop 80).take 80) = true := by decide +kernel
set_option maxRecDepth 100000 in
theorem oke1 : ab_end 196 ((kL_law.drop 80).take 80) = 288 := by decide +kernel
set_option maxRecDepth 100000 in
theorem okc2 : ab_chn iL_law 288 (((kL_law.drop 80).drop 80).take 80) = true := by decide +kernel
set_option maxRecDepth 100000 in
theorem oke2 : ab_end 288 (((kL_law.drop 80).drop 80).take 80) = 378 := by decide +kernel
set_option maxRecDepth 100000 in
theorem okc3 : ab_chn iL_law 378 ((((kL_law.drop 80).drop 80).drop 80).take 80) = true := by decide +kernel
set_option maxRecDepth 100000 in
theorem oke3 : ab_end 378 ((((kL_law.drop 80).drop 80).drop 80).take 80) = 472 := by decide +kernel
set_option maxRecDepth 100000 in
theorem okc4 : ab_chn iL_law 472 (((((kL_law.drop 80).drop 80).drop 80).drop 80).take 80) = true := by decide +kernel
set_option maxRecDepth 100000 in
theorem oke4 : ab_end 472 (((((kL_law.drop 80).drop 80).drop 80).drop 80).take 80) = 564 := by decide +kernel
set_option maxRecDepth 100000 in
theorem okc5 : ab_chn iL_law 564 ((((((kL_law.drop 80).drop 80).drop 80).drop 80).drop 80).take 80) = true := by decide +kernel
set_option maxRecDepth 100000 in
theorem oke5 : ab_end 564 ((((((kL_law.drop 80).drop 80).drop 80).drop 80).drop 80).take 80) = 656 := by decide +kernel
set_option maxRecDepth 100000 in
theorem okc6 : ab_chn iL_law 656 (((((((kL_law.drop 80).drop 80).drop 80).drop 80).drop 80).drop 80).take 80) = true := by decide +kernel
set_option maxRecDepth 100000 in
theorem oke6 : ab_end 656 (((((((kL_law.drop 80).drop 80).drop 80).drop 80).drop 80).drop 80).take 80) = 752 := by decide +kernel
set_option maxRecDepth 100000 in
theorem okc7 : ab_chn iL_law 752 ((((((((kL_law.drop 80).drop 80).drop 80).drop 80).drop 80).drop 80).drop 80).take 80) = true := by decide +kernel
set_option maxRecDepth 100000 in
theorem okz : ab_chn iL_law 849 ((((((((kL_law.drop 80).drop 80).drop 80).drop 80).drop 80).drop 80).drop 80).drop 80) = true := by decide +kernel
set_option maxRecDepth 100000 in
theorem oke7 : ab_end 752 ((((((((kL_law.drop 80).drop 80).drop 80).drop 80).drop 80).drop 80).drop 80).take 80) = 849 := by decide +kernel
theorem okd : ab_kd iL_law = kL_law := rfl
theorem okch : ab_chn iL_law 0 kL_law = true := (ab_chn_tk 80 _ _ _ okc0 oke0 (ab_chn_tk 80 _ _ _ okc1 oke1 (ab_chn_tk 80 _ _ _ okc2 oke2 (ab_chn_tk 80 _ _ _ okc3 oke3 (ab_chn_tk 80 _ _ _ okc4 oke4 (ab_chn_tk 80 _ _ _ okc5 oke5 (ab_chn_tk 80 _ _ _ okc6 oke6 (ab_chn_tk 80 _ _ _ okc7 oke7 okz))))))))
set_option maxRecDepth 100000 in
theorem okL_law : ab_ok iL_law := ⟨okd ▸ okch, (List.forall_mem_cons.mpr ⟨wd_669, (List.forall_mem_cons.mpr ⟨wd_670, (List.forall_mem_cons.mpr ⟨wd_671, (List.forall_mem_cons.mpr ⟨wd_672, (List.forall_mem_cons.mpr ⟨wd_673, (List.forall_mem_cons.mpr ⟨wd_674, (List.forall_mem_cons.mpr ⟨wd_675, (List.forall_mem_cons.mpr ⟨wd_676, (List.forall_mem_cons.mpr ⟨wd_677, (List.forall_mem_cons.mpr ⟨wd_678, (List.forall_mem_cons.mpr ⟨wd_679, (List.forall_mem_cons.mpr ⟨wd_680, (List.forall_mem_cons.mpr ⟨wd_681, (List.forall_mem_cons.mpr ⟨wd_682, (List.forall_mem_cons.mpr ⟨wd_683, (List.forall_mem_cons.mpr ⟨wd_684, (List.forall_mem_cons.mpr ⟨wd_685, (List.forall_mem_cons.mpr ⟨wd_686, (List.forall_mem_cons.mpr ⟨wd_687, (List.forall_mem_cons.mpr ⟨wd_688, (List.forall_mem_cons.mpr ⟨wd_689, (List.forall_mem_cons.mpr ⟨wd_690, (List.forall_mem_cons.mpr ⟨wd_691, (List.forall_mem_cons.mpr ⟨wd_692, (List.forall_mem_cons.mpr ⟨wd_693, (List.forall_mem_cons.mpr ⟨wd_694, (List.forall_mem_cons.mpr ⟨wd_695, (List.forall_mem_cons.mpr ⟨wd_696, (List.forall_mem_cons.mpr ⟨wd_697, (List.forall_mem_cons.mpr ⟨wd_698, (List.forall_mem_cons.mpr ⟨wd_699, (List.forall_mem_cons.mpr ⟨wd_700, (List.forall_mem_cons.mpr ⟨wd_701, (List.forall_mem_cons.mpr ⟨wd_702, (List.forall_mem_cons.mpr ⟨wd_703, (List.forall_mem_cons.mpr ⟨wd_704, (List.forall_mem_cons.mpr ⟨wd_705, (List.forall_mem_cons.mpr ⟨wd_706, (List.forall_mem_cons.mpr ⟨wd_707, (List.forall_mem_cons.mpr ⟨wd_708, (List.forall_mem_cons.mpr ⟨wd_709, (List.forall_mem_cons.mpr ⟨wd_710, (List.forall_mem_cons.mpr ⟨wd_711, (List.forall_mem_cons.mpr ⟨wd_712, (List.forall_mem_cons.mpr ⟨wd_713, (List.forall_mem_cons.mpr ⟨wd_714, (List.forall_mem_cons.mpr ⟨wd_715, (List.forall_mem_cons.mpr ⟨wd_716, (List.forall_mem_cons.mpr ⟨wd_717, (List.forall_mem_cons.mpr ⟨wd_718, (List.forall_mem_cons.mpr ⟨wd_719, (List.forall_mem_cons.mpr ⟨wd_720, (List.forall_mem_cons.mpr ⟨wd_721, (List.forall_mem_cons.mpr ⟨wd_722, (List.forall_mem_cons.mpr ⟨wd_723, (List.forall_mem_cons.mpr ⟨wd_724, (List.forall_mem_cons.mpr ⟨wd_725, (List.forall_mem_cons.mpr ⟨wd_726, (List.forall_mem_cons.mpr ⟨wd_727, (List.forall_mem_cons.mpr ⟨wd_728, (List.forall_mem_cons.mpr ⟨wd_729, (List.forall_mem_cons.mpr ⟨wd_730, (List.forall_mem_cons.mpr ⟨wd_731, (List.forall_mem_cons.mpr ⟨wd_732, (List.forall_mem_cons.mpr ⟨wd_733, (List.forall_mem_cons.mpr ⟨wd_734, (List.forall_mem_cons.mpr ⟨wd_735, (List.forall_mem_cons.mpr ⟨wd_736, (List.forall_mem_cons.mpr ⟨wd_737, (List.forall_mem_cons.mpr ⟨wd_738, (List.forall_mem_cons.mpr ⟨wd_739, (List.forall_mem_cons.mpr ⟨wd_740, (List.forall_mem_cons.mpr ⟨wd_741, (List.forall_mem_cons.mpr ⟨wd_742, (List.forall_mem_cons.mpr ⟨wd_743, (List.forall_mem_cons.mpr ⟨wd_744, (List.forall_mem_cons.mpr ⟨wd_745, (List.forall_mem_cons.mpr ⟨wd_746, (List.forall_mem_cons.mpr ⟨wd_747, (List.forall_mem_cons.mpr ⟨wd_748, (List.forall_mem_cons.mpr ⟨wd_749, (List.forall_mem_cons.mpr ⟨wd_750, (List.forall_mem_cons.mpr ⟨wd_751, (List.forall_mem_cons.mpr ⟨wd_752, (List.forall_mem_cons.mpr ⟨wd_753, (List.forall_mem_cons.mpr ⟨wd_754, (List.forall_mem_cons.mpr ⟨wd_755, (List.forall_mem_cons.mpr ⟨wd_756, (List.forall_mem_cons.mpr ⟨wd_757, (List.forall_mem_cons.mpr ⟨wd_758, (List.forall_mem_cons.mpr ⟨wd_759, (List.forall_mem_cons.mpr ⟨wd_760, (List.forall_mem_cons.mpr ⟨wd_761, (List.forall_mem_cons.mpr ⟨wd_762, (List.forall_mem_cons.mpr ⟨wd_763, (List.forall_mem_cons.mpr ⟨wd_764, (List.forall_mem_cons.mpr ⟨wd_765, (List.forall_mem_cons.mpr ⟨wd_766, (List.forall_mem_cons.mpr ⟨wd_767, (List.forall_mem_cons.mpr ⟨wd_768, (List.forall_mem_cons.mpr ⟨wd_769, (List.forall_mem_cons.mpr ⟨wd_770, (List.forall_mem_cons.mpr ⟨wd_771, (List.forall_mem_cons.mpr ⟨wd_772, (List.forall_mem_cons.mpr ⟨wd_773, (List.forall_mem_cons.mpr ⟨wd_774, (List.forall_mem_cons.mpr ⟨wd_775, (List.forall_mem_cons.mpr ⟨wd_776, (List.forall_mem_cons.mpr ⟨wd_777, (List.forall_mem_cons.mpr ⟨wd_778, (List.forall_mem_cons.mpr ⟨wd_779, (List.forall_mem_cons.mpr ⟨wd_780, (List.forall_mem_cons.mpr ⟨wd_781, (List.forall_mem_cons.mpr ⟨wd_782, (List.forall_mem_cons.mpr ⟨wd_783, (List.forall_mem_cons.mpr ⟨wd_784, (List.forall_mem_cons.mpr ⟨wd_785, (List.forall_mem_cons.mpr ⟨wd_786, (List.forall_mem_cons.mpr ⟨wd_787, (List.forall_mem_cons.mpr ⟨wd_788, (List.forall_mem_cons.mpr ⟨wd_789, (List.forall_mem_cons.mpr ⟨wd_790, (List.forall_mem_cons.mpr ⟨wd_791, (List.forall_mem_cons.mpr ⟨wd_792, (fun _ h => absurd h List.not_mem_nil)⟩)⟩)⟩)⟩)⟩)⟩)⟩)⟩)⟩)⟩)⟩)⟩)⟩)⟩)⟩)⟩)⟩)⟩)⟩)⟩)⟩)⟩)⟩)⟩)⟩)⟩)⟩)⟩)⟩)⟩)⟩)⟩)⟩)⟩)⟩)⟩)⟩)⟩)⟩)⟩)⟩)⟩)⟩)⟩)⟩)⟩)⟩)⟩)⟩)⟩)⟩)⟩)⟩)⟩)⟩)⟩)⟩)⟩)⟩)⟩)⟩)⟩)⟩)⟩)⟩)⟩)⟩)⟩)⟩)⟩)⟩)⟩)⟩)⟩)⟩)⟩)⟩)⟩)⟩)⟩)⟩)⟩)⟩)⟩)⟩)⟩)⟩)⟩)⟩)⟩)⟩)⟩)⟩)⟩)⟩)⟩)⟩)⟩)⟩)⟩)⟩)⟩)⟩)⟩)⟩)⟩)⟩)⟩)⟩)⟩)⟩)⟩)⟩)⟩)⟩)⟩)⟩)⟩)⟩)⟩)⟩)⟩)⟩)⟩)⟩
