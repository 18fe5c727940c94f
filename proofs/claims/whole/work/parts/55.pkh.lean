/-! ===== packing alike: the search ===== -/
theorem blS_eq {w s : Nat → Int32} {N G hb i b : Nat} {q : Nat × Int32} (hG : G ≤ 8) (hb2 : b < 2 ^ G) : blS w s N G hb i b q = if pmC w s N G hb i b q.2 = true then (b, pmO w s N G hb i b) else q := by
  have h256 : b < 256 := Nat.lt_of_lt_of_le hb2 (show 2 ^ G ≤ 2 ^ 8 from Nat.pow_le_pow_right (by decide) hG)
  unfold blS
  rw [owP_eq hG]
  by_cases c : dif b (mineB w s G G i) = 0 ∧ ¬ w (15 + i) < lodB w G b
  · have hm := ((may_eq hG h256).mp c.1).2
    rw [if_pos c]
    by_cases h3 : pmO w s N G hb i b < q.2
    · rw [if_neg (Int32.not_le.mpr h3), if_pos (pmC_1 hm c.2 h3), if_neg (fun z => Int32.lt_irrefl (Int32.lt_trans z h3))]
    · rw [if_pos (Int32.not_lt.mp h3), if_neg (show ¬ pmC w s N G hb i b q.2 = true by rw [pmC_4 h3]; decide)]
      by_cases h4 : q.2 < pmO w s N G hb i b
      · rw [if_pos h4]
      · rw [if_neg h4, ← Int32.le_antisymm (Int32.not_lt.mp h3) (Int32.not_lt.mp h4)]
  · rw [if_neg c]
    have : pmC w s N G hb i b q.2 = false := by
      by_cases h1 : mayM w s i b G = true
      · exact pmC_3 (Classical.byContradiction (fun z => c ⟨(may_eq hG h256).mpr ⟨hb2, h1⟩, z⟩))
      · exact pmC_2 (by simpa using h1)
    rw [if_neg (by rw [this]; decide)]
theorem blS_up {w s : Nat → Int32} {N G hb i b : Nat} {q : Nat × Int32} (hG : G ≤ 8) (hb2 : 2 ^ G ≤ b) (h256 : b < 256) : blS w s N G hb i b q = q := by
  unfold blS
  rw [if_neg (fun z => by have := ((may_eq hG h256).mp z.1).1; omega)]
theorem pmO_n {w s : Nat → Int32} {N G hb i b : Nat} (hk : wOk w N G) (hi : i < N) : ∃ k, k < 4096 ∧ pmO w s N G hb i b = nI k := by
  have hG := hk.1.2.2.2.2
  have h1 := lLeft_b (b := hb) hk hi
  have h2 := nSum_b (t := fun g => if s (19 + g) = nI i ∧ b.testBit g = false then cnt w g else 0) (a := 40) (b := 120) (n := G) (by decide) (by decide) (by omega) (fun g hg => by
    show _ ≤ (if s (19 + g) = nI i ∧ b.testBit g = false then cnt w g else 0).toInt ∧ (if s (19 + g) = nI i ∧ b.testBit g = false then cnt w g else 0).toInt ≤ _
    by_cases hc : s (19 + g) = nI i ∧ b.testBit g = false
    · rw [if_pos hc]; exact cnt_b hk hg
    · rw [if_neg hc, i0]; omega)
  have m1 : G * 40 ≤ 8 * 40 := Nat.mul_le_mul hG (Nat.le_refl _)
  have m2 : G * 120 ≤ 8 * 120 := Nat.mul_le_mul hG (Nat.le_refl _)
  refine duty_n hk ?_
  unfold pkS
  rw [i_add (by omega) (by omega)]
  omega
theorem lod_0 (w : Nat → Int32) : ∀ n, lodB w n 0 = 0
  | 0 => rfl
  | n + 1 => by rw [lod_s, lod_0 w n, Nat.zero_testBit]; rfl
theorem may_0 (w s : Nat → Int32) (i n : Nat) : mayM w s i 0 n = true := (may_iff w s i 0 n).mpr (fun k _ h => by rw [Nat.zero_testBit] at h; exact absurd h (by decide))
theorem pmQ_1 {w s : Nat → Int32} {N G hb i : Nat} (hk : wOk w N G) (hi : i < N) : pmQ w s N G hb i 1 = (0, pmO w s N G hb i 0) := by
  refine pmQ_t (n := 0) (pmC_1 (may_0 w s i G) ?_ ?_)
  · obtain ⟨k, _, e⟩ := hk.2.2.2.2.1 i hi
    rw [lod_0, e]
    intro z
    rw [← nI_0] at z
    exact nn_n (by omega) z
  · obtain ⟨k, h1, h2⟩ := pmO_n (s := s) (hb := hb) (b := 0) hk hi
    rw [h2]
    exact (nI_ltI (by omega) (by decide)).mpr (by omega)
theorem bl_eq {w s : Nat → Int32} {N G hb i : Nat} (hk : wOk w N G) (hi : i < N) : ∀ n, n + 1 ≤ 2 ^ G → blF w s N G hb i n = pmQ w s N G hb i (n + 1)
  | 0, _ => by
    rw [pmQ_1 hk hi]
    show (0, owP w s N G hb i 0) = _
    rw [owP_eq hk.1.2.2.2.2]
  | n + 1, h => by
    rw [blF_s, bl_eq hk hi n (by omega), blS_eq hk.1.2.2.2.2 (by omega)]
    rfl
theorem bl_up {w s : Nat → Int32} {N G hb i n : Nat} (hG : G ≤ 8) : ∀ k, n + 1 = 2 ^ G → n + k ≤ 255 → blF w s N G hb i (n + k) = blF w s N G hb i n
  | 0, _, _ => rfl
  | k + 1, h, h2 => by
    rw [← Nat.add_assoc, blF_s, blS_up hG (by omega) (by omega)]
    exact bl_up hG k h (by omega)
theorem pmQ_o {w s : Nat → Int32} {N G hb i : Nat} (hk : wOk w N G) (hi : i < N) : ∀ n, (pmQ w s N G hb i (n + 1)).2 = pmO w s N G hb i (pmQ w s N G hb i (n + 1)).1
  | 0 => by rw [pmQ_1 hk hi]
  | n + 1 => by
    cases hc : pmC w s N G hb i (n + 1) (pmQ w s N G hb i (n + 1)).2 with
    | true => rw [pmQ_t hc]
    | false => rw [pmQ_f hc]; exact pmQ_o hk hi n
theorem packing_eq {w s : Nat → Int32} {N G hb i : Nat} (hk : wOk w N G) (hi : i < N) : (blF w s N G hb i 255).1 = (pmQ w s N G hb i (2 ^ G)).1 ∧ owP w s N G hb i (blF w s N G hb i 255).1 = (pmQ w s N G hb i (2 ^ G)).2 := by
  have hG := hk.1.2.2.2.2
  have hp : 1 ≤ 2 ^ G := Nat.one_le_two_pow
  have h256 : 2 ^ G ≤ 256 := show 2 ^ G ≤ 2 ^ 8 from Nat.pow_le_pow_right (by decide) hG
  have e1 := bl_up (w := w) (s := s) (N := N) (hb := hb) (i := i) (n := 2 ^ G - 1) hG (256 - 2 ^ G) (by omega) (by omega)
  rw [show 2 ^ G - 1 + (256 - 2 ^ G) = 255 by omega] at e1
  have e2 := bl_eq (s := s) (hb := hb) hk hi (2 ^ G - 1) (by omega)
  have e3 := pmQ_o (s := s) (hb := hb) hk hi (2 ^ G - 1)
  rw [show 2 ^ G - 1 + 1 = 2 ^ G by omega] at e2 e3
  rw [e1, e2, owP_eq hG]
  exact ⟨rfl, e3.symm⟩
