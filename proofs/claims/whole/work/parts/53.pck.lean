/-! ===== packing a good alike ===== -/
theorem ld_eq {w s : Nat → Int32} {G pb q : Nat} (h : ∀ g, g < G → s (27 + g) = bI (pb.testBit g)) : ldP w s G pb q = hvM w s G q := by
  unfold ldP lodB hvM
  refine nSum_congr (fun g hg => ?_)
  rw [Nat.testBit_and, ownB_bit, decide_eq_true hg, Bool.true_and]
  have e : s (27 + g) = nI 1 ↔ pb.testBit g = true := by rw [h g hg]; exact bI_n1' _
  by_cases c : s (19 + g) = nI q ∧ s (27 + g) = nI 1
  · rw [if_pos c, if_pos (by rw [decide_eq_true c.1, e.mp c.2]; rfl)]
  · rw [if_neg c, if_neg (fun z => c (by
      rw [Bool.and_eq_true, decide_eq_true_eq] at z
      exact ⟨z.1, e.mpr z.2⟩))]
theorem hv_on {w s : Nat → Int32} {G q g : Nat} (hG : G ≤ 8) (hg : g < G) (ho : s (19 + g) = nI q) (hp : ¬ s (27 + g) = nI 1) : hvM w (up s (27 + g) (nI 1)) G q = hvM w s G q + w (45 + g) := by
  unfold hvM
  rw [nSum_one (g := fun g => if s (19 + g) = nI q ∧ s (27 + g) = nI 1 then w (45 + g) else 0) hg (fun k hk hkg => by rw [up_ne (by omega), up_ne (by omega)])]
  rw [up_ne (by omega), up_eq, if_neg (fun z => hp z.2), if_pos ⟨ho, rfl⟩, Int32.sub_zero]
theorem hv_off {w s : Nat → Int32} {G q g : Nat} (hG : G ≤ 8) (hg : g < G) (ho : s (19 + g) = nI q) (hp : s (27 + g) = nI 1) : hvM w (up s (27 + g) (nI 0)) G q = hvM w s G q - w (45 + g) := by
  unfold hvM
  rw [nSum_one (g := fun g => if s (19 + g) = nI q ∧ s (27 + g) = nI 1 then w (45 + g) else 0) hg (fun k hk hkg => by rw [up_ne (by omega), up_ne (by omega)])]
  rw [up_ne (by omega), up_eq, if_pos ⟨ho, hp⟩, if_neg (fun z => absurd z.2 (by decide)), Int32.add_zero]
