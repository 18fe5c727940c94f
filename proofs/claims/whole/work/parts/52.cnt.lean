/-! ===== counting alike ===== -/
theorem nFold_up {α : Type} {f : Nat → α → α} {a : α} {G : Nat} : ∀ {M : Nat}, G ≤ M → (∀ k x, G ≤ k → k < M → f k x = x) → nFold M f a = nFold G f a
  | 0, h, _ => by rw [show G = 0 by omega]
  | M + 1, h, hf => by
    by_cases e : G = M + 1
    · rw [e]
    · show f M (nFold M f a) = _
      rw [hf M _ (by omega) (by omega)]
      exact nFold_up (by omega) (fun k x a b => hf k x a (by omega))
theorem bI_n1' (b : Bool) : bI b = nI 1 ↔ b = true := by cases b <;> decide
theorem pkN_eq {s : Nat → Int32} {G pb : Nat} (hG : G ≤ 8) (hp : pb < 2 ^ G) (h : ∀ g, g < G → s (27 + g) = bI (pb.testBit g)) : pkN s G = pop pb := by
  unfold pop pkN
  rw [nFold_up (G := G) hG (fun k x a b => by
    rw [if_neg]
    rw [Nat.testBit_lt_two_pow (Nat.lt_of_lt_of_le hp (Nat.pow_le_pow_right (by decide) a))]
    decide)]
  refine nFold_cg (fun g n hg => ?_)
  have e : s (27 + g) = nI 1 ↔ pb.testBit g = true := by rw [h g hg]; exact bI_n1' _
  by_cases c : pb.testBit g = true
  · rw [if_pos c, if_pos (e.mpr c)]
  · rw [if_neg c, if_neg (fun z => c (e.mp z))]
