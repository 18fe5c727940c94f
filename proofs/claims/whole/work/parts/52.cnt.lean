/-! ===== counting alike ===== -/
theorem nFold_up {α : Type} {f : Nat → α → α} {a : α} {G : Nat} : ∀ {M : Nat}, G ≤ M → (∀ k x, G ≤ k → k < M → f k x = x) → nFold M f a = nFold G f a
  | 0, h, _ => by rw [show G = 0 by omega]
  | M + 1, h, hf => by
    by_cases e : G = M + 1
    · rw [e]
    · show f M (nFold M f a) = _
      rw [hf M _ (by omega) (by omega)]
      exact nFold_up (by omega) (fun k x a b => hf k x a (by omega))
theorem bI_n1' (b : Bool) : bI b = nI 1 ↔ b = true := by cases b <;> decide
theorem pkN_eq {s : Nat → Int32} {G pb : Nat} (hG : G ≤ 8) (hp : pb < 2 ^ G) (h : ∀ g, g < G → s (27 + g) = bI (pb.testBit g)) : pkN s G = pop pb := by
  unfold pop pkN
  rw [nFold_up (G := G) hG (fun k x a b => by
    rw [if_neg]
    rw [Nat.testBit_lt_two_pow (Nat.lt_of_lt_of_le hp (Nat.pow_le_pow_right (by decide) a))]
    decide)]
  refine nFold_cg (fun g n hg => ?_)
  have e : s (27 + g) = nI 1 ↔ pb.testBit g = true := by rw [h g hg]; exact bI_n1' _
  by_cases c : pb.testBit g = true
  · rw [if_pos c, if_pos (e.mpr c)]
  · rw [if_neg c, if_neg (fun z => c (e.mp z))]
theorem ownB_bit (s : Nat → Int32) (x : Int32) (g : Nat) : ∀ G, (ownB s G x).testBit g = (decide (g < G) && decide (s (19 + g) = x))
  | 0 => by simp [ownB, nFold]
  | G + 1 => by
    have ih := ownB_bit s x g G
    show (if s (19 + G) = x then ownB s G x ||| 2 ^ G else ownB s G x).testBit g = _
    by_cases h : s (19 + G) = x
    · rw [if_pos h, Nat.testBit_or, ih, Nat.testBit_two_pow]
      by_cases e : G = g
      · subst e
        simp [h]
      · simp [e, show (g < G + 1) ↔ (g < G) by omega]
    · rw [if_neg h, ih]
      by_cases e : G = g
      · subst e
        simp [h]
      · simp [show (g < G + 1) ↔ (g < G) by omega]
theorem noN_eq {s : Nat → Int32} {G : Nat} (hG : G ≤ 8) : noN s G = pop (ownB s G (-4)) := by
  unfold pop noN
  rw [nFold_up (G := G) hG (fun k x a b => by
    rw [ownB_bit, decide_eq_false (show ¬ k < G by omega)]
    rfl)]
  refine nFold_cg (fun g n hg => ?_)
  rw [ownB_bit, decide_eq_true hg, Bool.true_and]
  by_cases c : s (19 + g) = -4
  · rw [if_pos c, if_pos (decide_eq_true c)]
  · rw [if_neg c, if_neg (by rw [decide_eq_false c]; decide)]
