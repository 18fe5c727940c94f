/-! ===== packing alike ===== -/
theorem mine_bit (w s : Nat → Int32) {G i k : Nat} (hG : G ≤ 8) (hk : k < 8) : ∀ n, n ≤ 8 → (mineB w s n G i).testBit k = ((ownB s G (nI i)).testBit k && !(decide (k < n) && decide (w (21 + k) = nI 2)))
  | 0, _ => by
    show (ownB s G (nI i)).testBit k = _
    simp
  | n + 1, h => by
    have ih := mine_bit w s (i := i) hG hk n (by omega)
    have hl := mineB_lt w s (i := i) hG n
    show (if w (21 + n) = nI 2 then clr (mineB w s n G i) n else mineB w s n G i).testBit k = _
    by_cases c : w (21 + n) = nI 2
    · rw [if_pos c, clr_bit hl (by omega) hk, ih]
      by_cases e : k = n
      · subst e
        simp [c]
      · simp [e, show (k < n + 1) ↔ (k < n) by omega]
    · rw [if_neg c, ih]
      by_cases e : k = n
      · subst e
        simp [c]
      · simp [show (k < n + 1) ↔ (k < n) by omega]
theorem dif_0 {b c : Nat} (hb : b < 256) : dif b c = 0 ↔ ∀ k, k < 8 → b.testBit k = true → c.testBit k = true := by
  constructor
  · intro h k hk hbk
    have e := dif_bit (b := b) (c := c) hk
    rw [h, hbk, Nat.zero_testBit] at e
    simpa using e.symm
  · intro h
    refine Nat.eq_of_testBit_eq (fun k => ?_)
    rw [Nat.zero_testBit]
    by_cases hk : k < 8
    · rw [dif_bit hk]
      cases e : b.testBit k with
      | false => rfl
      | true => rw [h k hk e]; rfl
    · unfold dif
      rw [Nat.testBit_and, Nat.testBit_lt_two_pow (Nat.lt_of_lt_of_le hb (show 2 ^ 8 ≤ 2 ^ k from Nat.pow_le_pow_right (by decide) (by omega)))]
      rfl
theorem may_iff (w s : Nat → Int32) (i b : Nat) : ∀ n, mayM w s i b n = true ↔ ∀ k, k < n → b.testBit k = true → s (19 + k) = nI i ∧ ¬ w (21 + k) = nI 2
  | 0 => ⟨fun _ k h => absurd h (Nat.not_lt_zero _), fun _ => rfl⟩
  | n + 1 => by
    rw [may_s, Bool.and_eq_true, may_iff w s i b n]
    constructor
    · rintro ⟨h1, h2⟩ k hk hb
      by_cases e : k = n
      · subst e
        simpa [hb] using h2
      · exact h1 k (by omega) hb
    · intro h
      refine ⟨fun k hk hb => h k (by omega) hb, ?_⟩
      cases e : b.testBit n with
      | false => rfl
      | true =>
        have := h n (by omega) e
        rw [decide_eq_true this.1, decide_eq_false this.2]; rfl
theorem may_eq {w s : Nat → Int32} {G i b : Nat} (hG : G ≤ 8) (hb : b < 256) : dif b (mineB w s G G i) = 0 ↔ (b < 2 ^ G ∧ mayM w s i b G = true) := by
  rw [dif_0 hb, may_iff]
  have key : ∀ k, k < 8 → ((mineB w s G G i).testBit k = true ↔ k < G ∧ s (19 + k) = nI i ∧ ¬ w (21 + k) = nI 2) := by
    intro k hk
    rw [mine_bit w s hG hk G hG, ownB_bit]
    by_cases h : k < G <;> simp [h]
  constructor
  · intro h
    refine ⟨Nat.lt_pow_two_of_testBit _ (fun k hk => ?_), fun k hk hbk => ((key k (by omega)).mp (h k (by omega) hbk)).2⟩
    cases e : b.testBit k with
    | false => rfl
    | true =>
      by_cases h8 : k < 8
      · exact absurd ((key k h8).mp (h k h8 e)).1 (by omega)
      · rw [Nat.testBit_lt_two_pow (Nat.lt_of_lt_of_le hb (show 2 ^ 8 ≤ 2 ^ k from Nat.pow_le_pow_right (by decide) (by omega)))] at e
        exact absurd e (by decide)
  · rintro ⟨h1, h2⟩ k hk hbk
    by_cases hkG : k < G
    · exact (key k hk).mpr ⟨hkG, h2 k hkG hbk⟩
    · rw [Nat.testBit_lt_two_pow (Nat.lt_of_lt_of_le h1 (Nat.pow_le_pow_right (by decide) (by omega)))] at hbk
      exact absurd hbk (by decide)
theorem owP_eq {w s : Nat → Int32} {N G hb i b : Nat} (hG : G ≤ 8) : owP w s N G hb i b = pmO w s N G hb i b := by
  unfold owP pmO pkS wthB
  rw [Int32.add_comm]
  congr 2
  refine nSum_congr (fun g hg => ?_)
  rw [dif_bit (by omega), ownB_bit, decide_eq_true hg, Bool.true_and]
  by_cases c : s (19 + g) = nI i ∧ b.testBit g = false
  · rw [if_pos c, if_pos (by rw [decide_eq_true c.1, c.2]; rfl)]
  · rw [if_neg c, if_neg (fun z => c (by simpa using z))]
