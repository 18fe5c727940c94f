/-! ===== both sides reckon alike ===== -/
theorem nn_n {k : Nat} (h : k < 2 ^ 31) : ¬ nI k < nI 0 := fun z => absurd ((nI_ltI h (by decide)).mp z) (Nat.not_lt_zero _)
theorem owe_nn {w s : Nat → Int32} {N G hb i : Nat} (hk : wOk w N G) (hi : i < N) : ¬ owe w s N G hb i < nI 0 := by
  obtain ⟨k, h1, h2⟩ := owe_n (s := s) (hb := hb) hk hi
  rw [h2]
  exact nn_n (by omega)
theorem clB_t {w s : Nat → Int32} {N G hb i : Nat} (h : clB w s N G hb i = true) : hb.testBit i = true ∧ ¬ s (1 + i) < owe w s N G hb i ∧ alone w N (clr hb i) = false := by
  simpa [clB] using h
theorem fOut_t {w s : Nat → Int32} {N G hb i : Nat} (h : clB w s N G hb i = true) : fOut w s N G hb i = owe w s N G hb i := by
  obtain ⟨h1, h2, h3⟩ := clB_t h
  unfold fOut
  rw [if_neg (by rw [h1, h3]; decide), if_neg h2]
theorem fOut_f {w s : Nat → Int32} {N G hb i : Nat} (h : clB w s N G hb i = false) : fOut w s N G hb i = -2 := by
  unfold fOut
  by_cases h1 : hb.testBit i = false ∨ alone w N (clr hb i) = true
  · rw [if_pos h1]
  · rw [if_neg h1]
    by_cases h2 : s (1 + i) < owe w s N G hb i
    · rw [if_pos h2]
    · exfalso
      have h3 : hb.testBit i = true := by
        cases e : hb.testBit i with
        | true => rfl
        | false => exact absurd (Or.inl e) h1
      have h4 : alone w N (clr hb i) = false := by
        cases e : alone w N (clr hb i) with
        | false => rfl
        | true => exact absurd (Or.inr e) h1
      have : clB w s N G hb i = true := by unfold clB; rw [h3, h4, decide_eq_false h2]; rfl
      rw [h] at this
      exact absurd this (by decide)
theorem m2_lt : (-2 : Int32) < nI 0 := by decide
theorem fOut_lt {w s : Nat → Int32} {N G hb i : Nat} (hk : wOk w N G) (hi : i < N) : fOut w s N G hb i < nI 0 ↔ clB w s N G hb i = false := by
  constructor
  · intro z
    cases h : clB w s N G hb i with
    | false => rfl
    | true => rw [fOut_t h] at z; exact absurd z (owe_nn hk hi)
  · intro h
    rw [fOut_f h]; exact m2_lt
theorem feeB_n {w s : Nat → Int32} {N G i : Nat} (hs : sOk s N G) (hi : i < N) : ∃ k, k < 4096 ∧ feeB w s i = nI k := by
  unfold feeB
  split
  · exact hs.2 i hi
  · exact ⟨0, by decide, rfl⟩
theorem fBack_t {w s : Nat → Int32} {hb i : Nat} (h : cbB w s hb i = true) : fBack w s hb i = feeB w s i := by
  have h2 : hb.testBit i = false ∧ ¬ s (1 + i) < feeB w s i := by simpa [cbB] using h
  unfold fBack
  rw [if_neg (by rw [h2.1]; decide), if_neg h2.2]
theorem fBack_f {w s : Nat → Int32} {hb i : Nat} (h : cbB w s hb i = false) : fBack w s hb i = -2 := by
  unfold fBack
  by_cases h1 : hb.testBit i = true
  · rw [if_pos h1]
  · rw [if_neg h1]
    by_cases h2 : s (1 + i) < feeB w s i
    · rw [if_pos h2]
    · exfalso
      have h3 : hb.testBit i = false := by simpa using h1
      have : cbB w s hb i = true := by unfold cbB; rw [h3, decide_eq_false h2]; rfl
      rw [h] at this
      exact absurd this (by decide)
theorem fBack_lt {w s : Nat → Int32} {N G hb i : Nat} (hs : sOk s N G) (hi : i < N) : fBack w s hb i < nI 0 ↔ cbB w s hb i = false := by
  constructor
  · intro z
    cases h : cbB w s hb i with
    | false => rfl
    | true =>
      rw [fBack_t h] at z
      obtain ⟨k, h1, h2⟩ := feeB_n (w := w) hs hi
      rw [h2] at z
      exact absurd z (nn_n (by omega))
  · intro h
    rw [fBack_f h]; exact m2_lt
