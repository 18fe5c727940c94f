/-! ===== both sides reckon alike ===== -/
theorem nn_n {k : Nat} (h : k < 2 ^ 31) : ¬ nI k < nI 0 := fun z => absurd ((nI_ltI h (by decide)).mp z) (Nat.not_lt_zero _)
theorem owe_nn {w s : Nat → Int32} {N G hb i : Nat} (hk : wOk w N G) (hi : i < N) : ¬ owe w s N G hb i < nI 0 := by
  obtain ⟨k, h1, h2⟩ := owe_n (s := s) (hb := hb) hk hi
  rw [h2]
  exact nn_n (by omega)
theorem clB_t {w s : Nat → Int32} {N G hb i : Nat} (h : clB w s N G hb i = true) : hb.testBit i = true ∧ ¬ s (1 + i) < owe w s N G hb i ∧ alone w N (clr hb i) = false := by
  simpa [clB] using h
theorem fOut_t {w s : Nat → Int32} {N G hb i : Nat} (h : clB w s N G hb i = true) : fOut w s N G hb i = owe w s N G hb i := by
  obtain ⟨h1, h2, h3⟩ := clB_t h
  unfold fOut
  rw [if_neg (by rw [h1, h3]; decide), if_neg h2]
theorem fOut_f {w s : Nat → Int32} {N G hb i : Nat} (h : clB w s N G hb i = false) : fOut w s N G hb i = -2 := by
  unfold fOut
  by_cases h1 : hb.testBit i = false ∨ alone w N (clr hb i) = true
  · rw [if_pos h1]
  · rw [if_neg h1]
    by_cases h2 : s (1 + i) < owe w s N G hb i
    · rw [if_pos h2]
    · exfalso
      have h3 : hb.testBit i = true := by
        cases e : hb.testBit i with
        | true => rfl
        | false => exact absurd (Or.inl e) h1
      have h4 : alone w N (clr hb i) = false := by
        cases e : alone w N (clr hb i) with
        | false => rfl
        | true => exact absurd (Or.inr e) h1
      have : clB w s N G hb i = true := by unfold clB; rw [h3, h4, decide_eq_false h2]; rfl
      rw [h] at this
      exact absurd this (by decide)
theorem m2_lt : (-2 : Int32) < nI 0 := by decide
theorem fOut_lt {w s : Nat → Int32} {N G hb i : Nat} (hk : wOk w N G) (hi : i < N) : fOut w s N G hb i < nI 0 ↔ clB w s N G hb i = false := by
  constructor
  · intro z
    cases h : clB w s N G hb i with
    | false => rfl
    | true => rw [fOut_t h] at z; exact absurd z (owe_nn hk hi)
  · intro h
    rw [fOut_f h]; exact m2_lt
theorem feeB_n {w s : Nat → Int32} {N G i : Nat} (hs : sOk s N G) (hi : i < N) : ∃ k, k < 4096 ∧ feeB w s i = nI k := by
  unfold feeB
  split
  · exact hs.2 i hi
  · exact ⟨0, by decide, rfl⟩
theorem fBack_t {w s : Nat → Int32} {hb i : Nat} (h : cbB w s hb i = true) : fBack w s hb i = feeB w s i := by
  have h2 : hb.testBit i = false ∧ ¬ s (1 + i) < feeB w s i := by simpa [cbB] using h
  unfold fBack
  rw [if_neg (by rw [h2.1]; decide), if_neg h2.2]
theorem fBack_f {w s : Nat → Int32} {hb i : Nat} (h : cbB w s hb i = false) : fBack w s hb i = -2 := by
  unfold fBack
  by_cases h1 : hb.testBit i = true
  · rw [if_pos h1]
  · rw [if_neg h1]
    by_cases h2 : s (1 + i) < feeB w s i
    · rw [if_pos h2]
    · exfalso
      have h3 : hb.testBit i = false := by simpa using h1
      have : cbB w s hb i = true := by unfold cbB; rw [h3, decide_eq_false h2]; rfl
      rw [h] at this
      exact absurd this (by decide)
theorem fBack_lt {w s : Nat → Int32} {N G hb i : Nat} (hs : sOk s N G) (hi : i < N) : fBack w s hb i < nI 0 ↔ cbB w s hb i = false := by
  constructor
  · intro z
    cases h : cbB w s hb i with
    | false => rfl
    | true =>
      rw [fBack_t h] at z
      obtain ⟨k, h1, h2⟩ := feeB_n (w := w) hs hi
      rw [h2] at z
      exact absurd z (nn_n (by omega))
  · intro h
    rw [fBack_f h]; exact m2_lt
theorem nFold_cg {α : Type} {f g : Nat → α → α} {a : α} : ∀ {n : Nat}, (∀ k x, k < n → f k x = g k x) → nFold n f a = nFold n g a
  | 0, _ => rfl
  | n + 1, h => by
    unfold nFold
    rw [nFold_cg (n := n) (fun k x hk => h k x (by omega)), h n _ (by omega)]
theorem stuck_eq {w s : Nat → Int32} {N G hb : Nat} (hk : wOk w N G) : nFold N (fun i b => if hb.testBit i = true ∧ fOut w s N G hb i < nI 0 then b ||| 2 ^ i else b) 0 = stM w s N G hb N := by
  unfold stM
  refine nFold_cg (fun i b hi => ?_)
  have e : (hb.testBit i = true ∧ fOut w s N G hb i < nI 0) ↔ (hb.testBit i && !(!decide (s (1 + i) < owe w s N G hb i) && !alone w N (clr hb i))) = true := by
    rw [fOut_lt hk hi]
    unfold clB
    generalize decide (s (1 + i) < owe w s N G hb i) = q1
    generalize alone w N (clr hb i) = q2
    generalize hb.testBit i = q3
    cases q1 <;> cases q2 <;> cases q3 <;> simp
  by_cases h : hb.testBit i = true ∧ fOut w s N G hb i < nI 0
  · rw [if_pos h, if_pos (e.mp h)]
  · rw [if_neg h, if_neg (fun z => h (e.mpr z))]
theorem cr_eq {w s : Nat → Int32} {N G hb i : Nat} (hk : wOk w N G) (hs : sOk s N G) (hi : i < N) : (crR w s N G hb i, crS w s N G hb i, crB w s N G hb i) = yM w s N G hb i := by
  unfold crR crS crB
  cases hb1 : hb.testBit i with
  | true =>
    have ef : crFee w s N G hb i = fOut w s N G hb i := by unfold crFee; rw [if_pos hb1]
    rw [ef]
    cases hc : clB w s N G hb i with
    | true =>
      obtain ⟨_, h2, h3⟩ := clB_t hc
      have hn : ¬ fOut w s N G hb i < nI 0 := by rw [fOut_t hc]; exact owe_nn hk hi
      rw [yM_1 hb1 (by rw [decide_eq_false h2, h3]; rfl), if_neg hn, if_neg hn, if_neg hn, fOut_t hc]
      rfl
    | false =>
      have hn : fOut w s N G hb i < nI 0 := (fOut_lt hk hi).mpr hc
      rw [yM_2 hb1 (by unfold clB at hc; rw [hb1, Bool.true_and] at hc; exact hc), if_pos hn, if_pos hn, if_pos hn]
  | false =>
    have ef : crFee w s N G hb i = fBack w s hb i := by unfold crFee; rw [if_neg (by rw [hb1]; decide)]
    rw [ef]
    cases hc : cbB w s hb i with
    | true =>
      have h2 : hb.testBit i = false ∧ ¬ s (1 + i) < feeB w s i := by simpa [cbB] using hc
      have hn : ¬ fBack w s hb i < nI 0 := fun z => by rw [(fBack_lt hs hi).mp z] at hc; exact absurd hc (by decide)
      rw [yM_4 hb1 h2.2, if_neg hn, if_neg hn, if_neg hn, fBack_t hc]
      rfl
    | false =>
      have hn : fBack w s hb i < nI 0 := (fBack_lt hs hi).mpr hc
      have h2 : s (1 + i) < feeB w s i := by
        unfold cbB at hc
        rw [hb1] at hc
        simpa using hc
      rw [yM_3 hb1 h2, if_pos hn, if_pos hn, if_pos hn]
theorem sOk_go {s : Nat → Int32} {N G hb i : Nat} {x : Int32} (hs : sOk s N G) (h6 : N ≤ 6) (hi : i < N) (hx : ∃ k, k < 4096 ∧ x = nI k) : sOk (sGo (payS s i x) G hb i x) N G := by
  refine ⟨fun g hg => ?_, fun j hj => ?_⟩
  · unfold sGo sO
    split
    · exact Or.inl rfl
    · rw [up_ne (by omega), up_ne (by omega)]
      unfold payS
      rw [up_ne (by omega), up_ne (by omega)]
      exact hs.1 g hg
  · unfold sGo sO
    rw [if_neg (by omega)]
    by_cases h : j = i
    · subst h
      rw [up_eq]; exact hx
    · rw [up_ne (by omega), up_ne (by omega)]
      unfold payS
      rw [up_ne (by omega), up_ne (by omega)]
      exact hs.2 j hj
theorem sOk.ret {s : Nat → Int32} {N G i : Nat} {x v : Int32} (hs : sOk s N G) (h6 : N ≤ 6) (hi : i < N) : sOk (up (payS s i x) 0 v) N G := by
  refine ⟨fun g hg => ?_, fun j hj => ?_⟩
  · rw [up_ne (by omega)]
    unfold payS
    rw [up_ne (by omega), up_ne (by omega)]
    exact hs.1 g hg
  · rw [up_ne (by omega)]
    unfold payS
    rw [up_ne (by omega), up_ne (by omega)]
    exact hs.2 j hj
theorem yM_ok {w s : Nat → Int32} {N G hb i : Nat} (hk : wOk w N G) (hs : sOk s N G) (hi : i < N) : sOk (yM w s N G hb i).2.1 N G := by
  have h6 : N ≤ 6 := hk.1.2.2.2.1
  unfold yM
  split
  · split
    · exact sOk_go hs h6 hi (owe_n hk hi)
    · exact hs
  · split
    · exact hs
    · exact hs.ret h6 hi
theorem yr_eq {w s : Nat → Int32} {N G hb z : Nat} (hk : wOk w N G) (hs : sOk s N G) : ∀ n, yrQ w s N G hb z n = yrM w s N G hb z n ∧ sOk (yrM w s N G hb z n).2.1 N G
  | 0 => ⟨rfl, hs⟩
  | n + 1 => by
    obtain ⟨e, ok⟩ := yr_eq hk hs n
    have hi := drN_lt (z := z) (k := n) (show 0 < N from hk.1.2.2.1)
    have hc := cr_eq (hb := (yrM w s N G hb z n).2.2) hk ok hi
    rw [yrQ_s, yrM_s, e]
    refine ⟨?_, yM_ok hk ok hi⟩
    rw [← hc]
