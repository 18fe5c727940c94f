/-! ===== both sides reckon alike ===== -/
theorem nn_n {k : Nat} (h : k < 2 ^ 31) : ¬ nI k < nI 0 := fun z => absurd ((nI_ltI h (by decide)).mp z) (Nat.not_lt_zero _)
theorem owe_nn {w s : Nat → Int32} {N G hb i : Nat} (hk : wOk w N G) (hi : i < N) : ¬ owe w s N G hb i < nI 0 := by
  obtain ⟨k, h1, h2⟩ := owe_n (s := s) (hb := hb) hk hi
  rw [h2]
  exact nn_n (by omega)
theorem clB_t {w s : Nat → Int32} {N G hb i : Nat} (h : clB w s N G hb i = true) : hb.testBit i = true ∧ ¬ s (1 + i) < owe w s N G hb i ∧ alone w N (clr hb i) = false := by
  simpa [clB] using h
theorem fOut_t {w s : Nat → Int32} {N G hb i : Nat} (h : clB w s N G hb i = true) : fOut w s N G hb i = owe w s N G hb i := by
  obtain ⟨h1, h2, h3⟩ := clB_t h
  unfold fOut
  rw [if_neg (by rw [h1, h3]; decide), if_neg h2]
theorem fOut_f {w s : Nat → Int32} {N G hb i : Nat} (h : clB w s N G hb i = false) : fOut w s N G hb i = -2 := by
  unfold fOut
  by_cases h1 : hb.testBit i = false ∨ alone w N (clr hb i) = true
  · rw [if_pos h1]
  · rw [if_neg h1]
    by_cases h2 : s (1 + i) < owe w s N G hb i
    · rw [if_pos h2]
    · exfalso
      have h3 : hb.testBit i = true := by
        cases e : hb.testBit i with
        | true => rfl
        | false => exact absurd (Or.inl e) h1
      have h4 : alone w N (clr hb i) = false := by
        cases e : alone w N (clr hb i) with
        | false => rfl
        | true => exact absurd (Or.inr e) h1
      have : clB w s N G hb i = true := by unfold clB; rw [h3, h4, decide_eq_false h2]; rfl
      rw [h] at this
      exact absurd this (by decide)
theorem m2_lt : (-2 : Int32) < nI 0 := by decide
theorem fOut_lt {w s : Nat → Int32} {N G hb i : Nat} (hk : wOk w N G) (hi : i < N) : fOut w s N G hb i < nI 0 ↔ clB w s N G hb i = false := by
  constructor
  · intro z
    cases h : clB w s N G hb i with
    | false => rfl
    | true => rw [fOut_t h] at z; exact absurd z (owe_nn hk hi)
  · intro h
    rw [fOut_f h]; exact m2_lt
theorem feeB_n {w s : Nat → Int32} {N G i : Nat} (hs : sOk s N G) (hi : i < N) : ∃ k, k < 4096 ∧ feeB w s i = nI k := by
  unfold feeB
  split
  · exact hs.2 i hi
  · exact ⟨0, by decide, rfl⟩
theorem fBack_t {w s : Nat → Int32} {hb i : Nat} (h : cbB w s hb i = true) : fBack w s hb i = feeB w s i := by
  have h2 : hb.testBit i = false ∧ ¬ s (1 + i) < feeB w s i := by simpa [cbB] using h
  unfold fBack
  rw [if_neg (by rw [h2.1]; decide), if_neg h2.2]
theorem fBack_f {w s : Nat → Int32} {hb i : Nat} (h : cbB w s hb i = false) : fBack w s hb i = -2 := by
  unfold fBack
  by_cases h1 : hb.testBit i = true
  · rw [if_pos h1]
  · rw [if_neg h1]
    by_cases h2 : s (1 + i) < feeB w s i
    · rw [if_pos h2]
    · exfalso
      have h3 : hb.testBit i = false := by simpa using h1
      have : cbB w s hb i = true := by unfold cbB; rw [h3, decide_eq_false h2]; rfl
      rw [h] at this
      exact absurd this (by decide)
theorem fBack_lt {w s : Nat → Int32} {N G hb i : Nat} (hs : sOk s N G) (hi : i < N) : fBack w s hb i < nI 0 ↔ cbB w s hb i = false := by
  constructor
  · intro z
    cases h : cbB w s hb i with
    | false => rfl
    | true =>
      rw [fBack_t h] at z
      obtain ⟨k, h1, h2⟩ := feeB_n (w := w) hs hi
      rw [h2] at z
      exact absurd z (nn_n (by omega))
  · intro h
    rw [fBack_f h]; exact m2_lt
theorem nFold_cg {α : Type} {f g : Nat → α → α} {a : α} : ∀ {n : Nat}, (∀ k x, k < n → f k x = g k x) → nFold n f a = nFold n g a
  | 0, _ => rfl
  | n + 1, h => by
    unfold nFold
    rw [nFold_cg (n := n) (fun k x hk => h k x (by omega)), h n _ (by omega)]
theorem stuck_eq {w s : Nat → Int32} {N G hb : Nat} (hk : wOk w N G) : nFold N (fun i b => if hb.testBit i = true ∧ fOut w s N G hb i < nI 0 then b ||| 2 ^ i else b) 0 = stM w s N G hb N := by
  unfold stM
  refine nFold_cg (fun i b hi => ?_)
  have e : (hb.testBit i = true ∧ fOut w s N G hb i < nI 0) ↔ (hb.testBit i && !(!decide (s (1 + i) < owe w s N G hb i) && !alone w N (clr hb i))) = true := by
    rw [fOut_lt hk hi]
    unfold clB
    generalize decide (s (1 + i) < owe w s N G hb i) = q1
    generalize alone w N (clr hb i) = q2
    generalize hb.testBit i = q3
    cases q1 <;> cases q2 <;> cases q3 <;> simp
  by_cases h : hb.testBit i = true ∧ fOut w s N G hb i < nI 0
  · rw [if_pos h, if_pos (e.mp h)]
  · rw [if_neg h, if_neg (fun z => h (e.mpr z))]
theorem cr_eq {w s : Nat → Int32} {N G hb i : Nat} (hk : wOk w N G) (hs : sOk s N G) (hi : i < N) : (crR w s N G hb i, crS w s N G hb i, crB w s N G hb i) = yM w s N G hb i := by
  unfold crR crS crB
  cases hb1 : hb.testBit i with
  | true =>
    have ef : crFee w s N G hb i = fOut w s N G hb i := by unfold crFee; rw [if_pos hb1]
    rw [ef]
    cases hc : clB w s N G hb i with
    | true =>
      obtain ⟨_, h2, h3⟩ := clB_t hc
      have hn : ¬ fOut w s N G hb i < nI 0 := by rw [fOut_t hc]; exact owe_nn hk hi
      rw [yM_1 hb1 (by rw [decide_eq_false h2, h3]; rfl), if_neg hn, if_neg hn, if_neg hn, fOut_t hc]
      rfl
    | false =>
      have hn : fOut w s N G hb i < nI 0 := (fOut_lt hk hi).mpr hc
      rw [yM_2 hb1 (by unfold clB at hc; rw [hb1, Bool.true_and] at hc; exact hc), if_pos hn, if_pos hn, if_pos hn]
  | false =>
    have ef : crFee w s N G hb i = fBack w s hb i := by unfold crFee; rw [if_neg (by rw [hb1]; decide)]
    rw [ef]
    cases hc : cbB w s hb i with
    | true =>
      have h2 : hb.testBit i = false ∧ ¬ s (1 + i) < feeB w s i := by simpa [cbB] using hc
      have hn : ¬ fBack w s hb i < nI 0 := fun z => by rw [(fBack_lt hs hi).mp z] at hc; exact absurd hc (by decide)
      rw [yM_4 hb1 h2.2, if_neg hn, if_neg hn, if_neg hn, fBack_t hc]
      rfl
    | false =>
      have hn : fBack w s hb i < nI 0 := (fBack_lt hs hi).mpr hc
      have h2 : s (1 + i) < feeB w s i := by
        unfold cbB at hc
        rw [hb1] at hc
        simpa using hc
      rw [yM_3 hb1 h2, if_pos hn, if_pos hn, if_pos hn]
theorem sOk_go {s : Nat → Int32} {N G hb i : Nat} {x : Int32} (hs : sOk s N G) (h6 : N ≤ 6) (hi : i < N) (hx : ∃ k, k < 4096 ∧ x = nI k) : sOk (sGo (payS s i x) G hb i x) N G := by
  refine ⟨fun g hg => ?_, fun j hj => ?_⟩
  · unfold sGo sO
    split
    · exact Or.inl rfl
    · rw [up_ne (by omega), up_ne (by omega)]
      unfold payS
      rw [up_ne (by omega), up_ne (by omega)]
      exact hs.1 g hg
  · unfold sGo sO
    rw [if_neg (by omega)]
    by_cases h : j = i
    · subst h
      rw [up_eq]; exact hx
    · rw [up_ne (by omega), up_ne (by omega)]
      unfold payS
      rw [up_ne (by omega), up_ne (by omega)]
      exact hs.2 j hj
theorem sOk.ret {s : Nat → Int32} {N G i : Nat} {x v : Int32} (hs : sOk s N G) (h6 : N ≤ 6) (hi : i < N) : sOk (up (payS s i x) 0 v) N G := by
  refine ⟨fun g hg => ?_, fun j hj => ?_⟩
  · rw [up_ne (by omega)]
    unfold payS
    rw [up_ne (by omega), up_ne (by omega)]
    exact hs.1 g hg
  · rw [up_ne (by omega)]
    unfold payS
    rw [up_ne (by omega), up_ne (by omega)]
    exact hs.2 j hj
theorem yM_ok {w s : Nat → Int32} {N G hb i : Nat} (hk : wOk w N G) (hs : sOk s N G) (hi : i < N) : sOk (yM w s N G hb i).2.1 N G := by
  have h6 : N ≤ 6 := hk.1.2.2.2.1
  unfold yM
  split
  · split
    · exact sOk_go hs h6 hi (owe_n hk hi)
    · exact hs
  · split
    · exact hs
    · exact hs.ret h6 hi
theorem yr_eq {w s : Nat → Int32} {N G hb z : Nat} (hk : wOk w N G) (hs : sOk s N G) : ∀ n, yrQ w s N G hb z n = yrM w s N G hb z n ∧ sOk (yrM w s N G hb z n).2.1 N G
  | 0 => ⟨rfl, hs⟩
  | n + 1 => by
    obtain ⟨e, ok⟩ := yr_eq hk hs n
    have hi := drN_lt (z := z) (k := n) (show 0 < N from hk.1.2.2.1)
    have hc := cr_eq (hb := (yrM w s N G hb z n).2.2) hk ok hi
    rw [yrQ_s, yrM_s, e]
    refine ⟨?_, yM_ok hk ok hi⟩
    rw [← hc]
theorem dn_nI {n : Nat} (h : n < 21) : dn n = nI (20 - n) := nI_sub (by omega)
def lvC (w : Nat → Int32) (i : Nat) (x v : Int32) (n : Nat) : Nat × Int32 := ((lvM w i x v (21 - n)).1 + (lvQ w i x v n).1, if (lvM w i x v (21 - n)).1 = 0 then (lvQ w i x v n).2 else (lvM w i x v (21 - n)).2)
theorem lvC_s (w : Nat → Int32) (i : Nat) (x v : Int32) {n : Nat} (h : n < 21) : lvC w i x v (n + 1) = lvC w i x v n := by
  unfold lvC
  have e : 21 - n = (21 - (n + 1)) + 1 := by omega
  have e2 : 21 - (n + 1) = 20 - n := by omega
  rw [e, lvM_s, lvQ_s, e2, dn_nI h]
  by_cases c : duty w i (x + nI (20 - n)) = v
  · rw [if_pos c, if_pos c, if_neg (Nat.succ_ne_zero _)]
    dsimp only
    rw [Nat.add_right_comm, Nat.add_assoc]
  · rw [if_neg c, if_neg c]
theorem lvC_n (w : Nat → Int32) (i : Nat) (x v : Int32) : ∀ n, n ≤ 21 → lvC w i x v n = lvC w i x v 0
  | 0, _ => rfl
  | n + 1, h => by rw [lvC_s w i x v (by omega)]; exact lvC_n w i x v n (by omega)
theorem lvM_0 (w : Nat → Int32) (i : Nat) (x v : Int32) : ∀ n, (lvM w i x v n).1 = 0 → (lvM w i x v n).2 = -4
  | 0, _ => rfl
  | n + 1, h => by
    rw [lvM_s] at h ⊢
    split at h
    · exact absurd h (Nat.succ_ne_zero _)
    · rename_i c
      rw [if_neg c]; exact lvM_0 w i x v n h
theorem lv_eq (w : Nat → Int32) (i : Nat) (x v : Int32) : lvQ w i x v 21 = lvM w i x v 21 := by
  have h := lvC_n w i x v 21 (Nat.le_refl _)
  have e1 : lvC w i x v 21 = lvQ w i x v 21 := by
    unfold lvC
    show (0 + (lvQ w i x v 21).1, if (0 : Nat) = 0 then (lvQ w i x v 21).2 else _) = _
    rw [if_pos rfl, Nat.zero_add]
  have e2 : lvC w i x v 0 = lvM w i x v 21 := by
    unfold lvC
    show ((lvM w i x v 21).1 + 0, if (lvM w i x v 21).1 = 0 then (-4 : Int32) else (lvM w i x v 21).2) = _
    rw [Nat.add_zero]
    by_cases c : (lvM w i x v 21).1 = 0
    · rw [if_pos c, ← lvM_0 w i x v 21 c]
    · rw [if_neg c]
  rw [← e1, h, e2]
