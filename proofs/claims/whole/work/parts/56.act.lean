/-! ===== packing and giving a good, alike ===== -/
/-- no grave is packed -/
def gOk (w s : Nat → Int32) (G : Nat) : Prop := ∀ g, g < G → w (21 + g) = nI 2 → ¬ s (27 + g) = nI 1
theorem isHr_4 (hb : Nat) : isHr hb (-4) = false := rfl
theorem bit_dec {s : Nat → Int32} {pb g : Nat} (h : s (27 + g) = bI (pb.testBit g)) : decide (s (27 + g) = nI 1) = pb.testBit g := by
  rw [h]
  cases pb.testBit g <;> decide
theorem pk1_eq {w s : Nat → Int32} {N G hb pb g q : Nat} (h6 : N ≤ 6) (hp : ∀ g, g < G → s (27 + g) = bI (pb.testBit g)) (hg : g < G) (hq : q < N) (eo : s (19 + g) = nI q) : pk1 w s G hb pb g (s (19 + g)).toNatClampNeg = pk1M w s G hb g q := by
  unfold pk1 pk1M
  rw [eo, isHr_n (by omega), nI_clamp (by omega), bit_dec (hp g hg), ld_eq hp]
theorem pk1_n {w s : Nat → Int32} {G hb pb g p : Nat} (eo : s (19 + g) = -4) : pk1 w s G hb pb g p = false := by
  unfold pk1
  rw [eo, isHr_4]; rfl
theorem pk1_v {w s : Nat → Int32} {N G hb pb g q : Nat} (hG : G ≤ 8) (h6 : N ≤ 6) (hp : ∀ g, g < G → s (27 + g) = bI (pb.testBit g)) (hg : g < G) (hq : q < N) (eo : s (19 + g) = nI q) (h : pk1M w s G hb g q = true) : ldP w s G pb (s (19 + g)).toNatClampNeg + w (45 + g) = hvM w (up s (27 + g) (nI 1)) G q := by
  rw [eo, nI_clamp (by omega), ld_eq hp, hv_on hG hg eo (fun z => by
    unfold pk1M at h
    rw [decide_eq_true z] at h
    simp at h)]
theorem pk0_eq {w s : Nat → Int32} {N G hb pb g q : Nat} (h6 : N ≤ 6) (hp : ∀ g, g < G → s (27 + g) = bI (pb.testBit g)) (hv : gOk w s G) (hg : g < G) (hq : q < N) (eo : s (19 + g) = nI q) : pk0 w s hb pb g = pk0M s hb g q := by
  unfold pk0 pk0M
  rw [eo, isHr_n (by omega), bit_dec (hp g hg)]
  cases c : pb.testBit g with
  | false => rfl
  | true =>
    have e : s (27 + g) = nI 1 := by rw [hp g hg, c]; rfl
    rw [decide_eq_false (fun z => hv g hg z e)]; rfl
theorem pk0_n {w s : Nat → Int32} {hb pb g : Nat} (eo : s (19 + g) = -4) : pk0 w s hb pb g = false := by
  unfold pk0
  rw [eo, isHr_4]; rfl
theorem pk0_v {w s : Nat → Int32} {N G hb pb g q : Nat} (hG : G ≤ 8) (h6 : N ≤ 6) (hp : ∀ g, g < G → s (27 + g) = bI (pb.testBit g)) (hg : g < G) (hq : q < N) (eo : s (19 + g) = nI q) (h : pk0M s hb g q = true) : ldP w s G pb (s (19 + g)).toNatClampNeg - w (45 + g) = hvM w (up s (27 + g) (nI 0)) G q := by
  rw [eo, nI_clamp (by omega), ld_eq hp, hv_off hG hg eo (by
    unfold pk0M at h
    rw [Bool.and_eq_true] at h
    exact of_decide_eq_true h.2)]
theorem giM_eq {s : Nat → Int32} {N G hb g q j : Nat} (h6 : N ≤ 6) (hg : g < G) (hq : q < N) (hj : j < N) (eo : s (19 + g) = nI q) : giB s hb g j = giM s hb g q j := by
  unfold giB giM
  rw [eo, isHr_n (by omega)]
  have e : decide (nI q = nI j) = decide (q = j) := by
    by_cases c : q = j
    · rw [decide_eq_true c, decide_eq_true (congrArg nI c)]
    · rw [decide_eq_false c, decide_eq_false (fun z => c ((nI_eq (by omega) (by omega)).mp z))]
  rw [e]
  generalize decide (q = j) = b1
  cases b1 <;> cases hb.testBit q <;> rfl
theorem giB_n {s : Nat → Int32} {hb g j : Nat} (eo : s (19 + g) = -4) : giB s hb g j = false := by
  unfold giB
  rw [eo, isHr_4]; simp
