/-! ===== numbers: sums that stay small ===== -/
theorem i_rng (x : Int32) : -2147483648 ≤ x.toInt ∧ x.toInt < 2147483648 := ⟨Int32.le_toInt x, Int32.toInt_lt x⟩
theorem i_bm {z : Int} (h1 : -2147483648 ≤ z) (h2 : z < 2147483648) : z.bmod (2 ^ 32) = z := Int.bmod_eq_of_le_mul_two (by omega) (by omega)
theorem i_add {x y : Int32} (h1 : -2147483648 ≤ x.toInt + y.toInt) (h2 : x.toInt + y.toInt < 2147483648) : (x + y).toInt = x.toInt + y.toInt := by rw [Int32.toInt_add]; exact i_bm h1 h2
theorem i_mul {x y : Int32} (h1 : -2147483648 ≤ x.toInt * y.toInt) (h2 : x.toInt * y.toInt < 2147483648) : (x * y).toInt = x.toInt * y.toInt := by rw [Int32.toInt_mul]; exact i_bm h1 h2
theorem i_neg {x : Int32} (h : x.toInt ≠ -2147483648) : (-x).toInt = -x.toInt := by
  have := i_rng x
  rw [Int32.toInt_neg]; exact i_bm (by omega) (by omega)
theorem nI_asI {x : Int32} (h : 0 ≤ x.toInt) : x = nI x.toInt.toNat := by
  have := i_rng x
  apply Int32.toInt_inj.mp
  rw [nI_toInt (by omega)]
  omega
theorem m1_ne {b : Nat} (hb2 : b < 2 ^ 31) : nI b ≠ -1 := by
  intro e
  have h := congrArg Int32.toInt e
  rw [nI_toInt hb2] at h
  have e2 : (-1 : Int32).toInt = -1 := by decide
  rw [e2] at h
  omega
theorem nI_div {a b : Nat} (ha : a < 2 ^ 31) (hb : 0 < b) (hb2 : b < 2 ^ 31) : nI a / nI b = nI (a / b) := by
  have h3 : a / b ≤ a := Nat.div_le_self a b
  apply Int32.toInt_inj.mp
  rw [Int32.toInt_div_of_ne_right _ _ (m1_ne hb2), nI_toInt ha, nI_toInt hb2, nI_toInt (by omega)]
  rfl
theorem nSum_b {t : Nat → Int32} {a b : Nat} (ha : a ≤ 1000) (hb : b ≤ 1000) : ∀ {n : Nat}, n ≤ 64 → (∀ j, j < n → -(a : Int) ≤ (t j).toInt ∧ (t j).toInt ≤ b) → -((n * a : Nat) : Int) ≤ (nSum n t).toInt ∧ (nSum n t).toInt ≤ ((n * b : Nat) : Int)
  | 0, _, _ => by
    have e : (nSum 0 t).toInt = 0 := by unfold nSum; decide
    omega
  | n + 1, hn, h => by
    have ih := nSum_b ha hb (n := n) (by omega) (fun j hj => h j (by omega))
    have h1 := h n (by omega)
    have e : (nSum (n + 1) t) = nSum n t + t n := rfl
    have m1 : (n + 1) * a = n * a + a := Nat.succ_mul n a
    have m2 : (n + 1) * b = n * b + b := Nat.succ_mul n b
    have m3 : n * a ≤ 64 * 1000 := Nat.mul_le_mul (by omega) ha
    have m4 : n * b ≤ 64 * 1000 := Nat.mul_le_mul (by omega) hb
    rw [e, i_add (by omega) (by omega), m1, m2]
    omega
/-- a family as it is told -/
def wOk (w : Nat → Int32) (N G : Nat) : Prop := (w 0 = nI N ∧ w 1 = nI G ∧ 1 ≤ N ∧ N ≤ 6 ∧ G ≤ 8) ∧ (∃ T, 1 ≤ T ∧ T ≤ 20 ∧ w 2 = nI T) ∧ (∀ i, i < N → ∃ k, k ≤ 4 ∧ w (3 + i) = nI k) ∧ (∀ i, i < N → ∃ k, k ≤ 99 ∧ w (9 + i) = nI k) ∧ (∀ i, i < N → ∃ k, k ≤ 20 ∧ w (15 + i) = nI k) ∧ (∀ g, g < G → ∃ k, k ≤ 3 ∧ w (21 + g) = nI k) ∧ (∀ g, g < G → ∃ k, k < N ∧ w (29 + g) = nI k) ∧ (∀ g, g < G → ∃ k, 1 ≤ k ∧ k ≤ 40 ∧ w (37 + g) = nI k) ∧ (∀ g, g < G → ∃ k, k ≤ 20 ∧ w (45 + g) = nI k) ∧ (∀ i j, i < N → j < N → ∃ k, k ≤ 20 ∧ w (53 + (6 * i + j)) = nI k)
theorem cnt_b {w : Nat → Int32} {N G g : Nat} (h : wOk w N G) (hg : g < G) : -(40 : Nat) ≤ (cnt w g).toInt ∧ (cnt w g).toInt ≤ (120 : Nat) := by
  obtain ⟨-, -, -, -, -, h6, -, h8, -⟩ := h
  obtain ⟨t, ht, e1⟩ := h6 g hg
  obtain ⟨x, hx1, hx2, e2⟩ := h8 g hg
  have key : ∀ t, t ≤ 3 → ∀ x, x ≤ 40 → -(40 : Nat) ≤ (cntv (nI t) (nI x)).toInt ∧ (cntv (nI t) (nI x)).toInt ≤ (120 : Nat) := by decide +kernel
  unfold cnt
  rw [e1, e2]
  exact key t ht x hx2
theorem i0 : (0 : Int32).toInt = 0 := by decide
theorem gLeft_b {w s : Nat → Int32} {N G i : Nat} (h : wOk w N G) : -(960 : Int) ≤ (gLeft w s G i).toInt ∧ (gLeft w s G i).toInt ≤ 960 := by
  have hG := h.1.2.2.2.2
  have := nSum_b (t := fun g => if ly s g i = true then cnt w g else 0) (a := 40) (b := 120) (n := G) (by decide) (by decide) (by omega) (fun g hg => by
    show _ ≤ (if ly s g i = true then cnt w g else 0).toInt ∧ (if ly s g i = true then cnt w g else 0).toInt ≤ _
    by_cases hc : ly s g i = true
    · rw [if_pos hc]; exact cnt_b h hg
    · rw [if_neg hc, i0]; omega)
  have e : gLeft w s G i = nSum G (fun g => if ly s g i = true then cnt w g else 0) := rfl
  rw [e]
  have m1 : G * 40 ≤ 8 * 40 := Nat.mul_le_mul hG (Nat.le_refl _)
  have m2 : G * 120 ≤ 8 * 120 := Nat.mul_le_mul hG (Nat.le_refl _)
  omega
theorem lLeft_b {w : Nat → Int32} {N G i b : Nat} (h : wOk w N G) (hi : i < N) : 0 ≤ (lLeft w N i b).toInt ∧ (lLeft w N i b).toInt ≤ 120 := by
  have hN := h.1.2.2.2.1
  have hl := h.2.2.2.2.2.2.2.2.2
  have := nSum_b (t := fun j => if j ≠ i ∧ b.testBit j = true then w (53 + (6 * i + j)) else 0) (a := 0) (b := 20) (n := N) (by decide) (by decide) (by omega) (fun j hj => by
    by_cases hc : j ≠ i ∧ b.testBit j = true
    · simp only [hc, if_true, ne_eq, not_false_eq_true, and_self]
      obtain ⟨k, hk, e⟩ := hl i j hi hj
      rw [e, nI_toInt (by omega)]; omega
    · simp only [hc, if_false]; rw [i0]; omega)
  have e : lLeft w N i b = nSum N (fun j => if j ≠ i ∧ b.testBit j = true then w (53 + (6 * i + j)) else 0) := rfl
  rw [e]
  have m2 : N * 20 ≤ 6 * 20 := Nat.mul_le_mul hN (Nat.le_refl _)
  omega
theorem duty_n {w : Nat → Int32} {N G i : Nat} {x : Int32} (h : wOk w N G) (hx : x.toInt ≤ 2000) : ∃ k, k < 4096 ∧ duty w i x = nI k := by
  obtain ⟨T, hT1, hT2, eT⟩ := h.2.1
  obtain ⟨a, ha, ea⟩ : ∃ a, a ≤ 2000 ∧ (if x < 0 then 0 else x) = nI a := by
    by_cases hc : x < 0
    · exact ⟨0, by omega, by rw [if_pos hc]; exact nI_0.symm⟩
    · have h0 : 0 ≤ x.toInt := by
        rw [Int32.lt_iff_toInt_lt, i0] at hc; omega
      exact ⟨x.toInt.toNat, by omega, by rw [if_neg hc]; exact nI_asI h0⟩
  have hm : a * T ≤ 2000 * 20 := Nat.mul_le_mul ha hT2
  have hq : (if x < 0 then 0 else x) * w 2 / nI 10 = nI (a * T / 10) := by rw [ea, eT, nI_mul, nI_div (by omega) (by decide) (by decide)]
  have hd : a * T / 10 ≤ 4000 := by omega
  unfold duty
  rw [hq]
  by_cases c1 : w (3 + i) = nI 1 ∨ w (3 + i) = nI 2
  · exact ⟨a * T / 10 / 2, by omega, by simp only [c1, if_true]; rw [nI_div (by omega) (by decide) (by decide)]⟩
  · by_cases c2 : w (3 + i) = nI 4
    · exact ⟨a * T / 10 / 3, by omega, by show (if _ then _ else _) = _; rw [if_neg c1, if_pos c2, nI_div (by omega) (by decide) (by decide)]⟩
    · exact ⟨a * T / 10, by omega, by simp only [c1, c2, if_false]⟩
theorem owe_n {w s : Nat → Int32} {N G hb i : Nat} (h : wOk w N G) (hi : i < N) : ∃ k, k < 4096 ∧ owe w s N G hb i = nI k := by
  have h1 := gLeft_b (s := s) (i := i) h
  have h2 := lLeft_b (b := hb) h hi
  exact duty_n h (by rw [i_add (by omega) (by omega)]; omega)
