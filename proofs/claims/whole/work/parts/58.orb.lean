/-! ===== the order's answers alike ===== -/
def oR (x y : Int32) (m : Nat) : Prop := (x = -4 ∧ y = FARI) ∨ ∃ k, k ≤ m ∧ x = nI k ∧ y = nI k
theorem oR_iff {x y : Int32} {m : Nat} (h : oR x y m) (hm : m < 1000000) : y = FARI ↔ x = -4 := by
  rcases h with ⟨h1, h2⟩ | ⟨k, hk, h1, h2⟩
  · exact ⟨fun _ => h1, fun _ => h2⟩
  · rw [h1, h2]
    constructor
    · intro z
      have := (nI_eq (a := k) (b := 1000000) (by omega) (by omega)).mp z
      omega
    · intro z
      exact absurd z (nI_ne4 (by omega))
theorem clr_sub {b hb i : Nat} (hb6 : b < 64) (hi : i < 8) (h : dif b hb = 0) : dif (clr b i) hb = 0 := by
  have hl := clr_le b i
  rw [dif_0 (by omega)]
  intro k hk hk2
  rw [clr_bit (by omega) hi hk, Bool.and_eq_true] at hk2
  exact (dif_0 (by omega)).mp h k hk hk2.1
def oA (I : mI) (w s : Nat → Int32) (N G hb b : Nat) : Int32 := rkH I 73 w s N G hb 63 74 b
def oB (I : mI) (w s : Nat → Int32) (N G hb b : Nat) : Int32 := rkH I 73 w s N G hb 63 75 b
def mA (I : mI) (w s : Nat → Int32) (N G b : Nat) : Int32 := rM I w s N G 64 104 b
def mB (I : mI) (w s : Nat → Int32) (N G b : Nat) : Int32 := rM I w s N G 64 105 b
theorem oA_0 (I : mI) (w s : Nat → Int32) (N G hb : Nat) : oA I w s N G hb 0 = nI 0 ∧ oB I w s N G hb 0 = -4 := rk_0 I 73 w s N G hb
theorem oA_b {I : mI} {w s : Nat → Int32} {N G hb b : Nat} (h0 : 0 < b) (h63 : b ≤ 63) (hd : dif b hb = 0) : oA I w s N G hb b = (orF w s N G (oA I w s N G hb) b N).1 ∧ oB I w s N G hb b = (orF w s N G (oA I w s N G hb) b N).2 := rk_b (z := 73) h0 h63 hd
theorem mA_b {I : mI} {w s : Nat → Int32} {N G b : Nat} (h64 : b < 64) : mA I w s N G b = (omF w s N G (mA I w s N G) b N).1 ∧ mB I w s N G b = (omF w s N G (mA I w s N G) b N).2 := rM_b h64
theorem omF_0 {w s : Nat → Int32} {N G : Nat} {T : Nat → Int32} : ∀ n, omF w s N G T 0 n = (nI 0, -4)
  | 0 => rfl
  | n + 1 => by rw [omF_s, omS_f (omC_2 (Nat.zero_testBit _)), omF_0 n]
theorem ord_b {I J : mI} {w s : Nat → Int32} {N G hb : Nat} (hk : wOk w N G) : ∀ b, b < 64 → dif b hb = 0 → oR (oA I w s N G hb b) (mA J w s N G b) (b * 4095) ∧ oB I w s N G hb b = mB J w s N G b ∧ ((oA I w s N G hb b = -4 ∨ b = 0) → oB I w s N G hb b = -4) ∧ (¬ oA I w s N G hb b = -4 → b ≠ 0 → ∃ i, i < N ∧ b.testBit i = true ∧ oB I w s N G hb b = nI i ∧ ¬ oA I w s N G hb (clr b i) = -4) := by
  have h6 : N ≤ 6 := hk.1.2.2.2.1
  intro b
  induction b using Nat.strongRecOn with
  | ind b ih =>
    intro h64 hd
    by_cases h0 : b = 0
    · subst h0
      obtain ⟨e1, e2⟩ := oA_0 I w s N G hb
      obtain ⟨e3, e4⟩ := mA_b (I := J) (w := w) (s := s) (N := N) (G := G) (b := 0) (by decide)
      rw [omF_0] at e3 e4
      exact ⟨Or.inr ⟨0, Nat.le_refl _, e1, e3⟩, by rw [e2, e4], fun _ => e2, fun _ z => absurd rfl z⟩
    obtain ⟨e1, e2⟩ := oA_b (I := I) (w := w) (s := s) (N := N) (G := G) (by omega) (by omega) hd
    obtain ⟨e3, e4⟩ := mA_b (I := J) (w := w) (s := s) (N := N) (G := G) h64
    have lt : ∀ i, b.testBit i = true → clr b i < b := fun i hi => by
      have := clr_le b i
      have := clr_ne hi
      omega
    have ihR : ∀ i, i < N → b.testBit i = true → oR (oA I w s N G hb (clr b i)) (mA J w s N G (clr b i)) (clr b i * 4095) := fun i hi ht =>
      (ih (clr b i) (lt i ht) (by have := lt i ht; omega) (clr_sub h64 (by omega) hd)).1
    have hc1 : ∀ i, i < N → ((b.testBit i = true ∧ alone w N (clr b i) = false ∧ ¬ oA I w s N G hb (clr b i) = -4) ↔ ¬ (clr b i = b ∨ alone w N (clr b i) = true ∨ oA I w s N G hb (clr b i) = -4)) := fun i hi => by
      constructor
      · rintro ⟨a1, a2, a3⟩ z
        rcases z with z | z | z
        · exact clr_ne a1 z
        · rw [a2] at z; exact absurd z (by decide)
        · exact a3 z
      · intro z
        refine ⟨?_, ?_, fun q => z (Or.inr (Or.inr q))⟩
        · cases e : b.testBit i with
          | true => rfl
          | false => exact absurd (Or.inl (by unfold clr; rw [if_neg (by rw [e]; decide)])) z
        · cases e : alone w N (clr b i) with
          | false => rfl
          | true => exact absurd (Or.inr (Or.inl e)) z
    have hc2 : ∀ i, i < N → ((b.testBit i = true ∧ alone w N (clr b i) = false ∧ ¬ oA I w s N G hb (clr b i) = -4) ↔ omC w N (mA J w s N G) b i = true) := fun i hi => by
      unfold omC
      cases e1 : b.testBit i with
      | false => exact ⟨fun z => absurd z.1 (by decide), fun z => absurd z (by rw [Bool.false_and]; decide)⟩
      | true =>
        have r := oR_iff (ihR i hi e1) (by have := lt i e1; omega)
        cases e2 : alone w N (clr b i) with
        | true => exact ⟨fun z => absurd z.2.1 (by decide), fun z => absurd z (by simp)⟩
        | false =>
          by_cases e3 : oA I w s N G hb (clr b i) = -4
          · exact ⟨fun z => absurd e3 z.2.2, fun z => absurd z (by rw [decide_eq_true (r.mpr e3)]; decide)⟩
          · exact ⟨fun _ => by rw [decide_eq_false (fun q => e3 (r.mp q))]; rfl, fun _ => ⟨rfl, rfl, e3⟩⟩
    have hV : ∀ i, i < N → (b.testBit i = true ∧ alone w N (clr b i) = false ∧ ¬ oA I w s N G hb (clr b i) = -4) → (oA I w s N G hb (clr b i) + owe w s N G b i).toNatClampNeg ≤ b * 4095 ∧ oA I w s N G hb (clr b i) + owe w s N G b i = nI (oA I w s N G hb (clr b i) + owe w s N G b i).toNatClampNeg ∧ omP w s N G (mA J w s N G) b i = nI (oA I w s N G hb (clr b i) + owe w s N G b i).toNatClampNeg := fun i hi hci => by
      have hl := lt i hci.1
      obtain ⟨m, m1, m2⟩ := owe_n (s := s) (hb := b) hk hi
      rcases ihR i hi hci.1 with z | ⟨k, k1, k2, k3⟩
      · exact absurd z.1 hci.2.2
      · unfold omP
        rw [k2, k3, m2, nI_add, nI_add, nI_clamp (by omega), Nat.add_comm m k]
        exact ⟨by omega, rfl, rfl⟩
    have p1 := orF_b (s := s) (G := G) h6 hc1 (fun i hi hci => ⟨by have := (hV i hi hci).1; omega, (hV i hi hci).2.1⟩) N (Nat.le_refl _)
    have p2 := omF_b (s := s) (G := G) h6 h0 hc2 (fun i hi hci => ⟨by have := (hV i hi hci).1; omega, (hV i hi hci).2.2⟩) N (Nat.le_refl _)
    rw [Nat.sub_self] at p2
    rcases p1 with ⟨q1, q2⟩ | ⟨i, q2, q1⟩ <;> rcases p2 with ⟨r1, r2⟩ | ⟨j, r2, r1⟩
    · rw [q1] at e1 e2
      rw [r1] at e3 e4
      exact ⟨Or.inl ⟨e1, e3⟩, by rw [e2, e4], fun _ => e2, fun z => absurd e1 z⟩
    · exact absurd r2.2.1 (q2 j r2.1.2)
    · exact absurd q2.2.1 (r2 i (Nat.zero_le _) q2.1.2)
    · have := bst_u q2 r2
      subst this
      rw [q1] at e1 e2
      rw [r1] at e3 e4
      have hb1 := (hV i q2.1.2 q2.2.1).1
      refine ⟨Or.inr ⟨_, hb1, e1, e3⟩, by rw [e2, e4], fun z => ?_, fun _ _ => ⟨i, q2.1.2, q2.2.1.1, e2, q2.2.1.2.2⟩⟩
      rcases z with z | z
      · rw [e1] at z; exact absurd z (nI_ne4 (by omega))
      · exact absurd z h0
def oT (I : mI) (w s : Nat → Int32) (N G hb x : Nat) : Nat := (oB I w s N G hb x).toNatClampNeg
theorem lvB_s (T : Nat → Nat) (b n : Nat) : lvB T b (n + 1) = clr (lvB T b n) (T (lvB T b n)) := rfl
theorem dif_me {b : Nat} (h : b < 256) : dif b b = 0 := (dif_0 h).mpr (fun _ _ z => z)
theorem lv_b {I J : mI} {w s : Nat → Int32} {N G hb : Nat} (hk : wOk w N G) (h64 : hb < 64) (h : ¬ oA I w s N G hb hb = -4) : ∀ n, (lvO (mB J w s N G) hb n).1 = lvB (oT I w s N G hb) hb n ∧ dif (lvB (oT I w s N G hb) hb n) hb = 0 ∧ ¬ oA I w s N G hb (lvB (oT I w s N G hb) hb n) = -4
  | 0 => ⟨rfl, dif_me (b := hb) (by omega), h⟩
  | n + 1 => by
    have h6 : N ≤ 6 := hk.1.2.2.2.1
    obtain ⟨i1, i2, i3⟩ := lv_b (J := J) hk h64 h n
    have hle := lvB_le (oT I w s N G hb) hb n
    rw [lvO_s, lvB_s, i1]
    generalize hx : lvB (oT I w s N G hb) hb n = x at *
    obtain ⟨_, o2, o3, o4⟩ := ord_b (I := I) (J := J) hk x (by omega) i2
    by_cases h0 : x = 0
    · subst h0
      rw [if_pos (by rw [← o2]; exact o3 (Or.inr rfl))]
      have e : clr 0 (oT I w s N G hb 0) = 0 := Nat.le_zero.mp (clr_le 0 _)
      rw [e]
      exact ⟨rfl, i2, i3⟩
    · obtain ⟨i, j1, j2, j3, j4⟩ := o4 i3 h0
      have e : oT I w s N G hb x = i := by unfold oT; rw [j3, nI_clamp (by omega)]
      rw [← o2, j3, if_neg (nI_ne4 (by omega)), nI_clamp (by omega), e]
      exact ⟨rfl, clr_sub (by omega) (by omega) i2, j4⟩
theorem ord_T {I : mI} {w s : Nat → Int32} {N G hb : Nat} (hk : wOk w N G) (h64 : hb < 64) (h : ¬ oA I w s N G hb hb = -4) : ∀ x, 0 < x → x ≤ hb → (∃ n, x = lvB (oT I w s N G hb) hb n) → oB I w s N G hb x = nI (oT I w s N G hb x) ∧ oT I w s N G hb x < 6 := by
  intro x hx hxl hn
  obtain ⟨n, rfl⟩ := hn
  have h6 : N ≤ 6 := hk.1.2.2.2.1
  obtain ⟨_, i2, i3⟩ := lv_b (J := I) hk h64 h n
  obtain ⟨_, o2, o3, o4⟩ := ord_b (I := I) (J := I) hk _ (by omega) i2
  obtain ⟨i, j1, j2, j3, j4⟩ := o4 i3 (by omega)
  have e : oT I w s N G hb (lvB (oT I w s N G hb) hb n) = i := by
    show (oB I w s N G hb _).toNatClampNeg = i
    rw [j3, nI_clamp (by omega)]
  rw [e, j3]
  exact ⟨rfl, by omega⟩
theorem ord_0 {I J : mI} {w s : Nat → Int32} {N G hb : Nat} (hk : wOk w N G) (h64 : hb < 64) : (if mA J w s N G hb = FARI then -4 else mA J w s N G hb) = oA I w s N G hb hb := by
  obtain ⟨o1, _, _, _⟩ := ord_b (I := I) (J := J) hk hb h64 (dif_me (by omega))
  have r := oR_iff o1 (by omega)
  by_cases c : oA I w s N G hb hb = -4
  · rw [if_pos (r.mpr c), c]
  · rw [if_neg (fun z => c (r.mp z))]
    rcases o1 with z | ⟨k, _, k2, k3⟩
    · exact absurd z.1 c
    · rw [k2, k3]
theorem lvO_4 {F : Nat → Int32} {b : Nat} (h : F b = -4) : ∀ n, lvO F b n = (b, -4)
  | 0 => rfl
  | n + 1 => by
    rw [lvO_s, lvO_4 h n]
    exact if_pos h
theorem ord_n {I J : mI} {w s : Nat → Int32} {N G hb : Nat} (hk : wOk w N G) (h64 : hb < 64) (h : oA I w s N G hb hb = -4) (k : Nat) : (lvO (mB J w s N G) hb k).2 = -4 := by
  obtain ⟨_, o2, o3, _⟩ := ord_b (I := I) (J := J) hk hb h64 (dif_me (by omega))
  rw [lvO_4 (by rw [← o2]; exact o3 (Or.inl h)) k]
theorem ord_k {I J : mI} {w s : Nat → Int32} {N G hb : Nat} (hk : wOk w N G) (h64 : hb < 64) (h : ¬ oA I w s N G hb hb = -4) (n : Nat) : (lvO (mB J w s N G) hb (n + 1)).2 = if 0 < lvB (oT I w s N G hb) hb n then nI (oT I w s N G hb (lvB (oT I w s N G hb) hb n)) else -4 := by
  have h6 : N ≤ 6 := hk.1.2.2.2.1
  obtain ⟨i1, i2, i3⟩ := lv_b (J := J) hk h64 h n
  have hle := lvB_le (oT I w s N G hb) hb n
  rw [lvO_s, i1]
  generalize lvB (oT I w s N G hb) hb n = x at *
  obtain ⟨_, o2, o3, o4⟩ := ord_b (I := I) (J := J) hk x (by omega) i2
  by_cases h0 : x = 0
  · subst h0
    rw [if_pos (by rw [← o2]; exact o3 (Or.inr rfl)), if_neg (Nat.lt_irrefl _)]
  · obtain ⟨i, j1, j2, j3, j4⟩ := o4 i3 h0
    have e : oT I w s N G hb x = i := by unfold oT; rw [j3, nI_clamp (by omega)]
    rw [← o2, j3, if_neg (nI_ne4 (by omega)), if_pos (by omega), e]
theorem ord_F {J : mI} {w s : Nat → Int32} {N G : Nat} (h6 : N ≤ 6) : ∀ b, b < 64 → rM J w s N G 64 105 b = -4 ∨ ∃ i, i < 6 ∧ rM J w s N G 64 105 b = nI i := fun b hb => by
  have e := (mA_b (I := J) (w := w) (s := s) (N := N) (G := G) hb).2
  have h := omF_w (w := w) (s := s) (G := G) (b := b) (T := mA J w s N G) h6 N (Nat.le_refl _)
  rw [← e] at h
  exact h
