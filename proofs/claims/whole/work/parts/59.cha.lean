/-! ===== chairs alike: to take the dearest first is best ===== -/
def zs (u : Nat → Int) (b : Nat) : Nat → Int
  | 0 => 0
  | n + 1 => zs u b n + (if b.testBit n = true then u n else 0)
theorem zs_s (u : Nat → Int) (b n : Nat) : zs u b (n + 1) = zs u b n + (if b.testBit n = true then u n else 0) := rfl
theorem zs_le {u : Nat → Int} {b c : Nat} : ∀ {n : Nat}, (∀ g, g < n → (if b.testBit g = true then u g else 0) ≤ (if c.testBit g = true then u g else 0)) → zs u b n ≤ zs u c n
  | 0, _ => Int.le_refl _
  | n + 1, h => by
    have h1 := zs_le (n := n) (fun g hg => h g (by omega))
    have h2 := h n (by omega)
    rw [zs_s, zs_s]
    omega
theorem zs_sub (u : Nat → Int) (c : Int) (b : Nat) : ∀ n, zs (fun g => u g - c) b n = zs u b n - c * zs (fun _ => 1) b n
  | 0 => by show (0 : Int) = 0 - c * 0; omega
  | n + 1 => by
    rw [zs_s, zs_s, zs_s, zs_sub u c b n, Int.mul_add]
    by_cases h : b.testBit n = true
    · rw [if_pos h, if_pos h, if_pos h, Int.mul_one]; omega
    · rw [if_neg h, if_neg h, if_neg h, Int.mul_zero]; omega
theorem zs_or {u : Nat → Int} {b i : Nat} (hb : b < 256) (hi : i < 8) (h : b.testBit i = false) : ∀ n, n ≤ 8 → zs u (b ||| 2 ^ i) n = zs u b n + (if i < n then u i else 0)
  | 0, _ => by rw [if_neg (by omega)]; rfl
  | n + 1, hn => by
    rw [zs_s, zs_s, zs_or hb hi h n (by omega), Nat.testBit_or, Nat.testBit_two_pow]
    by_cases e : i = n
    · subst e
      rw [h, if_neg (Nat.lt_irrefl _), if_pos (Nat.lt_succ_self _), if_pos (by simp), if_neg (by decide)]
    · rw [decide_eq_false e, Bool.or_false]
      by_cases l : i < n
      · rw [if_pos l, if_pos (show i < n + 1 by omega)]; omega
      · rw [if_neg l, if_neg (show ¬ i < n + 1 by omega)]; omega
theorem pop_zs {b G : Nat} (hG : G ≤ 8) (hb : ∀ g, g < 8 → b.testBit g = true → g < G) : (pop b : Int) = zs (fun _ => 1) b G := by
  have e : pop b = nFold G (fun k n => if b.testBit k = true then n + 1 else n) 0 := nFold_up hG (fun k x a c => by
    rw [if_neg]
    intro z
    have := hb k c z
    omega)
  rw [e]
  clear e hb hG
  induction G with
  | zero => rfl
  | succ n ih =>
    rw [zs_s, ← ih]
    show ((if b.testBit n = true then nFold n (fun k n => if b.testBit k = true then n + 1 else n) 0 + 1 else nFold n (fun k n => if b.testBit k = true then n + 1 else n) 0 : Nat) : Int) = _
    by_cases h : b.testBit n = true
    · rw [if_pos h, if_pos h]; omega
    · rw [if_neg h, if_neg h]; omega
theorem pop_or {t i : Nat} (ht : t < 256) (hi : i < 8) (h : t.testBit i = false) : pop (t ||| 2 ^ i) = pop t + 1 := by
  have : ∀ t, t < 256 → ∀ i, i < 8 → t.testBit i = false → pop (t ||| 2 ^ i) = pop t + 1 := by decide +kernel
  exact this t ht i hi h
theorem pop_8 {t : Nat} (ht : t < 256) : pop t ≤ 8 := by
  have : ∀ t, t < 256 → pop t ≤ 8 := by decide +kernel
  exact this t ht
def cz (w : Nat → Int32) (g : Nat) : Int := (cnt w g).toInt
theorem wth_z {w : Nat → Int32} {N G b : Nat} (hk : wOk w N G) : (wthB w G b).toInt = zs (cz w) b G := by
  have hG : G ≤ 8 := hk.1.2.2.2.2
  have key : ∀ n, n ≤ G → (nSum n (fun g => if b.testBit g = true then cnt w g else 0)).toInt = zs (cz w) b n ∧ -(n * 120 : Int) ≤ zs (cz w) b n ∧ zs (cz w) b n ≤ n * 120 := by
    intro n
    induction n with
    | zero => intro _; exact ⟨by show (0 : Int32).toInt = 0; decide, by show -((0 : Nat) * 120 : Int) ≤ 0; omega, by show (0 : Int) ≤ (0 : Nat) * 120; omega⟩
    | succ n ih =>
      intro hn
      obtain ⟨i1, i2, i3⟩ := ih (by omega)
      have hc := cnt_b hk (show n < G by omega)
      have e : (nSum (n + 1) (fun g => if b.testBit g = true then cnt w g else 0)) = nSum n (fun g => if b.testBit g = true then cnt w g else 0) + (if b.testBit n = true then cnt w n else 0) := rfl
      rw [e, zs_s]
      by_cases h : b.testBit n = true
      · rw [if_pos h, if_pos h]
        have e2 : cz w n = (cnt w n).toInt := rfl
        rw [i_add (by rw [i1]; omega) (by rw [i1]; omega), i1, e2]
        exact ⟨rfl, by omega, by omega⟩
      · rw [if_neg h, if_neg h]
        rw [i_add (by rw [i1, i0]; omega) (by rw [i1, i0]; omega), i1, i0]
        exact ⟨rfl, by omega, by omega⟩
  exact (key G (Nat.le_refl _)).1
theorem thB_bit {s : Nat → Int32} {G hb g : Nat} : ∀ n, (thB s G hb n).testBit g = true ↔ g < G ∧ ∃ i, i < n ∧ hb.testBit i = true ∧ s (19 + g) = nI i
  | 0 => by
    show (0 : Nat).testBit g = true ↔ _
    rw [Nat.zero_testBit]
    exact ⟨fun z => absurd z (by decide), fun ⟨_, _, h, _⟩ => absurd h (Nat.not_lt_zero _)⟩
  | n + 1 => by
    show (if hb.testBit n = true then thB s G hb n ||| ownB s G (nI n) else thB s G hb n).testBit g = true ↔ _
    by_cases h : hb.testBit n = true
    · rw [if_pos h, Nat.testBit_or, Bool.or_eq_true, thB_bit n, ownB_bit, Bool.and_eq_true, decide_eq_true_eq, decide_eq_true_eq]
      constructor
      · rintro (⟨a, i, b, c, e⟩ | ⟨a, b⟩)
        · exact ⟨a, i, by omega, c, e⟩
        · exact ⟨a, n, by omega, h, b⟩
      · rintro ⟨a, i, b, c, e⟩
        rcases Nat.lt_succ_iff_lt_or_eq.mp b with z | z
        · exact Or.inl ⟨a, i, z, c, e⟩
        · exact Or.inr ⟨a, by rw [← z]; exact e⟩
    · rw [if_neg h, thB_bit n]
      constructor
      · rintro ⟨a, i, b, c, e⟩
        exact ⟨a, i, by omega, c, e⟩
      · rintro ⟨a, i, b, c, e⟩
        rcases Nat.lt_succ_iff_lt_or_eq.mp b with z | z
        · exact ⟨a, i, z, c, e⟩
        · rw [z] at c; exact absurd c h
theorem th_iff {s : Nat → Int32} {N G hb g : Nat} (hs : sOk s N G) (h6 : N ≤ 6) : (thB s G hb N).testBit g = true ↔ g < G ∧ isHr hb (s (19 + g)) = true := by
  rw [thB_bit]
  constructor
  · rintro ⟨a, i, b, c, e⟩
    exact ⟨a, by rw [e, isHr_n (by omega)]; exact c⟩
  · rintro ⟨a, b⟩
    rcases hs.1 g a with e | ⟨q, hq, e⟩
    · rw [e, isHr_4] at b; exact absurd b (by decide)
    · rw [e, isHr_n (by omega)] at b
      exact ⟨a, q, hq, b, e⟩
/-- a set of the goods of those who are here -/
def sb (s : Nat → Int32) (G hb b : Nat) : Prop := b < 256 ∧ ∀ g, g < 8 → b.testBit g = true → g < G ∧ isHr hb (s (19 + g)) = true
def vl (w s : Nat → Int32) (G hb : Nat) (K : Int) (b : Nat) : Prop := sb s G hb b ∧ K ≤ zs (cz w) b G
def best (w s : Nat → Int32) (G hb : Nat) (K : Int) (q : Int32) : Prop := (q = -4 ∧ ∀ b, b < 256 → ¬ vl w s G hb K b) ∨ ∃ m, m ≤ 8 ∧ q = nI m ∧ (∃ b, b < 256 ∧ vl w s G hb K b ∧ pop b = m) ∧ ∀ b, b < 256 → vl w s G hb K b → m ≤ pop b
theorem best_u {w s : Nat → Int32} {G hb : Nat} {K : Int} {p q : Int32} (h1 : best w s G hb K p) (h2 : best w s G hb K q) : p = q := by
  rcases h1 with ⟨a1, a2⟩ | ⟨m, a1, a2, ⟨b, a3, a4, a5⟩, a6⟩ <;> rcases h2 with ⟨b1, b2⟩ | ⟨n, b1, b2, ⟨c, b3, b4, b5⟩, b6⟩
  · rw [a1, b1]
  · exact absurd b4 (a2 c b3)
  · exact absurd a4 (b2 b a3)
  · have := a6 c b3 b4
    have := b6 b a3 a4
    rw [a2, b2, show m = n by omega]
theorem vl_iff {w s : Nat → Int32} {N G hb b : Nat} {k : Int32} (hk : wOk w N G) (hs : sOk s N G) (hb8 : b < 256) : (dif b (thB s G hb N) = 0 ∧ ¬ wthB w G b < k) ↔ vl w s G hb k.toInt b := by
  have h6 : N ≤ 6 := hk.1.2.2.2.1
  have e1 : dif b (thB s G hb N) = 0 ↔ sb s G hb b := by
    rw [dif_0 hb8]
    constructor
    · intro h
      exact ⟨hb8, fun g hg hb => (th_iff hs h6).mp (h g hg hb)⟩
    · intro h g hg hb
      exact (th_iff hs h6).mpr (h.2 g hg hb)
  have e2 : ¬ wthB w G b < k ↔ k.toInt ≤ zs (cz w) b G := by
    rw [Int32.lt_iff_toInt_lt, wth_z hk]
    omega
  rw [e1, e2]
  exact Iff.rfl
theorem pop_n {b : Nat} (h : b < 256) : pop b < 2 ^ 31 := by have := pop_8 h; omega
theorem chQ_b {w s : Nat → Int32} {N G hb : Nat} {k : Int32} (hk : wOk w N G) (hs : sOk s N G) : ∀ n, n ≤ 256 → (chQ w s N G hb k n = -4 ∧ ∀ b, b < n → ¬ vl w s G hb k.toInt b) ∨ ∃ m, m ≤ 8 ∧ chQ w s N G hb k n = nI m ∧ (∃ b, b < 256 ∧ vl w s G hb k.toInt b ∧ pop b = m) ∧ ∀ b, b < n → vl w s G hb k.toInt b → m ≤ pop b
  | 0, _ => Or.inl ⟨rfl, fun b h => absurd h (Nat.not_lt_zero _)⟩
  | n + 1, hn => by
    have ih := chQ_b (hb := hb) (k := k) hk hs n (by omega)
    rw [chQ_s]
    have h8 := pop_8 (t := n) (by omega)
    by_cases v : vl w s G hb k.toInt n
    · obtain ⟨v1, v2⟩ := (vl_iff hk hs (by omega)).mpr v
      rcases ih with ⟨a1, a2⟩ | ⟨m, a1, a2, a3, a4⟩
      · rw [if_pos ⟨v1, Or.inl a1, v2⟩]
        refine Or.inr ⟨_, h8, rfl, ⟨n, by omega, v, rfl⟩, fun b hb hv => ?_⟩
        rcases Nat.lt_succ_iff_lt_or_eq.mp hb with z | z
        · exact absurd hv (a2 b z)
        · rw [z]; exact Nat.le_refl _
      · by_cases l : m ≤ pop n
        · rw [if_neg (fun z => by
            rcases z.2.1 with y | y
            · rw [a2] at y; exact nI_ne4 (by omega) y
            · rw [a2, nI_leI (by omega) (by omega)] at y; exact y l)]
          refine Or.inr ⟨m, a1, a2, a3, fun b hb hv => ?_⟩
          rcases Nat.lt_succ_iff_lt_or_eq.mp hb with z | z
          · exact a4 b z hv
          · rw [z]; exact l
        · rw [if_pos ⟨v1, Or.inr (by rw [a2, nI_leI (by omega) (by omega)]; exact l), v2⟩]
          refine Or.inr ⟨_, h8, rfl, ⟨n, by omega, v, rfl⟩, fun b hb hv => ?_⟩
          rcases Nat.lt_succ_iff_lt_or_eq.mp hb with z | z
          · have := a4 b z hv; omega
          · rw [z]; exact Nat.le_refl _
    · rw [if_neg (fun z => v ((vl_iff hk hs (by omega)).mp ⟨z.1, z.2.2⟩))]
      rcases ih with ⟨a1, a2⟩ | ⟨m, a1, a2, a3, a4⟩
      · refine Or.inl ⟨a1, fun b hb => ?_⟩
        rcases Nat.lt_succ_iff_lt_or_eq.mp hb with z | z
        · exact a2 b z
        · rw [z]; exact v
      · refine Or.inr ⟨m, a1, a2, a3, fun b hb hv => ?_⟩
        rcases Nat.lt_succ_iff_lt_or_eq.mp hb with z | z
        · exact a4 b z hv
        · rw [z] at hv; exact absurd hv v
theorem chBo_b (w s : Nat → Int32) (hb t : Nat) : ∀ n, (chBo w s hb t n = 0 ∧ ∀ g, g < n → chM w s hb t g = false) ∨ ∃ i, i < n ∧ chBo w s hb t n = i + 1 ∧ chM w s hb t i = true ∧ ∀ g, g < n → chM w s hb t g = true → cz w g ≤ cz w i
  | 0 => Or.inl ⟨rfl, fun g h => absurd h (Nat.not_lt_zero _)⟩
  | n + 1 => by
    have ih := chBo_b w s hb t n
    rw [chBo_s]
    by_cases c : chM w s hb t n = true
    · rcases ih with ⟨a1, a2⟩ | ⟨i, a1, a2, a3, a4⟩
      · rw [if_pos ⟨c, Or.inl a1⟩]
        refine Or.inr ⟨n, by omega, rfl, c, fun g hg hc => ?_⟩
        rcases Nat.lt_succ_iff_lt_or_eq.mp hg with z | z
        · rw [a2 g z] at hc; exact absurd hc (by decide)
        · rw [z]; exact Int.le_refl _
      · rw [a2, Nat.add_sub_cancel]
        by_cases l : cnt w i < cnt w n
        · rw [if_pos ⟨c, Or.inr l⟩]
          rw [Int32.lt_iff_toInt_lt] at l
          refine Or.inr ⟨n, by omega, rfl, c, fun g hg hc => ?_⟩
          rcases Nat.lt_succ_iff_lt_or_eq.mp hg with z | z
          · have := a4 g z hc
            unfold cz at this ⊢
            omega
          · rw [z]; exact Int.le_refl _
        · rw [if_neg (fun z => z.2.elim (fun y => absurd y (Nat.succ_ne_zero _)) l)]
          rw [Int32.lt_iff_toInt_lt] at l
          refine Or.inr ⟨i, by omega, rfl, a3, fun g hg hc => ?_⟩
          rcases Nat.lt_succ_iff_lt_or_eq.mp hg with z | z
          · exact a4 g z hc
          · rw [z]; unfold cz; omega
    · rw [if_neg (fun z => c z.1)]
      rcases ih with ⟨a1, a2⟩ | ⟨i, a1, a2, a3, a4⟩
      · refine Or.inl ⟨a1, fun g hg => ?_⟩
        rcases Nat.lt_succ_iff_lt_or_eq.mp hg with z | z
        · exact a2 g z
        · rw [z]; simpa using c
      · refine Or.inr ⟨i, by omega, a2, a3, fun g hg hc => ?_⟩
        rcases Nat.lt_succ_iff_lt_or_eq.mp hg with z | z
        · exact a4 g z hc
        · rw [z] at hc; exact absurd hc c
/-- all in t are worth at least c, all others at most c -/
def grd (w s : Nat → Int32) (G hb t : Nat) (c : Int) : Prop := 0 ≤ c ∧ (∀ g, g < 8 → t.testBit g = true → c ≤ cz w g) ∧ ∀ g, g < G → isHr hb (s (19 + g)) = true → t.testBit g = false → cz w g ≤ c
theorem grd_le {w s : Nat → Int32} {G hb t b : Nat} {c : Int} (hG : G ≤ 8) (h : grd w s G hb t c) (ht : sb s G hb t) (hb2 : sb s G hb b) (hp : c = 0 ∨ pop b ≤ pop t) : zs (cz w) b G ≤ zs (cz w) t G := by
  have h1 := zs_le (u := fun g => cz w g - c) (b := b) (c := t) (n := G) (fun g hg => by
    by_cases x : t.testBit g = true
    · have := h.2.1 g (by omega) x
      rw [if_pos x]
      split <;> omega
    · rw [if_neg x]
      by_cases y : b.testBit g = true
      · rw [if_pos y]
        have := h.2.2 g hg (hb2.2 g (by omega) y).2 (by simpa using x)
        omega
      · rw [if_neg y]; omega)
  rw [zs_sub, zs_sub, ← pop_zs hG (fun g hg hh => (ht.2 g hg hh).1), ← pop_zs hG (fun g hg hh => (hb2.2 g hg hh).1)] at h1
  rcases hp with z | z
  · rw [z] at h1; omega
  · have h2 : 0 ≤ c * ((pop t : Int) - (pop b : Int)) := Int.mul_nonneg h.1 (by omega)
    rw [Int.mul_sub] at h2
    omega
theorem chL_b {w s : Nat → Int32} {N G hb : Nat} {k : Int32} (hk : wOk w N G) : ∀ (f t : Nat) (x : Int32), f + pop t = 9 → sb s G hb t → (∃ c, grd w s G hb t c) → x.toInt = zs (cz w) t G → (∀ b, vl w s G hb k.toInt b → pop t ≤ pop b) → best w s G hb k.toInt (chL w s G hb k f t x)
  | 0, t, x, hf, ht, _, _, _ => by
    have := pop_8 ht.1
    omega
  | f + 1, t, x, hf, ht, hg, hx, hm => by
    have hG : G ≤ 8 := hk.1.2.2.2.2
    obtain ⟨c, hg⟩ := hg
    show best w s G hb k.toInt (if x < k then (if chBo w s hb t G = 0 then -4 else chL w s G hb k f (t ||| 2 ^ (chBo w s hb t G - 1)) (x + cnt w (chBo w s hb t G - 1))) else nI (pop t))
    by_cases l : x < k
    · rw [if_pos l]
      rw [Int32.lt_iff_toInt_lt, hx] at l
      rcases chBo_b w s hb t G with ⟨a1, a2⟩ | ⟨i, a1, a2, a3, a4⟩
      · rw [if_pos a1]
        have g0 : grd w s G hb t 0 := ⟨Int.le_refl _, fun g hg1 hg2 => Int.le_trans hg.1 (hg.2.1 g hg1 hg2), fun g g1 g2 g3 => by
          have := a2 g g1
          by_cases z : cnt w g ≤ 0
          · rw [Int32.le_iff_toInt_le] at z
            have e : (0 : Int32).toInt = 0 := by decide
            unfold cz
            omega
          · rw [chM_1 g2 g3 z] at this; exact absurd this (by decide)⟩
        refine Or.inl ⟨rfl, fun b hb2 hv => ?_⟩
        have := grd_le hG g0 ht hv.1 (Or.inl rfl)
        have := hv.2
        omega
      · rw [a2, if_neg (Nat.succ_ne_zero _), Nat.add_sub_cancel]
        obtain ⟨m1, m2, m3⟩ := chM_2 a3
        have hp := pop_or ht.1 (by omega) m2
        have mz : ¬ cz w i ≤ 0 := fun z => m3 (by
          rw [Int32.le_iff_toInt_le]
          have e : (0 : Int32).toInt = 0 := by decide
          unfold cz at z
          omega)
        have bt : ∀ g, (t ||| 2 ^ i).testBit g = true ↔ t.testBit g = true ∨ i = g := fun g => by
          rw [Nat.testBit_or, Nat.testBit_two_pow, Bool.or_eq_true, decide_eq_true_eq]
        have ci := cnt_b hk (show i < G by omega)
        have hzb : -960 ≤ x.toInt ∧ x.toInt ≤ 1000000 := by
          have r := i_rng k
          have hw := wth_z (b := t) hk
          have e : (wthB w G t).toInt = (nSum G (fun g => if t.testBit g = true then cnt w g else 0)).toInt := rfl
          have := nSum_b (t := fun g => if t.testBit g = true then cnt w g else 0) (a := 40) (b := 120) (n := G) (by decide) (by decide) (by omega) (fun g hg => by
            show _ ≤ (if t.testBit g = true then cnt w g else 0).toInt ∧ (if t.testBit g = true then cnt w g else 0).toInt ≤ _
            by_cases hc : t.testBit g = true
            · rw [if_pos hc]; exact cnt_b hk hg
            · rw [if_neg hc, i0]; omega)
          have m1 : G * 40 ≤ 8 * 40 := Nat.mul_le_mul hG (Nat.le_refl _)
          have m2 : G * 120 ≤ 8 * 120 := Nat.mul_le_mul hG (Nat.le_refl _)
          rw [hx, ← hw, e]
          omega
        refine chL_b hk f _ _ (by omega) ⟨Nat.or_lt_two_pow (n := 8) ht.1 (p2_le (m := 8) (n := i + 1) (by omega) (Nat.pow_lt_pow_right (by decide) (by omega))), fun g g1 g2 => ?_⟩ ⟨cz w i, by omega, fun g g1 g2 => ?_, fun g g1 g2 g3 => ?_⟩ ?_ (fun b hv => ?_)
        · rcases (bt g).mp g2 with z | z
          · exact ht.2 g g1 z
          · rw [← z]; exact ⟨by omega, m1⟩
        · rcases (bt g).mp g2 with z | z
          · have q1 := hg.2.1 g g1 z
            have q2 := hg.2.2 i (by omega) m1 m2
            omega
          · rw [z]; exact Int.le_refl _
        · have g4 : t.testBit g = false := by
            cases e : t.testBit g with
            | false => rfl
            | true => rw [(bt g).mpr (Or.inl e)] at g3; exact absurd g3 (by decide)
          by_cases z : cnt w g ≤ 0
          · rw [Int32.le_iff_toInt_le] at z
            have e : (0 : Int32).toInt = 0 := by decide
            have : cz w g ≤ 0 := by unfold cz; omega
            omega
          · exact a4 g g1 (chM_1 g2 g4 z)
        · rw [zs_or ht.1 (by omega) m2 G hG, if_pos (by omega), i_add (by omega) (by omega), hx]
          rfl
        · rw [hp]
          have q1 := hm b hv
          rcases Nat.eq_or_lt_of_le q1 with z | z
          · have := grd_le hG hg ht hv.1 (Or.inr (by omega))
            have := hv.2
            omega
          · omega
    · rw [if_neg l]
      rw [Int32.lt_iff_toInt_lt, hx] at l
      have v : vl w s G hb k.toInt t := ⟨ht, by omega⟩
      exact Or.inr ⟨_, pop_8 ht.1, rfl, ⟨t, ht.1, v, rfl⟩, fun b _ hv => hm b hv⟩
theorem zs_0 (u : Nat → Int) : ∀ n, zs u 0 n = 0
  | 0 => rfl
  | n + 1 => by rw [zs_s, zs_0 u n, Nat.zero_testBit, if_neg (by decide)]; rfl
theorem ch_eq {w s : Nat → Int32} {N G hb : Nat} {k : Int32} (hk : wOk w N G) (hs : sOk s N G) : chQ w s N G hb k 256 = chL w s G hb k 9 0 (nI 0) := by
  have z : ∀ g, (0 : Nat).testBit g = true → False := fun g h => by rw [Nat.zero_testBit] at h; exact absurd h (by decide)
  refine best_u (w := w) (s := s) (G := G) (hb := hb) (K := k.toInt) ?_ (chL_b hk 9 0 (nI 0) rfl ⟨by decide, fun g _ h => absurd h (fun q => z g q)⟩ ⟨120, by decide, fun g _ h => absurd h (fun q => z g q), fun g g1 _ _ => (cnt_b hk g1).2⟩ (by rw [zs_0]; decide) (fun b _ => Nat.zero_le _))
  rcases chQ_b (hb := hb) (k := k) hk hs 256 (Nat.le_refl _) with ⟨a1, a2⟩ | ⟨m, a1, a2, a3, a4⟩
  · exact Or.inl ⟨a1, a2⟩
  · exact Or.inr ⟨m, a1, a2, a3, a4⟩
