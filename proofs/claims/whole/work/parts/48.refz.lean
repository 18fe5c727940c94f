/-! ===== the reference: turns, the whole game ===== -/
def oneV (D a b : Nat) : Int32 := if D % 2 = 0 then nI a else nI b
theorem oneV_sw (D a b : Nat) : oneV (D + 1) a b = oneV D b a := by
  unfold oneV
  by_cases h : D % 2 = 0
  · rw [if_pos h, if_neg (by omega)]
  · rw [if_neg h, if_pos (by omega)]
theorem less_iff {H : mI} {D q1 q2 p1 p2 : Nat} (h7 : H 107 D = oneV D q1 q2) (h8 : H 108 D = oneV (D + 1) q1 q2) (b1 : q1 < 4096) (b2 : p2 < 4096) : lessT H D (oneV (D + 1) p1 p2) (oneV (D + 2) p1 p2) ↔ p2 < q1 := by
  unfold lessT
  by_cases h : D % 2 = 0
  · rw [if_pos h, h7, oneV_sw]
    unfold oneV
    rw [if_pos h, if_pos h]
    exact nI_ltI (by omega) (by omega)
  · rw [if_neg h, h8, oneV_sw, oneV_sw, oneV_sw]
    unfold oneV
    rw [if_neg h, if_neg h]
    exact nI_ltI (by omega) (by omega)
theorem less_far {H : mI} {D p1 p2 : Nat} (h7 : H 107 D = FARI) (h8 : H 108 D = FARI) (b2 : p2 < 4096) : lessT H D (oneV (D + 1) p1 p2) (oneV (D + 2) p1 p2) := by
  unfold lessT FARI at *
  by_cases h : D % 2 = 0
  · rw [if_pos h, h7, oneV_sw]
    unfold oneV
    rw [if_pos h]
    exact (nI_ltI (by omega) (by decide)).mpr (by omega)
  · rw [if_neg h, h8, oneV_sw, oneV_sw]
    unfold oneV
    rw [if_neg h]
    exact (nI_ltI (by omega) (by decide)).mpr (by omega)
theorem fst_ly (s : Nat → Int32) (v m G : Nat) : (∀ x, m ≤ x → x < G → ly s x v = false) ∨ ∃ k, m ≤ k ∧ k < G ∧ (∀ x, m ≤ x → x < k → ly s x v = false) ∧ ly s k v = true := by
  rcases fst_no (q := fun t => !ly s (m + t) v) (G - m) with h | ⟨k0, h1, h2, h3⟩
  · refine Or.inl (fun x a b => ?_)
    have := h (x - m) (by omega)
    rw [show m + (x - m) = x by omega] at this
    simpa using this
  · refine Or.inr ⟨m + k0, by omega, by omega, fun x a b => ?_, by simpa using h3⟩
    have := h2 (x - m) (by omega)
    rw [show m + (x - m) = x by omega] at this
    simpa using this
theorem plQ_sk {w : Nat → Int32} {N G hb n m a o : Nat} {s : Nat → Int32} : ∀ {k : Nat}, m ≤ k → (∀ x, m ≤ x → x < k → ly s x a = false) → plQ w N G hb n s a o k = plQ w N G hb n s a o m
  | 0, h, _ => by rw [show m = 0 by omega]
  | k + 1, h, hy => by
    by_cases e : m = k + 1
    · rw [e]
    · rw [plQ_s, if_neg (fun z => by rw [hy k (by omega) (by omega)] at z; exact absurd z.1 (by decide))]
      exact plQ_sk (by omega) (fun x a b => hy x a (by omega))
theorem hnd_ly {s : Nat → Int32} {g m x : Nat} (h : ly s g m = true) : up s (19 + g) (nI x) = hnd s g x ∧ s (19 + g) = nI m := by
  simp only [ly, Bool.and_eq_true, decide_eq_true_eq] at h
  refine ⟨?_, h.1⟩
  funext b
  unfold hnd up
  by_cases e : b = 27 + g
  · rw [if_pos e, if_neg (by omega), e, h.2]; rfl
  · rw [if_neg e]
abbrev ftA (X : mCx) (S : mSh) (R : mR) (i j n D : Nat) (H : mI) (d : Nat) (r : Option Value) (h : mHp) : Prop := JJ X M_X12_findTurns (d + 4) 22 [.ref 97, .int (nI i), .int (nI j), .int (nI n), .int (nI D), .retAddr 0, .retAddr 0, .retAddr 0, .retAddr 0] [] S (H, R) r S h
abbrev ftZ (X : mCx) (S : mSh) (R : mR) (i j n D : Nat) (a b : Int32) (H : mI) (d : Nat) (r : Option Value) (h : mHp) : Prop := JJ X M_X12_findTurns (d + 4) 163 [.ref 97, .int (nI i), .int (nI j), .int (nI n), .int (nI D), .retAddr 0, .retAddr 0, .int a, .int b] [] S (H, R) r S h
theorem whoT_lt {D i j N : Nat} (hi : i < N) (hj : j < N) : whoT D i j < N := by rcases whoT_c D i j with h | h <;> rw [h] <;> assumption
theorem whoT_2 (D i j : Nat) : whoT (D + 2) i j = whoT D i j := by unfold whoT; rw [show (D + 2) % 2 = D % 2 by omega]
theorem g_ftL (X : mCx) {S : mSh} {R : mR} {i j n D hb N G r0 : Nat} {w s : Nat → Int32} (hm : Mod S R) (hk : wOk w N G) (hi : i < N) (hj : j < N) (hn : n ≤ 4) (hDr : D + 1 + r0 = n)
    (IH : ∀ (s' : Nat → Int32) (J : mI), MoW J w N G → MoD J 385 s' hb → J 106 (D + 1) = -5 → J 107 (D + 1) = FARI → J 108 (D + 1) = FARI → ∃ J1, frT (D + 1) J J1 ∧ ∀ d r h, ftZ X S R i j n (D + 1) (oneV (D + 1) (plP w N G hb r0 s' (whoT (D + 1) i j) (whoT D i j)).1.1 (plP w N G hb r0 s' (whoT (D + 1) i j) (whoT D i j)).1.2) (oneV (D + 2) (plP w N G hb r0 s' (whoT (D + 1) i j) (whoT D i j)).1.1 (plP w N G hb r0 s' (whoT (D + 1) i j) (whoT D i j)).1.2) J1 d r h → ftA X S R i j n (D + 1) J d r h) :
    ∀ (c m : Nat) (H : mI), G - m ≤ c → m ≤ G → MoW H w N G → MoD H 385 s hb → H 106 D = (if m = 0 then -4 else nI (m - 1)) → H 107 D = oneV D (plQ w N G hb r0 s (whoT D i j) (whoT (D + 1) i j) m).1.1 (plQ w N G hb r0 s (whoT D i j) (whoT (D + 1) i j) m).1.2 → H 108 D = oneV (D + 1) (plQ w N G hb r0 s (whoT D i j) (whoT (D + 1) i j) m).1.1 (plQ w N G hb r0 s (whoT D i j) (whoT (D + 1) i j) m).1.2 → (D = 0 → H 97 16 = (plQ w N G hb r0 s (whoT D i j) (whoT (D + 1) i j) m).2) →
    ∃ H1, frT D H H1 ∧ H1 107 D = oneV D (plQ w N G hb r0 s (whoT D i j) (whoT (D + 1) i j) G).1.1 (plQ w N G hb r0 s (whoT D i j) (whoT (D + 1) i j) G).1.2 ∧ (D = 0 → H1 97 16 = (plQ w N G hb r0 s (whoT D i j) (whoT (D + 1) i j) G).2) ∧ ∀ d r h, ftZ X S R i j n D (oneV D (plQ w N G hb r0 s (whoT D i j) (whoT (D + 1) i j) G).1.1 (plQ w N G hb r0 s (whoT D i j) (whoT (D + 1) i j) G).1.2) (oneV (D + 1) (plQ w N G hb r0 s (whoT D i j) (whoT (D + 1) i j) G).1.1 (plQ w N G hb r0 s (whoT D i j) (whoT (D + 1) i j) G).1.2) H1 d r h → ftA X S R i j n D H d r h := by
  intro c
  induction c with
  | zero =>
    intro m H hc hmG hw hd h6 h7 h8 h16
    have hN6 := hw.N6
    have hG8 := hw.G8
    have hmE : m = G := by omega
    subst hmE
    refine ⟨H, frT.rfl' D H, h7, h16, fun d r h K => ?_⟩
    refine g_ft2 X d hm (by omega) (by omega) hn (by omega) (by omega) rfl ?_ (by rw [h7, h8]; exact K)
    intro d
    rw [h6]
    cases m with
    | zero => exact v_X12_next_0f X d hm hw hd (Nat.le_refl _) (fun x a b => absurd b (Nat.not_lt_zero _))
    | succ m => exact v_X12_next_gf X d hm hw hd (by omega) (Nat.le_refl _) (fun x a b => absurd b (by omega))
  | succ c ih =>
    intro m H hc hmG hw hd h6 h7 h8 h16
    have hN6 := hw.N6
    have hG8 := hw.G8
    have b1 := plQ_b hk (n := r0) (s := s) (hb := hb) (whoT_lt (D := D) hi hj) (whoT_lt (D := D + 1) hi hj)
    rcases fst_ly s (whoT D i j) m G with hno | ⟨k, k1, k2, k3, k4⟩
    · have e := plQ_sk (w := w) (N := N) (G := G) (hb := hb) (n := r0) (o := whoT (D + 1) i j) hmG hno
      rw [e]
      refine ⟨H, frT.rfl' D H, h7, h16, fun d r h K => ?_⟩
      refine g_ft2 X d hm (by omega) (by omega) hn (by omega) (by omega) rfl ?_ (by rw [h7, h8]; exact K)
      intro d
      rw [h6]
      cases m with
      | zero => exact v_X12_next_0f X d hm hw hd (by omega) hno
      | succ m => exact v_X12_next_gf X d hm hw hd (by omega) (by omega) hno
    · obtain ⟨es, eo⟩ := hnd_ly (x := whoT (D + 1) i j) k4
      have eq1 := plQ_sk (w := w) (N := N) (G := G) (hb := hb) (n := r0) (o := whoT (D + 1) i j) k1 k3
      have bp := plP_b hk r0 (hnd s k (whoT (D + 1) i j)) (whoT (D + 1) i j) (whoT D i j) (hb := hb) (whoT_lt hi hj) (whoT_lt hi hj)
      obtain ⟨H1, f1, g6, gt, gf, run⟩ := g_ftT X (x := nI k) (s' := hnd s k (whoT (D + 1) i j)) hm (by omega) (by omega) hn (show D < n by omega) hw hd h6 (fun z => absurd ((nI_eq (by omega) (by decide)).mp z) (by omega)) (by
        intro d
        cases m with
        | zero => exact v_X12_next_0t X d hm hw hd k2 k1 k4 k3
        | succ m => exact v_X12_next_gt X d hm hw hd (by omega) k2 k1 k4 k3) (Or.inr ⟨k, by omega, rfl, es.symm, eo⟩) (fun J a1 a2 a3 a4 a5 => IH _ J a1 a2 a3 a4 a5)
      have li := less_iff (p1 := (plP w N G hb r0 (hnd s k (whoT (D + 1) i j)) (whoT (D + 1) i j) (whoT D i j)).1.1) h7 h8 (b1 m).1 bp.2
      have hw1 : MoW H1 w N G := hw.fr (f1.1 98 (by decide) (by decide) (by decide) (by decide))
      have hd1 : MoD H1 385 s hb := hd.fr (f1.1 99 (by decide) (by decide) (by decide) (by decide))
      have next := ih (k + 1) H1 (by omega) (by omega) hw1 hd1 (by rw [g6, if_neg (by omega)]; rfl)
      rw [plQ_s, eq1] at next
      by_cases hl : (plP w N G hb r0 (hnd s k (whoT (D + 1) i j)) (whoT (D + 1) i j) (whoT D i j)).1.2 < (plQ w N G hb r0 s (whoT D i j) (whoT (D + 1) i j) m).1.1
      · obtain ⟨t7, t8, t16⟩ := gt (li.mpr hl)
        rw [if_pos ⟨k4, hl⟩] at next
        obtain ⟨H2, f2, y2, z2, run2⟩ := next (by rw [t7, oneV_sw]) (by rw [t8, oneV_sw]) t16
        exact ⟨H2, f1.tr f2, y2, z2, fun d r h K => run d r h (run2 d r h K)⟩
      · obtain ⟨t7, t8, t16⟩ := gf (fun z => hl (li.mp z))
        rw [if_neg (fun z => hl z.2)] at next
        obtain ⟨H2, f2, y2, z2, run2⟩ := next (by rw [t7, h7]) (by rw [t8, h8]) (fun z => by rw [t16]; exact h16 z)
        exact ⟨H2, f1.tr f2, y2, z2, fun d r h K => run d r h (run2 d r h K)⟩
