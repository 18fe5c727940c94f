/-! ===== a call of each that only thinks ===== -/
/-- all that lasts is as it was -/
def frS (I I1 : mI) : Prop := (∀ o, o ≤ 3 ∨ (6 ≤ o ∧ o ≤ 10) ∨ (16 ≤ o ∧ o ≤ 72) ∨ (77 ≤ o ∧ o ≤ 96) → I1 o = I o) ∧ (∀ b, b ≤ 8 → I1 97 b = I 97 b) ∧ (∀ k, k < 89 → I1 98 k = I 98 k) ∧ (∀ k, k < 385 → I1 99 k = I 99 k) ∧ I1 100 = I 100 ∧ I1 101 = I 101 ∧ I1 102 = I 102
theorem frS.id (I : mI) : frS I I := ⟨fun _ _ => rfl, fun _ _ => rfl, fun _ _ => rfl, fun _ _ => rfl, rfl, rfl, rfl⟩
theorem SO.scr {X : mCx} {S : mSh} {mc mr : mMe} {as : List Value} (h : ∀ I R f dr w N G s hb pb, Cla S R f dr → Fam S I R f w N G → Mod S R → MoW I w N G → wOk w N G → Std S I R 6 s N G hb pb → MoD I 0 s hb → sOk s N G → ∃ v I1 I2, (∀ d, CC X (d + 12) mc (.ref 1 :: as) S (I, R) (some (.int v)) S (I1, R)) ∧ (∀ d, CC X (d + 12) mr (.ref 97 :: as) S (I1, R) (some (.int v)) S (I2, R)) ∧ frS I I2) : SO X S mc mr as := by
  intro I R q
  obtain ⟨f, dr, w, N, G, u, nx, v, kx, m, ps, vs, tx, n, ⟨a1, a2, a3, a4, a5, a6⟩, ⟨s, hb, pb, b1, b2, b3, b4⟩, c, d, e, g⟩ := id q
  obtain ⟨x, I1, I2, p1, p2, p3, p4, p5, p6, p7, p8, p9⟩ := h I R f dr w N G s hb pb a1 a2.1 a4 a5 a6 b1 b2 b3
  exact ⟨x, I1, R, I2, p1, p2, q.scr p3 p4 p5 p6 p7 p8 p9⟩
theorem gmH_lo {I : mI} {s : Nat → Int32} {hb g k : Nat} (h : k < 385) : ∀ n, gmH I s hb g n 99 k = I 99 k
  | 0 => rfl
  | n + 1 => by
    rw [gmH_s]
    split
    · rw [dW_n (by omega)]; exact gmH_lo h n
    · exact gmH_lo h n
theorem so_giving (X : mCx) {S : mSh} (x y : Int32) : SO X S M_X11_giving M_X12_giving [.int x, .int y] := SO.scr (by
  intro I R f dr w N G s hb pb hc hf hm hw hk hst hd hs
  have hG8 := hst.G8
  have hN6 := hst.N6
  by_cases h : isP G x = false ∨ isA y = false
  · exact ⟨_, I, I, fun d => v_X11_giving_f X (d + 10) hc hf hst h, fun d => v_X12_giving_f X (d + 9) hm hw h, frS.id I⟩
  have hx : isP G x = true := by
    cases e : isP G x with
    | true => rfl
    | false => exact absurd (Or.inl e) h
  have hy : isA y = true := by
    cases e : isA y with
    | true => rfl
    | false => exact absurd (Or.inr e) h
  obtain ⟨g, hg, rfl⟩ := isP_t hx (by omega)
  cases hh : isHr hb (s (19 + g)) with
  | false =>
    refine ⟨_, I, I, fun d => v_X11_giving_n X (d + 9) hc hf hst hg hy hh, fun d => ?_, frS.id I⟩
    rcases hs.1 g hg with e | ⟨q, hq, e⟩
    · exact v_X12_giving_n X (d + 9) hm hw hd hg e hy
    · rw [e, isHr_n (by omega)] at hh
      have t := v_X12_giving_t X (d + 8) hm hw hd hg hq e hy
      rw [if_neg (by rw [hh]; decide), if_neg (by rw [hh]; decide)] at t
      exact t
  | true =>
    obtain ⟨q, hq6, e, hbq⟩ := isHr_t hh
    have hq : q < N := by
      rcases hs.1 g hg with e2 | ⟨q2, hq2, e2⟩
      · rw [e2] at e; exact absurd e.symm (nI_ne4 (by omega))
      · rw [e2] at e; rw [← (nI_eq (by omega) (by omega)).mp e]; exact hq2
    have hi : ∀ o, 97 ≤ o → gvJ I s hb g pb N o = I o := fun o ho => gvJ_fr (by omega) N
    refine ⟨_, _, gmH (gvJ I s hb g pb N) s hb g N, fun d => v_X11_giving_t X (d + 6) hc hf hst hs hg hy hh, fun d => ?_, fun o ho => ?_, fun b hb => ?_, fun k hk => ?_, fun k hk => ?_, ?_, ?_, ?_⟩
    · have t := v_X12_giving_t X (d + 8) hm (hw.fr (hi 98 (by decide))) (hd.fr (hi 99 (by decide))) hg hq e hy
      rw [if_pos hbq, if_pos hbq] at t
      obtain ⟨e1, e2, e3⟩ := gv_eq (s := s) (hb := hb) (g := g) hk N (Nat.le_refl _)
      rw [e1] at t
      by_cases c : (gvQ w s N G hb g N).1 = -4
      · rw [if_pos (Or.inl c)] at t
        rw [(e2 c).2, c]
        rw [c] at t
        rw [show (if y = nI 0 then (-4 : Int32) else -4) = -4 from ite_self _]
        exact t
      · rw [e3 c] at t
        by_cases c2 : y = nI 0
        · rw [if_pos (Or.inr c2)] at t
          rw [if_pos c2]; exact t
        · rw [if_neg (fun z => z.elim c c2)] at t
          rw [if_neg c2]; exact t
    · rw [gmH_o (by omega), gvJ_fr (by omega)]
    · rw [gmH_o (by omega), gvJ_fr (by omega)]
    · rw [gmH_o (by omega), gvJ_fr (by omega)]
    · rw [gmH_lo hk, gvJ_fr (by omega)]
    · rw [gmH_o (by omega), gvJ_fr (by omega)]
    · rw [gmH_o (by omega), gvJ_fr (by omega)]
    · rw [gmH_o (by omega), gvJ_fr (by omega)])
theorem is6_f {x : Int32} (h : isP 7 x = false) : (!decide (x.toInt64 < lN 0) && !decide (lN 6 < x.toInt64)) = false := by
  rw [inL (by decide) (by decide)]
  cases e : (!decide (x < nI 0) && !decide (nI 6 < x)) with
  | false => rfl
  | true =>
    rw [Bool.and_eq_true, Bool.not_eq_true', Bool.not_eq_true', decide_eq_false_iff_not, decide_eq_false_iff_not] at e
    rw [isP_6 e.1 (Int32.not_lt.mp e.2)] at h
    exact absurd h (by decide)
theorem so_order (X : mCx) {S : mSh} (x : Int32) : SO X S M_X11_order M_X12_order [.int x] := SO.scr (by
  intro I R f dr w N G s hb pb hc hf hm hw hk hst hd hs
  have hG8 := hst.G8
  have hN6 := hst.N6
  cases hx : isP 7 x with
  | false => exact ⟨_, I, I, fun d => v_X11_order_f X (d + 11) hc hf hst hx, fun d => v_X12_order_f X (d + 10) hm (is6_f hx), frS.id I⟩
  | true =>
    obtain ⟨k, hk7, rfl⟩ := isP_t hx (by omega)
    have h64 : hb < 64 := p2_le (m := 6) hN6 hst.hb2
    have hi : ∀ o, (o < 74 ∨ 75 < o) → rkH I 73 w s N G hb 63 o = I o := fun o ho => rkH_fr ho 63
    have hw1 : MoW (rkH I 73 w s N G hb 63) w N G := hw.fr (hi 98 (by decide))
    have hd1 : MoD (rkH I 73 w s N G hb 63) 0 s hb := hd.fr (hi 99 (by decide))
    have fr : frS I (rM (rkH I 73 w s N G hb 63) w s N G 64) := by
      refine ⟨fun o ho => ?_, fun b hb => ?_, fun k hk => ?_, fun k hk => ?_, ?_, ?_, ?_⟩ <;> rw [rM_o (by omega) (by omega), hi _ (by omega)]
    by_cases hn : oA I w s N G hb hb = -4
    · refine ⟨_, _, rM (rkH I 73 w s N G hb 63) w s N G 64, fun d => v_X11_order_n X (d + 5) hc hf hst (by omega) hn, fun d => ?_, fr⟩
      by_cases k0 : k = 0
      · subst k0
        have t := v_X12_order_0 X (d + 8) hm hw1 hd1 h64
        have e := ord_0 (I := I) (J := rkH I 73 w s N G hb 63) (s := s) hk h64
        unfold mA at e
        rw [e, hn] at t
        exact t
      · have t := v_X12_order_t (k := k) X (d + 8) hm hw1 hd1 h64 (by omega) (by omega) (ord_F hN6)
        have e := ord_n (I := I) (J := rkH I 73 w s N G hb 63) hk h64 hn k
        unfold mB at e
        rw [e] at t
        exact t
    · refine ⟨_, _, rM (rkH I 73 w s N G hb 63) w s N G 64, fun d => v_X11_order (T := oT I w s N G hb) X (d + 5) hc hf hst (by omega) (ord_T hk h64 hn), fun d => ?_, fr⟩
      by_cases k0 : k = 0
      · subst k0
        have t := v_X12_order_0 X (d + 8) hm hw1 hd1 h64
        have e := ord_0 (I := I) (J := rkH I 73 w s N G hb 63) (s := s) hk h64
        unfold mA at e
        rw [e] at t
        rw [if_pos (Or.inl rfl)]
        exact t
      · have t := v_X12_order_t (k := k) X (d + 8) hm hw1 hd1 h64 (by omega) (by omega) (ord_F hN6)
        have e := ord_k (I := I) (J := rkH I 73 w s N G hb 63) hk h64 hn (k - 1)
        rw [show k - 1 + 1 = k by omega] at e
        unfold mB at e
        rw [e] at t
        rw [if_neg (fun z => z.elim k0 hn)]
        exact t)
theorem so_year (X : mCx) {S : mSh} (x y v : Int32) : SO X S M_X11_year M_X12_year [.int x, .int y, .int v] := SO.scr (by
  intro I R f dr w N G s hb pb hc hf hm hw hk hst hd hs
  have hG8 := hst.G8
  have hN6 := hst.N6
  by_cases h : isP 10000 x = false ∨ is40 y = false ∨ isA v = false
  · exact ⟨_, I, I, fun d => v_X11_year_f X (d + 10) hc hf hst h, fun d => v_X12_year_f X (d + 10) hm h, frS.id I⟩
  have hx : isP 10000 x = true := by
    cases e : isP 10000 x with
    | true => rfl
    | false => exact absurd (Or.inl e) h
  have hy : is40 y = true := by
    cases e : is40 y with
    | true => rfl
    | false => exact absurd (Or.inr (Or.inl e)) h
  have hv : isA v = true := by
    cases e : isA v with
    | true => rfl
    | false => exact absurd (Or.inr (Or.inr e)) h
  obtain ⟨z, hz, rfl⟩ := isP_t hx (by omega)
  obtain ⟨n, hn1, hn, rfl⟩ := is40_t hy
  have hN1 : 1 ≤ N := hk.1.2.2.1
  have hi : ∀ o, (o < 11 ∨ 15 < o) → yrH I w s N G hb z n o = I o := fun o ho => yrH_fr ho n
  refine ⟨_, _, dW (yrH I w s N G hb z n) 385 (yrM w s N G hb z n).2.1, fun d => v_X11_year_t X (d + 5) hc hf hst hN1 (by omega) hn1 hn hv, fun d => ?_, fun o ho => ?_, fun b hb => ?_, fun k hk => ?_, fun k hk => ?_, ?_, ?_, ?_⟩
  · have t := v_X12_year_t X (d + 7) hm (hw.fr (hi 98 (by decide))) (hd.fr (hi 99 (by decide))) hN1 (show z ≤ 9999 by omega) hn1 hn hv
    rw [(yr_eq hk hs n).1]
    exact t
  · rw [dW_o (by omega), hi _ (by omega)]
  · rw [dW_o (by omega), hi _ (by omega)]
  · rw [dW_o (by omega), hi _ (by omega)]
  · rw [dW_n (by omega), hi _ (by omega)]
  · rw [dW_o (by omega), hi _ (by omega)]
  · rw [dW_o (by omega), hi _ (by omega)]
  · rw [dW_o (by omega), hi _ (by omega)])
theorem so_byTurns (X : mCx) {S : mSh} (x y z v : Int32) : SO X S M_X11_byTurns M_X12_byTurns [.int x, .int y, .int z, .int v] := SO.scr (by
  intro I R f dr w N G s hb pb hc hf hm hw hk hst hd hs
  have hG8 := hst.G8
  have hN6 := hst.N6
  by_cases h : twoP N x y = false ∨ is14 z = false ∨ isA v = false
  · exact ⟨_, I, I, fun d => v_X11_byTurns_f X (d + 9) hc hf hst h, fun d => v_X12_byTurns_f X (d + 8) hm hw h, frS.id I⟩
  have hx : twoP N x y = true := by
    cases e : twoP N x y with
    | true => rfl
    | false => exact absurd (Or.inl e) h
  have hy : is14 z = true := by
    cases e : is14 z with
    | true => rfl
    | false => exact absurd (Or.inr (Or.inl e)) h
  have hv : isA v = true := by
    cases e : isA v with
    | true => rfl
    | false => exact absurd (Or.inr (Or.inr e)) h
  obtain ⟨i, j, hi, hj, hij, rfl, rfl⟩ := twoP_t hx (by omega)
  obtain ⟨n, hn1, hn, rfl⟩ := is14_t hy
  by_cases hh : hb.testBit i = true ∧ hb.testBit j = true
  · have fi : ∀ o, 97 ≤ o → sRw (cpH I 6 11) 76 (gR w N G hb n s i j (I 76)) o = I o := fun o ho => by rw [sRw_o (by omega), cpH_fr (by omega)]
    have hw1 : MoW (sRw (cpH I 6 11) 76 (gR w N G hb n s i j (I 76))) w N G := hw.fr (fi 98 (by decide))
    have hd1 : MoD (sRw (cpH I 6 11) 76 (gR w N G hb n s i j (I 76))) 0 s hb := hd.fr (fi 99 (by decide))
    obtain ⟨I2, q1, q2, q3, q4, q5, q6⟩ := v_findTurns X hm hw1 hd1 hk hi hj hn1 hn
    refine ⟨_, _, I2, fun d => by
        have t := v_X11_byTurns_t X (d + 2) hc hf hst hk hi hj hij hn1 hn hv
        rw [if_pos hh, if_pos hh] at t
        exact t, fun d => v_X12_byTurns_t X (d + 7) hm hw1 hd1 hi hj hij hn1 hn hv hh.1 hh.2 q1 q5 q6, fun o ho => ?_, fun b hb => ?_, fun k hk => ?_, fun k hk => ?_, ?_, ?_, ?_⟩
    · rw [q2 o (by omega) (by omega) (by omega) (by omega) (by omega), sRw_o (by omega), cpH_fr (by omega)]
    · rw [q3 b (by omega), fi 97 (by decide)]
    · rw [q2 98 (by decide) (by decide) (by decide) (by decide) (by decide), fi 98 (by decide)]
    · rw [q4 k hk, fi 99 (by decide)]
    · rw [q2 100 (by decide) (by decide) (by decide) (by decide) (by decide), fi 100 (by decide)]
    · rw [q2 101 (by decide) (by decide) (by decide) (by decide) (by decide), fi 101 (by decide)]
    · rw [q2 102 (by decide) (by decide) (by decide) (by decide) (by decide), fi 102 (by decide)]
  · refine ⟨_, I, I, fun d => by
        have t := v_X11_byTurns_t X (d + 2) hc hf hst hk hi hj hij hn1 hn hv
        rw [if_neg hh, if_neg hh] at t
        exact t, fun d => v_X12_byTurns_n X (d + 8) hm hw hd hi hj hij hn1 hn hv (by
          cases e : (hb.testBit i && hb.testBit j) with
          | false => rfl
          | true => exact absurd (by rw [Bool.and_eq_true] at e; exact e) hh), frS.id I⟩)
