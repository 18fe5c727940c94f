/-! ===== what can be undone, alike ===== -/
theorem mnI_new {I : mI} {s : Nat → Int32} {u k : Nat} (h8 : u ≤ 8) (hk : k < 35) : mnI I s u 99 (105 + 35 * ((if u < 8 then u + 1 else 8) - 1) + k) = s k := by
  unfold mnI
  by_cases h : u < 8
  · rw [if_pos h, if_pos h, sJ_o (by decide), show u + 1 - 1 = u by omega, dW_q I s hk]
  · rw [if_neg h, if_neg h, sJ_o (by decide)]
    exact dW_q _ s hk
theorem mnI_old {I : mI} {s : Nat → Int32} {u j k : Nat} (h8 : u ≤ 8) (hj : j < u) (hj1 : u = 8 → 1 ≤ j) (hk : k < 35) : mnI I s u 99 (105 + 35 * ((if u < 8 then j + 1 else j) - 1) + k) = I 99 (105 + 35 * j + k) := by
  unfold mnI
  by_cases h : u < 8
  · rw [if_pos h, if_pos h, sJ_o (by decide), show j + 1 - 1 = j by omega, dW_n (by omega)]
  · have := hj1 (by omega)
    rw [if_neg h, if_neg h, sJ_o (by decide), dW_n (by omega), sJ_o (by decide), shF_q (by omega) (by omega)]
    congr 1
    omega
section
variable {S : mSh} {I I1 I2 : mI} {R : mR} {w s : Nat → Int32} {N G : Nat}
theorem gC.push {u nx hb pb : Nat} (q : gC S I R w N G u nx) (hp : Pio S R 16 8) (hst : Std S I R 6 s N G hb pb) (hd : MoD I 0 s hb) (hs : sOk s N G) (hg : gOk w s G) (hc : ∀ o, 16 ≤ o → o ≤ 57 → I2 o = puH I 16 8 nx u 6 o) (h1 : I1 99 = I 99) (h2 : I2 97 2 = mnI I1 s u 97 2) (hm : ∀ k, 105 ≤ k → k < 385 → I2 99 k = mnI I1 s u 99 k) : gC S I2 R w N G (if u < 8 then u + 1 else 8) (nxt 8 nx) := by
  obtain ⟨⟨a1, a2, a3, a4, a5⟩, a6⟩ := q
  have hu8 : (if u < 8 then u + 1 else 8) ≤ 8 := by split <;> omega
  have enx : nxt 8 nx = (nx + 1) % 8 := by unfold nxt; split <;> omega
  have hh : hld 8 u = if u < 8 then u + 1 else 8 := by
    unfold hld
    by_cases h : u < 8
    · rw [if_pos h]; split <;> omega
    · rw [if_neg h]; split <;> omega
  refine ⟨⟨?_, ?_, ?_, hu8, ?_⟩, fun k hk => ?_⟩
  · rw [hc 16 (by omega) (by omega)]
    unfold puH
    rw [sJ_ne (Or.inr (by decide)), sJ_eq]
  · rw [enx]; omega
  · rw [hc 16 (by omega) (by omega)]
    unfold puH
    rw [sJ_eq, hh]
  · rw [h2, mnI_u a4]
  · by_cases k0 : k = 0
    · subst k0
      have er : (nxt 8 nx + 7 - 0) % 8 = nx := by rw [enx]; omega
      rw [er, Nat.sub_zero]
      have hS := hst.cp (hp.st nx a2) (show 6 + 4 < 16 + 2 + 5 * nx ∨ 16 + 2 + 5 * nx + 4 < 6 by omega)
      refine ⟨s, hb, pb, hS.fr (fun o x y => ?_), ⟨fun j hj => ?_, hd.2.1, hd.2.2.1, by omega⟩, hs, hg⟩
      · rw [hc o (by omega) (by omega)]
        unfold puH
        rw [sJ_o (by omega), sJ_o (by omega)]
      · rw [hm _ (by omega) (by omega)]
        exact mnI_new a4 hj
    · have hku : k - 1 < u := by
        by_cases h : u < 8
        · rw [if_pos h] at hk; omega
        · rw [if_neg h] at hk; omega
      obtain ⟨t, hb1, pb1, b1, b2, b3, b4⟩ := a6 (k - 1) hku
      have er : (nxt 8 nx + 7 - k) % 8 = (nx + 7 - (k - 1)) % 8 := by rw [enx]; omega
      have ne : (nx + 7 - (k - 1)) % 8 ≠ nx := by omega
      rw [er]
      generalize hr : (nx + 7 - (k - 1)) % 8 = r at *
      have hr8 : r < 8 := by omega
      refine ⟨t, hb1, pb1, b1.fr (fun o x y => ?_), ⟨fun j hj => ?_, b2.2.1, b2.2.2.1, by omega⟩, b3, b4⟩
      · rw [hc o (by omega) (by omega)]
        unfold puH
        rw [sJ_o (by omega), sJ_o (by omega), cpH_fr (by omega)]
      · rw [hm _ (by omega) (by omega)]
        have o := mnI_old (I := I1) (s := s) (j := u - 1 - (k - 1)) a4 (by omega) (by
          intro e
          rw [if_neg (by omega)] at hk
          omega) hj
        have ei : (if u < 8 then u + 1 else 8) - 1 - k = (if u < 8 then u - 1 - (k - 1) + 1 else u - 1 - (k - 1)) - 1 := by
          by_cases h : u < 8
          · rw [if_pos h, if_pos h]; omega
          · rw [if_neg h, if_neg h]; omega
        rw [ei, o, h1]
        exact b2.1 j hj
theorem gC.pop {u nx : Nat} (q : gC S I R w N G u nx) (h1 : 1 ≤ u) (hc : ∀ o, 16 ≤ o → o ≤ 57 → I2 o = taH I 16 8 nx u 6 o) (h2 : I2 97 2 = nI (u - 1)) (hm : ∀ k, 105 ≤ k → k < 385 → I2 99 k = I 99 k) : gC S I2 R w N G (u - 1) (prv 8 nx) := by
  obtain ⟨⟨a1, a2, a3, a4, a5⟩, a6⟩ := q
  have ep : prv 8 nx = (nx + 7) % 8 := by unfold prv; split <;> omega
  refine ⟨⟨?_, ?_, ?_, by omega, h2⟩, fun k hk => ?_⟩
  · rw [hc 16 (by omega) (by omega)]
    unfold taH
    rw [sJ_ne (Or.inr (by decide)), sJ_eq]
  · rw [ep]; omega
  · rw [hc 16 (by omega) (by omega)]
    unfold taH
    rw [sJ_eq]
  · have er : (prv 8 nx + 7 - k) % 8 = (nx + 7 - (k + 1)) % 8 := by rw [ep]; omega
    have eh : 105 + 35 * (u - 1 - 1 - k) = 105 + 35 * (u - 1 - (k + 1)) := by omega
    rw [er, eh]
    refine (a6 (k + 1) (by omega)).fr (fun o x y => ?_) (fun j x y => hm j (by omega) (by omega))
    rw [hc o (by omega) (by omega)]
    exact taH_fr (by omega) (by omega)
theorem gC.nil {u nx : Nat} (q : gC S I R w N G u nx) (h1 : I2 16 1 = I 16 1) (h2 : I2 16 2 = nI 0) (h3 : I2 97 2 = nI 0) (w1 : Nat → Int32) (N1 G1 : Nat) (R1 : mR) : gC S I2 R1 w1 N1 G1 0 nx := ⟨⟨by rw [h1]; exact q.1.1, q.1.2.1, h2, by decide, h3⟩, fun k hk => absurd hk (Nat.not_lt_zero _)⟩
theorem gD.push {u nx hb pb : Nat} (q : gD S I R w N G u nx) (h2u : u < 2) (hp : Pio S R 58 2) (hst : Std S I R 6 s N G hb pb) (hd : MoD I 0 s hb) (hs : sOk s N G) (hg : gOk w s G) (hc : ∀ o, 58 ≤ o → o ≤ 69 → I2 o = puH I 58 2 nx u 6 o) (h2 : I2 97 3 = nI (u + 1)) (hm : ∀ k, 35 ≤ k → k < 105 → I2 99 k = dW I (35 + 35 * u) s 99 k) : gD S I2 R w N G (u + 1) (nxt 2 nx) := by
  obtain ⟨⟨a1, a2, a3, a4, a5⟩, a6⟩ := q
  have enx : nxt 2 nx = (nx + 1) % 2 := by unfold nxt; split <;> omega
  have hh : hld 2 u = u + 1 := by unfold hld; split <;> omega
  refine ⟨⟨?_, ?_, ?_, by omega, h2⟩, fun k hk => ?_⟩
  · rw [hc 58 (by omega) (by omega)]
    unfold puH
    rw [sJ_ne (Or.inr (by decide)), sJ_eq]
  · rw [enx]; omega
  · rw [hc 58 (by omega) (by omega)]
    unfold puH
    rw [sJ_eq, hh]
  · by_cases k0 : k = 0
    · subst k0
      have er : (nxt 2 nx + 1 - 0) % 2 = nx := by rw [enx]; omega
      rw [er, Nat.sub_zero]
      have hS := hst.cp (hp.st nx a2) (show 6 + 4 < 58 + 2 + 5 * nx ∨ 58 + 2 + 5 * nx + 4 < 6 by omega)
      refine ⟨s, hb, pb, hS.fr (fun o x y => ?_), ⟨fun j hj => ?_, hd.2.1, hd.2.2.1, by omega⟩, hs, hg⟩
      · rw [hc o (by omega) (by omega)]
        unfold puH
        rw [sJ_o (by omega), sJ_o (by omega)]
      · rw [hm _ (by omega) (by omega), show u + 1 - 1 = u by omega, dW_q I s hj]
    · obtain ⟨t, hb1, pb1, b1, b2, b3, b4⟩ := a6 (k - 1) (by omega)
      have er : (nxt 2 nx + 1 - k) % 2 = (nx + 1 - (k - 1)) % 2 := by rw [enx]; omega
      have ne : (nx + 1 - (k - 1)) % 2 ≠ nx := by omega
      rw [er]
      generalize hr : (nx + 1 - (k - 1)) % 2 = r at *
      have hr8 : r < 2 := by omega
      refine ⟨t, hb1, pb1, b1.fr (fun o x y => ?_), ⟨fun j hj => ?_, b2.2.1, b2.2.2.1, by omega⟩, b3, b4⟩
      · rw [hc o (by omega) (by omega)]
        unfold puH
        rw [sJ_o (by omega), sJ_o (by omega), cpH_fr (by omega)]
      · rw [hm _ (by omega) (by omega), dW_n (by omega), show u + 1 - 1 - k = u - 1 - (k - 1) by omega]
        exact b2.1 j hj
theorem gD.pop {u nx : Nat} (q : gD S I R w N G u nx) (h1 : 1 ≤ u) (hc : ∀ o, 58 ≤ o → o ≤ 69 → I2 o = taH I 58 2 nx u 6 o) (h2 : I2 97 3 = nI (u - 1)) (hm : ∀ k, 35 ≤ k → k < 105 → I2 99 k = I 99 k) : gD S I2 R w N G (u - 1) (prv 2 nx) := by
  obtain ⟨⟨a1, a2, a3, a4, a5⟩, a6⟩ := q
  have ep : prv 2 nx = (nx + 1) % 2 := by unfold prv; split <;> omega
  refine ⟨⟨?_, ?_, ?_, by omega, h2⟩, fun k hk => ?_⟩
  · rw [hc 58 (by omega) (by omega)]
    unfold taH
    rw [sJ_ne (Or.inr (by decide)), sJ_eq]
  · rw [ep]; omega
  · rw [hc 58 (by omega) (by omega)]
    unfold taH
    rw [sJ_eq]
  · have er : (prv 2 nx + 1 - k) % 2 = (nx + 1 - (k + 1)) % 2 := by rw [ep]; omega
    have eh : 35 + 35 * (u - 1 - 1 - k) = 35 + 35 * (u - 1 - (k + 1)) := by omega
    rw [er, eh]
    refine (a6 (k + 1) (by omega)).fr (fun o x y => ?_) (fun j x y => hm j (by omega) (by omega))
    rw [hc o (by omega) (by omega)]
    exact taH_fr (by omega) (by omega)
theorem gD.nil {u nx : Nat} (q : gD S I R w N G u nx) (h1 : I2 58 1 = I 58 1) (h2 : I2 58 2 = nI 0) (h3 : I2 97 3 = nI 0) (w1 : Nat → Int32) (N1 G1 : Nat) (R1 : mR) : gD S I2 R1 w1 N1 G1 0 nx := ⟨⟨by rw [h1]; exact q.1.1, q.1.2.1, h2, by decide, h3⟩, fun k hk => absurd hk (Nat.not_lt_zero _)⟩
end
