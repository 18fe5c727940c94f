/-! ===== a call of each that changes something ===== -/
section
variable {S : mSh} {I I1 : mI} {R : mR} {w s s1 : Nat → Int32} {N G : Nat}
theorem RR.act {f dr u nx v kx m n hb pb hb1 pb1 : Nat} {ps tx : Nat → Nat} {vs : Nat → Int32} (a : gA S I R f dr w N G) (hst : Std S I R 6 s N G hb pb) (hd : MoD I 0 s hb) (hs : sOk s N G) (hg : gOk w s G) (c : gC S I R w N G u nx) (d : gD S I R w N G v kx) (e : gE I N m ps vs) (g : gF S I R tx n) (hc : ∀ o, 16 ≤ o → o ≤ 57 → I1 o = puH I 16 8 nx u 6 o) (ho : ∀ o, o < 6 ∨ 57 < o → I1 o = I o) (hS : Std S I1 R 6 s1 N G hb1 pb1) (hs1 : sOk s1 N G) (hg1 : gOk w s1 G) : RR S (dW (mnI I1 s u) 0 s1) R := by
  have e2 : ∀ o, o ≠ 97 → o ≠ 99 → dW (mnI I1 s u) 0 s1 o = I1 o := fun o x y => by rw [dW_o y, mnI_o x y]
  have e7 : ∀ b, b ≠ 2 → dW (mnI I1 s u) 0 s1 97 b = I 97 b := fun b x => by rw [dW_o (by decide), mnI_97 x, ho 97 (by decide)]
  refine ⟨f, dr, w, N, G, _, _, v, kx, m, ps, vs, tx, n, a.fr (fun o x y => ?_) (fun k hk => ?_), ⟨s1, hb1, pb1, hS.fr (fun o x y => e2 o (by omega) (by omega)), MoD.mk hS.here0 hS.h256 (by decide), hs1, hg1⟩, c.push (I1 := I1) (s := s) a.1.und hst hd hs hg (fun o x y => ?_) (ho 99 (by decide)) ?_ (fun k x y => ?_), d.fr (fun o x y => ?_) (e7 3 (by decide)) (fun k x y => ?_), e.fr (fun o x y => ?_) (e7 4 (by decide)) ?_ ?_, g.fr ?_ ?_ (e7 8 (by decide)) ?_⟩
  · rw [e2 o (by omega) (by omega), ho o (by omega)]
  · rw [e2 98 (by omega) (by omega), ho 98 (by omega)]
  · rw [e2 o (by omega) (by omega), hc o x y]
  · rw [dW_o (by decide)]
  · rw [dW_n (by omega)]
  · rw [e2 o (by omega) (by omega), ho o (by omega)]
  · rw [dW_n (by omega), mnI_lo (by omega), ho 99 (by omega)]
  · rw [e2 o (by omega) (by omega), ho o (by omega)]
  · rw [e2 100 (by omega) (by omega), ho 100 (by omega)]
  · rw [e2 101 (by omega) (by omega), ho 101 (by omega)]
  · rw [e2 2 (by omega) (by omega), ho 2 (by omega)]
  · rw [e2 3 (by omega) (by omega), ho 3 (by omega)]
  · rw [e2 102 (by omega) (by omega), ho 102 (by omega)]
theorem sOk.pk (hs : sOk s N G) (h6 : N ≤ 6) {g : Nat} {x : Int32} (hg : g < G) (hG : G ≤ 8) : sOk (up s (27 + g) x) N G := by
  refine ⟨fun k hk => ?_, fun i hi => ?_⟩
  · rw [up_ne (by omega)]; exact hs.1 k hk
  · rw [up_ne (by omega)]; exact hs.2 i hi
theorem sOk.gives (hs : sOk s N G) (h6 : N ≤ 6) {g j : Nat} (hg : g < G) (hG : G ≤ 8) (hj : j < N) : sOk (hnd s g j) N G := by
  refine ⟨fun k hk => ?_, fun i hi => ?_⟩
  · unfold hnd
    rw [up_ne (by omega)]
    by_cases h : k = g
    · subst h; rw [up_eq]; exact Or.inr ⟨j, hj, rfl⟩
    · rw [up_ne (by omega)]; exact hs.1 k hk
  · unfold hnd
    rw [up_ne (by omega), up_ne (by omega)]; exact hs.2 i hi
theorem gOk.eq (hg : gOk w s G) (h : ∀ g, g < G → s1 (27 + g) = s (27 + g) ∨ s1 (27 + g) = nI 0) : gOk w s1 G := fun k hk hw z => by
  rcases h k hk with e | e
  · rw [e] at z; exact hg k hk hw z
  · rw [e] at z; exact absurd z (by decide)
theorem gOk.on (hg : gOk w s G) {g : Nat} (h : ¬ w (21 + g) = nI 2) : gOk w (up s (27 + g) (nI 1)) G := fun k hk hw z => by
  by_cases e : k = g
  · subst e; exact h hw
  · rw [up_ne (by omega)] at z; exact hg k hk hw z
theorem up27 {g k : Nat} {x : Int32} (h : 27 + k ≠ g) : up s g x (27 + k) = s (27 + k) := up_ne h
theorem sGo27 {hb i k : Nat} {x : Int32} (hG : G ≤ 8) (hi : i < 6) : sGo (payS s i x) G hb i x (27 + k) = s (27 + k) := by
  unfold sGo sO
  rw [if_neg (by omega), up_ne (by omega), up_ne (by omega)]
  unfold payS
  rw [up_ne (by omega), up_ne (by omega)]
theorem sGo0 {hb i k : Nat} {x : Int32} (hG : G ≤ 8) (hi : i < 6) : sGo (payS s i x) G hb i x 0 = nI (clr hb i) := by
  unfold sGo sO
  rw [if_neg (by omega), up_ne (by omega), up_eq]
theorem oweW_n {hb i j : Nat} (h : wOk w N G) (hi : i < N) (hj : j < N) : ∃ k, k < 4096 ∧ oweW w s N G hb i j = nI k := by
  have h1 := gLeft_b (s := s) (i := i) h
  have h2 := lLeft_b (b := hb) h hi
  obtain ⟨k, hk, e⟩ := h.2.2.2.2.2.2.2.2.2 i j hi hj
  refine duty_n h ?_
  have e3 : (w (53 + (6 * i + j))).toInt = k := by rw [e, nI_toInt (by omega)]
  have e4 : (w (53 + (6 * i + j)) / nI 2).toInt = (k / 2 : Nat) := by rw [e, nI_div (by omega) (by decide) (by decide), nI_toInt (by omega)]
  have e5 : (gLeft w s G i + lLeft w N i hb).toInt = (gLeft w s G i).toInt + (lLeft w N i hb).toInt := i_add (by omega) (by omega)
  have e6 : (gLeft w s G i + lLeft w N i hb - w (53 + (6 * i + j))).toInt = (gLeft w s G i + lLeft w N i hb).toInt - k := by
    rw [Int32.sub_eq_add_neg, i_add (by rw [i_neg (by omega)]; omega) (by rw [i_neg (by omega)]; omega), i_neg (by omega), e3]
    omega
  rw [i_add (by omega) (by omega)]
  omega
end
theorem so_leave (X : mCx) {S : mSh} (x : Int32) : SO X S M_X11_leave M_X12_leave [.int x] := by
  intro I R q
  obtain ⟨f, dr, w, N, G, u, nx, v, kx, m, ps, vs, tx, n, a, ⟨s, hb, pb, hst, hd, hs, hg⟩, c, e1, e, g⟩ := id q
  obtain ⟨hc, ⟨hf, hfd⟩, hdr, hm, hw, hk⟩ := id a
  obtain ⟨⟨c1, c2, c3, c4, c5⟩, c6⟩ := id c
  have hG8 := hst.G8
  have hN6 := hst.N6
  cases hx : isP N x with
  | false => exact ⟨_, I, R, I, fun d => v_X11_leave_f X (d + 10) hc hf hx, fun d => v_X12_leave_f X (d + 9) hm hw hx, q⟩
  | true =>
    obtain ⟨i, hi, rfl⟩ := isP_t hx (by omega)
    have hst1 : Std S (puH I 16 8 nx u 6) R 6 s N G hb pb := hst.fr (fun o h1 h2 => puH_fr c2 (by omega))
    cases cb : clB w s N G hb i with
    | false =>
      have h := (fOut_lt (s := s) (hb := hb) hk hi).mpr cb
      refine ⟨-2, I, R, I, fun d => ?_, fun d => ?_, q⟩
      · have t := v_X11_leave_t X (d + 6) hc hf hst c1 c2 c3 c4 hi
        rw [if_pos h, if_pos h] at t
        exact t
      · have t := v_X12_leave_t X (d + 7) hm hw hd c5 c4 hi
        rw [if_neg (by rw [cb]; decide), if_neg (by rw [cb]; decide)] at t
        exact t
    | true =>
      have h : ¬ fOut w s N G hb i < nI 0 := fun z => by rw [(fOut_lt hk hi).mp z] at cb; exact absurd cb (by decide)
      have ef := fOut_t cb
      have ho : ∀ o, o < 6 ∨ 57 < o → gOH (payH (puH I 16 8 nx u 6) 6 s i (owe w s N G hb i)) 6 (payS s i (owe w s N G hb i)) hb i (owe w s N G hb i) G o = I o := fun o ho => by rw [gOH_fr (by omega), payH_fr (by omega), puH_fr c2 (by omega)]
      refine ⟨owe w s N G hb i, gOH (payH (puH I 16 8 nx u 6) 6 s i (owe w s N G hb i)) 6 (payS s i (owe w s N G hb i)) hb i (owe w s N G hb i) G, R, _, fun d => ?_, fun d => ?_, RR.act (s := s) (s1 := sGo (payS s i (owe w s N G hb i)) G hb i (owe w s N G hb i)) a hst hd hs hg c e1 e g (fun o x y => ?_) ho ((hst1.pay hi).out hi) (sOk_go hs hN6 hi (owe_n hk hi)) (hg.eq (fun k hk2 => Or.inl (sGo27 hG8 (by omega))))⟩
      · have t := v_X11_leave_t X (d + 6) hc hf hst c1 c2 c3 c4 hi
        rw [if_neg h, if_neg h, ef] at t
        exact t
      · have t := v_X12_leave_t X (d + 7) hm (hw.fr (ho 98 (by decide))) (hd.fr (ho 99 (by decide))) (by rw [ho 97 (by decide)]; exact c5) c4 hi
        rw [if_pos cb, if_pos cb] at t
        exact t
      · rw [gOH_fr (by omega), payH_fr (by omega)]
theorem so_leaveBoth (X : mCx) {S : mSh} (x y : Int32) : SO X S M_X11_leaveBoth M_X12_leaveBoth [.int x, .int y] := by
  intro I R q
  obtain ⟨f, dr, w, N, G, u, nx, v, kx, m, ps, vs, tx, n, a, ⟨s, hb, pb, hst, hd, hs, hg⟩, c, e1, e, g⟩ := id q
  obtain ⟨hc, ⟨hf, hfd⟩, hdr, hm, hw, hk⟩ := id a
  obtain ⟨⟨c1, c2, c3, c4, c5⟩, c6⟩ := id c
  have hG8 := hst.G8
  have hN6 := hst.N6
  cases hx : twoP N x y with
  | false => exact ⟨_, I, R, I, fun d => v_X11_leaveBoth_f X (d + 9) hc hf hx, fun d => v_X12_leaveBoth_f X (d + 8) hm hw hx, q⟩
  | true =>
    obtain ⟨i, j, hi, hj, hij, rfl, rfl⟩ := twoP_t hx (by omega)
    have hst1 : Std S (puH I 16 8 nx u 6) R 6 s N G hb pb := hst.fr (fun o h1 h2 => puH_fr c2 (by omega))
    cases cb : lbB w s N G hb i j with
    | false =>
      refine ⟨-2, I, R, I, fun d => ?_, fun d => ?_, q⟩
      · have t := v_X11_leaveBoth_t X (d + 6) hc hf hst c1 c2 c3 c4 hi hj hij
        rw [if_neg (by rw [cb]; decide), if_neg (by rw [cb]; decide)] at t
        exact t
      · have t := v_X12_leaveBoth_t X (d + 8) hm hw hd c5 c4 hi hj hij
        rw [if_neg (by rw [cb]; decide), if_neg (by rw [cb]; decide)] at t
        exact t
    | true =>
      have ho : ∀ o, o < 6 ∨ 57 < o → gOH (payH (gOH (payH (puH I 16 8 nx u 6) 6 s i (oweW w s N G hb i j)) 6 (payS s i (oweW w s N G hb i j)) hb i (oweW w s N G hb i j) G) 6 (sGo (payS s i (oweW w s N G hb i j)) G hb i (oweW w s N G hb i j)) j (oweW w s N G hb j i)) 6 (payS (sGo (payS s i (oweW w s N G hb i j)) G hb i (oweW w s N G hb i j)) j (oweW w s N G hb j i)) (clr hb i) j (oweW w s N G hb j i) G o = I o := fun o ho => by rw [gOH_fr (by omega), payH_fr (by omega), gOH_fr (by omega), payH_fr (by omega), puH_fr c2 (by omega)]
      refine ⟨oweW w s N G hb i j + oweW w s N G hb j i, gOH (payH (gOH (payH (puH I 16 8 nx u 6) 6 s i (oweW w s N G hb i j)) 6 (payS s i (oweW w s N G hb i j)) hb i (oweW w s N G hb i j) G) 6 (sGo (payS s i (oweW w s N G hb i j)) G hb i (oweW w s N G hb i j)) j (oweW w s N G hb j i)) 6 (payS (sGo (payS s i (oweW w s N G hb i j)) G hb i (oweW w s N G hb i j)) j (oweW w s N G hb j i)) (clr hb i) j (oweW w s N G hb j i) G, R, _, fun d => ?_, fun d => ?_, RR.act (I1 := gOH (payH (gOH (payH (puH I 16 8 nx u 6) 6 s i (oweW w s N G hb i j)) 6 (payS s i (oweW w s N G hb i j)) hb i (oweW w s N G hb i j) G) 6 (sGo (payS s i (oweW w s N G hb i j)) G hb i (oweW w s N G hb i j)) j (oweW w s N G hb j i)) 6 (payS (sGo (payS s i (oweW w s N G hb i j)) G hb i (oweW w s N G hb i j)) j (oweW w s N G hb j i)) (clr hb i) j (oweW w s N G hb j i) G) (s := s) (s1 := sGo (payS (sGo (payS s i (oweW w s N G hb i j)) G hb i (oweW w s N G hb i j)) j (oweW w s N G hb j i)) G (clr hb i) j (oweW w s N G hb j i)) a hst hd hs hg c e1 e g (fun o x y => ?_) ho ((((hst1.pay hi).out hi).pay hj).out hj) (sOk_go (sOk_go hs hN6 hi (oweW_n hk hi hj)) hN6 hj (oweW_n hk hj hi)) (hg.eq (fun k hk2 => Or.inl ((sGo27 hG8 (by omega)).trans (sGo27 hG8 (by omega)))))⟩
      · have t := v_X11_leaveBoth_t X (d + 6) hc hf hst c1 c2 c3 c4 hi hj hij
        rw [if_pos cb, if_pos cb] at t
        exact t
      · have t := v_X12_leaveBoth_t X (d + 8) hm (hw.fr (ho 98 (by decide))) (hd.fr (ho 99 (by decide))) (by rw [ho 97 (by decide)]; exact c5) c4 hi hj hij
        rw [if_pos cb, if_pos cb] at t
        exact t
      · rw [gOH_fr (by omega), payH_fr (by omega), gOH_fr (by omega), payH_fr (by omega)]
theorem so_comeBack (X : mCx) {S : mSh} (x : Int32) : SO X S M_X11_comeBack M_X12_comeBack [.int x] := by
  intro I R q
  obtain ⟨f, dr, w, N, G, u, nx, v, kx, m, ps, vs, tx, n, a, ⟨s, hb, pb, hst, hd, hs, hg⟩, c, e1, e, g⟩ := id q
  obtain ⟨hc, ⟨hf, hfd⟩, hdr, hm, hw, hk⟩ := id a
  obtain ⟨⟨c1, c2, c3, c4, c5⟩, c6⟩ := id c
  have hG8 := hst.G8
  have hN6 := hst.N6
  cases hx : isP N x with
  | false => exact ⟨_, I, R, I, fun d => v_X11_comeBack_f X (d + 10) hc hf hx, fun d => v_X12_comeBack_f X (d + 9) hm hw hx, q⟩
  | true =>
    obtain ⟨i, hi, rfl⟩ := isP_t hx (by omega)
    have hst1 : Std S (puH I 16 8 nx u 6) R 6 s N G hb pb := hst.fr (fun o h1 h2 => puH_fr c2 (by omega))
    cases cb : cbB w s hb i with
    | false =>
      have h := (fBack_lt (w := w) (hb := hb) hs hi).mpr cb
      refine ⟨-2, I, R, I, fun d => ?_, fun d => ?_, q⟩
      · have t := v_X11_comeBack_t X (d + 7) hc hf hst c1 c2 c3 c4 hi
        rw [if_pos h, if_pos h] at t
        exact t
      · have t := v_X12_comeBack_t X (d + 9) hm hw hd c5 c4 hi
        rw [if_neg (by rw [cb]; decide), if_neg (by rw [cb]; decide)] at t
        exact t
    | true =>
      have h : ¬ fBack w s hb i < nI 0 := fun z => by rw [(fBack_lt hs hi).mp z] at cb; exact absurd cb (by decide)
      have ef := fBack_t cb
      have ho : ∀ o, o < 6 ∨ 57 < o → sJ (payH (puH I 16 8 nx u 6) 6 s i (feeB w s i)) 6 0 (nI (hb ||| 2 ^ i)) o = I o := fun o ho => by rw [sJ_o (by omega), payH_fr (by omega), puH_fr c2 (by omega)]
      have hb2 : hb ||| 2 ^ i < 2 ^ N := Nat.or_lt_two_pow hst.hb2 (Nat.pow_lt_pow_right (by decide) hi)
      refine ⟨feeB w s i, sJ (payH (puH I 16 8 nx u 6) 6 s i (feeB w s i)) 6 0 (nI (hb ||| 2 ^ i)), R, _, fun d => ?_, fun d => ?_, RR.act (s := s) (s1 := up (payS s i (feeB w s i)) 0 (nI (hb ||| 2 ^ i))) a hst hd hs hg c e1 e g (fun o x y => ?_) ho ((hst1.pay hi).set_here hb2) (hs.ret hN6 hi) (hg.eq (fun k hk2 => Or.inl ?_))⟩
      · have t := v_X11_comeBack_t X (d + 7) hc hf hst c1 c2 c3 c4 hi
        rw [if_neg h, if_neg h, ef] at t
        exact t
      · have t := v_X12_comeBack_t X (d + 9) hm (hw.fr (ho 98 (by decide))) (hd.fr (ho 99 (by decide))) (by rw [ho 97 (by decide)]; exact c5) c4 hi
        rw [if_pos cb, if_pos cb] at t
        exact t
      · rw [sJ_o (by omega), payH_fr (by omega)]
      · rw [up_ne (by omega)]
        unfold payS
        rw [up_ne (by omega), up_ne (by omega)]
theorem so_give (X : mCx) {S : mSh} (x y : Int32) : SO X S M_X11_give M_X12_give [.int x, .int y] := by
  intro I R q
  obtain ⟨f, dr, w, N, G, u, nx, v, kx, m, ps, vs, tx, n, a, ⟨s, hb, pb, hst, hd, hs, hg⟩, c, e1, e, g⟩ := id q
  obtain ⟨hc, ⟨hf, hfd⟩, hdr, hm, hw, hk⟩ := id a
  obtain ⟨⟨c1, c2, c3, c4, c5⟩, c6⟩ := id c
  have hG8 := hst.G8
  have hN6 := hst.N6
  by_cases h : isP G x = false ∨ isP N y = false
  · exact ⟨_, I, R, I, fun d => v_X11_give_f X (d + 10) hc hf h, fun d => v_X12_give_f X (d + 9) hm hw h, q⟩
  have hx : isP G x = true := by
    cases e0 : isP G x with
    | true => rfl
    | false => exact absurd (Or.inl e0) h
  have hy : isP N y = true := by
    cases e0 : isP N y with
    | true => rfl
    | false => exact absurd (Or.inr e0) h
  obtain ⟨k, hg2, rfl⟩ := isP_t hx (by omega)
  obtain ⟨j, hj, rfl⟩ := isP_t hy (by omega)
  have hst1 : Std S (puH I 16 8 nx u 6) R 6 s N G hb pb := hst.fr (fun o h1 h2 => puH_fr c2 (by omega))
  rcases hs.1 k hg2 with eo | ⟨p, hp, eo⟩
  · have gb : giB s hb k j = false := giB_n eo
    refine ⟨-2, I, R, I, fun d => ?_, fun d => v_X12_give_n (u := u) X (d + 9) hm hw hd hg2 hj eo, q⟩
    have t := v_X11_give_t X (d + 8) hc hf hst c1 c2 c3 c4 hg2 hj
    rw [if_neg (by rw [gb]; decide), if_neg (by rw [gb]; decide)] at t
    exact t
  have ge := giM_eq (hb := hb) hN6 hg2 hp hj eo
  cases cb : giM s hb k p j with
  | false =>
    rw [cb] at ge
    refine ⟨-2, I, R, I, fun d => ?_, fun d => ?_, q⟩
    · have t := v_X11_give_t X (d + 8) hc hf hst c1 c2 c3 c4 hg2 hj
      rw [if_neg (by rw [ge]; decide), if_neg (by rw [ge]; decide)] at t
      exact t
    · have t := v_X12_give_t X (d + 8) hm hw hd c5 c4 hg2 hj hp eo
      rw [if_neg (by rw [cb]; decide), if_neg (by rw [cb]; decide)] at t
      exact t
  | true =>
    rw [cb] at ge
    have ho : ∀ o, o < 6 ∨ 57 < o → sJ (sJ (puH I 16 8 nx u 6) 7 k (nI j)) 6 1 (nI (pbs pb k false)) o = I o := fun o ho => by rw [sJ_o (by omega), sJ_o (by omega), puH_fr c2 (by omega)]
    refine ⟨nI p, sJ (sJ (puH I 16 8 nx u 6) 7 k (nI j)) 6 1 (nI (pbs pb k false)), R, _, fun d => ?_, fun d => ?_, RR.act (s := s) (s1 := hnd s k j) a hst hd hs hg c e1 e g (fun o x y => ?_) ho (hst1.hand hg2) (hs.gives hN6 hg2 hG8 hj) (hg.eq (fun k2 hk2 => ?_))⟩
    · have t := v_X11_give_t X (d + 8) hc hf hst c1 c2 c3 c4 hg2 hj
      rw [if_pos ge, if_pos ge, eo] at t
      exact t
    · have t := v_X12_give_t X (d + 8) hm (hw.fr (ho 98 (by decide))) (hd.fr (ho 99 (by decide))) (by rw [ho 97 (by decide)]; exact c5) c4 hg2 hj hp eo
      rw [if_pos cb, if_pos cb] at t
      exact t
    · rw [sJ_o (by omega), sJ_o (by omega)]
    · unfold hnd
      by_cases z : k2 = k
      · subst z; exact Or.inr (up_eq _ _ _)
      · exact Or.inl (by rw [up_ne (by omega), up_ne (by omega)])
theorem so_pack1 (X : mCx) {S : mSh} (x : Int32) : SO X S M_X11_pack M_X12_pack [.int x, .int (nI 1)] := by
  intro I R q
  obtain ⟨f, dr, w, N, G, u, nx, v, kx, m, ps, vs, tx, n, a, ⟨s, hb, pb, hst, hd, hs, hg⟩, c, e1, e, g⟩ := id q
  obtain ⟨hc, ⟨hf, hfd⟩, hdr, hm, hw, hk⟩ := id a
  obtain ⟨⟨c1, c2, c3, c4, c5⟩, c6⟩ := id c
  have hG8 := hst.G8
  have hN6 := hst.N6
  cases hx : isP G x with
  | false => exact ⟨_, I, R, I, fun d => v_X11_pack_f1 X (d + 10) hc hf hx, fun d => v_X12_pack_f1 X (d + 9) hm hw hx, q⟩
  | true =>
    obtain ⟨k, hg2, rfl⟩ := isP_t hx (by omega)
    have hst1 : Std S (puH I 16 8 nx u 6) R 6 s N G hb pb := hst.fr (fun o h1 h2 => puH_fr c2 (by omega))
    rcases hs.1 k hg2 with eo | ⟨p, hp, eo⟩
    · have gb : pk1 w s G hb pb k (s (19 + k)).toNatClampNeg = false := pk1_n eo
      refine ⟨-2, I, R, I, fun d => ?_, fun d => v_X12_pack_n1 (u := u) X (d + 9) hm hw hd hg2 eo, q⟩
      have t := v_X11_pack_1 X (d + 8) hc hf hst c1 c2 c3 c4 hs hg2
      rw [if_neg (by rw [gb]; decide), if_neg (by rw [gb]; decide)] at t
      exact t
    have ge := pk1_eq (w := w) (hb := hb) hN6 hst.pk hg2 hp eo
    cases cb : pk1M w s G hb k p with
    | false =>
      rw [cb] at ge
      refine ⟨-2, I, R, I, fun d => ?_, fun d => ?_, q⟩
      · have t := v_X11_pack_1 X (d + 8) hc hf hst c1 c2 c3 c4 hs hg2
        rw [if_neg (by rw [ge]; decide), if_neg (by rw [ge]; decide)] at t
        exact t
      · have t := v_X12_pack_1 X (d + 8) hm hw hd c5 c4 hg2 hp eo
        rw [if_neg (by rw [cb]; decide), if_neg (by rw [cb]; decide)] at t
        exact t
    | true =>
      rw [cb] at ge
      have ho : ∀ o, o < 6 ∨ 57 < o → sJ (puH I 16 8 nx u 6) 6 1 (nI (pbs pb k true)) o = I o := fun o ho => by rw [sJ_o (by omega), puH_fr c2 (by omega)]
      have ng : ¬ w (21 + k) = nI 2 := fun z => by
        unfold pk1M at cb
        rw [decide_eq_true z] at cb
        simp at cb
      refine ⟨hvM w (up s (27 + k) (nI 1)) G p, sJ (puH I 16 8 nx u 6) 6 1 (nI (pbs pb k true)), R, _, fun d => ?_, fun d => ?_, RR.act (s := s) (s1 := up s (27 + k) (nI 1)) a hst hd hs hg c e1 e g (fun o x y => ?_) ho (hst1.set_pk (on := true) hg2) (hs.pk hN6 hg2 hG8) (hg.on ng)⟩
      · have t := v_X11_pack_1 X (d + 8) hc hf hst c1 c2 c3 c4 hs hg2
        rw [if_pos ge, if_pos ge, pk1_v hG8 hN6 hst.pk hg2 hp eo cb] at t
        exact t
      · have t := v_X12_pack_1 X (d + 8) hm (hw.fr (ho 98 (by decide))) (hd.fr (ho 99 (by decide))) (by rw [ho 97 (by decide)]; exact c5) c4 hg2 hp eo
        rw [if_pos cb, if_pos cb] at t
        exact t
      · rw [sJ_o (by omega)]
theorem so_pack0 (X : mCx) {S : mSh} (x : Int32) : SO X S M_X11_pack M_X12_pack [.int x, .int (nI 0)] := by
  intro I R q
  obtain ⟨f, dr, w, N, G, u, nx, v, kx, m, ps, vs, tx, n, a, ⟨s, hb, pb, hst, hd, hs, hg⟩, c, e1, e, g⟩ := id q
  obtain ⟨hc, ⟨hf, hfd⟩, hdr, hm, hw, hk⟩ := id a
  obtain ⟨⟨c1, c2, c3, c4, c5⟩, c6⟩ := id c
  have hG8 := hst.G8
  have hN6 := hst.N6
  cases hx : isP G x with
  | false => exact ⟨_, I, R, I, fun d => v_X11_pack_f0 X (d + 10) hc hf hx, fun d => v_X12_pack_f0 X (d + 9) hm hw hx, q⟩
  | true =>
    obtain ⟨k, hg2, rfl⟩ := isP_t hx (by omega)
    have hst1 : Std S (puH I 16 8 nx u 6) R 6 s N G hb pb := hst.fr (fun o h1 h2 => puH_fr c2 (by omega))
    rcases hs.1 k hg2 with eo | ⟨p, hp, eo⟩
    · have gb : pk0 w s hb pb k = false := pk0_n eo
      refine ⟨-2, I, R, I, fun d => ?_, fun d => v_X12_pack_n0 (u := u) X (d + 9) hm hw hd hg2 eo, q⟩
      have t := v_X11_pack_0 X (d + 8) hc hf hst c1 c2 c3 c4 hs hg2
      rw [if_neg (by rw [gb]; decide), if_neg (by rw [gb]; decide)] at t
      exact t
    have ge := pk0_eq (hb := hb) hN6 hst.pk hg hg2 hp eo
    cases cb : pk0M s hb k p with
    | false =>
      rw [cb] at ge
      refine ⟨-2, I, R, I, fun d => ?_, fun d => ?_, q⟩
      · have t := v_X11_pack_0 X (d + 8) hc hf hst c1 c2 c3 c4 hs hg2
        rw [if_neg (by rw [ge]; decide), if_neg (by rw [ge]; decide)] at t
        exact t
      · have t := v_X12_pack_0 X (d + 8) hm hw hd c5 c4 hg2 hp eo
        rw [if_neg (by rw [cb]; decide), if_neg (by rw [cb]; decide)] at t
        exact t
    | true =>
      rw [cb] at ge
      have ho : ∀ o, o < 6 ∨ 57 < o → sJ (puH I 16 8 nx u 6) 6 1 (nI (pbs pb k false)) o = I o := fun o ho => by rw [sJ_o (by omega), puH_fr c2 (by omega)]
      refine ⟨hvM w (up s (27 + k) (nI 0)) G p, sJ (puH I 16 8 nx u 6) 6 1 (nI (pbs pb k false)), R, _, fun d => ?_, fun d => ?_, RR.act (s := s) (s1 := up s (27 + k) (nI 0)) a hst hd hs hg c e1 e g (fun o x y => ?_) ho (hst1.set_pk (on := false) hg2) (hs.pk hN6 hg2 hG8) (hg.eq (fun k2 hk2 => ?_))⟩
      · have t := v_X11_pack_0 X (d + 8) hc hf hst c1 c2 c3 c4 hs hg2
        rw [if_pos ge, if_pos ge, pk0_v hG8 hN6 hst.pk hg2 hp eo cb] at t
        exact t
      · have t := v_X12_pack_0 X (d + 8) hm (hw.fr (ho 98 (by decide))) (hd.fr (ho 99 (by decide))) (by rw [ho 97 (by decide)]; exact c5) c4 hg2 hp eo
        rw [if_pos cb, if_pos cb] at t
        exact t
      · rw [sJ_o (by omega)]
      · by_cases z : k2 = k
        · subst z; exact Or.inr (up_eq _ _ _)
        · exact Or.inl (up_ne (by omega))
