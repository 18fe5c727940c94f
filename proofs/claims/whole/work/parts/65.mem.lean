/-! ===== undo, keep, back, what is sworn, what is written ===== -/
theorem sJ97 {I : mI} {a b : Nat} {x : Int32} (h : b ≠ a) : sJ I 97 a x 97 b = I 97 b := sJ_ne (Or.inr h)
theorem so_undo (X : mCx) {S : mSh} : SO X S M_X11_undo M_X12_undo [] := by
  intro I R q
  obtain ⟨f, dr, w, N, G, u, nx, v, kx, m, ps, vs, tx, n, a, ⟨s, hb, pb, hst, hd, hs, hg⟩, c, e1, e, g⟩ := id q
  obtain ⟨hc, ⟨hf, hfd⟩, hdr, hm, hw, hk⟩ := id a
  obtain ⟨⟨c1, c2, c3, c4, c5⟩, c6⟩ := id c
  have hG8 := hst.G8
  have hN6 := hst.N6
  by_cases u0 : u = 0
  · exact ⟨-2, I, R, I, fun d => v_X11_undo_0 X (d + 9) hc c1 c2 c3 c4 u0, fun d => v_X12_undo_0 X (d + 11) hm (by rw [c5, u0]), q⟩
  · obtain ⟨t, hb1, pb1, b1, b2, b3, b4⟩ := c6 0 (by omega)
    have er : (nx + 7 - 0) % 8 = prv 8 nx := by unfold prv; split <;> omega
    rw [er] at b1
    have pl := prv_lt c2
    have ho : ∀ o, o ≠ 16 → (o < 6 ∨ 10 < o) → taH I 16 8 nx u 6 o = I o := fun o h1 h2 => taH_fr h1 (by omega)
    have h2 : ∀ o, o ≠ 97 → o ≠ 99 → dW (sJ (taH I 16 8 nx u 6) 97 2 (nI (u - 1))) 0 t o = taH I 16 8 nx u 6 o := fun o x y => by rw [dW_o y, sJ_o x]
    have h7 : ∀ b, b ≠ 2 → dW (sJ (taH I 16 8 nx u 6) 97 2 (nI (u - 1))) 0 t 97 b = I 97 b := fun b x => by rw [dW_o (by decide), sJ97 x, ho 97 (by decide) (by decide)]
    refine ⟨nI (u - 1), taH I 16 8 nx u 6, R, dW (sJ (taH I 16 8 nx u 6) 97 2 (nI (u - 1))) 0 t, fun d => v_X11_undo_t X (d + 8) hc c1 c2 c3 c4 (by omega) b1, fun d => ?_, f, dr, w, N, G, _, _, v, kx, m, ps, vs, tx, n, a.fr (fun o x y => ?_) (fun k hk => ?_), ⟨t, hb1, pb1, (b1.cp hc.now (by omega)).fr (fun o x y => ?_), MoD.mk b2.2.1 b2.2.2.1 (by decide), b3, b4⟩, c.pop (by omega) (fun o x y => h2 o (by omega) (by omega)) ?_ (fun k x y => ?_), e1.fr (fun o x y => ?_) (h7 3 (by decide)) (fun k x y => ?_), e.fr (fun o x y => ?_) (h7 4 (by decide)) ?_ ?_, g.fr ?_ ?_ (h7 8 (by decide)) ?_⟩
    · have z := ho 97 (by decide) (by decide)
      have z9 := ho 99 (by decide) (by decide)
      exact v_X12_undo_t X (d + 10) hm (by rw [z, c5]; congr 1; omega) (by omega) (by
        have b5 := b2.fr (I1 := taH I 16 8 nx u 6) z9
        rw [Nat.sub_zero] at b5
        exact b5)
    · rw [h2 o (by omega) (by omega), ho o (by omega) (by omega)]
    · rw [h2 98 (by omega) (by omega), ho 98 (by omega) (by omega)]
    · rw [h2 o (by omega) (by omega)]
      unfold taH
      rw [sJ_o (by omega), sJ_o (by omega)]
    · rw [dW_o (by decide), sJ_eq]
    · rw [dW_n (by omega), sJ_o (by decide), ho 99 (by decide) (by decide)]
    · rw [h2 o (by omega) (by omega), ho o (by omega) (by omega)]
    · rw [dW_n (by omega), sJ_o (by decide), ho 99 (by decide) (by decide)]
    · rw [h2 o (by omega) (by omega), ho o (by omega) (by omega)]
    · rw [h2 100 (by omega) (by omega), ho 100 (by omega) (by omega)]
    · rw [h2 101 (by omega) (by omega), ho 101 (by omega) (by omega)]
    · rw [h2 2 (by omega) (by omega), ho 2 (by omega) (by omega)]
    · rw [h2 3 (by omega) (by omega), ho 3 (by omega) (by omega)]
    · rw [h2 102 (by omega) (by omega), ho 102 (by omega) (by omega)]
theorem so_keep (X : mCx) {S : mSh} : SO X S M_X11_keep M_X12_keep [] := by
  intro I R q
  obtain ⟨f, dr, w, N, G, u, nx, v, kx, m, ps, vs, tx, n, a, ⟨s, hb, pb, hst, hd, hs, hg⟩, c, e1, e, g⟩ := id q
  obtain ⟨hc, ⟨hf, hfd⟩, hdr, hm, hw, hk⟩ := id a
  obtain ⟨⟨c1, c2, c3, c4, c5⟩, c6⟩ := id c
  have hG8 := hst.G8
  have hN6 := hst.N6
  obtain ⟨⟨k1, k2, k3, k4, k5⟩, k6⟩ := id e1
  by_cases v2 : v = 2
  · exact ⟨-3, I, R, I, fun d => v_X11_keep_f X (d + 11) hc k3 v2, fun d => v_X12_keep_f X (d + 11) hm (by rw [k5, v2]), q⟩
  · have ho : ∀ o, (o < 58 ∨ 69 < o) → puH I 58 2 kx v 6 o = I o := fun o h1 => puH_fr k2 (by omega)
    have h2 : ∀ o, o ≠ 97 → o ≠ 99 → sJ (dW (puH I 58 2 kx v 6) (35 + 35 * v) s) 97 3 (nI (v + 1)) o = puH I 58 2 kx v 6 o := fun o x y => by rw [sJ_o x, dW_o y]
    have h7 : ∀ b, b ≠ 3 → sJ (dW (puH I 58 2 kx v 6) (35 + 35 * v) s) 97 3 (nI (v + 1)) 97 b = I 97 b := fun b x => by rw [sJ97 x, dW_o (by decide), ho 97 (by decide)]
    refine ⟨nI (v + 1), puH I 58 2 kx v 6, R, sJ (dW (puH I 58 2 kx v 6) (35 + 35 * v) s) 97 3 (nI (v + 1)), fun d => v_X11_keep_t X (d + 8) hc k1 k2 k3 k4 (by omega) hst, fun d => ?_, f, dr, w, N, G, u, nx, _, _, m, ps, vs, tx, n, a.fr (fun o x y => ?_) (fun k hk => ?_), ⟨s, hb, pb, hst.fr (fun o x y => ?_), hd.fk (fun k x y => ?_), hs, hg⟩, c.fr (fun o x y => ?_) (h7 2 (by decide)) (fun k x y => ?_), e1.push (by omega) hc.kep hst hd hs hg (fun o x y => h2 o (by omega) (by omega)) (sJ_eq _ _ _ _) (fun k x y => ?_), e.fr (fun o x y => ?_) (h7 4 (by decide)) ?_ ?_, g.fr ?_ ?_ (h7 8 (by decide)) ?_⟩
    · exact v_X12_keep_t X (d + 10) hm (hd.fr (ho 99 (by decide))) (by rw [ho 97 (by decide)]; exact k5) (by omega)
    · rw [h2 o (by omega) (by omega), ho o (by omega)]
    · rw [h2 98 (by omega) (by omega), ho 98 (by omega)]
    · rw [h2 o (by omega) (by omega), ho o (by omega)]
    · rw [sJ_o (by decide), dW_n (by omega), ho 99 (by omega)]
    · rw [h2 o (by omega) (by omega), ho o (by omega)]
    · rw [sJ_o (by decide), dW_n (by omega), ho 99 (by omega)]
    · rw [sJ_o (by decide)]
      by_cases z : k < 35 + 35 * v ∨ 35 + 35 * v + 35 ≤ k
      · rw [dW_n z, dW_n z, ho 99 (by omega)]
      · rw [show k = 35 + 35 * v + (k - (35 + 35 * v)) by omega, dW_q _ s (by omega), dW_q _ s (by omega)]
    · rw [h2 o (by omega) (by omega), ho o (by omega)]
    · rw [h2 100 (by omega) (by omega), ho 100 (by omega)]
    · rw [h2 101 (by omega) (by omega), ho 101 (by omega)]
    · rw [h2 2 (by omega) (by omega), ho 2 (by omega)]
    · rw [h2 3 (by omega) (by omega), ho 3 (by omega)]
    · rw [h2 102 (by omega) (by omega), ho 102 (by omega)]
theorem so_back (X : mCx) {S : mSh} : SO X S M_X11_back M_X12_back [] := by
  intro I R q
  obtain ⟨f, dr, w, N, G, u, nx, v, kx, m, ps, vs, tx, n, a, ⟨s, hb, pb, hst, hd, hs, hg⟩, c, e1, e, g⟩ := id q
  obtain ⟨hc, ⟨hf, hfd⟩, hdr, hm, hw, hk⟩ := id a
  obtain ⟨⟨c1, c2, c3, c4, c5⟩, c6⟩ := id c
  have hG8 := hst.G8
  have hN6 := hst.N6
  obtain ⟨⟨k1, k2, k3, k4, k5⟩, k6⟩ := id e1
  by_cases v0 : v = 0
  · exact ⟨-2, I, R, I, fun d => v_X11_back_0 X (d + 9) hc k1 k2 k3 k4 v0, fun d => v_X12_back_0 X (d + 11) hm (by rw [k5, v0]), q⟩
  · obtain ⟨t, hb1, pb1, b1, b2, b3, b4⟩ := k6 0 (by omega)
    have er : (kx + 1 - 0) % 2 = prv 2 kx := by unfold prv; split <;> omega
    rw [er] at b1
    have pl := prv_lt k2
    have ho : ∀ o, o ≠ 16 → o ≠ 58 → (o < 6 ∨ 10 < o) → sJ (taH I 58 2 kx v 6) 16 2 (nI 0) o = I o := fun o h1 h2 h3 => by rw [sJ_o h1]; exact taH_fr h2 (by omega)
    have h2 : ∀ o, o ≠ 97 → o ≠ 99 → sJ (dW (sJ (sJ (taH I 58 2 kx v 6) 16 2 (nI 0)) 97 3 (nI (v - 1))) 0 t) 97 2 (nI 0) o = sJ (taH I 58 2 kx v 6) 16 2 (nI 0) o := fun o x y => by rw [sJ_o x, dW_o y, sJ_o x]
    have h7 : ∀ b, b ≠ 2 → b ≠ 3 → sJ (dW (sJ (sJ (taH I 58 2 kx v 6) 16 2 (nI 0)) 97 3 (nI (v - 1))) 0 t) 97 2 (nI 0) 97 b = I 97 b := fun b x y => by rw [sJ97 x, dW_o (by decide), sJ97 y, ho 97 (by decide) (by decide) (by decide)]
    refine ⟨nI (v - 1), sJ (taH I 58 2 kx v 6) 16 2 (nI 0), R, sJ (dW (sJ (sJ (taH I 58 2 kx v 6) 16 2 (nI 0)) 97 3 (nI (v - 1))) 0 t) 97 2 (nI 0), fun d => v_X11_back_t X (d + 8) hc k1 k2 k3 k4 (by omega) b1, fun d => ?_, f, dr, w, N, G, _, _, _, _, m, ps, vs, tx, n, a.fr (fun o x y => ?_) (fun k hk => ?_), ⟨t, hb1, pb1, (b1.cp hc.now (by omega)).fr (fun o x y => ?_), (MoD.mk b2.2.1 b2.2.2.1 (by decide)).fr (I := dW (sJ (sJ (taH I 58 2 kx v 6) 16 2 (nI 0)) 97 3 (nI (v - 1))) 0 t) ?_, b3, b4⟩, c.nil ?_ ?_ (sJ_eq _ _ _ _) w N G R, e1.pop (by omega) (fun o x y => ?_) ?_ (fun k x y => ?_), e.fr (fun o x y => ?_) (h7 4 (by decide) (by decide)) ?_ ?_, g.fr ?_ ?_ (h7 8 (by decide) (by decide)) ?_⟩
    · have z := ho 97 (by decide) (by decide) (by decide)
      have z9 := ho 99 (by decide) (by decide) (by decide)
      exact v_X12_back_t X (d + 10) hm (by rw [z, k5]; congr 1; omega) (by omega) (by
        have b5 := b2.fr (I1 := sJ (taH I 58 2 kx v 6) 16 2 (nI 0)) z9
        rw [Nat.sub_zero] at b5
        exact b5)
    · rw [h2 o (by omega) (by omega), ho o (by omega) (by omega) (by omega)]
    · rw [h2 98 (by omega) (by omega), ho 98 (by omega) (by omega) (by omega)]
    · rw [h2 o (by omega) (by omega)]
      unfold taH
      rw [sJ_o (by omega), sJ_o (by omega), sJ_o (by omega)]
    · rw [sJ_o (by decide)]
    · rw [h2 16 (by decide) (by decide), sJ_ne (Or.inr (by decide)), taH_fr (by decide) (by decide)]
    · rw [h2 16 (by decide) (by decide), sJ_eq]
    · rw [h2 o (by omega) (by omega), sJ_o (by omega)]
    · rw [sJ97 (by decide), dW_o (by decide), sJ_eq]
    · rw [sJ_o (by decide), dW_n (by omega), sJ_o (by decide), ho 99 (by decide) (by decide) (by decide)]
    · rw [h2 o (by omega) (by omega), ho o (by omega) (by omega) (by omega)]
    · rw [h2 100 (by omega) (by omega), ho 100 (by omega) (by omega) (by omega)]
    · rw [h2 101 (by omega) (by omega), ho 101 (by omega) (by omega) (by omega)]
    · rw [h2 2 (by omega) (by omega), ho 2 (by omega) (by omega) (by omega)]
    · rw [h2 3 (by omega) (by omega), ho 3 (by omega) (by omega) (by omega)]
    · rw [h2 102 (by omega) (by omega), ho 102 (by omega) (by omega) (by omega)]
/-- only what is sworn or written is another -/
theorem RR.eg {S : mSh} {I I1 : mI} {R : mR} {f dr N G u nx v kx m n : Nat} {w : Nat → Int32} {ps tx : Nat → Nat} {vs : Nat → Int32} (a : gA S I R f dr w N G) (b : PR S I R w N G 6 0) (c : gC S I R w N G u nx) (d : gD S I R w N G v kx) (e : gE I1 N m ps vs) (g : gF S I1 R tx n) (hc : ∀ o, 6 ≤ o → o ≤ 69 ∨ (77 ≤ o ∧ o ≤ 96) → I1 o = I o) (h2 : I1 97 2 = I 97 2) (h3 : I1 97 3 = I 97 3) (h8 : I1 98 = I 98) (h9 : I1 99 = I 99) : RR S I1 R :=
  ⟨f, dr, w, N, G, u, nx, v, kx, m, ps, vs, tx, n, a.fr (fun o x y => hc o (by omega) (by omega)) (fun k _ => by rw [h8]), b.fr (fun o x y => hc o (by omega) (by omega)) (fun k _ _ => by rw [h9]), c.fr (fun o x y => hc o (by omega) (by omega)) h2 (fun k _ _ => by rw [h9]), d.fr (fun o x y => hc o (by omega) (by omega)) h3 (fun k _ _ => by rw [h9]), e, g⟩
theorem so_forget (X : mCx) {S : mSh} : SO X S M_X11_forget M_X12_forget [] := by
  intro I R q
  obtain ⟨f, dr, w, N, G, u, nx, v, kx, m, ps, vs, tx, n, a, ⟨s, hb, pb, hst, hd, hs, hg⟩, c, e1, e, g⟩ := id q
  obtain ⟨hc, ⟨hf, hfd⟩, hdr, hm, hw, hk⟩ := id a
  obtain ⟨⟨c1, c2, c3, c4, c5⟩, c6⟩ := id c
  have hG8 := hst.G8
  have hN6 := hst.N6
  refine ⟨nI m, sJ I 70 2 (nI 0), R, sJ (sJ I 70 2 (nI 0)) 97 4 (nI 0), fun d => v_X11_forget X (d + 10) hc e.1, fun d => v_X12_forget X (d + 11) hm (by rw [sJ_o (by decide)]; exact e.2.2.1), RR.eg (m := 0) (ps := ps) (vs := vs) a ⟨s, hb, pb, hst, hd, hs, hg⟩ c e1 ⟨?_, fun k hk => absurd hk (Nat.not_lt_zero _), ⟨sJ_eq _ _ _ _, by decide, fun k hk => absurd hk (Nat.not_lt_zero _)⟩⟩ (g.fr ?_ ?_ ?_ ?_) (fun o x y => ?_) ?_ ?_ ?_ ?_⟩
  · rw [sJ_o (by decide), sJ_eq]
  · rw [sJ_o (by decide), sJ_o (by decide)]
  · rw [sJ_o (by decide), sJ_o (by decide)]
  · rw [sJ97 (by decide), sJ_o (by decide)]
  · rw [sJ_o (by decide), sJ_o (by decide)]
  · rw [sJ_o (by omega), sJ_o (by omega)]
  · rw [sJ97 (by decide), sJ_o (by decide)]
  · rw [sJ97 (by decide), sJ_o (by decide)]
  · rw [sJ_o (by decide), sJ_o (by decide)]
  · rw [sJ_o (by decide), sJ_o (by decide)]
theorem so_wipe (X : mCx) {S : mSh} : SO X S M_X11_wipe M_X12_wipe [] := by
  intro I R q
  obtain ⟨f, dr, w, N, G, u, nx, v, kx, m, ps, vs, tx, n, a, ⟨s, hb, pb, hst, hd, hs, hg⟩, c, e1, e, g⟩ := id q
  obtain ⟨hc, ⟨hf, hfd⟩, hdr, hm, hw, hk⟩ := id a
  obtain ⟨⟨c1, c2, c3, c4, c5⟩, c6⟩ := id c
  have hG8 := hst.G8
  have hN6 := hst.N6
  refine ⟨nI n, sJ I 2 1 (nI 0), R, sJ (sJ I 2 1 (nI 0)) 97 8 (nI 0), fun d => v_X11_wipe X (d + 10) hc g.1.2.1, fun d => v_X12_wipe X (d + 11) hm (by rw [sJ_o (by decide)]; exact g.2.1), RR.eg (tx := tx) (n := 0) a ⟨s, hb, pb, hst, hd, hs, hg⟩ c e1 (e.fr (fun o x y => ?_) ?_ ?_ ?_) ⟨⟨g.1.1, ?_, by decide, fun k hk => absurd hk (Nat.not_lt_zero _)⟩, ⟨sJ_eq _ _ _ _, by decide, fun k hk => absurd hk (Nat.not_lt_zero _)⟩⟩ (fun o x y => ?_) ?_ ?_ ?_ ?_⟩
  · rw [sJ_o (by omega), sJ_o (by omega)]
  · rw [sJ97 (by decide), sJ_o (by decide)]
  · rw [sJ_o (by decide), sJ_o (by decide)]
  · rw [sJ_o (by decide), sJ_o (by decide)]
  · rw [sJ_o (by decide), sJ_eq]
  · rw [sJ_o (by omega), sJ_o (by omega)]
  · rw [sJ97 (by decide), sJ_o (by decide)]
  · rw [sJ97 (by decide), sJ_o (by decide)]
  · rw [sJ_o (by decide), sJ_o (by decide)]
  · rw [sJ_o (by decide), sJ_o (by decide)]
theorem so_write (X : mCx) {S : mSh} (x : Int32) : SO X S M_X11_write M_X12_write [.int x] := by
  intro I R q
  obtain ⟨f, dr, w, N, G, u, nx, v, kx, m, ps, vs, tx, n, a, ⟨s, hb, pb, hst, hd, hs, hg⟩, c, e1, e, g⟩ := id q
  obtain ⟨hc, ⟨hf, hfd⟩, hdr, hm, hw, hk⟩ := id a
  obtain ⟨⟨c1, c2, c3, c4, c5⟩, c6⟩ := id c
  have hG8 := hst.G8
  have hN6 := hst.N6
  by_cases hx : x < nI 32 ∨ nI 126 < x
  · exact ⟨-1, I, R, I, fun d => v_X11_write_f X (d + 11) hc hx, fun d => v_X12_write_f X (d + 10) hm hx, q⟩
  obtain ⟨k, hk1, hk2, rfl⟩ : ∃ k, 32 ≤ k ∧ k ≤ 126 ∧ x = nI k := by
    have h1 : ¬ x < nI 32 := fun z => hx (Or.inl z)
    have h2 : ¬ nI 126 < x := fun z => hx (Or.inr z)
    rw [Int32.lt_iff_toInt_lt, nI_toInt (by decide)] at h1 h2
    exact ⟨x.toInt.toNat, by omega, by omega, nI_asI (by omega)⟩
  have n200 : n ≤ 200 := g.2.2.1
  by_cases hn : n = 200
  · exact ⟨-3, I, R, I, fun d => v_X11_write_F X (d + 10) hc g.1.2.1 hn hk1 hk2, fun d => v_X12_write_F X (d + 10) hm g.2.1 hn hk1 hk2, q⟩
  · refine ⟨nI (n + 1), sJ (sJ I 3 n (nI k)) 2 1 (nI (n + 1)), R, sJ (sJ (sJ (sJ I 3 n (nI k)) 2 1 (nI (n + 1))) 102 n (nI k)) 97 8 (nI (n + 1)), fun d => v_X11_write_t X (d + 10) hc g.1.2.1 (by omega) hk1 hk2, fun d => v_X12_write_t X (d + 10) hm (by rw [sJ_o (by decide), sJ_o (by decide)]; exact g.2.1) (by omega) hk1 hk2, RR.eg (tx := fun j => if j = n then k else tx j) (n := n + 1) a ⟨s, hb, pb, hst, hd, hs, hg⟩ c e1 (e.fr (fun o x y => ?_) ?_ ?_ ?_) ⟨⟨g.1.1, ?_, by omega, fun j hj => ⟨?_, ?_⟩⟩, ⟨sJ_eq _ _ _ _, by omega, fun j hj => ⟨?_, ?_⟩⟩⟩ (fun o x y => ?_) ?_ ?_ ?_ ?_⟩
    · rw [sJ_o (by omega), sJ_o (by omega), sJ_o (by omega), sJ_o (by omega)]
    · rw [sJ97 (by decide), sJ_o (by decide), sJ_o (by decide), sJ_o (by decide)]
    · rw [sJ_o (by decide), sJ_o (by decide), sJ_o (by decide), sJ_o (by decide)]
    · rw [sJ_o (by decide), sJ_o (by decide), sJ_o (by decide), sJ_o (by decide)]
    · rw [sJ_o (by decide), sJ_o (by decide), sJ_eq]
    · rw [sJ_o (by decide), sJ_o (by decide), sJ_o (by decide)]
      dsimp only
      by_cases z : j = n
      · subst z
        rw [if_pos rfl]; exact sJ_eq _ _ _ _
      · rw [if_neg z, sJ_ne (Or.inr z)]; exact (g.1.2.2.2 j (by omega)).1
    · dsimp only
      split
      · omega
      · exact (g.1.2.2.2 j (by omega)).2
    · rw [sJ_o (by decide)]
      dsimp only
      by_cases z : j = n
      · subst z
        rw [if_pos rfl, sJ_eq]
      · rw [if_neg z, sJ_ne (Or.inr z), sJ_o (by decide), sJ_o (by decide)]; exact (g.2.2.2 j (by omega)).1
    · dsimp only
      split
      · omega
      · exact (g.2.2.2 j (by omega)).2
    · rw [sJ_o (by omega), sJ_o (by omega), sJ_o (by omega), sJ_o (by omega)]
    · rw [sJ97 (by decide), sJ_o (by decide), sJ_o (by decide), sJ_o (by decide)]
    · rw [sJ97 (by decide), sJ_o (by decide), sJ_o (by decide), sJ_o (by decide)]
    · rw [sJ_o (by decide), sJ_o (by decide), sJ_o (by decide), sJ_o (by decide)]
    · rw [sJ_o (by decide), sJ_o (by decide), sJ_o (by decide), sJ_o (by decide)]
theorem so_swear (X : mCx) {S : mSh} (x y : Int32) : SO X S M_X11_swear M_X12_swear [.int x, .int y] := by
  intro I R q
  obtain ⟨f, dr, w, N, G, u, nx, v, kx, m, ps, vs, tx, n, a, ⟨s, hb, pb, hst, hd, hs, hg⟩, c, e1, e, g⟩ := id q
  obtain ⟨hc, ⟨hf, hfd⟩, hdr, hm, hw, hk⟩ := id a
  obtain ⟨⟨c1, c2, c3, c4, c5⟩, c6⟩ := id c
  have hG8 := hst.G8
  have hN6 := hst.N6
  by_cases h : isP N x = false ∨ isS y = false
  · exact ⟨-1, I, R, I, fun d => v_X11_swear_f X (d + 10) hc hf h, fun d => v_X12_swear_f X (d + 9) hm hw h, q⟩
  have hx : isP N x = true := by
    cases e0 : isP N x with
    | true => rfl
    | false => exact absurd (Or.inl e0) h
  have hy : isS y = true := by
    cases e0 : isS y with
    | true => rfl
    | false => exact absurd (Or.inr e0) h
  obtain ⟨i, hi, rfl⟩ := isP_t hx (by omega)
  obtain ⟨m1, m2, m3, m4, m5⟩ := id e
  cases hh : hb.testBit i with
  | false => exact ⟨-2, I, R, I, fun d => v_X11_swear_n X (d + 10) hc hf hst hi hy hh, fun d => v_X12_swear_n X (d + 9) hm hw hd hi hy hh, q⟩
  | true =>
    by_cases h6 : m = 6
    · exact ⟨-3, I, R, I, fun d => v_X11_swear_6 X (d + 10) hc hf hst m1 h6 hi hy hh, fun d => v_X12_swear_6 X (d + 9) hm hw hd m3 h6 hi hy hh, q⟩
    have ho : ∀ o, (o < 70 ∨ 72 < o) → sJ (sJ (sJ I 71 m (nI i)) 72 m y) 70 2 (nI (m + 1)) o = I o := fun o z => by rw [sJ_o (by omega), sJ_o (by omega), sJ_o (by omega)]
    have h2 : ∀ o, o ≠ 97 → o ≠ 100 → o ≠ 101 → sJ (sJ (sJ (sJ (sJ (sJ I 71 m (nI i)) 72 m y) 70 2 (nI (m + 1))) 100 m (nI i)) 101 m y) 97 4 (nI (m + 1)) o = sJ (sJ (sJ I 71 m (nI i)) 72 m y) 70 2 (nI (m + 1)) o := fun o z1 z2 z3 => by rw [sJ_o z1, sJ_o z3, sJ_o z2]
    have h7 : ∀ b, b ≠ 4 → sJ (sJ (sJ (sJ (sJ (sJ I 71 m (nI i)) 72 m y) 70 2 (nI (m + 1))) 100 m (nI i)) 101 m y) 97 4 (nI (m + 1)) 97 b = I 97 b := fun b z => by rw [sJ97 z, sJ_o (by decide), sJ_o (by decide), ho 97 (by decide)]
    refine ⟨nI (m + 1), sJ (sJ (sJ I 71 m (nI i)) 72 m y) 70 2 (nI (m + 1)), R, sJ (sJ (sJ (sJ (sJ (sJ I 71 m (nI i)) 72 m y) 70 2 (nI (m + 1))) 100 m (nI i)) 101 m y) 97 4 (nI (m + 1)), fun d => v_X11_swear_t X (d + 9) hc hf hst m1 (by omega) hi hy hh, fun d => ?_, RR.eg (m := m + 1) (ps := fun k => if k = m then i else ps k) (vs := fun k => if k = m then y else vs k) a ⟨s, hb, pb, hst, hd, hs, hg⟩ c e1 ⟨?_, fun k hk => ?_, sJ_eq _ _ _ _, by omega, fun k hk => ?_⟩ (g.fr ?_ ?_ (h7 8 (by decide)) ?_) (fun o x y => ?_) (h7 2 (by decide)) (h7 3 (by decide)) ?_ ?_⟩
    · exact v_X12_swear_t X (d + 9) hm (hw.fr (ho 98 (by decide))) (hd.fr (ho 99 (by decide))) (by rw [ho 97 (by decide)]; exact m3) (by omega) hi hy hh
    · rw [h2 70 (by decide) (by decide) (by decide), sJ_eq]
    · rw [h2 71 (by decide) (by decide) (by decide), h2 72 (by decide) (by decide) (by decide), sJ_o (show 71 ≠ 70 by decide), sJ_o (show 71 ≠ 72 by decide), sJ_o (show 72 ≠ 70 by decide)]
      dsimp only
      by_cases z : k = m
      · subst z
        rw [if_pos rfl, if_pos rfl, sJ_eq, sJ_eq]
        exact ⟨rfl, hi, rfl⟩
      · rw [if_neg z, if_neg z, sJ_ne (Or.inr z), sJ_ne (Or.inr z), sJ_o (by decide)]
        exact m2 k (by omega)
    · rw [sJ_o (show 100 ≠ 97 by decide), sJ_o (show 101 ≠ 97 by decide), sJ_o (show 100 ≠ 101 by decide)]
      dsimp only
      by_cases z : k = m
      · subst z
        rw [if_pos rfl, if_pos rfl, sJ_eq, sJ_eq]
        exact ⟨rfl, hi, rfl⟩
      · rw [if_neg z, if_neg z, sJ_ne (Or.inr z), sJ_ne (Or.inr z), sJ_o (show 101 ≠ 100 by decide), ho 100 (by decide), ho 101 (by decide)]
        exact m5 k (by omega)
    · rw [h2 2 (by decide) (by decide) (by decide), ho 2 (by decide)]
    · rw [h2 3 (by decide) (by decide) (by decide), ho 3 (by decide)]
    · rw [h2 102 (by decide) (by decide) (by decide), ho 102 (by decide)]
    · rw [h2 o (by omega) (by omega) (by omega), ho o (by omega)]
    · rw [h2 98 (by decide) (by decide) (by decide), ho 98 (by decide)]
    · rw [h2 99 (by decide) (by decide) (by decide), ho 99 (by decide)]
