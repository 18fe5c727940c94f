/-! ===== a text read, a family laid, alike ===== -/
/-- a draft as it is told: as wOk, but perhaps nobody -/
def wO (w : Nat → Int32) (N G : Nat) : Prop := (w 0 = nI N ∧ w 1 = nI G ∧ N ≤ 6 ∧ G ≤ 8) ∧ (∃ T, 1 ≤ T ∧ T ≤ 20 ∧ w 2 = nI T) ∧ (∀ i, i < N → ∃ k, k ≤ 4 ∧ w (3 + i) = nI k) ∧ (∀ i, i < N → ∃ k, k ≤ 99 ∧ w (9 + i) = nI k) ∧ (∀ i, i < N → ∃ k, k ≤ 20 ∧ w (15 + i) = nI k) ∧ (∀ g, g < G → ∃ k, k ≤ 3 ∧ w (21 + g) = nI k) ∧ (∀ g, g < G → ∃ k, k < N ∧ w (29 + g) = nI k) ∧ (∀ g, g < G → ∃ k, 1 ≤ k ∧ k ≤ 40 ∧ w (37 + g) = nI k) ∧ (∀ g, g < G → ∃ k, k ≤ 20 ∧ w (45 + g) = nI k) ∧ (∀ j, j < 36 → ∃ k, k ≤ 20 ∧ w (53 + j) = nI k)
theorem wO.ok {w : Nat → Int32} {N G : Nat} (q : wO w N G) (h : 1 ≤ N) : wOk w N G := by
  obtain ⟨⟨a1, a2, a3, a4⟩, b, c, d, e, f, g, i, j, k⟩ := q
  exact ⟨⟨a1, a2, h, a3, a4⟩, b, c, d, e, f, g, i, j, fun x y hx hy => k (6 * x + y) (by omega)⟩
theorem wO_bg : wO bgW 0 0 := by
  refine ⟨⟨rfl, rfl, by decide, by decide⟩, ⟨10, by decide, by decide, rfl⟩, fun i h => absurd h (Nat.not_lt_zero _), fun i h => absurd h (Nat.not_lt_zero _), fun i h => absurd h (Nat.not_lt_zero _), fun i h => absurd h (Nat.not_lt_zero _), fun i h => absurd h (Nat.not_lt_zero _), fun i h => absurd h (Nat.not_lt_zero _), fun i h => absurd h (Nat.not_lt_zero _), fun j h => ⟨0, by decide, ?_⟩⟩
  unfold bgW
  rw [if_neg (by omega)]
theorem perW_o {w : Nat → Int32} {N a b c j : Nat} (h1 : j ≠ 3 + N) (h2 : j ≠ 9 + N) (h3 : j ≠ 15 + N) (h4 : j ≠ 0) : perW w N a b c j = w j := by
  unfold perW
  rw [up_ne h4, up_ne h3, up_ne h2, up_ne h1]
theorem wO.per {w : Nat → Int32} {N G a b c : Nat} (q : wO w N G) (hN : N < 6) (ha : a ≤ 4) (hb : b ≤ 99) (hc : c ≤ 20) : wO (perW w N a b c) (N + 1) G := by
  obtain ⟨⟨a1, a2, a3, a4⟩, t, k1, k2, k3, g1, g2, g3, g4, lv⟩ := q
  refine ⟨⟨?_, ?_, by omega, a4⟩, ?_, fun i hi => ?_, fun i hi => ?_, fun i hi => ?_, fun g hg => ?_, fun g hg => ?_, fun g hg => ?_, fun g hg => ?_, fun j hj => ?_⟩
  · unfold perW; rw [up_eq]
  · rw [perW_o (by omega) (by omega) (by omega) (by omega)]; exact a2
  · rw [perW_o (by omega) (by omega) (by omega) (by omega)]; exact t
  · by_cases e : i = N
    · subst e
      exact ⟨a, ha, by unfold perW; rw [up_ne (by omega), up_ne (by omega), up_ne (by omega), up_eq]⟩
    · rw [perW_o (by omega) (by omega) (by omega) (by omega)]; exact k1 i (by omega)
  · by_cases e : i = N
    · subst e
      exact ⟨b, hb, by unfold perW; rw [up_ne (by omega), up_ne (by omega), up_eq]⟩
    · rw [perW_o (by omega) (by omega) (by omega) (by omega)]; exact k2 i (by omega)
  · by_cases e : i = N
    · subst e
      exact ⟨c, hc, by unfold perW; rw [up_ne (by omega), up_eq]⟩
    · rw [perW_o (by omega) (by omega) (by omega) (by omega)]; exact k3 i (by omega)
  · rw [perW_o (by omega) (by omega) (by omega) (by omega)]; exact g1 g hg
  · rw [perW_o (by omega) (by omega) (by omega) (by omega)]
    obtain ⟨k, h1, h2⟩ := g2 g hg
    exact ⟨k, by omega, h2⟩
  · rw [perW_o (by omega) (by omega) (by omega) (by omega)]; exact g3 g hg
  · rw [perW_o (by omega) (by omega) (by omega) (by omega)]; exact g4 g hg
  · rw [perW_o (by omega) (by omega) (by omega) (by omega)]; exact lv j hj
theorem gooW_o {w : Nat → Int32} {G a b c e j : Nat} (h1 : j ≠ 21 + G) (h2 : j ≠ 29 + G) (h3 : j ≠ 37 + G) (h4 : j ≠ 45 + G) (h5 : j ≠ 1) : gooW w G a b c e j = w j := by
  unfold gooW
  rw [up_ne h5, up_ne h4, up_ne h3, up_ne h2, up_ne h1]
theorem wO.goo {w : Nat → Int32} {N G a b c e : Nat} (q : wO w N G) (hG : G < 8) (ha : a ≤ 3) (hb : b < N) (hc1 : 1 ≤ c) (hc : c ≤ 40) (he : e ≤ 20) : wO (gooW w G a b c e) N (G + 1) := by
  obtain ⟨⟨a1, a2, a3, a4⟩, t, k1, k2, k3, g1, g2, g3, g4, lv⟩ := q
  refine ⟨⟨?_, ?_, a3, by omega⟩, ?_, fun i hi => ?_, fun i hi => ?_, fun i hi => ?_, fun g hg => ?_, fun g hg => ?_, fun g hg => ?_, fun g hg => ?_, fun j hj => ?_⟩
  · rw [gooW_o (by omega) (by omega) (by omega) (by omega) (by omega)]; exact a1
  · unfold gooW; rw [up_eq]
  · rw [gooW_o (by omega) (by omega) (by omega) (by omega) (by omega)]; exact t
  · rw [gooW_o (by omega) (by omega) (by omega) (by omega) (by omega)]; exact k1 i hi
  · rw [gooW_o (by omega) (by omega) (by omega) (by omega) (by omega)]; exact k2 i hi
  · rw [gooW_o (by omega) (by omega) (by omega) (by omega) (by omega)]; exact k3 i hi
  · by_cases z : g = G
    · subst z
      exact ⟨a, ha, by unfold gooW; rw [up_ne (by omega), up_ne (by omega), up_ne (by omega), up_ne (by omega), up_eq]⟩
    · rw [gooW_o (by omega) (by omega) (by omega) (by omega) (by omega)]; exact g1 g (by omega)
  · by_cases z : g = G
    · subst z
      exact ⟨b, hb, by unfold gooW; rw [up_ne (by omega), up_ne (by omega), up_ne (by omega), up_eq]⟩
    · rw [gooW_o (by omega) (by omega) (by omega) (by omega) (by omega)]; exact g2 g (by omega)
  · by_cases z : g = G
    · subst z
      exact ⟨c, hc1, hc, by unfold gooW; rw [up_ne (by omega), up_ne (by omega), up_eq]⟩
    · rw [gooW_o (by omega) (by omega) (by omega) (by omega) (by omega)]; exact g3 g (by omega)
  · by_cases z : g = G
    · subst z
      exact ⟨e, he, by unfold gooW; rw [up_ne (by omega), up_eq]⟩
    · rw [gooW_o (by omega) (by omega) (by omega) (by omega) (by omega)]; exact g4 g (by omega)
  · rw [gooW_o (by omega) (by omega) (by omega) (by omega) (by omega)]; exact lv j hj
theorem wO.lov {w : Nat → Int32} {N G k0 v : Nat} (q : wO w N G) (hv : v ≤ 20) : wO (up w (53 + k0) (nI v)) N G := by
  obtain ⟨⟨a1, a2, a3, a4⟩, t, k1, k2, k3, g1, g2, g3, g4, lv⟩ := q
  refine ⟨⟨?_, ?_, a3, a4⟩, ?_, fun i hi => ?_, fun i hi => ?_, fun i hi => ?_, fun g hg => ?_, fun g hg => ?_, fun g hg => ?_, fun g hg => ?_, fun j hj => ?_⟩
  · rw [up_ne (by omega)]; exact a1
  · rw [up_ne (by omega)]; exact a2
  · rw [up_ne (by omega)]; exact t
  · rw [up_ne (by omega)]; exact k1 i hi
  · rw [up_ne (by omega)]; exact k2 i hi
  · rw [up_ne (by omega)]; exact k3 i hi
  · rw [up_ne (by omega)]; exact g1 g hg
  · rw [up_ne (by omega)]; exact g2 g hg
  · rw [up_ne (by omega)]; exact g3 g hg
  · rw [up_ne (by omega)]; exact g4 g hg
  · by_cases z : j = k0
    · subst z; exact ⟨v, hv, by rw [up_eq]⟩
    · rw [up_ne (by omega)]; exact lv j hj
theorem wO.ten {w : Nat → Int32} {N G v : Nat} (q : wO w N G) (h1 : 1 ≤ v) (hv : v ≤ 20) : wO (up w 2 (nI v)) N G := by
  obtain ⟨⟨a1, a2, a3, a4⟩, t, k1, k2, k3, g1, g2, g3, g4, lv⟩ := q
  refine ⟨⟨?_, ?_, a3, a4⟩, ⟨v, h1, hv, by rw [up_eq]⟩, fun i hi => ?_, fun i hi => ?_, fun i hi => ?_, fun g hg => ?_, fun g hg => ?_, fun g hg => ?_, fun g hg => ?_, fun j hj => ?_⟩
  · rw [up_ne (by omega)]; exact a1
  · rw [up_ne (by omega)]; exact a2
  · rw [up_ne (by omega)]; exact k1 i hi
  · rw [up_ne (by omega)]; exact k2 i hi
  · rw [up_ne (by omega)]; exact k3 i hi
  · rw [up_ne (by omega)]; exact g1 g hg
  · rw [up_ne (by omega)]; exact g2 g hg
  · rw [up_ne (by omega)]; exact g3 g hg
  · rw [up_ne (by omega)]; exact g4 g hg
  · rw [up_ne (by omega)]; exact lv j hj
theorem wO.tell {c : Nat} {v : Nat → Nat} {q q1 : Dr} (h : wO q.1 q.2.1 q.2.2) (hv : 1 < nof c → v 1 < 100) (e : tellQ c v q = some q1) : wO q1.1 q1.2.1 q1.2.2 := by
  unfold tellQ at e
  by_cases c1 : c = 112
  · rw [if_pos c1] at e
    split at e
    case isTrue g =>
      cases e
      exact h.per g.1 g.2.1 (by have := hv (by rw [c1]; decide); omega) g.2.2
    case isFalse => cases e
  rw [if_neg c1] at e
  by_cases c2 : c = 103
  · rw [if_pos c2] at e
    split at e
    case isTrue g =>
      cases e
      exact h.goo g.1 g.2.1 g.2.2.1 g.2.2.2.1 g.2.2.2.2.1 g.2.2.2.2.2
    case isFalse => cases e
  rw [if_neg c2] at e
  by_cases c3 : c = 118
  · rw [if_pos c3] at e
    split at e
    case isTrue g =>
      cases e
      exact h.lov g.2.2.2
    case isFalse => cases e
  rw [if_neg c3] at e
  by_cases c4 : c = 116
  · rw [if_pos c4] at e
    split at e
    case isTrue g =>
      cases e
      exact h.ten g.1 g.2
    case isFalse => cases e
  rw [if_neg c4] at e
  cases e
theorem wO.ff {tx : Nat → Nat} {n : Nat} : ∀ (k a : Nat) (q : Dr), wO q.1 q.2.1 q.2.2 → wO (ffQ tx n k a q).2.1 (ffQ tx n k a q).2.2.1 (ffQ tx n k a q).2.2.2
  | 0, a, q, h => h
  | k + 1, a, q, h => by
    rw [ffQ]
    by_cases hn : a < n
    · rw [if_pos hn]
      cases e : itQ tx n a q with
      | none => exact h
      | some q1 =>
        refine wO.ff k _ q1 ?_
        unfold itQ at e
        by_cases hi : iOk tx n a
        · rw [if_pos hi] at e
          exact h.tell (fun z => itV_lt hi z) e
        · rw [if_neg hi] at e; cases e
    · rw [if_neg hn]; exact h
theorem wO.read (tx : Nat → Nat) (n : Nat) : wO (ffQ tx n 200 0 q0).2.1 (ffQ tx n 200 0 q0).2.2.1 (ffQ tx n 200 0 q0).2.2.2 := wO.ff 200 0 q0 wO_bg
theorem Mod.rq {S : mSh} {R R1 : mR} (q : Mod S R) (h : R1 97 = R 97) : Mod S R1 := by
  unfold Mod at q ⊢
  rw [h]; exact q
section
variable {S : mSh} {I I1 I2 : mI} {R : mR} {w : Nat → Int32} {N G : Nat}
/-- reading a text changes the draft alone -/
theorem RR.rd {f dr u nx v kx m n : Nat} {ps tx : Nat → Nat} {vs : Nat → Int32} (a : gA S I R f dr w N G) (b : PR S I R w N G 6 0) (c : gC S I R w N G u nx) (d : gD S I R w N G v kx) (e : gE I N m ps vs) (g : gF S I R tx n) (hd : ∃ wd Nd Gd, FamD S I1 R dr wd Nd Gd) (h1 : frY dr 4 I I1) (h2 : frM I1 I2) : RR S I2 R := by
  obtain ⟨a1, a2, a3, a4, a5, a6⟩ := a
  have two := a1.two
  have ho : ∀ o, o ≠ 5 → (o < dr ∨ dr + 9 < o) → o ≠ 97 → o ≠ 98 → o ≠ 103 → I2 o = I o := fun o x1 x2 x3 x4 x5 => by rw [h2.1 o x3 x4 x5, h1 o x1 x2]
  have h7 : ∀ b, b ≠ 9 → I2 97 b = I 97 b := fun b x => by rw [h2.2.1 b x, h1 97 (by decide) (by omega)]
  obtain ⟨wd, Nd, Gd, hd⟩ := hd
  refine ⟨f, dr, w, N, G, u, nx, v, kx, m, ps, vs, tx, n, ⟨a1, a2.fr (fun o x y => ho o (by omega) (by omega) (by omega) (by omega) (by omega)), ⟨wd, Nd, Gd, hd.fr (fun o x y => h2.1 o (by omega) (by omega) (by omega))⟩, a4, a5.fk (fun k hk => by rw [h2.2.2 k hk, h1 98 (by decide) (by omega)]), a6⟩, b.fr (fun o x y => ho o (by omega) (by omega) (by omega) (by omega) (by omega)) (fun k x y => by rw [ho 99 (by decide) (by omega) (by decide) (by decide) (by decide)]), c.fr (fun o x y => ho o (by omega) (by omega) (by omega) (by omega) (by omega)) (h7 2 (by decide)) (fun k x y => by rw [ho 99 (by decide) (by omega) (by decide) (by decide) (by decide)]), d.fr (fun o x y => ho o (by omega) (by omega) (by omega) (by omega) (by omega)) (h7 3 (by decide)) (fun k x y => by rw [ho 99 (by decide) (by omega) (by decide) (by decide) (by decide)]), e.fr (fun o x y => ho o (by omega) (by omega) (by omega) (by omega) (by omega)) (h7 4 (by decide)) (ho 100 (by decide) (by omega) (by decide) (by decide) (by decide)) (ho 101 (by decide) (by omega) (by decide) (by decide) (by decide)), g.fr (ho 2 (by decide) (by omega) (by decide) (by decide) (by decide)) (ho 3 (by decide) (by omega) (by decide) (by decide) (by decide)) (h7 8 (by decide)) (ho 102 (by decide) (by omega) (by decide) (by decide) (by decide))⟩
theorem sBeg_ok (hk : wOk w N G) : sOk (sBeg w N G) N G ∧ gOk w (sBeg w N G) G := by
  obtain ⟨⟨a1, a2, a3, a4, a5⟩, t, k1, k2, k3, g1, g2, g3, g4, lv⟩ := hk
  refine ⟨⟨fun g hg => ?_, fun i hi => ⟨0, by decide, ?_⟩⟩, fun g hg _ => ?_⟩
  · unfold sBeg
    rw [if_neg (by omega), if_neg (by omega), if_pos (by omega)]
    obtain ⟨k, h1, h2⟩ := g2 g hg
    exact Or.inr ⟨k, h1, by rw [show 10 + (19 + g) = 29 + g by omega]; exact h2⟩
  · unfold sBeg
    rw [if_neg (by omega), if_neg (by omega), if_neg (by omega)]
    exact nI_0.symm
  · unfold sBeg
    rw [if_neg (by omega), if_neg (by omega), if_neg (by omega)]
    decide
end
theorem so_fault (X : mCx) {S : mSh} : SO X S M_X11_fault M_X12_fault [] := by
  intro I R q
  obtain ⟨f, dr, w, N, G, u, nx, v, kx, m, ps, vs, tx, n, a, ⟨s, hb, pb, hst, hd, hs, hg⟩, c, e1, e, g⟩ := id q
  obtain ⟨hc, ⟨hf, hfd⟩, hdr, hm, hw, hk⟩ := id a
  obtain ⟨⟨c1, c2, c3, c4, c5⟩, c6⟩ := id c
  have hG8 := hst.G8
  have hN6 := hst.N6
  obtain ⟨wd, Nd, Gd, hdd⟩ := id hdr
  have two := hc.two
  obtain ⟨I1, r1, r2, r3⟩ := v_firstFault X hc.rea hdd g.1 (show 2 + 1 < 4 ∨ 4 + 1 < 2 by omega) (by omega) (by omega)
  obtain ⟨I2, t1, t2, t3⟩ := v_faultOf X (I := I1) hm (g.2.fr (by rw [r3 97 (by decide) (by omega)]) (r3 102 (by decide) (by omega)))
  exact ⟨_, I1, R, I2, fun d => v_X11_fault_x X (d + 7) hc r1, fun d => v_X12_fault_x X (d + 7) hm t1, RR.rd a ⟨s, hb, pb, hst, hd, hs, hg⟩ c e1 e g ⟨_, _, _, r2⟩ r3 t2⟩
theorem so_lay (X : mCx) {S : mSh} : SO X S M_X11_lay M_X12_lay [] := by
  intro I R q
  obtain ⟨f, dr, w, N, G, u, nx, v, kx, m, ps, vs, tx, n, a, ⟨s, hb, pb, hst, hd, hs, hg⟩, c, e1, e, g⟩ := id q
  obtain ⟨hc, ⟨hf, hfd⟩, hdr, hm, hw, hk⟩ := id a
  obtain ⟨⟨c1, c2, c3, c4, c5⟩, c6⟩ := id c
  have hG8 := hst.G8
  have hN6 := hst.N6
  obtain ⟨wd, Nd, Gd, hdd⟩ := id hdr
  have two := hc.two
  obtain ⟨I1, r1, r2, r3⟩ := v_firstFault X hc.rea hdd g.1 (show 2 + 1 < 4 ∨ 4 + 1 < 2 by omega) (by omega) (by omega)
  have g1 : MoT I1 tx n := g.2.fr (by rw [r3 97 (by decide) (by omega)]) (r3 102 (by decide) (by omega))
  obtain ⟨I2, t1, t2, t3⟩ := v_faultOf X (I := I1) hm g1
  have hO := wO.read tx n
  generalize hq : ffQ tx n 200 0 q0 = Q at *
  obtain ⟨x, w1, N1, G1⟩ := Q
  dsimp only at *
  by_cases hx : x = -4
  case neg => exact ⟨-2, I1, R, I2, fun d => v_X11_lay_f X (d + 7) hc r1 r2.1 (Or.inl hx), fun d => v_X12_lay_f X (d + 7) hm t1 hx, RR.rd a ⟨s, hb, pb, hst, hd, hs, hg⟩ c e1 e g ⟨_, _, _, r2⟩ r3 t2⟩
  subst hx
  obtain ⟨y1, y2, y3, y4, y5⟩ := t3 rfl
  dsimp only at *
  by_cases h0 : N1 = 0
  · subst h0
    exact ⟨-2, I1, R, I2, fun d => v_X11_lay_f X (d + 7) hc r1 r2.1 (Or.inr rfl), fun d => v_X12_lay_0 X (d + 7) hm t1 y1 y2, RR.rd a ⟨s, hb, pb, hst, hd, hs, hg⟩ c e1 e g ⟨_, _, _, r2⟩ r3 t2⟩
  have hk1 := hO.ok (by omega)
  obtain ⟨ok1, ok2⟩ := sBeg_ok hk1
  have hl : ∀ o, (o < 6 ∨ 10 < o) → o ≠ 16 → o ≠ 58 → o ≠ 70 → layI I1 dr w1 N1 G1 o = I1 o := fun o z1 z2 z3 z4 => layI_o z1 z2 z3 z4
  obtain ⟨I3, p1, p2, p3⟩ := v_faultOf X (S := S) (I := layI I1 dr w1 N1 G1) (R := swR R f dr) (tx := tx) (n := n) (hm.rq (swR_o (by decide))) (g1.fr (by rw [hl 97 (by decide) (by decide) (by decide) (by decide)]) (hl 102 (by decide) (by decide) (by decide) (by decide)))
  rw [hq] at p1 p3
  dsimp only at p1 p3
  obtain ⟨z1, z2, z3, z4, z5⟩ := p3 rfl
  dsimp only at z2 z3 z4 z5
  have hi : ∀ o, o ≠ 97 → o ≠ 98 → o ≠ 99 → o ≠ 103 → coI I3 w1 N1 G1 o = layI I1 dr w1 N1 G1 o := fun o x1 x2 x3 x4 => by
    unfold coI
    rw [sJ_o x1, sJ_o x1, sJ_o x1, dW_o x3, wW_o x2, p2.1 o x1 x2 x4]
  have hi2 : ∀ o, o ≠ 97 → o ≠ 98 → o ≠ 99 → o ≠ 103 → (o < 6 ∨ 10 < o) → o ≠ 16 → o ≠ 58 → o ≠ 70 → coI I3 w1 N1 G1 o = I1 o := fun o x1 x2 x3 x4 x5 x6 x7 x8 => by rw [hi o x1 x2 x3 x4, hl o x5 x6 x7 x8]
  have h7 : ∀ b, b ≠ 2 → b ≠ 3 → b ≠ 4 → b ≠ 9 → coI I3 w1 N1 G1 97 b = I 97 b := fun b x1 x2 x3 x4 => by
    unfold coI
    rw [sJ97 x3, sJ97 x2, sJ97 x1, dW_o (by decide), wW_o (by decide), p2.2.1 b x4, hl 97 (by decide) (by decide) (by decide) (by decide), r3 97 (by decide) (by omega)]
  refine ⟨nI N1, layI I1 dr w1 N1 G1, swR R f dr, coI I3 w1 N1 G1, fun d => v_X11_lay_t X (d + 7) hc r1 r2.1 (by omega), fun d => v_X12_lay_t X (d + 7) (hm.rq (swR_o (by decide))) p1 z1 z2 z3 z4 z5 (by omega), dr, f, w1, N1, G1, 0, nx, 0, kx, 0, ps, vs, tx, n, ⟨hc.sw, (r2.rq (swR_o (by omega))).fr (fun o x y => ?_), ⟨w, N, G, (FamD.rq ⟨hf, hfd⟩ (swR_o (by omega))).fr (fun o x y => ?_)⟩, hm.rq (swR_o (by decide)), ⟨fun k hk2 => ?_, z2, z3, z4, z5⟩, hk1⟩, ⟨sBeg w1 N1 G1, 2 ^ N1 - 1, 0, ((Std.beg (I := I1) r2.1 hc.now (by omega)).rq (swR_o (by decide))).fr (fun o x y => ?_), ⟨fun k hk2 => ?_, rfl, ?_, by decide⟩, ok1, ok2⟩, c.nil ?_ ?_ ?_ w1 N1 G1 _, e1.nil ?_ ?_ ?_ w1 N1 G1 _, ⟨?_, fun k hk2 => absurd hk2 (Nat.not_lt_zero _), ?_, by decide, fun k hk2 => absurd hk2 (Nat.not_lt_zero _)⟩, ⟨?_, ?_⟩⟩
  · exact hi2 o (by omega) (by omega) (by omega) (by omega) (by omega) (by omega) (by omega) (by omega)
  · rw [hi2 o (by omega) (by omega) (by omega) (by omega) (by omega) (by omega) (by omega) (by omega), r3 o (by omega) (by omega)]
  · unfold coI
    rw [sJ_o (by decide), sJ_o (by decide), sJ_o (by decide), dW_o (by decide), wW_q _ _ hk2]
  · rw [hi o (by omega) (by omega) (by omega) (by omega)]
    unfold layI
    rw [sJ_o (by omega), sJ_o (by omega), sJ_o (by omega)]
  · unfold coI
    rw [sJ_o (by decide), sJ_o (by decide), sJ_o (by decide), dW_q _ _ hk2]
  · exact p2_le (m := 8) (n := N1) (by omega) (Nat.sub_lt (Nat.two_pow_pos _) (by decide))
  · rw [hi 16 (by decide) (by decide) (by decide) (by decide)]
    unfold layI
    rw [sJ_o (by decide), sJ_o (by decide), sJ_ne (Or.inr (by decide)), bgH_fr (by decide), r3 16 (by decide) (by omega)]
  · rw [hi 16 (by decide) (by decide) (by decide) (by decide)]
    unfold layI
    rw [sJ_o (by decide), sJ_o (by decide), sJ_eq]
  · unfold coI
    rw [sJ97 (by decide), sJ97 (by decide), sJ_eq]
  · rw [hi 58 (by decide) (by decide) (by decide) (by decide)]
    unfold layI
    rw [sJ_o (by decide), sJ_ne (Or.inr (by decide)), sJ_o (by decide), bgH_fr (by decide), r3 58 (by decide) (by omega)]
  · rw [hi 58 (by decide) (by decide) (by decide) (by decide)]
    unfold layI
    rw [sJ_o (by decide), sJ_eq]
  · unfold coI
    rw [sJ97 (by decide), sJ_eq]
  · rw [hi 70 (by decide) (by decide) (by decide) (by decide)]
    unfold layI
    rw [sJ_eq]
  · unfold coI
    rw [sJ_eq]
  · have q2 := hi2 2 (by decide) (by decide) (by decide) (by decide) (by decide) (by decide) (by decide) (by decide)
    have q3 := hi2 3 (by decide) (by decide) (by decide) (by decide) (by decide) (by decide) (by decide) (by decide)
    exact ⟨g.1.1.rq (swR_o (by decide)), by rw [q2, r3 2 (by decide) (by omega)]; exact g.1.2.1, g.1.2.2.1, by rw [q3, r3 3 (by decide) (by omega)]; exact g.1.2.2.2⟩
  · exact g1.fr (by rw [h7 8 (by decide) (by decide) (by decide) (by decide), r3 97 (by decide) (by omega)]) (hi2 102 (by decide) (by decide) (by decide) (by decide) (by decide) (by decide) (by decide) (by decide))
