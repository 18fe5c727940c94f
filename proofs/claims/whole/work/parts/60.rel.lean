/-! ===== class and reference alike ===== -/
/-- the standing of the class at cell a and the one of the reference at place h are alike -/
def PR (S : mSh) (I : mI) (R : mR) (w : Nat → Int32) (N G a h : Nat) : Prop := ∃ s hb pb, Std S I R a s N G hb pb ∧ MoD I h s hb ∧ sOk s N G ∧ gOk w s G
theorem Std.rq {S : mSh} {I : mI} {R R1 : mR} {a : Nat} {s : Nat → Int32} {N G hb pb : Nat} (q : Std S I R a s N G hb pb) (h : R1 a = R a) : Std S I R1 a s N G hb pb := ⟨q.1.rq h, q.2⟩
theorem MoD.fk {I I1 : mI} {h hb : Nat} {s : Nat → Int32} (q : MoD I h s hb) (e : ∀ k, h ≤ k → k < h + 35 → I1 99 k = I 99 k) : MoD I1 h s hb := ⟨fun k hk => by rw [e _ (by omega) (by omega)]; exact q.1 k hk, q.2⟩
theorem PR.fr {S : mSh} {I I1 : mI} {R : mR} {w : Nat → Int32} {N G a h : Nat} (q : PR S I R w N G a h) (hc : ∀ o, a ≤ o → o ≤ a + 4 → I1 o = I o) (hm : ∀ k, h ≤ k → k < h + 35 → I1 99 k = I 99 k) : PR S I1 R w N G a h := by
  obtain ⟨s, hb, pb, h1, h2, h3⟩ := q
  exact ⟨s, hb, pb, h1.fr hc, h2.fk hm, h3⟩
theorem PR.rq {S : mSh} {I : mI} {R R1 : mR} {w : Nat → Int32} {N G a h : Nat} (q : PR S I R w N G a h) (e : R1 a = R a) : PR S I R1 w N G a h := by
  obtain ⟨s, hb, pb, h1, h2, h3⟩ := q
  exact ⟨s, hb, pb, h1.rq e, h2, h3⟩
/-- the family -/
def gA (S : mSh) (I : mI) (R : mR) (f dr : Nat) (w : Nat → Int32) (N G : Nat) : Prop := Cla S R f dr ∧ FamD S I R f w N G ∧ (∃ wd Nd Gd, FamD S I R dr wd Nd Gd) ∧ Mod S R ∧ MoW I w N G ∧ wOk w N G
/-- what can be undone -/
def gC (S : mSh) (I : mI) (R : mR) (w : Nat → Int32) (N G u nx : Nat) : Prop := (I 16 1 = nI nx ∧ nx < 8 ∧ I 16 2 = nI u ∧ u ≤ 8 ∧ I 97 2 = nI u) ∧ ∀ k, k < u → PR S I R w N G (18 + 5 * ((nx + 7 - k) % 8)) (105 + 35 * (u - 1 - k))
/-- what is kept -/
def gD (S : mSh) (I : mI) (R : mR) (w : Nat → Int32) (N G v kx : Nat) : Prop := (I 58 1 = nI kx ∧ kx < 2 ∧ I 58 2 = nI v ∧ v ≤ 2 ∧ I 97 3 = nI v) ∧ ∀ k, k < v → PR S I R w N G (60 + 5 * ((kx + 1 - k) % 2)) (35 + 35 * (v - 1 - k))
/-- what is sworn -/
def gE (I : mI) (N m : Nat) (ps : Nat → Nat) (vs : Nat → Int32) : Prop := I 70 2 = nI m ∧ (∀ k, k < m → I 71 k = nI (ps k) ∧ ps k < N ∧ I 72 k = vs k) ∧ MoS I m ps vs N
/-- the text -/
def gF (S : mSh) (I : mI) (R : mR) (tx : Nat → Nat) (n : Nat) : Prop := TxP S I R 2 tx n ∧ MoT I tx n
def RR (S : mSh) (I : mI) (R : mR) : Prop := ∃ f dr w N G u nx v kx m ps vs tx n, gA S I R f dr w N G ∧ PR S I R w N G 6 0 ∧ gC S I R w N G u nx ∧ gD S I R w N G v kx ∧ gE I N m ps vs ∧ gF S I R tx n
theorem MoW.fk {I I1 : mI} {w : Nat → Int32} {N G : Nat} (q : MoW I w N G) (h : ∀ k, k < 89 → I1 98 k = I 98 k) : MoW I1 w N G := ⟨fun k hk => by rw [h k hk]; exact q.1 k hk, q.2⟩
theorem MoS.fr {I I1 : mI} {m N : Nat} {ps : Nat → Nat} {vs : Nat → Int32} (q : MoS I m ps vs N) (h4 : I1 97 4 = I 97 4) (h0 : I1 100 = I 100) (h1 : I1 101 = I 101) : MoS I1 m ps vs N := by
  unfold MoS at q ⊢
  rw [h4, h0, h1]
  exact q
section
variable {S : mSh} {I I1 : mI} {R : mR} {w : Nat → Int32} {N G : Nat}
theorem gA.fr {f dr : Nat} (q : gA S I R f dr w N G) (hc : ∀ o, 77 ≤ o → o ≤ 96 → I1 o = I o) (hm : ∀ k, k < 89 → I1 98 k = I 98 k) : gA S I1 R f dr w N G := by
  obtain ⟨h1, h2, ⟨wd, Nd, Gd, h3⟩, h4, h5, h6⟩ := q
  have two := h1.two
  exact ⟨h1, h2.fr (fun o a b => hc o (by omega) (by omega)), ⟨wd, Nd, Gd, h3.fr (fun o a b => hc o (by omega) (by omega))⟩, h4, h5.fk hm, h6⟩
theorem gC.fr {u nx : Nat} (q : gC S I R w N G u nx) (hc : ∀ o, 16 ≤ o → o ≤ 57 → I1 o = I o) (h2 : I1 97 2 = I 97 2) (hm : ∀ k, 105 ≤ k → k < 385 → I1 99 k = I 99 k) : gC S I1 R w N G u nx := by
  obtain ⟨h1, h3⟩ := q
  refine ⟨by rw [hc 16 (by omega) (by omega), h2]; exact h1, fun k hk => ?_⟩
  have := h1.2.2.2.1
  exact (h3 k hk).fr (fun o a b => hc o (by omega) (by omega)) (fun j a b => hm j (by omega) (by omega))
theorem gD.fr {v kx : Nat} (q : gD S I R w N G v kx) (hc : ∀ o, 58 ≤ o → o ≤ 69 → I1 o = I o) (h2 : I1 97 3 = I 97 3) (hm : ∀ k, 35 ≤ k → k < 105 → I1 99 k = I 99 k) : gD S I1 R w N G v kx := by
  obtain ⟨h1, h3⟩ := q
  refine ⟨by rw [hc 58 (by omega) (by omega), h2]; exact h1, fun k hk => ?_⟩
  have := h1.2.2.2.1
  exact (h3 k hk).fr (fun o a b => hc o (by omega) (by omega)) (fun j a b => hm j (by omega) (by omega))
theorem gE.fr {m : Nat} {ps : Nat → Nat} {vs : Nat → Int32} (q : gE I N m ps vs) (hc : ∀ o, 70 ≤ o → o ≤ 72 → I1 o = I o) (h4 : I1 97 4 = I 97 4) (h0 : I1 100 = I 100) (h1 : I1 101 = I 101) : gE I1 N m ps vs := by
  obtain ⟨a1, a2, a3⟩ := q
  refine ⟨by rw [hc 70 (by omega) (by omega)]; exact a1, by rw [hc 71 (by omega) (by omega), hc 72 (by omega) (by omega)]; exact a2, a3.fr h4 h0 h1⟩
theorem gF.fr {tx : Nat → Nat} {n : Nat} (q : gF S I R tx n) (h2 : I1 2 = I 2) (h3 : I1 3 = I 3) (h8 : I1 97 8 = I 97 8) (ht : I1 102 = I 102) : gF S I1 R tx n := ⟨q.1.fr h2 h3, q.2.fr h8 ht⟩
/-- what is only thought of changes nothing that lasts -/
theorem RR.scr (q : RR S I R) (hc : ∀ o, o ≤ 3 ∨ (6 ≤ o ∧ o ≤ 10) ∨ (16 ≤ o ∧ o ≤ 72) ∨ (77 ≤ o ∧ o ≤ 96) → I1 o = I o) (h97 : ∀ b, b ≤ 8 → I1 97 b = I 97 b) (h98 : ∀ k, k < 89 → I1 98 k = I 98 k) (h99 : ∀ k, k < 385 → I1 99 k = I 99 k) (h0 : I1 100 = I 100) (h1 : I1 101 = I 101) (h2 : I1 102 = I 102) : RR S I1 R := by
  obtain ⟨f, dr, w, N, G, u, nx, v, kx, m, ps, vs, tx, n, a, b, c, d, e, g⟩ := q
  exact ⟨f, dr, w, N, G, u, nx, v, kx, m, ps, vs, tx, n, a.fr (fun o x y => hc o (by omega)) h98, b.fr (fun o x y => hc o (by omega)) (fun k x y => h99 k (by omega)), c.fr (fun o x y => hc o (by omega)) (h97 2 (by decide)) (fun k x y => h99 k (by omega)), d.fr (fun o x y => hc o (by omega)) (h97 3 (by decide)) (fun k x y => h99 k (by omega)), e.fr (fun o x y => hc o (by omega)) (h97 4 (by decide)) h0 h1, g.fr (hc 2 (by omega)) (hc 3 (by omega)) (h97 8 (by decide)) h2⟩
end
/-- both answer alike, and stay alike -/
def SO (X : mCx) (S : mSh) (mc mr : mMe) (as : List Value) : Prop := ∀ I R, RR S I R → ∃ v I1 R1 I2, (∀ d, CC X (d + 12) mc (.ref 1 :: as) S (I, R) (some (.int v)) S (I1, R1)) ∧ (∀ d, CC X (d + 12) mr (.ref 97 :: as) S (I1, R1) (some (.int v)) S (I2, R1)) ∧ RR S I2 R1
/-- for those that only look -/
theorem SO.pure {X : mCx} {S : mSh} {mc mr : mMe} {as : List Value} (h : ∀ I R f dr w N G s hb pb u v m ps vs tx n, Cla S R f dr → Fam S I R f w N G → Mod S R → MoW I w N G → wOk w N G → Std S I R 6 s N G hb pb → MoD I 0 s hb → sOk s N G → (I 16 2 = nI u ∧ I 97 2 = nI u) → (I 58 2 = nI v ∧ I 97 3 = nI v) → gE I N m ps vs → (I 2 1 = nI n ∧ MoT I tx n) → ∃ v, (∀ d, CC X (d + 12) mc (.ref 1 :: as) S (I, R) (some (.int v)) S (I, R)) ∧ (∀ d, CC X (d + 12) mr (.ref 97 :: as) S (I, R) (some (.int v)) S (I, R))) : SO X S mc mr as := by
  intro I R q
  obtain ⟨f, dr, w, N, G, u, nx, v, kx, m, ps, vs, tx, n, ⟨a1, a2, a3, a4, a5, a6⟩, ⟨s, hb, pb, b1, b2, b3, b4⟩, c, d, e, g⟩ := id q
  obtain ⟨x, p1, p2⟩ := h I R f dr w N G s hb pb u v m ps vs tx n a1 a2.1 a4 a5 a6 b1 b2 b3 ⟨c.1.2.2.1, c.1.2.2.2.2⟩ ⟨d.1.2.2.1, d.1.2.2.2.2⟩ e ⟨g.1.2.1, g.2⟩
  exact ⟨x, I, R, I, p1, p2, q⟩
