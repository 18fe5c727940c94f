/-! ===== the state in numbers: a family w (0 N, 1 G, 2 T, 3 kinds, 9 purses, 15 strengths, 21 sorts, 29 owners, 37 worths, 45 weights, 53 loves), a standing s (0 here, 1 coins, 7 paid, 13 paid last, 19 owners, 27 packed) ===== -/
theorem rB1 {b : Bool} (h : b = true) : some (Value.int (bI b)) = some (.int (nI 1)) := by subst h; rfl
theorem rB0 {b : Bool} (h : b = false) : some (Value.int (bI b)) = some (.int (nI 0)) := by subst h; rfl
theorem nI_dec {n : Nat} (h : 1 ≤ n) : nI n + Int32.ofInt (-1) = nI (n - 1) := by
  obtain ⟨k, rfl⟩ : ∃ k, n = k + 1 := ⟨n - 1, by omega⟩
  have := nI_pred k
  rw [Nat.add_sub_cancel, ← this]
  rw [Int32.sub_eq_add_neg]; rfl
def nAny (n : Nat) (q : Nat → Bool) : Bool := match n with
  | 0 => false
  | n + 1 => nAny n q || q n
theorem nAny_t {q : Nat → Bool} : ∀ {n j : Nat}, j < n → q j = true → nAny n q = true
  | n + 1, j, h, hq => by
    unfold nAny
    rcases Nat.lt_succ_iff_lt_or_eq.mp h with h | rfl
    · rw [nAny_t h hq]; rfl
    · rw [hq, Bool.or_true]
theorem nAny_s {q : Nat → Bool} {n : Nat} (h : nAny n q = false) (hq : q n = false) : nAny (n + 1) q = false := by
  unfold nAny; rw [h, hq]; rfl
theorem nAny_congr {q u : Nat → Bool} : ∀ {n : Nat}, (∀ j, j < n → q j = u j) → nAny n q = nAny n u
  | 0, _ => rfl
  | n + 1, h => by
    unfold nAny
    rw [nAny_congr (n := n) (fun j hj => h j (by omega)), h n (by omega)]
theorem shl1 {j : Nat} (h : j < 31) : nI 1 <<< (nI j &&& 31) = nI (2 ^ j) := by
  have : ∀ j, j < 31 → nI 1 <<< (nI j &&& 31) = nI (2 ^ j) := by decide +kernel
  exact this j h
theorem p2_lt {j : Nat} (h : j < 31) : 2 ^ j < 2 ^ 31 := Nat.pow_lt_pow_right (by decide) h
theorem bitv {b j : Nat} (hb : b < 256) (hj : j < 8) : (nI b >>> (nI j &&& 31)) &&& nI 1 = bI (b.testBit j) := by
  have : ∀ b, b < 256 → ∀ j, j < 8 → (nI b >>> (nI j &&& 31)) &&& nI 1 = bI (b.testBit j) := by decide +kernel
  exact this b hb j hj
theorem p2_le {n m b : Nat} (h : n ≤ m) (hb : b < 2 ^ n) : b < 2 ^ m := Nat.lt_of_lt_of_le hb (Nat.pow_le_pow_right (by decide) h)
section
variable {X : mCx} {M : mMe} {d pc : Nat} {L st : List Value} {S S' : mSh} {h h' : mHp} {r : Option Value}
theorem g_top {x y : Int32} (e : x = y) (K : JJ X M d pc L (.int y :: st) S h r S' h') : JJ X M d pc L (.int x :: st) S h r S' h' := by subst e; exact K
end
/-- what a good counts that is left: by sort and worth -/
def cntv (t x : Int32) : Int32 := if t = nI 1 then -x else if t = nI 2 then nI 3 * x else if t = nI 3 then x / nI 2 else x
def cnt (w : Nat → Int32) (g : Nat) : Int32 := cntv (w (21 + g)) (w (37 + g))
def Fam (S : mSh) (I : mI) (R : mR) (f : Nat) (w : Nat → Int32) (N G : Nat) : Prop := (mSg S f = some (0, 12)) ∧ (mSg S (f + 1) = some (20, 6)) ∧ (mSg S (f + 2) = some (20, 6)) ∧ (mSg S (f + 3) = some (20, 6)) ∧ (mSg S (f + 4) = some (20, 36)) ∧ (mSg S (f + 5) = some (20, 8)) ∧ (mSg S (f + 6) = some (20, 8)) ∧ (mSg S (f + 7) = some (20, 8)) ∧ (mSg S (f + 8) = some (20, 8)) ∧ (mSg S (f + 9) = some (20, 8)) ∧ (R f 3 = f + 1) ∧ (R f 4 = f + 2) ∧ (R f 5 = f + 3) ∧ (R f 6 = f + 4) ∧ (R f 7 = f + 5) ∧ (R f 8 = f + 6) ∧ (R f 9 = f + 7) ∧ (R f 10 = f + 8) ∧ (R f 11 = f + 9) ∧ (N ≤ 6) ∧ (G ≤ 8) ∧ (I f 0 = nI N) ∧ (I f 1 = nI G) ∧ (I f 2 = w 2) ∧ (∀ i, i < N → I (f + 1) i = w (3 + i)) ∧ (∀ i, i < N → I (f + 2) i = w (9 + i)) ∧ (∀ i, i < N → I (f + 3) i = w (15 + i)) ∧ (∀ i j, i < N → j < N → I (f + 4) (6 * i + j) = w (53 + (6 * i + j))) ∧ (∀ g, g < G → I (f + 5) g = w (21 + g)) ∧ (∀ g, g < G → I (f + 6) g = w (29 + g)) ∧ (∀ g, g < G → I (f + 7) g = w (37 + g)) ∧ (∀ g, g < G → I (f + 8) g = w (45 + g)) ∧ (∀ g, g < G → I (f + 9) g = cnt w g)
theorem Fam.sg {S : mSh} {I : mI} {R : mR} {f : Nat} {w : Nat → Int32} {N G : Nat} (q : Fam S I R f w N G) : mSg S f = some (0, 12) := q.1
theorem Fam.s3 {S : mSh} {I : mI} {R : mR} {f : Nat} {w : Nat → Int32} {N G : Nat} (q : Fam S I R f w N G) : mSg S (f + 1) = some (20, 6) := q.2.1
theorem Fam.s4 {S : mSh} {I : mI} {R : mR} {f : Nat} {w : Nat → Int32} {N G : Nat} (q : Fam S I R f w N G) : mSg S (f + 2) = some (20, 6) := q.2.2.1
theorem Fam.s5 {S : mSh} {I : mI} {R : mR} {f : Nat} {w : Nat → Int32} {N G : Nat} (q : Fam S I R f w N G) : mSg S (f + 3) = some (20, 6) := q.2.2.2.1
theorem Fam.s6 {S : mSh} {I : mI} {R : mR} {f : Nat} {w : Nat → Int32} {N G : Nat} (q : Fam S I R f w N G) : mSg S (f + 4) = some (20, 36) := q.2.2.2.2.1
theorem Fam.s7 {S : mSh} {I : mI} {R : mR} {f : Nat} {w : Nat → Int32} {N G : Nat} (q : Fam S I R f w N G) : mSg S (f + 5) = some (20, 8) := q.2.2.2.2.2.1
theorem Fam.s8 {S : mSh} {I : mI} {R : mR} {f : Nat} {w : Nat → Int32} {N G : Nat} (q : Fam S I R f w N G) : mSg S (f + 6) = some (20, 8) := q.2.2.2.2.2.2.1
theorem Fam.s9 {S : mSh} {I : mI} {R : mR} {f : Nat} {w : Nat → Int32} {N G : Nat} (q : Fam S I R f w N G) : mSg S (f + 7) = some (20, 8) := q.2.2.2.2.2.2.2.1
theorem Fam.s10 {S : mSh} {I : mI} {R : mR} {f : Nat} {w : Nat → Int32} {N G : Nat} (q : Fam S I R f w N G) : mSg S (f + 8) = some (20, 8) := q.2.2.2.2.2.2.2.2.1
theorem Fam.s11 {S : mSh} {I : mI} {R : mR} {f : Nat} {w : Nat → Int32} {N G : Nat} (q : Fam S I R f w N G) : mSg S (f + 9) = some (20, 8) := q.2.2.2.2.2.2.2.2.2.1
theorem Fam.r3 {S : mSh} {I : mI} {R : mR} {f : Nat} {w : Nat → Int32} {N G : Nat} (q : Fam S I R f w N G) : R f 3 = f + 1 := q.2.2.2.2.2.2.2.2.2.2.1
theorem Fam.r4 {S : mSh} {I : mI} {R : mR} {f : Nat} {w : Nat → Int32} {N G : Nat} (q : Fam S I R f w N G) : R f 4 = f + 2 := q.2.2.2.2.2.2.2.2.2.2.2.1
theorem Fam.r5 {S : mSh} {I : mI} {R : mR} {f : Nat} {w : Nat → Int32} {N G : Nat} (q : Fam S I R f w N G) : R f 5 = f + 3 := q.2.2.2.2.2.2.2.2.2.2.2.2.1
theorem Fam.r6 {S : mSh} {I : mI} {R : mR} {f : Nat} {w : Nat → Int32} {N G : Nat} (q : Fam S I R f w N G) : R f 6 = f + 4 := q.2.2.2.2.2.2.2.2.2.2.2.2.2.1
theorem Fam.r7 {S : mSh} {I : mI} {R : mR} {f : Nat} {w : Nat → Int32} {N G : Nat} (q : Fam S I R f w N G) : R f 7 = f + 5 := q.2.2.2.2.2.2.2.2.2.2.2.2.2.2.1
theorem Fam.r8 {S : mSh} {I : mI} {R : mR} {f : Nat} {w : Nat → Int32} {N G : Nat} (q : Fam S I R f w N G) : R f 8 = f + 6 := q.2.2.2.2.2.2.2.2.2.2.2.2.2.2.2.1
theorem Fam.r9 {S : mSh} {I : mI} {R : mR} {f : Nat} {w : Nat → Int32} {N G : Nat} (q : Fam S I R f w N G) : R f 9 = f + 7 := q.2.2.2.2.2.2.2.2.2.2.2.2.2.2.2.2.1
theorem Fam.r10 {S : mSh} {I : mI} {R : mR} {f : Nat} {w : Nat → Int32} {N G : Nat} (q : Fam S I R f w N G) : R f 10 = f + 8 := q.2.2.2.2.2.2.2.2.2.2.2.2.2.2.2.2.2.1
theorem Fam.r11 {S : mSh} {I : mI} {R : mR} {f : Nat} {w : Nat → Int32} {N G : Nat} (q : Fam S I R f w N G) : R f 11 = f + 9 := q.2.2.2.2.2.2.2.2.2.2.2.2.2.2.2.2.2.2.1
theorem Fam.N6 {S : mSh} {I : mI} {R : mR} {f : Nat} {w : Nat → Int32} {N G : Nat} (q : Fam S I R f w N G) : N ≤ 6 := q.2.2.2.2.2.2.2.2.2.2.2.2.2.2.2.2.2.2.2.1
theorem Fam.G8 {S : mSh} {I : mI} {R : mR} {f : Nat} {w : Nat → Int32} {N G : Nat} (q : Fam S I R f w N G) : G ≤ 8 := q.2.2.2.2.2.2.2.2.2.2.2.2.2.2.2.2.2.2.2.2.1
theorem Fam.hN {S : mSh} {I : mI} {R : mR} {f : Nat} {w : Nat → Int32} {N G : Nat} (q : Fam S I R f w N G) : I f 0 = nI N := q.2.2.2.2.2.2.2.2.2.2.2.2.2.2.2.2.2.2.2.2.2.1
theorem Fam.hG {S : mSh} {I : mI} {R : mR} {f : Nat} {w : Nat → Int32} {N G : Nat} (q : Fam S I R f w N G) : I f 1 = nI G := q.2.2.2.2.2.2.2.2.2.2.2.2.2.2.2.2.2.2.2.2.2.2.1
theorem Fam.hT {S : mSh} {I : mI} {R : mR} {f : Nat} {w : Nat → Int32} {N G : Nat} (q : Fam S I R f w N G) : I f 2 = w 2 := q.2.2.2.2.2.2.2.2.2.2.2.2.2.2.2.2.2.2.2.2.2.2.2.1
theorem Fam.kind {S : mSh} {I : mI} {R : mR} {f : Nat} {w : Nat → Int32} {N G : Nat} (q : Fam S I R f w N G) : ∀ i, i < N → I (f + 1) i = w (3 + i) := q.2.2.2.2.2.2.2.2.2.2.2.2.2.2.2.2.2.2.2.2.2.2.2.2.1
theorem Fam.purse {S : mSh} {I : mI} {R : mR} {f : Nat} {w : Nat → Int32} {N G : Nat} (q : Fam S I R f w N G) : ∀ i, i < N → I (f + 2) i = w (9 + i) := q.2.2.2.2.2.2.2.2.2.2.2.2.2.2.2.2.2.2.2.2.2.2.2.2.2.1
theorem Fam.strength {S : mSh} {I : mI} {R : mR} {f : Nat} {w : Nat → Int32} {N G : Nat} (q : Fam S I R f w N G) : ∀ i, i < N → I (f + 3) i = w (15 + i) := q.2.2.2.2.2.2.2.2.2.2.2.2.2.2.2.2.2.2.2.2.2.2.2.2.2.2.1
theorem Fam.love {S : mSh} {I : mI} {R : mR} {f : Nat} {w : Nat → Int32} {N G : Nat} (q : Fam S I R f w N G) : ∀ i j, i < N → j < N → I (f + 4) (6 * i + j) = w (53 + (6 * i + j)) := q.2.2.2.2.2.2.2.2.2.2.2.2.2.2.2.2.2.2.2.2.2.2.2.2.2.2.2.1
theorem Fam.sort {S : mSh} {I : mI} {R : mR} {f : Nat} {w : Nat → Int32} {N G : Nat} (q : Fam S I R f w N G) : ∀ g, g < G → I (f + 5) g = w (21 + g) := q.2.2.2.2.2.2.2.2.2.2.2.2.2.2.2.2.2.2.2.2.2.2.2.2.2.2.2.2.1
theorem Fam.own {S : mSh} {I : mI} {R : mR} {f : Nat} {w : Nat → Int32} {N G : Nat} (q : Fam S I R f w N G) : ∀ g, g < G → I (f + 6) g = w (29 + g) := q.2.2.2.2.2.2.2.2.2.2.2.2.2.2.2.2.2.2.2.2.2.2.2.2.2.2.2.2.2.1
theorem Fam.worth {S : mSh} {I : mI} {R : mR} {f : Nat} {w : Nat → Int32} {N G : Nat} (q : Fam S I R f w N G) : ∀ g, g < G → I (f + 7) g = w (37 + g) := q.2.2.2.2.2.2.2.2.2.2.2.2.2.2.2.2.2.2.2.2.2.2.2.2.2.2.2.2.2.2.1
theorem Fam.heavy {S : mSh} {I : mI} {R : mR} {f : Nat} {w : Nat → Int32} {N G : Nat} (q : Fam S I R f w N G) : ∀ g, g < G → I (f + 8) g = w (45 + g) := q.2.2.2.2.2.2.2.2.2.2.2.2.2.2.2.2.2.2.2.2.2.2.2.2.2.2.2.2.2.2.2.1
theorem Fam.cnt {S : mSh} {I : mI} {R : mR} {f : Nat} {w : Nat → Int32} {N G : Nat} (q : Fam S I R f w N G) : ∀ g, g < G → I (f + 9) g = cnt w g := q.2.2.2.2.2.2.2.2.2.2.2.2.2.2.2.2.2.2.2.2.2.2.2.2.2.2.2.2.2.2.2.2
theorem Fam.fr {S : mSh} {I I1 : mI} {R : mR} {f : Nat} {w : Nat → Int32} {N G : Nat} (q : Fam S I R f w N G) (hi : ∀ o, f ≤ o → o ≤ f + 9 → I1 o = I o) : Fam S I1 R f w N G := by
  unfold Fam at q ⊢
  rw [hi f (by omega) (by omega), hi (f + 1) (by omega) (by omega), hi (f + 2) (by omega) (by omega), hi (f + 3) (by omega) (by omega), hi (f + 4) (by omega) (by omega), hi (f + 5) (by omega) (by omega), hi (f + 6) (by omega) (by omega), hi (f + 7) (by omega) (by omega), hi (f + 8) (by omega) (by omega), hi (f + 9) (by omega) (by omega)]
  exact q
def Sto (S : mSh) (R : mR) (a : Nat) : Prop := (mSg S a = some (5, 7)) ∧ (mSg S (a + 1) = some (20, 8)) ∧ (mSg S (a + 2) = some (20, 6)) ∧ (mSg S (a + 3) = some (20, 6)) ∧ (mSg S (a + 4) = some (20, 6)) ∧ (R a 2 = a + 1) ∧ (R a 3 = a + 2) ∧ (R a 4 = a + 3) ∧ (R a 5 = a + 4)
theorem Sto.sg {S : mSh} {R : mR} {a : Nat} (q : Sto S R a) : mSg S a = some (5, 7) := q.1
theorem Sto.s2 {S : mSh} {R : mR} {a : Nat} (q : Sto S R a) : mSg S (a + 1) = some (20, 8) := q.2.1
theorem Sto.s3 {S : mSh} {R : mR} {a : Nat} (q : Sto S R a) : mSg S (a + 2) = some (20, 6) := q.2.2.1
theorem Sto.s4 {S : mSh} {R : mR} {a : Nat} (q : Sto S R a) : mSg S (a + 3) = some (20, 6) := q.2.2.2.1
theorem Sto.s5 {S : mSh} {R : mR} {a : Nat} (q : Sto S R a) : mSg S (a + 4) = some (20, 6) := q.2.2.2.2.1
theorem Sto.r2 {S : mSh} {R : mR} {a : Nat} (q : Sto S R a) : R a 2 = a + 1 := q.2.2.2.2.2.1
theorem Sto.r3 {S : mSh} {R : mR} {a : Nat} (q : Sto S R a) : R a 3 = a + 2 := q.2.2.2.2.2.2.1
theorem Sto.r4 {S : mSh} {R : mR} {a : Nat} (q : Sto S R a) : R a 4 = a + 3 := q.2.2.2.2.2.2.2.1
theorem Sto.r5 {S : mSh} {R : mR} {a : Nat} (q : Sto S R a) : R a 5 = a + 4 := q.2.2.2.2.2.2.2.2
def Std (S : mSh) (I : mI) (R : mR) (a : Nat) (s : Nat → Int32) (N G hb pb : Nat) : Prop := (Sto S R a) ∧ (N ≤ 6) ∧ (G ≤ 8) ∧ (I a 6 = nI G) ∧ (hb < 2 ^ N) ∧ (I a 0 = nI hb) ∧ (s 0 = nI hb) ∧ (pb < 2 ^ G) ∧ (I a 1 = nI pb) ∧ (∀ g, g < G → s (27 + g) = bI (pb.testBit g)) ∧ (∀ g, g < G → I (a + 1) g = s (19 + g)) ∧ (∀ i, i < N → I (a + 2) i = s (1 + i)) ∧ (∀ i, i < N → I (a + 3) i = s (7 + i)) ∧ (∀ i, i < N → I (a + 4) i = s (13 + i))
theorem Std.o {S : mSh} {I : mI} {R : mR} {a : Nat} {s : Nat → Int32} {N G hb pb : Nat} (q : Std S I R a s N G hb pb) : Sto S R a := q.1
theorem Std.N6 {S : mSh} {I : mI} {R : mR} {a : Nat} {s : Nat → Int32} {N G hb pb : Nat} (q : Std S I R a s N G hb pb) : N ≤ 6 := q.2.1
theorem Std.G8 {S : mSh} {I : mI} {R : mR} {a : Nat} {s : Nat → Int32} {N G hb pb : Nat} (q : Std S I R a s N G hb pb) : G ≤ 8 := q.2.2.1
theorem Std.hG {S : mSh} {I : mI} {R : mR} {a : Nat} {s : Nat → Int32} {N G hb pb : Nat} (q : Std S I R a s N G hb pb) : I a 6 = nI G := q.2.2.2.1
theorem Std.hb2 {S : mSh} {I : mI} {R : mR} {a : Nat} {s : Nat → Int32} {N G hb pb : Nat} (q : Std S I R a s N G hb pb) : hb < 2 ^ N := q.2.2.2.2.1
theorem Std.here {S : mSh} {I : mI} {R : mR} {a : Nat} {s : Nat → Int32} {N G hb pb : Nat} (q : Std S I R a s N G hb pb) : I a 0 = nI hb := q.2.2.2.2.2.1
theorem Std.here0 {S : mSh} {I : mI} {R : mR} {a : Nat} {s : Nat → Int32} {N G hb pb : Nat} (q : Std S I R a s N G hb pb) : s 0 = nI hb := q.2.2.2.2.2.2.1
theorem Std.pb2 {S : mSh} {I : mI} {R : mR} {a : Nat} {s : Nat → Int32} {N G hb pb : Nat} (q : Std S I R a s N G hb pb) : pb < 2 ^ G := q.2.2.2.2.2.2.2.1
theorem Std.packed {S : mSh} {I : mI} {R : mR} {a : Nat} {s : Nat → Int32} {N G hb pb : Nat} (q : Std S I R a s N G hb pb) : I a 1 = nI pb := q.2.2.2.2.2.2.2.2.1
theorem Std.pk {S : mSh} {I : mI} {R : mR} {a : Nat} {s : Nat → Int32} {N G hb pb : Nat} (q : Std S I R a s N G hb pb) : ∀ g, g < G → s (27 + g) = bI (pb.testBit g) := q.2.2.2.2.2.2.2.2.2.1
theorem Std.own {S : mSh} {I : mI} {R : mR} {a : Nat} {s : Nat → Int32} {N G hb pb : Nat} (q : Std S I R a s N G hb pb) : ∀ g, g < G → I (a + 1) g = s (19 + g) := q.2.2.2.2.2.2.2.2.2.2.1
theorem Std.coins {S : mSh} {I : mI} {R : mR} {a : Nat} {s : Nat → Int32} {N G hb pb : Nat} (q : Std S I R a s N G hb pb) : ∀ i, i < N → I (a + 2) i = s (1 + i) := q.2.2.2.2.2.2.2.2.2.2.2.1
theorem Std.paid {S : mSh} {I : mI} {R : mR} {a : Nat} {s : Nat → Int32} {N G hb pb : Nat} (q : Std S I R a s N G hb pb) : ∀ i, i < N → I (a + 3) i = s (7 + i) := q.2.2.2.2.2.2.2.2.2.2.2.2.1
theorem Std.last {S : mSh} {I : mI} {R : mR} {a : Nat} {s : Nat → Int32} {N G hb pb : Nat} (q : Std S I R a s N G hb pb) : ∀ i, i < N → I (a + 4) i = s (13 + i) := q.2.2.2.2.2.2.2.2.2.2.2.2.2
theorem Std.sg {S : mSh} {I : mI} {R : mR} {a : Nat} {s : Nat → Int32} {N G hb pb : Nat} (q : Std S I R a s N G hb pb) : mSg S a = some (5, 7) := q.1.sg
theorem Std.s2 {S : mSh} {I : mI} {R : mR} {a : Nat} {s : Nat → Int32} {N G hb pb : Nat} (q : Std S I R a s N G hb pb) : mSg S (a + 1) = some (20, 8) := q.1.s2
theorem Std.s3 {S : mSh} {I : mI} {R : mR} {a : Nat} {s : Nat → Int32} {N G hb pb : Nat} (q : Std S I R a s N G hb pb) : mSg S (a + 2) = some (20, 6) := q.1.s3
theorem Std.s4 {S : mSh} {I : mI} {R : mR} {a : Nat} {s : Nat → Int32} {N G hb pb : Nat} (q : Std S I R a s N G hb pb) : mSg S (a + 3) = some (20, 6) := q.1.s4
theorem Std.s5 {S : mSh} {I : mI} {R : mR} {a : Nat} {s : Nat → Int32} {N G hb pb : Nat} (q : Std S I R a s N G hb pb) : mSg S (a + 4) = some (20, 6) := q.1.s5
theorem Std.r2 {S : mSh} {I : mI} {R : mR} {a : Nat} {s : Nat → Int32} {N G hb pb : Nat} (q : Std S I R a s N G hb pb) : R a 2 = a + 1 := q.1.r2
theorem Std.r3 {S : mSh} {I : mI} {R : mR} {a : Nat} {s : Nat → Int32} {N G hb pb : Nat} (q : Std S I R a s N G hb pb) : R a 3 = a + 2 := q.1.r3
theorem Std.r4 {S : mSh} {I : mI} {R : mR} {a : Nat} {s : Nat → Int32} {N G hb pb : Nat} (q : Std S I R a s N G hb pb) : R a 4 = a + 3 := q.1.r4
theorem Std.r5 {S : mSh} {I : mI} {R : mR} {a : Nat} {s : Nat → Int32} {N G hb pb : Nat} (q : Std S I R a s N G hb pb) : R a 5 = a + 4 := q.1.r5
theorem Std.fr {S : mSh} {I I1 : mI} {R : mR} {a : Nat} {s : Nat → Int32} {N G hb pb : Nat} (q : Std S I R a s N G hb pb) (hi : ∀ o, a ≤ o → o ≤ a + 4 → I1 o = I o) : Std S I1 R a s N G hb pb := by
  unfold Std at q ⊢
  rw [hi a (by omega) (by omega), hi (a + 1) (by omega) (by omega), hi (a + 2) (by omega) (by omega), hi (a + 3) (by omega) (by omega), hi (a + 4) (by omega) (by omega)]
  exact q
theorem Std.h256 {S : mSh} {I : mI} {R : mR} {a : Nat} {s : Nat → Int32} {N G hb pb : Nat} (q : Std S I R a s N G hb pb) : hb < 256 := p2_le (m := 8) (by have := q.N6; omega) q.hb2
theorem Std.p256 {S : mSh} {I : mI} {R : mR} {a : Nat} {s : Nat → Int32} {N G hb pb : Nat} (q : Std S I R a s N G hb pb) : pb < 256 := p2_le (m := 8) q.G8 q.pb2
