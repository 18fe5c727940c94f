/-! ===== the class: packing, orders ===== -/
def dif (b c : Nat) : Nat := b &&& (255 ^^^ c)
theorem dif_eq {b c : Nat} (hb : b < 256) (hc : c < 256) : nI b &&& (nI c ^^^ (-1)) = nI (dif b c) := by
  have : ∀ b, b < 256 → ∀ c, c < 256 → nI b &&& (nI c ^^^ (-1)) = nI (dif b c) := by decide +kernel
  exact this b hb c hc
theorem and_m1 (x : Int32) : x &&& (-1) = x := by
  apply Int32.toBitVec_inj.mp
  simp
theorem dif_le (b c : Nat) : dif b c ≤ b := Nat.and_le_left
theorem dif_bit {b c k : Nat} (hk : k < 8) : (dif b c).testBit k = (b.testBit k && !c.testBit k) := by
  unfold dif
  rw [Nat.testBit_and, Nat.testBit_xor, show (255 : Nat) = 2 ^ 8 - 1 from rfl, Nat.testBit_two_pow_sub_one]
  simp [hk]
def wthB (w : Nat → Int32) (G b : Nat) : Int32 := nSum G (fun g => if b.testBit g = true then cnt w g else 0)
def lodB (w : Nat → Int32) (G b : Nat) : Int32 := nSum G (fun g => if b.testBit g = true then w (45 + g) else 0)
theorem ownB_lt (s : Nat → Int32) (x : Int32) : ∀ G, ownB s G x < 2 ^ G
  | 0 => by simp [ownB, nFold]
  | G + 1 => by
    have ih := ownB_lt s x G
    have h2 : 2 ^ G < 2 ^ (G + 1) := Nat.pow_lt_pow_right (by decide) (by omega)
    show (if s (19 + G) = x then ownB s G x ||| 2 ^ G else ownB s G x) < _
    split
    · exact or_lt (Nat.lt_trans ih h2) (by omega)
    · exact Nat.lt_trans ih h2
theorem ownB_256 (s : Nat → Int32) (x : Int32) {G : Nat} (h : G ≤ 8) : ownB s G x < 256 := p2_le (m := 8) h (ownB_lt s x G)
/-- what one owes with just these goods packed -/
def owP (w s : Nat → Int32) (N G hb i b : Nat) : Int32 := duty w i (wthB w G (dif (ownB s G (nI i)) b) + lLeft w N i hb)
/-- his goods but graves -/
def mineB (w s : Nat → Int32) (n G i : Nat) : Nat := nFold n (fun g m => if w (21 + g) = nI 2 then clr m g else m) (ownB s G (nI i))
theorem mineB_lt (w s : Nat → Int32) {G i : Nat} (h : G ≤ 8) : ∀ n, mineB w s n G i < 256
  | 0 => ownB_256 s _ h
  | n + 1 => by
    have ih := mineB_lt w s (i := i) h n
    show (if w (21 + n) = nI 2 then clr (mineB w s n G i) n else mineB w s n G i) < 256
    split
    · exact Nat.lt_of_le_of_lt (clr_le _ _) ih
    · exact ih
def blS (w s : Nat → Int32) (N G hb i b : Nat) (q : Nat × Int32) : Nat × Int32 := if dif b (mineB w s G G i) = 0 ∧ ¬ w (15 + i) < lodB w G b then (if q.2 ≤ owP w s N G hb i b then q.1 else b, if q.2 < owP w s N G hb i b then q.2 else owP w s N G hb i b) else q
def blF (w s : Nat → Int32) (N G hb i n : Nat) : Nat × Int32 := nFold n (fun k q => blS w s N G hb i (k + 1) q) (0, owP w s N G hb i 0)
theorem blF_lt (w s : Nat → Int32) (N G hb i : Nat) : ∀ n, n ≤ 255 → (blF w s N G hb i n).1 < 256
  | 0, _ => by show (0 : Nat) < 256; decide
  | n + 1, h => by
    have ih := blF_lt w s N G hb i n (by omega)
    show (blS w s N G hb i (n + 1) (blF w s N G hb i n)).1 < 256
    unfold blS
    split
    · show (if _ then _ else _) < 256
      split
      · exact ih
      · show n + 1 < 256; omega
    · exact ih
theorem blF_s (w s : Nat → Int32) (N G hb i n : Nat) : blF w s N G hb i (n + 1) = blS w s N G hb i (n + 1) (blF w s N G hb i n) := rfl
section
variable {X : mCx} {M : mMe} {d pc : Nat} {L st : List Value} {S S' : mSh} {h h' : mHp} {r : Option Value}
/-- what stands in a local may be forgotten -/
theorem JJ.wk_at (k : Nat) (K : JJ X M d pc (L.set k (.retAddr 0)) st S h r S' h') : JJ X M d pc L st S h r S' h' := by
  intro hpre p e s m args below meth c R S0 Q F ret H locs cells slots ls hA hL
  refine K hpre p e s m args below meth c R S0 Q F ret H locs cells slots ls hA ?_
  obtain ⟨h1, h2, h3, h4⟩ := hL
  refine ⟨by rw [List.length_set]; exact h1, h2, h3, fun i v hv hj => ?_⟩
  rw [List.getElem?_set] at hv
  split at hv
  · split at hv
    · cases hv; simp [mJunk] at hj
    · cases hv
  · exact h4 i v hv hj
end
