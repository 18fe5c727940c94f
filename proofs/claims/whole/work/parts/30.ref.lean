/-! ===== the reference: its state, its small methods ===== -/
def Mod (S : mSh) (R : mR) : Prop := (mSg S 97 = some (8, 17)) ∧ (mSg S 98 = some (20, 178)) ∧ (mSg S 99 = some (20, 420)) ∧ (mSg S 100 = some (20, 6)) ∧ (mSg S 101 = some (20, 6)) ∧ (mSg S 102 = some (20, 200)) ∧ (mSg S 103 = some (20, 4)) ∧ (mSg S 104 = some (20, 64)) ∧ (mSg S 105 = some (20, 64)) ∧ (mSg S 106 = some (20, 5)) ∧ (mSg S 107 = some (20, 5)) ∧ (mSg S 108 = some (20, 5)) ∧ (R 97 0 = 98) ∧ (R 97 1 = 99) ∧ (R 97 5 = 100) ∧ (R 97 6 = 101) ∧ (R 97 7 = 102) ∧ (R 97 10 = 103) ∧ (R 97 11 = 104) ∧ (R 97 12 = 105) ∧ (R 97 13 = 106) ∧ (R 97 14 = 107) ∧ (R 97 15 = 108)
theorem Mod.sg {S : mSh} {R : mR} (q : Mod S R) : mSg S 97 = some (8, 17) := q.1
theorem Mod.s98 {S : mSh} {R : mR} (q : Mod S R) : mSg S 98 = some (20, 178) := q.2.1
theorem Mod.s99 {S : mSh} {R : mR} (q : Mod S R) : mSg S 99 = some (20, 420) := q.2.2.1
theorem Mod.s100 {S : mSh} {R : mR} (q : Mod S R) : mSg S 100 = some (20, 6) := q.2.2.2.1
theorem Mod.s101 {S : mSh} {R : mR} (q : Mod S R) : mSg S 101 = some (20, 6) := q.2.2.2.2.1
theorem Mod.s102 {S : mSh} {R : mR} (q : Mod S R) : mSg S 102 = some (20, 200) := q.2.2.2.2.2.1
theorem Mod.s103 {S : mSh} {R : mR} (q : Mod S R) : mSg S 103 = some (20, 4) := q.2.2.2.2.2.2.1
theorem Mod.s104 {S : mSh} {R : mR} (q : Mod S R) : mSg S 104 = some (20, 64) := q.2.2.2.2.2.2.2.1
theorem Mod.s105 {S : mSh} {R : mR} (q : Mod S R) : mSg S 105 = some (20, 64) := q.2.2.2.2.2.2.2.2.1
theorem Mod.s106 {S : mSh} {R : mR} (q : Mod S R) : mSg S 106 = some (20, 5) := q.2.2.2.2.2.2.2.2.2.1
theorem Mod.s107 {S : mSh} {R : mR} (q : Mod S R) : mSg S 107 = some (20, 5) := q.2.2.2.2.2.2.2.2.2.2.1
theorem Mod.s108 {S : mSh} {R : mR} (q : Mod S R) : mSg S 108 = some (20, 5) := q.2.2.2.2.2.2.2.2.2.2.2.1
theorem Mod.r98 {S : mSh} {R : mR} (q : Mod S R) : R 97 0 = 98 := q.2.2.2.2.2.2.2.2.2.2.2.2.1
theorem Mod.r99 {S : mSh} {R : mR} (q : Mod S R) : R 97 1 = 99 := q.2.2.2.2.2.2.2.2.2.2.2.2.2.1
theorem Mod.r100 {S : mSh} {R : mR} (q : Mod S R) : R 97 5 = 100 := q.2.2.2.2.2.2.2.2.2.2.2.2.2.2.1
theorem Mod.r101 {S : mSh} {R : mR} (q : Mod S R) : R 97 6 = 101 := q.2.2.2.2.2.2.2.2.2.2.2.2.2.2.2.1
theorem Mod.r102 {S : mSh} {R : mR} (q : Mod S R) : R 97 7 = 102 := q.2.2.2.2.2.2.2.2.2.2.2.2.2.2.2.2.1
theorem Mod.r103 {S : mSh} {R : mR} (q : Mod S R) : R 97 10 = 103 := q.2.2.2.2.2.2.2.2.2.2.2.2.2.2.2.2.2.1
theorem Mod.r104 {S : mSh} {R : mR} (q : Mod S R) : R 97 11 = 104 := q.2.2.2.2.2.2.2.2.2.2.2.2.2.2.2.2.2.2.1
theorem Mod.r105 {S : mSh} {R : mR} (q : Mod S R) : R 97 12 = 105 := q.2.2.2.2.2.2.2.2.2.2.2.2.2.2.2.2.2.2.2.1
theorem Mod.r106 {S : mSh} {R : mR} (q : Mod S R) : R 97 13 = 106 := q.2.2.2.2.2.2.2.2.2.2.2.2.2.2.2.2.2.2.2.2.1
theorem Mod.r107 {S : mSh} {R : mR} (q : Mod S R) : R 97 14 = 107 := q.2.2.2.2.2.2.2.2.2.2.2.2.2.2.2.2.2.2.2.2.2.1
theorem Mod.r108 {S : mSh} {R : mR} (q : Mod S R) : R 97 15 = 108 := q.2.2.2.2.2.2.2.2.2.2.2.2.2.2.2.2.2.2.2.2.2.2
/-- the reference's family and a standing at h -/
def MoW (I : mI) (w : Nat → Int32) (N G : Nat) : Prop := (∀ k, k < 89 → I 98 k = w k) ∧ w 0 = nI N ∧ w 1 = nI G ∧ N ≤ 6 ∧ G ≤ 8
def MoD (I : mI) (h : Nat) (s : Nat → Int32) (hb : Nat) : Prop := (∀ k, k < 35 → I 99 (h + k) = s k) ∧ s 0 = nI hb ∧ hb < 256 ∧ h ≤ 385
theorem MoW.at {I : mI} {w : Nat → Int32} {N G k : Nat} (q : MoW I w N G) (hk : k < 89) : I 98 k = w k := q.1 k hk
theorem MoW.n0 {I : mI} {w : Nat → Int32} {N G : Nat} (q : MoW I w N G) : I 98 0 = nI N := (q.1 0 (by decide)).trans q.2.1
theorem MoW.n1 {I : mI} {w : Nat → Int32} {N G : Nat} (q : MoW I w N G) : I 98 1 = nI G := (q.1 1 (by decide)).trans q.2.2.1
theorem MoW.N6 {I : mI} {w : Nat → Int32} {N G : Nat} (q : MoW I w N G) : N ≤ 6 := q.2.2.2.1
theorem MoW.G8 {I : mI} {w : Nat → Int32} {N G : Nat} (q : MoW I w N G) : G ≤ 8 := q.2.2.2.2
theorem MoW.fr {I I1 : mI} {w : Nat → Int32} {N G : Nat} (q : MoW I w N G) (h : I1 98 = I 98) : MoW I1 w N G := by
  unfold MoW at q ⊢
  rw [h]; exact q
theorem MoD.at {I : mI} {h hb e k : Nat} {s : Nat → Int32} (q : MoD I h s hb) (he : e = h + k) (hk : k < 35) : I 99 e = s k := by rw [he]; exact q.1 k hk
theorem MoD.h0 {I : mI} {h hb e : Nat} {s : Nat → Int32} (q : MoD I h s hb) (he : e = h) : I 99 e = nI hb := by rw [he]; exact (q.1 0 (by decide)).trans q.2.1
theorem MoD.b256 {I : mI} {h hb : Nat} {s : Nat → Int32} (q : MoD I h s hb) : hb < 256 := q.2.2.1
theorem MoD.hh {I : mI} {h hb : Nat} {s : Nat → Int32} (q : MoD I h s hb) : h ≤ 385 := q.2.2.2
theorem MoD.fr {I I1 : mI} {h hb : Nat} {s : Nat → Int32} (q : MoD I h s hb) (e : I1 99 = I 99) : MoD I1 h s hb := by
  unfold MoD at q ⊢
  rw [e]; exact q
theorem toI64_lt {x y : Int32} : x.toInt64 < y.toInt64 ↔ x < y := by
  rw [Int64.lt_iff_toInt_lt, Int32.toInt_toInt64, Int32.toInt_toInt64, Int32.lt_iff_toInt_lt]
theorem inL {a b : Nat} {x : Int32} (ha : a < 2 ^ 31) (hb : b < 2 ^ 31) : (!decide (x.toInt64 < lN a) && !decide (lN b < x.toInt64)) = (!decide (x < nI a) && !decide (nI b < x)) := by
  rw [← nI_l ha, ← nI_l hb]
  simp only [toI64_lt]
theorem inP {n : Nat} {x : Int32} (hn : n < 2 ^ 31) : (!decide (x.toInt64 < lN 0) && !decide ((nI n - nI 1).toInt64 < x.toInt64)) = isP n x := by
  rw [← nI_l (show 0 < 2 ^ 31 by decide)]
  simp only [toI64_lt]
  unfold isP
  rw [nI_0]
  congr 2
  refine decide_eq_decide.mpr ?_
  cases n with
  | zero =>
    rw [nI_0, Int32.lt_iff_toInt_lt, Int32.le_iff_toInt_le]
    have e1 : (0 - nI 1 : Int32).toInt = -1 := by decide
    have e2 : (0 : Int32).toInt = 0 := by decide
    rw [e1, e2]
    omega
  | succ m =>
    rw [show nI (m + 1) - nI 1 = nI m from nI_pred m, Int32.lt_iff_toInt_lt, Int32.le_iff_toInt_le, nI_toInt (by omega), nI_toInt hn]
    omega
/-- what is left by i without the good x -/
def gLw (w s : Nat → Int32) (G i : Nat) (x : Int32) : Int32 := nSum G (fun g => if ly s g i = true ∧ ¬ nI g = x then cnt w g else 0)
/-- whom i loves of those here: x leaves with him -/
def lLw (w : Nat → Int32) (N i b : Nat) (x : Int32) : Int32 := nSum N (fun j => if nI j = x then (if j ≠ i ∧ b.testBit j = true then w (53 + (6 * i + j)) else 0) / nI 2 else if j ≠ i ∧ b.testBit j = true then w (53 + (6 * i + j)) else 0)
theorem nI_ne4 {g : Nat} (h : g < 2 ^ 31) : ¬ nI g = (-4 : Int32) := by
  intro e
  have := congrArg Int32.toInt e
  rw [nI_toInt h] at this
  have e2 : (-4 : Int32).toInt = -4 := by decide
  omega
theorem alone_s (w : Nat → Int32) (j b : Nat) : alone w (j + 1) b = (alone w j b || (decide (b = 2 ^ j) && decide (w (3 + j) = nI 3))) := rfl
theorem on_s (n : Nat) (c : Bool) : nI n + bI c = nI (if c = true then n + 1 else n) := by
  cases c
  · show nI n + 0 = nI n
    rw [Int32.add_zero]
  · exact nI_inc n
theorem gLw_n {w s : Nat → Int32} {G i : Nat} (hG : G ≤ 8) : gLw w s G i (-4) = gLeft w s G i := by
  unfold gLw gLeft
  refine nSum_congr (fun g hg => ?_)
  simp [nI_ne4 (show g < 2 ^ 31 by omega)]
theorem lLw_n {w : Nat → Int32} {N i b : Nat} (hN : N ≤ 6) : lLw w N i b (-4) = lLeft w N i b := by
  unfold lLw lLeft
  refine nSum_congr (fun g hg => ?_)
  rw [if_neg (nI_ne4 (show g < 2 ^ 31 by omega))]
set_option maxHeartbeats 4000000 in
set_option maxRecDepth 100000 in
theorem v_X12_in (X : mCx) (d : Nat) {S : mSh} {I : mI} {R : mR} {v a b : Int64} : CC X (d + 1) M_X12_in [.long v, .long a, .long b] S (I, R) (some (.int (bI (!decide (v < a) && !decide (b < v))))) S (I, R) := by
  refine CC.of2 (L := [.long v, .retAddr 0, .long a, .retAddr 0, .long b, .retAddr 0]) p_X12 (Nat.le_of_ble_eq_true rfl) rfl (mRok_b _) (List.prefix_refl S) ?_
  refine r_lload_n dX12_in_0 rfl ?_
  refine r_lload_n dX12_in_1 rfl ?_
  refine r_lcmp dX12_in_2 ?_
  refine r_if_lt (tgt := 17) dX12_in_3 (by decide) (fun c3 => ?_) (fun c3 => ?_)
  · have e3 := (lg_cmp_lt _ _).mp c3
    refine r_iconst dX12_in_17 ic_0 ?_
    exact g_iret dX12_in_18 (rB0 (by simp [*])) rfl
  · have e3 := Int64.not_lt.mp (fun z => c3 ((lg_cmp_lt _ _).mpr z))
    refine r_lload_n dX12_in_6 rfl ?_
    refine r_lload dX12_in_7 rfl ?_
    refine r_lcmp dX12_in_9 ?_
    refine r_if_gt (tgt := 17) dX12_in_10 (by decide) (fun c10 => ?_) (fun c10 => ?_)
    · have e10 := (lg_cmp_gt _ _).mp c10
      refine r_iconst dX12_in_17 ic_0 ?_
      exact g_iret dX12_in_18 (rB0 (by simp [*])) rfl
    · have e10 := Int64.not_lt.mp (fun z => c10 ((lg_cmp_gt _ _).mpr z))
      refine r_iconst dX12_in_13 ic_1 ?_
      refine r_goto (tgt := 18) dX12_in_14 (by decide) ?_
      exact g_iret dX12_in_18 (rB1 (by simp [*])) rfl

set_option maxHeartbeats 4000000 in
set_option maxRecDepth 100000 in
theorem v_X12_has (X : mCx) (d : Nat) {S : mSh} {I : mI} {R : mR} {b k : Nat} (hb : b < 256) (hk : k < 8) : CC X (d + 1) M_X12_has [.int (nI b), .int (nI k)] S (I, R) (some (.int (bI (b.testBit k)))) S (I, R) := by
  refine CC.of2 (L := [.int (nI b), .int (nI k)]) p_X12 (Nat.le_of_ble_eq_true rfl) rfl (mRok_b _) (List.prefix_refl S) ?_
  refine r_iload_n dX12_has_0 rfl ?_
  refine r_iload_n dX12_has_1 rfl ?_
  refine r_ishr dX12_has_2 ?_
  refine r_iconst dX12_has_3 ic_1 ?_
  refine r_iand dX12_has_4 ?_
  refine g_top (bitv hb (by omega)) ?_
  refine r_iconst dX12_has_5 ic_1 ?_
  refine r_icmp_ne (tgt := 13) dX12_has_6 (by decide) (fun c6 => ?_) (fun c6 => ?_)
  · have c6 : b.testBit k = false := by simpa [bI_n1] using c6
    refine r_iconst dX12_has_13 ic_0 ?_
    exact g_iret dX12_has_14 (rB0 c6) rfl
  · have c6 : b.testBit k = true := bI_n1.mp c6
    refine r_iconst dX12_has_9 ic_1 ?_
    refine r_goto (tgt := 14) dX12_has_10 (by decide) ?_
    exact g_iret dX12_has_14 (rB1 c6) rfl

set_option maxHeartbeats 4000000 in
set_option maxRecDepth 100000 in
theorem v_X12_isPerson (X : mCx) (d : Nat) {S : mSh} {I : mI} {R : mR} {w : Nat → Int32} {N G : Nat} {x : Int32} (hm : Mod S R) (hw : MoW I w N G)  : CC X (d + 2) M_X12_isPerson [.ref 97, .int x] S (I, R) (some (.int (bI (isP N x)))) S (I, R) := by
  have hN6 := hw.N6
  have hG8 := hw.G8
  refine CC.of2 (L := [.ref 97, .int x]) p_X12 (Nat.le_of_ble_eq_true rfl) rfl (mRok_b _) (List.prefix_refl S) ?_
  refine r_iload_n dX12_isPerson_0 rfl ?_
  refine r_i2l dX12_isPerson_1 rfl ?_
  refine r_lconst (v := lN 0) dX12_isPerson_2 rfl ?_
  refine r_aload_n dX12_isPerson_3 rfl ?_
  refine g_getR dX12_isPerson_4 f_X12_7 (Mod.sg (by assumption)) rfl (Mod.r98 (by assumption)) ?_
  refine r_iconst dX12_isPerson_7 ic_0 ?_
  refine g_iald dX12_isPerson_8 (Mod.s98 (by assumption)) rfl (by omega) (by omega) hw.n0 ?_
  refine r_iconst dX12_isPerson_9 ic_1 ?_
  refine r_isub dX12_isPerson_10 ?_
  refine r_i2l dX12_isPerson_11 rfl ?_
  refine r_S3 dX12_isPerson_12 l_X12_62 k_X12_in s_X12_in (Nat.le_of_ble_eq_true rfl) (v_X12_in X _ ) (List.prefix_refl S) ?_
  exact g_iret dX12_isPerson_15 (by rw [inP (by omega)]) rfl

set_option maxHeartbeats 4000000 in
set_option maxRecDepth 100000 in
theorem v_X12_isGood (X : mCx) (d : Nat) {S : mSh} {I : mI} {R : mR} {w : Nat → Int32} {N G : Nat} {x : Int32} (hm : Mod S R) (hw : MoW I w N G)  : CC X (d + 2) M_X12_isGood [.ref 97, .int x] S (I, R) (some (.int (bI (isP G x)))) S (I, R) := by
  have hN6 := hw.N6
  have hG8 := hw.G8
  refine CC.of2 (L := [.ref 97, .int x]) p_X12 (Nat.le_of_ble_eq_true rfl) rfl (mRok_b _) (List.prefix_refl S) ?_
  refine r_iload_n dX12_isGood_0 rfl ?_
  refine r_i2l dX12_isGood_1 rfl ?_
  refine r_lconst (v := lN 0) dX12_isGood_2 rfl ?_
  refine r_aload_n dX12_isGood_3 rfl ?_
  refine g_getR dX12_isGood_4 f_X12_7 (Mod.sg (by assumption)) rfl (Mod.r98 (by assumption)) ?_
  refine r_iconst dX12_isGood_7 ic_1 ?_
  refine g_iald dX12_isGood_8 (Mod.s98 (by assumption)) rfl (by omega) (by omega) hw.n1 ?_
  refine r_iconst dX12_isGood_9 ic_1 ?_
  refine r_isub dX12_isGood_10 ?_
  refine r_i2l dX12_isGood_11 rfl ?_
  refine r_S3 dX12_isGood_12 l_X12_62 k_X12_in s_X12_in (Nat.le_of_ble_eq_true rfl) (v_X12_in X _ ) (List.prefix_refl S) ?_
  exact g_iret dX12_isGood_15 (by rw [inP (by omega)]) rfl

set_option maxHeartbeats 4000000 in
set_option maxRecDepth 100000 in
theorem v_X12_areTwo (X : mCx) (d : Nat) {S : mSh} {I : mI} {R : mR} {w : Nat → Int32} {N G : Nat} {x y : Int32} (hm : Mod S R) (hw : MoW I w N G)  : CC X (d + 3) M_X12_areTwo [.ref 97, .int x, .int y] S (I, R) (some (.int (bI (twoP N x y)))) S (I, R) := by
  have hN6 := hw.N6
  have hG8 := hw.G8
  refine CC.of2 (L := [.ref 97, .int x, .int y]) p_X12 (Nat.le_of_ble_eq_true rfl) rfl (mRok_b _) (List.prefix_refl S) ?_
  refine r_aload_n dX12_areTwo_0 rfl ?_
  refine r_iload_n dX12_areTwo_1 rfl ?_
  refine r_V1 dX12_areTwo_2 l_X12_111 k_X12_isPerson i_X12_isPerson (Mod.sg (by assumption)) ⟨_, rfl⟩ (Nat.le_of_ble_eq_true rfl) (v_X12_isPerson X _ (by first | assumption | omega) (by first | assumption | omega)) (List.prefix_refl S) ?_
  refine r_ifB_eq (tgt := 25) dX12_areTwo_5 (by decide) (fun c5 => ?_) (fun c5 => ?_)
  · skip
    refine r_iconst dX12_areTwo_25 ic_0 ?_
    exact g_iret dX12_areTwo_26 (rB0 (by simp [twoP, *])) rfl
  · skip
    refine r_aload_n dX12_areTwo_8 rfl ?_
    refine r_iload_n dX12_areTwo_9 rfl ?_
    refine r_V1 dX12_areTwo_10 l_X12_111 k_X12_isPerson i_X12_isPerson (Mod.sg (by assumption)) ⟨_, rfl⟩ (Nat.le_of_ble_eq_true rfl) (v_X12_isPerson X _ (by first | assumption | omega) (by first | assumption | omega)) (List.prefix_refl S) ?_
    refine r_ifB_eq (tgt := 25) dX12_areTwo_13 (by decide) (fun c13 => ?_) (fun c13 => ?_)
    · skip
      refine r_iconst dX12_areTwo_25 ic_0 ?_
      exact g_iret dX12_areTwo_26 (rB0 (by simp [twoP, *])) rfl
    · skip
      refine r_iload_n dX12_areTwo_16 rfl ?_
      refine r_iload_n dX12_areTwo_17 rfl ?_
      refine r_icmp_eq (tgt := 25) dX12_areTwo_18 (by decide) (fun c18 => ?_) (fun c18 => ?_)
      · skip
        refine r_iconst dX12_areTwo_25 ic_0 ?_
        exact g_iret dX12_areTwo_26 (rB0 (by simp [twoP, *])) rfl
      · skip
        refine r_iconst dX12_areTwo_21 ic_1 ?_
        refine r_goto (tgt := 26) dX12_areTwo_22 (by decide) ?_
        exact g_iret dX12_areTwo_26 (rB1 (by simp [twoP, *])) rfl

set_option maxHeartbeats 4000000 in
set_option maxRecDepth 100000 in
theorem v_X12_isHere (X : mCx) (d : Nat) {S : mSh} {I : mI} {R : mR} {s : Nat → Int32} {hb : Nat} {i : Nat} (hm : Mod S R) (hd : MoD I 0 s hb) (hi : i < 8) : CC X (d + 2) M_X12_isHere [.ref 97, .int (nI i)] S (I, R) (some (.int (bI (hb.testBit i)))) S (I, R) := by
  have h256 := hd.b256
  refine CC.of2 (L := [.ref 97, .int (nI i)]) p_X12 (Nat.le_of_ble_eq_true rfl) rfl (mRok_b _) (List.prefix_refl S) ?_
  refine r_aload_n dX12_isHere_0 rfl ?_
  refine g_getR dX12_isHere_1 f_X12_13 (Mod.sg (by assumption)) rfl (Mod.r99 (by assumption)) ?_
  refine r_iconst dX12_isHere_4 ic_0 ?_
  refine g_iald dX12_isHere_5 (Mod.s99 (by assumption)) rfl (by omega) (by omega) (hd.h0 (by omega)) ?_
  refine r_iload_n dX12_isHere_6 rfl ?_
  refine r_S2 dX12_isHere_7 l_X12_114 k_X12_has s_X12_has (Nat.le_of_ble_eq_true rfl) (v_X12_has X _ (by first | assumption | omega) (by first | assumption | omega)) (List.prefix_refl S) ?_
  exact g_iret dX12_isHere_10 rfl rfl

set_option maxHeartbeats 4000000 in
set_option maxRecDepth 100000 in
theorem v_X12_counts (X : mCx) (d : Nat) {S : mSh} {I : mI} {R : mR} {w : Nat → Int32} {N G : Nat} {g : Nat} (hm : Mod S R) (hw : MoW I w N G) (hg : g < G) : CC X (d + 1) M_X12_counts [.ref 97, .int (nI g)] S (I, R) (some (.int (cnt w g))) S (I, R) := by
  have hN6 := hw.N6
  have hG8 := hw.G8
  refine CC.of2 (L := [.ref 97, .int (nI g), .retAddr 0]) p_X12 (Nat.le_of_ble_eq_true rfl) rfl rfl (List.prefix_refl S) ?_
  refine r_aload_n dX12_counts_0 rfl ?_
  refine g_getR dX12_counts_1 f_X12_7 (Mod.sg (by assumption)) rfl (Mod.r98 (by assumption)) ?_
  refine r_bipush dX12_counts_4 bp_37 ?_
  refine r_iload_n dX12_counts_6 rfl ?_
  refine n_iadd dX12_counts_7 ?_
  refine g_iald dX12_counts_8 (Mod.s98 (by assumption)) rfl (by omega) (by omega) (hw.at (by omega)) ?_
  refine r_istore_n (L' := [_, _, _]) dX12_counts_9 rfl rfl ?_
  refine r_aload_n dX12_counts_10 rfl ?_
  refine g_getR dX12_counts_11 f_X12_7 (Mod.sg (by assumption)) rfl (Mod.r98 (by assumption)) ?_
  refine r_bipush dX12_counts_14 bp_21 ?_
  refine r_iload_n dX12_counts_16 rfl ?_
  refine n_iadd dX12_counts_17 ?_
  refine g_iald dX12_counts_18 (Mod.s98 (by assumption)) rfl (by omega) (by omega) (hw.at (by omega)) ?_
  by_cases k1 : w (21 + g) = nI 1
  · refine g_top k1 ?_
    refine r_tableIn (tgt := 44) dX12_counts_19 (by decide) (by decide) (off := 25) rfl (by decide) ?_
    refine r_iload_n dX12_counts_44 rfl ?_
    refine r_ineg dX12_counts_45 ?_
    exact g_iret dX12_counts_46 (by unfold cnt; rw [cntv_n1 k1]) rfl
  by_cases k2 : w (21 + g) = nI 2
  · refine g_top k2 ?_
    refine r_tableIn (tgt := 47) dX12_counts_19 (by decide) (by decide) (off := 28) rfl (by decide) ?_
    refine r_iconst dX12_counts_47 ic_3 ?_
    refine r_iload_n dX12_counts_48 rfl ?_
    refine r_imul dX12_counts_49 ?_
    exact g_iret dX12_counts_50 (by unfold cnt; rw [cntv_n2 k2]) rfl
  by_cases k3 : w (21 + g) = nI 3
  · refine g_top k3 ?_
    refine r_tableIn (tgt := 51) dX12_counts_19 (by decide) (by decide) (off := 32) rfl (by decide) ?_
    refine r_iload_n dX12_counts_51 rfl ?_
    refine r_iconst dX12_counts_52 ic_2 ?_
    refine r_idiv dX12_counts_53 (by decide) ?_
    exact g_iret dX12_counts_54 (by unfold cnt; rw [cntv_n3 k3]) rfl
  refine r_tableOut (tgt := 55) dX12_counts_19 (sw_outR 1 3 (by decide) (fun k h1 h2 e => by rcases (show k = 1 ∨ k = 2 ∨ k = 3 by omega) with rfl | rfl | rfl <;> first | exact k1 e | exact k2 e | exact k3 e)) (by decide) ?_
  refine r_iload_n dX12_counts_55 rfl ?_
  exact g_iret dX12_counts_56 (by unfold cnt; rw [cntv_n0 k1 k2 k3]) rfl

set_option maxHeartbeats 4000000 in
set_option maxRecDepth 100000 in
theorem v_X12_dutyOf (X : mCx) (d : Nat) {S : mSh} {I : mI} {R : mR} {w : Nat → Int32} {N G : Nat} {i : Nat} {x : Int32} (hm : Mod S R) (hw : MoW I w N G) (hi : i < N) : CC X (d + 1) M_X12_dutyOf [.ref 97, .int (nI i), .int x] S (I, R) (some (.int (duty w i x))) S (I, R) := by
  have hN6 := hw.N6
  have hG8 := hw.G8
  rw [duty_eq rfl]
  refine CC.of2 (L := [.ref 97, .int (nI i), .int x, .retAddr 0, .retAddr 0]) p_X12 (Nat.le_of_ble_eq_true rfl) rfl rfl (List.prefix_refl S) ?_
  refine r_iload_n dX12_dutyOf_0 rfl ?_
  refine r_if_ge (tgt := 8) dX12_dutyOf_1 (by decide) (fun c1 => ?_) (fun c1 => ?_)
  · have c1x : ¬ x < 0 := Int32.not_lt.mpr c1
    refine r_iload_n dX12_dutyOf_8 rfl ?_
    refine r_aload_n dX12_dutyOf_9 rfl ?_
    refine g_getR dX12_dutyOf_10 f_X12_7 (Mod.sg (by assumption)) rfl (Mod.r98 (by assumption)) ?_
    refine r_iconst dX12_dutyOf_13 ic_2 ?_
    refine g_iald dX12_dutyOf_14 (Mod.s98 (by assumption)) rfl (by omega) (by omega) (hw.at (by omega)) ?_
    refine r_imul dX12_dutyOf_15 ?_
    refine r_bipush dX12_dutyOf_16 bp_10 ?_
    refine r_idiv dX12_dutyOf_18 (by decide) ?_
    refine r_istore_n (L' := [_, _, _, _, _]) dX12_dutyOf_19 rfl rfl ?_
    refine r_aload_n dX12_dutyOf_20 rfl ?_
    refine g_getR dX12_dutyOf_21 f_X12_7 (Mod.sg (by assumption)) rfl (Mod.r98 (by assumption)) ?_
    refine r_iconst dX12_dutyOf_24 ic_3 ?_
    refine r_iload_n dX12_dutyOf_25 rfl ?_
    refine n_iadd dX12_dutyOf_26 ?_
    refine g_iald dX12_dutyOf_27 (Mod.s98 (by assumption)) rfl (by omega) (by omega) (hw.at (by omega)) ?_
    refine r_istore (L' := [_, _, _, _, _]) dX12_dutyOf_28 rfl rfl ?_
    refine r_iload dX12_dutyOf_30 rfl ?_
    refine r_iconst dX12_dutyOf_32 ic_1 ?_
    refine r_icmp_eq (tgt := 42) dX12_dutyOf_33 (by decide) (fun c33 => ?_) (fun c33 => ?_)
    · skip
      refine r_iload_n dX12_dutyOf_42 rfl ?_
      refine r_iconst dX12_dutyOf_43 ic_2 ?_
      refine r_idiv dX12_dutyOf_44 (by decide) ?_
      refine r_goto (tgt := 61) dX12_dutyOf_45 (by decide) ?_
      exact g_iret dX12_dutyOf_61 (by simp [nI_0, nd_3_1, nd_3_2, nd_3_4, nd_4_1, nd_4_2, nd_2_1, *]) rfl
    · skip
      refine r_iload dX12_dutyOf_36 rfl ?_
      refine r_iconst dX12_dutyOf_38 ic_2 ?_
      refine r_icmp_ne (tgt := 48) dX12_dutyOf_39 (by decide) (fun c39 => ?_) (fun c39 => ?_)
      · skip
        refine r_iload dX12_dutyOf_48 rfl ?_
        refine r_iconst dX12_dutyOf_50 ic_4 ?_
        refine r_icmp_ne (tgt := 60) dX12_dutyOf_51 (by decide) (fun c51 => ?_) (fun c51 => ?_)
        · skip
          refine r_iload_n dX12_dutyOf_60 rfl ?_
          exact g_iret dX12_dutyOf_61 (by simp [nI_0, nd_3_1, nd_3_2, nd_3_4, nd_4_1, nd_4_2, nd_2_1, *]) rfl
        · skip
          refine r_iload_n dX12_dutyOf_54 rfl ?_
          refine r_iconst dX12_dutyOf_55 ic_3 ?_
          refine r_idiv dX12_dutyOf_56 (by decide) ?_
          refine r_goto (tgt := 61) dX12_dutyOf_57 (by decide) ?_
          exact g_iret dX12_dutyOf_61 (by simp [nI_0, nd_3_1, nd_3_2, nd_3_4, nd_4_1, nd_4_2, nd_2_1, *]) rfl
      · skip
        refine r_iload_n dX12_dutyOf_42 rfl ?_
        refine r_iconst dX12_dutyOf_43 ic_2 ?_
        refine r_idiv dX12_dutyOf_44 (by decide) ?_
        refine r_goto (tgt := 61) dX12_dutyOf_45 (by decide) ?_
        exact g_iret dX12_dutyOf_61 (by simp [nI_0, nd_3_1, nd_3_2, nd_3_4, nd_4_1, nd_4_2, nd_2_1, *]) rfl
  · have c1x : x < 0 := Int32.not_le.mp c1
    refine r_iconst dX12_dutyOf_4 ic_0 ?_
    refine r_goto (tgt := 9) dX12_dutyOf_5 (by decide) ?_
    refine r_aload_n dX12_dutyOf_9 rfl ?_
    refine g_getR dX12_dutyOf_10 f_X12_7 (Mod.sg (by assumption)) rfl (Mod.r98 (by assumption)) ?_
    refine r_iconst dX12_dutyOf_13 ic_2 ?_
    refine g_iald dX12_dutyOf_14 (Mod.s98 (by assumption)) rfl (by omega) (by omega) (hw.at (by omega)) ?_
    refine r_imul dX12_dutyOf_15 ?_
    refine r_bipush dX12_dutyOf_16 bp_10 ?_
    refine r_idiv dX12_dutyOf_18 (by decide) ?_
    refine r_istore_n (L' := [_, _, _, _, _]) dX12_dutyOf_19 rfl rfl ?_
    refine r_aload_n dX12_dutyOf_20 rfl ?_
    refine g_getR dX12_dutyOf_21 f_X12_7 (Mod.sg (by assumption)) rfl (Mod.r98 (by assumption)) ?_
    refine r_iconst dX12_dutyOf_24 ic_3 ?_
    refine r_iload_n dX12_dutyOf_25 rfl ?_
    refine n_iadd dX12_dutyOf_26 ?_
    refine g_iald dX12_dutyOf_27 (Mod.s98 (by assumption)) rfl (by omega) (by omega) (hw.at (by omega)) ?_
    refine r_istore (L' := [_, _, _, _, _]) dX12_dutyOf_28 rfl rfl ?_
    refine r_iload dX12_dutyOf_30 rfl ?_
    refine r_iconst dX12_dutyOf_32 ic_1 ?_
    refine r_icmp_eq (tgt := 42) dX12_dutyOf_33 (by decide) (fun c33 => ?_) (fun c33 => ?_)
    · skip
      refine r_iload_n dX12_dutyOf_42 rfl ?_
      refine r_iconst dX12_dutyOf_43 ic_2 ?_
      refine r_idiv dX12_dutyOf_44 (by decide) ?_
      refine r_goto (tgt := 61) dX12_dutyOf_45 (by decide) ?_
      exact g_iret dX12_dutyOf_61 (by simp [nI_0, nd_3_1, nd_3_2, nd_3_4, nd_4_1, nd_4_2, nd_2_1, *]) rfl
    · skip
      refine r_iload dX12_dutyOf_36 rfl ?_
      refine r_iconst dX12_dutyOf_38 ic_2 ?_
      refine r_icmp_ne (tgt := 48) dX12_dutyOf_39 (by decide) (fun c39 => ?_) (fun c39 => ?_)
      · skip
        refine r_iload dX12_dutyOf_48 rfl ?_
        refine r_iconst dX12_dutyOf_50 ic_4 ?_
        refine r_icmp_ne (tgt := 60) dX12_dutyOf_51 (by decide) (fun c51 => ?_) (fun c51 => ?_)
        · skip
          refine r_iload_n dX12_dutyOf_60 rfl ?_
          exact g_iret dX12_dutyOf_61 (by simp [nI_0, nd_3_1, nd_3_2, nd_3_4, nd_4_1, nd_4_2, nd_2_1, *]) rfl
        · skip
          refine r_iload_n dX12_dutyOf_54 rfl ?_
          refine r_iconst dX12_dutyOf_55 ic_3 ?_
          refine r_idiv dX12_dutyOf_56 (by decide) ?_
          refine r_goto (tgt := 61) dX12_dutyOf_57 (by decide) ?_
          exact g_iret dX12_dutyOf_61 (by simp [nI_0, nd_3_1, nd_3_2, nd_3_4, nd_4_1, nd_4_2, nd_2_1, *]) rfl
      · skip
        refine r_iload_n dX12_dutyOf_42 rfl ?_
        refine r_iconst dX12_dutyOf_43 ic_2 ?_
        refine r_idiv dX12_dutyOf_44 (by decide) ?_
        refine r_goto (tgt := 61) dX12_dutyOf_45 (by decide) ?_
        exact g_iret dX12_dutyOf_61 (by simp [nI_0, nd_3_1, nd_3_2, nd_3_4, nd_4_1, nd_4_2, nd_2_1, *]) rfl

set_option maxHeartbeats 4000000 in
set_option maxRecDepth 100000 in
theorem v_X12_leftBy (X : mCx) (d : Nat) {S : mSh} {I : mI} {R : mR} {w s : Nat → Int32} {N G hb h : Nat} {i : Nat} {x : Int32} (hm : Mod S R) (hw : MoW I w N G) (hd : MoD I h s hb)  : CC X (d + 2) M_X12_leftBy [.ref 97, .int (nI h), .int (nI i), .int x] S (I, R) (some (.int (gLw w s G i x))) S (I, R) := by
  have hN6 := hw.N6
  have hG8 := hw.G8
  have hh := hd.hh
  refine CC.of2 (L := [.ref 97, .int (nI h), .int (nI i), .int x, .retAddr 0, .retAddr 0]) p_X12 (Nat.le_of_ble_eq_true rfl) rfl rfl (List.prefix_refl S) ?_
  refine r_iconst dX12_leftBy_0 ic_0 ?_
  refine r_istore (L' := [_, _, _, _, _, _]) dX12_leftBy_1 rfl rfl ?_
  refine r_iconst dX12_leftBy_3 ic_0 ?_
  refine r_istore (L' := [_, _, _, _, _, _]) dX12_leftBy_4 rfl rfl ?_
  refine JJ.loop G (fun j => [.ref 97, .int (nI h), .int (nI i), .int x, .int (gLw w s j i x), .int (nI j)]) (fun j => (I, R)) (fun j => True) (by simp [nI_0, gLw, nSum]) rfl trivial (fun hp => ?_) (fun j hj hp K => ?_)
  · skip
    refine r_iload dX12_leftBy_6 rfl ?_
    refine r_aload_n dX12_leftBy_8 rfl ?_
    refine g_getR dX12_leftBy_9 f_X12_7 (Mod.sg (by assumption)) rfl (Mod.r98 (by assumption)) ?_
    refine r_iconst dX12_leftBy_12 ic_1 ?_
    refine g_iald dX12_leftBy_13 (Mod.s98 (by assumption)) rfl (by omega) (by omega) hw.n1 ?_
    refine n_icmp_ge (tgt := 75) dX12_leftBy_14 (by decide) (by omega) (by omega) (fun c14 => ?_) (fun c14 => absurd c14 (by omega))
    refine r_iload dX12_leftBy_75 rfl ?_
    exact g_iret dX12_leftBy_77 rfl rfl
  · skip
    refine r_iload dX12_leftBy_6 rfl ?_
    refine r_aload_n dX12_leftBy_8 rfl ?_
    refine g_getR dX12_leftBy_9 f_X12_7 (Mod.sg (by assumption)) rfl (Mod.r98 (by assumption)) ?_
    refine r_iconst dX12_leftBy_12 ic_1 ?_
    refine g_iald dX12_leftBy_13 (Mod.s98 (by assumption)) rfl (by omega) (by omega) hw.n1 ?_
    refine n_icmp_ge (tgt := 75) dX12_leftBy_14 (by decide) (by omega) (by omega) (fun c14 => absurd c14 (by omega)) (fun c14 => ?_)
    refine r_iload dX12_leftBy_17 rfl ?_
    refine r_aload_n dX12_leftBy_19 rfl ?_
    refine g_getR dX12_leftBy_20 f_X12_13 (Mod.sg (by assumption)) rfl (Mod.r99 (by assumption)) ?_
    refine r_iload_n dX12_leftBy_23 rfl ?_
    refine r_bipush dX12_leftBy_24 bp_19 ?_
    refine n_iadd dX12_leftBy_26 ?_
    refine r_iload dX12_leftBy_27 rfl ?_
    refine n_iadd dX12_leftBy_29 ?_
    refine g_iald dX12_leftBy_30 (Mod.s99 (by assumption)) rfl (by omega) (by omega) (hd.at (k := 19 + j) (by omega) (by omega)) ?_
    refine r_iload_n dX12_leftBy_31 rfl ?_
    refine r_icmp_ne (tgt := 65) dX12_leftBy_32 (by decide) (fun c32 => ?_) (fun c32 => ?_)
    · skip
      refine r_iconst dX12_leftBy_65 ic_0 ?_
      refine r_iadd dX12_leftBy_66 ?_
      refine r_istore (L' := [_, _, _, _, _, _]) dX12_leftBy_67 rfl rfl ?_
      refine r_iinc (L' := [_, _, _, _, _, _]) dX12_leftBy_69 rfl rfl (nI_inc _) rfl ?_
      refine r_goto (tgt := 6) dX12_leftBy_72 (by decide) ?_
      exact JJ.to (K trivial) (by simp [gLw, ly, nSum, nI_0, *]) rfl rfl
    · skip
      refine r_aload_n dX12_leftBy_35 rfl ?_
      refine g_getR dX12_leftBy_36 f_X12_13 (Mod.sg (by assumption)) rfl (Mod.r99 (by assumption)) ?_
      refine r_iload_n dX12_leftBy_39 rfl ?_
      refine r_bipush dX12_leftBy_40 bp_27 ?_
      refine n_iadd dX12_leftBy_42 ?_
      refine r_iload dX12_leftBy_43 rfl ?_
      refine n_iadd dX12_leftBy_45 ?_
      refine g_iald dX12_leftBy_46 (Mod.s99 (by assumption)) rfl (by omega) (by omega) (hd.at (k := 27 + j) (by omega) (by omega)) ?_
      refine r_if_ne (tgt := 65) dX12_leftBy_47 (by decide) (fun c47 => ?_) (fun c47 => ?_)
      · skip
        refine r_iconst dX12_leftBy_65 ic_0 ?_
        refine r_iadd dX12_leftBy_66 ?_
        refine r_istore (L' := [_, _, _, _, _, _]) dX12_leftBy_67 rfl rfl ?_
        refine r_iinc (L' := [_, _, _, _, _, _]) dX12_leftBy_69 rfl rfl (nI_inc _) rfl ?_
        refine r_goto (tgt := 6) dX12_leftBy_72 (by decide) ?_
        exact JJ.to (K trivial) (by simp [gLw, ly, nSum, nI_0, *]) rfl rfl
      · skip
        refine r_iload dX12_leftBy_50 rfl ?_
        refine r_iload_n dX12_leftBy_52 rfl ?_
        refine r_icmp_eq (tgt := 65) dX12_leftBy_53 (by decide) (fun c53 => ?_) (fun c53 => ?_)
        · skip
          refine r_iconst dX12_leftBy_65 ic_0 ?_
          refine r_iadd dX12_leftBy_66 ?_
          refine r_istore (L' := [_, _, _, _, _, _]) dX12_leftBy_67 rfl rfl ?_
          refine r_iinc (L' := [_, _, _, _, _, _]) dX12_leftBy_69 rfl rfl (nI_inc _) rfl ?_
          refine r_goto (tgt := 6) dX12_leftBy_72 (by decide) ?_
          exact JJ.to (K trivial) (by simp [gLw, ly, nSum, nI_0, *]) rfl rfl
        · skip
          refine r_aload_n dX12_leftBy_56 rfl ?_
          refine r_iload dX12_leftBy_57 rfl ?_
          refine r_V1 dX12_leftBy_59 l_X12_127 k_X12_counts i_X12_counts (Mod.sg (by assumption)) ⟨_, rfl⟩ (Nat.le_of_ble_eq_true rfl) (v_X12_counts X _ (by first | assumption | omega) (by first | assumption | omega) (by first | assumption | omega)) (List.prefix_refl S) ?_
          refine r_goto (tgt := 66) dX12_leftBy_62 (by decide) ?_
          refine r_iadd dX12_leftBy_66 ?_
          refine r_istore (L' := [_, _, _, _, _, _]) dX12_leftBy_67 rfl rfl ?_
          refine r_iinc (L' := [_, _, _, _, _, _]) dX12_leftBy_69 rfl rfl (nI_inc _) rfl ?_
          refine r_goto (tgt := 6) dX12_leftBy_72 (by decide) ?_
          exact JJ.to (K trivial) (by simp [gLw, ly, nSum, nI_0, *]) rfl rfl

set_option maxHeartbeats 4000000 in
set_option maxRecDepth 100000 in
theorem v_X12_lovedBy (X : mCx) (d : Nat) {S : mSh} {I : mI} {R : mR} {w : Nat → Int32} {N G : Nat} {i b : Nat} {x : Int32} (hm : Mod S R) (hw : MoW I w N G) (hb : b < 256) (hi : i < N) : CC X (d + 2) M_X12_lovedBy [.ref 97, .int (nI b), .int (nI i), .int x] S (I, R) (some (.int (lLw w N i b x))) S (I, R) := by
  have hN6 := hw.N6
  have hG8 := hw.G8
  refine CC.of2 (L := [.ref 97, .int (nI b), .int (nI i), .int x, .retAddr 0, .retAddr 0, .retAddr 0]) p_X12 (Nat.le_of_ble_eq_true rfl) rfl rfl (List.prefix_refl S) ?_
  refine r_iconst dX12_lovedBy_0 ic_0 ?_
  refine r_istore (L' := [_, _, _, _, _, _, _]) dX12_lovedBy_1 rfl rfl ?_
  refine r_iconst dX12_lovedBy_3 ic_0 ?_
  refine r_istore (L' := [_, _, _, _, _, _, _]) dX12_lovedBy_4 rfl rfl ?_
  refine JJ.loop N (fun j => [.ref 97, .int (nI b), .int (nI i), .int x, .int (lLw w j i b x), .int (nI j), .retAddr 0]) (fun j => (I, R)) (fun j => True) (by simp [nI_0, lLw, nSum]) rfl trivial (fun hp => ?_) (fun j hj hp K => ?_)
  · skip
    refine r_iload dX12_lovedBy_6 rfl ?_
    refine r_aload_n dX12_lovedBy_8 rfl ?_
    refine g_getR dX12_lovedBy_9 f_X12_7 (Mod.sg (by assumption)) rfl (Mod.r98 (by assumption)) ?_
    refine r_iconst dX12_lovedBy_12 ic_0 ?_
    refine g_iald dX12_lovedBy_13 (Mod.s98 (by assumption)) rfl (by omega) (by omega) hw.n0 ?_
    refine n_icmp_ge (tgt := 79) dX12_lovedBy_14 (by decide) (by omega) (by omega) (fun c14 => ?_) (fun c14 => absurd c14 (by omega))
    refine r_iload dX12_lovedBy_79 rfl ?_
    exact g_iret dX12_lovedBy_81 rfl rfl
  · skip
    refine r_iload dX12_lovedBy_6 rfl ?_
    refine r_aload_n dX12_lovedBy_8 rfl ?_
    refine g_getR dX12_lovedBy_9 f_X12_7 (Mod.sg (by assumption)) rfl (Mod.r98 (by assumption)) ?_
    refine r_iconst dX12_lovedBy_12 ic_0 ?_
    refine g_iald dX12_lovedBy_13 (Mod.s98 (by assumption)) rfl (by omega) (by omega) hw.n0 ?_
    refine n_icmp_ge (tgt := 79) dX12_lovedBy_14 (by decide) (by omega) (by omega) (fun c14 => absurd c14 (by omega)) (fun c14 => ?_)
    refine r_iload_n dX12_lovedBy_17 rfl ?_
    refine r_iload dX12_lovedBy_18 rfl ?_
    refine r_S2 dX12_lovedBy_20 l_X12_114 k_X12_has s_X12_has (Nat.le_of_ble_eq_true rfl) (v_X12_has X _ (by first | assumption | omega) (by first | assumption | omega)) (List.prefix_refl S) ?_
    refine r_ifB_eq (tgt := 50) dX12_lovedBy_23 (by decide) (fun c23 => ?_) (fun c23 => ?_)
    · skip
      refine r_iconst dX12_lovedBy_50 ic_0 ?_
      refine r_istore (L' := [_, _, _, _, _, _, _]) dX12_lovedBy_51 rfl rfl ?_
      refine r_iload dX12_lovedBy_53 rfl ?_
      refine r_iload dX12_lovedBy_55 rfl ?_
      refine r_iload_n dX12_lovedBy_57 rfl ?_
      refine r_icmp_ne (tgt := 68) dX12_lovedBy_58 (by decide) (fun c58 => ?_) (fun c58 => ?_)
      · skip
        refine r_iload dX12_lovedBy_68 rfl ?_
        refine r_iadd dX12_lovedBy_70 ?_
        refine r_istore (L' := [_, _, _, _, _, _, _]) dX12_lovedBy_71 rfl rfl ?_
        refine r_iinc (L' := [_, _, _, _, _, _, _]) dX12_lovedBy_73 rfl rfl (nI_inc _) rfl ?_
        refine r_goto (tgt := 6) dX12_lovedBy_76 (by decide) ?_
        refine JJ.wk_at 6 (JJ.to (K trivial) (by simp [lLw, nSum, nI_0, Nat.add_assoc, *]) rfl rfl)
      · skip
        refine r_iload dX12_lovedBy_61 rfl ?_
        refine r_iconst dX12_lovedBy_63 ic_2 ?_
        refine r_idiv dX12_lovedBy_64 (by decide) ?_
        refine r_goto (tgt := 70) dX12_lovedBy_65 (by decide) ?_
        refine r_iadd dX12_lovedBy_70 ?_
        refine r_istore (L' := [_, _, _, _, _, _, _]) dX12_lovedBy_71 rfl rfl ?_
        refine r_iinc (L' := [_, _, _, _, _, _, _]) dX12_lovedBy_73 rfl rfl (nI_inc _) rfl ?_
        refine r_goto (tgt := 6) dX12_lovedBy_76 (by decide) ?_
        refine JJ.wk_at 6 (JJ.to (K trivial) (by simp [lLw, nSum, nI_0, Nat.add_assoc, *]) rfl rfl)
    · skip
      refine r_iload dX12_lovedBy_26 rfl ?_
      refine r_iload_n dX12_lovedBy_28 rfl ?_
      refine n_icmp_eq (tgt := 50) dX12_lovedBy_29 (by decide) (by omega) (by omega) (fun c29 => ?_) (fun c29 => ?_)
      · skip
        refine r_iconst dX12_lovedBy_50 ic_0 ?_
        refine r_istore (L' := [_, _, _, _, _, _, _]) dX12_lovedBy_51 rfl rfl ?_
        refine r_iload dX12_lovedBy_53 rfl ?_
        refine r_iload dX12_lovedBy_55 rfl ?_
        refine r_iload_n dX12_lovedBy_57 rfl ?_
        refine r_icmp_ne (tgt := 68) dX12_lovedBy_58 (by decide) (fun c58 => ?_) (fun c58 => ?_)
        · skip
          refine r_iload dX12_lovedBy_68 rfl ?_
          refine r_iadd dX12_lovedBy_70 ?_
          refine r_istore (L' := [_, _, _, _, _, _, _]) dX12_lovedBy_71 rfl rfl ?_
          refine r_iinc (L' := [_, _, _, _, _, _, _]) dX12_lovedBy_73 rfl rfl (nI_inc _) rfl ?_
          refine r_goto (tgt := 6) dX12_lovedBy_76 (by decide) ?_
          refine JJ.wk_at 6 (JJ.to (K trivial) (by simp [lLw, nSum, nI_0, Nat.add_assoc, *]) rfl rfl)
        · skip
          refine r_iload dX12_lovedBy_61 rfl ?_
          refine r_iconst dX12_lovedBy_63 ic_2 ?_
          refine r_idiv dX12_lovedBy_64 (by decide) ?_
          refine r_goto (tgt := 70) dX12_lovedBy_65 (by decide) ?_
          refine r_iadd dX12_lovedBy_70 ?_
          refine r_istore (L' := [_, _, _, _, _, _, _]) dX12_lovedBy_71 rfl rfl ?_
          refine r_iinc (L' := [_, _, _, _, _, _, _]) dX12_lovedBy_73 rfl rfl (nI_inc _) rfl ?_
          refine r_goto (tgt := 6) dX12_lovedBy_76 (by decide) ?_
          refine JJ.wk_at 6 (JJ.to (K trivial) (by simp [lLw, nSum, nI_0, Nat.add_assoc, *]) rfl rfl)
      · skip
        refine r_aload_n dX12_lovedBy_32 rfl ?_
        refine g_getR dX12_lovedBy_33 f_X12_7 (Mod.sg (by assumption)) rfl (Mod.r98 (by assumption)) ?_
        refine r_bipush dX12_lovedBy_36 bp_53 ?_
        refine r_bipush dX12_lovedBy_38 bp_6 ?_
        refine r_iload_n dX12_lovedBy_40 rfl ?_
        refine n_imul dX12_lovedBy_41 ?_
        refine n_iadd dX12_lovedBy_42 ?_
        refine r_iload dX12_lovedBy_43 rfl ?_
        refine n_iadd dX12_lovedBy_45 ?_
        refine g_iald dX12_lovedBy_46 (Mod.s98 (by assumption)) rfl (by omega) (by omega) (hw.at (by omega)) ?_
        refine r_goto (tgt := 51) dX12_lovedBy_47 (by decide) ?_
        refine r_istore (L' := [_, _, _, _, _, _, _]) dX12_lovedBy_51 rfl rfl ?_
        refine r_iload dX12_lovedBy_53 rfl ?_
        refine r_iload dX12_lovedBy_55 rfl ?_
        refine r_iload_n dX12_lovedBy_57 rfl ?_
        refine r_icmp_ne (tgt := 68) dX12_lovedBy_58 (by decide) (fun c58 => ?_) (fun c58 => ?_)
        · skip
          refine r_iload dX12_lovedBy_68 rfl ?_
          refine r_iadd dX12_lovedBy_70 ?_
          refine r_istore (L' := [_, _, _, _, _, _, _]) dX12_lovedBy_71 rfl rfl ?_
          refine r_iinc (L' := [_, _, _, _, _, _, _]) dX12_lovedBy_73 rfl rfl (nI_inc _) rfl ?_
          refine r_goto (tgt := 6) dX12_lovedBy_76 (by decide) ?_
          refine JJ.wk_at 6 (JJ.to (K trivial) (by simp [lLw, nSum, nI_0, Nat.add_assoc, *]) rfl rfl)
        · skip
          refine r_iload dX12_lovedBy_61 rfl ?_
          refine r_iconst dX12_lovedBy_63 ic_2 ?_
          refine r_idiv dX12_lovedBy_64 (by decide) ?_
          refine r_goto (tgt := 70) dX12_lovedBy_65 (by decide) ?_
          refine r_iadd dX12_lovedBy_70 ?_
          refine r_istore (L' := [_, _, _, _, _, _, _]) dX12_lovedBy_71 rfl rfl ?_
          refine r_iinc (L' := [_, _, _, _, _, _, _]) dX12_lovedBy_73 rfl rfl (nI_inc _) rfl ?_
          refine r_goto (tgt := 6) dX12_lovedBy_76 (by decide) ?_
          refine JJ.wk_at 6 (JJ.to (K trivial) (by simp [lLw, nSum, nI_0, Nat.add_assoc, *]) rfl rfl)

set_option maxHeartbeats 4000000 in
set_option maxRecDepth 100000 in
theorem v_X12_owesIn (X : mCx) (d : Nat) {S : mSh} {I : mI} {R : mR} {w s : Nat → Int32} {N G hb h : Nat} {i : Nat} {x : Int32} (hm : Mod S R) (hw : MoW I w N G) (hd : MoD I h s hb) (hi : i < N) : CC X (d + 3) M_X12_owesIn [.ref 97, .int (nI h), .int (nI i), .int x] S (I, R) (some (.int (duty w i (gLeft w s G i + lLw w N i hb x)))) S (I, R) := by
  have hN6 := hw.N6
  have hG8 := hw.G8
  have hh := hd.hh
  have h256 := hd.b256
  refine CC.of2 (L := [.ref 97, .int (nI h), .int (nI i), .int x]) p_X12 (Nat.le_of_ble_eq_true rfl) rfl rfl (List.prefix_refl S) ?_
  refine r_aload_n dX12_owesIn_0 rfl ?_
  refine r_iload_n dX12_owesIn_1 rfl ?_
  refine r_aload_n dX12_owesIn_2 rfl ?_
  refine r_iload_n dX12_owesIn_3 rfl ?_
  refine r_iload_n dX12_owesIn_4 rfl ?_
  refine r_bipush dX12_owesIn_5 bp_m4 ?_
  refine r_V3 dX12_owesIn_7 l_X12_130 k_X12_leftBy i_X12_leftBy (Mod.sg (by assumption)) ⟨_, rfl⟩ (Nat.le_of_ble_eq_true rfl) (v_X12_leftBy X _ (by first | assumption | omega) (by first | assumption | omega) (by first | assumption | omega)) (List.prefix_refl S) ?_
  rw [gLw_n hG8]
  refine r_aload_n dX12_owesIn_10 rfl ?_
  refine r_aload_n dX12_owesIn_11 rfl ?_
  refine g_getR dX12_owesIn_12 f_X12_13 (Mod.sg (by assumption)) rfl (Mod.r99 (by assumption)) ?_
  refine r_iload_n dX12_owesIn_15 rfl ?_
  refine r_iconst dX12_owesIn_16 ic_0 ?_
  refine n_iadd dX12_owesIn_17 ?_
  refine g_iald dX12_owesIn_18 (Mod.s99 (by assumption)) rfl (by omega) (by omega) (hd.h0 (by omega)) ?_
  refine r_iload_n dX12_owesIn_19 rfl ?_
  refine r_iload_n dX12_owesIn_20 rfl ?_
  refine r_V3 dX12_owesIn_21 l_X12_134 k_X12_lovedBy i_X12_lovedBy (Mod.sg (by assumption)) ⟨_, rfl⟩ (Nat.le_of_ble_eq_true rfl) (v_X12_lovedBy X _ (by first | assumption | omega) (by first | assumption | omega) (by first | assumption | omega) (by first | assumption | omega)) (List.prefix_refl S) ?_
  refine r_iadd dX12_owesIn_24 ?_
  refine r_V2 dX12_owesIn_25 l_X12_137 k_X12_dutyOf i_X12_dutyOf (Mod.sg (by assumption)) ⟨_, rfl⟩ (Nat.le_of_ble_eq_true rfl) (v_X12_dutyOf X _ (by first | assumption | omega) (by first | assumption | omega) (by first | assumption | omega)) (List.prefix_refl S) ?_
  exact g_iret dX12_owesIn_28 rfl rfl

set_option maxHeartbeats 4000000 in
set_option maxRecDepth 100000 in
theorem v_X12_owesNow (X : mCx) (d : Nat) {S : mSh} {I : mI} {R : mR} {w s : Nat → Int32} {N G hb : Nat} {i : Nat} (hm : Mod S R) (hw : MoW I w N G) (hd : MoD I 0 s hb) (hi : i < N) : CC X (d + 4) M_X12_owesNow [.ref 97, .int (nI i)] S (I, R) (some (.int (owe w s N G hb i))) S (I, R) := by
  have hN6 := hw.N6
  have hG8 := hw.G8
  refine CC.of2 (L := [.ref 97, .int (nI i)]) p_X12 (Nat.le_of_ble_eq_true rfl) rfl rfl (List.prefix_refl S) ?_
  refine r_aload_n dX12_owesNow_0 rfl ?_
  refine r_iconst dX12_owesNow_1 ic_0 ?_
  refine r_iload_n dX12_owesNow_2 rfl ?_
  refine r_bipush dX12_owesNow_3 bp_m4 ?_
  refine r_V3 dX12_owesNow_5 l_X12_141 k_X12_owesIn i_X12_owesIn (Mod.sg (by assumption)) ⟨_, rfl⟩ (Nat.le_of_ble_eq_true rfl) (v_X12_owesIn X _ (by first | assumption | omega) (by first | assumption | omega) (by first | assumption | omega) (by first | assumption | omega)) (List.prefix_refl S) ?_
  exact g_iret dX12_owesNow_8 (by rw [lLw_n hN6]; rfl) rfl

set_option maxHeartbeats 4000000 in
set_option maxRecDepth 100000 in
theorem v_X12_isAlone (X : mCx) (d : Nat) {S : mSh} {I : mI} {R : mR} {w : Nat → Int32} {N G : Nat} {b : Nat} (hm : Mod S R) (hw : MoW I w N G) (hb : b < 256) : CC X (d + 1) M_X12_isAlone [.ref 97, .int (nI b)] S (I, R) (some (.int (bI (alone w N b)))) S (I, R) := by
  have hN6 := hw.N6
  have hG8 := hw.G8
  refine CC.of2 (L := [.ref 97, .int (nI b), .retAddr 0, .retAddr 0]) p_X12 (Nat.le_of_ble_eq_true rfl) rfl (mRok_b _) (List.prefix_refl S) ?_
  refine r_iconst dX12_isAlone_0 ic_0 ?_
  refine r_istore_n (L' := [_, _, _, _]) dX12_isAlone_1 rfl rfl ?_
  refine r_iconst dX12_isAlone_2 ic_0 ?_
  refine r_istore_n (L' := [_, _, _, _]) dX12_isAlone_3 rfl rfl ?_
  refine JJ.loop N (fun j => [.ref 97, .int (nI b), .int (bI (alone w j b)), .int (nI j)]) (fun j => (I, R)) (fun j => True) rfl rfl trivial (fun hp => ?_) (fun j hj hp K => ?_)
  · skip
    refine r_iload_n dX12_isAlone_4 rfl ?_
    refine r_aload_n dX12_isAlone_5 rfl ?_
    refine g_getR dX12_isAlone_6 f_X12_7 (Mod.sg (by assumption)) rfl (Mod.r98 (by assumption)) ?_
    refine r_iconst dX12_isAlone_9 ic_0 ?_
    refine g_iald dX12_isAlone_10 (Mod.s98 (by assumption)) rfl (by omega) (by omega) hw.n0 ?_
    refine n_icmp_ge (tgt := 49) dX12_isAlone_11 (by decide) (by omega) (by omega) (fun c11 => ?_) (fun c11 => absurd c11 (by omega))
    refine r_iload_n dX12_isAlone_49 rfl ?_
    exact g_iret dX12_isAlone_50 rfl rfl
  · skip
    refine r_iload_n dX12_isAlone_4 rfl ?_
    refine r_aload_n dX12_isAlone_5 rfl ?_
    refine g_getR dX12_isAlone_6 f_X12_7 (Mod.sg (by assumption)) rfl (Mod.r98 (by assumption)) ?_
    refine r_iconst dX12_isAlone_9 ic_0 ?_
    refine g_iald dX12_isAlone_10 (Mod.s98 (by assumption)) rfl (by omega) (by omega) hw.n0 ?_
    refine n_icmp_ge (tgt := 49) dX12_isAlone_11 (by decide) (by omega) (by omega) (fun c11 => absurd c11 (by omega)) (fun c11 => ?_)
    refine r_iload_n dX12_isAlone_14 rfl ?_
    refine r_ifB_ne (tgt := 37) dX12_isAlone_15 (by decide) (fun c15 => ?_) (fun c15 => ?_)
    · skip
      refine r_iconst dX12_isAlone_37 ic_1 ?_
      refine r_goto (tgt := 42) dX12_isAlone_38 (by decide) ?_
      refine r_istore_n (L' := [_, _, _, _]) dX12_isAlone_42 rfl rfl ?_
      refine r_iinc (L' := [_, _, _, _]) dX12_isAlone_43 rfl rfl (nI_inc _) rfl ?_
      refine r_goto (tgt := 4) dX12_isAlone_46 (by decide) ?_
      first | (exact JJ.to (K trivial) (by rw [show alone w (j + 1) b = true by (rw [alone_s, c15]; first | rfl | simp [*])]; rfl) rfl rfl) | (exact JJ.to (K trivial) (by rw [show alone w (j + 1) b = false by (rw [alone_s, c15]; first | rfl | simp [*])]; rfl) rfl rfl)
    · skip
      refine r_iload_n dX12_isAlone_18 rfl ?_
      refine r_iconst dX12_isAlone_19 ic_1 ?_
      refine r_iload_n dX12_isAlone_20 rfl ?_
      refine r_ishl dX12_isAlone_21 ?_
      refine g_top (shl1 (by omega)) ?_
      refine n_icmp_ne (tgt := 41) dX12_isAlone_22 (by decide) (by omega) (p2_lt (by omega)) (fun c22 => ?_) (fun c22 => ?_)
      · skip
        refine r_iconst dX12_isAlone_41 ic_0 ?_
        refine r_istore_n (L' := [_, _, _, _]) dX12_isAlone_42 rfl rfl ?_
        refine r_iinc (L' := [_, _, _, _]) dX12_isAlone_43 rfl rfl (nI_inc _) rfl ?_
        refine r_goto (tgt := 4) dX12_isAlone_46 (by decide) ?_
        first | (exact JJ.to (K trivial) (by rw [show alone w (j + 1) b = true by (rw [alone_s, c15]; first | rfl | simp [*])]; rfl) rfl rfl) | (exact JJ.to (K trivial) (by rw [show alone w (j + 1) b = false by (rw [alone_s, c15]; first | rfl | simp [*])]; rfl) rfl rfl)
      · skip
        refine r_aload_n dX12_isAlone_25 rfl ?_
        refine g_getR dX12_isAlone_26 f_X12_7 (Mod.sg (by assumption)) rfl (Mod.r98 (by assumption)) ?_
        refine r_iconst dX12_isAlone_29 ic_3 ?_
        refine r_iload_n dX12_isAlone_30 rfl ?_
        refine n_iadd dX12_isAlone_31 ?_
        refine g_iald dX12_isAlone_32 (Mod.s98 (by assumption)) rfl (by omega) (by omega) (hw.at (by omega)) ?_
        refine r_iconst dX12_isAlone_33 ic_3 ?_
        refine r_icmp_ne (tgt := 41) dX12_isAlone_34 (by decide) (fun c34 => ?_) (fun c34 => ?_)
        · skip
          refine r_iconst dX12_isAlone_41 ic_0 ?_
          refine r_istore_n (L' := [_, _, _, _]) dX12_isAlone_42 rfl rfl ?_
          refine r_iinc (L' := [_, _, _, _]) dX12_isAlone_43 rfl rfl (nI_inc _) rfl ?_
          refine r_goto (tgt := 4) dX12_isAlone_46 (by decide) ?_
          first | (exact JJ.to (K trivial) (by rw [show alone w (j + 1) b = true by (rw [alone_s, c15]; first | rfl | simp [*])]; rfl) rfl rfl) | (exact JJ.to (K trivial) (by rw [show alone w (j + 1) b = false by (rw [alone_s, c15]; first | rfl | simp [*])]; rfl) rfl rfl)
        · skip
          refine r_iconst dX12_isAlone_37 ic_1 ?_
          refine r_goto (tgt := 42) dX12_isAlone_38 (by decide) ?_
          refine r_istore_n (L' := [_, _, _, _]) dX12_isAlone_42 rfl rfl ?_
          refine r_iinc (L' := [_, _, _, _]) dX12_isAlone_43 rfl rfl (nI_inc _) rfl ?_
          refine r_goto (tgt := 4) dX12_isAlone_46 (by decide) ?_
          first | (exact JJ.to (K trivial) (by rw [show alone w (j + 1) b = true by (rw [alone_s, c15]; first | rfl | simp [*])]; rfl) rfl rfl) | (exact JJ.to (K trivial) (by rw [show alone w (j + 1) b = false by (rw [alone_s, c15]; first | rfl | simp [*])]; rfl) rfl rfl)

/-- what i's packed goods weigh -/
def hvM (w s : Nat → Int32) (G i : Nat) : Int32 := nSum G (fun g => if s (19 + g) = nI i ∧ s (27 + g) = nI 1 then w (45 + g) else 0)
set_option maxHeartbeats 4000000 in
set_option maxRecDepth 100000 in
theorem v_X12_heavyOf (X : mCx) (d : Nat) {S : mSh} {I : mI} {R : mR} {w s : Nat → Int32} {N G hb : Nat} {i : Nat} (hm : Mod S R) (hw : MoW I w N G) (hd : MoD I 0 s hb)  : CC X (d + 1) M_X12_heavyOf [.ref 97, .int (nI i)] S (I, R) (some (.int (hvM w s G i))) S (I, R) := by
  have hN6 := hw.N6
  have hG8 := hw.G8
  refine CC.of2 (L := [.ref 97, .int (nI i), .retAddr 0, .retAddr 0]) p_X12 (Nat.le_of_ble_eq_true rfl) rfl rfl (List.prefix_refl S) ?_
  refine r_iconst dX12_heavyOf_0 ic_0 ?_
  refine r_istore_n (L' := [_, _, _, _]) dX12_heavyOf_1 rfl rfl ?_
  refine r_iconst dX12_heavyOf_2 ic_0 ?_
  refine r_istore_n (L' := [_, _, _, _]) dX12_heavyOf_3 rfl rfl ?_
  refine JJ.loop G (fun j => [.ref 97, .int (nI i), .int (hvM w s j i), .int (nI j)]) (fun j => (I, R)) (fun j => True) (by simp [nI_0, hvM, nSum]) rfl trivial (fun hp => ?_) (fun j hj hp K => ?_)
  · skip
    refine r_iload_n dX12_heavyOf_4 rfl ?_
    refine r_aload_n dX12_heavyOf_5 rfl ?_
    refine g_getR dX12_heavyOf_6 f_X12_7 (Mod.sg (by assumption)) rfl (Mod.r98 (by assumption)) ?_
    refine r_iconst dX12_heavyOf_9 ic_1 ?_
    refine g_iald dX12_heavyOf_10 (Mod.s98 (by assumption)) rfl (by omega) (by omega) hw.n1 ?_
    refine n_icmp_ge (tgt := 62) dX12_heavyOf_11 (by decide) (by omega) (by omega) (fun c11 => ?_) (fun c11 => absurd c11 (by omega))
    refine r_iload_n dX12_heavyOf_62 rfl ?_
    exact g_iret dX12_heavyOf_63 rfl rfl
  · skip
    refine r_iload_n dX12_heavyOf_4 rfl ?_
    refine r_aload_n dX12_heavyOf_5 rfl ?_
    refine g_getR dX12_heavyOf_6 f_X12_7 (Mod.sg (by assumption)) rfl (Mod.r98 (by assumption)) ?_
    refine r_iconst dX12_heavyOf_9 ic_1 ?_
    refine g_iald dX12_heavyOf_10 (Mod.s98 (by assumption)) rfl (by omega) (by omega) hw.n1 ?_
    refine n_icmp_ge (tgt := 62) dX12_heavyOf_11 (by decide) (by omega) (by omega) (fun c11 => absurd c11 (by omega)) (fun c11 => ?_)
    refine r_iload_n dX12_heavyOf_14 rfl ?_
    refine r_aload_n dX12_heavyOf_15 rfl ?_
    refine g_getR dX12_heavyOf_16 f_X12_13 (Mod.sg (by assumption)) rfl (Mod.r99 (by assumption)) ?_
    refine r_bipush dX12_heavyOf_19 bp_19 ?_
    refine r_iload_n dX12_heavyOf_21 rfl ?_
    refine n_iadd dX12_heavyOf_22 ?_
    refine g_iald dX12_heavyOf_23 (Mod.s99 (by assumption)) rfl (by omega) (by omega) (hd.at (k := 19 + j) (by omega) (by omega)) ?_
    refine r_iload_n dX12_heavyOf_24 rfl ?_
    refine r_icmp_ne (tgt := 53) dX12_heavyOf_25 (by decide) (fun c25 => ?_) (fun c25 => ?_)
    · skip
      refine r_iconst dX12_heavyOf_53 ic_0 ?_
      refine r_iadd dX12_heavyOf_54 ?_
      refine r_istore_n (L' := [_, _, _, _]) dX12_heavyOf_55 rfl rfl ?_
      refine r_iinc (L' := [_, _, _, _]) dX12_heavyOf_56 rfl rfl (nI_inc _) rfl ?_
      refine r_goto (tgt := 4) dX12_heavyOf_59 (by decide) ?_
      exact JJ.to (K trivial) (by simp [hvM, nSum, nI_0, *]) rfl rfl
    · skip
      refine r_aload_n dX12_heavyOf_28 rfl ?_
      refine g_getR dX12_heavyOf_29 f_X12_13 (Mod.sg (by assumption)) rfl (Mod.r99 (by assumption)) ?_
      refine r_bipush dX12_heavyOf_32 bp_27 ?_
      refine r_iload_n dX12_heavyOf_34 rfl ?_
      refine n_iadd dX12_heavyOf_35 ?_
      refine g_iald dX12_heavyOf_36 (Mod.s99 (by assumption)) rfl (by omega) (by omega) (hd.at (k := 27 + j) (by omega) (by omega)) ?_
      refine r_iconst dX12_heavyOf_37 ic_1 ?_
      refine r_icmp_ne (tgt := 53) dX12_heavyOf_38 (by decide) (fun c38 => ?_) (fun c38 => ?_)
      · skip
        refine r_iconst dX12_heavyOf_53 ic_0 ?_
        refine r_iadd dX12_heavyOf_54 ?_
        refine r_istore_n (L' := [_, _, _, _]) dX12_heavyOf_55 rfl rfl ?_
        refine r_iinc (L' := [_, _, _, _]) dX12_heavyOf_56 rfl rfl (nI_inc _) rfl ?_
        refine r_goto (tgt := 4) dX12_heavyOf_59 (by decide) ?_
        exact JJ.to (K trivial) (by simp [hvM, nSum, nI_0, *]) rfl rfl
      · skip
        refine r_aload_n dX12_heavyOf_41 rfl ?_
        refine g_getR dX12_heavyOf_42 f_X12_7 (Mod.sg (by assumption)) rfl (Mod.r98 (by assumption)) ?_
        refine r_bipush dX12_heavyOf_45 bp_45 ?_
        refine r_iload_n dX12_heavyOf_47 rfl ?_
        refine n_iadd dX12_heavyOf_48 ?_
        refine g_iald dX12_heavyOf_49 (Mod.s98 (by assumption)) rfl (by omega) (by omega) (hw.at (by omega)) ?_
        refine r_goto (tgt := 54) dX12_heavyOf_50 (by decide) ?_
        refine r_iadd dX12_heavyOf_54 ?_
        refine r_istore_n (L' := [_, _, _, _]) dX12_heavyOf_55 rfl rfl ?_
        refine r_iinc (L' := [_, _, _, _]) dX12_heavyOf_56 rfl rfl (nI_inc _) rfl ?_
        refine r_goto (tgt := 4) dX12_heavyOf_59 (by decide) ?_
        exact JJ.to (K trivial) (by simp [hvM, nSum, nI_0, *]) rfl rfl

set_option maxHeartbeats 4000000 in
set_option maxRecDepth 100000 in
theorem v_X12_isOurs_n (X : mCx) (d : Nat) {S : mSh} {I : mI} {R : mR} {s : Nat → Int32} {hb : Nat} {g : Nat} (hm : Mod S R) (hd : MoD I 0 s hb) (hg : g < 8) (e : s (19 + g) = -4) : CC X (d + 1) M_X12_isOurs [.ref 97, .int (nI g)] S (I, R) (some (.int (bI false))) S (I, R) := by
  refine CC.of2 (L := [.ref 97, .int (nI g)]) p_X12 (Nat.le_of_ble_eq_true rfl) rfl (mRok_b _) (List.prefix_refl S) ?_
  refine r_aload_n dX12_isOurs_0 rfl ?_
  refine g_getR dX12_isOurs_1 f_X12_13 (Mod.sg (by assumption)) rfl (Mod.r99 (by assumption)) ?_
  refine r_bipush dX12_isOurs_4 bp_19 ?_
  refine r_iload_n dX12_isOurs_6 rfl ?_
  refine n_iadd dX12_isOurs_7 ?_
  refine g_iald dX12_isOurs_8 (Mod.s99 (by assumption)) rfl (by omega) (by omega) ((hd.at (k := 19 + g) (by omega) (by omega)).trans e) ?_
  refine r_bipush dX12_isOurs_9 bp_m4 ?_
  refine r_icmp_eq (tgt := 34) dX12_isOurs_11 (by decide) (fun c11 => ?_) (fun c11 => absurd rfl c11)
  refine r_iconst dX12_isOurs_34 ic_0 ?_
  exact g_iret dX12_isOurs_35 (rB0 rfl) rfl

set_option maxHeartbeats 4000000 in
set_option maxRecDepth 100000 in
theorem v_X12_isOurs_p (X : mCx) (d : Nat) {S : mSh} {I : mI} {R : mR} {s : Nat → Int32} {hb : Nat} {g q : Nat} (hm : Mod S R) (hd : MoD I 0 s hb) (hg : g < 8) (hq : q < 6) (e : s (19 + g) = nI q) : CC X (d + 3) M_X12_isOurs [.ref 97, .int (nI g)] S (I, R) (some (.int (bI (hb.testBit q)))) S (I, R) := by
  refine CC.of2 (L := [.ref 97, .int (nI g)]) p_X12 (Nat.le_of_ble_eq_true rfl) rfl (mRok_b _) (List.prefix_refl S) ?_
  refine r_aload_n dX12_isOurs_0 rfl ?_
  refine g_getR dX12_isOurs_1 f_X12_13 (Mod.sg (by assumption)) rfl (Mod.r99 (by assumption)) ?_
  refine r_bipush dX12_isOurs_4 bp_19 ?_
  refine r_iload_n dX12_isOurs_6 rfl ?_
  refine n_iadd dX12_isOurs_7 ?_
  refine g_iald dX12_isOurs_8 (Mod.s99 (by assumption)) rfl (by omega) (by omega) ((hd.at (k := 19 + g) (by omega) (by omega)).trans e) ?_
  refine r_bipush dX12_isOurs_9 bp_m4 ?_
  refine r_icmp_eq (tgt := 34) dX12_isOurs_11 (by decide) (fun c11 => absurd c11 (nI_ne4 (by omega))) (fun c11 => ?_)
  refine r_aload_n dX12_isOurs_14 rfl ?_
  refine r_aload_n dX12_isOurs_15 rfl ?_
  refine g_getR dX12_isOurs_16 f_X12_13 (Mod.sg (by assumption)) rfl (Mod.r99 (by assumption)) ?_
  refine r_bipush dX12_isOurs_19 bp_19 ?_
  refine r_iload_n dX12_isOurs_21 rfl ?_
  refine n_iadd dX12_isOurs_22 ?_
  refine g_iald dX12_isOurs_23 (Mod.s99 (by assumption)) rfl (by omega) (by omega) ((hd.at (k := 19 + g) (by omega) (by omega)).trans e) ?_
  refine r_V1 dX12_isOurs_24 l_X12_118 k_X12_isHere i_X12_isHere (Mod.sg (by assumption)) ⟨_, rfl⟩ (Nat.le_of_ble_eq_true rfl) (v_X12_isHere X _ (by first | assumption | omega) (by first | assumption | omega) (by first | assumption | omega)) (List.prefix_refl S) ?_
  refine r_ifB_eq (tgt := 34) dX12_isOurs_27 (by decide) (fun c27 => ?_) (fun c27 => ?_)
  · skip
    refine r_iconst dX12_isOurs_34 ic_0 ?_
    exact g_iret dX12_isOurs_35 (rB0 c27) rfl
  · skip
    refine r_iconst dX12_isOurs_30 ic_1 ?_
    refine r_goto (tgt := 35) dX12_isOurs_31 (by decide) ?_
    exact g_iret dX12_isOurs_35 (rB1 c27) rfl

set_option maxHeartbeats 4000000 in
set_option maxRecDepth 100000 in
theorem v_X12_canLeave (X : mCx) (d : Nat) {S : mSh} {I : mI} {R : mR} {w s : Nat → Int32} {N G hb h : Nat} {i : Nat} (hm : Mod S R) (hw : MoW I w N G) (hd : MoD I h s hb) (hi : i < N) : CC X (d + 4) M_X12_canLeave [.ref 97, .int (nI h), .int (nI i)] S (I, R) (some (.int (bI (!decide (s (1 + i) < owe w s N G hb i) && !alone w N (clr hb i))))) S (I, R) := by
  have hN6 := hw.N6
  have hG8 := hw.G8
  have hh := hd.hh
  have h256 := hd.b256
  have hcl := clr_le hb i
  refine CC.of2 (L := [.ref 97, .int (nI h), .int (nI i)]) p_X12 (Nat.le_of_ble_eq_true rfl) rfl (mRok_b _) (List.prefix_refl S) ?_
  refine r_aload_n dX12_canLeave_0 rfl ?_
  refine g_getR dX12_canLeave_1 f_X12_13 (Mod.sg (by assumption)) rfl (Mod.r99 (by assumption)) ?_
  refine r_iload_n dX12_canLeave_4 rfl ?_
  refine r_iconst dX12_canLeave_5 ic_1 ?_
  refine n_iadd dX12_canLeave_6 ?_
  refine r_iload_n dX12_canLeave_7 rfl ?_
  refine n_iadd dX12_canLeave_8 ?_
  refine g_iald dX12_canLeave_9 (Mod.s99 (by assumption)) rfl (by omega) (by omega) (hd.at (k := 1 + i) (by omega) (by omega)) ?_
  refine r_aload_n dX12_canLeave_10 rfl ?_
  refine r_iload_n dX12_canLeave_11 rfl ?_
  refine r_iload_n dX12_canLeave_12 rfl ?_
  refine r_bipush dX12_canLeave_13 bp_m4 ?_
  refine r_V3 dX12_canLeave_15 l_X12_141 k_X12_owesIn i_X12_owesIn (Mod.sg (by assumption)) ⟨_, rfl⟩ (Nat.le_of_ble_eq_true rfl) (v_X12_owesIn X _ (by first | assumption | omega) (by first | assumption | omega) (by first | assumption | omega) (by first | assumption | omega)) (List.prefix_refl S) ?_
  rw [lLw_n hN6]
  refine r_icmp_lt (tgt := 46) dX12_canLeave_18 (by decide) (fun c18 => ?_) (fun c18 => ?_)
  · have c18 : s (1 + i) < owe w s N G hb i := c18
    refine r_iconst dX12_canLeave_46 ic_0 ?_
    exact g_iret dX12_canLeave_47 (rB0 (by simp [*])) rfl
  · have c18 : ¬ s (1 + i) < owe w s N G hb i := c18
    refine r_aload_n dX12_canLeave_21 rfl ?_
    refine r_aload_n dX12_canLeave_22 rfl ?_
    refine g_getR dX12_canLeave_23 f_X12_13 (Mod.sg (by assumption)) rfl (Mod.r99 (by assumption)) ?_
    refine r_iload_n dX12_canLeave_26 rfl ?_
    refine r_iconst dX12_canLeave_27 ic_0 ?_
    refine n_iadd dX12_canLeave_28 ?_
    refine g_iald dX12_canLeave_29 (Mod.s99 (by assumption)) rfl (by omega) (by omega) (hd.h0 (by omega)) ?_
    refine r_iconst dX12_canLeave_30 ic_1 ?_
    refine r_iload_n dX12_canLeave_31 rfl ?_
    refine r_ishl dX12_canLeave_32 ?_
    refine g_top (shl1 (by omega)) ?_
    refine r_iconst dX12_canLeave_33 ic_m1 ?_
    refine r_ixor dX12_canLeave_34 ?_
    refine r_iand dX12_canLeave_35 ?_
    refine g_top (clr_eq (by omega) (by omega)) ?_
    refine r_V1 dX12_canLeave_36 l_X12_160 k_X12_isAlone i_X12_isAlone (Mod.sg (by assumption)) ⟨_, rfl⟩ (Nat.le_of_ble_eq_true rfl) (v_X12_isAlone X _ (by first | assumption | omega) (by first | assumption | omega) (by first | assumption | omega)) (List.prefix_refl S) ?_
    refine r_ifB_ne (tgt := 46) dX12_canLeave_39 (by decide) (fun c39 => ?_) (fun c39 => ?_)
    · skip
      refine r_iconst dX12_canLeave_46 ic_0 ?_
      exact g_iret dX12_canLeave_47 (rB0 (by simp [*])) rfl
    · skip
      refine r_iconst dX12_canLeave_42 ic_1 ?_
      refine r_goto (tgt := 47) dX12_canLeave_43 (by decide) ?_
      exact g_iret dX12_canLeave_47 (rB1 (by simp [*])) rfl

set_option maxHeartbeats 4000000 in
set_option maxRecDepth 100000 in
theorem v_X12_backFor (X : mCx) (d : Nat) {S : mSh} {I : mI} {R : mR} {w s : Nat → Int32} {N G hb h : Nat} {i : Nat} (hm : Mod S R) (hw : MoW I w N G) (hd : MoD I h s hb) (hi : i < N) : CC X (d + 1) M_X12_backFor [.ref 97, .int (nI h), .int (nI i)] S (I, R) (some (.int (feeB w s i))) S (I, R) := by
  have hN6 := hw.N6
  have hG8 := hw.G8
  have hh := hd.hh
  refine CC.of2 (L := [.ref 97, .int (nI h), .int (nI i)]) p_X12 (Nat.le_of_ble_eq_true rfl) rfl rfl (List.prefix_refl S) ?_
  refine r_aload_n dX12_backFor_0 rfl ?_
  refine g_getR dX12_backFor_1 f_X12_7 (Mod.sg (by assumption)) rfl (Mod.r98 (by assumption)) ?_
  refine r_iconst dX12_backFor_4 ic_3 ?_
  refine r_iload_n dX12_backFor_5 rfl ?_
  refine n_iadd dX12_backFor_6 ?_
  refine g_iald dX12_backFor_7 (Mod.s98 (by assumption)) rfl (by omega) (by omega) (hw.at (by omega)) ?_
  refine r_iconst dX12_backFor_8 ic_2 ?_
  refine r_icmp_ne (tgt := 26) dX12_backFor_9 (by decide) (fun c9 => ?_) (fun c9 => ?_)
  · skip
    refine r_iconst dX12_backFor_26 ic_0 ?_
    exact g_iret dX12_backFor_27 (by simp [feeB, *]) rfl
  · skip
    refine r_aload_n dX12_backFor_12 rfl ?_
    refine g_getR dX12_backFor_13 f_X12_13 (Mod.sg (by assumption)) rfl (Mod.r99 (by assumption)) ?_
    refine r_iload_n dX12_backFor_16 rfl ?_
    refine r_bipush dX12_backFor_17 bp_13 ?_
    refine n_iadd dX12_backFor_19 ?_
    refine r_iload_n dX12_backFor_20 rfl ?_
    refine n_iadd dX12_backFor_21 ?_
    refine g_iald dX12_backFor_22 (Mod.s99 (by assumption)) rfl (by omega) (by omega) (hd.at (k := 13 + i) (by omega) (by omega)) ?_
    refine r_goto (tgt := 27) dX12_backFor_23 (by decide) ?_
    exact g_iret dX12_backFor_27 (by simp [feeB, *]) rfl

set_option maxHeartbeats 4000000 in
set_option maxRecDepth 100000 in
theorem v_X12_ones (X : mCx) (d : Nat) {S : mSh} {I : mI} {R : mR} {b : Nat} (hb : b < 256) : CC X (d + 1) M_X12_ones [.int (nI b)] S (I, R) (some (.int (nI (pop b)))) S (I, R) := by
  refine CC.of2 (L := [.int (nI b), .retAddr 0, .retAddr 0]) p_X12 (Nat.le_of_ble_eq_true rfl) rfl rfl (List.prefix_refl S) ?_
  refine r_iconst dX12_ones_0 ic_0 ?_
  refine r_istore_n (L' := [_, _, _]) dX12_ones_1 rfl rfl ?_
  refine r_iconst dX12_ones_2 ic_0 ?_
  refine r_istore_n (L' := [_, _, _]) dX12_ones_3 rfl rfl ?_
  refine JJ.loop 8 (fun j => [.int (nI b), .int (nI (nFold j (fun k n => if b.testBit k = true then n + 1 else n) 0)), .int (nI j)]) (fun j => (I, R)) (fun j => True) rfl rfl trivial (fun hp => ?_) (fun j hj hp K => ?_)
  · skip
    refine r_iload_n dX12_ones_4 rfl ?_
    refine r_bipush dX12_ones_5 bp_8 ?_
    refine n_icmp_ge (tgt := 24) dX12_ones_7 (by decide) (by omega) (by omega) (fun c7 => ?_) (fun c7 => (by exfalso; omega))
    refine r_iload_n dX12_ones_24 rfl ?_
    exact g_iret dX12_ones_25 rfl rfl
  · skip
    refine r_iload_n dX12_ones_4 rfl ?_
    refine r_bipush dX12_ones_5 bp_8 ?_
    refine n_icmp_ge (tgt := 24) dX12_ones_7 (by decide) (by omega) (by omega) (fun c7 => absurd c7 (by omega)) (fun c7 => ?_)
    refine r_iload_n dX12_ones_10 rfl ?_
    refine r_iload_n dX12_ones_11 rfl ?_
    refine r_iload_n dX12_ones_12 rfl ?_
    refine r_ishr dX12_ones_13 ?_
    refine r_iconst dX12_ones_14 ic_1 ?_
    refine r_iand dX12_ones_15 ?_
    refine g_top (bitv hb (by omega)) ?_
    refine r_iadd dX12_ones_16 ?_
    refine g_top (on_s (nFold j (fun k n => if b.testBit k = true then n + 1 else n) 0) (b.testBit j)) ?_
    refine r_istore_n (L' := [_, _, _]) dX12_ones_17 rfl rfl ?_
    refine r_iinc (L' := [_, _, _]) dX12_ones_18 rfl rfl (nI_inc _) rfl ?_
    refine r_goto (tgt := 4) dX12_ones_21 (by decide) ?_
    exact JJ.to (K trivial) (by rw [nFold]) rfl rfl

