/-! ===== the class: small methods ===== -/
def fil (I : mI) (o n : Nat) (v : Int32) : mI := fun a b => if a = o ∧ b < n then v else I a b
theorem fil_0 (I : mI) (o : Nat) (v : Int32) : fil I o 0 v = I := by funext a b; simp [fil]
theorem fil_s (I : mI) (o j : Nat) (v : Int32) : sJ (fil I o j v) o j v = fil I o (j + 1) v := by
  funext a b
  unfold sJ fil
  by_cases h : a = o
  · subst h
    by_cases h1 : b = j
    · subst h1; simp
    · by_cases h2 : b < j
      · rw [if_neg (by simp [h1]), if_pos ⟨rfl, h2⟩, if_pos ⟨rfl, by omega⟩]
      · rw [if_neg (by simp [h1]), if_neg (by simp [h2]), if_neg (by simp; omega)]
  · simp [h]
def cpy (I : mI) (o q n : Nat) : mI := fun a b => if a = q ∧ b < n then I o b else I a b
theorem cpy_0 (I : mI) (o q : Nat) : cpy I o q 0 = I := by funext a b; simp [cpy]
theorem cpy_s (I : mI) (o q j : Nat) : sJ (cpy I o q j) q j (I o j) = cpy I o q (j + 1) := by
  funext a b
  unfold sJ cpy
  by_cases h : a = q
  · subst h
    by_cases h1 : b = j
    · subst h1; simp
    · by_cases h2 : b < j
      · rw [if_neg (by simp [h1]), if_pos ⟨rfl, h2⟩, if_pos ⟨rfl, by omega⟩]
      · rw [if_neg (by simp [h1]), if_neg (by simp [h2]), if_neg (by simp; omega)]
  · simp [h]
theorem cpy_o {I : mI} {o q n a : Nat} (h : a ≠ q) : cpy I o q n a = I a := by funext b; simp [cpy, h]
theorem cpy_q {I : mI} {o q n b : Nat} (h : b < n) : cpy I o q n q b = I o b := by simp [cpy, h]
theorem fil_o {I : mI} {o n a : Nat} {v : Int32} (h : a ≠ o) : fil I o n v a = I a := by funext b; simp [fil, h]
theorem fil_q {I : mI} {o n b : Nat} {v : Int32} (h : b < n) : fil I o n v o b = v := by simp [fil, h]
/-- a number that is told: 0 to n - 1 -/
def isP (n : Nat) (x : Int32) : Bool := !decide (x < 0) && !decide (nI n ≤ x)
theorem isP_t {n : Nat} {x : Int32} (h : isP n x = true) (hn : n < 2 ^ 31) : ∃ k, k < n ∧ x = nI k := by
  simp only [isP, Bool.and_eq_true, Bool.not_eq_true', decide_eq_false_iff_not] at h
  obtain ⟨k, hk, rfl⟩ := nI_of h.1
  refine ⟨k, ?_, rfl⟩
  apply Decidable.byContradiction
  intro hc
  exact h.2 ((nI_leI hn hk).mpr (by omega))
theorem isP_n {n k : Nat} (hk : k < n) (hn : n < 2 ^ 31) : isP n (nI k) = true := by
  simp only [isP, Bool.and_eq_true, Bool.not_eq_true', decide_eq_false_iff_not]
  exact ⟨nI_pos (by omega), nI_ge hk hn⟩
/-- good g lies with person i, not packed -/
def ly (s : Nat → Int32) (g i : Nat) : Bool := decide (s (19 + g) = nI i) && decide (s (27 + g) = 0)
/-- the only one here is a grandmother -/
def alone (w : Nat → Int32) (N b : Nat) : Bool := nAny N (fun i => decide (b = 2 ^ i) && decide (w (3 + i) = nI 3))
def gLeft (w s : Nat → Int32) (G i : Nat) : Int32 := nSum G (fun g => if ly s g i = true then cnt w g else 0)
def lLeft (w : Nat → Int32) (N i b : Nat) : Int32 := nSum N (fun j => if j ≠ i ∧ b.testBit j = true then w (53 + (6 * i + j)) else 0)
/-- what is owed of what is left -/
def duty (w : Nat → Int32) (i : Nat) (x : Int32) : Int32 :=
  let q := (if x < 0 then 0 else x) * w 2 / nI 10
  if w (3 + i) = nI 1 ∨ w (3 + i) = nI 2 then q / nI 2 else if w (3 + i) = nI 4 then q / nI 3 else q
set_option maxHeartbeats 4000000 in
set_option maxRecDepth 100000 in
theorem v_X7_get (X : mCx) (d : Nat) {S : mSh} {I : mI} {R : mR} {o n k : Nat} (hs : mSg S o = some (20, n)) (hk : k < n) (hn : n < 2 ^ 31) : CC X (d + 1) M_X7_get [.ref o, .int (nI k)] S (I, R) (some (.int (I o k))) S (I, R) := by
  refine CC.of2 (L := [.ref o, .int (nI k)]) p_X7 (Nat.le_of_ble_eq_true rfl) rfl rfl (List.prefix_refl S) ?_
  refine r_iload_n dX7_get_0 rfl ?_
  refine n_if_lt (tgt := 16) dX7_get_1 (by decide) (by omega) (fun c1 => absurd c1 (Nat.not_lt_zero _)) (fun c1 => ?_)
  refine r_iload_n dX7_get_4 rfl ?_
  refine r_aload_n dX7_get_5 rfl ?_
  refine r_alen_i dX7_get_6 hs (v := nI n) rfl ?_
  refine n_icmp_ge (tgt := 16) dX7_get_7 (by decide) (by omega) (by omega) (fun c7 => absurd c7 (by omega)) (fun c7 => ?_)
  refine r_aload_n dX7_get_10 rfl ?_
  refine r_iload_n dX7_get_11 rfl ?_
  refine g_iald dX7_get_12 hs rfl (by omega) (by omega) rfl ?_
  refine r_goto (tgt := 17) dX7_get_13 (by decide) ?_
  exact g_iret dX7_get_17 rfl rfl

set_option maxHeartbeats 4000000 in
set_option maxRecDepth 100000 in
theorem v_X7_put (X : mCx) (d : Nat) {S : mSh} {I : mI} {R : mR} {o n k : Nat} {v : Int32} (hs : mSg S o = some (20, n)) (hk : k < n) (hn : n < 2 ^ 31) : CC X (d + 1) M_X7_put [.ref o, .int (nI k), .int v] S (I, R) (none) S (sJ I o k v, R) := by
  refine CC.of2 (L := [.ref o, .int (nI k), .int v]) p_X7 (Nat.le_of_ble_eq_true rfl) rfl trivial (List.prefix_refl S) ?_
  refine r_iload_n dX7_put_0 rfl ?_
  refine n_if_lt (tgt := 14) dX7_put_1 (by decide) (by omega) (fun c1 => absurd c1 (Nat.not_lt_zero _)) (fun c1 => ?_)
  refine r_iload_n dX7_put_4 rfl ?_
  refine r_aload_n dX7_put_5 rfl ?_
  refine r_alen_i dX7_put_6 hs (v := nI n) rfl ?_
  refine n_icmp_ge (tgt := 14) dX7_put_7 (by decide) (by omega) (by omega) (fun c7 => absurd c7 (by omega)) (fun c7 => ?_)
  refine r_aload_n dX7_put_10 rfl ?_
  refine r_iload_n dX7_put_11 rfl ?_
  refine r_iload_n dX7_put_12 rfl ?_
  refine g_iast dX7_put_13 hs rfl (by omega) (by omega) ?_
  exact g_vret dX7_put_14 rfl rfl

set_option maxHeartbeats 4000000 in
set_option maxRecDepth 100000 in
theorem v_X7_fill (X : mCx) (d : Nat) {S : mSh} {I : mI} {R : mR} {o n : Nat} {v : Int32} (hs : mSg S o = some (20, n)) (hn : n < 2 ^ 31) : CC X (d + 1) M_X7_fill [.ref o, .int v] S (I, R) (none) S (fil I o n v, R) := by
  refine CC.of2 (L := [.ref o, .int v, .retAddr 0]) p_X7 (Nat.le_of_ble_eq_true rfl) rfl trivial (List.prefix_refl S) ?_
  refine r_iconst dX7_fill_0 ic_0 ?_
  refine r_istore_n (L' := [_, _, _]) dX7_fill_1 rfl rfl ?_
  refine JJ.loop n (fun j => [.ref o, .int v, .int (nI j)]) (fun j => (fil I o j v, R)) (fun j => True) (by simp [nI_0, nSum, nFold]) (by rw [fil_0]) trivial (fun hp => ?_) (fun j hj hp K => ?_)
  · skip
    refine r_iload_n dX7_fill_2 rfl ?_
    refine r_aload_n dX7_fill_3 rfl ?_
    refine r_alen_i dX7_fill_4 hs (v := nI n) rfl ?_
    refine n_icmp_ge (tgt := 18) dX7_fill_5 (by decide) (by omega) (by omega) (fun c5 => ?_) (fun c5 => absurd c5 (by omega))
    exact g_vret dX7_fill_18 rfl rfl
  · skip
    refine r_iload_n dX7_fill_2 rfl ?_
    refine r_aload_n dX7_fill_3 rfl ?_
    refine r_alen_i dX7_fill_4 hs (v := nI n) rfl ?_
    refine n_icmp_ge (tgt := 18) dX7_fill_5 (by decide) (by omega) (by omega) (fun c5 => absurd c5 (by omega)) (fun c5 => ?_)
    refine r_aload_n dX7_fill_8 rfl ?_
    refine r_iload_n dX7_fill_9 rfl ?_
    refine r_iload_n dX7_fill_10 rfl ?_
    refine g_iast dX7_fill_11 hs rfl (by omega) (by omega) ?_
    refine r_iinc (L' := [_, _, _]) dX7_fill_12 rfl rfl (nI_inc _) rfl ?_
    refine r_goto (tgt := 2) dX7_fill_15 (by decide) ?_
    exact JJ.to (K trivial) rfl rfl (by rw [fil_s])

set_option maxHeartbeats 4000000 in
set_option maxRecDepth 100000 in
theorem v_X7_copy (X : mCx) (d : Nat) {S : mSh} {I : mI} {R : mR} {o q n : Nat} (hs : mSg S o = some (20, n)) (hs2 : mSg S q = some (20, n)) (hn : n < 2 ^ 31) (hoq : o ≠ q) : CC X (d + 1) M_X7_copy [.ref o, .ref q] S (I, R) (none) S (cpy I o q n, R) := by
  refine CC.of2 (L := [.ref o, .ref q, .retAddr 0]) p_X7 (Nat.le_of_ble_eq_true rfl) rfl trivial (List.prefix_refl S) ?_
  refine r_iconst dX7_copy_0 ic_0 ?_
  refine r_istore_n (L' := [_, _, _]) dX7_copy_1 rfl rfl ?_
  refine JJ.loop n (fun j => [.ref o, .ref q, .int (nI j)]) (fun j => (cpy I o q j, R)) (fun j => True) (by simp [nI_0, nSum, nFold]) (by rw [cpy_0]) trivial (fun hp => ?_) (fun j hj hp K => ?_)
  · skip
    refine r_iload_n dX7_copy_2 rfl ?_
    refine r_aload_n dX7_copy_3 rfl ?_
    refine r_alen_i dX7_copy_4 hs (v := nI n) rfl ?_
    refine n_icmp_ge (tgt := 26) dX7_copy_5 (by decide) (by omega) (by omega) (fun c5 => ?_) (fun c5 => absurd c5 (by omega))
    exact g_vret dX7_copy_26 rfl rfl
  · skip
    refine r_iload_n dX7_copy_2 rfl ?_
    refine r_aload_n dX7_copy_3 rfl ?_
    refine r_alen_i dX7_copy_4 hs (v := nI n) rfl ?_
    refine n_icmp_ge (tgt := 26) dX7_copy_5 (by decide) (by omega) (by omega) (fun c5 => absurd c5 (by omega)) (fun c5 => ?_)
    refine r_iload_n dX7_copy_8 rfl ?_
    refine r_aload_n dX7_copy_9 rfl ?_
    refine r_alen_i dX7_copy_10 hs2 (v := nI n) rfl ?_
    refine n_icmp_ge (tgt := 26) dX7_copy_11 (by decide) (by omega) (by omega) (fun c11 => absurd c11 (by omega)) (fun c11 => ?_)
    refine r_aload_n dX7_copy_14 rfl ?_
    refine r_iload_n dX7_copy_15 rfl ?_
    refine r_aload_n dX7_copy_16 rfl ?_
    refine r_iload_n dX7_copy_17 rfl ?_
    refine g_iald dX7_copy_18 hs rfl (by omega) (by omega) (by rw [cpy_o hoq]) ?_
    refine g_iast dX7_copy_19 hs2 rfl (by omega) (by omega) ?_
    refine r_iinc (L' := [_, _, _]) dX7_copy_20 rfl rfl (nI_inc _) rfl ?_
    refine r_goto (tgt := 2) dX7_copy_23 (by decide) ?_
    exact JJ.to (K trivial) rfl rfl (by rw [cpy_s])

set_option maxHeartbeats 4000000 in
set_option maxRecDepth 100000 in
theorem v_X1_isPerson (X : mCx) (d : Nat) {S : mSh} {I : mI} {R : mR} {w : Nat → Int32} {N G : Nat} {f : Nat} {x : Int32} (hf : Fam S I R f w N G)  : CC X (d + 1) M_X1_isPerson [.ref f, .int x] S (I, R) (some (.int (bI (isP N x)))) S (I, R) := by
  refine CC.of2 (L := [.ref f, .int x]) p_X1 (Nat.le_of_ble_eq_true rfl) rfl (mRok_b _) (List.prefix_refl S) ?_
  refine r_iload_n dX1_isPerson_0 rfl ?_
  refine r_if_lt (tgt := 16) dX1_isPerson_1 (by decide) (fun c1 => ?_) (fun c1 => ?_)
  · skip
    refine r_iconst dX1_isPerson_16 ic_0 ?_
    exact g_iret dX1_isPerson_17 (rB0 (by simp [isP, *])) rfl
  · skip
    refine r_iload_n dX1_isPerson_4 rfl ?_
    refine r_aload_n dX1_isPerson_5 rfl ?_
    refine g_getI dX1_isPerson_6 f_X1_9 (Fam.sg (by assumption)) rfl hf.hN ?_
    refine r_icmp_ge (tgt := 16) dX1_isPerson_9 (by decide) (fun c9 => ?_) (fun c9 => ?_)
    · skip
      refine r_iconst dX1_isPerson_16 ic_0 ?_
      exact g_iret dX1_isPerson_17 (rB0 (by simp [isP, *])) rfl
    · skip
      refine r_iconst dX1_isPerson_12 ic_1 ?_
      refine r_goto (tgt := 17) dX1_isPerson_13 (by decide) ?_
      exact g_iret dX1_isPerson_17 (rB1 (by simp [isP, *])) rfl

set_option maxHeartbeats 4000000 in
set_option maxRecDepth 100000 in
theorem v_X1_isGood (X : mCx) (d : Nat) {S : mSh} {I : mI} {R : mR} {w : Nat → Int32} {N G : Nat} {f : Nat} {x : Int32} (hf : Fam S I R f w N G)  : CC X (d + 1) M_X1_isGood [.ref f, .int x] S (I, R) (some (.int (bI (isP G x)))) S (I, R) := by
  refine CC.of2 (L := [.ref f, .int x]) p_X1 (Nat.le_of_ble_eq_true rfl) rfl (mRok_b _) (List.prefix_refl S) ?_
  refine r_iload_n dX1_isGood_0 rfl ?_
  refine r_if_lt (tgt := 16) dX1_isGood_1 (by decide) (fun c1 => ?_) (fun c1 => ?_)
  · skip
    refine r_iconst dX1_isGood_16 ic_0 ?_
    exact g_iret dX1_isGood_17 (rB0 (by simp [isP, *])) rfl
  · skip
    refine r_iload_n dX1_isGood_4 rfl ?_
    refine r_aload_n dX1_isGood_5 rfl ?_
    refine g_getI dX1_isGood_6 f_X1_15 (Fam.sg (by assumption)) rfl hf.hG ?_
    refine r_icmp_ge (tgt := 16) dX1_isGood_9 (by decide) (fun c9 => ?_) (fun c9 => ?_)
    · skip
      refine r_iconst dX1_isGood_16 ic_0 ?_
      exact g_iret dX1_isGood_17 (rB0 (by simp [isP, *])) rfl
    · skip
      refine r_iconst dX1_isGood_12 ic_1 ?_
      refine r_goto (tgt := 17) dX1_isGood_13 (by decide) ?_
      exact g_iret dX1_isGood_17 (rB1 (by simp [isP, *])) rfl

set_option maxHeartbeats 4000000 in
set_option maxRecDepth 100000 in
theorem v_X1_kindOf (X : mCx) (d : Nat) {S : mSh} {I : mI} {R : mR} {w : Nat → Int32} {N G : Nat} {f i : Nat} (hf : Fam S I R f w N G) (hi : i < N) : CC X (d + 2) M_X1_kindOf [.ref f, .int (nI i)] S (I, R) (some (.int (w (3 + i)))) S (I, R) := by
  refine CC.of2 (L := [.ref f, .int (nI i)]) p_X1 (Nat.le_of_ble_eq_true rfl) rfl rfl (List.prefix_refl S) ?_
  refine r_aload_n dX1_kindOf_0 rfl ?_
  refine g_getR dX1_kindOf_1 f_X1_21 (Fam.sg (by assumption)) rfl (Fam.r3 (by assumption)) ?_
  refine r_iload_n dX1_kindOf_4 rfl ?_
  refine r_S2 dX1_kindOf_5 l_X1_67 k_X7_get s_X7_get (Nat.le_of_ble_eq_true rfl) (v_X7_get X _ (Fam.s3 (by assumption)) (by have := hf.N6; omega) (by decide)) (List.prefix_refl S) ?_
  exact g_iret dX1_kindOf_8 (by rw [hf.kind i hi]) rfl

set_option maxHeartbeats 4000000 in
set_option maxRecDepth 100000 in
theorem v_X1_strengthOf (X : mCx) (d : Nat) {S : mSh} {I : mI} {R : mR} {w : Nat → Int32} {N G : Nat} {f i : Nat} (hf : Fam S I R f w N G) (hi : i < N) : CC X (d + 2) M_X1_strengthOf [.ref f, .int (nI i)] S (I, R) (some (.int (w (15 + i)))) S (I, R) := by
  refine CC.of2 (L := [.ref f, .int (nI i)]) p_X1 (Nat.le_of_ble_eq_true rfl) rfl rfl (List.prefix_refl S) ?_
  refine r_aload_n dX1_strengthOf_0 rfl ?_
  refine g_getR dX1_strengthOf_1 f_X1_28 (Fam.sg (by assumption)) rfl (Fam.r5 (by assumption)) ?_
  refine r_iload_n dX1_strengthOf_4 rfl ?_
  refine r_S2 dX1_strengthOf_5 l_X1_67 k_X7_get s_X7_get (Nat.le_of_ble_eq_true rfl) (v_X7_get X _ (Fam.s5 (by assumption)) (by have := hf.N6; omega) (by decide)) (List.prefix_refl S) ?_
  exact g_iret dX1_strengthOf_8 (by rw [hf.strength i hi]) rfl

set_option maxHeartbeats 4000000 in
set_option maxRecDepth 100000 in
theorem v_X1_sortOf (X : mCx) (d : Nat) {S : mSh} {I : mI} {R : mR} {w : Nat → Int32} {N G : Nat} {f i : Nat} (hf : Fam S I R f w N G) (hi : i < G) : CC X (d + 2) M_X1_sortOf [.ref f, .int (nI i)] S (I, R) (some (.int (w (21 + i)))) S (I, R) := by
  refine CC.of2 (L := [.ref f, .int (nI i)]) p_X1 (Nat.le_of_ble_eq_true rfl) rfl rfl (List.prefix_refl S) ?_
  refine r_aload_n dX1_sortOf_0 rfl ?_
  refine g_getR dX1_sortOf_1 f_X1_34 (Fam.sg (by assumption)) rfl (Fam.r7 (by assumption)) ?_
  refine r_iload_n dX1_sortOf_4 rfl ?_
  refine r_S2 dX1_sortOf_5 l_X1_67 k_X7_get s_X7_get (Nat.le_of_ble_eq_true rfl) (v_X7_get X _ (Fam.s7 (by assumption)) (by have := hf.G8; omega) (by decide)) (List.prefix_refl S) ?_
  exact g_iret dX1_sortOf_8 (by rw [hf.sort i hi]) rfl

set_option maxHeartbeats 4000000 in
set_option maxRecDepth 100000 in
theorem v_X1_worthOf (X : mCx) (d : Nat) {S : mSh} {I : mI} {R : mR} {w : Nat → Int32} {N G : Nat} {f i : Nat} (hf : Fam S I R f w N G) (hi : i < G) : CC X (d + 2) M_X1_worthOf [.ref f, .int (nI i)] S (I, R) (some (.int (w (37 + i)))) S (I, R) := by
  refine CC.of2 (L := [.ref f, .int (nI i)]) p_X1 (Nat.le_of_ble_eq_true rfl) rfl rfl (List.prefix_refl S) ?_
  refine r_aload_n dX1_worthOf_0 rfl ?_
  refine g_getR dX1_worthOf_1 f_X1_40 (Fam.sg (by assumption)) rfl (Fam.r9 (by assumption)) ?_
  refine r_iload_n dX1_worthOf_4 rfl ?_
  refine r_S2 dX1_worthOf_5 l_X1_67 k_X7_get s_X7_get (Nat.le_of_ble_eq_true rfl) (v_X7_get X _ (Fam.s9 (by assumption)) (by have := hf.G8; omega) (by decide)) (List.prefix_refl S) ?_
  exact g_iret dX1_worthOf_8 (by rw [hf.worth i hi]) rfl

set_option maxHeartbeats 4000000 in
set_option maxRecDepth 100000 in
theorem v_X1_heavyOf (X : mCx) (d : Nat) {S : mSh} {I : mI} {R : mR} {w : Nat → Int32} {N G : Nat} {f i : Nat} (hf : Fam S I R f w N G) (hi : i < G) : CC X (d + 2) M_X1_heavyOf [.ref f, .int (nI i)] S (I, R) (some (.int (w (45 + i)))) S (I, R) := by
  refine CC.of2 (L := [.ref f, .int (nI i)]) p_X1 (Nat.le_of_ble_eq_true rfl) rfl rfl (List.prefix_refl S) ?_
  refine r_aload_n dX1_heavyOf_0 rfl ?_
  refine g_getR dX1_heavyOf_1 f_X1_43 (Fam.sg (by assumption)) rfl (Fam.r10 (by assumption)) ?_
  refine r_iload_n dX1_heavyOf_4 rfl ?_
  refine r_S2 dX1_heavyOf_5 l_X1_67 k_X7_get s_X7_get (Nat.le_of_ble_eq_true rfl) (v_X7_get X _ (Fam.s10 (by assumption)) (by have := hf.G8; omega) (by decide)) (List.prefix_refl S) ?_
  exact g_iret dX1_heavyOf_8 (by rw [hf.heavy i hi]) rfl

set_option maxHeartbeats 4000000 in
set_option maxRecDepth 100000 in
theorem v_X1_countOf (X : mCx) (d : Nat) {S : mSh} {I : mI} {R : mR} {w : Nat → Int32} {N G : Nat} {f i : Nat} (hf : Fam S I R f w N G) (hi : i < G) : CC X (d + 2) M_X1_countOf [.ref f, .int (nI i)] S (I, R) (some (.int (cnt w i))) S (I, R) := by
  refine CC.of2 (L := [.ref f, .int (nI i)]) p_X1 (Nat.le_of_ble_eq_true rfl) rfl rfl (List.prefix_refl S) ?_
  refine r_aload_n dX1_countOf_0 rfl ?_
  refine g_getR dX1_countOf_1 f_X1_46 (Fam.sg (by assumption)) rfl (Fam.r11 (by assumption)) ?_
  refine r_iload_n dX1_countOf_4 rfl ?_
  refine r_S2 dX1_countOf_5 l_X1_67 k_X7_get s_X7_get (Nat.le_of_ble_eq_true rfl) (v_X7_get X _ (Fam.s11 (by assumption)) (by have := hf.G8; omega) (by decide)) (List.prefix_refl S) ?_
  exact g_iret dX1_countOf_8 (by rw [hf.cnt i hi]) rfl

set_option maxHeartbeats 4000000 in
set_option maxRecDepth 100000 in
theorem v_X1_purseOf (X : mCx) (d : Nat) {S : mSh} {I : mI} {R : mR} {w : Nat → Int32} {N G : Nat} {f i : Nat} (hf : Fam S I R f w N G) (hi : i < 6) : CC X (d + 2) M_X1_purseOf [.ref f, .int (nI i)] S (I, R) (some (.int (I (f + 2) i))) S (I, R) := by
  refine CC.of2 (L := [.ref f, .int (nI i)]) p_X1 (Nat.le_of_ble_eq_true rfl) rfl rfl (List.prefix_refl S) ?_
  refine r_aload_n dX1_purseOf_0 rfl ?_
  refine g_getR dX1_purseOf_1 f_X1_25 (Fam.sg (by assumption)) rfl (Fam.r4 (by assumption)) ?_
  refine r_iload_n dX1_purseOf_4 rfl ?_
  refine r_S2 dX1_purseOf_5 l_X1_67 k_X7_get s_X7_get (Nat.le_of_ble_eq_true rfl) (v_X7_get X _ (Fam.s4 (by assumption)) (by omega) (by decide)) (List.prefix_refl S) ?_
  exact g_iret dX1_purseOf_8 rfl rfl

set_option maxHeartbeats 4000000 in
set_option maxRecDepth 100000 in
theorem v_X1_firstOwnerOf (X : mCx) (d : Nat) {S : mSh} {I : mI} {R : mR} {w : Nat → Int32} {N G : Nat} {f g : Nat} (hf : Fam S I R f w N G) (hg : g < 8) : CC X (d + 2) M_X1_firstOwnerOf [.ref f, .int (nI g)] S (I, R) (some (.int (if g < G then w (29 + g) else -4))) S (I, R) := by
  refine CC.of2 (L := [.ref f, .int (nI g)]) p_X1 (Nat.le_of_ble_eq_true rfl) rfl rfl (List.prefix_refl S) ?_
  refine r_aload_n dX1_firstOwnerOf_0 rfl ?_
  refine r_iload_n dX1_firstOwnerOf_1 rfl ?_
  refine r_V1 dX1_firstOwnerOf_2 l_X1_71 k_X1_isGood i_X1_isGood (Fam.sg (by assumption)) ⟨_, rfl⟩ (Nat.le_of_ble_eq_true rfl) (v_X1_isGood X _ (by first | assumption | omega)) (List.prefix_refl S) ?_
  refine r_ifB_eq (tgt := 19) dX1_firstOwnerOf_5 (by decide) (fun c5 => ?_) (fun c5 => ?_)
  · rw [if_neg (fun hk => by rw [isP_n hk (by have := hf.G8; omega)] at c5; cases c5)]
    refine r_bipush dX1_firstOwnerOf_19 bp_m4 ?_
    exact g_iret dX1_firstOwnerOf_21 rfl rfl
  · obtain ⟨k, hk, e⟩ := isP_t c5 (by have := hf.G8; omega)
    have e := (nI_eq (by omega) (by have := hf.G8; omega)).mp e
    subst e
    rw [if_pos hk, ← hf.own g hk]
    refine r_aload_n dX1_firstOwnerOf_8 rfl ?_
    refine g_getR dX1_firstOwnerOf_9 f_X1_37 (Fam.sg (by assumption)) rfl (Fam.r8 (by assumption)) ?_
    refine r_iload_n dX1_firstOwnerOf_12 rfl ?_
    refine r_S2 dX1_firstOwnerOf_13 l_X1_67 k_X7_get s_X7_get (Nat.le_of_ble_eq_true rfl) (v_X7_get X _ (Fam.s8 (by assumption)) (by omega) (by decide)) (List.prefix_refl S) ?_
    refine r_goto (tgt := 21) dX1_firstOwnerOf_16 (by decide) ?_
    exact g_iret dX1_firstOwnerOf_21 rfl rfl

set_option maxHeartbeats 4000000 in
set_option maxRecDepth 100000 in
theorem v_X1_loveOf (X : mCx) (d : Nat) {S : mSh} {I : mI} {R : mR} {w : Nat → Int32} {N G : Nat} {f i j : Nat} (hf : Fam S I R f w N G) (hi : i < N) (hj : j < N) : CC X (d + 2) M_X1_loveOf [.ref f, .int (nI i), .int (nI j)] S (I, R) (some (.int (w (53 + (6 * i + j))))) S (I, R) := by
  refine CC.of2 (L := [.ref f, .int (nI i), .int (nI j)]) p_X1 (Nat.le_of_ble_eq_true rfl) rfl rfl (List.prefix_refl S) ?_
  refine r_aload_n dX1_loveOf_0 rfl ?_
  refine r_iload_n dX1_loveOf_1 rfl ?_
  refine r_V1 dX1_loveOf_2 l_X1_59 k_X1_isPerson i_X1_isPerson (Fam.sg (by assumption)) ⟨_, rfl⟩ (Nat.le_of_ble_eq_true rfl) (v_X1_isPerson X _ (by first | assumption | omega)) (List.prefix_refl S) ?_
  refine r_ifB_eq (tgt := 32) dX1_loveOf_5 (by decide) (fun c5 => absurd (isP_n hi (by have := hf.N6; omega)) (by rw [c5]; decide)) (fun c5 => ?_)
  refine r_aload_n dX1_loveOf_8 rfl ?_
  refine r_iload_n dX1_loveOf_9 rfl ?_
  refine r_V1 dX1_loveOf_10 l_X1_59 k_X1_isPerson i_X1_isPerson (Fam.sg (by assumption)) ⟨_, rfl⟩ (Nat.le_of_ble_eq_true rfl) (v_X1_isPerson X _ (by first | assumption | omega)) (List.prefix_refl S) ?_
  refine r_ifB_eq (tgt := 32) dX1_loveOf_13 (by decide) (fun c13 => absurd (isP_n hj (by have := hf.N6; omega)) (by rw [c13]; decide)) (fun c13 => ?_)
  refine r_aload_n dX1_loveOf_16 rfl ?_
  refine g_getR dX1_loveOf_17 f_X1_31 (Fam.sg (by assumption)) rfl (Fam.r6 (by assumption)) ?_
  refine r_bipush dX1_loveOf_20 bp_6 ?_
  refine r_iload_n dX1_loveOf_22 rfl ?_
  refine n_imul dX1_loveOf_23 ?_
  refine r_iload_n dX1_loveOf_24 rfl ?_
  refine n_iadd dX1_loveOf_25 ?_
  refine r_S2 dX1_loveOf_26 l_X1_67 k_X7_get s_X7_get (Nat.le_of_ble_eq_true rfl) (v_X7_get X _ (Fam.s6 (by assumption)) (by have := hf.N6; omega) (by decide)) (List.prefix_refl S) ?_
  refine r_goto (tgt := 33) dX1_loveOf_29 (by decide) ?_
  exact g_iret dX1_loveOf_33 (by rw [hf.love i j hi hj]) rfl

/-- sort and worth of a new good: what it counts -/
theorem cntv_n1 {t x : Int32} (h : t = nI 1) : cntv t x = -x := by unfold cntv; rw [if_pos h]
theorem cntv_n2 {t x : Int32} (h : t = nI 2) : cntv t x = nI 3 * x := by unfold cntv; rw [if_neg (by rw [h]; decide), if_pos h]
theorem cntv_n3 {t x : Int32} (h : t = nI 3) : cntv t x = x / nI 2 := by unfold cntv; rw [if_neg (by rw [h]; decide), if_neg (by rw [h]; decide), if_pos h]
theorem cntv_n0 {t x : Int32} (h1 : ¬ t = nI 1) (h2 : ¬ t = nI 2) (h3 : ¬ t = nI 3) : cntv t x = x := by unfold cntv; rw [if_neg h1, if_neg h2, if_neg h3]
set_option maxHeartbeats 4000000 in
set_option maxRecDepth 100000 in
theorem v_X1_isLonelyGrandmother (X : mCx) (d : Nat) {S : mSh} {I : mI} {R : mR} {w : Nat → Int32} {N G : Nat} {f b : Nat} (hf : Fam S I R f w N G) (hb : b < 256) : CC X (d + 3) M_X1_isLonelyGrandmother [.ref f, .int (nI b)] S (I, R) (some (.int (bI (alone w N b)))) S (I, R) := by
  have hN6 := hf.N6
  refine CC.of2 (L := [.ref f, .int (nI b), .retAddr 0]) p_X1 (Nat.le_of_ble_eq_true rfl) rfl (mRok_b _) (List.prefix_refl S) ?_
  refine r_iconst dX1_isLonelyGrandmother_0 ic_0 ?_
  refine r_istore_n (L' := [_, _, _]) dX1_isLonelyGrandmother_1 rfl rfl ?_
  refine JJ.loop N (fun j => [.ref f, .int (nI b), .int (nI j)]) (fun j => (I, R)) (fun j => nAny j (fun i => decide (b = 2 ^ i) && decide (w (3 + i) = nI 3)) = false) (by simp [nI_0, nSum, nFold]) rfl rfl (fun hp => ?_) (fun j hj hp K => ?_)
  · skip
    refine r_iload_n dX1_isLonelyGrandmother_2 rfl ?_
    refine r_aload_n dX1_isLonelyGrandmother_3 rfl ?_
    refine g_getI dX1_isLonelyGrandmother_4 f_X1_9 (Fam.sg (by assumption)) rfl hf.hN ?_
    refine n_icmp_ge (tgt := 34) dX1_isLonelyGrandmother_7 (by decide) (by omega) (by omega) (fun c7 => ?_) (fun c7 => absurd c7 (by omega))
    refine r_iconst dX1_isLonelyGrandmother_34 ic_0 ?_
    exact g_iret dX1_isLonelyGrandmother_35 (rB0 hp) rfl
  · skip
    refine r_iload_n dX1_isLonelyGrandmother_2 rfl ?_
    refine r_aload_n dX1_isLonelyGrandmother_3 rfl ?_
    refine g_getI dX1_isLonelyGrandmother_4 f_X1_9 (Fam.sg (by assumption)) rfl hf.hN ?_
    refine n_icmp_ge (tgt := 34) dX1_isLonelyGrandmother_7 (by decide) (by omega) (by omega) (fun c7 => absurd c7 (by omega)) (fun c7 => ?_)
    refine r_iload_n dX1_isLonelyGrandmother_10 rfl ?_
    refine r_iconst dX1_isLonelyGrandmother_11 ic_1 ?_
    refine r_iload_n dX1_isLonelyGrandmother_12 rfl ?_
    refine r_ishl dX1_isLonelyGrandmother_13 ?_
    refine g_top (shl1 (by omega)) ?_
    refine n_icmp_ne (tgt := 28) dX1_isLonelyGrandmother_14 (by decide) (by omega) (p2_lt (by omega)) (fun c14 => ?_) (fun c14 => ?_)
    · skip
      refine r_iinc (L' := [_, _, _]) dX1_isLonelyGrandmother_28 rfl rfl (nI_inc _) rfl ?_
      refine r_goto (tgt := 2) dX1_isLonelyGrandmother_31 (by decide) ?_
      exact JJ.to (K (nAny_s hp (by simp [*]))) rfl rfl rfl
    · skip
      refine r_aload_n dX1_isLonelyGrandmother_17 rfl ?_
      refine r_iload_n dX1_isLonelyGrandmother_18 rfl ?_
      refine r_V1 dX1_isLonelyGrandmother_19 l_X1_74 k_X1_kindOf i_X1_kindOf (Fam.sg (by assumption)) ⟨_, rfl⟩ (Nat.le_of_ble_eq_true rfl) (v_X1_kindOf X _ (by first | assumption | omega) (by first | assumption | omega)) (List.prefix_refl S) ?_
      refine r_iconst dX1_isLonelyGrandmother_22 ic_3 ?_
      refine r_icmp_ne (tgt := 28) dX1_isLonelyGrandmother_23 (by decide) (fun c23 => ?_) (fun c23 => ?_)
      · skip
        refine r_iinc (L' := [_, _, _]) dX1_isLonelyGrandmother_28 rfl rfl (nI_inc _) rfl ?_
        refine r_goto (tgt := 2) dX1_isLonelyGrandmother_31 (by decide) ?_
        exact JJ.to (K (nAny_s hp (by simp [*]))) rfl rfl rfl
      · skip
        refine r_iconst dX1_isLonelyGrandmother_26 ic_1 ?_
        exact g_iret dX1_isLonelyGrandmother_27 (rB1 (nAny_t hj (by simp [*]))) rfl

set_option maxHeartbeats 4000000 in
set_option maxRecDepth 100000 in
theorem v_X8_isHere (X : mCx) (d : Nat) {S : mSh} {I : mI} {R : mR} {s : Nat → Int32} {N G hb pb : Nat} {a i : Nat} (hst : Std S I R a s N G hb pb) (hi : i < 6) : CC X (d + 1) M_X8_isHere [.ref a, .int (nI i)] S (I, R) (some (.int (bI (hb.testBit i)))) S (I, R) := by
  refine CC.of2 (L := [.ref a, .int (nI i)]) p_X8 (Nat.le_of_ble_eq_true rfl) rfl (mRok_b _) (List.prefix_refl S) ?_
  refine r_iload_n dX8_isHere_0 rfl ?_
  refine n_if_lt (tgt := 26) dX8_isHere_1 (by decide) (by omega) (fun c1 => absurd c1 (Nat.not_lt_zero _)) (fun c1 => ?_)
  refine r_iload_n dX8_isHere_4 rfl ?_
  refine r_bipush dX8_isHere_5 bp_6 ?_
  refine n_icmp_ge (tgt := 26) dX8_isHere_7 (by decide) (by omega) (by omega) (fun c7 => absurd c7 (by omega)) (fun c7 => ?_)
  refine r_aload_n dX8_isHere_10 rfl ?_
  refine g_getI dX8_isHere_11 f_X8_9 (Std.sg (by assumption)) rfl hst.here ?_
  refine r_iload_n dX8_isHere_14 rfl ?_
  refine r_ishr dX8_isHere_15 ?_
  refine r_iconst dX8_isHere_16 ic_1 ?_
  refine r_iand dX8_isHere_17 ?_
  refine g_top (bitv hst.h256 (by omega)) ?_
  refine r_iconst dX8_isHere_18 ic_1 ?_
  refine r_icmp_ne (tgt := 26) dX8_isHere_19 (by decide) (fun c19 => ?_) (fun c19 => ?_)
  · have c19 : hb.testBit i = false := by simpa [bI_n1] using c19
    refine r_iconst dX8_isHere_26 ic_0 ?_
    exact g_iret dX8_isHere_27 (rB0 c19) rfl
  · have c19 : hb.testBit i = true := bI_n1.mp c19
    refine r_iconst dX8_isHere_22 ic_1 ?_
    refine r_goto (tgt := 27) dX8_isHere_23 (by decide) ?_
    exact g_iret dX8_isHere_27 (rB1 c19) rfl

set_option maxHeartbeats 4000000 in
set_option maxRecDepth 100000 in
theorem v_X8_isHere_n (X : mCx) (d : Nat) {S : mSh} {I : mI} {R : mR} {s : Nat → Int32} {N G hb pb : Nat} {a : Nat} (hst : Std S I R a s N G hb pb)  : CC X (d + 1) M_X8_isHere [.ref a, .int (-4)] S (I, R) (some (.int (bI false))) S (I, R) := by
  refine CC.of2 (L := [.ref a, .int (-4)]) p_X8 (Nat.le_of_ble_eq_true rfl) rfl (mRok_b _) (List.prefix_refl S) ?_
  refine r_iload_n dX8_isHere_0 rfl ?_
  refine r_if_lt (tgt := 26) dX8_isHere_1 (by decide) (fun c1 => ?_) (fun c1 => absurd (by decide) c1)
  refine r_iconst dX8_isHere_26 ic_0 ?_
  exact g_iret dX8_isHere_27 (rB0 rfl) rfl

set_option maxHeartbeats 4000000 in
set_option maxRecDepth 100000 in
theorem v_X8_isPacked (X : mCx) (d : Nat) {S : mSh} {I : mI} {R : mR} {s : Nat → Int32} {N G hb pb : Nat} {a g : Nat} (hst : Std S I R a s N G hb pb) (hg : g < 8) : CC X (d + 1) M_X8_isPacked [.ref a, .int (nI g)] S (I, R) (some (.int (bI (pb.testBit g)))) S (I, R) := by
  refine CC.of2 (L := [.ref a, .int (nI g)]) p_X8 (Nat.le_of_ble_eq_true rfl) rfl (mRok_b _) (List.prefix_refl S) ?_
  refine r_iload_n dX8_isPacked_0 rfl ?_
  refine n_if_lt (tgt := 26) dX8_isPacked_1 (by decide) (by omega) (fun c1 => absurd c1 (Nat.not_lt_zero _)) (fun c1 => ?_)
  refine r_iload_n dX8_isPacked_4 rfl ?_
  refine r_bipush dX8_isPacked_5 bp_8 ?_
  refine n_icmp_ge (tgt := 26) dX8_isPacked_7 (by decide) (by omega) (by omega) (fun c7 => absurd c7 (by omega)) (fun c7 => ?_)
  refine r_aload_n dX8_isPacked_10 rfl ?_
  refine g_getI dX8_isPacked_11 f_X8_15 (Std.sg (by assumption)) rfl hst.packed ?_
  refine r_iload_n dX8_isPacked_14 rfl ?_
  refine r_ishr dX8_isPacked_15 ?_
  refine r_iconst dX8_isPacked_16 ic_1 ?_
  refine r_iand dX8_isPacked_17 ?_
  refine g_top (bitv hst.p256 (by omega)) ?_
  refine r_iconst dX8_isPacked_18 ic_1 ?_
  refine r_icmp_ne (tgt := 26) dX8_isPacked_19 (by decide) (fun c19 => ?_) (fun c19 => ?_)
  · have c19 : pb.testBit g = false := by simpa [bI_n1] using c19
    refine r_iconst dX8_isPacked_26 ic_0 ?_
    exact g_iret dX8_isPacked_27 (rB0 c19) rfl
  · have c19 : pb.testBit g = true := bI_n1.mp c19
    refine r_iconst dX8_isPacked_22 ic_1 ?_
    refine r_goto (tgt := 27) dX8_isPacked_23 (by decide) ?_
    exact g_iret dX8_isPacked_27 (rB1 c19) rfl

set_option maxHeartbeats 4000000 in
set_option maxRecDepth 100000 in
theorem v_X8_ownerOf (X : mCx) (d : Nat) {S : mSh} {I : mI} {R : mR} {s : Nat → Int32} {N G hb pb : Nat} {a g : Nat} (hst : Std S I R a s N G hb pb) (hg : g < G) : CC X (d + 2) M_X8_ownerOf [.ref a, .int (nI g)] S (I, R) (some (.int (s (19 + g)))) S (I, R) := by
  have hG8 := hst.G8
  refine CC.of2 (L := [.ref a, .int (nI g)]) p_X8 (Nat.le_of_ble_eq_true rfl) rfl rfl (List.prefix_refl S) ?_
  refine r_iload_n dX8_ownerOf_0 rfl ?_
  refine n_if_lt (tgt := 23) dX8_ownerOf_1 (by decide) (by omega) (fun c1 => absurd c1 (Nat.not_lt_zero _)) (fun c1 => ?_)
  refine r_iload_n dX8_ownerOf_4 rfl ?_
  refine r_aload_n dX8_ownerOf_5 rfl ?_
  refine g_getI dX8_ownerOf_6 f_X8_31 (Std.sg (by assumption)) rfl hst.hG ?_
  refine n_icmp_ge (tgt := 23) dX8_ownerOf_9 (by decide) (by omega) (by omega) (fun c9 => absurd c9 (by omega)) (fun c9 => ?_)
  refine r_aload_n dX8_ownerOf_12 rfl ?_
  refine g_getR dX8_ownerOf_13 f_X8_18 (Std.sg (by assumption)) rfl (Std.r2 (by assumption)) ?_
  refine r_iload_n dX8_ownerOf_16 rfl ?_
  refine r_S2 dX8_ownerOf_17 l_X8_61 k_X7_get s_X7_get (Nat.le_of_ble_eq_true rfl) (v_X7_get X _ (Std.s2 (by assumption)) (by omega) (by decide)) (List.prefix_refl S) ?_
  refine r_goto (tgt := 25) dX8_ownerOf_20 (by decide) ?_
  exact g_iret dX8_ownerOf_25 (by rw [hst.own g hg]) rfl

set_option maxHeartbeats 4000000 in
set_option maxRecDepth 100000 in
theorem v_X8_lies (X : mCx) (d : Nat) {S : mSh} {I : mI} {R : mR} {s : Nat → Int32} {N G hb pb : Nat} {a g i : Nat} (hst : Std S I R a s N G hb pb) (hg : g < G) : CC X (d + 1) M_X8_lies [.ref a, .int (nI g), .int (nI i)] S (I, R) (some (.int (bI (ly s g i)))) S (I, R) := by
  have hG8 := hst.G8
  refine CC.of2 (L := [.ref a, .int (nI g), .int (nI i)]) p_X8 (Nat.le_of_ble_eq_true rfl) rfl (mRok_b _) (List.prefix_refl S) ?_
  refine r_iload_n dX8_lies_0 rfl ?_
  refine n_if_lt (tgt := 46) dX8_lies_1 (by decide) (by omega) (fun c1 => absurd c1 (Nat.not_lt_zero _)) (fun c1 => ?_)
  refine r_iload_n dX8_lies_4 rfl ?_
  refine r_aload_n dX8_lies_5 rfl ?_
  refine g_getI dX8_lies_6 f_X8_31 (Std.sg (by assumption)) rfl hst.hG ?_
  refine n_icmp_ge (tgt := 46) dX8_lies_9 (by decide) (by omega) (by omega) (fun c9 => absurd c9 (by omega)) (fun c9 => ?_)
  refine r_iload_n dX8_lies_12 rfl ?_
  refine r_aload_n dX8_lies_13 rfl ?_
  refine g_getR dX8_lies_14 f_X8_18 (Std.sg (by assumption)) rfl (Std.r2 (by assumption)) ?_
  refine r_alen_i dX8_lies_17 (Std.s2 (by assumption)) (v := nI 8) rfl ?_
  refine n_icmp_ge (tgt := 46) dX8_lies_18 (by decide) (by omega) (by omega) (fun c18 => absurd c18 (by omega)) (fun c18 => ?_)
  refine r_aload_n dX8_lies_21 rfl ?_
  refine g_getR dX8_lies_22 f_X8_18 (Std.sg (by assumption)) rfl (Std.r2 (by assumption)) ?_
  refine r_iload_n dX8_lies_25 rfl ?_
  refine g_iald dX8_lies_26 (Std.s2 (by assumption)) rfl (by omega) (by omega) (hst.own g hg) ?_
  refine r_iload_n dX8_lies_27 rfl ?_
  refine r_icmp_ne (tgt := 46) dX8_lies_28 (by decide) (fun c28 => ?_) (fun c28 => ?_)
  · skip
    refine r_iconst dX8_lies_46 ic_0 ?_
    exact g_iret dX8_lies_47 (rB0 (by simp [ly, hst.pk g hg, bI_0, *])) rfl
  · skip
    refine r_aload_n dX8_lies_31 rfl ?_
    refine g_getI dX8_lies_32 f_X8_15 (Std.sg (by assumption)) rfl hst.packed ?_
    refine r_iload_n dX8_lies_35 rfl ?_
    refine r_ishr dX8_lies_36 ?_
    refine r_iconst dX8_lies_37 ic_1 ?_
    refine r_iand dX8_lies_38 ?_
    refine g_top (bitv hst.p256 (by omega)) ?_
    refine r_ifB_ne (tgt := 46) dX8_lies_39 (by decide) (fun c39 => ?_) (fun c39 => ?_)
    · skip
      refine r_iconst dX8_lies_46 ic_0 ?_
      exact g_iret dX8_lies_47 (rB0 (by simp [ly, hst.pk g hg, bI_0, *])) rfl
    · skip
      refine r_iconst dX8_lies_42 ic_1 ?_
      refine r_goto (tgt := 47) dX8_lies_43 (by decide) ?_
      exact g_iret dX8_lies_47 (rB1 (by simp [ly, hst.pk g hg, bI_0, *])) rfl

set_option maxHeartbeats 4000000 in
set_option maxRecDepth 100000 in
theorem v_X8_coinsOf (X : mCx) (d : Nat) {S : mSh} {I : mI} {R : mR} {s : Nat → Int32} {N G hb pb : Nat} {a i : Nat} (hst : Std S I R a s N G hb pb) (hi : i < N) : CC X (d + 2) M_X8_coinsOf [.ref a, .int (nI i)] S (I, R) (some (.int (s (1 + i)))) S (I, R) := by
  refine CC.of2 (L := [.ref a, .int (nI i)]) p_X8 (Nat.le_of_ble_eq_true rfl) rfl rfl (List.prefix_refl S) ?_
  refine r_aload_n dX8_coinsOf_0 rfl ?_
  refine g_getR dX8_coinsOf_1 f_X8_22 (Std.sg (by assumption)) rfl (Std.r3 (by assumption)) ?_
  refine r_iload_n dX8_coinsOf_4 rfl ?_
  refine r_S2 dX8_coinsOf_5 l_X8_61 k_X7_get s_X7_get (Nat.le_of_ble_eq_true rfl) (v_X7_get X _ (Std.s3 (by assumption)) (by have := hst.N6; omega) (by decide)) (List.prefix_refl S) ?_
  exact g_iret dX8_coinsOf_8 (by rw [hst.coins i hi]) rfl

set_option maxHeartbeats 4000000 in
set_option maxRecDepth 100000 in
theorem v_X8_paidBy (X : mCx) (d : Nat) {S : mSh} {I : mI} {R : mR} {s : Nat → Int32} {N G hb pb : Nat} {a i : Nat} (hst : Std S I R a s N G hb pb) (hi : i < N) : CC X (d + 2) M_X8_paidBy [.ref a, .int (nI i)] S (I, R) (some (.int (s (7 + i)))) S (I, R) := by
  refine CC.of2 (L := [.ref a, .int (nI i)]) p_X8 (Nat.le_of_ble_eq_true rfl) rfl rfl (List.prefix_refl S) ?_
  refine r_aload_n dX8_paidBy_0 rfl ?_
  refine g_getR dX8_paidBy_1 f_X8_25 (Std.sg (by assumption)) rfl (Std.r4 (by assumption)) ?_
  refine r_iload_n dX8_paidBy_4 rfl ?_
  refine r_S2 dX8_paidBy_5 l_X8_61 k_X7_get s_X7_get (Nat.le_of_ble_eq_true rfl) (v_X7_get X _ (Std.s4 (by assumption)) (by have := hst.N6; omega) (by decide)) (List.prefix_refl S) ?_
  exact g_iret dX8_paidBy_8 (by rw [hst.paid i hi]) rfl

set_option maxHeartbeats 4000000 in
set_option maxRecDepth 100000 in
theorem v_X8_paidLastBy (X : mCx) (d : Nat) {S : mSh} {I : mI} {R : mR} {s : Nat → Int32} {N G hb pb : Nat} {a i : Nat} (hst : Std S I R a s N G hb pb) (hi : i < N) : CC X (d + 2) M_X8_paidLastBy [.ref a, .int (nI i)] S (I, R) (some (.int (s (13 + i)))) S (I, R) := by
  refine CC.of2 (L := [.ref a, .int (nI i)]) p_X8 (Nat.le_of_ble_eq_true rfl) rfl rfl (List.prefix_refl S) ?_
  refine r_aload_n dX8_paidLastBy_0 rfl ?_
  refine g_getR dX8_paidLastBy_1 f_X8_28 (Std.sg (by assumption)) rfl (Std.r5 (by assumption)) ?_
  refine r_iload_n dX8_paidLastBy_4 rfl ?_
  refine r_S2 dX8_paidLastBy_5 l_X8_61 k_X7_get s_X7_get (Nat.le_of_ble_eq_true rfl) (v_X7_get X _ (Std.s5 (by assumption)) (by have := hst.N6; omega) (by decide)) (List.prefix_refl S) ?_
  exact g_iret dX8_paidLastBy_8 (by rw [hst.last i hi]) rfl

/-- the goods of x as bits -/
def ownB (s : Nat → Int32) (G : Nat) (x : Int32) : Nat := nFold G (fun g b => if s (19 + g) = x then b ||| 2 ^ g else b) 0
set_option maxHeartbeats 4000000 in
set_option maxRecDepth 100000 in
theorem v_X8_owned (X : mCx) (d : Nat) {S : mSh} {I : mI} {R : mR} {s : Nat → Int32} {N G hb pb : Nat} {a : Nat} {x : Int32} (hst : Std S I R a s N G hb pb)  : CC X (d + 3) M_X8_owned [.ref a, .int x] S (I, R) (some (.int (nI (ownB s G x)))) S (I, R) := by
  have hG8 := hst.G8
  refine CC.of2 (L := [.ref a, .int x, .retAddr 0, .retAddr 0]) p_X8 (Nat.le_of_ble_eq_true rfl) rfl rfl (List.prefix_refl S) ?_
  refine r_iconst dX8_owned_0 ic_0 ?_
  refine r_istore_n (L' := [_, _, _, _]) dX8_owned_1 rfl rfl ?_
  refine r_iconst dX8_owned_2 ic_0 ?_
  refine r_istore_n (L' := [_, _, _, _]) dX8_owned_3 rfl rfl ?_
  refine JJ.loop G (fun j => [.ref a, .int x, .int (nI (ownB s j x)), .int (nI j)]) (fun j => (I, R)) (fun j => True) (by simp [nI_0, ownB, nFold]) rfl trivial (fun hp => ?_) (fun j hj hp K => ?_)
  · skip
    refine r_iload_n dX8_owned_4 rfl ?_
    refine r_aload_n dX8_owned_5 rfl ?_
    refine g_getI dX8_owned_6 f_X8_31 (Std.sg (by assumption)) rfl hst.hG ?_
    refine n_icmp_ge (tgt := 37) dX8_owned_9 (by decide) (by omega) (by omega) (fun c9 => ?_) (fun c9 => absurd c9 (by omega))
    refine r_iload_n dX8_owned_37 rfl ?_
    exact g_iret dX8_owned_38 rfl rfl
  · skip
    refine r_iload_n dX8_owned_4 rfl ?_
    refine r_aload_n dX8_owned_5 rfl ?_
    refine g_getI dX8_owned_6 f_X8_31 (Std.sg (by assumption)) rfl hst.hG ?_
    refine n_icmp_ge (tgt := 37) dX8_owned_9 (by decide) (by omega) (by omega) (fun c9 => absurd c9 (by omega)) (fun c9 => ?_)
    refine r_iload_n dX8_owned_12 rfl ?_
    refine r_aload_n dX8_owned_13 rfl ?_
    refine r_iload_n dX8_owned_14 rfl ?_
    refine r_V1 dX8_owned_15 l_X8_65 k_X8_ownerOf i_X8_ownerOf (Std.sg (by assumption)) ⟨_, rfl⟩ (Nat.le_of_ble_eq_true rfl) (v_X8_ownerOf X _ (by first | assumption | omega) (by first | assumption | omega)) (List.prefix_refl S) ?_
    refine r_iload_n dX8_owned_18 rfl ?_
    refine r_icmp_ne (tgt := 28) dX8_owned_19 (by decide) (fun c19 => ?_) (fun c19 => ?_)
    · skip
      refine r_iconst dX8_owned_28 ic_0 ?_
      refine r_ior dX8_owned_29 ?_
      refine g_top (nI_or _ _) ?_
      refine r_istore_n (L' := [_, _, _, _]) dX8_owned_30 rfl rfl ?_
      refine r_iinc (L' := [_, _, _, _]) dX8_owned_31 rfl rfl (nI_inc _) rfl ?_
      refine r_goto (tgt := 4) dX8_owned_34 (by decide) ?_
      exact JJ.to (K trivial) (by simp [ownB, nFold, *]) rfl rfl
    · skip
      refine r_iconst dX8_owned_22 ic_1 ?_
      refine r_iload_n dX8_owned_23 rfl ?_
      refine r_ishl dX8_owned_24 ?_
      refine g_top (shl1 (by omega)) ?_
      refine r_goto (tgt := 29) dX8_owned_25 (by decide) ?_
      refine r_ior dX8_owned_29 ?_
      refine g_top (nI_or _ _) ?_
      refine r_istore_n (L' := [_, _, _, _]) dX8_owned_30 rfl rfl ?_
      refine r_iinc (L' := [_, _, _, _]) dX8_owned_31 rfl rfl (nI_inc _) rfl ?_
      refine r_goto (tgt := 4) dX8_owned_34 (by decide) ?_
      exact JJ.to (K trivial) (by simp [ownB, nFold, *]) rfl rfl

set_option maxHeartbeats 4000000 in
set_option maxRecDepth 100000 in
theorem v_X0_goodsLeft (X : mCx) (d : Nat) {S : mSh} {I : mI} {R : mR} {w s : Nat → Int32} {N G hb pb : Nat} {f a i : Nat} (hf : Fam S I R f w N G) (hst : Std S I R a s N G hb pb)  : CC X (d + 3) M_X0_goodsLeft [.ref f, .ref a, .int (nI i)] S (I, R) (some (.int (gLeft w s G i))) S (I, R) := by
  have hG8 := hst.G8
  refine CC.of2 (L := [.ref f, .ref a, .int (nI i), .retAddr 0, .retAddr 0]) p_X0 (Nat.le_of_ble_eq_true rfl) rfl rfl (List.prefix_refl S) ?_
  refine r_iconst dX0_goodsLeft_0 ic_0 ?_
  refine r_istore_n (L' := [_, _, _, _, _]) dX0_goodsLeft_1 rfl rfl ?_
  refine r_iconst dX0_goodsLeft_2 ic_0 ?_
  refine r_istore (L' := [_, _, _, _, _]) dX0_goodsLeft_3 rfl rfl ?_
  refine JJ.loop G (fun j => [.ref f, .ref a, .int (nI i), .int (gLeft w s j i), .int (nI j)]) (fun j => (I, R)) (fun j => True) (by simp [nI_0, nSum, gLeft]) rfl trivial (fun hp => ?_) (fun j hj hp K => ?_)
  · skip
    refine r_iload dX0_goodsLeft_5 rfl ?_
    refine r_aload_n dX0_goodsLeft_7 rfl ?_
    refine g_getI dX0_goodsLeft_8 f_X0_9 (Fam.sg (by assumption)) rfl hf.hG ?_
    refine n_icmp_ge (tgt := 43) dX0_goodsLeft_11 (by decide) (by omega) (by omega) (fun c11 => ?_) (fun c11 => absurd c11 (by omega))
    refine r_iload_n dX0_goodsLeft_43 rfl ?_
    exact g_iret dX0_goodsLeft_44 rfl rfl
  · skip
    refine r_iload dX0_goodsLeft_5 rfl ?_
    refine r_aload_n dX0_goodsLeft_7 rfl ?_
    refine g_getI dX0_goodsLeft_8 f_X0_9 (Fam.sg (by assumption)) rfl hf.hG ?_
    refine n_icmp_ge (tgt := 43) dX0_goodsLeft_11 (by decide) (by omega) (by omega) (fun c11 => absurd c11 (by omega)) (fun c11 => ?_)
    refine r_iload_n dX0_goodsLeft_14 rfl ?_
    refine r_aload_n dX0_goodsLeft_15 rfl ?_
    refine r_iload dX0_goodsLeft_16 rfl ?_
    refine r_iload_n dX0_goodsLeft_18 rfl ?_
    refine r_V2 dX0_goodsLeft_19 l_X0_55 k_X8_lies i_X8_lies (Std.sg (by assumption)) ⟨_, rfl⟩ (Nat.le_of_ble_eq_true rfl) (v_X8_lies X _ (by first | assumption | omega) (by first | assumption | omega)) (List.prefix_refl S) ?_
    refine r_ifB_eq (tgt := 34) dX0_goodsLeft_22 (by decide) (fun c22 => ?_) (fun c22 => ?_)
    · skip
      refine r_iconst dX0_goodsLeft_34 ic_0 ?_
      refine r_iadd dX0_goodsLeft_35 ?_
      refine r_istore_n (L' := [_, _, _, _, _]) dX0_goodsLeft_36 rfl rfl ?_
      refine r_iinc (L' := [_, _, _, _, _]) dX0_goodsLeft_37 rfl rfl (nI_inc _) rfl ?_
      refine r_goto (tgt := 5) dX0_goodsLeft_40 (by decide) ?_
      exact JJ.to (K trivial) (by simp [gLeft, nSum, nI_0, *]) rfl rfl
    · skip
      refine r_aload_n dX0_goodsLeft_25 rfl ?_
      refine r_iload dX0_goodsLeft_26 rfl ?_
      refine r_V1 dX0_goodsLeft_28 l_X0_15 k_X1_countOf i_X1_countOf (Fam.sg (by assumption)) ⟨_, rfl⟩ (Nat.le_of_ble_eq_true rfl) (v_X1_countOf X _ (by first | assumption | omega) (by first | assumption | omega)) (List.prefix_refl S) ?_
      refine r_goto (tgt := 35) dX0_goodsLeft_31 (by decide) ?_
      refine r_iadd dX0_goodsLeft_35 ?_
      refine r_istore_n (L' := [_, _, _, _, _]) dX0_goodsLeft_36 rfl rfl ?_
      refine r_iinc (L' := [_, _, _, _, _]) dX0_goodsLeft_37 rfl rfl (nI_inc _) rfl ?_
      refine r_goto (tgt := 5) dX0_goodsLeft_40 (by decide) ?_
      exact JJ.to (K trivial) (by simp [gLeft, nSum, nI_0, *]) rfl rfl

set_option maxHeartbeats 4000000 in
set_option maxRecDepth 100000 in
theorem v_X0_loveLeft (X : mCx) (d : Nat) {S : mSh} {I : mI} {R : mR} {w : Nat → Int32} {N G : Nat} {f i b : Nat} (hf : Fam S I R f w N G) (hi : i < N) (hb : b < 256) : CC X (d + 3) M_X0_loveLeft [.ref f, .int (nI i), .int (nI b)] S (I, R) (some (.int (lLeft w N i b))) S (I, R) := by
  have hN6 := hf.N6
  refine CC.of2 (L := [.ref f, .int (nI i), .int (nI b), .retAddr 0, .retAddr 0]) p_X0 (Nat.le_of_ble_eq_true rfl) rfl rfl (List.prefix_refl S) ?_
  refine r_iconst dX0_loveLeft_0 ic_0 ?_
  refine r_istore_n (L' := [_, _, _, _, _]) dX0_loveLeft_1 rfl rfl ?_
  refine r_iconst dX0_loveLeft_2 ic_0 ?_
  refine r_istore (L' := [_, _, _, _, _]) dX0_loveLeft_3 rfl rfl ?_
  refine JJ.loop N (fun j => [.ref f, .int (nI i), .int (nI b), .int (lLeft w j i b), .int (nI j)]) (fun j => (I, R)) (fun j => True) (by simp [nI_0, nSum, lLeft]) rfl trivial (fun hp => ?_) (fun j hj hp K => ?_)
  · skip
    refine r_iload dX0_loveLeft_5 rfl ?_
    refine r_aload_n dX0_loveLeft_7 rfl ?_
    refine g_getI dX0_loveLeft_8 f_X0_22 (Fam.sg (by assumption)) rfl hf.hN ?_
    refine n_icmp_ge (tgt := 50) dX0_loveLeft_11 (by decide) (by omega) (by omega) (fun c11 => ?_) (fun c11 => absurd c11 (by omega))
    refine r_iload_n dX0_loveLeft_50 rfl ?_
    exact g_iret dX0_loveLeft_51 rfl rfl
  · skip
    refine r_iload dX0_loveLeft_5 rfl ?_
    refine r_aload_n dX0_loveLeft_7 rfl ?_
    refine g_getI dX0_loveLeft_8 f_X0_22 (Fam.sg (by assumption)) rfl hf.hN ?_
    refine n_icmp_ge (tgt := 50) dX0_loveLeft_11 (by decide) (by omega) (by omega) (fun c11 => absurd c11 (by omega)) (fun c11 => ?_)
    refine r_iload_n dX0_loveLeft_14 rfl ?_
    refine r_iload dX0_loveLeft_15 rfl ?_
    refine r_iload_n dX0_loveLeft_17 rfl ?_
    refine n_icmp_eq (tgt := 41) dX0_loveLeft_18 (by decide) (by omega) (by omega) (fun c18 => ?_) (fun c18 => ?_)
    · skip
      refine r_iconst dX0_loveLeft_41 ic_0 ?_
      refine r_iadd dX0_loveLeft_42 ?_
      refine r_istore_n (L' := [_, _, _, _, _]) dX0_loveLeft_43 rfl rfl ?_
      refine r_iinc (L' := [_, _, _, _, _]) dX0_loveLeft_44 rfl rfl (nI_inc _) rfl ?_
      refine r_goto (tgt := 5) dX0_loveLeft_47 (by decide) ?_
      exact JJ.to (K trivial) (by simp [lLeft, nSum, nI_0, *]) rfl rfl
    · skip
      refine r_iload_n dX0_loveLeft_21 rfl ?_
      refine r_iload dX0_loveLeft_22 rfl ?_
      refine r_ishr dX0_loveLeft_24 ?_
      refine r_iconst dX0_loveLeft_25 ic_1 ?_
      refine r_iand dX0_loveLeft_26 ?_
      refine g_top (bitv hb (by omega)) ?_
      refine r_iconst dX0_loveLeft_27 ic_1 ?_
      refine r_icmp_ne (tgt := 41) dX0_loveLeft_28 (by decide) (fun c28 => ?_) (fun c28 => ?_)
      · have c28 : b.testBit j = false := by simpa [bI_n1] using c28
        refine r_iconst dX0_loveLeft_41 ic_0 ?_
        refine r_iadd dX0_loveLeft_42 ?_
        refine r_istore_n (L' := [_, _, _, _, _]) dX0_loveLeft_43 rfl rfl ?_
        refine r_iinc (L' := [_, _, _, _, _]) dX0_loveLeft_44 rfl rfl (nI_inc _) rfl ?_
        refine r_goto (tgt := 5) dX0_loveLeft_47 (by decide) ?_
        exact JJ.to (K trivial) (by simp [lLeft, nSum, nI_0, *]) rfl rfl
      · have c28 : b.testBit j = true := bI_n1.mp c28
        refine r_aload_n dX0_loveLeft_31 rfl ?_
        refine r_iload_n dX0_loveLeft_32 rfl ?_
        refine r_iload dX0_loveLeft_33 rfl ?_
        refine r_V2 dX0_loveLeft_35 l_X0_25 k_X1_loveOf i_X1_loveOf (Fam.sg (by assumption)) ⟨_, rfl⟩ (Nat.le_of_ble_eq_true rfl) (v_X1_loveOf X _ (by first | assumption | omega) (by first | assumption | omega) (by first | assumption | omega)) (List.prefix_refl S) ?_
        refine r_goto (tgt := 42) dX0_loveLeft_38 (by decide) ?_
        refine r_iadd dX0_loveLeft_42 ?_
        refine r_istore_n (L' := [_, _, _, _, _]) dX0_loveLeft_43 rfl rfl ?_
        refine r_iinc (L' := [_, _, _, _, _]) dX0_loveLeft_44 rfl rfl (nI_inc _) rfl ?_
        refine r_goto (tgt := 5) dX0_loveLeft_47 (by decide) ?_
        exact JJ.to (K trivial) (by simp [lLeft, nSum, nI_0, *]) rfl rfl

theorem duty_eq {w : Nat → Int32} {i : Nat} {x q : Int32} (hq : (if x < nI 0 then nI 0 else x) * w 2 / nI 10 = q) : duty w i x = if w (3 + i) = nI 1 ∨ w (3 + i) = nI 2 then q / nI 2 else if w (3 + i) = nI 4 then q / nI 3 else q := by subst hq; rfl
set_option maxHeartbeats 4000000 in
set_option maxRecDepth 100000 in
theorem v_X0_onLeft (X : mCx) (d : Nat) {S : mSh} {I : mI} {R : mR} {w : Nat → Int32} {N G : Nat} {f i : Nat} {x : Int32} (hf : Fam S I R f w N G) (hi : i < N) : CC X (d + 3) M_X0_onLeft [.ref f, .int (nI i), .int x] S (I, R) (some (.int (duty w i x))) S (I, R) := by
  rw [duty_eq rfl]
  refine CC.of2 (L := [.ref f, .int (nI i), .int x, .retAddr 0]) p_X0 (Nat.le_of_ble_eq_true rfl) rfl rfl (List.prefix_refl S) ?_
  refine r_iload_n dX0_onLeft_0 rfl ?_
  refine r_iconst dX0_onLeft_1 ic_0 ?_
  refine r_mmax dX0_onLeft_2 l_X0_29 (Nat.le_of_ble_eq_true rfl) ?_
  refine r_aload_n dX0_onLeft_5 rfl ?_
  refine g_getI dX0_onLeft_6 f_X0_34 (Fam.sg (by assumption)) rfl hf.hT ?_
  refine r_imul dX0_onLeft_9 ?_
  refine r_bipush dX0_onLeft_10 bp_10 ?_
  refine r_idiv dX0_onLeft_12 (by decide) ?_
  refine r_istore_n (L' := [_, _, _, _]) dX0_onLeft_13 rfl rfl ?_
  refine r_aload_n dX0_onLeft_14 rfl ?_
  refine r_iload_n dX0_onLeft_15 rfl ?_
  refine r_V1 dX0_onLeft_16 l_X0_37 k_X1_kindOf i_X1_kindOf (Fam.sg (by assumption)) ⟨_, rfl⟩ (Nat.le_of_ble_eq_true rfl) (v_X1_kindOf X _ (by first | assumption | omega) (by first | assumption | omega)) (List.prefix_refl S) ?_
  by_cases k1 : w (3 + i) = nI 1
  · refine g_top k1 ?_
    refine r_tableIn (tgt := 48) dX0_onLeft_19 (by decide) (by decide) (off := 29) rfl (by decide) ?_
    refine r_iload_n dX0_onLeft_48 rfl ?_
    refine r_iconst dX0_onLeft_49 ic_2 ?_
    refine r_idiv dX0_onLeft_50 (by decide) ?_
    exact g_iret dX0_onLeft_51 (by simp [*, nd_3_1, nd_3_2, nd_3_4, nd_4_1, nd_4_2, nd_2_1]) rfl
  by_cases k2 : w (3 + i) = nI 2
  · refine g_top k2 ?_
    refine r_tableIn (tgt := 52) dX0_onLeft_19 (by decide) (by decide) (off := 33) rfl (by decide) ?_
    refine r_iload_n dX0_onLeft_52 rfl ?_
    refine r_iconst dX0_onLeft_53 ic_2 ?_
    refine r_idiv dX0_onLeft_54 (by decide) ?_
    exact g_iret dX0_onLeft_55 (by simp [*, nd_3_1, nd_3_2, nd_3_4, nd_4_1, nd_4_2, nd_2_1]) rfl
  by_cases k3 : w (3 + i) = nI 3
  · refine g_top k3 ?_
    refine r_tableIn (tgt := 60) dX0_onLeft_19 (by decide) (by decide) (off := 41) rfl (by decide) ?_
    refine r_iload_n dX0_onLeft_60 rfl ?_
    exact g_iret dX0_onLeft_61 (by simp [*, nd_3_1, nd_3_2, nd_3_4, nd_4_1, nd_4_2, nd_2_1]) rfl
  by_cases k4 : w (3 + i) = nI 4
  · refine g_top k4 ?_
    refine r_tableIn (tgt := 56) dX0_onLeft_19 (by decide) (by decide) (off := 37) rfl (by decide) ?_
    refine r_iload_n dX0_onLeft_56 rfl ?_
    refine r_iconst dX0_onLeft_57 ic_3 ?_
    refine r_idiv dX0_onLeft_58 (by decide) ?_
    exact g_iret dX0_onLeft_59 (by simp [*, nd_3_1, nd_3_2, nd_3_4, nd_4_1, nd_4_2, nd_2_1]) rfl
  refine r_tableOut (tgt := 60) dX0_onLeft_19 (sw_outR 1 4 (by decide) (fun k h1 h2 e => by rcases (show k = 1 ∨ k = 2 ∨ k = 3 ∨ k = 4 by omega) with rfl | rfl | rfl | rfl <;> first | exact k1 e | exact k2 e | exact k3 e | exact k4 e)) (by decide) ?_
  refine r_iload_n dX0_onLeft_60 rfl ?_
  exact g_iret dX0_onLeft_61 (by simp [*, nd_3_1, nd_3_2, nd_3_4, nd_4_1, nd_4_2, nd_2_1]) rfl

set_option maxHeartbeats 4000000 in
set_option maxRecDepth 100000 in
theorem v_X0_owed (X : mCx) (d : Nat) {S : mSh} {I : mI} {R : mR} {w s : Nat → Int32} {N G hb pb : Nat} {f a i : Nat} (hf : Fam S I R f w N G) (hst : Std S I R a s N G hb pb) (hi : i < N) : CC X (d + 4) M_X0_owed [.ref f, .ref a, .int (nI i)] S (I, R) (some (.int (duty w i (gLeft w s G i + lLeft w N i hb)))) S (I, R) := by
  have h256 := hst.h256
  refine CC.of2 (L := [.ref f, .ref a, .int (nI i)]) p_X0 (Nat.le_of_ble_eq_true rfl) rfl rfl (List.prefix_refl S) ?_
  refine r_aload_n dX0_owed_0 rfl ?_
  refine r_iload_n dX0_owed_1 rfl ?_
  refine r_aload_n dX0_owed_2 rfl ?_
  refine r_aload_n dX0_owed_3 rfl ?_
  refine r_iload_n dX0_owed_4 rfl ?_
  refine r_S3 dX0_owed_5 l_X0_40 k_X0_goodsLeft s_X0_goodsLeft (Nat.le_of_ble_eq_true rfl) (v_X0_goodsLeft X _ (by first | assumption | omega) (by first | assumption | omega)) (List.prefix_refl S) ?_
  refine r_aload_n dX0_owed_8 rfl ?_
  refine r_iload_n dX0_owed_9 rfl ?_
  refine r_aload_n dX0_owed_10 rfl ?_
  refine g_getI dX0_owed_11 f_X0_46 (Std.sg (by assumption)) rfl hst.here ?_
  refine r_S3 dX0_owed_14 l_X0_51 k_X0_loveLeft s_X0_loveLeft (Nat.le_of_ble_eq_true rfl) (v_X0_loveLeft X _ (by first | assumption | omega) (by first | assumption | omega) (by first | assumption | omega)) (List.prefix_refl S) ?_
  refine r_iadd dX0_owed_17 ?_
  refine r_S3 dX0_owed_18 l_X0_59 k_X0_onLeft s_X0_onLeft (Nat.le_of_ble_eq_true rfl) (v_X0_onLeft X _ (by first | assumption | omega) (by first | assumption | omega)) (List.prefix_refl S) ?_
  exact g_iret dX0_owed_21 rfl rfl

set_option maxHeartbeats 4000000 in
set_option maxRecDepth 100000 in
theorem v_X0_left (X : mCx) (d : Nat) {S : mSh} {I : mI} {R : mR} {w s : Nat → Int32} {N G hb pb : Nat} {f a i : Nat} (hf : Fam S I R f w N G) (hst : Std S I R a s N G hb pb) (hi : i < N) : CC X (d + 4) M_X0_left [.ref f, .ref a, .int (nI i)] S (I, R) (some (.int (gLeft w s G i + lLeft w N i hb))) S (I, R) := by
  have h256 := hst.h256
  refine CC.of2 (L := [.ref f, .ref a, .int (nI i)]) p_X0 (Nat.le_of_ble_eq_true rfl) rfl rfl (List.prefix_refl S) ?_
  refine r_aload_n dX0_left_0 rfl ?_
  refine r_aload_n dX0_left_1 rfl ?_
  refine r_iload_n dX0_left_2 rfl ?_
  refine r_S3 dX0_left_3 l_X0_40 k_X0_goodsLeft s_X0_goodsLeft (Nat.le_of_ble_eq_true rfl) (v_X0_goodsLeft X _ (by first | assumption | omega) (by first | assumption | omega)) (List.prefix_refl S) ?_
  refine r_aload_n dX0_left_6 rfl ?_
  refine r_iload_n dX0_left_7 rfl ?_
  refine r_aload_n dX0_left_8 rfl ?_
  refine g_getI dX0_left_9 f_X0_46 (Std.sg (by assumption)) rfl hst.here ?_
  refine r_S3 dX0_left_12 l_X0_51 k_X0_loveLeft s_X0_loveLeft (Nat.le_of_ble_eq_true rfl) (v_X0_loveLeft X _ (by first | assumption | omega) (by first | assumption | omega) (by first | assumption | omega)) (List.prefix_refl S) ?_
  refine r_iadd dX0_left_15 ?_
  exact g_iret dX0_left_16 rfl rfl

set_option maxHeartbeats 4000000 in
set_option maxRecDepth 100000 in
theorem v_X0_owedAmong (X : mCx) (d : Nat) {S : mSh} {I : mI} {R : mR} {w s : Nat → Int32} {N G hb pb : Nat} {f a i b : Nat} (hf : Fam S I R f w N G) (hst : Std S I R a s N G hb pb) (hi : i < N) (hb2 : b < 256) : CC X (d + 4) M_X0_owedAmong [.ref f, .ref a, .int (nI i), .int (nI b)] S (I, R) (some (.int (duty w i (gLeft w s G i + lLeft w N i b)))) S (I, R) := by
  refine CC.of2 (L := [.ref f, .ref a, .int (nI i), .int (nI b)]) p_X0 (Nat.le_of_ble_eq_true rfl) rfl rfl (List.prefix_refl S) ?_
  refine r_aload_n dX0_owedAmong_0 rfl ?_
  refine r_iload_n dX0_owedAmong_1 rfl ?_
  refine r_aload_n dX0_owedAmong_2 rfl ?_
  refine r_aload_n dX0_owedAmong_3 rfl ?_
  refine r_iload_n dX0_owedAmong_4 rfl ?_
  refine r_S3 dX0_owedAmong_5 l_X0_40 k_X0_goodsLeft s_X0_goodsLeft (Nat.le_of_ble_eq_true rfl) (v_X0_goodsLeft X _ (by first | assumption | omega) (by first | assumption | omega)) (List.prefix_refl S) ?_
  refine r_aload_n dX0_owedAmong_8 rfl ?_
  refine r_iload_n dX0_owedAmong_9 rfl ?_
  refine r_iload_n dX0_owedAmong_10 rfl ?_
  refine r_S3 dX0_owedAmong_11 l_X0_51 k_X0_loveLeft s_X0_loveLeft (Nat.le_of_ble_eq_true rfl) (v_X0_loveLeft X _ (by first | assumption | omega) (by first | assumption | omega) (by first | assumption | omega)) (List.prefix_refl S) ?_
  refine r_iadd dX0_owedAmong_14 ?_
  refine r_S3 dX0_owedAmong_15 l_X0_59 k_X0_onLeft s_X0_onLeft (Nat.le_of_ble_eq_true rfl) (v_X0_onLeft X _ (by first | assumption | omega) (by first | assumption | omega)) (List.prefix_refl S) ?_
  exact g_iret dX0_owedAmong_18 rfl rfl

set_option maxHeartbeats 4000000 in
set_option maxRecDepth 100000 in
theorem v_X0_owedWith (X : mCx) (d : Nat) {S : mSh} {I : mI} {R : mR} {w s : Nat → Int32} {N G hb pb : Nat} {f a i j : Nat} (hf : Fam S I R f w N G) (hst : Std S I R a s N G hb pb) (hi : i < N) (hj : j < N) : CC X (d + 5) M_X0_owedWith [.ref f, .ref a, .int (nI i), .int (nI j)] S (I, R) (some (.int (duty w i (gLeft w s G i + lLeft w N i hb - w (53 + (6 * i + j)) + w (53 + (6 * i + j)) / nI 2)))) S (I, R) := by
  have h256 := hst.h256
  refine CC.of2 (L := [.ref f, .ref a, .int (nI i), .int (nI j), .retAddr 0]) p_X0 (Nat.le_of_ble_eq_true rfl) rfl rfl (List.prefix_refl S) ?_
  refine r_aload_n dX0_owedWith_0 rfl ?_
  refine r_iload_n dX0_owedWith_1 rfl ?_
  refine r_iload_n dX0_owedWith_2 rfl ?_
  refine r_V2 dX0_owedWith_3 l_X0_25 k_X1_loveOf i_X1_loveOf (Fam.sg (by assumption)) ⟨_, rfl⟩ (Nat.le_of_ble_eq_true rfl) (v_X1_loveOf X _ (by first | assumption | omega) (by first | assumption | omega) (by first | assumption | omega)) (List.prefix_refl S) ?_
  refine r_istore (L' := [_, _, _, _, _]) dX0_owedWith_6 rfl rfl ?_
  refine r_aload_n dX0_owedWith_8 rfl ?_
  refine r_iload_n dX0_owedWith_9 rfl ?_
  refine r_aload_n dX0_owedWith_10 rfl ?_
  refine r_aload_n dX0_owedWith_11 rfl ?_
  refine r_iload_n dX0_owedWith_12 rfl ?_
  refine r_S3 dX0_owedWith_13 l_X0_62 k_X0_left s_X0_left (Nat.le_of_ble_eq_true rfl) (v_X0_left X _ (by first | assumption | omega) (by first | assumption | omega) (by first | assumption | omega)) (List.prefix_refl S) ?_
  refine r_iload dX0_owedWith_16 rfl ?_
  refine r_isub dX0_owedWith_18 ?_
  refine r_iload dX0_owedWith_19 rfl ?_
  refine r_iconst dX0_owedWith_21 ic_2 ?_
  refine r_idiv dX0_owedWith_22 (by decide) ?_
  refine r_iadd dX0_owedWith_23 ?_
  refine r_S3 dX0_owedWith_24 l_X0_59 k_X0_onLeft s_X0_onLeft (Nat.le_of_ble_eq_true rfl) (v_X0_onLeft X _ (by first | assumption | omega) (by first | assumption | omega)) (List.prefix_refl S) ?_
  exact g_iret dX0_owedWith_27 rfl rfl

