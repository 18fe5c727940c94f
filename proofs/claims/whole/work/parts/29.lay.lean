/-! ===== the class: a whole text ===== -/
theorem fst_no {q : Nat → Bool} : ∀ m, (∀ k, k < m → q k = true) ∨ ∃ k0, k0 < m ∧ (∀ k, k < k0 → q k = true) ∧ q k0 = false
  | 0 => Or.inl (fun k h => absurd h (Nat.not_lt_zero _))
  | m + 1 => by
    rcases fst_no (q := q) m with h | ⟨k0, h1, h2, h3⟩
    · cases hq : q m with
      | true => exact Or.inl (fun k hk => by rcases Nat.lt_succ_iff_lt_or_eq.mp hk with h4 | rfl; exact h k h4; exact hq)
      | false => exact Or.inr ⟨m, Nat.lt_succ_self _, h, hq⟩
    · exact Or.inr ⟨k0, by omega, h2, h3⟩
/-- an item's numbers are as they must be -/
abbrev iOk (tx : Nat → Nat) (n a : Nat) : Prop := 1 ≤ nof (sgn tx n a) ∧ ∀ k, k < nof (sgn tx n a) → okS tx n (a + 1) (nof (sgn tx n a)) k = true
def itE (tx : Nat → Nat) (n a : Nat) : Nat := atS tx n (a + 1) (nof (sgn tx n a))
def itV (tx : Nat → Nat) (n a : Nat) : Nat → Nat := fun k => nmV tx n (atS tx n (a + 1) k)
def itQ (tx : Nat → Nat) (n a : Nat) (q : Dr) : Option Dr := if iOk tx n a then tellQ (sgn tx n a) (itV tx n a) q else none
def ffQ (tx : Nat → Nat) (n : Nat) : Nat → Nat → Dr → Int32 × Dr
  | 0, _, q => (-4, q)
  | k + 1, a, q => if a < n then (match itQ tx n a q with | none => (nI a, q) | some q1 => ffQ tx n k (itE tx n a) q1) else (-4, q)
theorem itE_le (tx : Nat → Nat) (n a : Nat) : itE tx n a ≤ a + 13 := by
  have h1 := atS_le tx n (a + 1) (nof (sgn tx n a))
  have h2 := nof_le (sgn tx n a)
  unfold itE
  omega
theorem itE_gt (tx : Nat → Nat) (n a : Nat) : a < itE tx n a := by
  have h1 := atS_ge tx n (a + 1) (nof (sgn tx n a))
  unfold itE
  omega
theorem itV_lt {tx : Nat → Nat} {n a k : Nat} (h : iOk tx n a) (hk : k < nof (sgn tx n a)) : itV tx n a k < 100 := by
  have h1 := (Bool.and_eq_true_iff.mp (h.2 k hk)).1
  have h2 := isD_48 h1
  unfold itV nmV
  split
  case isTrue g =>
    have h3 := isD_48 g
    omega
  case isFalse => omega
theorem v_behind_t (X : mCx) {S : mSh} {I : mI} {R : mR} {y z n a : Nat} {tx : Nat → Nat} (hy : Rea S R y) (ht : TxP S I R z tx n) (ha : a ≤ 200) (hs : z + 1 < y ∨ y + 1 < z) (h : iOk tx n a) : ∀ d, CC X (d + 2) M_X6_behindNumbers [.ref y, .ref z, .int (nI (a + 1)), .int (nI (nof (sgn tx n a)))] S (I, R) (some (.int (nI (itE tx n a)))) S (sRw I (y + 1) (rN tx n (a + 1) (I (y + 1)) (nof (sgn tx n a))), R) :=
  fun d => v_X6_behindNumbers_t X (d + 0) hy ht h.1 (nof_le _) (by omega) h.2 hs
theorem v_behind_f (X : mCx) {S : mSh} {I : mI} {R : mR} {y z n a : Nat} {tx : Nat → Nat} (hy : Rea S R y) (ht : TxP S I R z tx n) (ha : a ≤ 200) (hs : z + 1 < y ∨ y + 1 < z) (h : ¬ iOk tx n a) : ∃ r, ∀ d, CC X (d + 2) M_X6_behindNumbers [.ref y, .ref z, .int (nI (a + 1)), .int (nI (nof (sgn tx n a)))] S (I, R) (some (.int (-1))) S (sRw I (y + 1) r, R) := by
  by_cases h0 : nof (sgn tx n a) = 0
  · rw [h0]
    refine ⟨I (y + 1), fun d => ?_⟩
    rw [sRw_0]
    exact v_X6_behindNumbers_0 X (d + 1) hy
  rcases fst_no (q := fun k => okS tx n (a + 1) (nof (sgn tx n a)) k) (nof (sgn tx n a)) with g | ⟨k0, g1, g2, g3⟩
  · exact absurd ⟨by omega, g⟩ h
  · cases hA : isD (sgn tx n (atS tx n (a + 1) k0)) with
    | false => exact ⟨_, fun d => v_X6_behindNumbers_f X (d + 0) hy ht g1 (nof_le _) (by omega) g2 hs hA⟩
    | true =>
      refine ⟨_, fun d => v_X6_behindNumbers_g X (d + 0) hy ht g1 (nof_le _) (by omega) g2 hs hA (fun hB => ?_)⟩
      have : okS tx n (a + 1) (nof (sgn tx n a)) k0 = true := by
        unfold okS
        rw [hA, decide_eq_true hB]; rfl
      rw [g3] at this
      exact absurd this (by decide)
set_option maxHeartbeats 4000000 in
set_option maxRecDepth 100000 in
theorem g_ff1 (X : mCx) (d : Nat) {S : mSh} {I : mI} {R : mR} {y z f n a it : Nat} {w : Nat → Int32} {N G : Nat} {tx : Nat → Nat} (hy : Rea S R y) (hf : Fam S I R f w N G) (ht : TxP S I R z tx n) (h : it = 200) : JJ X M_X6_firstFault (d + 4) 9 [.ref y, .ref z, .ref f, .int (nI a), .int (nI it), .retAddr 0] [] S (I, R) (some (.int (-4))) S (I, R) := by
  have hzt := ht.1
  have hl := sgn_lt ht a
  have hn := ht.2.2.1
  refine r_iload dX6_firstFault_9 rfl ?_
  refine r_sipush dX6_firstFault_11 sp_200 ?_
  refine n_icmp_ge (tgt := 72) dX6_firstFault_14 (by decide) (by omega) (by omega) (fun c14 => ?_) (fun c14 => absurd c14 (by omega))
  refine r_bipush dX6_firstFault_72 bp_m4 ?_
  exact g_iret dX6_firstFault_74 rfl rfl

set_option maxHeartbeats 4000000 in
set_option maxRecDepth 100000 in
theorem g_ff2 (X : mCx) (d : Nat) {S : mSh} {I : mI} {R : mR} {y z f n a it : Nat} {w : Nat → Int32} {N G : Nat} {tx : Nat → Nat} (hy : Rea S R y) (hf : Fam S I R f w N G) (ht : TxP S I R z tx n) (h : it < 200) (ha : n ≤ a) (ha2 : a < 1000) : JJ X M_X6_firstFault (d + 4) 9 [.ref y, .ref z, .ref f, .int (nI a), .int (nI it), .retAddr 0] [] S (I, R) (some (.int (-4))) S (I, R) := by
  have hzt := ht.1
  have hl := sgn_lt ht a
  have hn := ht.2.2.1
  refine r_iload dX6_firstFault_9 rfl ?_
  refine r_sipush dX6_firstFault_11 sp_200 ?_
  refine n_icmp_ge (tgt := 72) dX6_firstFault_14 (by decide) (by omega) (by omega) (fun c14 => absurd c14 (by omega)) (fun c14 => ?_)
  refine r_iload_n dX6_firstFault_17 rfl ?_
  refine r_aload_n dX6_firstFault_18 rfl ?_
  refine g_getI dX6_firstFault_19 f_X6_20 (Txt.sg (by assumption)) rfl ht.2.1 ?_
  refine n_icmp_ge (tgt := 72) dX6_firstFault_22 (by decide) (by omega) (by omega) (fun c22 => ?_) (fun c22 => absurd c22 (by omega))
  refine r_bipush dX6_firstFault_72 bp_m4 ?_
  exact g_iret dX6_firstFault_74 rfl rfl

set_option maxHeartbeats 4000000 in
set_option maxRecDepth 100000 in
theorem g_ff3 (X : mCx) (d : Nat) {S : mSh} {I : mI} {R : mR} {y z f n a it : Nat} {w : Nat → Int32} {N G : Nat} {tx : Nat → Nat} (hy : Rea S R y) (hf : Fam S I R f w N G) (ht : TxP S I R z tx n) {I1 : mI} (h : it < 200) (ha : a < n) (hC : ∀ d, CC X (d + 2) M_X6_behindNumbers [.ref y, .ref z, .int (nI (a + 1)), .int (nI (nof (sgn tx n a)))] S (I, R) (some (.int (-1))) S (I1, R))  : JJ X M_X6_firstFault (d + 4) 9 [.ref y, .ref z, .ref f, .int (nI a), .int (nI it), .retAddr 0] [] S (I, R) (some (.int (nI a))) S (I1, R) := by
  have hzt := ht.1
  have hl := sgn_lt ht a
  have hn := ht.2.2.1
  refine r_iload dX6_firstFault_9 rfl ?_
  refine r_sipush dX6_firstFault_11 sp_200 ?_
  refine n_icmp_ge (tgt := 72) dX6_firstFault_14 (by decide) (by omega) (by omega) (fun c14 => absurd c14 (by omega)) (fun c14 => ?_)
  refine r_iload_n dX6_firstFault_17 rfl ?_
  refine r_aload_n dX6_firstFault_18 rfl ?_
  refine g_getI dX6_firstFault_19 f_X6_20 (Txt.sg (by assumption)) rfl ht.2.1 ?_
  refine n_icmp_ge (tgt := 72) dX6_firstFault_22 (by decide) (by omega) (by omega) (fun c22 => absurd c22 (by omega)) (fun c22 => ?_)
  refine r_aload_n dX6_firstFault_25 rfl ?_
  refine r_aload_n dX6_firstFault_26 rfl ?_
  refine r_iload_n dX6_firstFault_27 rfl ?_
  refine r_iconst dX6_firstFault_28 ic_1 ?_
  refine n_iadd dX6_firstFault_29 ?_
  refine r_aload_n dX6_firstFault_30 rfl ?_
  refine r_iload_n dX6_firstFault_31 rfl ?_
  refine r_V1 dX6_firstFault_32 l_X6_26 k_X9_sign i_X9_sign (Txt.sg (by assumption)) ⟨_, rfl⟩ (Nat.le_of_ble_eq_true rfl) (v_X9_sign_x X _ ht (by omega)) (List.prefix_refl S) ?_
  refine r_S1 dX6_firstFault_35 l_X6_30 k_X6_numbersOf s_X6_numbersOf (Nat.le_of_ble_eq_true rfl) (v_X6_numbersOf X _ (by omega)) (List.prefix_refl S) ?_
  refine r_V3 dX6_firstFault_38 l_X6_34 k_X6_behindNumbers i_X6_behindNumbers (Rea.sg (by assumption)) ⟨_, rfl⟩ (Nat.le_of_ble_eq_true rfl) (hC _) (List.prefix_refl S) ?_
  refine r_istore (L' := [_, _, _, _, _, _]) dX6_firstFault_41 rfl rfl ?_
  refine r_iload dX6_firstFault_43 rfl ?_
  refine r_if_lt (tgt := 61) dX6_firstFault_45 (by decide) (fun c45 => ?_) (fun c45 => absurd (show (-1 : Int32) < 0 by decide) c45)
  refine r_iload_n dX6_firstFault_61 rfl ?_
  exact g_iret dX6_firstFault_62 rfl rfl

set_option maxHeartbeats 4000000 in
set_option maxRecDepth 100000 in
theorem g_ff4 (X : mCx) (d : Nat) {S : mSh} {I : mI} {R : mR} {y z f n a it e : Nat} {w : Nat → Int32} {N G : Nat} {tx : Nat → Nat} (hy : Rea S R y) (hf : Fam S I R f w N G) (ht : TxP S I R z tx n) {I1 : mI} (h : it < 200) (ha : a < n) (he : e < 1000) (hC : ∀ d, CC X (d + 2) M_X6_behindNumbers [.ref y, .ref z, .int (nI (a + 1)), .int (nI (nof (sgn tx n a)))] S (I, R) (some (.int (nI e))) S (I1, R)) (hf1 : Fam S I1 R f w N G) (ht1 : TxP S I1 R z tx n) (hT : ∀ d, CC X (d + 3) M_X6_tell [.ref y, .int (nI (sgn tx n a)), .ref f] S (I1, R) (some (.int (bI false))) S (I1, R))  : JJ X M_X6_firstFault (d + 4) 9 [.ref y, .ref z, .ref f, .int (nI a), .int (nI it), .retAddr 0] [] S (I, R) (some (.int (nI a))) S (I1, R) := by
  have hzt := ht.1
  have hl := sgn_lt ht a
  have hn := ht.2.2.1
  refine r_iload dX6_firstFault_9 rfl ?_
  refine r_sipush dX6_firstFault_11 sp_200 ?_
  refine n_icmp_ge (tgt := 72) dX6_firstFault_14 (by decide) (by omega) (by omega) (fun c14 => absurd c14 (by omega)) (fun c14 => ?_)
  refine r_iload_n dX6_firstFault_17 rfl ?_
  refine r_aload_n dX6_firstFault_18 rfl ?_
  refine g_getI dX6_firstFault_19 f_X6_20 (Txt.sg (by assumption)) rfl ht.2.1 ?_
  refine n_icmp_ge (tgt := 72) dX6_firstFault_22 (by decide) (by omega) (by omega) (fun c22 => absurd c22 (by omega)) (fun c22 => ?_)
  refine r_aload_n dX6_firstFault_25 rfl ?_
  refine r_aload_n dX6_firstFault_26 rfl ?_
  refine r_iload_n dX6_firstFault_27 rfl ?_
  refine r_iconst dX6_firstFault_28 ic_1 ?_
  refine n_iadd dX6_firstFault_29 ?_
  refine r_aload_n dX6_firstFault_30 rfl ?_
  refine r_iload_n dX6_firstFault_31 rfl ?_
  refine r_V1 dX6_firstFault_32 l_X6_26 k_X9_sign i_X9_sign (Txt.sg (by assumption)) ⟨_, rfl⟩ (Nat.le_of_ble_eq_true rfl) (v_X9_sign_x X _ ht (by omega)) (List.prefix_refl S) ?_
  refine r_S1 dX6_firstFault_35 l_X6_30 k_X6_numbersOf s_X6_numbersOf (Nat.le_of_ble_eq_true rfl) (v_X6_numbersOf X _ (by omega)) (List.prefix_refl S) ?_
  refine r_V3 dX6_firstFault_38 l_X6_34 k_X6_behindNumbers i_X6_behindNumbers (Rea.sg (by assumption)) ⟨_, rfl⟩ (Nat.le_of_ble_eq_true rfl) (hC _) (List.prefix_refl S) ?_
  refine r_istore (L' := [_, _, _, _, _, _]) dX6_firstFault_41 rfl rfl ?_
  refine r_iload dX6_firstFault_43 rfl ?_
  refine n_if_lt (tgt := 61) dX6_firstFault_45 (by decide) (by omega) (fun c45 => absurd c45 (Nat.not_lt_zero _)) (fun c45 => ?_)
  refine r_aload_n dX6_firstFault_48 rfl ?_
  refine r_aload_n dX6_firstFault_49 rfl ?_
  refine r_iload_n dX6_firstFault_50 rfl ?_
  refine r_V1 dX6_firstFault_51 l_X6_26 k_X9_sign i_X9_sign (Txt.sg (by assumption)) ⟨_, rfl⟩ (Nat.le_of_ble_eq_true rfl) (v_X9_sign_x X _ ht1 (by omega)) (List.prefix_refl S) ?_
  refine r_aload_n dX6_firstFault_54 rfl ?_
  refine r_V2 dX6_firstFault_55 l_X6_38 k_X6_tell i_X6_tell (Rea.sg (by assumption)) ⟨_, rfl⟩ (Nat.le_of_ble_eq_true rfl) (hT _) (List.prefix_refl S) ?_
  refine r_ifB_ne (tgt := 63) dX6_firstFault_58 (by decide) (fun c58 => absurd c58 (by decide)) (fun c58 => ?_)
  refine r_iload_n dX6_firstFault_61 rfl ?_
  exact g_iret dX6_firstFault_62 rfl rfl

set_option maxHeartbeats 4000000 in
set_option maxRecDepth 100000 in
theorem g_ff5 (X : mCx) (d : Nat) {S : mSh} {I : mI} {R : mR} {y z f n a it e : Nat} {w : Nat → Int32} {N G : Nat} {tx : Nat → Nat} (hy : Rea S R y) (hf : Fam S I R f w N G) (ht : TxP S I R z tx n) {I1 I2 I3 : mI} {r : Int32} (h : it < 200) (ha : a < n) (he : e < 1000) (hC : ∀ d, CC X (d + 2) M_X6_behindNumbers [.ref y, .ref z, .int (nI (a + 1)), .int (nI (nof (sgn tx n a)))] S (I, R) (some (.int (nI e))) S (I1, R)) (hf1 : Fam S I1 R f w N G) (ht1 : TxP S I1 R z tx n) (hT : ∀ d, CC X (d + 3) M_X6_tell [.ref y, .int (nI (sgn tx n a)), .ref f] S (I1, R) (some (.int (bI true))) S (I2, R)) (K : JJ X M_X6_firstFault (d + 4) 9 [.ref y, .ref z, .ref f, .int (nI e), .int (nI (it + 1)), .retAddr 0] [] S (I2, R) (some (.int r)) S (I3, R)) : JJ X M_X6_firstFault (d + 4) 9 [.ref y, .ref z, .ref f, .int (nI a), .int (nI it), .retAddr 0] [] S (I, R) (some (.int r)) S (I3, R) := by
  have hzt := ht.1
  have hl := sgn_lt ht a
  have hn := ht.2.2.1
  refine r_iload dX6_firstFault_9 rfl ?_
  refine r_sipush dX6_firstFault_11 sp_200 ?_
  refine n_icmp_ge (tgt := 72) dX6_firstFault_14 (by decide) (by omega) (by omega) (fun c14 => absurd c14 (by omega)) (fun c14 => ?_)
  refine r_iload_n dX6_firstFault_17 rfl ?_
  refine r_aload_n dX6_firstFault_18 rfl ?_
  refine g_getI dX6_firstFault_19 f_X6_20 (Txt.sg (by assumption)) rfl ht.2.1 ?_
  refine n_icmp_ge (tgt := 72) dX6_firstFault_22 (by decide) (by omega) (by omega) (fun c22 => absurd c22 (by omega)) (fun c22 => ?_)
  refine r_aload_n dX6_firstFault_25 rfl ?_
  refine r_aload_n dX6_firstFault_26 rfl ?_
  refine r_iload_n dX6_firstFault_27 rfl ?_
  refine r_iconst dX6_firstFault_28 ic_1 ?_
  refine n_iadd dX6_firstFault_29 ?_
  refine r_aload_n dX6_firstFault_30 rfl ?_
  refine r_iload_n dX6_firstFault_31 rfl ?_
  refine r_V1 dX6_firstFault_32 l_X6_26 k_X9_sign i_X9_sign (Txt.sg (by assumption)) ⟨_, rfl⟩ (Nat.le_of_ble_eq_true rfl) (v_X9_sign_x X _ ht (by omega)) (List.prefix_refl S) ?_
  refine r_S1 dX6_firstFault_35 l_X6_30 k_X6_numbersOf s_X6_numbersOf (Nat.le_of_ble_eq_true rfl) (v_X6_numbersOf X _ (by omega)) (List.prefix_refl S) ?_
  refine r_V3 dX6_firstFault_38 l_X6_34 k_X6_behindNumbers i_X6_behindNumbers (Rea.sg (by assumption)) ⟨_, rfl⟩ (Nat.le_of_ble_eq_true rfl) (hC _) (List.prefix_refl S) ?_
  refine r_istore (L' := [_, _, _, _, _, _]) dX6_firstFault_41 rfl rfl ?_
  refine r_iload dX6_firstFault_43 rfl ?_
  refine n_if_lt (tgt := 61) dX6_firstFault_45 (by decide) (by omega) (fun c45 => absurd c45 (Nat.not_lt_zero _)) (fun c45 => ?_)
  refine r_aload_n dX6_firstFault_48 rfl ?_
  refine r_aload_n dX6_firstFault_49 rfl ?_
  refine r_iload_n dX6_firstFault_50 rfl ?_
  refine r_V1 dX6_firstFault_51 l_X6_26 k_X9_sign i_X9_sign (Txt.sg (by assumption)) ⟨_, rfl⟩ (Nat.le_of_ble_eq_true rfl) (v_X9_sign_x X _ ht1 (by omega)) (List.prefix_refl S) ?_
  refine r_aload_n dX6_firstFault_54 rfl ?_
  refine r_V2 dX6_firstFault_55 l_X6_38 k_X6_tell i_X6_tell (Rea.sg (by assumption)) ⟨_, rfl⟩ (Nat.le_of_ble_eq_true rfl) (hT _) (List.prefix_refl S) ?_
  refine r_ifB_ne (tgt := 63) dX6_firstFault_58 (by decide) (fun c58 => ?_) (fun c58 => absurd c58 (by decide))
  refine r_iload dX6_firstFault_63 rfl ?_
  refine r_istore_n (L' := [_, _, _, _, _, _]) dX6_firstFault_65 rfl rfl ?_
  refine r_iinc (L' := [_, _, _, _, _, _]) dX6_firstFault_66 rfl rfl (nI_inc _) rfl ?_
  exact r_goto (tgt := 9) dX6_firstFault_69 (by decide) (JJ.wk_at 5 K)

def frY (f y : Nat) (I I1 : mI) : Prop := ∀ o, o ≠ y + 1 → (o < f ∨ f + 9 < o) → I1 o = I o
theorem g_ff (X : mCx) {S : mSh} {R : mR} {y z f n : Nat} {tx : Nat → Nat} (hy : Rea S R y) (hs : z + 1 < y ∨ y + 1 < z) (hyf : y + 1 < f ∨ f + 9 < y) (hzf : z + 1 < f ∨ f + 9 < z) : ∀ (k it a : Nat) (I : mI) (q : Dr), it + k = 200 → a < 1000 → FamD S I R f q.1 q.2.1 q.2.2 → TxP S I R z tx n →
    ∃ I1, (∀ d, JJ X M_X6_firstFault (d + 4) 9 [.ref y, .ref z, .ref f, .int (nI a), .int (nI it), .retAddr 0] [] S (I, R) (some (.int (ffQ tx n k a q).1)) S (I1, R)) ∧ FamD S I1 R f (ffQ tx n k a q).2.1 (ffQ tx n k a q).2.2.1 (ffQ tx n k a q).2.2.2 ∧ frY f y I I1
  | 0, it, a, I, q, hk, ha, hd, ht => ⟨I, fun d => g_ff1 X d hy hd.1 ht (by omega), hd, fun o _ _ => rfl⟩
  | k + 1, it, a, I, q, hk, ha, hd, ht => by
    by_cases hn : a < n
    case neg =>
      have e : ffQ tx n (k + 1) a q = (-4, q) := by rw [ffQ, if_neg hn]
      rw [e]
      exact ⟨I, fun d => g_ff2 X d hy hd.1 ht (by omega) (by omega) ha, hd, fun o _ _ => rfl⟩
    have hn2 := ht.2.2.1
    by_cases hi : iOk tx n a
    case neg =>
      have e : ffQ tx n (k + 1) a q = (nI a, q) := by rw [ffQ, if_pos hn]; unfold itQ; rw [if_neg hi]
      rw [e]
      obtain ⟨r, hC⟩ := v_behind_f X hy ht (by omega) hs hi
      exact ⟨_, fun d => g_ff3 X d hy hd.1 ht (by omega) hn hC, hd.fr (fun o h1 h2 => sRw_o (by omega)), fun o h1 h2 => sRw_o h1⟩
    have hC := v_behind_t X hy ht (by omega) hs hi
    have hd1 : FamD S (sRw I (y + 1) (rN tx n (a + 1) (I (y + 1)) (nof (sgn tx n a)))) R f q.1 q.2.1 q.2.2 := hd.fr (fun o h1 h2 => sRw_o (by omega))
    have ht1 : TxP S (sRw I (y + 1) (rN tx n (a + 1) (I (y + 1)) (nof (sgn tx n a)))) R z tx n := ht.fr (sRw_o (by omega)) (sRw_o (by omega))
    have hv : ∀ k, k < nof (sgn tx n a) → sRw I (y + 1) (rN tx n (a + 1) (I (y + 1)) (nof (sgn tx n a))) (y + 1) k = nI (itV tx n a k) ∧ itV tx n a k < 100 := by
      intro k hk
      refine ⟨?_, itV_lt hi hk⟩
      rw [sRw_q]
      unfold rN itV
      rw [if_pos hk]
    have he := itE_le tx n a
    cases hT : tellQ (sgn tx n a) (itV tx n a) q with
    | none =>
      have e : ffQ tx n (k + 1) a q = (nI a, q) := by rw [ffQ, if_pos hn]; unfold itQ; rw [if_pos hi, hT]
      rw [e]
      exact ⟨_, fun d => g_ff4 X d hy hd.1 ht (by omega) hn (by omega) hC hd1.1 ht1 (fun d => v_tell_f X d hy hd1 hi.1 hv hT), hd1, fun o h1 h2 => sRw_o h1⟩
    | some q1 =>
      have e : ffQ tx n (k + 1) a q = ffQ tx n k (itE tx n a) q1 := by rw [ffQ, if_pos hn]; unfold itQ; rw [if_pos hi, hT]
      rw [e]
      obtain ⟨I2, hC2, hd2, hf2⟩ := v_tell_t X hy hd1 hv hT
      obtain ⟨I3, hJ, hd3, hf3⟩ := g_ff X hy hs hyf hzf k (it + 1) (itE tx n a) I2 q1 (by omega) (by omega) hd2 (ht1.fr (hf2 _ (by omega)) (hf2 _ (by omega)))
      exact ⟨I3, fun d => g_ff5 X d hy hd.1 ht (by omega) hn (by omega) hC hd1.1 ht1 hC2 (hJ d), hd3, fun o h1 h2 => by rw [hf3 o h1 h2, hf2 o h2, sRw_o h1]⟩
set_option maxHeartbeats 4000000 in
set_option maxRecDepth 100000 in
theorem g_ff0 (X : mCx) (d : Nat) {S : mSh} {I : mI} {R : mR} {y z f n : Nat} {w : Nat → Int32} {N G : Nat} {I1 : mI} {r : Int32} (hf : Fam S I R f w N G) (K : JJ X M_X6_firstFault (d + 4) 9 [.ref y, .ref z, .ref f, .int (nI 0), .int (nI 0), .retAddr 0] [] S (bgF I f, R) (some (.int r)) S (I1, R)) : CC X (d + 4) M_X6_firstFault [.ref y, .ref z, .ref f] S (I, R) (some (.int r)) S (I1, R) := by
  refine CC.of2 (L := [.ref y, .ref z, .ref f, .retAddr 0, .retAddr 0, .retAddr 0]) p_X6 (Nat.le_of_ble_eq_true rfl) rfl rfl (List.prefix_refl S) ?_
  refine r_aload_n dX6_firstFault_0 rfl ?_
  refine r_V0 dX6_firstFault_1 l_X6_15 k_X1_empty i_X1_empty (Fam.sg (by assumption)) ⟨_, rfl⟩ (Nat.le_of_ble_eq_true rfl) (v_X1_empty X _ (by first | assumption | omega)) (List.prefix_refl S) ?_
  refine r_iconst dX6_firstFault_4 ic_0 ?_
  refine r_istore_n (L' := [_, _, _, _, _, _]) dX6_firstFault_5 rfl rfl ?_
  refine r_iconst dX6_firstFault_6 ic_0 ?_
  refine r_istore (L' := [_, _, _, _, _, _]) dX6_firstFault_7 rfl rfl ?_
  exact K

abbrev q0 : Dr := (bgW, 0, 0)
theorem v_firstFault (X : mCx) {S : mSh} {I : mI} {R : mR} {y z f n : Nat} {tx : Nat → Nat} {w : Nat → Int32} {N G : Nat} (hy : Rea S R y) (hd : FamD S I R f w N G) (ht : TxP S I R z tx n) (hs : z + 1 < y ∨ y + 1 < z) (hyf : y + 1 < f ∨ f + 9 < y) (hzf : z + 1 < f ∨ f + 9 < z) :
    ∃ I1, (∀ d, CC X (d + 4) M_X6_firstFault [.ref y, .ref z, .ref f] S (I, R) (some (.int (ffQ tx n 200 0 q0).1)) S (I1, R)) ∧ FamD S I1 R f (ffQ tx n 200 0 q0).2.1 (ffQ tx n 200 0 q0).2.2.1 (ffQ tx n 200 0 q0).2.2.2 ∧ frY f y I I1 := by
  obtain ⟨I1, h1, h2, h3⟩ := g_ff X hy hs hyf hzf 200 0 0 (bgF I f) q0 rfl (by decide) hd.bg (ht.fr (bgF_o (by omega)) (bgF_o (by omega)))
  exact ⟨I1, fun d => g_ff0 X d (n := n) hd.1 (h1 d), h2, fun o g1 g2 => by rw [h3 o g1 g2, bgF_o g2]⟩
theorem Fam.rq {S : mSh} {I : mI} {R R1 : mR} {f : Nat} {w : Nat → Int32} {N G : Nat} (q : Fam S I R f w N G) (h : R1 f = R f) : Fam S I R1 f w N G := by
  unfold Fam at q ⊢
  rw [h]; exact q
theorem FamD.rq {S : mSh} {I : mI} {R R1 : mR} {f : Nat} {w : Nat → Int32} {N G : Nat} (q : FamD S I R f w N G) (h : R1 f = R f) : FamD S I R1 f w N G := ⟨q.1.rq h, q.2⟩
theorem Sto.rq {S : mSh} {R R1 : mR} {a : Nat} (q : Sto S R a) (h : R1 a = R a) : Sto S R1 a := by
  unfold Sto at q ⊢
  rw [h]; exact q
theorem Txt.rq {S : mSh} {R R1 : mR} {a : Nat} (q : Txt S R a) (h : R1 a = R a) : Txt S R1 a := by
  unfold Txt at q ⊢
  rw [h]; exact q
theorem Rea.rq {S : mSh} {R R1 : mR} {a : Nat} (q : Rea S R a) (h : R1 a = R a) : Rea S R1 a := by
  unfold Rea at q ⊢
  rw [h]; exact q
theorem Oat.rq {S : mSh} {R R1 : mR} {a : Nat} (q : Oat S R a) (h : R1 a = R a) : Oat S R1 a := by
  unfold Oat at q ⊢
  rw [h]; exact q
theorem Ord.rq {S : mSh} {R R1 : mR} {a : Nat} (q : Ord S R a) (h : R1 a = R a) : Ord S R1 a := by
  unfold Ord at q ⊢
  rw [h]; exact q
theorem Pio.rq {S : mSh} {R R1 : mR} {z n : Nat} (q : Pio S R z n) (h : ∀ o, z ≤ o → R1 o = R o) : Pio S R1 z n := by
  obtain ⟨h1, h2, h3, h4, h5, h6⟩ := q
  refine ⟨h1, h2, ?_, fun k hk => ?_, fun k hk => (h5 k hk).rq (h _ (by omega)), h6⟩
  · rw [h z (Nat.le_refl _)]; exact h3
  · rw [h (z + 1) (by omega)]; exact h4 k hk
def swR (R : mR) (f dr : Nat) : mR := sQ (sQ R 1 9 dr) 1 10 f
theorem swR_o {R : mR} {f dr o : Nat} (h : o ≠ 1) : swR R f dr o = R o := by
  funext b
  unfold swR sQ
  rw [if_neg (fun q => h q.1), if_neg (fun q => h q.1)]
theorem swR_1 {R : mR} {f dr : Nat} : swR R f dr 1 = fun b => if b = 10 then f else if b = 9 then dr else R 1 b := by
  funext b
  unfold swR sQ
  simp
theorem Cla.sw {S : mSh} {R : mR} {f dr : Nat} (q : Cla S R f dr) : Cla S (swR R f dr) dr f := by
  refine ⟨q.sg, ?_, ?_, ?_, ?_, ?_, ?_, ?_, ?_, ?_, ?_, ?_, q.txt.rq (swR_o (by decide)), q.rea.rq (swR_o (by decide)), q.now.rq (swR_o (by decide)), q.tri.rq (swR_o (by decide)), q.und.rq (fun o h => swR_o (by omega)), q.kep.rq (fun o h => swR_o (by omega)), q.oat.rq (swR_o (by decide)), q.ord.rq (swR_o (by decide)), q.gif, q.two.symm.imp (fun h => ⟨h.2, h.1⟩) (fun h => ⟨h.2, h.1⟩)⟩ <;> rw [swR_1]
  · exact q.f0
  · exact q.f1
  · exact q.f2
  · exact q.f3
  · exact q.f4
  · exact q.f5
  · exact q.f6
  · exact q.f7
  · exact q.f8
  · rfl
  · rfl
/-- what laying makes of the numbers -/
def layI (I : mI) (dr : Nat) (w : Nat → Int32) (N G : Nat) : mI := sJ (sJ (sJ (bgH I 6 dr w N G) 16 2 (nI 0)) 58 2 (nI 0)) 70 2 (nI 0)
theorem layI_o {I : mI} {dr N G o : Nat} {w : Nat → Int32} (h : o < 6 ∨ 10 < o) (h1 : o ≠ 16) (h2 : o ≠ 58) (h3 : o ≠ 70) : layI I dr w N G o = I o := by
  unfold layI
  rw [sJ_o h3, sJ_o h2, sJ_o h1, bgH_fr (by omega)]
set_option maxHeartbeats 4000000 in
set_option maxRecDepth 100000 in
theorem v_X11_fault_x (X : mCx) (d : Nat) {S : mSh} {I : mI} {R : mR} {I1 : mI} {f dr : Nat} {x : Int32} (hc : Cla S R f dr) (hC : ∀ d, CC X (d + 4) M_X6_firstFault [.ref 4, .ref 2, .ref dr] S (I, R) (some (.int x)) S (I1, R))  : CC X (d + 5) M_X11_fault [.ref 1] S (I, R) (some (.int x)) S (I1, R) := by
  have htxt := hc.txt
  have hrea := hc.rea
  refine CC.of2 (L := [.ref 1]) p_X11 (Nat.le_of_ble_eq_true rfl) rfl rfl (List.prefix_refl S) ?_
  refine r_aload_n dX11_fault_0 rfl ?_
  refine g_getR dX11_fault_1 f_X11_19 (Cla.sg (by assumption)) rfl (Cla.f1 (by assumption)) ?_
  refine r_aload_n dX11_fault_4 rfl ?_
  refine g_getR dX11_fault_5 f_X11_10 (Cla.sg (by assumption)) rfl (Cla.f0 (by assumption)) ?_
  refine r_aload_n dX11_fault_8 rfl ?_
  refine g_getR dX11_fault_9 f_X11_70 (Cla.sg (by assumption)) rfl (Cla.f10 (by assumption)) ?_
  refine r_V2 dX11_fault_12 l_X11_89 k_X6_firstFault i_X6_firstFault (Rea.sg (Cla.rea (by assumption))) ⟨_, rfl⟩ (Nat.le_of_ble_eq_true rfl) (hC _) (List.prefix_refl S) ?_
  exact g_iret dX11_fault_15 rfl rfl

set_option maxHeartbeats 4000000 in
set_option maxRecDepth 100000 in
theorem v_X11_lay_f (X : mCx) (d : Nat) {S : mSh} {I : mI} {R : mR} {I1 : mI} {f dr N1 G1 : Nat} {w1 : Nat → Int32} {x : Int32} (hc : Cla S R f dr) (hC : ∀ d, CC X (d + 4) M_X6_firstFault [.ref 4, .ref 2, .ref dr] S (I, R) (some (.int x)) S (I1, R)) (hd1 : Fam S I1 R dr w1 N1 G1) (h : x ≠ -4 ∨ N1 = 0) : CC X (d + 5) M_X11_lay [.ref 1] S (I, R) (some (.int (-2))) S (I1, R) := by
  have htxt := hc.txt
  have hrea := hc.rea
  have htwo := hc.two
  have hN6 := hd1.N6
  refine CC.of2 (L := [.ref 1, .retAddr 0]) p_X11 (Nat.le_of_ble_eq_true rfl) rfl rfl (List.prefix_refl S) ?_
  refine r_aload_n dX11_lay_0 rfl ?_
  refine g_getR dX11_lay_1 f_X11_19 (Cla.sg (by assumption)) rfl (Cla.f1 (by assumption)) ?_
  refine r_aload_n dX11_lay_4 rfl ?_
  refine g_getR dX11_lay_5 f_X11_10 (Cla.sg (by assumption)) rfl (Cla.f0 (by assumption)) ?_
  refine r_aload_n dX11_lay_8 rfl ?_
  refine g_getR dX11_lay_9 f_X11_70 (Cla.sg (by assumption)) rfl (Cla.f10 (by assumption)) ?_
  refine r_V2 dX11_lay_12 l_X11_89 k_X6_firstFault i_X6_firstFault (Rea.sg (Cla.rea (by assumption))) ⟨_, rfl⟩ (Nat.le_of_ble_eq_true rfl) (hC _) (List.prefix_refl S) ?_
  refine r_bipush dX11_lay_15 bp_m4 ?_
  refine r_icmp_ne (tgt := 31) dX11_lay_17 (by decide) (fun c17 => ?_) (fun c17 => ?_)
  · skip
    refine r_bipush dX11_lay_31 bp_m2 ?_
    exact g_iret dX11_lay_33 rfl rfl
  · skip
    refine r_aload_n dX11_lay_20 rfl ?_
    refine g_getR dX11_lay_21 f_X11_70 (Cla.sg (by assumption)) rfl (Cla.f10 (by assumption)) ?_
    refine g_getI dX11_lay_24 f_X11_103 (Fam.sg (by assumption)) rfl hd1.hN ?_
    refine r_iconst dX11_lay_27 ic_1 ?_
    refine n_icmp_ge (tgt := 34) dX11_lay_28 (by decide) (by omega) (by omega) (fun c28 => (by exfalso; rcases h with h | h; exact h c17; omega)) (fun c28 => ?_)
    refine r_bipush dX11_lay_31 bp_m2 ?_
    exact g_iret dX11_lay_33 rfl rfl

set_option maxHeartbeats 4000000 in
set_option maxRecDepth 100000 in
theorem v_X11_lay_t (X : mCx) (d : Nat) {S : mSh} {I : mI} {R : mR} {I1 : mI} {f dr N1 G1 : Nat} {w1 : Nat → Int32} (hc : Cla S R f dr) (hC : ∀ d, CC X (d + 4) M_X6_firstFault [.ref 4, .ref 2, .ref dr] S (I, R) (some (.int (-4))) S (I1, R)) (hd1 : Fam S I1 R dr w1 N1 G1) (h : 1 ≤ N1) : CC X (d + 5) M_X11_lay [.ref 1] S (I, R) (some (.int (nI N1))) S (layI I1 dr w1 N1 G1, swR R f dr) := by
  have htxt := hc.txt
  have hrea := hc.rea
  have htwo := hc.two
  have hN6 := hd1.N6
  have hc2 := hc.sw
  have hd2 := hd1.rq (R1 := swR R f dr) (swR_o (by omega))
  have hnow := hc2.now
  have hund := hc2.und
  have hkep := hc2.kep
  have hoat := hc2.oat
  refine CC.of2 (L := [.ref 1, .retAddr 0]) p_X11 (Nat.le_of_ble_eq_true rfl) rfl rfl (List.prefix_refl S) ?_
  refine r_aload_n dX11_lay_0 rfl ?_
  refine g_getR dX11_lay_1 f_X11_19 (Cla.sg (by assumption)) rfl (Cla.f1 (by assumption)) ?_
  refine r_aload_n dX11_lay_4 rfl ?_
  refine g_getR dX11_lay_5 f_X11_10 (Cla.sg (by assumption)) rfl (Cla.f0 (by assumption)) ?_
  refine r_aload_n dX11_lay_8 rfl ?_
  refine g_getR dX11_lay_9 f_X11_70 (Cla.sg (by assumption)) rfl (Cla.f10 (by assumption)) ?_
  refine r_V2 dX11_lay_12 l_X11_89 k_X6_firstFault i_X6_firstFault (Rea.sg (Cla.rea (by assumption))) ⟨_, rfl⟩ (Nat.le_of_ble_eq_true rfl) (hC _) (List.prefix_refl S) ?_
  refine r_bipush dX11_lay_15 bp_m4 ?_
  refine r_icmp_ne (tgt := 31) dX11_lay_17 (by decide) (fun c17 => absurd rfl c17) (fun c17 => ?_)
  refine r_aload_n dX11_lay_20 rfl ?_
  refine g_getR dX11_lay_21 f_X11_70 (Cla.sg (by assumption)) rfl (Cla.f10 (by assumption)) ?_
  refine g_getI dX11_lay_24 f_X11_103 (Fam.sg (by assumption)) rfl hd1.hN ?_
  refine r_iconst dX11_lay_27 ic_1 ?_
  refine n_icmp_ge (tgt := 34) dX11_lay_28 (by decide) (by omega) (by omega) (fun c28 => ?_) (fun c28 => absurd c28 (by omega))
  refine r_aload_n dX11_lay_34 rfl ?_
  refine g_getR dX11_lay_35 f_X11_66 (Cla.sg (by assumption)) rfl (Cla.f9 (by assumption)) ?_
  refine r_astore_n (L' := [_, _]) dX11_lay_38 rfl rfl ?_
  refine r_aload_n dX11_lay_39 rfl ?_
  refine r_aload_n dX11_lay_40 rfl ?_
  refine g_getR dX11_lay_41 f_X11_70 (Cla.sg (by assumption)) rfl (Cla.f10 (by assumption)) ?_
  refine g_putR dX11_lay_44 f_X11_66 (Cla.sg (by assumption)) rfl ?_
  refine r_aload_n dX11_lay_47 rfl ?_
  refine r_aload_n dX11_lay_48 rfl ?_
  refine g_putR dX11_lay_49 f_X11_70 (Cla.sg (by assumption)) rfl ?_
  refine JJ.to (h1 := (I1, swR R f dr)) ?_ rfl rfl rfl
  refine r_aload_n dX11_lay_52 rfl ?_
  refine g_getR dX11_lay_53 f_X11_26 (Cla.sg (by assumption)) rfl (Cla.f2 (by assumption)) ?_
  refine r_aload_n dX11_lay_56 rfl ?_
  refine g_getR dX11_lay_57 f_X11_66 (Cla.sg (by assumption)) rfl (Cla.f9 (by assumption)) ?_
  refine r_V1 dX11_lay_60 l_X11_93 k_X8_begin i_X8_begin (Sto.sg (Cla.now (by assumption))) ⟨_, rfl⟩ (Nat.le_of_ble_eq_true rfl) (v_X8_begin X _ (by first | assumption | omega) (by first | assumption | omega) (by first | assumption | omega)) (List.prefix_refl S) ?_
  refine r_aload_n dX11_lay_63 rfl ?_
  refine g_getR dX11_lay_64 f_X11_38 (Cla.sg (by assumption)) rfl (Cla.f4 (by assumption)) ?_
  refine r_V0 dX11_lay_67 l_X11_106 k_X5_empty i_X5_empty (Pio.sg (Cla.und (by assumption))) ⟨_, rfl⟩ (Nat.le_of_ble_eq_true rfl) (v_X5_empty X _ (by first | assumption | omega)) (List.prefix_refl S) ?_
  refine r_aload_n dX11_lay_70 rfl ?_
  refine g_getR dX11_lay_71 f_X11_42 (Cla.sg (by assumption)) rfl (Cla.f5 (by assumption)) ?_
  refine r_V0 dX11_lay_74 l_X11_106 k_X5_empty i_X5_empty (Pio.sg (Cla.kep (by assumption))) ⟨_, rfl⟩ (Nat.le_of_ble_eq_true rfl) (v_X5_empty X _ (by first | assumption | omega)) (List.prefix_refl S) ?_
  refine r_aload_n dX11_lay_77 rfl ?_
  refine g_getR dX11_lay_78 f_X11_48 (Cla.sg (by assumption)) rfl (Cla.f6 (by assumption)) ?_
  refine r_V0 dX11_lay_81 l_X11_107 k_X3_empty i_X3_empty (Oat.sg (Cla.oat (by assumption))) ⟨_, rfl⟩ (Nat.le_of_ble_eq_true rfl) (v_X3_empty X _ (by first | assumption | omega)) (List.prefix_refl S) ?_
  refine r_aload_n dX11_lay_84 rfl ?_
  refine g_getR dX11_lay_85 f_X11_66 (Cla.sg (by assumption)) rfl (Cla.f9 (by assumption)) ?_
  refine g_getI dX11_lay_88 f_X11_103 (Fam.sg (by assumption)) rfl (show layI I1 dr w1 N1 G1 dr 0 = nI N1 by rw [layI_o (by omega) (by omega) (by omega) (by omega)]; exact hd2.hN) ?_
  exact g_iret dX11_lay_91 rfl rfl

