/-! ===== the class: reading a text ===== -/
def TxP (S : mSh) (I : mI) (R : mR) (z : Nat) (tx : Nat → Nat) (n : Nat) : Prop := Txt S R z ∧ I z 1 = nI n ∧ n ≤ 200 ∧ ∀ k, k < n → I (z + 1) k = nI (tx k) ∧ tx k < 128
theorem TxP.fr {S : mSh} {I I1 : mI} {R : mR} {z n : Nat} {tx : Nat → Nat} (q : TxP S I R z tx n) (h0 : I1 z = I z) (h1 : I1 (z + 1) = I (z + 1)) : TxP S I1 R z tx n := by
  unfold TxP at q ⊢
  rw [h0, h1]; exact q
def sgn (tx : Nat → Nat) (n k : Nat) : Nat := if k < n then tx k else 32
theorem sgn_lt {S : mSh} {I : mI} {R : mR} {z n : Nat} {tx : Nat → Nat} (q : TxP S I R z tx n) (k : Nat) : sgn tx n k < 128 := by
  unfold sgn
  split
  · exact (q.2.2.2 k (by assumption)).2
  · decide
def isD (c : Nat) : Bool := decide (48 ≤ c) && decide (c ≤ 57)
theorem isD_48 {c : Nat} (h : isD c = true) : 48 ≤ c ∧ c ≤ 57 := by simpa [isD] using h
/-- the number at p, and the place behind it -/
def nmV (tx : Nat → Nat) (n p : Nat) : Nat := if isD (sgn tx n (p + 1)) = true then (sgn tx n p - 48) * 10 + sgn tx n (p + 1) - 48 else sgn tx n p - 48
def nmE (tx : Nat → Nat) (n p : Nat) : Nat := if isD (sgn tx n (p + 1)) = true then p + 1 + 1 else p + 1
def atS (tx : Nat → Nat) (n p : Nat) : Nat → Nat
  | 0 => p
  | k + 1 => nmE tx n (atS tx n p k) + 1
def okS (tx : Nat → Nat) (n p m k : Nat) : Bool := isD (sgn tx n (atS tx n p k)) && decide (sgn tx n (nmE tx n (atS tx n p k)) = if k = m - 1 then 59 else 44)
theorem nmE_t {tx : Nat → Nat} {n p : Nat} (h : isD (sgn tx n (p + 1)) = true) : nmE tx n p = p + 1 + 1 := if_pos h
theorem nmE_f {tx : Nat → Nat} {n p : Nat} (h : isD (sgn tx n (p + 1)) = false) : nmE tx n p = p + 1 := if_neg (by rw [h]; decide)
theorem nmV_t {tx : Nat → Nat} {n p : Nat} (h : isD (sgn tx n (p + 1)) = true) : nmV tx n p = (sgn tx n p - 48) * 10 + sgn tx n (p + 1) - 48 := if_pos h
theorem nmV_f {tx : Nat → Nat} {n p : Nat} (h : isD (sgn tx n (p + 1)) = false) : nmV tx n p = sgn tx n p - 48 := if_neg (by rw [h]; decide)
theorem atS_s (tx : Nat → Nat) (n p k : Nat) : atS tx n p (k + 1) = nmE tx n (atS tx n p k) + 1 := rfl
theorem nmE_le (tx : Nat → Nat) (n p : Nat) : nmE tx n p ≤ p + 2 := by unfold nmE; split <;> omega
theorem nmE_ge (tx : Nat → Nat) (n p : Nat) : p + 1 ≤ nmE tx n p := by unfold nmE; split <;> omega
theorem atS_le (tx : Nat → Nat) (n p : Nat) : ∀ k, atS tx n p k ≤ p + 3 * k
  | 0 => by show p ≤ _; omega
  | k + 1 => by
    have h1 := atS_le tx n p k
    have h2 := nmE_le tx n (atS tx n p k)
    rw [atS_s]; omega
theorem atS_ge (tx : Nat → Nat) (n p : Nat) : ∀ k, p + 2 * k ≤ atS tx n p k
  | 0 => by show _ ≤ p; omega
  | k + 1 => by
    have h1 := atS_ge tx n p k
    have h2 := nmE_ge tx n (atS tx n p k)
    rw [atS_s]; omega
def rN (tx : Nat → Nat) (n p : Nat) (r : Nat → Int32) (k : Nat) : Nat → Int32 := fun b => if b < k then nI (nmV tx n (atS tx n p b)) else r b
theorem rN_0 (tx : Nat → Nat) (n p : Nat) (r : Nat → Int32) : rN tx n p r 0 = r := by funext b; simp [rN]
theorem rN_s (tx : Nat → Nat) (n p : Nat) (r : Nat → Int32) (k : Nat) : up (rN tx n p r k) k (nI (nmV tx n (atS tx n p k))) = rN tx n p r (k + 1) := by
  funext b
  unfold up rN
  by_cases h1 : b = k
  · subst h1; simp
  · by_cases h2 : b < k
    · simp [h1, h2, show b < k + 1 by omega]
    · simp [h1, h2, show ¬ b < k + 1 by omega]
def nof (c : Nat) : Nat := if c = 103 then 4 else if c = 112 then 3 else if c = 116 then 1 else if c = 118 then 3 else 0
theorem nof_le (c : Nat) : nof c ≤ 4 := by unfold nof; split; decide; split; decide; split; decide; split <;> decide
theorem v_X9_sign_x (X : mCx) (d : Nat) {S : mSh} {I : mI} {R : mR} {z n k : Nat} {tx : Nat → Nat} (ht : TxP S I R z tx n) (hk : k < 2 ^ 31) : CC X (d + 1) M_X9_sign [.ref z, .int (nI k)] S (I, R) (some (.int (nI (sgn tx n k)))) S (I, R) := by
  unfold sgn
  by_cases h : k < n
  · rw [if_pos h]
    exact v_X9_sign X d ht.1 ht.2.1 ht.2.2.1 h (ht.2.2.2 k h).1 (ht.2.2.2 k h).2
  · rw [if_neg h]
    exact v_X9_signE X d ht.1 ht.2.1 ht.2.2.1 (by omega) hk
set_option maxHeartbeats 4000000 in
set_option maxRecDepth 100000 in
theorem v_X6_numbersOf (X : mCx) (d : Nat) {S : mSh} {I : mI} {R : mR} {c : Nat} (hc : c < 128) : CC X (d + 1) M_X6_numbersOf [.int (nI c)] S (I, R) (some (.int (nI (nof c)))) S (I, R) := by
  refine CC.of2 (L := [.int (nI c)]) p_X6 (Nat.le_of_ble_eq_true rfl) rfl rfl (List.prefix_refl S) ?_
  refine r_iload_n dX6_numbersOf_0 rfl ?_
  by_cases k103 : c = 103
  · refine r_lookup (tgt := 46) (off := 45) dX6_numbersOf_1 (by decide) (by rw [k103]; rfl) (by decide) ?_
    refine r_iconst dX6_numbersOf_46 ic_4 ?_
    exact g_iret dX6_numbersOf_47 (by simp [nof, *]) rfl
  by_cases k112 : c = 112
  · refine r_lookup (tgt := 44) (off := 43) dX6_numbersOf_1 (by decide) (by rw [k112]; rfl) (by decide) ?_
    refine r_iconst dX6_numbersOf_44 ic_3 ?_
    exact g_iret dX6_numbersOf_45 (by simp [nof, *]) rfl
  by_cases k116 : c = 116
  · refine r_lookup (tgt := 50) (off := 49) dX6_numbersOf_1 (by decide) (by rw [k116]; rfl) (by decide) ?_
    refine r_iconst dX6_numbersOf_50 ic_1 ?_
    exact g_iret dX6_numbersOf_51 (by simp [nof, *]) rfl
  by_cases k118 : c = 118
  · refine r_lookup (tgt := 48) (off := 47) dX6_numbersOf_1 (by decide) (by rw [k118]; rfl) (by decide) ?_
    refine r_iconst dX6_numbersOf_48 ic_3 ?_
    exact g_iret dX6_numbersOf_49 (by simp [nof, *]) rfl
  refine r_lookup (tgt := 52) (off := 51) dX6_numbersOf_1 (by decide) ((lv_osw (k := nI 103) (fun q => k103 ((nI_eq (by omega) (by decide)).mp q)) (by decide)).trans ((lv_osw (k := nI 112) (fun q => k112 ((nI_eq (by omega) (by decide)).mp q)) (by decide)).trans ((lv_osw (k := nI 116) (fun q => k116 ((nI_eq (by omega) (by decide)).mp q)) (by decide)).trans ((lv_osw (k := nI 118) (fun q => k118 ((nI_eq (by omega) (by decide)).mp q)) (by decide)).trans rfl)))) (by decide) ?_
  refine r_iconst dX6_numbersOf_52 ic_0 ?_
  exact g_iret dX6_numbersOf_53 (by simp [nof, *]) rfl

set_option maxHeartbeats 4000000 in
set_option maxRecDepth 100000 in
theorem v_X6_behindNumbers_t (X : mCx) (d : Nat) {S : mSh} {I : mI} {R : mR} {y z n p m : Nat} {tx : Nat → Nat} (hy : Rea S R y) (ht : TxP S I R z tx n) (hm : 1 ≤ m) (hm4 : m ≤ 4) (hp : p ≤ 201) (hok : ∀ b, b < m → okS tx n p m b = true) (hs : z + 1 < y ∨ y + 1 < z) : CC X (d + 2) M_X6_behindNumbers [.ref y, .ref z, .int (nI p), .int (nI m)] S (I, R) (some (.int (nI (atS tx n p m)))) S (sRw I (y + 1) (rN tx n p (I (y + 1)) m), R) := by
  have hzt := ht.1
  refine CC.of2 (L := [.ref y, .ref z, .int (nI p), .int (nI m), .retAddr 0, .retAddr 0, .retAddr 0]) p_X6 (Nat.le_of_ble_eq_true rfl) rfl rfl (List.prefix_refl S) ?_
  refine r_iload_n dX6_behindNumbers_0 rfl ?_
  refine r_istore (L' := [_, _, _, _, _, _, _]) dX6_behindNumbers_1 rfl rfl ?_
  refine r_iconst dX6_behindNumbers_3 ic_0 ?_
  refine r_istore (L' := [_, _, _, _, _, _, _]) dX6_behindNumbers_4 rfl rfl ?_
  refine JJ.loop m (fun j => [.ref y, .ref z, .int (nI p), .int (nI m), .int (nI (atS tx n p j)), .int (nI j), .retAddr 0]) (fun j => (sRw I (y + 1) (rN tx n p (I (y + 1)) j), R)) (fun j => True) rfl (by rw [rN_0, sRw_0]) trivial (fun hp => ?_) (fun j hj hp K => ?_)
  · skip
    refine r_iload dX6_behindNumbers_6 rfl ?_
    refine r_iload_n dX6_behindNumbers_8 rfl ?_
    refine n_icmp_ge (tgt := 118) dX6_behindNumbers_9 (by decide) (by omega) (by omega) (fun c9 => ?_) (fun c9 => absurd c9 (by omega))
    refine r_iload_n dX6_behindNumbers_118 rfl ?_
    refine n_if_le (tgt := 127) dX6_behindNumbers_119 (by decide) (by omega) (fun c119 => absurd c119 (by omega)) (fun c119 => ?_)
    refine r_iload dX6_behindNumbers_122 rfl ?_
    refine r_goto (tgt := 128) dX6_behindNumbers_124 (by decide) ?_
    exact g_iret dX6_behindNumbers_128 rfl rfl
  · have ht1 : TxP S (sRw I (y + 1) (rN tx n p (I (y + 1)) j)) R z tx n := ht.fr (sRw_o (by omega)) (sRw_o (by omega)); have ha := atS_le tx n p j; have hl1 := sgn_lt ht (atS tx n p j); have hl2 := sgn_lt ht (atS tx n p j + 1); have hl3 := sgn_lt ht (atS tx n p j + 1 + 1); have ho := Bool.and_eq_true_iff.mp (hok j hj); have ho1 := ho.1; have ho2 := of_decide_eq_true ho.2; have hd := isD_48 ho1
    refine r_iload dX6_behindNumbers_6 rfl ?_
    refine r_iload_n dX6_behindNumbers_8 rfl ?_
    refine n_icmp_ge (tgt := 118) dX6_behindNumbers_9 (by decide) (by omega) (by omega) (fun c9 => absurd c9 (by omega)) (fun c9 => ?_)
    refine r_aload_n dX6_behindNumbers_12 rfl ?_
    refine r_iload dX6_behindNumbers_13 rfl ?_
    refine r_V1 dX6_behindNumbers_15 l_X6_26 k_X9_sign i_X9_sign (Txt.sg (by assumption)) ⟨_, rfl⟩ (Nat.le_of_ble_eq_true rfl) (v_X9_sign_x X _ ht1 (by omega)) (List.prefix_refl S) ?_
    refine r_S1 dX6_behindNumbers_18 l_X6_42 k_X6_isFigure s_X6_isFigure (Nat.le_of_ble_eq_true rfl) (v_X6_isFigure X _ (by omega)) (List.prefix_refl S) ?_
    refine r_ifB_ne (tgt := 26) dX6_behindNumbers_21 (by decide) (fun c21 => ?_) (fun c21 => absurd ho1 (by rw [isD]; rw [c21]; decide))
    refine r_aload_n dX6_behindNumbers_26 rfl ?_
    refine r_iload dX6_behindNumbers_27 rfl ?_
    refine r_V1 dX6_behindNumbers_29 l_X6_26 k_X9_sign i_X9_sign (Txt.sg (by assumption)) ⟨_, rfl⟩ (Nat.le_of_ble_eq_true rfl) (v_X9_sign_x X _ ht1 (by omega)) (List.prefix_refl S) ?_
    refine r_bipush dX6_behindNumbers_32 bp_48 ?_
    refine n_isub dX6_behindNumbers_34 (by omega) ?_
    refine r_istore (L' := [_, _, _, _, _, _, _]) dX6_behindNumbers_35 rfl rfl ?_
    refine r_iinc (L' := [_, _, _, _, _, _, _]) dX6_behindNumbers_37 rfl rfl (nI_inc _) rfl ?_
    refine r_aload_n dX6_behindNumbers_40 rfl ?_
    refine r_iload dX6_behindNumbers_41 rfl ?_
    refine r_V1 dX6_behindNumbers_43 l_X6_26 k_X9_sign i_X9_sign (Txt.sg (by assumption)) ⟨_, rfl⟩ (Nat.le_of_ble_eq_true rfl) (v_X9_sign_x X _ ht1 (by omega)) (List.prefix_refl S) ?_
    refine r_S1 dX6_behindNumbers_46 l_X6_42 k_X6_isFigure s_X6_isFigure (Nat.le_of_ble_eq_true rfl) (v_X6_isFigure X _ (by omega)) (List.prefix_refl S) ?_
    refine r_ifB_eq (tgt := 72) dX6_behindNumbers_49 (by decide) (fun c49 => ?_) (fun c49 => ?_)
    · skip
      refine r_aload_n dX6_behindNumbers_72 rfl ?_
      refine g_getR dX6_behindNumbers_73 f_X6_9 (Rea.sg (by assumption)) rfl (Rea.r0 (by assumption)) ?_
      refine r_iload dX6_behindNumbers_76 rfl ?_
      refine r_iload dX6_behindNumbers_78 rfl ?_
      refine r_S3 dX6_behindNumbers_80 l_X6_46 k_X7_put s_X7_put (Nat.le_of_ble_eq_true rfl) (v_X7_put X _ (Rea.s0 (by assumption)) (by omega) (by decide)) (List.prefix_refl S) ?_
      refine r_aload_n dX6_behindNumbers_83 rfl ?_
      refine r_iload dX6_behindNumbers_84 rfl ?_
      refine r_V1 dX6_behindNumbers_86 l_X6_26 k_X9_sign i_X9_sign (Txt.sg (by assumption)) ⟨_, rfl⟩ (Nat.le_of_ble_eq_true rfl) (v_X9_sign_x X _ (ht1.fr (sJ_o (by omega)) (sJ_o (by omega))) (by omega)) (List.prefix_refl S) ?_
      refine r_iload dX6_behindNumbers_89 rfl ?_
      refine r_iload_n dX6_behindNumbers_91 rfl ?_
      refine r_iconst dX6_behindNumbers_92 ic_1 ?_
      refine n_isub dX6_behindNumbers_93 (by omega) ?_
      refine n_icmp_ne (tgt := 102) dX6_behindNumbers_94 (by decide) (by omega) (by omega) (fun c94 => ?_) (fun c94 => ?_)
      · skip
        refine r_bipush dX6_behindNumbers_102 bp_44 ?_
        refine n_icmp_eq (tgt := 109) dX6_behindNumbers_104 (by decide) (Nat.lt_trans (sgn_lt ht _) (by decide)) (by omega) (fun c104 => ?_) (fun c104 => (by exfalso; first | (rw [nmE_t c49, if_pos c94] at ho2; exact c104 ho2) | (rw [nmE_t c49, if_neg c94] at ho2; exact c104 ho2) | (rw [nmE_f c49, if_pos c94] at ho2; exact c104 ho2) | (rw [nmE_f c49, if_neg c94] at ho2; exact c104 ho2)))
        refine r_iinc (L' := [_, _, _, _, _, _, _]) dX6_behindNumbers_109 rfl rfl (nI_inc _) rfl ?_
        refine r_iinc (L' := [_, _, _, _, _, _, _]) dX6_behindNumbers_112 rfl rfl (nI_inc _) rfl ?_
        refine r_goto (tgt := 6) dX6_behindNumbers_115 (by decide) ?_
        refine JJ.wk_at 6 (JJ.to (K trivial) ?_ rfl ?_); (first | (rw [atS_s, nmE_t c49]; rfl) | (rw [atS_s, nmE_f c49]; rfl)); (rw [sRw_j]; first | rw [← nmV_t c49, rN_s] | rw [← nmV_f c49, rN_s])
      · skip
        refine r_bipush dX6_behindNumbers_97 bp_59 ?_
        refine r_goto (tgt := 104) dX6_behindNumbers_99 (by decide) ?_
        refine n_icmp_eq (tgt := 109) dX6_behindNumbers_104 (by decide) (Nat.lt_trans (sgn_lt ht _) (by decide)) (by omega) (fun c104 => ?_) (fun c104 => (by exfalso; first | (rw [nmE_t c49, if_pos c94] at ho2; exact c104 ho2) | (rw [nmE_t c49, if_neg c94] at ho2; exact c104 ho2) | (rw [nmE_f c49, if_pos c94] at ho2; exact c104 ho2) | (rw [nmE_f c49, if_neg c94] at ho2; exact c104 ho2)))
        refine r_iinc (L' := [_, _, _, _, _, _, _]) dX6_behindNumbers_109 rfl rfl (nI_inc _) rfl ?_
        refine r_iinc (L' := [_, _, _, _, _, _, _]) dX6_behindNumbers_112 rfl rfl (nI_inc _) rfl ?_
        refine r_goto (tgt := 6) dX6_behindNumbers_115 (by decide) ?_
        refine JJ.wk_at 6 (JJ.to (K trivial) ?_ rfl ?_); (first | (rw [atS_s, nmE_t c49]; rfl) | (rw [atS_s, nmE_f c49]; rfl)); (rw [sRw_j]; first | rw [← nmV_t c49, rN_s] | rw [← nmV_f c49, rN_s])
    · have hd2 := isD_48 c49
      refine r_iload dX6_behindNumbers_52 rfl ?_
      refine r_bipush dX6_behindNumbers_54 bp_10 ?_
      refine n_imul dX6_behindNumbers_56 ?_
      refine r_aload_n dX6_behindNumbers_57 rfl ?_
      refine r_iload dX6_behindNumbers_58 rfl ?_
      refine r_V1 dX6_behindNumbers_60 l_X6_26 k_X9_sign i_X9_sign (Txt.sg (by assumption)) ⟨_, rfl⟩ (Nat.le_of_ble_eq_true rfl) (v_X9_sign_x X _ ht1 (by omega)) (List.prefix_refl S) ?_
      refine n_iadd dX6_behindNumbers_63 ?_
      refine r_bipush dX6_behindNumbers_64 bp_48 ?_
      refine n_isub dX6_behindNumbers_66 (by omega) ?_
      refine r_istore (L' := [_, _, _, _, _, _, _]) dX6_behindNumbers_67 rfl rfl ?_
      refine r_iinc (L' := [_, _, _, _, _, _, _]) dX6_behindNumbers_69 rfl rfl (nI_inc _) rfl ?_
      refine r_aload_n dX6_behindNumbers_72 rfl ?_
      refine g_getR dX6_behindNumbers_73 f_X6_9 (Rea.sg (by assumption)) rfl (Rea.r0 (by assumption)) ?_
      refine r_iload dX6_behindNumbers_76 rfl ?_
      refine r_iload dX6_behindNumbers_78 rfl ?_
      refine r_S3 dX6_behindNumbers_80 l_X6_46 k_X7_put s_X7_put (Nat.le_of_ble_eq_true rfl) (v_X7_put X _ (Rea.s0 (by assumption)) (by omega) (by decide)) (List.prefix_refl S) ?_
      refine r_aload_n dX6_behindNumbers_83 rfl ?_
      refine r_iload dX6_behindNumbers_84 rfl ?_
      refine r_V1 dX6_behindNumbers_86 l_X6_26 k_X9_sign i_X9_sign (Txt.sg (by assumption)) ⟨_, rfl⟩ (Nat.le_of_ble_eq_true rfl) (v_X9_sign_x X _ (ht1.fr (sJ_o (by omega)) (sJ_o (by omega))) (by omega)) (List.prefix_refl S) ?_
      refine r_iload dX6_behindNumbers_89 rfl ?_
      refine r_iload_n dX6_behindNumbers_91 rfl ?_
      refine r_iconst dX6_behindNumbers_92 ic_1 ?_
      refine n_isub dX6_behindNumbers_93 (by omega) ?_
      refine n_icmp_ne (tgt := 102) dX6_behindNumbers_94 (by decide) (by omega) (by omega) (fun c94 => ?_) (fun c94 => ?_)
      · skip
        refine r_bipush dX6_behindNumbers_102 bp_44 ?_
        refine n_icmp_eq (tgt := 109) dX6_behindNumbers_104 (by decide) (Nat.lt_trans (sgn_lt ht _) (by decide)) (by omega) (fun c104 => ?_) (fun c104 => (by exfalso; first | (rw [nmE_t c49, if_pos c94] at ho2; exact c104 ho2) | (rw [nmE_t c49, if_neg c94] at ho2; exact c104 ho2) | (rw [nmE_f c49, if_pos c94] at ho2; exact c104 ho2) | (rw [nmE_f c49, if_neg c94] at ho2; exact c104 ho2)))
        refine r_iinc (L' := [_, _, _, _, _, _, _]) dX6_behindNumbers_109 rfl rfl (nI_inc _) rfl ?_
        refine r_iinc (L' := [_, _, _, _, _, _, _]) dX6_behindNumbers_112 rfl rfl (nI_inc _) rfl ?_
        refine r_goto (tgt := 6) dX6_behindNumbers_115 (by decide) ?_
        refine JJ.wk_at 6 (JJ.to (K trivial) ?_ rfl ?_); (first | (rw [atS_s, nmE_t c49]; rfl) | (rw [atS_s, nmE_f c49]; rfl)); (rw [sRw_j]; first | rw [← nmV_t c49, rN_s] | rw [← nmV_f c49, rN_s])
      · skip
        refine r_bipush dX6_behindNumbers_97 bp_59 ?_
        refine r_goto (tgt := 104) dX6_behindNumbers_99 (by decide) ?_
        refine n_icmp_eq (tgt := 109) dX6_behindNumbers_104 (by decide) (Nat.lt_trans (sgn_lt ht _) (by decide)) (by omega) (fun c104 => ?_) (fun c104 => (by exfalso; first | (rw [nmE_t c49, if_pos c94] at ho2; exact c104 ho2) | (rw [nmE_t c49, if_neg c94] at ho2; exact c104 ho2) | (rw [nmE_f c49, if_pos c94] at ho2; exact c104 ho2) | (rw [nmE_f c49, if_neg c94] at ho2; exact c104 ho2)))
        refine r_iinc (L' := [_, _, _, _, _, _, _]) dX6_behindNumbers_109 rfl rfl (nI_inc _) rfl ?_
        refine r_iinc (L' := [_, _, _, _, _, _, _]) dX6_behindNumbers_112 rfl rfl (nI_inc _) rfl ?_
        refine r_goto (tgt := 6) dX6_behindNumbers_115 (by decide) ?_
        refine JJ.wk_at 6 (JJ.to (K trivial) ?_ rfl ?_); (first | (rw [atS_s, nmE_t c49]; rfl) | (rw [atS_s, nmE_f c49]; rfl)); (rw [sRw_j]; first | rw [← nmV_t c49, rN_s] | rw [← nmV_f c49, rN_s])

set_option maxHeartbeats 4000000 in
set_option maxRecDepth 100000 in
theorem v_X6_behindNumbers_f (X : mCx) (d : Nat) {S : mSh} {I : mI} {R : mR} {y z n p m k0 : Nat} {tx : Nat → Nat} (hy : Rea S R y) (ht : TxP S I R z tx n) (hk0 : k0 < m) (hm4 : m ≤ 4) (hp : p ≤ 201) (hok : ∀ b, b < k0 → okS tx n p m b = true) (hs : z + 1 < y ∨ y + 1 < z) (hA : isD (sgn tx n (atS tx n p k0)) = false) : CC X (d + 2) M_X6_behindNumbers [.ref y, .ref z, .int (nI p), .int (nI m)] S (I, R) (some (.int (-1))) S (sRw I (y + 1) (rN tx n p (I (y + 1)) k0), R) := by
  have hzt := ht.1
  refine CC.of2 (L := [.ref y, .ref z, .int (nI p), .int (nI m), .retAddr 0, .retAddr 0, .retAddr 0]) p_X6 (Nat.le_of_ble_eq_true rfl) rfl rfl (List.prefix_refl S) ?_
  refine r_iload_n dX6_behindNumbers_0 rfl ?_
  refine r_istore (L' := [_, _, _, _, _, _, _]) dX6_behindNumbers_1 rfl rfl ?_
  refine r_iconst dX6_behindNumbers_3 ic_0 ?_
  refine r_istore (L' := [_, _, _, _, _, _, _]) dX6_behindNumbers_4 rfl rfl ?_
  refine JJ.loop k0 (fun j => [.ref y, .ref z, .int (nI p), .int (nI m), .int (nI (atS tx n p j)), .int (nI j), .retAddr 0]) (fun j => (sRw I (y + 1) (rN tx n p (I (y + 1)) j), R)) (fun j => True) rfl (by rw [rN_0, sRw_0]) trivial (fun hp => ?_) (fun j hj hp K => ?_)
  · have ht1 : TxP S (sRw I (y + 1) (rN tx n p (I (y + 1)) k0)) R z tx n := ht.fr (sRw_o (by omega)) (sRw_o (by omega)); have ha := atS_le tx n p k0; have hl1 := sgn_lt ht (atS tx n p k0); have hl2 := sgn_lt ht (atS tx n p k0 + 1); have hl3 := sgn_lt ht (atS tx n p k0 + 1 + 1)
    refine r_iload dX6_behindNumbers_6 rfl ?_
    refine r_iload_n dX6_behindNumbers_8 rfl ?_
    refine n_icmp_ge (tgt := 118) dX6_behindNumbers_9 (by decide) (by omega) (by omega) (fun c9 => absurd c9 (by omega)) (fun c9 => ?_)
    refine r_aload_n dX6_behindNumbers_12 rfl ?_
    refine r_iload dX6_behindNumbers_13 rfl ?_
    refine r_V1 dX6_behindNumbers_15 l_X6_26 k_X9_sign i_X9_sign (Txt.sg (by assumption)) ⟨_, rfl⟩ (Nat.le_of_ble_eq_true rfl) (v_X9_sign_x X _ ht1 (by omega)) (List.prefix_refl S) ?_
    refine r_S1 dX6_behindNumbers_18 l_X6_42 k_X6_isFigure s_X6_isFigure (Nat.le_of_ble_eq_true rfl) (v_X6_isFigure X _ (by omega)) (List.prefix_refl S) ?_
    refine r_ifB_ne (tgt := 26) dX6_behindNumbers_21 (by decide) (fun c21 => absurd hA (by rw [isD]; rw [c21]; decide)) (fun c21 => ?_)
    refine r_iconst dX6_behindNumbers_24 ic_m1 ?_
    exact g_iret dX6_behindNumbers_25 rfl rfl
  · have ht1 : TxP S (sRw I (y + 1) (rN tx n p (I (y + 1)) j)) R z tx n := ht.fr (sRw_o (by omega)) (sRw_o (by omega)); have ha := atS_le tx n p j; have hl1 := sgn_lt ht (atS tx n p j); have hl2 := sgn_lt ht (atS tx n p j + 1); have hl3 := sgn_lt ht (atS tx n p j + 1 + 1); have ho := Bool.and_eq_true_iff.mp (hok j hj); have ho1 := ho.1; have ho2 := of_decide_eq_true ho.2; have hd := isD_48 ho1
    refine r_iload dX6_behindNumbers_6 rfl ?_
    refine r_iload_n dX6_behindNumbers_8 rfl ?_
    refine n_icmp_ge (tgt := 118) dX6_behindNumbers_9 (by decide) (by omega) (by omega) (fun c9 => absurd c9 (by omega)) (fun c9 => ?_)
    refine r_aload_n dX6_behindNumbers_12 rfl ?_
    refine r_iload dX6_behindNumbers_13 rfl ?_
    refine r_V1 dX6_behindNumbers_15 l_X6_26 k_X9_sign i_X9_sign (Txt.sg (by assumption)) ⟨_, rfl⟩ (Nat.le_of_ble_eq_true rfl) (v_X9_sign_x X _ ht1 (by omega)) (List.prefix_refl S) ?_
    refine r_S1 dX6_behindNumbers_18 l_X6_42 k_X6_isFigure s_X6_isFigure (Nat.le_of_ble_eq_true rfl) (v_X6_isFigure X _ (by omega)) (List.prefix_refl S) ?_
    refine r_ifB_ne (tgt := 26) dX6_behindNumbers_21 (by decide) (fun c21 => ?_) (fun c21 => absurd ho1 (by rw [isD]; rw [c21]; decide))
    refine r_aload_n dX6_behindNumbers_26 rfl ?_
    refine r_iload dX6_behindNumbers_27 rfl ?_
    refine r_V1 dX6_behindNumbers_29 l_X6_26 k_X9_sign i_X9_sign (Txt.sg (by assumption)) ⟨_, rfl⟩ (Nat.le_of_ble_eq_true rfl) (v_X9_sign_x X _ ht1 (by omega)) (List.prefix_refl S) ?_
    refine r_bipush dX6_behindNumbers_32 bp_48 ?_
    refine n_isub dX6_behindNumbers_34 (by omega) ?_
    refine r_istore (L' := [_, _, _, _, _, _, _]) dX6_behindNumbers_35 rfl rfl ?_
    refine r_iinc (L' := [_, _, _, _, _, _, _]) dX6_behindNumbers_37 rfl rfl (nI_inc _) rfl ?_
    refine r_aload_n dX6_behindNumbers_40 rfl ?_
    refine r_iload dX6_behindNumbers_41 rfl ?_
    refine r_V1 dX6_behindNumbers_43 l_X6_26 k_X9_sign i_X9_sign (Txt.sg (by assumption)) ⟨_, rfl⟩ (Nat.le_of_ble_eq_true rfl) (v_X9_sign_x X _ ht1 (by omega)) (List.prefix_refl S) ?_
    refine r_S1 dX6_behindNumbers_46 l_X6_42 k_X6_isFigure s_X6_isFigure (Nat.le_of_ble_eq_true rfl) (v_X6_isFigure X _ (by omega)) (List.prefix_refl S) ?_
    refine r_ifB_eq (tgt := 72) dX6_behindNumbers_49 (by decide) (fun c49 => ?_) (fun c49 => ?_)
    · skip
      refine r_aload_n dX6_behindNumbers_72 rfl ?_
      refine g_getR dX6_behindNumbers_73 f_X6_9 (Rea.sg (by assumption)) rfl (Rea.r0 (by assumption)) ?_
      refine r_iload dX6_behindNumbers_76 rfl ?_
      refine r_iload dX6_behindNumbers_78 rfl ?_
      refine r_S3 dX6_behindNumbers_80 l_X6_46 k_X7_put s_X7_put (Nat.le_of_ble_eq_true rfl) (v_X7_put X _ (Rea.s0 (by assumption)) (by omega) (by decide)) (List.prefix_refl S) ?_
      refine r_aload_n dX6_behindNumbers_83 rfl ?_
      refine r_iload dX6_behindNumbers_84 rfl ?_
      refine r_V1 dX6_behindNumbers_86 l_X6_26 k_X9_sign i_X9_sign (Txt.sg (by assumption)) ⟨_, rfl⟩ (Nat.le_of_ble_eq_true rfl) (v_X9_sign_x X _ (ht1.fr (sJ_o (by omega)) (sJ_o (by omega))) (by omega)) (List.prefix_refl S) ?_
      refine r_iload dX6_behindNumbers_89 rfl ?_
      refine r_iload_n dX6_behindNumbers_91 rfl ?_
      refine r_iconst dX6_behindNumbers_92 ic_1 ?_
      refine n_isub dX6_behindNumbers_93 (by omega) ?_
      refine n_icmp_ne (tgt := 102) dX6_behindNumbers_94 (by decide) (by omega) (by omega) (fun c94 => ?_) (fun c94 => ?_)
      · skip
        refine r_bipush dX6_behindNumbers_102 bp_44 ?_
        refine n_icmp_eq (tgt := 109) dX6_behindNumbers_104 (by decide) (Nat.lt_trans (sgn_lt ht _) (by decide)) (by omega) (fun c104 => ?_) (fun c104 => (by exfalso; first | (rw [nmE_t c49, if_pos c94] at ho2; exact c104 ho2) | (rw [nmE_t c49, if_neg c94] at ho2; exact c104 ho2) | (rw [nmE_f c49, if_pos c94] at ho2; exact c104 ho2) | (rw [nmE_f c49, if_neg c94] at ho2; exact c104 ho2)))
        refine r_iinc (L' := [_, _, _, _, _, _, _]) dX6_behindNumbers_109 rfl rfl (nI_inc _) rfl ?_
        refine r_iinc (L' := [_, _, _, _, _, _, _]) dX6_behindNumbers_112 rfl rfl (nI_inc _) rfl ?_
        refine r_goto (tgt := 6) dX6_behindNumbers_115 (by decide) ?_
        refine JJ.wk_at 6 (JJ.to (K trivial) ?_ rfl ?_); (first | (rw [atS_s, nmE_t c49]; rfl) | (rw [atS_s, nmE_f c49]; rfl)); (rw [sRw_j]; first | rw [← nmV_t c49, rN_s] | rw [← nmV_f c49, rN_s])
      · skip
        refine r_bipush dX6_behindNumbers_97 bp_59 ?_
        refine r_goto (tgt := 104) dX6_behindNumbers_99 (by decide) ?_
        refine n_icmp_eq (tgt := 109) dX6_behindNumbers_104 (by decide) (Nat.lt_trans (sgn_lt ht _) (by decide)) (by omega) (fun c104 => ?_) (fun c104 => (by exfalso; first | (rw [nmE_t c49, if_pos c94] at ho2; exact c104 ho2) | (rw [nmE_t c49, if_neg c94] at ho2; exact c104 ho2) | (rw [nmE_f c49, if_pos c94] at ho2; exact c104 ho2) | (rw [nmE_f c49, if_neg c94] at ho2; exact c104 ho2)))
        refine r_iinc (L' := [_, _, _, _, _, _, _]) dX6_behindNumbers_109 rfl rfl (nI_inc _) rfl ?_
        refine r_iinc (L' := [_, _, _, _, _, _, _]) dX6_behindNumbers_112 rfl rfl (nI_inc _) rfl ?_
        refine r_goto (tgt := 6) dX6_behindNumbers_115 (by decide) ?_
        refine JJ.wk_at 6 (JJ.to (K trivial) ?_ rfl ?_); (first | (rw [atS_s, nmE_t c49]; rfl) | (rw [atS_s, nmE_f c49]; rfl)); (rw [sRw_j]; first | rw [← nmV_t c49, rN_s] | rw [← nmV_f c49, rN_s])
    · have hd2 := isD_48 c49
      refine r_iload dX6_behindNumbers_52 rfl ?_
      refine r_bipush dX6_behindNumbers_54 bp_10 ?_
      refine n_imul dX6_behindNumbers_56 ?_
      refine r_aload_n dX6_behindNumbers_57 rfl ?_
      refine r_iload dX6_behindNumbers_58 rfl ?_
      refine r_V1 dX6_behindNumbers_60 l_X6_26 k_X9_sign i_X9_sign (Txt.sg (by assumption)) ⟨_, rfl⟩ (Nat.le_of_ble_eq_true rfl) (v_X9_sign_x X _ ht1 (by omega)) (List.prefix_refl S) ?_
      refine n_iadd dX6_behindNumbers_63 ?_
      refine r_bipush dX6_behindNumbers_64 bp_48 ?_
      refine n_isub dX6_behindNumbers_66 (by omega) ?_
      refine r_istore (L' := [_, _, _, _, _, _, _]) dX6_behindNumbers_67 rfl rfl ?_
      refine r_iinc (L' := [_, _, _, _, _, _, _]) dX6_behindNumbers_69 rfl rfl (nI_inc _) rfl ?_
      refine r_aload_n dX6_behindNumbers_72 rfl ?_
      refine g_getR dX6_behindNumbers_73 f_X6_9 (Rea.sg (by assumption)) rfl (Rea.r0 (by assumption)) ?_
      refine r_iload dX6_behindNumbers_76 rfl ?_
      refine r_iload dX6_behindNumbers_78 rfl ?_
      refine r_S3 dX6_behindNumbers_80 l_X6_46 k_X7_put s_X7_put (Nat.le_of_ble_eq_true rfl) (v_X7_put X _ (Rea.s0 (by assumption)) (by omega) (by decide)) (List.prefix_refl S) ?_
      refine r_aload_n dX6_behindNumbers_83 rfl ?_
      refine r_iload dX6_behindNumbers_84 rfl ?_
      refine r_V1 dX6_behindNumbers_86 l_X6_26 k_X9_sign i_X9_sign (Txt.sg (by assumption)) ⟨_, rfl⟩ (Nat.le_of_ble_eq_true rfl) (v_X9_sign_x X _ (ht1.fr (sJ_o (by omega)) (sJ_o (by omega))) (by omega)) (List.prefix_refl S) ?_
      refine r_iload dX6_behindNumbers_89 rfl ?_
      refine r_iload_n dX6_behindNumbers_91 rfl ?_
      refine r_iconst dX6_behindNumbers_92 ic_1 ?_
      refine n_isub dX6_behindNumbers_93 (by omega) ?_
      refine n_icmp_ne (tgt := 102) dX6_behindNumbers_94 (by decide) (by omega) (by omega) (fun c94 => ?_) (fun c94 => ?_)
      · skip
        refine r_bipush dX6_behindNumbers_102 bp_44 ?_
        refine n_icmp_eq (tgt := 109) dX6_behindNumbers_104 (by decide) (Nat.lt_trans (sgn_lt ht _) (by decide)) (by omega) (fun c104 => ?_) (fun c104 => (by exfalso; first | (rw [nmE_t c49, if_pos c94] at ho2; exact c104 ho2) | (rw [nmE_t c49, if_neg c94] at ho2; exact c104 ho2) | (rw [nmE_f c49, if_pos c94] at ho2; exact c104 ho2) | (rw [nmE_f c49, if_neg c94] at ho2; exact c104 ho2)))
        refine r_iinc (L' := [_, _, _, _, _, _, _]) dX6_behindNumbers_109 rfl rfl (nI_inc _) rfl ?_
        refine r_iinc (L' := [_, _, _, _, _, _, _]) dX6_behindNumbers_112 rfl rfl (nI_inc _) rfl ?_
        refine r_goto (tgt := 6) dX6_behindNumbers_115 (by decide) ?_
        refine JJ.wk_at 6 (JJ.to (K trivial) ?_ rfl ?_); (first | (rw [atS_s, nmE_t c49]; rfl) | (rw [atS_s, nmE_f c49]; rfl)); (rw [sRw_j]; first | rw [← nmV_t c49, rN_s] | rw [← nmV_f c49, rN_s])
      · skip
        refine r_bipush dX6_behindNumbers_97 bp_59 ?_
        refine r_goto (tgt := 104) dX6_behindNumbers_99 (by decide) ?_
        refine n_icmp_eq (tgt := 109) dX6_behindNumbers_104 (by decide) (Nat.lt_trans (sgn_lt ht _) (by decide)) (by omega) (fun c104 => ?_) (fun c104 => (by exfalso; first | (rw [nmE_t c49, if_pos c94] at ho2; exact c104 ho2) | (rw [nmE_t c49, if_neg c94] at ho2; exact c104 ho2) | (rw [nmE_f c49, if_pos c94] at ho2; exact c104 ho2) | (rw [nmE_f c49, if_neg c94] at ho2; exact c104 ho2)))
        refine r_iinc (L' := [_, _, _, _, _, _, _]) dX6_behindNumbers_109 rfl rfl (nI_inc _) rfl ?_
        refine r_iinc (L' := [_, _, _, _, _, _, _]) dX6_behindNumbers_112 rfl rfl (nI_inc _) rfl ?_
        refine r_goto (tgt := 6) dX6_behindNumbers_115 (by decide) ?_
        refine JJ.wk_at 6 (JJ.to (K trivial) ?_ rfl ?_); (first | (rw [atS_s, nmE_t c49]; rfl) | (rw [atS_s, nmE_f c49]; rfl)); (rw [sRw_j]; first | rw [← nmV_t c49, rN_s] | rw [← nmV_f c49, rN_s])

set_option maxHeartbeats 4000000 in
set_option maxRecDepth 100000 in
theorem v_X6_behindNumbers_g (X : mCx) (d : Nat) {S : mSh} {I : mI} {R : mR} {y z n p m k0 : Nat} {tx : Nat → Nat} (hy : Rea S R y) (ht : TxP S I R z tx n) (hk0 : k0 < m) (hm4 : m ≤ 4) (hp : p ≤ 201) (hok : ∀ b, b < k0 → okS tx n p m b = true) (hs : z + 1 < y ∨ y + 1 < z) (hA : isD (sgn tx n (atS tx n p k0)) = true) (hB : ¬ sgn tx n (nmE tx n (atS tx n p k0)) = if k0 = m - 1 then 59 else 44) : CC X (d + 2) M_X6_behindNumbers [.ref y, .ref z, .int (nI p), .int (nI m)] S (I, R) (some (.int (-1))) S (sRw I (y + 1) (rN tx n p (I (y + 1)) (k0 + 1)), R) := by
  have hzt := ht.1
  have hd := isD_48 hA
  refine CC.of2 (L := [.ref y, .ref z, .int (nI p), .int (nI m), .retAddr 0, .retAddr 0, .retAddr 0]) p_X6 (Nat.le_of_ble_eq_true rfl) rfl rfl (List.prefix_refl S) ?_
  refine r_iload_n dX6_behindNumbers_0 rfl ?_
  refine r_istore (L' := [_, _, _, _, _, _, _]) dX6_behindNumbers_1 rfl rfl ?_
  refine r_iconst dX6_behindNumbers_3 ic_0 ?_
  refine r_istore (L' := [_, _, _, _, _, _, _]) dX6_behindNumbers_4 rfl rfl ?_
  refine JJ.loop k0 (fun j => [.ref y, .ref z, .int (nI p), .int (nI m), .int (nI (atS tx n p j)), .int (nI j), .retAddr 0]) (fun j => (sRw I (y + 1) (rN tx n p (I (y + 1)) j), R)) (fun j => True) rfl (by rw [rN_0, sRw_0]) trivial (fun hp => ?_) (fun j hj hp K => ?_)
  · have ht1 : TxP S (sRw I (y + 1) (rN tx n p (I (y + 1)) k0)) R z tx n := ht.fr (sRw_o (by omega)) (sRw_o (by omega)); have ha := atS_le tx n p k0; have hl1 := sgn_lt ht (atS tx n p k0); have hl2 := sgn_lt ht (atS tx n p k0 + 1); have hl3 := sgn_lt ht (atS tx n p k0 + 1 + 1)
    refine r_iload dX6_behindNumbers_6 rfl ?_
    refine r_iload_n dX6_behindNumbers_8 rfl ?_
    refine n_icmp_ge (tgt := 118) dX6_behindNumbers_9 (by decide) (by omega) (by omega) (fun c9 => absurd c9 (by omega)) (fun c9 => ?_)
    refine r_aload_n dX6_behindNumbers_12 rfl ?_
    refine r_iload dX6_behindNumbers_13 rfl ?_
    refine r_V1 dX6_behindNumbers_15 l_X6_26 k_X9_sign i_X9_sign (Txt.sg (by assumption)) ⟨_, rfl⟩ (Nat.le_of_ble_eq_true rfl) (v_X9_sign_x X _ ht1 (by omega)) (List.prefix_refl S) ?_
    refine r_S1 dX6_behindNumbers_18 l_X6_42 k_X6_isFigure s_X6_isFigure (Nat.le_of_ble_eq_true rfl) (v_X6_isFigure X _ (by omega)) (List.prefix_refl S) ?_
    refine r_ifB_ne (tgt := 26) dX6_behindNumbers_21 (by decide) (fun c21 => ?_) (fun c21 => absurd hA (by rw [isD]; rw [c21]; decide))
    refine r_aload_n dX6_behindNumbers_26 rfl ?_
    refine r_iload dX6_behindNumbers_27 rfl ?_
    refine r_V1 dX6_behindNumbers_29 l_X6_26 k_X9_sign i_X9_sign (Txt.sg (by assumption)) ⟨_, rfl⟩ (Nat.le_of_ble_eq_true rfl) (v_X9_sign_x X _ ht1 (by omega)) (List.prefix_refl S) ?_
    refine r_bipush dX6_behindNumbers_32 bp_48 ?_
    refine n_isub dX6_behindNumbers_34 (by omega) ?_
    refine r_istore (L' := [_, _, _, _, _, _, _]) dX6_behindNumbers_35 rfl rfl ?_
    refine r_iinc (L' := [_, _, _, _, _, _, _]) dX6_behindNumbers_37 rfl rfl (nI_inc _) rfl ?_
    refine r_aload_n dX6_behindNumbers_40 rfl ?_
    refine r_iload dX6_behindNumbers_41 rfl ?_
    refine r_V1 dX6_behindNumbers_43 l_X6_26 k_X9_sign i_X9_sign (Txt.sg (by assumption)) ⟨_, rfl⟩ (Nat.le_of_ble_eq_true rfl) (v_X9_sign_x X _ ht1 (by omega)) (List.prefix_refl S) ?_
    refine r_S1 dX6_behindNumbers_46 l_X6_42 k_X6_isFigure s_X6_isFigure (Nat.le_of_ble_eq_true rfl) (v_X6_isFigure X _ (by omega)) (List.prefix_refl S) ?_
    refine r_ifB_eq (tgt := 72) dX6_behindNumbers_49 (by decide) (fun c49 => ?_) (fun c49 => ?_)
    · skip
      refine r_aload_n dX6_behindNumbers_72 rfl ?_
      refine g_getR dX6_behindNumbers_73 f_X6_9 (Rea.sg (by assumption)) rfl (Rea.r0 (by assumption)) ?_
      refine r_iload dX6_behindNumbers_76 rfl ?_
      refine r_iload dX6_behindNumbers_78 rfl ?_
      refine r_S3 dX6_behindNumbers_80 l_X6_46 k_X7_put s_X7_put (Nat.le_of_ble_eq_true rfl) (v_X7_put X _ (Rea.s0 (by assumption)) (by omega) (by decide)) (List.prefix_refl S) ?_
      refine r_aload_n dX6_behindNumbers_83 rfl ?_
      refine r_iload dX6_behindNumbers_84 rfl ?_
      refine r_V1 dX6_behindNumbers_86 l_X6_26 k_X9_sign i_X9_sign (Txt.sg (by assumption)) ⟨_, rfl⟩ (Nat.le_of_ble_eq_true rfl) (v_X9_sign_x X _ (ht1.fr (sJ_o (by omega)) (sJ_o (by omega))) (by omega)) (List.prefix_refl S) ?_
      refine r_iload dX6_behindNumbers_89 rfl ?_
      refine r_iload_n dX6_behindNumbers_91 rfl ?_
      refine r_iconst dX6_behindNumbers_92 ic_1 ?_
      refine n_isub dX6_behindNumbers_93 (by omega) ?_
      refine n_icmp_ne (tgt := 102) dX6_behindNumbers_94 (by decide) (by omega) (by omega) (fun c94 => ?_) (fun c94 => ?_)
      · skip
        refine r_bipush dX6_behindNumbers_102 bp_44 ?_
        refine n_icmp_eq (tgt := 109) dX6_behindNumbers_104 (by decide) (Nat.lt_trans (sgn_lt ht _) (by decide)) (by omega) (fun c104 => (by exfalso; first | (rw [nmE_t c49, if_pos c94] at hB; exact hB c104) | (rw [nmE_t c49, if_neg c94] at hB; exact hB c104) | (rw [nmE_f c49, if_pos c94] at hB; exact hB c104) | (rw [nmE_f c49, if_neg c94] at hB; exact hB c104))) (fun c104 => ?_)
        refine r_iconst dX6_behindNumbers_107 ic_m1 ?_
        exact g_iret dX6_behindNumbers_108 rfl (by rw [sRw_j]; first | rw [← nmV_t c49, rN_s] | rw [← nmV_f c49, rN_s])
      · skip
        refine r_bipush dX6_behindNumbers_97 bp_59 ?_
        refine r_goto (tgt := 104) dX6_behindNumbers_99 (by decide) ?_
        refine n_icmp_eq (tgt := 109) dX6_behindNumbers_104 (by decide) (Nat.lt_trans (sgn_lt ht _) (by decide)) (by omega) (fun c104 => (by exfalso; first | (rw [nmE_t c49, if_pos c94] at hB; exact hB c104) | (rw [nmE_t c49, if_neg c94] at hB; exact hB c104) | (rw [nmE_f c49, if_pos c94] at hB; exact hB c104) | (rw [nmE_f c49, if_neg c94] at hB; exact hB c104))) (fun c104 => ?_)
        refine r_iconst dX6_behindNumbers_107 ic_m1 ?_
        exact g_iret dX6_behindNumbers_108 rfl (by rw [sRw_j]; first | rw [← nmV_t c49, rN_s] | rw [← nmV_f c49, rN_s])
    · have hd2 := isD_48 c49
      refine r_iload dX6_behindNumbers_52 rfl ?_
      refine r_bipush dX6_behindNumbers_54 bp_10 ?_
      refine n_imul dX6_behindNumbers_56 ?_
      refine r_aload_n dX6_behindNumbers_57 rfl ?_
      refine r_iload dX6_behindNumbers_58 rfl ?_
      refine r_V1 dX6_behindNumbers_60 l_X6_26 k_X9_sign i_X9_sign (Txt.sg (by assumption)) ⟨_, rfl⟩ (Nat.le_of_ble_eq_true rfl) (v_X9_sign_x X _ ht1 (by omega)) (List.prefix_refl S) ?_
      refine n_iadd dX6_behindNumbers_63 ?_
      refine r_bipush dX6_behindNumbers_64 bp_48 ?_
      refine n_isub dX6_behindNumbers_66 (by omega) ?_
      refine r_istore (L' := [_, _, _, _, _, _, _]) dX6_behindNumbers_67 rfl rfl ?_
      refine r_iinc (L' := [_, _, _, _, _, _, _]) dX6_behindNumbers_69 rfl rfl (nI_inc _) rfl ?_
      refine r_aload_n dX6_behindNumbers_72 rfl ?_
      refine g_getR dX6_behindNumbers_73 f_X6_9 (Rea.sg (by assumption)) rfl (Rea.r0 (by assumption)) ?_
      refine r_iload dX6_behindNumbers_76 rfl ?_
      refine r_iload dX6_behindNumbers_78 rfl ?_
      refine r_S3 dX6_behindNumbers_80 l_X6_46 k_X7_put s_X7_put (Nat.le_of_ble_eq_true rfl) (v_X7_put X _ (Rea.s0 (by assumption)) (by omega) (by decide)) (List.prefix_refl S) ?_
      refine r_aload_n dX6_behindNumbers_83 rfl ?_
      refine r_iload dX6_behindNumbers_84 rfl ?_
      refine r_V1 dX6_behindNumbers_86 l_X6_26 k_X9_sign i_X9_sign (Txt.sg (by assumption)) ⟨_, rfl⟩ (Nat.le_of_ble_eq_true rfl) (v_X9_sign_x X _ (ht1.fr (sJ_o (by omega)) (sJ_o (by omega))) (by omega)) (List.prefix_refl S) ?_
      refine r_iload dX6_behindNumbers_89 rfl ?_
      refine r_iload_n dX6_behindNumbers_91 rfl ?_
      refine r_iconst dX6_behindNumbers_92 ic_1 ?_
      refine n_isub dX6_behindNumbers_93 (by omega) ?_
      refine n_icmp_ne (tgt := 102) dX6_behindNumbers_94 (by decide) (by omega) (by omega) (fun c94 => ?_) (fun c94 => ?_)
      · skip
        refine r_bipush dX6_behindNumbers_102 bp_44 ?_
        refine n_icmp_eq (tgt := 109) dX6_behindNumbers_104 (by decide) (Nat.lt_trans (sgn_lt ht _) (by decide)) (by omega) (fun c104 => (by exfalso; first | (rw [nmE_t c49, if_pos c94] at hB; exact hB c104) | (rw [nmE_t c49, if_neg c94] at hB; exact hB c104) | (rw [nmE_f c49, if_pos c94] at hB; exact hB c104) | (rw [nmE_f c49, if_neg c94] at hB; exact hB c104))) (fun c104 => ?_)
        refine r_iconst dX6_behindNumbers_107 ic_m1 ?_
        exact g_iret dX6_behindNumbers_108 rfl (by rw [sRw_j]; first | rw [← nmV_t c49, rN_s] | rw [← nmV_f c49, rN_s])
      · skip
        refine r_bipush dX6_behindNumbers_97 bp_59 ?_
        refine r_goto (tgt := 104) dX6_behindNumbers_99 (by decide) ?_
        refine n_icmp_eq (tgt := 109) dX6_behindNumbers_104 (by decide) (Nat.lt_trans (sgn_lt ht _) (by decide)) (by omega) (fun c104 => (by exfalso; first | (rw [nmE_t c49, if_pos c94] at hB; exact hB c104) | (rw [nmE_t c49, if_neg c94] at hB; exact hB c104) | (rw [nmE_f c49, if_pos c94] at hB; exact hB c104) | (rw [nmE_f c49, if_neg c94] at hB; exact hB c104))) (fun c104 => ?_)
        refine r_iconst dX6_behindNumbers_107 ic_m1 ?_
        exact g_iret dX6_behindNumbers_108 rfl (by rw [sRw_j]; first | rw [← nmV_t c49, rN_s] | rw [← nmV_f c49, rN_s])
  · have ht1 : TxP S (sRw I (y + 1) (rN tx n p (I (y + 1)) j)) R z tx n := ht.fr (sRw_o (by omega)) (sRw_o (by omega)); have ha := atS_le tx n p j; have hl1 := sgn_lt ht (atS tx n p j); have hl2 := sgn_lt ht (atS tx n p j + 1); have hl3 := sgn_lt ht (atS tx n p j + 1 + 1); have ho := Bool.and_eq_true_iff.mp (hok j hj); have ho1 := ho.1; have ho2 := of_decide_eq_true ho.2; have hd := isD_48 ho1
    refine r_iload dX6_behindNumbers_6 rfl ?_
    refine r_iload_n dX6_behindNumbers_8 rfl ?_
    refine n_icmp_ge (tgt := 118) dX6_behindNumbers_9 (by decide) (by omega) (by omega) (fun c9 => absurd c9 (by omega)) (fun c9 => ?_)
    refine r_aload_n dX6_behindNumbers_12 rfl ?_
    refine r_iload dX6_behindNumbers_13 rfl ?_
    refine r_V1 dX6_behindNumbers_15 l_X6_26 k_X9_sign i_X9_sign (Txt.sg (by assumption)) ⟨_, rfl⟩ (Nat.le_of_ble_eq_true rfl) (v_X9_sign_x X _ ht1 (by omega)) (List.prefix_refl S) ?_
    refine r_S1 dX6_behindNumbers_18 l_X6_42 k_X6_isFigure s_X6_isFigure (Nat.le_of_ble_eq_true rfl) (v_X6_isFigure X _ (by omega)) (List.prefix_refl S) ?_
    refine r_ifB_ne (tgt := 26) dX6_behindNumbers_21 (by decide) (fun c21 => ?_) (fun c21 => absurd ho1 (by rw [isD]; rw [c21]; decide))
    refine r_aload_n dX6_behindNumbers_26 rfl ?_
    refine r_iload dX6_behindNumbers_27 rfl ?_
    refine r_V1 dX6_behindNumbers_29 l_X6_26 k_X9_sign i_X9_sign (Txt.sg (by assumption)) ⟨_, rfl⟩ (Nat.le_of_ble_eq_true rfl) (v_X9_sign_x X _ ht1 (by omega)) (List.prefix_refl S) ?_
    refine r_bipush dX6_behindNumbers_32 bp_48 ?_
    refine n_isub dX6_behindNumbers_34 (by omega) ?_
    refine r_istore (L' := [_, _, _, _, _, _, _]) dX6_behindNumbers_35 rfl rfl ?_
    refine r_iinc (L' := [_, _, _, _, _, _, _]) dX6_behindNumbers_37 rfl rfl (nI_inc _) rfl ?_
    refine r_aload_n dX6_behindNumbers_40 rfl ?_
    refine r_iload dX6_behindNumbers_41 rfl ?_
    refine r_V1 dX6_behindNumbers_43 l_X6_26 k_X9_sign i_X9_sign (Txt.sg (by assumption)) ⟨_, rfl⟩ (Nat.le_of_ble_eq_true rfl) (v_X9_sign_x X _ ht1 (by omega)) (List.prefix_refl S) ?_
    refine r_S1 dX6_behindNumbers_46 l_X6_42 k_X6_isFigure s_X6_isFigure (Nat.le_of_ble_eq_true rfl) (v_X6_isFigure X _ (by omega)) (List.prefix_refl S) ?_
    refine r_ifB_eq (tgt := 72) dX6_behindNumbers_49 (by decide) (fun c49 => ?_) (fun c49 => ?_)
    · skip
      refine r_aload_n dX6_behindNumbers_72 rfl ?_
      refine g_getR dX6_behindNumbers_73 f_X6_9 (Rea.sg (by assumption)) rfl (Rea.r0 (by assumption)) ?_
      refine r_iload dX6_behindNumbers_76 rfl ?_
      refine r_iload dX6_behindNumbers_78 rfl ?_
      refine r_S3 dX6_behindNumbers_80 l_X6_46 k_X7_put s_X7_put (Nat.le_of_ble_eq_true rfl) (v_X7_put X _ (Rea.s0 (by assumption)) (by omega) (by decide)) (List.prefix_refl S) ?_
      refine r_aload_n dX6_behindNumbers_83 rfl ?_
      refine r_iload dX6_behindNumbers_84 rfl ?_
      refine r_V1 dX6_behindNumbers_86 l_X6_26 k_X9_sign i_X9_sign (Txt.sg (by assumption)) ⟨_, rfl⟩ (Nat.le_of_ble_eq_true rfl) (v_X9_sign_x X _ (ht1.fr (sJ_o (by omega)) (sJ_o (by omega))) (by omega)) (List.prefix_refl S) ?_
      refine r_iload dX6_behindNumbers_89 rfl ?_
      refine r_iload_n dX6_behindNumbers_91 rfl ?_
      refine r_iconst dX6_behindNumbers_92 ic_1 ?_
      refine n_isub dX6_behindNumbers_93 (by omega) ?_
      refine n_icmp_ne (tgt := 102) dX6_behindNumbers_94 (by decide) (by omega) (by omega) (fun c94 => ?_) (fun c94 => ?_)
      · skip
        refine r_bipush dX6_behindNumbers_102 bp_44 ?_
        refine n_icmp_eq (tgt := 109) dX6_behindNumbers_104 (by decide) (Nat.lt_trans (sgn_lt ht _) (by decide)) (by omega) (fun c104 => ?_) (fun c104 => (by exfalso; first | (rw [nmE_t c49, if_pos c94] at ho2; exact c104 ho2) | (rw [nmE_t c49, if_neg c94] at ho2; exact c104 ho2) | (rw [nmE_f c49, if_pos c94] at ho2; exact c104 ho2) | (rw [nmE_f c49, if_neg c94] at ho2; exact c104 ho2)))
        refine r_iinc (L' := [_, _, _, _, _, _, _]) dX6_behindNumbers_109 rfl rfl (nI_inc _) rfl ?_
        refine r_iinc (L' := [_, _, _, _, _, _, _]) dX6_behindNumbers_112 rfl rfl (nI_inc _) rfl ?_
        refine r_goto (tgt := 6) dX6_behindNumbers_115 (by decide) ?_
        refine JJ.wk_at 6 (JJ.to (K trivial) ?_ rfl ?_); (first | (rw [atS_s, nmE_t c49]; rfl) | (rw [atS_s, nmE_f c49]; rfl)); (rw [sRw_j]; first | rw [← nmV_t c49, rN_s] | rw [← nmV_f c49, rN_s])
      · skip
        refine r_bipush dX6_behindNumbers_97 bp_59 ?_
        refine r_goto (tgt := 104) dX6_behindNumbers_99 (by decide) ?_
        refine n_icmp_eq (tgt := 109) dX6_behindNumbers_104 (by decide) (Nat.lt_trans (sgn_lt ht _) (by decide)) (by omega) (fun c104 => ?_) (fun c104 => (by exfalso; first | (rw [nmE_t c49, if_pos c94] at ho2; exact c104 ho2) | (rw [nmE_t c49, if_neg c94] at ho2; exact c104 ho2) | (rw [nmE_f c49, if_pos c94] at ho2; exact c104 ho2) | (rw [nmE_f c49, if_neg c94] at ho2; exact c104 ho2)))
        refine r_iinc (L' := [_, _, _, _, _, _, _]) dX6_behindNumbers_109 rfl rfl (nI_inc _) rfl ?_
        refine r_iinc (L' := [_, _, _, _, _, _, _]) dX6_behindNumbers_112 rfl rfl (nI_inc _) rfl ?_
        refine r_goto (tgt := 6) dX6_behindNumbers_115 (by decide) ?_
        refine JJ.wk_at 6 (JJ.to (K trivial) ?_ rfl ?_); (first | (rw [atS_s, nmE_t c49]; rfl) | (rw [atS_s, nmE_f c49]; rfl)); (rw [sRw_j]; first | rw [← nmV_t c49, rN_s] | rw [← nmV_f c49, rN_s])
    · have hd2 := isD_48 c49
      refine r_iload dX6_behindNumbers_52 rfl ?_
      refine r_bipush dX6_behindNumbers_54 bp_10 ?_
      refine n_imul dX6_behindNumbers_56 ?_
      refine r_aload_n dX6_behindNumbers_57 rfl ?_
      refine r_iload dX6_behindNumbers_58 rfl ?_
      refine r_V1 dX6_behindNumbers_60 l_X6_26 k_X9_sign i_X9_sign (Txt.sg (by assumption)) ⟨_, rfl⟩ (Nat.le_of_ble_eq_true rfl) (v_X9_sign_x X _ ht1 (by omega)) (List.prefix_refl S) ?_
      refine n_iadd dX6_behindNumbers_63 ?_
      refine r_bipush dX6_behindNumbers_64 bp_48 ?_
      refine n_isub dX6_behindNumbers_66 (by omega) ?_
      refine r_istore (L' := [_, _, _, _, _, _, _]) dX6_behindNumbers_67 rfl rfl ?_
      refine r_iinc (L' := [_, _, _, _, _, _, _]) dX6_behindNumbers_69 rfl rfl (nI_inc _) rfl ?_
      refine r_aload_n dX6_behindNumbers_72 rfl ?_
      refine g_getR dX6_behindNumbers_73 f_X6_9 (Rea.sg (by assumption)) rfl (Rea.r0 (by assumption)) ?_
      refine r_iload dX6_behindNumbers_76 rfl ?_
      refine r_iload dX6_behindNumbers_78 rfl ?_
      refine r_S3 dX6_behindNumbers_80 l_X6_46 k_X7_put s_X7_put (Nat.le_of_ble_eq_true rfl) (v_X7_put X _ (Rea.s0 (by assumption)) (by omega) (by decide)) (List.prefix_refl S) ?_
      refine r_aload_n dX6_behindNumbers_83 rfl ?_
      refine r_iload dX6_behindNumbers_84 rfl ?_
      refine r_V1 dX6_behindNumbers_86 l_X6_26 k_X9_sign i_X9_sign (Txt.sg (by assumption)) ⟨_, rfl⟩ (Nat.le_of_ble_eq_true rfl) (v_X9_sign_x X _ (ht1.fr (sJ_o (by omega)) (sJ_o (by omega))) (by omega)) (List.prefix_refl S) ?_
      refine r_iload dX6_behindNumbers_89 rfl ?_
      refine r_iload_n dX6_behindNumbers_91 rfl ?_
      refine r_iconst dX6_behindNumbers_92 ic_1 ?_
      refine n_isub dX6_behindNumbers_93 (by omega) ?_
      refine n_icmp_ne (tgt := 102) dX6_behindNumbers_94 (by decide) (by omega) (by omega) (fun c94 => ?_) (fun c94 => ?_)
      · skip
        refine r_bipush dX6_behindNumbers_102 bp_44 ?_
        refine n_icmp_eq (tgt := 109) dX6_behindNumbers_104 (by decide) (Nat.lt_trans (sgn_lt ht _) (by decide)) (by omega) (fun c104 => ?_) (fun c104 => (by exfalso; first | (rw [nmE_t c49, if_pos c94] at ho2; exact c104 ho2) | (rw [nmE_t c49, if_neg c94] at ho2; exact c104 ho2) | (rw [nmE_f c49, if_pos c94] at ho2; exact c104 ho2) | (rw [nmE_f c49, if_neg c94] at ho2; exact c104 ho2)))
        refine r_iinc (L' := [_, _, _, _, _, _, _]) dX6_behindNumbers_109 rfl rfl (nI_inc _) rfl ?_
        refine r_iinc (L' := [_, _, _, _, _, _, _]) dX6_behindNumbers_112 rfl rfl (nI_inc _) rfl ?_
        refine r_goto (tgt := 6) dX6_behindNumbers_115 (by decide) ?_
        refine JJ.wk_at 6 (JJ.to (K trivial) ?_ rfl ?_); (first | (rw [atS_s, nmE_t c49]; rfl) | (rw [atS_s, nmE_f c49]; rfl)); (rw [sRw_j]; first | rw [← nmV_t c49, rN_s] | rw [← nmV_f c49, rN_s])
      · skip
        refine r_bipush dX6_behindNumbers_97 bp_59 ?_
        refine r_goto (tgt := 104) dX6_behindNumbers_99 (by decide) ?_
        refine n_icmp_eq (tgt := 109) dX6_behindNumbers_104 (by decide) (Nat.lt_trans (sgn_lt ht _) (by decide)) (by omega) (fun c104 => ?_) (fun c104 => (by exfalso; first | (rw [nmE_t c49, if_pos c94] at ho2; exact c104 ho2) | (rw [nmE_t c49, if_neg c94] at ho2; exact c104 ho2) | (rw [nmE_f c49, if_pos c94] at ho2; exact c104 ho2) | (rw [nmE_f c49, if_neg c94] at ho2; exact c104 ho2)))
        refine r_iinc (L' := [_, _, _, _, _, _, _]) dX6_behindNumbers_109 rfl rfl (nI_inc _) rfl ?_
        refine r_iinc (L' := [_, _, _, _, _, _, _]) dX6_behindNumbers_112 rfl rfl (nI_inc _) rfl ?_
        refine r_goto (tgt := 6) dX6_behindNumbers_115 (by decide) ?_
        refine JJ.wk_at 6 (JJ.to (K trivial) ?_ rfl ?_); (first | (rw [atS_s, nmE_t c49]; rfl) | (rw [atS_s, nmE_f c49]; rfl)); (rw [sRw_j]; first | rw [← nmV_t c49, rN_s] | rw [← nmV_f c49, rN_s])

set_option maxHeartbeats 4000000 in
set_option maxRecDepth 100000 in
theorem v_X6_behindNumbers_0 (X : mCx) (d : Nat) {S : mSh} {I : mI} {R : mR} {y z p : Nat} (hy : Rea S R y) : CC X (d + 1) M_X6_behindNumbers [.ref y, .ref z, .int (nI p), .int (nI 0)] S (I, R) (some (.int (-1))) S (I, R) := by
  refine CC.of2 (L := [.ref y, .ref z, .int (nI p), .int (nI 0), .retAddr 0, .retAddr 0, .retAddr 0]) p_X6 (Nat.le_of_ble_eq_true rfl) rfl rfl (List.prefix_refl S) ?_
  refine r_iload_n dX6_behindNumbers_0 rfl ?_
  refine r_istore (L' := [_, _, _, _, _, _, _]) dX6_behindNumbers_1 rfl rfl ?_
  refine r_iconst dX6_behindNumbers_3 ic_0 ?_
  refine r_istore (L' := [_, _, _, _, _, _, _]) dX6_behindNumbers_4 rfl rfl ?_
  refine r_iload dX6_behindNumbers_6 rfl ?_
  refine r_iload_n dX6_behindNumbers_8 rfl ?_
  refine n_icmp_ge (tgt := 118) dX6_behindNumbers_9 (by decide) (by omega) (by omega) (fun c9 => ?_) (fun c9 => absurd c9 (by omega))
  refine r_iload_n dX6_behindNumbers_118 rfl ?_
  refine n_if_le (tgt := 127) dX6_behindNumbers_119 (by decide) (by omega) (fun c119 => ?_) (fun c119 => absurd c119 (by omega))
  refine r_iconst dX6_behindNumbers_127 ic_m1 ?_
  exact g_iret dX6_behindNumbers_128 rfl rfl

