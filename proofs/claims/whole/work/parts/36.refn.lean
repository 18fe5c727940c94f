/-! ===== the reference: numbers of an item ===== -/
theorem sJ_2 (I : mI) (o j : Nat) (x y : Int32) : sJ (sJ I o j x) o j y = sJ I o j y := by
  funext a b
  unfold sJ
  split <;> rfl
theorem MoT.fr {I I1 : mI} {tx : Nat → Nat} {n : Nat} (q : MoT I tx n) (h : I1 97 8 = I 97 8) (h2 : I1 102 = I 102) : MoT I1 tx n := by
  unfold MoT at q ⊢
  rw [h, h2]; exact q
theorem MoT.sg {I : mI} {tx : Nat → Nat} {n : Nat} (q : MoT I tx n) (k : Nat) : sgn tx n k < 128 := by
  unfold sgn
  split
  · exact (q.2.2 k (by assumption)).2
  · decide
theorem isD_of {c : Nat} (h1 : 48 ≤ c) (h2 : c ≤ 57) : isD c = true := by unfold isD; rw [decide_eq_true h1, decide_eq_true h2]; rfl
theorem let_n {tx : Nat → Nat} {n k : Nat} (h : k < n) : letM tx n k = nI (sgn tx n k) := by unfold letM sgn; rw [if_pos h, if_pos h]
theorem let_D {tx : Nat → Nat} {n k : Nat} (h : isD (sgn tx n k) = true) : letM tx n k = nI (sgn tx n k) := by
  by_cases hk : k < n
  · exact let_n hk
  · have := isD_48 h
    unfold sgn at this
    rw [if_neg hk] at this
    omega
theorem inD {I : mI} {tx : Nat → Nat} {n k : Nat} (q : MoT I tx n) : (!decide ((letM tx n k).toInt64 < lN 48) && !decide (lN 57 < (letM tx n k).toInt64)) = isD (sgn tx n k) := by
  have h := q.sg k
  by_cases hk : k < n
  · rw [let_n hk, in_n (by omega) (by decide) (by decide)]; rfl
  · unfold letM sgn
    rw [if_neg hk, if_neg hk]
    decide
theorem let_eq {I : mI} {tx : Nat → Nat} {n k c : Nat} (q : MoT I tx n) (hc : c < 128) (h32 : c ≠ 32) : letM tx n k = nI c ↔ sgn tx n k = c := by
  have h := q.sg k
  by_cases hk : k < n
  · rw [let_n hk]
    exact nI_eq (by omega) (by omega)
  · unfold letM sgn
    rw [if_neg hk, if_neg hk]
    constructor
    · intro e
      have e2 := congrArg Int32.toInt e
      rw [nI_toInt (by omega)] at e2
      have e3 : (-1 : Int32).toInt = -1 := by decide
      omega
    · intro e
      exact absurd e.symm h32
theorem v_X12_letterAt_D (X : mCx) (d : Nat) {S : mSh} {I : mI} {R : mR} {tx : Nat → Nat} {n k : Nat} (hm : Mod S R) (ht : MoT I tx n) (hk : k < 2 ^ 31) (hD : isD (sgn tx n k) = true) : CC X (d + 1) M_X12_letterAt [.ref 97, .int (nI k)] S (I, R) (some (.int (nI (sgn tx n k)))) S (I, R) := by
  rw [← let_D hD]
  exact v_X12_letterAt X d hm ht hk
theorem v_X12_letterAt_n (X : mCx) (d : Nat) {S : mSh} {I : mI} {R : mR} {tx : Nat → Nat} {n k : Nat} (hm : Mod S R) (ht : MoT I tx n) (hk : k < n) : CC X (d + 1) M_X12_letterAt [.ref 97, .int (nI k)] S (I, R) (some (.int (nI (sgn tx n k)))) S (I, R) := by
  rw [← let_n hk]
  exact v_X12_letterAt X d hm ht (by have := ht.2.1; omega)
set_option maxHeartbeats 4000000 in
set_option maxRecDepth 100000 in
theorem g_nm1 (X : mCx) (d : Nat) {S : mSh} {I : mI} {R : mR} {tx : Nat → Nat} {n m k v fg q : Nat} {r : Option Value} {h : mHp} (hm : Mod S R) (ht : MoT I tx n) (hq : I 97 9 = nI q) (hq2 : q < 1000) (hv : v < 1000) (hf : fg < 3) (hm4 : m ≤ 4) (hk : k ≤ m) (hD : isD (sgn tx n q) = true) (hf2 : fg < 2) (K : JJ X M_X12_takesNumbers (d + 2) 12 [.ref 97, .int (nI m), .int (nI k), .int (nI (10 * v + sgn tx n q - 48)), .int (nI (fg + 1))] [] S (sJ I 97 9 (nI (q + 1)), R) r S h) : JJ X M_X12_takesNumbers (d + 2) 12 [.ref 97, .int (nI m), .int (nI k), .int (nI v), .int (nI fg)] [] S (I, R) (r) S h := by
  have h48 := isD_48 hD
  have hsg := ht.sg q
  refine r_aload_n dX12_takesNumbers_12 rfl ?_
  refine r_aload_n dX12_takesNumbers_13 rfl ?_
  refine g_getI dX12_takesNumbers_14 f_X12_85 (Mod.sg (by assumption)) rfl hq ?_
  refine r_V1 dX12_takesNumbers_17 l_X12_88 k_X12_letterAt i_X12_letterAt (Mod.sg (by assumption)) ⟨_, rfl⟩ (Nat.le_of_ble_eq_true rfl) (v_X12_letterAt X _ hm ht (by omega)) (List.prefix_refl S) ?_
  refine r_i2l dX12_takesNumbers_20 rfl ?_
  refine r_ldc2 dX12_takesNumbers_21 c_X12_92 ?_
  refine r_ldc2 dX12_takesNumbers_24 c_X12_94 ?_
  refine r_S3 dX12_takesNumbers_27 l_X12_62 k_X12_in s_X12_in (Nat.le_of_ble_eq_true rfl) (v_X12_in X _ ) (List.prefix_refl S) ?_
  refine g_top (congrArg bI (inD ht)) ?_
  refine r_ifB_eq (tgt := 72) dX12_takesNumbers_30 (by decide) (fun c30 => absurd (hD.symm.trans c30) (by decide)) (fun c30 => ?_)
  refine r_iload dX12_takesNumbers_33 rfl ?_
  refine r_iconst dX12_takesNumbers_35 ic_2 ?_
  refine n_icmp_ge (tgt := 72) dX12_takesNumbers_36 (by decide) (by omega) (by omega) (fun c36 => absurd c36 (by omega)) (fun c36 => ?_)
  refine r_bipush dX12_takesNumbers_39 bp_10 ?_
  refine r_iload_n dX12_takesNumbers_41 rfl ?_
  refine n_imul dX12_takesNumbers_42 ?_
  refine r_aload_n dX12_takesNumbers_43 rfl ?_
  refine r_aload_n dX12_takesNumbers_44 rfl ?_
  refine g_getI dX12_takesNumbers_45 f_X12_85 (Mod.sg (by assumption)) rfl hq ?_
  refine r_V1 dX12_takesNumbers_48 l_X12_88 k_X12_letterAt i_X12_letterAt (Mod.sg (by assumption)) ⟨_, rfl⟩ (Nat.le_of_ble_eq_true rfl) (v_X12_letterAt_D X _ hm ht (by omega) hD) (List.prefix_refl S) ?_
  refine n_iadd dX12_takesNumbers_51 ?_
  refine r_bipush dX12_takesNumbers_52 bp_48 ?_
  refine n_isub dX12_takesNumbers_54 (by omega) ?_
  refine r_istore_n (L' := [_, _, _, _, _]) dX12_takesNumbers_55 rfl rfl ?_
  refine r_aload_n dX12_takesNumbers_56 rfl ?_
  refine r_dup dX12_takesNumbers_57 rfl ?_
  refine g_getI dX12_takesNumbers_58 f_X12_85 (Mod.sg (by assumption)) rfl hq ?_
  refine r_iconst dX12_takesNumbers_61 ic_1 ?_
  refine n_iadd dX12_takesNumbers_62 ?_
  refine g_putI dX12_takesNumbers_63 f_X12_85 (Mod.sg (by assumption)) rfl ?_
  refine r_iinc (L' := [_, _, _, _, _]) dX12_takesNumbers_66 rfl rfl (nI_inc _) rfl ?_
  exact r_goto (tgt := 12) dX12_takesNumbers_69 (by decide) K

set_option maxHeartbeats 4000000 in
set_option maxRecDepth 100000 in
theorem g_nm2 (X : mCx) (d : Nat) {S : mSh} {I : mI} {R : mR} {tx : Nat → Nat} {n m k v fg q : Nat} {r : Option Value} {h : mHp} (hm : Mod S R) (ht : MoT I tx n) (hq : I 97 9 = nI q) (hq2 : q < 1000) (hv : v < 1000) (hf : fg < 3) (hm4 : m ≤ 4) (hk : k ≤ m) (hD : isD (sgn tx n q) = false) (K : JJ X M_X12_takesNumbers (d + 2) 72 [.ref 97, .int (nI m), .int (nI k), .int (nI v), .int (nI fg)] [] S (I, R) r S h) : JJ X M_X12_takesNumbers (d + 2) 12 [.ref 97, .int (nI m), .int (nI k), .int (nI v), .int (nI fg)] [] S (I, R) (r) S h := by
  refine r_aload_n dX12_takesNumbers_12 rfl ?_
  refine r_aload_n dX12_takesNumbers_13 rfl ?_
  refine g_getI dX12_takesNumbers_14 f_X12_85 (Mod.sg (by assumption)) rfl hq ?_
  refine r_V1 dX12_takesNumbers_17 l_X12_88 k_X12_letterAt i_X12_letterAt (Mod.sg (by assumption)) ⟨_, rfl⟩ (Nat.le_of_ble_eq_true rfl) (v_X12_letterAt X _ hm ht (by omega)) (List.prefix_refl S) ?_
  refine r_i2l dX12_takesNumbers_20 rfl ?_
  refine r_ldc2 dX12_takesNumbers_21 c_X12_92 ?_
  refine r_ldc2 dX12_takesNumbers_24 c_X12_94 ?_
  refine r_S3 dX12_takesNumbers_27 l_X12_62 k_X12_in s_X12_in (Nat.le_of_ble_eq_true rfl) (v_X12_in X _ ) (List.prefix_refl S) ?_
  refine g_top (congrArg bI (inD ht)) ?_
  refine r_ifB_eq (tgt := 72) dX12_takesNumbers_30 (by decide) (fun c30 => ?_) (fun c30 => absurd (hD.symm.trans c30) (by decide))
  exact K

set_option maxHeartbeats 4000000 in
set_option maxRecDepth 100000 in
theorem g_nm3 (X : mCx) (d : Nat) {S : mSh} {I : mI} {R : mR} {tx : Nat → Nat} {n m k v fg q : Nat} {r : Option Value} {h : mHp} (hm : Mod S R) (ht : MoT I tx n) (hq : I 97 9 = nI q) (hq2 : q < 1000) (hv : v < 1000) (hf : fg < 3) (hm4 : m ≤ 4) (hk : k ≤ m) (hD : isD (sgn tx n q) = true) (hf2 : fg = 2) (K : JJ X M_X12_takesNumbers (d + 2) 72 [.ref 97, .int (nI m), .int (nI k), .int (nI v), .int (nI fg)] [] S (I, R) r S h) : JJ X M_X12_takesNumbers (d + 2) 12 [.ref 97, .int (nI m), .int (nI k), .int (nI v), .int (nI fg)] [] S (I, R) (r) S h := by
  refine r_aload_n dX12_takesNumbers_12 rfl ?_
  refine r_aload_n dX12_takesNumbers_13 rfl ?_
  refine g_getI dX12_takesNumbers_14 f_X12_85 (Mod.sg (by assumption)) rfl hq ?_
  refine r_V1 dX12_takesNumbers_17 l_X12_88 k_X12_letterAt i_X12_letterAt (Mod.sg (by assumption)) ⟨_, rfl⟩ (Nat.le_of_ble_eq_true rfl) (v_X12_letterAt X _ hm ht (by omega)) (List.prefix_refl S) ?_
  refine r_i2l dX12_takesNumbers_20 rfl ?_
  refine r_ldc2 dX12_takesNumbers_21 c_X12_92 ?_
  refine r_ldc2 dX12_takesNumbers_24 c_X12_94 ?_
  refine r_S3 dX12_takesNumbers_27 l_X12_62 k_X12_in s_X12_in (Nat.le_of_ble_eq_true rfl) (v_X12_in X _ ) (List.prefix_refl S) ?_
  refine g_top (congrArg bI (inD ht)) ?_
  refine r_ifB_eq (tgt := 72) dX12_takesNumbers_30 (by decide) (fun c30 => absurd (hD.symm.trans c30) (by decide)) (fun c30 => ?_)
  refine r_iload dX12_takesNumbers_33 rfl ?_
  refine r_iconst dX12_takesNumbers_35 ic_2 ?_
  refine n_icmp_ge (tgt := 72) dX12_takesNumbers_36 (by decide) (by omega) (by omega) (fun c36 => ?_) (fun c36 => absurd c36 (by omega))
  exact K

set_option maxHeartbeats 4000000 in
set_option maxRecDepth 100000 in
theorem g_nm4 (X : mCx) (d : Nat) {S : mSh} {I : mI} {R : mR} {m k : Nat} {r : Option Value} {h : mHp} (hm : Mod S R) (hm4 : m ≤ 4) (hk : k < m) (K : JJ X M_X12_takesNumbers (d + 2) 12 [.ref 97, .int (nI m), .int (nI k), .int (nI 0), .int (nI 0)] [] S (I, R) r S h) : JJ X M_X12_takesNumbers (d + 2) 2 [.ref 97, .int (nI m), .int (nI k), .retAddr 0, .retAddr 0] [] S (I, R) (r) S h := by
  refine r_iload_n dX12_takesNumbers_2 rfl ?_
  refine r_iload_n dX12_takesNumbers_3 rfl ?_
  refine n_icmp_ge (tgt := 127) dX12_takesNumbers_4 (by decide) (by omega) (by omega) (fun c4 => absurd c4 (by omega)) (fun c4 => ?_)
  refine r_iconst dX12_takesNumbers_7 ic_0 ?_
  refine r_istore_n (L' := [_, _, _, _, _]) dX12_takesNumbers_8 rfl rfl ?_
  refine r_iconst dX12_takesNumbers_9 ic_0 ?_
  refine r_istore (L' := [_, _, _, _, _]) dX12_takesNumbers_10 rfl rfl ?_
  exact K

set_option maxHeartbeats 4000000 in
set_option maxRecDepth 100000 in
theorem g_nm5 (X : mCx) (d : Nat) {S : mSh} {I : mI} {R : mR} {m k : Nat} (hm : Mod S R) (hm4 : m ≤ 4) (hk : k = m)  : JJ X M_X12_takesNumbers (d + 2) 2 [.ref 97, .int (nI m), .int (nI k), .retAddr 0, .retAddr 0] [] S (I, R) (some (.int (bI true))) S (I, R) := by
  refine r_iload_n dX12_takesNumbers_2 rfl ?_
  refine r_iload_n dX12_takesNumbers_3 rfl ?_
  refine n_icmp_ge (tgt := 127) dX12_takesNumbers_4 (by decide) (by omega) (by omega) (fun c4 => ?_) (fun c4 => absurd c4 (by omega))
  refine r_iconst dX12_takesNumbers_127 ic_1 ?_
  exact g_iret dX12_takesNumbers_128 (rB1 rfl) rfl

set_option maxHeartbeats 4000000 in
set_option maxRecDepth 100000 in
theorem g_nm6 (X : mCx) (d : Nat) {S : mSh} {I : mI} {R : mR} {tx : Nat → Nat} {n m k v fg q : Nat} (hm : Mod S R) (ht : MoT I tx n) (hq : I 97 9 = nI q) (hq2 : q < 1000) (hv : v < 1000) (hf : fg < 3) (hm4 : m ≤ 4) (hk : k ≤ m) (hf2 : fg = 0)  : JJ X M_X12_takesNumbers (d + 2) 72 [.ref 97, .int (nI m), .int (nI k), .int (nI v), .int (nI fg)] [] S (I, R) (some (.int (bI false))) S (I, R) := by
  refine r_iload dX12_takesNumbers_72 rfl ?_
  refine n_if_eq (tgt := 102) dX12_takesNumbers_74 (by decide) (by omega) (fun c74 => ?_) (fun c74 => absurd c74 (by omega))
  refine r_iconst dX12_takesNumbers_102 ic_0 ?_
  exact g_iret dX12_takesNumbers_103 (rB0 rfl) rfl

set_option maxHeartbeats 4000000 in
set_option maxRecDepth 100000 in
theorem g_nm7 (X : mCx) (d : Nat) {S : mSh} {I : mI} {R : mR} {tx : Nat → Nat} {n m k v fg q : Nat} (hm : Mod S R) (ht : MoT I tx n) (hq : I 97 9 = nI q) (hq2 : q < 1000) (hv : v < 1000) (hf : fg < 3) (hm4 : m ≤ 4) (hk : k ≤ m) (hf2 : 1 ≤ fg) (hkm : k < m) (hs : ¬ letM tx n q = (if k < m - 1 then nI 44 else nI 59))  : JJ X M_X12_takesNumbers (d + 2) 72 [.ref 97, .int (nI m), .int (nI k), .int (nI v), .int (nI fg)] [] S (I, R) (some (.int (bI false))) S (I, R) := by
  refine r_iload dX12_takesNumbers_72 rfl ?_
  refine n_if_eq (tgt := 102) dX12_takesNumbers_74 (by decide) (by omega) (fun c74 => absurd c74 (by omega)) (fun c74 => ?_)
  refine r_aload_n dX12_takesNumbers_77 rfl ?_
  refine r_aload_n dX12_takesNumbers_78 rfl ?_
  refine g_getI dX12_takesNumbers_79 f_X12_85 (Mod.sg (by assumption)) rfl hq ?_
  refine r_V1 dX12_takesNumbers_82 l_X12_88 k_X12_letterAt i_X12_letterAt (Mod.sg (by assumption)) ⟨_, rfl⟩ (Nat.le_of_ble_eq_true rfl) (v_X12_letterAt X _ hm ht (by omega)) (List.prefix_refl S) ?_
  refine r_iload_n dX12_takesNumbers_85 rfl ?_
  refine r_iload_n dX12_takesNumbers_86 rfl ?_
  refine r_iconst dX12_takesNumbers_87 ic_1 ?_
  refine n_isub dX12_takesNumbers_88 (by omega) ?_
  refine n_icmp_ge (tgt := 97) dX12_takesNumbers_89 (by decide) (by omega) (by omega) (fun c89 => ?_) (fun c89 => ?_)
  · skip
    refine r_bipush dX12_takesNumbers_97 bp_59 ?_
    refine r_icmp_eq (tgt := 104) dX12_takesNumbers_99 (by decide) (fun c99 => (by exfalso; first | (rw [if_pos c89] at hs; exact hs c99) | (rw [if_neg (by omega)] at hs; exact hs c99))) (fun c99 => ?_)
    refine r_iconst dX12_takesNumbers_102 ic_0 ?_
    exact g_iret dX12_takesNumbers_103 (rB0 rfl) rfl
  · skip
    refine r_bipush dX12_takesNumbers_92 bp_44 ?_
    refine r_goto (tgt := 99) dX12_takesNumbers_94 (by decide) ?_
    refine r_icmp_eq (tgt := 104) dX12_takesNumbers_99 (by decide) (fun c99 => (by exfalso; first | (rw [if_pos c89] at hs; exact hs c99) | (rw [if_neg (by omega)] at hs; exact hs c99))) (fun c99 => ?_)
    refine r_iconst dX12_takesNumbers_102 ic_0 ?_
    exact g_iret dX12_takesNumbers_103 (rB0 rfl) rfl

set_option maxHeartbeats 4000000 in
set_option maxRecDepth 100000 in
theorem g_nm8 (X : mCx) (d : Nat) {S : mSh} {I : mI} {R : mR} {tx : Nat → Nat} {n m k v fg q : Nat} {r : Option Value} {h : mHp} (hm : Mod S R) (ht : MoT I tx n) (hq : I 97 9 = nI q) (hq2 : q < 1000) (hv : v < 1000) (hf : fg < 3) (hm4 : m ≤ 4) (hk : k ≤ m) (hf2 : 1 ≤ fg) (hkm : k < m) (hs : letM tx n q = (if k < m - 1 then nI 44 else nI 59)) (K : JJ X M_X12_takesNumbers (d + 2) 2 [.ref 97, .int (nI m), .int (nI (k + 1)), .retAddr 0, .retAddr 0] [] S (sJ (sJ I 97 9 (nI (q + 1))) 103 k (nI v), R) r S h) : JJ X M_X12_takesNumbers (d + 2) 72 [.ref 97, .int (nI m), .int (nI k), .int (nI v), .int (nI fg)] [] S (I, R) (r) S h := by
  refine r_iload dX12_takesNumbers_72 rfl ?_
  refine n_if_eq (tgt := 102) dX12_takesNumbers_74 (by decide) (by omega) (fun c74 => absurd c74 (by omega)) (fun c74 => ?_)
  refine r_aload_n dX12_takesNumbers_77 rfl ?_
  refine r_aload_n dX12_takesNumbers_78 rfl ?_
  refine g_getI dX12_takesNumbers_79 f_X12_85 (Mod.sg (by assumption)) rfl hq ?_
  refine r_V1 dX12_takesNumbers_82 l_X12_88 k_X12_letterAt i_X12_letterAt (Mod.sg (by assumption)) ⟨_, rfl⟩ (Nat.le_of_ble_eq_true rfl) (v_X12_letterAt X _ hm ht (by omega)) (List.prefix_refl S) ?_
  refine r_iload_n dX12_takesNumbers_85 rfl ?_
  refine r_iload_n dX12_takesNumbers_86 rfl ?_
  refine r_iconst dX12_takesNumbers_87 ic_1 ?_
  refine n_isub dX12_takesNumbers_88 (by omega) ?_
  refine n_icmp_ge (tgt := 97) dX12_takesNumbers_89 (by decide) (by omega) (by omega) (fun c89 => ?_) (fun c89 => ?_)
  · skip
    refine r_bipush dX12_takesNumbers_97 bp_59 ?_
    refine r_icmp_eq (tgt := 104) dX12_takesNumbers_99 (by decide) (fun c99 => ?_) (fun c99 => (by exfalso; first | (rw [if_pos c89] at hs; exact c99 hs) | (rw [if_neg (by omega)] at hs; exact c99 hs)))
    refine r_aload_n dX12_takesNumbers_104 rfl ?_
    refine r_dup dX12_takesNumbers_105 rfl ?_
    refine g_getI dX12_takesNumbers_106 f_X12_85 (Mod.sg (by assumption)) rfl hq ?_
    refine r_iconst dX12_takesNumbers_109 ic_1 ?_
    refine n_iadd dX12_takesNumbers_110 ?_
    refine g_putI dX12_takesNumbers_111 f_X12_85 (Mod.sg (by assumption)) rfl ?_
    refine r_aload_n dX12_takesNumbers_114 rfl ?_
    refine g_getR dX12_takesNumbers_115 f_X12_25 (Mod.sg (by assumption)) rfl (Mod.r103 (by assumption)) ?_
    refine r_iload_n dX12_takesNumbers_118 rfl ?_
    refine r_iload_n dX12_takesNumbers_119 rfl ?_
    refine g_iast dX12_takesNumbers_120 (Mod.s103 (by assumption)) rfl (by omega) (by omega) ?_
    refine r_iinc (L' := [_, _, _, _, _]) dX12_takesNumbers_121 rfl rfl (nI_inc _) rfl ?_
    exact r_goto (tgt := 2) dX12_takesNumbers_124 (by decide) (JJ.wk_at 3 (JJ.wk_at 4 K))
  · skip
    refine r_bipush dX12_takesNumbers_92 bp_44 ?_
    refine r_goto (tgt := 99) dX12_takesNumbers_94 (by decide) ?_
    refine r_icmp_eq (tgt := 104) dX12_takesNumbers_99 (by decide) (fun c99 => ?_) (fun c99 => (by exfalso; first | (rw [if_pos c89] at hs; exact c99 hs) | (rw [if_neg (by omega)] at hs; exact c99 hs)))
    refine r_aload_n dX12_takesNumbers_104 rfl ?_
    refine r_dup dX12_takesNumbers_105 rfl ?_
    refine g_getI dX12_takesNumbers_106 f_X12_85 (Mod.sg (by assumption)) rfl hq ?_
    refine r_iconst dX12_takesNumbers_109 ic_1 ?_
    refine n_iadd dX12_takesNumbers_110 ?_
    refine g_putI dX12_takesNumbers_111 f_X12_85 (Mod.sg (by assumption)) rfl ?_
    refine r_aload_n dX12_takesNumbers_114 rfl ?_
    refine g_getR dX12_takesNumbers_115 f_X12_25 (Mod.sg (by assumption)) rfl (Mod.r103 (by assumption)) ?_
    refine r_iload_n dX12_takesNumbers_118 rfl ?_
    refine r_iload_n dX12_takesNumbers_119 rfl ?_
    refine g_iast dX12_takesNumbers_120 (Mod.s103 (by assumption)) rfl (by omega) (by omega) ?_
    refine r_iinc (L' := [_, _, _, _, _]) dX12_takesNumbers_121 rfl rfl (nI_inc _) rfl ?_
    exact r_goto (tgt := 2) dX12_takesNumbers_124 (by decide) (JJ.wk_at 3 (JJ.wk_at 4 K))

theorem nmV_lt {I : mI} {tx : Nat → Nat} {n q : Nat} (ht : MoT I tx n) (hD : isD (sgn tx n q) = true) : nmV tx n q < 1000 := by
  have h1 := isD_48 hD
  have h2 := ht.sg (q + 1)
  unfold nmV
  split <;> omega
theorem g_num (X : mCx) (d : Nat) {S : mSh} {I : mI} {R : mR} {tx : Nat → Nat} {n m k q : Nat} {r : Option Value} {h : mHp} (hm : Mod S R) (ht : MoT I tx n) (hq : I 97 9 = nI q) (hq2 : q < 900) (hm4 : m ≤ 4) (hk : k ≤ m) (hD : isD (sgn tx n q) = true)
    (K : ∀ fg, 1 ≤ fg → fg < 3 → JJ X M_X12_takesNumbers (d + 2) 72 [.ref 97, .int (nI m), .int (nI k), .int (nI (nmV tx n q)), .int (nI fg)] [] S (sJ I 97 9 (nI (nmE tx n q)), R) r S h) :
    JJ X M_X12_takesNumbers (d + 2) 12 [.ref 97, .int (nI m), .int (nI k), .int (nI 0), .int (nI 0)] [] S (I, R) r S h := by
  have hg := isD_48 hD
  have hg2 := ht.sg (q + 1)
  refine g_nm1 X d hm ht hq (by omega) (by decide) (by decide) hm4 hk hD (by decide) ?_
  have ht1 : MoT (sJ I 97 9 (nI (q + 1))) tx n := ht.fr (sJ_ne (Or.inr (by decide))) (sJ_o (by decide))
  cases hD2 : isD (sgn tx n (q + 1)) with
  | false =>
    refine g_nm2 X d hm ht1 (sJ_eq _ _ _ _) (by omega) (by omega) (by decide) hm4 hk hD2 ?_
    have e1 := nmV_f hD2
    have e2 := nmE_f hD2
    have := K 1 (by decide) (by decide)
    rw [e1, e2] at this
    rw [show 10 * 0 + sgn tx n q - 48 = sgn tx n q - 48 by omega]
    exact this
  | true =>
    have hg3 := isD_48 hD2
    refine g_nm1 X d hm ht1 (sJ_eq _ _ _ _) (by omega) (by omega) (by decide) hm4 hk hD2 (by decide) ?_
    rw [sJ_2]
    have ht2 : MoT (sJ I 97 9 (nI (q + 1 + 1))) tx n := ht.fr (sJ_ne (Or.inr (by decide))) (sJ_o (by decide))
    have e1 := nmV_t hD2
    have e2 := nmE_t hD2
    have := K 2 (by decide) (by decide)
    rw [e1, e2] at this
    rw [show 10 * (10 * 0 + sgn tx n q - 48) + sgn tx n (q + 1) - 48 = (sgn tx n q - 48) * 10 + sgn tx n (q + 1) - 48 by omega]
    cases hD3 : isD (sgn tx n (q + 1 + 1)) with
    | false => exact g_nm2 X d hm ht2 (sJ_eq _ _ _ _) (by omega) (by omega) (by decide) hm4 hk hD3 this
    | true => exact g_nm3 X d hm ht2 (sJ_eq _ _ _ _) (by omega) (by omega) (by decide) hm4 hk hD3 (by decide) this
