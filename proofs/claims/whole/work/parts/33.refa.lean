/-! ===== the reference: what changes something ===== -/
def mnI (I : mI) (s : Nat → Int32) (u : Nat) : mI := if u < 8 then sJ (dW I (105 + 35 * u) s) 97 2 (nI (u + 1)) else sJ (dW (sJ (shF I 245) 97 2 (nI 7)) 350 s) 97 2 (nI 8)
theorem mnI_o {I : mI} {s : Nat → Int32} {u o : Nat} (h1 : o ≠ 97) (h2 : o ≠ 99) : mnI I s u o = I o := by
  unfold mnI
  split
  · rw [sJ_o h1, dW_o h2]
  · rw [sJ_o h1, dW_o h2, sJ_o h1, shF_o h2]
theorem mnI_97 {I : mI} {s : Nat → Int32} {u b : Nat} (h1 : b ≠ 2) : mnI I s u 97 b = I 97 b := by
  unfold mnI
  split
  · rw [sJ_ne (Or.inr h1), dW_o (by decide)]
  · rw [sJ_ne (Or.inr h1), dW_o (by decide), sJ_ne (Or.inr h1), shF_o (by decide)]
theorem mnI_u {I : mI} {s : Nat → Int32} {u : Nat} (h8 : u ≤ 8) : mnI I s u 97 2 = nI (if u < 8 then u + 1 else 8) := by
  unfold mnI
  split
  · rw [sJ_eq]
  · rw [sJ_eq]
theorem mnI_lo {I : mI} {s : Nat → Int32} {u b : Nat} (h1 : b < 105 ∨ 385 ≤ b) : mnI I s u 99 b = I 99 b := by
  unfold mnI
  split
  · rw [sJ_o (by decide), dW_n (by omega)]
  · rw [sJ_o (by decide), dW_n (by omega), sJ_o (by decide), shF_n (by omega)]
theorem MoD.mn {I : mI} {s t : Nat → Int32} {u h hb : Nat} (q : MoD I h t hb) (h1 : h + 35 ≤ 105 ∨ 385 ≤ h) : MoD (mnI I s u) h t hb := ⟨fun k hk => by rw [mnI_lo (by omega)]; exact q.1 k hk, q.2⟩
theorem MoW.mn {I : mI} {s w : Nat → Int32} {u N G : Nat} (q : MoW I w N G) : MoW (mnI I s u) w N G := q.fr (mnI_o (by decide) (by decide))
theorem MoW.dW {I : mI} {h : Nat} {s w : Nat → Int32} {N G : Nat} (q : MoW I w N G) : MoW (dW I h s) w N G := q.fr (dW_o (by decide))
theorem v_X12_minds (X : mCx) (d : Nat) {S : mSh} {I : mI} {R : mR} {s : Nat → Int32} {hb u : Nat} (hm : Mod S R) (hd : MoD I 0 s hb) (hu : I 97 2 = nI u) (h8 : u ≤ 8) : CC X (d + 2) M_X12_minds [.ref 97] S (I, R) (none) S (mnI I s u, R) := by
  unfold mnI
  by_cases h : u < 8
  · rw [if_pos h]
    exact v_X12_minds_a X d hm hd hu h
  · rw [if_neg h]
    rw [show u = 8 by omega] at hu
    exact v_X12_minds_b X d hm hd hu
set_option maxHeartbeats 4000000 in
set_option maxRecDepth 100000 in
theorem v_X12_undo_0 (X : mCx) (d : Nat) {S : mSh} {I : mI} {R : mR} (hm : Mod S R) (hu : I 97 2 = nI 0) : CC X (d + 1) M_X12_undo [.ref 97] S (I, R) (some (.int (-2))) S (I, R) := by
  refine CC.of2 (L := [.ref 97]) p_X12 (Nat.le_of_ble_eq_true rfl) rfl rfl (List.prefix_refl S) ?_
  refine r_aload_n dX12_undo_0 rfl ?_
  refine g_getI dX12_undo_1 f_X12_68 (Mod.sg (by assumption)) rfl hu ?_
  refine n_if_ne (tgt := 10) dX12_undo_4 (by decide) (by omega) (fun c4 => absurd rfl c4) (fun c4 => ?_)
  refine r_bipush dX12_undo_7 bp_m2 ?_
  exact g_iret dX12_undo_9 rfl rfl

set_option maxHeartbeats 4000000 in
set_option maxRecDepth 100000 in
theorem v_X12_undo_t (X : mCx) (d : Nat) {S : mSh} {I : mI} {R : mR} {t : Nat → Int32} {hb u : Nat} (hm : Mod S R) (hu : I 97 2 = nI (u + 1)) (h8 : u < 8) (hd : MoD I (105 + 35 * u) t hb) : CC X (d + 2) M_X12_undo [.ref 97] S (I, R) (some (.int (nI u))) S (dW (sJ I 97 2 (nI u)) 0 t, R) := by
  refine CC.of2 (L := [.ref 97]) p_X12 (Nat.le_of_ble_eq_true rfl) rfl rfl (List.prefix_refl S) ?_
  refine r_aload_n dX12_undo_0 rfl ?_
  refine g_getI dX12_undo_1 f_X12_68 (Mod.sg (by assumption)) rfl hu ?_
  refine n_if_ne (tgt := 10) dX12_undo_4 (by decide) (by omega) (fun c4 => ?_) (fun c4 => absurd c4 (by omega))
  refine r_aload_n dX12_undo_10 rfl ?_
  refine r_dup dX12_undo_11 rfl ?_
  refine g_getI dX12_undo_12 f_X12_68 (Mod.sg (by assumption)) rfl hu ?_
  refine r_iconst dX12_undo_15 ic_1 ?_
  refine n_isub dX12_undo_16 (by omega) ?_
  refine g_putI dX12_undo_17 f_X12_68 (Mod.sg (by assumption)) rfl ?_
  refine JJ.to (h1 := (sJ I 97 2 (nI u), R)) ?_ rfl rfl (by rw [Nat.add_sub_cancel])
  have hd2 : MoD (sJ I 97 2 (nI u)) (105 + 35 * u) t hb := hd.fr (sJ_o (by decide))
  refine r_aload_n dX12_undo_20 rfl ?_
  refine r_bipush dX12_undo_21 bp_105 ?_
  refine r_bipush dX12_undo_23 bp_35 ?_
  refine r_aload_n dX12_undo_25 rfl ?_
  refine g_getI dX12_undo_26 f_X12_68 (Mod.sg (by assumption)) rfl (sJ_eq _ _ _ _) ?_
  refine n_imul dX12_undo_29 ?_
  refine n_iadd dX12_undo_30 ?_
  refine r_iconst dX12_undo_31 ic_0 ?_
  refine r_V2 dX12_undo_32 l_X12_147 k_X12_copy i_X12_copy (Mod.sg (by assumption)) ⟨_, rfl⟩ (Nat.le_of_ble_eq_true rfl) (v_X12_copy X _ hm hd2 (by omega) (by omega)) (List.prefix_refl S) ?_
  refine r_aload_n dX12_undo_35 rfl ?_
  refine g_getI dX12_undo_36 f_X12_68 (Mod.sg (by assumption)) rfl (show _ = nI u by rw [dW_o (by decide)]; exact sJ_eq _ _ _ _) ?_
  exact g_iret dX12_undo_39 rfl rfl

set_option maxHeartbeats 4000000 in
set_option maxRecDepth 100000 in
theorem v_X12_keep_f (X : mCx) (d : Nat) {S : mSh} {I : mI} {R : mR} (hm : Mod S R) (hv : I 97 3 = nI 2) : CC X (d + 1) M_X12_keep [.ref 97] S (I, R) (some (.int (-3))) S (I, R) := by
  refine CC.of2 (L := [.ref 97]) p_X12 (Nat.le_of_ble_eq_true rfl) rfl rfl (List.prefix_refl S) ?_
  refine r_aload_n dX12_keep_0 rfl ?_
  refine g_getI dX12_keep_1 f_X12_72 (Mod.sg (by assumption)) rfl hv ?_
  refine r_iconst dX12_keep_4 ic_2 ?_
  refine n_icmp_ne (tgt := 11) dX12_keep_5 (by decide) (by omega) (by omega) (fun c5 => absurd rfl c5) (fun c5 => ?_)
  refine r_bipush dX12_keep_8 bp_m3 ?_
  exact g_iret dX12_keep_10 rfl rfl

set_option maxHeartbeats 4000000 in
set_option maxRecDepth 100000 in
theorem v_X12_keep_t (X : mCx) (d : Nat) {S : mSh} {I : mI} {R : mR} {s : Nat → Int32} {hb v : Nat} (hm : Mod S R) (hd : MoD I 0 s hb) (hv : I 97 3 = nI v) (h2 : v < 2) : CC X (d + 2) M_X12_keep [.ref 97] S (I, R) (some (.int (nI (v + 1)))) S (sJ (dW I (35 + 35 * v) s) 97 3 (nI (v + 1)), R) := by
  refine CC.of2 (L := [.ref 97]) p_X12 (Nat.le_of_ble_eq_true rfl) rfl rfl (List.prefix_refl S) ?_
  refine r_aload_n dX12_keep_0 rfl ?_
  refine g_getI dX12_keep_1 f_X12_72 (Mod.sg (by assumption)) rfl hv ?_
  refine r_iconst dX12_keep_4 ic_2 ?_
  refine n_icmp_ne (tgt := 11) dX12_keep_5 (by decide) (by omega) (by omega) (fun c5 => ?_) (fun c5 => absurd c5 (by omega))
  refine r_aload_n dX12_keep_11 rfl ?_
  refine r_iconst dX12_keep_12 ic_0 ?_
  refine r_bipush dX12_keep_13 bp_35 ?_
  refine r_bipush dX12_keep_15 bp_35 ?_
  refine r_aload_n dX12_keep_17 rfl ?_
  refine g_getI dX12_keep_18 f_X12_72 (Mod.sg (by assumption)) rfl hv ?_
  refine n_imul dX12_keep_21 ?_
  refine n_iadd dX12_keep_22 ?_
  refine r_V2 dX12_keep_23 l_X12_147 k_X12_copy i_X12_copy (Mod.sg (by assumption)) ⟨_, rfl⟩ (Nat.le_of_ble_eq_true rfl) (v_X12_copy X _ hm hd (by omega) (by omega)) (List.prefix_refl S) ?_
  refine r_aload_n dX12_keep_26 rfl ?_
  refine r_dup dX12_keep_27 rfl ?_
  refine g_getI dX12_keep_28 f_X12_72 (Mod.sg (by assumption)) rfl (show _ = nI v by rw [dW_o (by decide)]; exact hv) ?_
  refine r_iconst dX12_keep_31 ic_1 ?_
  refine n_iadd dX12_keep_32 ?_
  refine g_putI dX12_keep_33 f_X12_72 (Mod.sg (by assumption)) rfl ?_
  refine r_aload_n dX12_keep_36 rfl ?_
  refine g_getI dX12_keep_37 f_X12_72 (Mod.sg (by assumption)) rfl (sJ_eq _ _ _ _) ?_
  exact g_iret dX12_keep_40 rfl rfl

set_option maxHeartbeats 4000000 in
set_option maxRecDepth 100000 in
theorem v_X12_back_0 (X : mCx) (d : Nat) {S : mSh} {I : mI} {R : mR} (hm : Mod S R) (hv : I 97 3 = nI 0) : CC X (d + 1) M_X12_back [.ref 97] S (I, R) (some (.int (-2))) S (I, R) := by
  refine CC.of2 (L := [.ref 97]) p_X12 (Nat.le_of_ble_eq_true rfl) rfl rfl (List.prefix_refl S) ?_
  refine r_aload_n dX12_back_0 rfl ?_
  refine g_getI dX12_back_1 f_X12_72 (Mod.sg (by assumption)) rfl hv ?_
  refine n_if_ne (tgt := 10) dX12_back_4 (by decide) (by omega) (fun c4 => absurd rfl c4) (fun c4 => ?_)
  refine r_bipush dX12_back_7 bp_m2 ?_
  exact g_iret dX12_back_9 rfl rfl

set_option maxHeartbeats 4000000 in
set_option maxRecDepth 100000 in
theorem v_X12_back_t (X : mCx) (d : Nat) {S : mSh} {I : mI} {R : mR} {t : Nat → Int32} {hb v : Nat} (hm : Mod S R) (hv : I 97 3 = nI (v + 1)) (h2 : v < 2) (hd : MoD I (35 + 35 * v) t hb) : CC X (d + 2) M_X12_back [.ref 97] S (I, R) (some (.int (nI v))) S (sJ (dW (sJ I 97 3 (nI v)) 0 t) 97 2 (nI 0), R) := by
  refine CC.of2 (L := [.ref 97]) p_X12 (Nat.le_of_ble_eq_true rfl) rfl rfl (List.prefix_refl S) ?_
  refine r_aload_n dX12_back_0 rfl ?_
  refine g_getI dX12_back_1 f_X12_72 (Mod.sg (by assumption)) rfl hv ?_
  refine n_if_ne (tgt := 10) dX12_back_4 (by decide) (by omega) (fun c4 => ?_) (fun c4 => absurd c4 (by omega))
  refine r_aload_n dX12_back_10 rfl ?_
  refine r_dup dX12_back_11 rfl ?_
  refine g_getI dX12_back_12 f_X12_72 (Mod.sg (by assumption)) rfl hv ?_
  refine r_iconst dX12_back_15 ic_1 ?_
  refine n_isub dX12_back_16 (by omega) ?_
  refine g_putI dX12_back_17 f_X12_72 (Mod.sg (by assumption)) rfl ?_
  refine JJ.to (h1 := (sJ I 97 3 (nI v), R)) ?_ rfl rfl (by rw [Nat.add_sub_cancel])
  have hd2 : MoD (sJ I 97 3 (nI v)) (35 + 35 * v) t hb := hd.fr (sJ_o (by decide))
  refine r_aload_n dX12_back_20 rfl ?_
  refine r_bipush dX12_back_21 bp_35 ?_
  refine r_bipush dX12_back_23 bp_35 ?_
  refine r_aload_n dX12_back_25 rfl ?_
  refine g_getI dX12_back_26 f_X12_72 (Mod.sg (by assumption)) rfl (sJ_eq _ _ _ _) ?_
  refine n_imul dX12_back_29 ?_
  refine n_iadd dX12_back_30 ?_
  refine r_iconst dX12_back_31 ic_0 ?_
  refine r_V2 dX12_back_32 l_X12_147 k_X12_copy i_X12_copy (Mod.sg (by assumption)) ⟨_, rfl⟩ (Nat.le_of_ble_eq_true rfl) (v_X12_copy X _ hm hd2 (by omega) (by omega)) (List.prefix_refl S) ?_
  refine r_aload_n dX12_back_35 rfl ?_
  refine r_iconst dX12_back_36 ic_0 ?_
  refine g_putI dX12_back_37 f_X12_68 (Mod.sg (by assumption)) rfl ?_
  refine r_aload_n dX12_back_40 rfl ?_
  refine g_getI dX12_back_41 f_X12_72 (Mod.sg (by assumption)) rfl (show _ = nI v by rw [sJ_ne (Or.inr (by decide)), dW_o (by decide)]; exact sJ_eq _ _ _ _) ?_
  exact g_iret dX12_back_44 rfl rfl

theorem isS_in {y : Int32} : (!decide (y.toInt64 < lN 0) && !decide (lN 999 < y.toInt64)) = isS y := by rw [inL (by decide) (by decide), nI_0]; rfl
set_option maxHeartbeats 4000000 in
set_option maxRecDepth 100000 in
theorem v_X12_swear_t (X : mCx) (d : Nat) {S : mSh} {I : mI} {R : mR} {w s : Nat → Int32} {N G hb m i : Nat} {y : Int32} (hm : Mod S R) (hw : MoW I w N G) (hd : MoD I 0 s hb) (hv : I 97 4 = nI m) (h6 : m < 6) (hi : i < N) (hy : isS y = true) (hh : hb.testBit i = true) : CC X (d + 3) M_X12_swear [.ref 97, .int (nI i), .int y] S (I, R) (some (.int (nI (m + 1)))) S (sJ (sJ (sJ I 100 m (nI i)) 101 m y) 97 4 (nI (m + 1)), R) := by
  have hN6 := hw.N6
  have hG8 := hw.G8
  have h256 := hd.b256
  refine CC.of2 (L := [.ref 97, .int (nI i), .int y]) p_X12 (Nat.le_of_ble_eq_true rfl) rfl rfl (List.prefix_refl S) ?_
  refine r_aload_n dX12_swear_0 rfl ?_
  refine r_iload_n dX12_swear_1 rfl ?_
  refine r_V1 dX12_swear_2 l_X12_111 k_X12_isPerson i_X12_isPerson (Mod.sg (by assumption)) ⟨_, rfl⟩ (Nat.le_of_ble_eq_true rfl) (v_X12_isPerson X _ (by first | assumption | omega) (by first | assumption | omega)) (List.prefix_refl S) ?_
  refine r_ifB_eq (tgt := 20) dX12_swear_5 (by decide) (fun c5 => absurd (isP_n hi (by omega)) (by rw [c5]; decide)) (fun c5 => ?_)
  refine r_iload_n dX12_swear_8 rfl ?_
  refine r_i2l dX12_swear_9 rfl ?_
  refine r_lconst (v := lN 0) dX12_swear_10 rfl ?_
  refine r_ldc2 dX12_swear_11 c_X12_182 ?_
  refine r_S3 dX12_swear_14 l_X12_62 k_X12_in s_X12_in (Nat.le_of_ble_eq_true rfl) (v_X12_in X _ ) (List.prefix_refl S) ?_
  refine g_top (congrArg bI isS_in) ?_
  refine r_ifB_ne (tgt := 22) dX12_swear_17 (by decide) (fun c17 => ?_) (fun c17 => absurd hy (by rw [c17]; decide))
  refine r_aload_n dX12_swear_22 rfl ?_
  refine r_iload_n dX12_swear_23 rfl ?_
  refine r_V1 dX12_swear_24 l_X12_118 k_X12_isHere i_X12_isHere (Mod.sg (by assumption)) ⟨_, rfl⟩ (Nat.le_of_ble_eq_true rfl) (v_X12_isHere X _ (by first | assumption | omega) (by first | assumption | omega) (by first | assumption | omega)) (List.prefix_refl S) ?_
  refine r_ifB_ne (tgt := 33) dX12_swear_27 (by decide) (fun c27 => ?_) (fun c27 => absurd hh (by rw [c27]; decide))
  refine r_aload_n dX12_swear_33 rfl ?_
  refine g_getI dX12_swear_34 f_X12_75 (Mod.sg (by assumption)) rfl hv ?_
  refine r_bipush dX12_swear_37 bp_6 ?_
  refine n_icmp_ne (tgt := 45) dX12_swear_39 (by decide) (by omega) (by omega) (fun c39 => ?_) (fun c39 => absurd c39 (by omega))
  refine r_aload_n dX12_swear_45 rfl ?_
  refine g_getR dX12_swear_46 f_X12_16 (Mod.sg (by assumption)) rfl (Mod.r100 (by assumption)) ?_
  refine r_aload_n dX12_swear_49 rfl ?_
  refine g_getI dX12_swear_50 f_X12_75 (Mod.sg (by assumption)) rfl hv ?_
  refine r_iload_n dX12_swear_53 rfl ?_
  refine g_iast dX12_swear_54 (Mod.s100 (by assumption)) rfl (by omega) (by omega) ?_
  refine r_aload_n dX12_swear_55 rfl ?_
  refine g_getR dX12_swear_56 f_X12_19 (Mod.sg (by assumption)) rfl (Mod.r101 (by assumption)) ?_
  refine r_aload_n dX12_swear_59 rfl ?_
  refine g_getI dX12_swear_60 f_X12_75 (Mod.sg (by assumption)) rfl hv ?_
  refine r_iload_n dX12_swear_63 rfl ?_
  refine g_iast dX12_swear_64 (Mod.s101 (by assumption)) rfl (by omega) (by omega) ?_
  refine r_aload_n dX12_swear_65 rfl ?_
  refine r_dup dX12_swear_66 rfl ?_
  refine g_getI dX12_swear_67 f_X12_75 (Mod.sg (by assumption)) rfl hv ?_
  refine r_iconst dX12_swear_70 ic_1 ?_
  refine n_iadd dX12_swear_71 ?_
  refine g_putI dX12_swear_72 f_X12_75 (Mod.sg (by assumption)) rfl ?_
  refine r_aload_n dX12_swear_75 rfl ?_
  refine g_getI dX12_swear_76 f_X12_75 (Mod.sg (by assumption)) rfl (sJ_eq _ _ _ _) ?_
  exact g_iret dX12_swear_79 rfl rfl

set_option maxHeartbeats 4000000 in
set_option maxRecDepth 100000 in
theorem v_X12_swear_6 (X : mCx) (d : Nat) {S : mSh} {I : mI} {R : mR} {w s : Nat → Int32} {N G hb m i : Nat} {y : Int32} (hm : Mod S R) (hw : MoW I w N G) (hd : MoD I 0 s hb) (hv : I 97 4 = nI m) (h6 : m = 6) (hi : i < N) (hy : isS y = true) (hh : hb.testBit i = true) : CC X (d + 3) M_X12_swear [.ref 97, .int (nI i), .int y] S (I, R) (some (.int (-3))) S (I, R) := by
  have hN6 := hw.N6
  have hG8 := hw.G8
  have h256 := hd.b256
  refine CC.of2 (L := [.ref 97, .int (nI i), .int y]) p_X12 (Nat.le_of_ble_eq_true rfl) rfl rfl (List.prefix_refl S) ?_
  refine r_aload_n dX12_swear_0 rfl ?_
  refine r_iload_n dX12_swear_1 rfl ?_
  refine r_V1 dX12_swear_2 l_X12_111 k_X12_isPerson i_X12_isPerson (Mod.sg (by assumption)) ⟨_, rfl⟩ (Nat.le_of_ble_eq_true rfl) (v_X12_isPerson X _ (by first | assumption | omega) (by first | assumption | omega)) (List.prefix_refl S) ?_
  refine r_ifB_eq (tgt := 20) dX12_swear_5 (by decide) (fun c5 => absurd (isP_n hi (by omega)) (by rw [c5]; decide)) (fun c5 => ?_)
  refine r_iload_n dX12_swear_8 rfl ?_
  refine r_i2l dX12_swear_9 rfl ?_
  refine r_lconst (v := lN 0) dX12_swear_10 rfl ?_
  refine r_ldc2 dX12_swear_11 c_X12_182 ?_
  refine r_S3 dX12_swear_14 l_X12_62 k_X12_in s_X12_in (Nat.le_of_ble_eq_true rfl) (v_X12_in X _ ) (List.prefix_refl S) ?_
  refine g_top (congrArg bI isS_in) ?_
  refine r_ifB_ne (tgt := 22) dX12_swear_17 (by decide) (fun c17 => ?_) (fun c17 => absurd hy (by rw [c17]; decide))
  refine r_aload_n dX12_swear_22 rfl ?_
  refine r_iload_n dX12_swear_23 rfl ?_
  refine r_V1 dX12_swear_24 l_X12_118 k_X12_isHere i_X12_isHere (Mod.sg (by assumption)) ⟨_, rfl⟩ (Nat.le_of_ble_eq_true rfl) (v_X12_isHere X _ (by first | assumption | omega) (by first | assumption | omega) (by first | assumption | omega)) (List.prefix_refl S) ?_
  refine r_ifB_ne (tgt := 33) dX12_swear_27 (by decide) (fun c27 => ?_) (fun c27 => absurd hh (by rw [c27]; decide))
  refine r_aload_n dX12_swear_33 rfl ?_
  refine g_getI dX12_swear_34 f_X12_75 (Mod.sg (by assumption)) rfl hv ?_
  refine r_bipush dX12_swear_37 bp_6 ?_
  refine n_icmp_ne (tgt := 45) dX12_swear_39 (by decide) (by omega) (by omega) (fun c39 => absurd c39 (by omega)) (fun c39 => ?_)
  refine r_bipush dX12_swear_42 bp_m3 ?_
  exact g_iret dX12_swear_44 rfl rfl

set_option maxHeartbeats 4000000 in
set_option maxRecDepth 100000 in
theorem v_X12_swear_n (X : mCx) (d : Nat) {S : mSh} {I : mI} {R : mR} {w s : Nat → Int32} {N G hb i : Nat} {y : Int32} (hm : Mod S R) (hw : MoW I w N G) (hd : MoD I 0 s hb) (hi : i < N) (hy : isS y = true) (hh : hb.testBit i = false) : CC X (d + 3) M_X12_swear [.ref 97, .int (nI i), .int y] S (I, R) (some (.int (-2))) S (I, R) := by
  have hN6 := hw.N6
  have hG8 := hw.G8
  have h256 := hd.b256
  refine CC.of2 (L := [.ref 97, .int (nI i), .int y]) p_X12 (Nat.le_of_ble_eq_true rfl) rfl rfl (List.prefix_refl S) ?_
  refine r_aload_n dX12_swear_0 rfl ?_
  refine r_iload_n dX12_swear_1 rfl ?_
  refine r_V1 dX12_swear_2 l_X12_111 k_X12_isPerson i_X12_isPerson (Mod.sg (by assumption)) ⟨_, rfl⟩ (Nat.le_of_ble_eq_true rfl) (v_X12_isPerson X _ (by first | assumption | omega) (by first | assumption | omega)) (List.prefix_refl S) ?_
  refine r_ifB_eq (tgt := 20) dX12_swear_5 (by decide) (fun c5 => absurd (isP_n hi (by omega)) (by rw [c5]; decide)) (fun c5 => ?_)
  refine r_iload_n dX12_swear_8 rfl ?_
  refine r_i2l dX12_swear_9 rfl ?_
  refine r_lconst (v := lN 0) dX12_swear_10 rfl ?_
  refine r_ldc2 dX12_swear_11 c_X12_182 ?_
  refine r_S3 dX12_swear_14 l_X12_62 k_X12_in s_X12_in (Nat.le_of_ble_eq_true rfl) (v_X12_in X _ ) (List.prefix_refl S) ?_
  refine g_top (congrArg bI isS_in) ?_
  refine r_ifB_ne (tgt := 22) dX12_swear_17 (by decide) (fun c17 => ?_) (fun c17 => absurd hy (by rw [c17]; decide))
  refine r_aload_n dX12_swear_22 rfl ?_
  refine r_iload_n dX12_swear_23 rfl ?_
  refine r_V1 dX12_swear_24 l_X12_118 k_X12_isHere i_X12_isHere (Mod.sg (by assumption)) ⟨_, rfl⟩ (Nat.le_of_ble_eq_true rfl) (v_X12_isHere X _ (by first | assumption | omega) (by first | assumption | omega) (by first | assumption | omega)) (List.prefix_refl S) ?_
  refine r_ifB_ne (tgt := 33) dX12_swear_27 (by decide) (fun c27 => absurd hh (by rw [c27]; decide)) (fun c27 => ?_)
  refine r_bipush dX12_swear_30 bp_m2 ?_
  exact g_iret dX12_swear_32 rfl rfl

set_option maxHeartbeats 4000000 in
set_option maxRecDepth 100000 in
theorem v_X12_swear_f (X : mCx) (d : Nat) {S : mSh} {I : mI} {R : mR} {w : Nat → Int32} {N G : Nat} {x y : Int32} (hm : Mod S R) (hw : MoW I w N G) (hb1 : isP N x = false ∨ isS y = false) : CC X (d + 3) M_X12_swear [.ref 97, .int x, .int y] S (I, R) (some (.int (-1))) S (I, R) := by
  have hN6 := hw.N6
  have hG8 := hw.G8
  refine CC.of2 (L := [.ref 97, .int x, .int y]) p_X12 (Nat.le_of_ble_eq_true rfl) rfl rfl (List.prefix_refl S) ?_
  refine r_aload_n dX12_swear_0 rfl ?_
  refine r_iload_n dX12_swear_1 rfl ?_
  refine r_V1 dX12_swear_2 l_X12_111 k_X12_isPerson i_X12_isPerson (Mod.sg (by assumption)) ⟨_, rfl⟩ (Nat.le_of_ble_eq_true rfl) (v_X12_isPerson X _ (by first | assumption | omega) (by first | assumption | omega)) (List.prefix_refl S) ?_
  refine r_ifB_eq (tgt := 20) dX12_swear_5 (by decide) (fun c5 => ?_) (fun c5 => ?_)
  · skip
    refine r_iconst dX12_swear_20 ic_m1 ?_
    exact g_iret dX12_swear_21 rfl rfl
  · skip
    refine r_iload_n dX12_swear_8 rfl ?_
    refine r_i2l dX12_swear_9 rfl ?_
    refine r_lconst (v := lN 0) dX12_swear_10 rfl ?_
    refine r_ldc2 dX12_swear_11 c_X12_182 ?_
    refine r_S3 dX12_swear_14 l_X12_62 k_X12_in s_X12_in (Nat.le_of_ble_eq_true rfl) (v_X12_in X _ ) (List.prefix_refl S) ?_
    refine g_top (congrArg bI isS_in) ?_
    refine r_ifB_ne (tgt := 22) dX12_swear_17 (by decide) (fun c17 => (by exfalso; rcases hb1 with q | q <;> first | exact absurd q (by rw [c17]; decide) | exact absurd q (by rw [c5]; decide))) (fun c17 => ?_)
    refine r_iconst dX12_swear_20 ic_m1 ?_
    exact g_iret dX12_swear_21 rfl rfl

set_option maxHeartbeats 4000000 in
set_option maxRecDepth 100000 in
theorem v_X12_forget (X : mCx) (d : Nat) {S : mSh} {I : mI} {R : mR} {m : Nat} (hm : Mod S R) (hv : I 97 4 = nI m) : CC X (d + 1) M_X12_forget [.ref 97] S (I, R) (some (.int (nI m))) S (sJ I 97 4 (nI 0), R) := by
  refine CC.of2 (L := [.ref 97, .retAddr 0]) p_X12 (Nat.le_of_ble_eq_true rfl) rfl rfl (List.prefix_refl S) ?_
  refine r_aload_n dX12_forget_0 rfl ?_
  refine g_getI dX12_forget_1 f_X12_75 (Mod.sg (by assumption)) rfl hv ?_
  refine r_istore_n (L' := [_, _]) dX12_forget_4 rfl rfl ?_
  refine r_aload_n dX12_forget_5 rfl ?_
  refine r_iconst dX12_forget_6 ic_0 ?_
  refine g_putI dX12_forget_7 f_X12_75 (Mod.sg (by assumption)) rfl ?_
  refine r_iload_n dX12_forget_10 rfl ?_
  exact g_iret dX12_forget_11 rfl rfl

set_option maxHeartbeats 4000000 in
set_option maxRecDepth 100000 in
theorem v_X12_wipe (X : mCx) (d : Nat) {S : mSh} {I : mI} {R : mR} {m : Nat} (hm : Mod S R) (hv : I 97 8 = nI m) : CC X (d + 1) M_X12_wipe [.ref 97] S (I, R) (some (.int (nI m))) S (sJ I 97 8 (nI 0), R) := by
  refine CC.of2 (L := [.ref 97, .retAddr 0]) p_X12 (Nat.le_of_ble_eq_true rfl) rfl rfl (List.prefix_refl S) ?_
  refine r_aload_n dX12_wipe_0 rfl ?_
  refine g_getI dX12_wipe_1 f_X12_82 (Mod.sg (by assumption)) rfl hv ?_
  refine r_istore_n (L' := [_, _]) dX12_wipe_4 rfl rfl ?_
  refine r_aload_n dX12_wipe_5 rfl ?_
  refine r_iconst dX12_wipe_6 ic_0 ?_
  refine g_putI dX12_wipe_7 f_X12_82 (Mod.sg (by assumption)) rfl ?_
  refine r_iload_n dX12_wipe_10 rfl ?_
  exact g_iret dX12_wipe_11 rfl rfl

set_option maxHeartbeats 4000000 in
set_option maxRecDepth 100000 in
theorem v_X12_write_t (X : mCx) (d : Nat) {S : mSh} {I : mI} {R : mR} {n k : Nat} (hm : Mod S R) (hv : I 97 8 = nI n) (h2 : n < 200) (hk : 32 ≤ k) (hk2 : k ≤ 126) : CC X (d + 2) M_X12_write [.ref 97, .int (nI k)] S (I, R) (some (.int (nI (n + 1)))) S (sJ (sJ I 102 n (nI k)) 97 8 (nI (n + 1)), R) := by
  have e11 : (!decide ((nI k).toInt64 < lN 32) && !decide (lN 126 < (nI k).toInt64)) = true := by (rw [inL (by decide) (by decide), decide_eq_false (fun z => by rw [nI_ltI (by omega) (by decide)] at z; omega), decide_eq_false (fun z => by rw [nI_ltI (by decide) (by omega)] at z; omega)]; rfl)
  refine CC.of2 (L := [.ref 97, .int (nI k)]) p_X12 (Nat.le_of_ble_eq_true rfl) rfl rfl (List.prefix_refl S) ?_
  refine r_iload_n dX12_write_0 rfl ?_
  refine r_i2l dX12_write_1 rfl ?_
  refine r_ldc2 dX12_write_2 c_X12_78 ?_
  refine r_ldc2 dX12_write_5 c_X12_80 ?_
  refine r_S3 dX12_write_8 l_X12_62 k_X12_in s_X12_in (Nat.le_of_ble_eq_true rfl) (v_X12_in X _ ) (List.prefix_refl S) ?_
  refine r_ifB_ne (tgt := 16) dX12_write_11 (by decide) (fun c11 => ?_) (fun c11 => absurd (c11.symm.trans e11) (by decide))
  refine r_aload_n dX12_write_16 rfl ?_
  refine g_getI dX12_write_17 f_X12_82 (Mod.sg (by assumption)) rfl hv ?_
  refine r_sipush dX12_write_20 sp_200 ?_
  refine n_icmp_ne (tgt := 29) dX12_write_23 (by decide) (by omega) (by omega) (fun c23 => ?_) (fun c23 => absurd c23 (by omega))
  refine r_aload_n dX12_write_29 rfl ?_
  refine g_getR dX12_write_30 f_X12_22 (Mod.sg (by assumption)) rfl (Mod.r102 (by assumption)) ?_
  refine r_aload_n dX12_write_33 rfl ?_
  refine g_getI dX12_write_34 f_X12_82 (Mod.sg (by assumption)) rfl hv ?_
  refine r_iload_n dX12_write_37 rfl ?_
  refine g_iast dX12_write_38 (Mod.s102 (by assumption)) rfl (by omega) (by omega) ?_
  refine r_aload_n dX12_write_39 rfl ?_
  refine r_dup dX12_write_40 rfl ?_
  refine g_getI dX12_write_41 f_X12_82 (Mod.sg (by assumption)) rfl hv ?_
  refine r_iconst dX12_write_44 ic_1 ?_
  refine n_iadd dX12_write_45 ?_
  refine g_putI dX12_write_46 f_X12_82 (Mod.sg (by assumption)) rfl ?_
  refine r_aload_n dX12_write_49 rfl ?_
  refine g_getI dX12_write_50 f_X12_82 (Mod.sg (by assumption)) rfl (sJ_eq _ _ _ _) ?_
  exact g_iret dX12_write_53 rfl rfl

set_option maxHeartbeats 4000000 in
set_option maxRecDepth 100000 in
theorem v_X12_write_F (X : mCx) (d : Nat) {S : mSh} {I : mI} {R : mR} {n k : Nat} (hm : Mod S R) (hv : I 97 8 = nI n) (h2 : n = 200) (hk : 32 ≤ k) (hk2 : k ≤ 126) : CC X (d + 2) M_X12_write [.ref 97, .int (nI k)] S (I, R) (some (.int (-3))) S (I, R) := by
  have e11 : (!decide ((nI k).toInt64 < lN 32) && !decide (lN 126 < (nI k).toInt64)) = true := by (rw [inL (by decide) (by decide), decide_eq_false (fun z => by rw [nI_ltI (by omega) (by decide)] at z; omega), decide_eq_false (fun z => by rw [nI_ltI (by decide) (by omega)] at z; omega)]; rfl)
  refine CC.of2 (L := [.ref 97, .int (nI k)]) p_X12 (Nat.le_of_ble_eq_true rfl) rfl rfl (List.prefix_refl S) ?_
  refine r_iload_n dX12_write_0 rfl ?_
  refine r_i2l dX12_write_1 rfl ?_
  refine r_ldc2 dX12_write_2 c_X12_78 ?_
  refine r_ldc2 dX12_write_5 c_X12_80 ?_
  refine r_S3 dX12_write_8 l_X12_62 k_X12_in s_X12_in (Nat.le_of_ble_eq_true rfl) (v_X12_in X _ ) (List.prefix_refl S) ?_
  refine r_ifB_ne (tgt := 16) dX12_write_11 (by decide) (fun c11 => ?_) (fun c11 => absurd (c11.symm.trans e11) (by decide))
  refine r_aload_n dX12_write_16 rfl ?_
  refine g_getI dX12_write_17 f_X12_82 (Mod.sg (by assumption)) rfl hv ?_
  refine r_sipush dX12_write_20 sp_200 ?_
  refine n_icmp_ne (tgt := 29) dX12_write_23 (by decide) (by omega) (by omega) (fun c23 => absurd c23 (by omega)) (fun c23 => ?_)
  refine r_bipush dX12_write_26 bp_m3 ?_
  exact g_iret dX12_write_28 rfl rfl

set_option maxHeartbeats 4000000 in
set_option maxRecDepth 100000 in
theorem v_X12_write_f (X : mCx) (d : Nat) {S : mSh} {I : mI} {R : mR} {x : Int32} (hm : Mod S R) (hx : x < nI 32 ∨ nI 126 < x) : CC X (d + 2) M_X12_write [.ref 97, .int x] S (I, R) (some (.int (-1))) S (I, R) := by
  have e11 : (!decide (x.toInt64 < lN 32) && !decide (lN 126 < x.toInt64)) = false := by (rw [inL (by decide) (by decide)]; rcases hx with q | q; rw [decide_eq_true q]; rfl; rw [decide_eq_true q, Bool.not_true, Bool.and_false])
  refine CC.of2 (L := [.ref 97, .int x]) p_X12 (Nat.le_of_ble_eq_true rfl) rfl rfl (List.prefix_refl S) ?_
  refine r_iload_n dX12_write_0 rfl ?_
  refine r_i2l dX12_write_1 rfl ?_
  refine r_ldc2 dX12_write_2 c_X12_78 ?_
  refine r_ldc2 dX12_write_5 c_X12_80 ?_
  refine r_S3 dX12_write_8 l_X12_62 k_X12_in s_X12_in (Nat.le_of_ble_eq_true rfl) (v_X12_in X _ ) (List.prefix_refl S) ?_
  refine r_ifB_ne (tgt := 16) dX12_write_11 (by decide) (fun c11 => absurd (c11.symm.trans e11) (by decide)) (fun c11 => ?_)
  refine r_iconst dX12_write_14 ic_m1 ?_
  exact g_iret dX12_write_15 rfl rfl

