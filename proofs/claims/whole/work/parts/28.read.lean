/-! ===== the class: what a text tells, item by item ===== -/
set_option maxHeartbeats 4000000 in
set_option maxRecDepth 100000 in
theorem v_X6_tell_p_t (X : mCx) (d : Nat) {S : mSh} {I : mI} {R : mR} {w : Nat → Int32} {y f N G a b c : Nat} (hy : Rea S R y) (hf : Fam S I R f w N G) (ha : a < 100) (hb : b < 100) (hc : c < 100) (h0 : I (y + 1) 0 = nI a) (h1 : I (y + 1) 1 = nI b) (h2 : I (y + 1) 2 = nI c) (h : N < 6 ∧ a ≤ 4 ∧ c ≤ 20) : CC X (d + 3) M_X6_tell [.ref y, .int (nI 112), .ref f] S (I, R) (some (.int (bI true))) S (perI I f N a b c, R) := by
  refine CC.of2 (L := [.ref y, .int (nI 112), .ref f, .retAddr 0, .retAddr 0, .retAddr 0, .retAddr 0]) p_X6 (Nat.le_of_ble_eq_true rfl) rfl (mRok_b _) (List.prefix_refl S) ?_
  refine r_aload_n dX6_tell_0 rfl ?_
  refine g_getR dX6_tell_1 f_X6_9 (Rea.sg (by assumption)) rfl (Rea.r0 (by assumption)) ?_
  refine r_iconst dX6_tell_4 ic_0 ?_
  refine r_S2 dX6_tell_5 l_X6_52 k_X7_get s_X7_get (Nat.le_of_ble_eq_true rfl) (v_X7_get X _ hy.2.1 (by decide) (by decide)) (List.prefix_refl S) ?_
  rw [h0]
  refine r_istore_n (L' := [_, _, _, _, _, _, _]) dX6_tell_8 rfl rfl ?_
  refine r_aload_n dX6_tell_9 rfl ?_
  refine g_getR dX6_tell_10 f_X6_9 (Rea.sg (by assumption)) rfl (Rea.r0 (by assumption)) ?_
  refine r_iconst dX6_tell_13 ic_1 ?_
  refine r_S2 dX6_tell_14 l_X6_52 k_X7_get s_X7_get (Nat.le_of_ble_eq_true rfl) (v_X7_get X _ hy.2.1 (by decide) (by decide)) (List.prefix_refl S) ?_
  rw [h1]
  refine r_istore (L' := [_, _, _, _, _, _, _]) dX6_tell_17 rfl rfl ?_
  refine r_aload_n dX6_tell_19 rfl ?_
  refine g_getR dX6_tell_20 f_X6_9 (Rea.sg (by assumption)) rfl (Rea.r0 (by assumption)) ?_
  refine r_iconst dX6_tell_23 ic_2 ?_
  refine r_S2 dX6_tell_24 l_X6_52 k_X7_get s_X7_get (Nat.le_of_ble_eq_true rfl) (v_X7_get X _ hy.2.1 (by decide) (by decide)) (List.prefix_refl S) ?_
  rw [h2]
  refine r_istore (L' := [_, _, _, _, _, _, _]) dX6_tell_27 rfl rfl ?_
  refine r_aload_n dX6_tell_29 rfl ?_
  refine g_getR dX6_tell_30 f_X6_9 (Rea.sg (by assumption)) rfl (Rea.r0 (by assumption)) ?_
  refine r_iconst dX6_tell_33 ic_3 ?_
  refine r_S2 dX6_tell_34 l_X6_52 k_X7_get s_X7_get (Nat.le_of_ble_eq_true rfl) (v_X7_get X _ hy.2.1 (by decide) (by decide)) (List.prefix_refl S) ?_
  refine r_istore (L' := [_, _, _, _, _, _, _]) dX6_tell_37 rfl rfl ?_
  refine r_iload_n dX6_tell_39 rfl ?_
  refine r_lookup (tgt := 84) (off := 44) dX6_tell_40 (by decide) rfl (by decide) ?_
  refine r_aload_n dX6_tell_84 rfl ?_
  refine r_iload_n dX6_tell_85 rfl ?_
  refine r_iload dX6_tell_86 rfl ?_
  refine r_iload dX6_tell_88 rfl ?_
  refine r_V3 dX6_tell_90 l_X6_56 k_X1_addPerson i_X1_addPerson (Fam.sg (by assumption)) ⟨_, rfl⟩ (Nat.le_of_ble_eq_true rfl) (v_X1_addPerson_t X _ (by first | assumption | omega) (by first | assumption | omega) (by first | assumption | omega) (by first | assumption | omega) (by first | assumption | omega)) (List.prefix_refl S) ?_
  exact g_iret dX6_tell_93 rfl rfl

set_option maxHeartbeats 4000000 in
set_option maxRecDepth 100000 in
theorem v_X6_tell_p_f (X : mCx) (d : Nat) {S : mSh} {I : mI} {R : mR} {w : Nat → Int32} {y f N G a b c : Nat} (hy : Rea S R y) (hf : Fam S I R f w N G) (ha : a < 100) (hb : b < 100) (hc : c < 100) (h0 : I (y + 1) 0 = nI a) (h1 : I (y + 1) 1 = nI b) (h2 : I (y + 1) 2 = nI c) (h : ¬ (N < 6 ∧ a ≤ 4 ∧ c ≤ 20)) : CC X (d + 3) M_X6_tell [.ref y, .int (nI 112), .ref f] S (I, R) (some (.int (bI false))) S (I, R) := by
  refine CC.of2 (L := [.ref y, .int (nI 112), .ref f, .retAddr 0, .retAddr 0, .retAddr 0, .retAddr 0]) p_X6 (Nat.le_of_ble_eq_true rfl) rfl (mRok_b _) (List.prefix_refl S) ?_
  refine r_aload_n dX6_tell_0 rfl ?_
  refine g_getR dX6_tell_1 f_X6_9 (Rea.sg (by assumption)) rfl (Rea.r0 (by assumption)) ?_
  refine r_iconst dX6_tell_4 ic_0 ?_
  refine r_S2 dX6_tell_5 l_X6_52 k_X7_get s_X7_get (Nat.le_of_ble_eq_true rfl) (v_X7_get X _ hy.2.1 (by decide) (by decide)) (List.prefix_refl S) ?_
  rw [h0]
  refine r_istore_n (L' := [_, _, _, _, _, _, _]) dX6_tell_8 rfl rfl ?_
  refine r_aload_n dX6_tell_9 rfl ?_
  refine g_getR dX6_tell_10 f_X6_9 (Rea.sg (by assumption)) rfl (Rea.r0 (by assumption)) ?_
  refine r_iconst dX6_tell_13 ic_1 ?_
  refine r_S2 dX6_tell_14 l_X6_52 k_X7_get s_X7_get (Nat.le_of_ble_eq_true rfl) (v_X7_get X _ hy.2.1 (by decide) (by decide)) (List.prefix_refl S) ?_
  rw [h1]
  refine r_istore (L' := [_, _, _, _, _, _, _]) dX6_tell_17 rfl rfl ?_
  refine r_aload_n dX6_tell_19 rfl ?_
  refine g_getR dX6_tell_20 f_X6_9 (Rea.sg (by assumption)) rfl (Rea.r0 (by assumption)) ?_
  refine r_iconst dX6_tell_23 ic_2 ?_
  refine r_S2 dX6_tell_24 l_X6_52 k_X7_get s_X7_get (Nat.le_of_ble_eq_true rfl) (v_X7_get X _ hy.2.1 (by decide) (by decide)) (List.prefix_refl S) ?_
  rw [h2]
  refine r_istore (L' := [_, _, _, _, _, _, _]) dX6_tell_27 rfl rfl ?_
  refine r_aload_n dX6_tell_29 rfl ?_
  refine g_getR dX6_tell_30 f_X6_9 (Rea.sg (by assumption)) rfl (Rea.r0 (by assumption)) ?_
  refine r_iconst dX6_tell_33 ic_3 ?_
  refine r_S2 dX6_tell_34 l_X6_52 k_X7_get s_X7_get (Nat.le_of_ble_eq_true rfl) (v_X7_get X _ hy.2.1 (by decide) (by decide)) (List.prefix_refl S) ?_
  refine r_istore (L' := [_, _, _, _, _, _, _]) dX6_tell_37 rfl rfl ?_
  refine r_iload_n dX6_tell_39 rfl ?_
  refine r_lookup (tgt := 84) (off := 44) dX6_tell_40 (by decide) rfl (by decide) ?_
  refine r_aload_n dX6_tell_84 rfl ?_
  refine r_iload_n dX6_tell_85 rfl ?_
  refine r_iload dX6_tell_86 rfl ?_
  refine r_iload dX6_tell_88 rfl ?_
  refine r_V3 dX6_tell_90 l_X6_56 k_X1_addPerson i_X1_addPerson (Fam.sg (by assumption)) ⟨_, rfl⟩ (Nat.le_of_ble_eq_true rfl) (v_X1_addPerson_f X _ (by first | assumption | omega) (by first | assumption | omega) (by first | assumption | omega) (by first | assumption | omega) (by first | assumption | omega)) (List.prefix_refl S) ?_
  exact g_iret dX6_tell_93 rfl rfl

set_option maxHeartbeats 4000000 in
set_option maxRecDepth 100000 in
theorem v_X6_tell_g_t (X : mCx) (d : Nat) {S : mSh} {I : mI} {R : mR} {w : Nat → Int32} {y f N G a b c e : Nat} (hy : Rea S R y) (hf : Fam S I R f w N G) (ha : a < 100) (hb : b < 100) (hc : c < 100) (he : e < 100) (h0 : I (y + 1) 0 = nI a) (h1 : I (y + 1) 1 = nI b) (h2 : I (y + 1) 2 = nI c) (h3 : I (y + 1) 3 = nI e) (h : G < 8 ∧ a ≤ 3 ∧ b < N ∧ 1 ≤ c ∧ c ≤ 40 ∧ e ≤ 20) : CC X (d + 3) M_X6_tell [.ref y, .int (nI 103), .ref f] S (I, R) (some (.int (bI true))) S (gooI I f G a b c e, R) := by
  refine CC.of2 (L := [.ref y, .int (nI 103), .ref f, .retAddr 0, .retAddr 0, .retAddr 0, .retAddr 0]) p_X6 (Nat.le_of_ble_eq_true rfl) rfl (mRok_b _) (List.prefix_refl S) ?_
  refine r_aload_n dX6_tell_0 rfl ?_
  refine g_getR dX6_tell_1 f_X6_9 (Rea.sg (by assumption)) rfl (Rea.r0 (by assumption)) ?_
  refine r_iconst dX6_tell_4 ic_0 ?_
  refine r_S2 dX6_tell_5 l_X6_52 k_X7_get s_X7_get (Nat.le_of_ble_eq_true rfl) (v_X7_get X _ hy.2.1 (by decide) (by decide)) (List.prefix_refl S) ?_
  rw [h0]
  refine r_istore_n (L' := [_, _, _, _, _, _, _]) dX6_tell_8 rfl rfl ?_
  refine r_aload_n dX6_tell_9 rfl ?_
  refine g_getR dX6_tell_10 f_X6_9 (Rea.sg (by assumption)) rfl (Rea.r0 (by assumption)) ?_
  refine r_iconst dX6_tell_13 ic_1 ?_
  refine r_S2 dX6_tell_14 l_X6_52 k_X7_get s_X7_get (Nat.le_of_ble_eq_true rfl) (v_X7_get X _ hy.2.1 (by decide) (by decide)) (List.prefix_refl S) ?_
  rw [h1]
  refine r_istore (L' := [_, _, _, _, _, _, _]) dX6_tell_17 rfl rfl ?_
  refine r_aload_n dX6_tell_19 rfl ?_
  refine g_getR dX6_tell_20 f_X6_9 (Rea.sg (by assumption)) rfl (Rea.r0 (by assumption)) ?_
  refine r_iconst dX6_tell_23 ic_2 ?_
  refine r_S2 dX6_tell_24 l_X6_52 k_X7_get s_X7_get (Nat.le_of_ble_eq_true rfl) (v_X7_get X _ hy.2.1 (by decide) (by decide)) (List.prefix_refl S) ?_
  rw [h2]
  refine r_istore (L' := [_, _, _, _, _, _, _]) dX6_tell_27 rfl rfl ?_
  refine r_aload_n dX6_tell_29 rfl ?_
  refine g_getR dX6_tell_30 f_X6_9 (Rea.sg (by assumption)) rfl (Rea.r0 (by assumption)) ?_
  refine r_iconst dX6_tell_33 ic_3 ?_
  refine r_S2 dX6_tell_34 l_X6_52 k_X7_get s_X7_get (Nat.le_of_ble_eq_true rfl) (v_X7_get X _ hy.2.1 (by decide) (by decide)) (List.prefix_refl S) ?_
  rw [h3]
  refine r_istore (L' := [_, _, _, _, _, _, _]) dX6_tell_37 rfl rfl ?_
  refine r_iload_n dX6_tell_39 rfl ?_
  refine r_lookup (tgt := 94) (off := 54) dX6_tell_40 (by decide) rfl (by decide) ?_
  refine r_aload_n dX6_tell_94 rfl ?_
  refine r_iload_n dX6_tell_95 rfl ?_
  refine r_iload dX6_tell_96 rfl ?_
  refine r_iload dX6_tell_98 rfl ?_
  refine r_iload dX6_tell_100 rfl ?_
  refine r_V4 dX6_tell_102 l_X6_60 k_X1_addGood i_X1_addGood (Fam.sg (by assumption)) ⟨_, rfl⟩ (Nat.le_of_ble_eq_true rfl) (v_X1_addGood_t X _ (by first | assumption | omega) (by first | assumption | omega) (by first | assumption | omega) (by first | assumption | omega) (by first | assumption | omega) (by first | assumption | omega)) (List.prefix_refl S) ?_
  exact g_iret dX6_tell_105 rfl rfl

set_option maxHeartbeats 4000000 in
set_option maxRecDepth 100000 in
theorem v_X6_tell_g_f (X : mCx) (d : Nat) {S : mSh} {I : mI} {R : mR} {w : Nat → Int32} {y f N G a b c e : Nat} (hy : Rea S R y) (hf : Fam S I R f w N G) (ha : a < 100) (hb : b < 100) (hc : c < 100) (he : e < 100) (h0 : I (y + 1) 0 = nI a) (h1 : I (y + 1) 1 = nI b) (h2 : I (y + 1) 2 = nI c) (h3 : I (y + 1) 3 = nI e) (h : ¬ (G < 8 ∧ a ≤ 3 ∧ b < N ∧ 1 ≤ c ∧ c ≤ 40 ∧ e ≤ 20)) : CC X (d + 3) M_X6_tell [.ref y, .int (nI 103), .ref f] S (I, R) (some (.int (bI false))) S (I, R) := by
  refine CC.of2 (L := [.ref y, .int (nI 103), .ref f, .retAddr 0, .retAddr 0, .retAddr 0, .retAddr 0]) p_X6 (Nat.le_of_ble_eq_true rfl) rfl (mRok_b _) (List.prefix_refl S) ?_
  refine r_aload_n dX6_tell_0 rfl ?_
  refine g_getR dX6_tell_1 f_X6_9 (Rea.sg (by assumption)) rfl (Rea.r0 (by assumption)) ?_
  refine r_iconst dX6_tell_4 ic_0 ?_
  refine r_S2 dX6_tell_5 l_X6_52 k_X7_get s_X7_get (Nat.le_of_ble_eq_true rfl) (v_X7_get X _ hy.2.1 (by decide) (by decide)) (List.prefix_refl S) ?_
  rw [h0]
  refine r_istore_n (L' := [_, _, _, _, _, _, _]) dX6_tell_8 rfl rfl ?_
  refine r_aload_n dX6_tell_9 rfl ?_
  refine g_getR dX6_tell_10 f_X6_9 (Rea.sg (by assumption)) rfl (Rea.r0 (by assumption)) ?_
  refine r_iconst dX6_tell_13 ic_1 ?_
  refine r_S2 dX6_tell_14 l_X6_52 k_X7_get s_X7_get (Nat.le_of_ble_eq_true rfl) (v_X7_get X _ hy.2.1 (by decide) (by decide)) (List.prefix_refl S) ?_
  rw [h1]
  refine r_istore (L' := [_, _, _, _, _, _, _]) dX6_tell_17 rfl rfl ?_
  refine r_aload_n dX6_tell_19 rfl ?_
  refine g_getR dX6_tell_20 f_X6_9 (Rea.sg (by assumption)) rfl (Rea.r0 (by assumption)) ?_
  refine r_iconst dX6_tell_23 ic_2 ?_
  refine r_S2 dX6_tell_24 l_X6_52 k_X7_get s_X7_get (Nat.le_of_ble_eq_true rfl) (v_X7_get X _ hy.2.1 (by decide) (by decide)) (List.prefix_refl S) ?_
  rw [h2]
  refine r_istore (L' := [_, _, _, _, _, _, _]) dX6_tell_27 rfl rfl ?_
  refine r_aload_n dX6_tell_29 rfl ?_
  refine g_getR dX6_tell_30 f_X6_9 (Rea.sg (by assumption)) rfl (Rea.r0 (by assumption)) ?_
  refine r_iconst dX6_tell_33 ic_3 ?_
  refine r_S2 dX6_tell_34 l_X6_52 k_X7_get s_X7_get (Nat.le_of_ble_eq_true rfl) (v_X7_get X _ hy.2.1 (by decide) (by decide)) (List.prefix_refl S) ?_
  rw [h3]
  refine r_istore (L' := [_, _, _, _, _, _, _]) dX6_tell_37 rfl rfl ?_
  refine r_iload_n dX6_tell_39 rfl ?_
  refine r_lookup (tgt := 94) (off := 54) dX6_tell_40 (by decide) rfl (by decide) ?_
  refine r_aload_n dX6_tell_94 rfl ?_
  refine r_iload_n dX6_tell_95 rfl ?_
  refine r_iload dX6_tell_96 rfl ?_
  refine r_iload dX6_tell_98 rfl ?_
  refine r_iload dX6_tell_100 rfl ?_
  refine r_V4 dX6_tell_102 l_X6_60 k_X1_addGood i_X1_addGood (Fam.sg (by assumption)) ⟨_, rfl⟩ (Nat.le_of_ble_eq_true rfl) (v_X1_addGood_f X _ (by first | assumption | omega) (by first | assumption | omega) (by first | assumption | omega) (by first | assumption | omega) (by first | assumption | omega) (by first | assumption | omega)) (List.prefix_refl S) ?_
  exact g_iret dX6_tell_105 rfl rfl

set_option maxHeartbeats 4000000 in
set_option maxRecDepth 100000 in
theorem v_X6_tell_v_t (X : mCx) (d : Nat) {S : mSh} {I : mI} {R : mR} {w : Nat → Int32} {y f N G a b c : Nat} (hy : Rea S R y) (hf : Fam S I R f w N G) (ha : a < 100) (hb : b < 100) (hc : c < 100) (h0 : I (y + 1) 0 = nI a) (h1 : I (y + 1) 1 = nI b) (h2 : I (y + 1) 2 = nI c) (h : a ≠ b ∧ a < N ∧ b < N ∧ c ≤ 20) : CC X (d + 3) M_X6_tell [.ref y, .int (nI 118), .ref f] S (I, R) (some (.int (bI true))) S (sJ I (f + 4) (6 * a + b) (nI c), R) := by
  refine CC.of2 (L := [.ref y, .int (nI 118), .ref f, .retAddr 0, .retAddr 0, .retAddr 0, .retAddr 0]) p_X6 (Nat.le_of_ble_eq_true rfl) rfl (mRok_b _) (List.prefix_refl S) ?_
  refine r_aload_n dX6_tell_0 rfl ?_
  refine g_getR dX6_tell_1 f_X6_9 (Rea.sg (by assumption)) rfl (Rea.r0 (by assumption)) ?_
  refine r_iconst dX6_tell_4 ic_0 ?_
  refine r_S2 dX6_tell_5 l_X6_52 k_X7_get s_X7_get (Nat.le_of_ble_eq_true rfl) (v_X7_get X _ hy.2.1 (by decide) (by decide)) (List.prefix_refl S) ?_
  rw [h0]
  refine r_istore_n (L' := [_, _, _, _, _, _, _]) dX6_tell_8 rfl rfl ?_
  refine r_aload_n dX6_tell_9 rfl ?_
  refine g_getR dX6_tell_10 f_X6_9 (Rea.sg (by assumption)) rfl (Rea.r0 (by assumption)) ?_
  refine r_iconst dX6_tell_13 ic_1 ?_
  refine r_S2 dX6_tell_14 l_X6_52 k_X7_get s_X7_get (Nat.le_of_ble_eq_true rfl) (v_X7_get X _ hy.2.1 (by decide) (by decide)) (List.prefix_refl S) ?_
  rw [h1]
  refine r_istore (L' := [_, _, _, _, _, _, _]) dX6_tell_17 rfl rfl ?_
  refine r_aload_n dX6_tell_19 rfl ?_
  refine g_getR dX6_tell_20 f_X6_9 (Rea.sg (by assumption)) rfl (Rea.r0 (by assumption)) ?_
  refine r_iconst dX6_tell_23 ic_2 ?_
  refine r_S2 dX6_tell_24 l_X6_52 k_X7_get s_X7_get (Nat.le_of_ble_eq_true rfl) (v_X7_get X _ hy.2.1 (by decide) (by decide)) (List.prefix_refl S) ?_
  rw [h2]
  refine r_istore (L' := [_, _, _, _, _, _, _]) dX6_tell_27 rfl rfl ?_
  refine r_aload_n dX6_tell_29 rfl ?_
  refine g_getR dX6_tell_30 f_X6_9 (Rea.sg (by assumption)) rfl (Rea.r0 (by assumption)) ?_
  refine r_iconst dX6_tell_33 ic_3 ?_
  refine r_S2 dX6_tell_34 l_X6_52 k_X7_get s_X7_get (Nat.le_of_ble_eq_true rfl) (v_X7_get X _ hy.2.1 (by decide) (by decide)) (List.prefix_refl S) ?_
  refine r_istore (L' := [_, _, _, _, _, _, _]) dX6_tell_37 rfl rfl ?_
  refine r_iload_n dX6_tell_39 rfl ?_
  refine r_lookup (tgt := 106) (off := 66) dX6_tell_40 (by decide) rfl (by decide) ?_
  refine r_aload_n dX6_tell_106 rfl ?_
  refine r_iload_n dX6_tell_107 rfl ?_
  refine r_iload dX6_tell_108 rfl ?_
  refine r_iload dX6_tell_110 rfl ?_
  refine r_V3 dX6_tell_112 l_X6_64 k_X1_setLove i_X1_setLove (Fam.sg (by assumption)) ⟨_, rfl⟩ (Nat.le_of_ble_eq_true rfl) (v_X1_setLove_t X _ (by first | assumption | omega) (by first | assumption | omega) (by first | assumption | omega) (by first | assumption | omega) (by first | assumption | omega)) (List.prefix_refl S) ?_
  exact g_iret dX6_tell_115 rfl rfl

set_option maxHeartbeats 4000000 in
set_option maxRecDepth 100000 in
theorem v_X6_tell_v_f (X : mCx) (d : Nat) {S : mSh} {I : mI} {R : mR} {w : Nat → Int32} {y f N G a b c : Nat} (hy : Rea S R y) (hf : Fam S I R f w N G) (ha : a < 100) (hb : b < 100) (hc : c < 100) (h0 : I (y + 1) 0 = nI a) (h1 : I (y + 1) 1 = nI b) (h2 : I (y + 1) 2 = nI c) (h : ¬ (a ≠ b ∧ a < N ∧ b < N ∧ c ≤ 20)) : CC X (d + 3) M_X6_tell [.ref y, .int (nI 118), .ref f] S (I, R) (some (.int (bI false))) S (I, R) := by
  refine CC.of2 (L := [.ref y, .int (nI 118), .ref f, .retAddr 0, .retAddr 0, .retAddr 0, .retAddr 0]) p_X6 (Nat.le_of_ble_eq_true rfl) rfl (mRok_b _) (List.prefix_refl S) ?_
  refine r_aload_n dX6_tell_0 rfl ?_
  refine g_getR dX6_tell_1 f_X6_9 (Rea.sg (by assumption)) rfl (Rea.r0 (by assumption)) ?_
  refine r_iconst dX6_tell_4 ic_0 ?_
  refine r_S2 dX6_tell_5 l_X6_52 k_X7_get s_X7_get (Nat.le_of_ble_eq_true rfl) (v_X7_get X _ hy.2.1 (by decide) (by decide)) (List.prefix_refl S) ?_
  rw [h0]
  refine r_istore_n (L' := [_, _, _, _, _, _, _]) dX6_tell_8 rfl rfl ?_
  refine r_aload_n dX6_tell_9 rfl ?_
  refine g_getR dX6_tell_10 f_X6_9 (Rea.sg (by assumption)) rfl (Rea.r0 (by assumption)) ?_
  refine r_iconst dX6_tell_13 ic_1 ?_
  refine r_S2 dX6_tell_14 l_X6_52 k_X7_get s_X7_get (Nat.le_of_ble_eq_true rfl) (v_X7_get X _ hy.2.1 (by decide) (by decide)) (List.prefix_refl S) ?_
  rw [h1]
  refine r_istore (L' := [_, _, _, _, _, _, _]) dX6_tell_17 rfl rfl ?_
  refine r_aload_n dX6_tell_19 rfl ?_
  refine g_getR dX6_tell_20 f_X6_9 (Rea.sg (by assumption)) rfl (Rea.r0 (by assumption)) ?_
  refine r_iconst dX6_tell_23 ic_2 ?_
  refine r_S2 dX6_tell_24 l_X6_52 k_X7_get s_X7_get (Nat.le_of_ble_eq_true rfl) (v_X7_get X _ hy.2.1 (by decide) (by decide)) (List.prefix_refl S) ?_
  rw [h2]
  refine r_istore (L' := [_, _, _, _, _, _, _]) dX6_tell_27 rfl rfl ?_
  refine r_aload_n dX6_tell_29 rfl ?_
  refine g_getR dX6_tell_30 f_X6_9 (Rea.sg (by assumption)) rfl (Rea.r0 (by assumption)) ?_
  refine r_iconst dX6_tell_33 ic_3 ?_
  refine r_S2 dX6_tell_34 l_X6_52 k_X7_get s_X7_get (Nat.le_of_ble_eq_true rfl) (v_X7_get X _ hy.2.1 (by decide) (by decide)) (List.prefix_refl S) ?_
  refine r_istore (L' := [_, _, _, _, _, _, _]) dX6_tell_37 rfl rfl ?_
  refine r_iload_n dX6_tell_39 rfl ?_
  refine r_lookup (tgt := 106) (off := 66) dX6_tell_40 (by decide) rfl (by decide) ?_
  refine r_aload_n dX6_tell_106 rfl ?_
  refine r_iload_n dX6_tell_107 rfl ?_
  refine r_iload dX6_tell_108 rfl ?_
  refine r_iload dX6_tell_110 rfl ?_
  refine r_V3 dX6_tell_112 l_X6_64 k_X1_setLove i_X1_setLove (Fam.sg (by assumption)) ⟨_, rfl⟩ (Nat.le_of_ble_eq_true rfl) (v_X1_setLove_f X _ (by first | assumption | omega) (by first | assumption | omega) (by first | assumption | omega) (by first | assumption | omega) (by first | assumption | omega)) (List.prefix_refl S) ?_
  exact g_iret dX6_tell_115 rfl rfl

set_option maxHeartbeats 4000000 in
set_option maxRecDepth 100000 in
theorem v_X6_tell_t_t (X : mCx) (d : Nat) {S : mSh} {I : mI} {R : mR} {w : Nat → Int32} {y f N G a : Nat} (hy : Rea S R y) (hf : Fam S I R f w N G) (ha : a < 100) (h0 : I (y + 1) 0 = nI a) (h : 1 ≤ a ∧ a ≤ 20) : CC X (d + 3) M_X6_tell [.ref y, .int (nI 116), .ref f] S (I, R) (some (.int (bI true))) S (sJ I f 2 (nI a), R) := by
  refine CC.of2 (L := [.ref y, .int (nI 116), .ref f, .retAddr 0, .retAddr 0, .retAddr 0, .retAddr 0]) p_X6 (Nat.le_of_ble_eq_true rfl) rfl (mRok_b _) (List.prefix_refl S) ?_
  refine r_aload_n dX6_tell_0 rfl ?_
  refine g_getR dX6_tell_1 f_X6_9 (Rea.sg (by assumption)) rfl (Rea.r0 (by assumption)) ?_
  refine r_iconst dX6_tell_4 ic_0 ?_
  refine r_S2 dX6_tell_5 l_X6_52 k_X7_get s_X7_get (Nat.le_of_ble_eq_true rfl) (v_X7_get X _ hy.2.1 (by decide) (by decide)) (List.prefix_refl S) ?_
  rw [h0]
  refine r_istore_n (L' := [_, _, _, _, _, _, _]) dX6_tell_8 rfl rfl ?_
  refine r_aload_n dX6_tell_9 rfl ?_
  refine g_getR dX6_tell_10 f_X6_9 (Rea.sg (by assumption)) rfl (Rea.r0 (by assumption)) ?_
  refine r_iconst dX6_tell_13 ic_1 ?_
  refine r_S2 dX6_tell_14 l_X6_52 k_X7_get s_X7_get (Nat.le_of_ble_eq_true rfl) (v_X7_get X _ hy.2.1 (by decide) (by decide)) (List.prefix_refl S) ?_
  refine r_istore (L' := [_, _, _, _, _, _, _]) dX6_tell_17 rfl rfl ?_
  refine r_aload_n dX6_tell_19 rfl ?_
  refine g_getR dX6_tell_20 f_X6_9 (Rea.sg (by assumption)) rfl (Rea.r0 (by assumption)) ?_
  refine r_iconst dX6_tell_23 ic_2 ?_
  refine r_S2 dX6_tell_24 l_X6_52 k_X7_get s_X7_get (Nat.le_of_ble_eq_true rfl) (v_X7_get X _ hy.2.1 (by decide) (by decide)) (List.prefix_refl S) ?_
  refine r_istore (L' := [_, _, _, _, _, _, _]) dX6_tell_27 rfl rfl ?_
  refine r_aload_n dX6_tell_29 rfl ?_
  refine g_getR dX6_tell_30 f_X6_9 (Rea.sg (by assumption)) rfl (Rea.r0 (by assumption)) ?_
  refine r_iconst dX6_tell_33 ic_3 ?_
  refine r_S2 dX6_tell_34 l_X6_52 k_X7_get s_X7_get (Nat.le_of_ble_eq_true rfl) (v_X7_get X _ hy.2.1 (by decide) (by decide)) (List.prefix_refl S) ?_
  refine r_istore (L' := [_, _, _, _, _, _, _]) dX6_tell_37 rfl rfl ?_
  refine r_iload_n dX6_tell_39 rfl ?_
  refine r_lookup (tgt := 116) (off := 76) dX6_tell_40 (by decide) rfl (by decide) ?_
  refine r_aload_n dX6_tell_116 rfl ?_
  refine r_iload_n dX6_tell_117 rfl ?_
  refine r_V1 dX6_tell_118 l_X6_67 k_X1_setTenths i_X1_setTenths (Fam.sg (by assumption)) ⟨_, rfl⟩ (Nat.le_of_ble_eq_true rfl) (v_X1_setTenths_t X _ (by first | assumption | omega) (by first | assumption | omega) (by first | assumption | omega)) (List.prefix_refl S) ?_
  exact g_iret dX6_tell_121 rfl rfl

set_option maxHeartbeats 4000000 in
set_option maxRecDepth 100000 in
theorem v_X6_tell_t_f (X : mCx) (d : Nat) {S : mSh} {I : mI} {R : mR} {w : Nat → Int32} {y f N G a : Nat} (hy : Rea S R y) (hf : Fam S I R f w N G) (ha : a < 100) (h0 : I (y + 1) 0 = nI a) (h : ¬ (1 ≤ a ∧ a ≤ 20)) : CC X (d + 3) M_X6_tell [.ref y, .int (nI 116), .ref f] S (I, R) (some (.int (bI false))) S (I, R) := by
  refine CC.of2 (L := [.ref y, .int (nI 116), .ref f, .retAddr 0, .retAddr 0, .retAddr 0, .retAddr 0]) p_X6 (Nat.le_of_ble_eq_true rfl) rfl (mRok_b _) (List.prefix_refl S) ?_
  refine r_aload_n dX6_tell_0 rfl ?_
  refine g_getR dX6_tell_1 f_X6_9 (Rea.sg (by assumption)) rfl (Rea.r0 (by assumption)) ?_
  refine r_iconst dX6_tell_4 ic_0 ?_
  refine r_S2 dX6_tell_5 l_X6_52 k_X7_get s_X7_get (Nat.le_of_ble_eq_true rfl) (v_X7_get X _ hy.2.1 (by decide) (by decide)) (List.prefix_refl S) ?_
  rw [h0]
  refine r_istore_n (L' := [_, _, _, _, _, _, _]) dX6_tell_8 rfl rfl ?_
  refine r_aload_n dX6_tell_9 rfl ?_
  refine g_getR dX6_tell_10 f_X6_9 (Rea.sg (by assumption)) rfl (Rea.r0 (by assumption)) ?_
  refine r_iconst dX6_tell_13 ic_1 ?_
  refine r_S2 dX6_tell_14 l_X6_52 k_X7_get s_X7_get (Nat.le_of_ble_eq_true rfl) (v_X7_get X _ hy.2.1 (by decide) (by decide)) (List.prefix_refl S) ?_
  refine r_istore (L' := [_, _, _, _, _, _, _]) dX6_tell_17 rfl rfl ?_
  refine r_aload_n dX6_tell_19 rfl ?_
  refine g_getR dX6_tell_20 f_X6_9 (Rea.sg (by assumption)) rfl (Rea.r0 (by assumption)) ?_
  refine r_iconst dX6_tell_23 ic_2 ?_
  refine r_S2 dX6_tell_24 l_X6_52 k_X7_get s_X7_get (Nat.le_of_ble_eq_true rfl) (v_X7_get X _ hy.2.1 (by decide) (by decide)) (List.prefix_refl S) ?_
  refine r_istore (L' := [_, _, _, _, _, _, _]) dX6_tell_27 rfl rfl ?_
  refine r_aload_n dX6_tell_29 rfl ?_
  refine g_getR dX6_tell_30 f_X6_9 (Rea.sg (by assumption)) rfl (Rea.r0 (by assumption)) ?_
  refine r_iconst dX6_tell_33 ic_3 ?_
  refine r_S2 dX6_tell_34 l_X6_52 k_X7_get s_X7_get (Nat.le_of_ble_eq_true rfl) (v_X7_get X _ hy.2.1 (by decide) (by decide)) (List.prefix_refl S) ?_
  refine r_istore (L' := [_, _, _, _, _, _, _]) dX6_tell_37 rfl rfl ?_
  refine r_iload_n dX6_tell_39 rfl ?_
  refine r_lookup (tgt := 116) (off := 76) dX6_tell_40 (by decide) rfl (by decide) ?_
  refine r_aload_n dX6_tell_116 rfl ?_
  refine r_iload_n dX6_tell_117 rfl ?_
  refine r_V1 dX6_tell_118 l_X6_67 k_X1_setTenths i_X1_setTenths (Fam.sg (by assumption)) ⟨_, rfl⟩ (Nat.le_of_ble_eq_true rfl) (v_X1_setTenths_f X _ (by first | assumption | omega) (by first | assumption | omega) (by first | assumption | omega)) (List.prefix_refl S) ?_
  exact g_iret dX6_tell_121 rfl rfl

abbrev Dr := (Nat → Int32) × Nat × Nat
/-- an item's letter and numbers, told to a draft -/
def tellQ (c : Nat) (v : Nat → Nat) (q : Dr) : Option Dr :=
  if c = 112 then (if q.2.1 < 6 ∧ v 0 ≤ 4 ∧ v 2 ≤ 20 then some (perW q.1 q.2.1 (v 0) (v 1) (v 2), q.2.1 + 1, q.2.2) else none)
  else if c = 103 then (if q.2.2 < 8 ∧ v 0 ≤ 3 ∧ v 1 < q.2.1 ∧ 1 ≤ v 2 ∧ v 2 ≤ 40 ∧ v 3 ≤ 20 then some (gooW q.1 q.2.2 (v 0) (v 1) (v 2) (v 3), q.2.1, q.2.2 + 1) else none)
  else if c = 118 then (if v 0 ≠ v 1 ∧ v 0 < q.2.1 ∧ v 1 < q.2.1 ∧ v 2 ≤ 20 then some (up q.1 (53 + (6 * v 0 + v 1)) (nI (v 2)), q.2.1, q.2.2) else none)
  else if c = 116 then (if 1 ≤ v 0 ∧ v 0 ≤ 20 then some (up q.1 2 (nI (v 0)), q.2.1, q.2.2) else none)
  else none
def frF (f : Nat) (I I1 : mI) : Prop := ∀ o, o < f ∨ f + 9 < o → I1 o = I o
theorem v_tell_t (X : mCx) {S : mSh} {I : mI} {R : mR} {w : Nat → Int32} {y f N G c : Nat} {v : Nat → Nat} {q : Dr} (hy : Rea S R y) (hd : FamD S I R f w N G) (hv : ∀ k, k < nof c → I (y + 1) k = nI (v k) ∧ v k < 100) (h : tellQ c v (w, N, G) = some q) : ∃ I1, (∀ d, CC X (d + 3) M_X6_tell [.ref y, .int (nI c), .ref f] S (I, R) (some (.int (bI true))) S (I1, R)) ∧ FamD S I1 R f q.1 q.2.1 q.2.2 ∧ frF f I I1 := by
  have hf := hd.1
  have hN6 := hf.N6
  unfold tellQ at h
  by_cases c1 : c = 112
  · subst c1
    rw [if_pos rfl] at h
    split at h
    case isFalse => exact absurd h (by simp)
    case isTrue g =>
      cases Option.some.inj h
      have v0 := hv 0 (by decide); have v1 := hv 1 (by decide); have v2 := hv 2 (by decide)
      exact ⟨_, fun d => v_X6_tell_p_t X d hy hf v0.2 v1.2 v2.2 v0.1 v1.1 v2.1 g, hd.per g.1, fun o ho => perI_o ho⟩
  rw [if_neg c1] at h
  by_cases c2 : c = 103
  · subst c2
    rw [if_pos rfl] at h
    split at h
    case isFalse => exact absurd h (by simp)
    case isTrue g =>
      cases Option.some.inj h
      have v0 := hv 0 (by decide); have v1 := hv 1 (by decide); have v2 := hv 2 (by decide); have v3 := hv 3 (by decide)
      exact ⟨_, fun d => v_X6_tell_g_t X d hy hf v0.2 v1.2 v2.2 v3.2 v0.1 v1.1 v2.1 v3.1 g, hd.goo g.1, fun o ho => gooI_o ho⟩
  rw [if_neg c2] at h
  by_cases c3 : c = 118
  · subst c3
    rw [if_pos rfl] at h
    split at h
    case isFalse => exact absurd h (by simp)
    case isTrue g =>
      cases Option.some.inj h
      have v0 := hv 0 (by decide); have v1 := hv 1 (by decide); have v2 := hv 2 (by decide)
      have gg : v 0 ≠ v 1 ∧ v 0 < N ∧ v 1 < N ∧ v 2 ≤ 20 := g
      exact ⟨_, fun d => v_X6_tell_v_t X d hy hf v0.2 v1.2 v2.2 v0.1 v1.1 v2.1 gg, hd.lov (by omega), fun o ho => sJ_o (by omega)⟩
  rw [if_neg c3] at h
  by_cases c4 : c = 116
  · subst c4
    rw [if_pos rfl] at h
    split at h
    case isFalse => exact absurd h (by simp)
    case isTrue g =>
      cases Option.some.inj h
      have v0 := hv 0 (by decide)
      exact ⟨_, fun d => v_X6_tell_t_t X d hy hf v0.2 v0.1 g, hd.ten, fun o ho => sJ_o (by omega)⟩
  rw [if_neg c4] at h
  exact absurd h (by simp)
theorem v_tell_f (X : mCx) (d : Nat) {S : mSh} {I : mI} {R : mR} {w : Nat → Int32} {y f N G c : Nat} {v : Nat → Nat} (hy : Rea S R y) (hd : FamD S I R f w N G) (hc : 1 ≤ nof c) (hv : ∀ k, k < nof c → I (y + 1) k = nI (v k) ∧ v k < 100) (h : tellQ c v (w, N, G) = none) : CC X (d + 3) M_X6_tell [.ref y, .int (nI c), .ref f] S (I, R) (some (.int (bI false))) S (I, R) := by
  have hf := hd.1
  have hN6 := hf.N6
  unfold tellQ at h
  by_cases c1 : c = 112
  · subst c1
    rw [if_pos rfl] at h
    split at h
    case isTrue => exact absurd h (by simp)
    case isFalse g =>
      have v0 := hv 0 (by decide); have v1 := hv 1 (by decide); have v2 := hv 2 (by decide)
      exact v_X6_tell_p_f X d hy hf v0.2 v1.2 v2.2 v0.1 v1.1 v2.1 g
  rw [if_neg c1] at h
  by_cases c2 : c = 103
  · subst c2
    rw [if_pos rfl] at h
    split at h
    case isTrue => exact absurd h (by simp)
    case isFalse g =>
      have v0 := hv 0 (by decide); have v1 := hv 1 (by decide); have v2 := hv 2 (by decide); have v3 := hv 3 (by decide)
      exact v_X6_tell_g_f X d hy hf v0.2 v1.2 v2.2 v3.2 v0.1 v1.1 v2.1 v3.1 g
  rw [if_neg c2] at h
  by_cases c3 : c = 118
  · subst c3
    rw [if_pos rfl] at h
    split at h
    case isTrue => exact absurd h (by simp)
    case isFalse g =>
      have v0 := hv 0 (by decide); have v1 := hv 1 (by decide); have v2 := hv 2 (by decide)
      exact v_X6_tell_v_f X d hy hf v0.2 v1.2 v2.2 v0.1 v1.1 v2.1 g
  rw [if_neg c3] at h
  by_cases c4 : c = 116
  · subst c4
    rw [if_pos rfl] at h
    split at h
    case isTrue => exact absurd h (by simp)
    case isFalse g =>
      have v0 := hv 0 (by decide)
      exact v_X6_tell_t_f X d hy hf v0.2 v0.1 g
  · exfalso
    unfold nof at hc
    rw [if_neg c2, if_neg c1, if_neg c4, if_neg c3] at hc
    omega
