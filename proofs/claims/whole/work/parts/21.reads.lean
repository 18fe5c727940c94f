/-! ===== the class: what it answers and changes nothing ===== -/
def aPer (w s : Nat → Int32) (hb i : Nat) (y : Int32) : Int32 := if y = nI 0 then w (3 + i) else if y = nI 1 then s (1 + i) else if y = nI 2 then w (15 + i) else if y = nI 3 then bI (hb.testBit i) else if y = nI 4 then s (7 + i) else -1
def aGoo (w s : Nat → Int32) (g : Nat) (y : Int32) : Int32 := if y = nI 0 then w (21 + g) else if y = nI 1 then s (19 + g) else if y = nI 2 then w (37 + g) else if y = nI 3 then w (45 + g) else if y = nI 4 then s (27 + g) else -1
def oweW (w s : Nat → Int32) (N G hb i j : Nat) : Int32 := duty w i (gLeft w s G i + lLeft w N i hb - w (53 + (6 * i + j)) + w (53 + (6 * i + j)) / nI 2)
set_option maxHeartbeats 4000000 in
set_option maxRecDepth 100000 in
theorem v_X11_owes (X : mCx) (d : Nat) {S : mSh} {I : mI} {R : mR} {w s : Nat → Int32} {N G hb pb f dr : Nat} {x : Int32} (hc : Cla S R f dr) (hf : Fam S I R f w N G) (hst : Std S I R 6 s N G hb pb)  : CC X (d + 5) M_X11_owes [.ref 1, .int x] S (I, R) (some (.int (onP N x (fun i => if hb.testBit i = true then owe w s N G hb i else -2) (-1)))) S (I, R) := by
  have hG8 := hst.G8
  have hN6 := hst.N6
  have h256 := hst.h256
  have p256 := hst.p256
  have hund := hc.und
  have hkep := hc.kep
  have hoat := hc.oat
  have hord := hc.ord
  have htxt := hc.txt
  have htwo := hc.two
  have hgif := hc.gif
  have htri := hc.tri
  have hnow := hc.now
  refine CC.of2 (L := [.ref 1, .int x]) p_X11 (Nat.le_of_ble_eq_true rfl) rfl rfl (List.prefix_refl S) ?_
  refine r_aload_n dX11_owes_0 rfl ?_
  refine g_getR dX11_owes_1 f_X11_66 (Cla.sg (by assumption)) rfl (Cla.f9 (by assumption)) ?_
  refine r_iload_n dX11_owes_4 rfl ?_
  refine r_V1 dX11_owes_5 l_X11_108 k_X1_isPerson i_X1_isPerson (Fam.sg (by assumption)) ⟨_, rfl⟩ (Nat.le_of_ble_eq_true rfl) (v_X1_isPerson X _ (by first | assumption | omega)) (List.prefix_refl S) ?_
  refine r_ifB_ne (tgt := 13) dX11_owes_8 (by decide) (fun c8 => ?_) (fun c8 => ?_)
  · obtain ⟨i, hi, rfl⟩ := isP_t c8 (by omega); rw [onP_t hi (by omega)]
    refine r_aload_n dX11_owes_13 rfl ?_
    refine g_getR dX11_owes_14 f_X11_26 (Cla.sg (by assumption)) rfl (Cla.f2 (by assumption)) ?_
    refine r_iload_n dX11_owes_17 rfl ?_
    refine r_V1 dX11_owes_18 l_X11_122 k_X8_isHere i_X8_isHere (Sto.sg (Cla.now (by assumption))) ⟨_, rfl⟩ (Nat.le_of_ble_eq_true rfl) (v_X8_isHere X _ (by first | assumption | omega) (by first | assumption | omega)) (List.prefix_refl S) ?_
    refine r_ifB_eq (tgt := 39) dX11_owes_21 (by decide) (fun c21 => ?_) (fun c21 => ?_)
    · skip
      refine r_bipush dX11_owes_39 bp_m2 ?_
      exact g_iret dX11_owes_41 (by simp [owe, *]) rfl
    · skip
      refine r_aload_n dX11_owes_24 rfl ?_
      refine g_getR dX11_owes_25 f_X11_66 (Cla.sg (by assumption)) rfl (Cla.f9 (by assumption)) ?_
      refine r_aload_n dX11_owes_28 rfl ?_
      refine g_getR dX11_owes_29 f_X11_26 (Cla.sg (by assumption)) rfl (Cla.f2 (by assumption)) ?_
      refine r_iload_n dX11_owes_32 rfl ?_
      refine r_S3 dX11_owes_33 l_X11_214 k_X0_owed s_X0_owed (Nat.le_of_ble_eq_true rfl) (v_X0_owed X _ (by first | assumption | omega) (by first | assumption | omega) (by first | assumption | omega)) (List.prefix_refl S) ?_
      refine r_goto (tgt := 41) dX11_owes_36 (by decide) ?_
      exact g_iret dX11_owes_41 (by simp [owe, *]) rfl
  · rw [onP_f c8]
    refine r_iconst dX11_owes_11 ic_m1 ?_
    exact g_iret dX11_owes_12 (by simp [owe, *]) rfl

set_option maxHeartbeats 4000000 in
set_option maxRecDepth 100000 in
theorem v_X11_owesWith (X : mCx) (d : Nat) {S : mSh} {I : mI} {R : mR} {w s : Nat → Int32} {N G hb pb f dr : Nat} {x y : Int32} (hc : Cla S R f dr) (hf : Fam S I R f w N G) (hst : Std S I R 6 s N G hb pb)  : CC X (d + 6) M_X11_owesWith [.ref 1, .int x, .int y] S (I, R) (some (.int (onPP N x y (fun i j => if (hb.testBit i && hb.testBit j) = true then oweW w s N G hb i j else -2) (-1)))) S (I, R) := by
  have hG8 := hst.G8
  have hN6 := hst.N6
  have h256 := hst.h256
  have p256 := hst.p256
  have hund := hc.und
  have hkep := hc.kep
  have hoat := hc.oat
  have hord := hc.ord
  have htxt := hc.txt
  have htwo := hc.two
  have hgif := hc.gif
  have htri := hc.tri
  have hnow := hc.now
  refine CC.of2 (L := [.ref 1, .int x, .int y]) p_X11 (Nat.le_of_ble_eq_true rfl) rfl rfl (List.prefix_refl S) ?_
  refine r_aload_n dX11_owesWith_0 rfl ?_
  refine r_iload_n dX11_owesWith_1 rfl ?_
  refine r_iload_n dX11_owesWith_2 rfl ?_
  refine r_V2 dX11_owesWith_3 l_X11_146 k_X11_isPair i_X11_isPair (Cla.sg (by assumption)) ⟨_, rfl⟩ (Nat.le_of_ble_eq_true rfl) (v_X11_isPair X _ (by first | assumption | omega) (by first | assumption | omega)) (List.prefix_refl S) ?_
  refine r_ifB_ne (tgt := 11) dX11_owesWith_6 (by decide) (fun c6 => ?_) (fun c6 => ?_)
  · obtain ⟨i, j, hi, hj, hij, rfl, rfl⟩ := twoP_t c6 (by omega); rw [onPP_t hi hj (by omega) hij]
    refine r_aload_n dX11_owesWith_11 rfl ?_
    refine r_iload_n dX11_owesWith_12 rfl ?_
    refine r_iload_n dX11_owesWith_13 rfl ?_
    refine r_V2 dX11_owesWith_14 l_X11_188 k_X11_areHere i_X11_areHere (Cla.sg (by assumption)) ⟨_, rfl⟩ (Nat.le_of_ble_eq_true rfl) (v_X11_areHere X _ (by first | assumption | omega) (by first | assumption | omega) (by first | assumption | omega) (by first | assumption | omega)) (List.prefix_refl S) ?_
    refine r_ifB_eq (tgt := 36) dX11_owesWith_17 (by decide) (fun c17 => ?_) (fun c17 => ?_)
    · skip
      refine r_bipush dX11_owesWith_36 bp_m2 ?_
      exact g_iret dX11_owesWith_38 (by simp [oweW, *]) rfl
    · skip
      refine r_aload_n dX11_owesWith_20 rfl ?_
      refine g_getR dX11_owesWith_21 f_X11_66 (Cla.sg (by assumption)) rfl (Cla.f9 (by assumption)) ?_
      refine r_aload_n dX11_owesWith_24 rfl ?_
      refine g_getR dX11_owesWith_25 f_X11_26 (Cla.sg (by assumption)) rfl (Cla.f2 (by assumption)) ?_
      refine r_iload_n dX11_owesWith_28 rfl ?_
      refine r_iload_n dX11_owesWith_29 rfl ?_
      refine r_S4 dX11_owesWith_30 l_X11_191 k_X0_owedWith s_X0_owedWith (Nat.le_of_ble_eq_true rfl) (v_X0_owedWith X _ (by first | assumption | omega) (by first | assumption | omega) (by first | assumption | omega) (by first | assumption | omega)) (List.prefix_refl S) ?_
      refine r_goto (tgt := 38) dX11_owesWith_33 (by decide) ?_
      exact g_iret dX11_owesWith_38 (by simp [oweW, *]) rfl
  · rw [onPP_f c6]
    refine r_iconst dX11_owesWith_9 ic_m1 ?_
    exact g_iret dX11_owesWith_10 (by simp [oweW, *]) rfl

set_option maxHeartbeats 4000000 in
set_option maxRecDepth 100000 in
theorem v_X11_person (X : mCx) (d : Nat) {S : mSh} {I : mI} {R : mR} {w s : Nat → Int32} {N G hb pb f dr : Nat} {x y : Int32} (hc : Cla S R f dr) (hf : Fam S I R f w N G) (hst : Std S I R 6 s N G hb pb)  : CC X (d + 3) M_X11_person [.ref 1, .int x, .int y] S (I, R) (some (.int (onP N x (fun i => aPer w s hb i y) (-1)))) S (I, R) := by
  have hG8 := hst.G8
  have hN6 := hst.N6
  have h256 := hst.h256
  have p256 := hst.p256
  have hund := hc.und
  have hkep := hc.kep
  have hoat := hc.oat
  have hord := hc.ord
  have htxt := hc.txt
  have htwo := hc.two
  have hgif := hc.gif
  have htri := hc.tri
  have hnow := hc.now
  refine CC.of2 (L := [.ref 1, .int x, .int y]) p_X11 (Nat.le_of_ble_eq_true rfl) rfl rfl (List.prefix_refl S) ?_
  refine r_aload_n dX11_person_0 rfl ?_
  refine g_getR dX11_person_1 f_X11_66 (Cla.sg (by assumption)) rfl (Cla.f9 (by assumption)) ?_
  refine r_iload_n dX11_person_4 rfl ?_
  refine r_V1 dX11_person_5 l_X11_108 k_X1_isPerson i_X1_isPerson (Fam.sg (by assumption)) ⟨_, rfl⟩ (Nat.le_of_ble_eq_true rfl) (v_X1_isPerson X _ (by first | assumption | omega)) (List.prefix_refl S) ?_
  refine r_ifB_ne (tgt := 13) dX11_person_8 (by decide) (fun c8 => ?_) (fun c8 => ?_)
  · obtain ⟨i, hi, rfl⟩ := isP_t c8 (by omega); rw [onP_t hi (by omega)]
    refine r_iload_n dX11_person_13 rfl ?_
    by_cases k0 : y = nI 0
    · refine g_top k0 ?_
      refine r_tableIn (tgt := 48) dX11_person_14 (by decide) (by decide) (off := 34) rfl (by decide) ?_
      refine r_aload_n dX11_person_48 rfl ?_
      refine g_getR dX11_person_49 f_X11_66 (Cla.sg (by assumption)) rfl (Cla.f9 (by assumption)) ?_
      refine r_iload_n dX11_person_52 rfl ?_
      refine r_V1 dX11_person_53 l_X11_112 k_X1_kindOf i_X1_kindOf (Fam.sg (by assumption)) ⟨_, rfl⟩ (Nat.le_of_ble_eq_true rfl) (v_X1_kindOf X _ (by first | assumption | omega) (by first | assumption | omega)) (List.prefix_refl S) ?_
      exact g_iret dX11_person_56 (by unfold aPer; rw [if_pos k0]) rfl
    by_cases k1 : y = nI 1
    · refine g_top k1 ?_
      refine r_tableIn (tgt := 57) dX11_person_14 (by decide) (by decide) (off := 43) rfl (by decide) ?_
      refine r_aload_n dX11_person_57 rfl ?_
      refine g_getR dX11_person_58 f_X11_26 (Cla.sg (by assumption)) rfl (Cla.f2 (by assumption)) ?_
      refine r_iload_n dX11_person_61 rfl ?_
      refine r_V1 dX11_person_62 l_X11_116 k_X8_coinsOf i_X8_coinsOf (Sto.sg (Cla.now (by assumption))) ⟨_, rfl⟩ (Nat.le_of_ble_eq_true rfl) (v_X8_coinsOf X _ (by first | assumption | omega) (by first | assumption | omega)) (List.prefix_refl S) ?_
      exact g_iret dX11_person_65 (by unfold aPer; rw [if_neg k0, if_pos k1]) rfl
    by_cases k2 : y = nI 2
    · refine g_top k2 ?_
      refine r_tableIn (tgt := 66) dX11_person_14 (by decide) (by decide) (off := 52) rfl (by decide) ?_
      refine r_aload_n dX11_person_66 rfl ?_
      refine g_getR dX11_person_67 f_X11_66 (Cla.sg (by assumption)) rfl (Cla.f9 (by assumption)) ?_
      refine r_iload_n dX11_person_70 rfl ?_
      refine r_V1 dX11_person_71 l_X11_119 k_X1_strengthOf i_X1_strengthOf (Fam.sg (by assumption)) ⟨_, rfl⟩ (Nat.le_of_ble_eq_true rfl) (v_X1_strengthOf X _ (by first | assumption | omega) (by first | assumption | omega)) (List.prefix_refl S) ?_
      exact g_iret dX11_person_74 (by unfold aPer; rw [if_neg k0, if_neg k1, if_pos k2]) rfl
    by_cases k3 : y = nI 3
    · refine g_top k3 ?_
      refine r_tableIn (tgt := 75) dX11_person_14 (by decide) (by decide) (off := 61) rfl (by decide) ?_
      refine r_aload_n dX11_person_75 rfl ?_
      refine g_getR dX11_person_76 f_X11_26 (Cla.sg (by assumption)) rfl (Cla.f2 (by assumption)) ?_
      refine r_iload_n dX11_person_79 rfl ?_
      refine r_V1 dX11_person_80 l_X11_122 k_X8_isHere i_X8_isHere (Sto.sg (Cla.now (by assumption))) ⟨_, rfl⟩ (Nat.le_of_ble_eq_true rfl) (v_X8_isHere X _ (by first | assumption | omega) (by first | assumption | omega)) (List.prefix_refl S) ?_
      refine r_ifB_eq (tgt := 90) dX11_person_83 (by decide) (fun c83 => ?_) (fun c83 => ?_)
      · skip
        refine r_iconst dX11_person_90 ic_0 ?_
        exact g_iret dX11_person_91 (by unfold aPer; rw [if_neg k0, if_neg k1, if_neg k2, if_pos k3, c83]; rfl) rfl
      · skip
        refine r_iconst dX11_person_86 ic_1 ?_
        refine r_goto (tgt := 91) dX11_person_87 (by decide) ?_
        exact g_iret dX11_person_91 (by unfold aPer; rw [if_neg k0, if_neg k1, if_neg k2, if_pos k3, c83]; rfl) rfl
    by_cases k4 : y = nI 4
    · refine g_top k4 ?_
      refine r_tableIn (tgt := 92) dX11_person_14 (by decide) (by decide) (off := 78) rfl (by decide) ?_
      refine r_aload_n dX11_person_92 rfl ?_
      refine g_getR dX11_person_93 f_X11_26 (Cla.sg (by assumption)) rfl (Cla.f2 (by assumption)) ?_
      refine r_iload_n dX11_person_96 rfl ?_
      refine r_V1 dX11_person_97 l_X11_125 k_X8_paidBy i_X8_paidBy (Sto.sg (Cla.now (by assumption))) ⟨_, rfl⟩ (Nat.le_of_ble_eq_true rfl) (v_X8_paidBy X _ (by first | assumption | omega) (by first | assumption | omega)) (List.prefix_refl S) ?_
      exact g_iret dX11_person_100 (by unfold aPer; rw [if_neg k0, if_neg k1, if_neg k2, if_neg k3, if_pos k4]) rfl
    refine r_tableOut (tgt := 101) dX11_person_14 (sw_outR 0 4 (by decide) (fun k h1 h2 e => by rcases (show k = 0 ∨ k = 1 ∨ k = 2 ∨ k = 3 ∨ k = 4 by omega) with rfl | rfl | rfl | rfl | rfl <;> first | exact k0 e | exact k1 e | exact k2 e | exact k3 e | exact k4 e)) (by decide) ?_
    refine r_iconst dX11_person_101 ic_m1 ?_
    exact g_iret dX11_person_102 (by unfold aPer; rw [if_neg k0, if_neg k1, if_neg k2, if_neg k3, if_neg k4]) rfl
  · rw [onP_f c8]
    refine r_iconst dX11_person_11 ic_m1 ?_
    exact g_iret dX11_person_12 rfl rfl

set_option maxHeartbeats 4000000 in
set_option maxRecDepth 100000 in
theorem v_X11_good (X : mCx) (d : Nat) {S : mSh} {I : mI} {R : mR} {w s : Nat → Int32} {N G hb pb f dr : Nat} {x y : Int32} (hc : Cla S R f dr) (hf : Fam S I R f w N G) (hst : Std S I R 6 s N G hb pb)  : CC X (d + 3) M_X11_good [.ref 1, .int x, .int y] S (I, R) (some (.int (onP G x (fun g => aGoo w s g y) (-1)))) S (I, R) := by
  have hG8 := hst.G8
  have hN6 := hst.N6
  have h256 := hst.h256
  have p256 := hst.p256
  have hund := hc.und
  have hkep := hc.kep
  have hoat := hc.oat
  have hord := hc.ord
  have htxt := hc.txt
  have htwo := hc.two
  have hgif := hc.gif
  have htri := hc.tri
  have hnow := hc.now
  refine CC.of2 (L := [.ref 1, .int x, .int y]) p_X11 (Nat.le_of_ble_eq_true rfl) rfl rfl (List.prefix_refl S) ?_
  refine r_aload_n dX11_good_0 rfl ?_
  refine g_getR dX11_good_1 f_X11_66 (Cla.sg (by assumption)) rfl (Cla.f9 (by assumption)) ?_
  refine r_iload_n dX11_good_4 rfl ?_
  refine r_V1 dX11_good_5 l_X11_128 k_X1_isGood i_X1_isGood (Fam.sg (by assumption)) ⟨_, rfl⟩ (Nat.le_of_ble_eq_true rfl) (v_X1_isGood X _ (by first | assumption | omega)) (List.prefix_refl S) ?_
  refine r_ifB_ne (tgt := 13) dX11_good_8 (by decide) (fun c8 => ?_) (fun c8 => ?_)
  · obtain ⟨g, hg, rfl⟩ := isP_t c8 (by omega); rw [onP_t hg (by omega)]
    refine r_iload_n dX11_good_13 rfl ?_
    by_cases k0 : y = nI 0
    · refine g_top k0 ?_
      refine r_tableIn (tgt := 48) dX11_good_14 (by decide) (by decide) (off := 34) rfl (by decide) ?_
      refine r_aload_n dX11_good_48 rfl ?_
      refine g_getR dX11_good_49 f_X11_66 (Cla.sg (by assumption)) rfl (Cla.f9 (by assumption)) ?_
      refine r_iload_n dX11_good_52 rfl ?_
      refine r_V1 dX11_good_53 l_X11_131 k_X1_sortOf i_X1_sortOf (Fam.sg (by assumption)) ⟨_, rfl⟩ (Nat.le_of_ble_eq_true rfl) (v_X1_sortOf X _ (by first | assumption | omega) (by first | assumption | omega)) (List.prefix_refl S) ?_
      exact g_iret dX11_good_56 (by unfold aGoo; rw [if_pos k0]) rfl
    by_cases k1 : y = nI 1
    · refine g_top k1 ?_
      refine r_tableIn (tgt := 57) dX11_good_14 (by decide) (by decide) (off := 43) rfl (by decide) ?_
      refine r_aload_n dX11_good_57 rfl ?_
      refine g_getR dX11_good_58 f_X11_26 (Cla.sg (by assumption)) rfl (Cla.f2 (by assumption)) ?_
      refine r_iload_n dX11_good_61 rfl ?_
      refine r_V1 dX11_good_62 l_X11_134 k_X8_ownerOf i_X8_ownerOf (Sto.sg (Cla.now (by assumption))) ⟨_, rfl⟩ (Nat.le_of_ble_eq_true rfl) (v_X8_ownerOf X _ (by first | assumption | omega) (by first | assumption | omega)) (List.prefix_refl S) ?_
      exact g_iret dX11_good_65 (by unfold aGoo; rw [if_neg k0, if_pos k1]) rfl
    by_cases k2 : y = nI 2
    · refine g_top k2 ?_
      refine r_tableIn (tgt := 66) dX11_good_14 (by decide) (by decide) (off := 52) rfl (by decide) ?_
      refine r_aload_n dX11_good_66 rfl ?_
      refine g_getR dX11_good_67 f_X11_66 (Cla.sg (by assumption)) rfl (Cla.f9 (by assumption)) ?_
      refine r_iload_n dX11_good_70 rfl ?_
      refine r_V1 dX11_good_71 l_X11_137 k_X1_worthOf i_X1_worthOf (Fam.sg (by assumption)) ⟨_, rfl⟩ (Nat.le_of_ble_eq_true rfl) (v_X1_worthOf X _ (by first | assumption | omega) (by first | assumption | omega)) (List.prefix_refl S) ?_
      exact g_iret dX11_good_74 (by unfold aGoo; rw [if_neg k0, if_neg k1, if_pos k2]) rfl
    by_cases k3 : y = nI 3
    · refine g_top k3 ?_
      refine r_tableIn (tgt := 75) dX11_good_14 (by decide) (by decide) (off := 61) rfl (by decide) ?_
      refine r_aload_n dX11_good_75 rfl ?_
      refine g_getR dX11_good_76 f_X11_66 (Cla.sg (by assumption)) rfl (Cla.f9 (by assumption)) ?_
      refine r_iload_n dX11_good_79 rfl ?_
      refine r_V1 dX11_good_80 l_X11_140 k_X1_heavyOf i_X1_heavyOf (Fam.sg (by assumption)) ⟨_, rfl⟩ (Nat.le_of_ble_eq_true rfl) (v_X1_heavyOf X _ (by first | assumption | omega) (by first | assumption | omega)) (List.prefix_refl S) ?_
      exact g_iret dX11_good_83 (by unfold aGoo; rw [if_neg k0, if_neg k1, if_neg k2, if_pos k3]) rfl
    by_cases k4 : y = nI 4
    · refine g_top k4 ?_
      refine r_tableIn (tgt := 84) dX11_good_14 (by decide) (by decide) (off := 70) rfl (by decide) ?_
      refine r_aload_n dX11_good_84 rfl ?_
      refine g_getR dX11_good_85 f_X11_26 (Cla.sg (by assumption)) rfl (Cla.f2 (by assumption)) ?_
      refine r_iload_n dX11_good_88 rfl ?_
      refine r_V1 dX11_good_89 l_X11_143 k_X8_isPacked i_X8_isPacked (Sto.sg (Cla.now (by assumption))) ⟨_, rfl⟩ (Nat.le_of_ble_eq_true rfl) (v_X8_isPacked X _ (by first | assumption | omega) (by first | assumption | omega)) (List.prefix_refl S) ?_
      refine r_ifB_eq (tgt := 99) dX11_good_92 (by decide) (fun c92 => ?_) (fun c92 => ?_)
      · skip
        refine r_iconst dX11_good_99 ic_0 ?_
        exact g_iret dX11_good_100 (by unfold aGoo; rw [if_neg k0, if_neg k1, if_neg k2, if_neg k3, if_pos k4, hst.pk g hg, c92]; rfl) rfl
      · skip
        refine r_iconst dX11_good_95 ic_1 ?_
        refine r_goto (tgt := 100) dX11_good_96 (by decide) ?_
        exact g_iret dX11_good_100 (by unfold aGoo; rw [if_neg k0, if_neg k1, if_neg k2, if_neg k3, if_pos k4, hst.pk g hg, c92]; rfl) rfl
    refine r_tableOut (tgt := 101) dX11_good_14 (sw_outR 0 4 (by decide) (fun k h1 h2 e => by rcases (show k = 0 ∨ k = 1 ∨ k = 2 ∨ k = 3 ∨ k = 4 by omega) with rfl | rfl | rfl | rfl | rfl <;> first | exact k0 e | exact k1 e | exact k2 e | exact k3 e | exact k4 e)) (by decide) ?_
    refine r_iconst dX11_good_101 ic_m1 ?_
    exact g_iret dX11_good_102 (by unfold aGoo; rw [if_neg k0, if_neg k1, if_neg k2, if_neg k3, if_neg k4]) rfl
  · rw [onP_f c8]
    refine r_iconst dX11_good_11 ic_m1 ?_
    exact g_iret dX11_good_12 rfl rfl

set_option maxHeartbeats 4000000 in
set_option maxRecDepth 100000 in
theorem v_X11_love (X : mCx) (d : Nat) {S : mSh} {I : mI} {R : mR} {w : Nat → Int32} {N G f dr : Nat} {x y : Int32} (hc : Cla S R f dr) (hf : Fam S I R f w N G)  : CC X (d + 3) M_X11_love [.ref 1, .int x, .int y] S (I, R) (some (.int (onPP N x y (fun i j => w (53 + (6 * i + j))) (-1)))) S (I, R) := by
  have hN6 := hf.N6
  refine CC.of2 (L := [.ref 1, .int x, .int y]) p_X11 (Nat.le_of_ble_eq_true rfl) rfl rfl (List.prefix_refl S) ?_
  refine r_aload_n dX11_love_0 rfl ?_
  refine r_iload_n dX11_love_1 rfl ?_
  refine r_iload_n dX11_love_2 rfl ?_
  refine r_V2 dX11_love_3 l_X11_146 k_X11_isPair i_X11_isPair (Cla.sg (by assumption)) ⟨_, rfl⟩ (Nat.le_of_ble_eq_true rfl) (v_X11_isPair X _ (by first | assumption | omega) (by first | assumption | omega)) (List.prefix_refl S) ?_
  refine r_ifB_eq (tgt := 21) dX11_love_6 (by decide) (fun c6 => ?_) (fun c6 => ?_)
  · rw [onPP_f c6]
    refine r_iconst dX11_love_21 ic_m1 ?_
    exact g_iret dX11_love_22 rfl rfl
  · obtain ⟨i, j, hi, hj, hij, rfl, rfl⟩ := twoP_t c6 (by omega); rw [onPP_t hi hj (by omega) hij]
    refine r_aload_n dX11_love_9 rfl ?_
    refine g_getR dX11_love_10 f_X11_66 (Cla.sg (by assumption)) rfl (Cla.f9 (by assumption)) ?_
    refine r_iload_n dX11_love_13 rfl ?_
    refine r_iload_n dX11_love_14 rfl ?_
    refine r_V2 dX11_love_15 l_X11_150 k_X1_loveOf i_X1_loveOf (Fam.sg (by assumption)) ⟨_, rfl⟩ (Nat.le_of_ble_eq_true rfl) (v_X1_loveOf X _ (by first | assumption | omega) (by first | assumption | omega) (by first | assumption | omega)) (List.prefix_refl S) ?_
    refine r_goto (tgt := 22) dX11_love_18 (by decide) ?_
    exact g_iret dX11_love_22 rfl rfl

set_option maxHeartbeats 4000000 in
set_option maxRecDepth 100000 in
theorem v_X11_packing (X : mCx) (d : Nat) {S : mSh} {I : mI} {R : mR} {w s : Nat → Int32} {N G hb pb f dr : Nat} {x y : Int32} (hc : Cla S R f dr) (hf : Fam S I R f w N G) (hst : Std S I R 6 s N G hb pb)  : CC X (d + 6) M_X11_packing [.ref 1, .int x, .int y] S (I, R) (some (.int (if isA y = true then onP N x (fun i => if hb.testBit i = true then (if y = nI 0 then nI (blF w s N G hb i 255).1 else owP w s N G hb i (blF w s N G hb i 255).1) else -2) (-1) else -1))) S (I, R) := by
  have hG8 := hst.G8
  have hN6 := hst.N6
  have h256 := hst.h256
  have p256 := hst.p256
  have hund := hc.und
  have hkep := hc.kep
  have hoat := hc.oat
  have hord := hc.ord
  have htxt := hc.txt
  have htwo := hc.two
  have hgif := hc.gif
  have htri := hc.tri
  have hnow := hc.now
  refine CC.of2 (L := [.ref 1, .int x, .int y, .retAddr 0]) p_X11 (Nat.le_of_ble_eq_true rfl) rfl rfl (List.prefix_refl S) ?_
  refine r_aload_n dX11_packing_0 rfl ?_
  refine g_getR dX11_packing_1 f_X11_66 (Cla.sg (by assumption)) rfl (Cla.f9 (by assumption)) ?_
  refine r_iload_n dX11_packing_4 rfl ?_
  refine r_V1 dX11_packing_5 l_X11_108 k_X1_isPerson i_X1_isPerson (Fam.sg (by assumption)) ⟨_, rfl⟩ (Nat.le_of_ble_eq_true rfl) (v_X1_isPerson X _ (by first | assumption | omega)) (List.prefix_refl S) ?_
  refine r_ifB_eq (tgt := 18) dX11_packing_8 (by decide) (fun c8 => ?_) (fun c8 => ?_)
  · have e : onP N x (fun i => if hb.testBit i = true then (if y = nI 0 then nI (blF w s N G hb i 255).1 else owP w s N G hb i (blF w s N G hb i 255).1) else -2) (-1) = -1 := onP_f c8
    refine r_iconst dX11_packing_18 ic_m1 ?_
    exact g_iret dX11_packing_19 (by first | rfl | (rw [e]; split <;> rfl)) rfl
  · obtain ⟨i, hi, rfl⟩ := isP_t c8 (by omega)
    refine r_iload_n dX11_packing_11 rfl ?_
    refine r_S1 dX11_packing_12 l_X11_217 k_X11_isAsked s_X11_isAsked (Nat.le_of_ble_eq_true rfl) (v_X11_isAsked X _ ) (List.prefix_refl S) ?_
    refine r_ifB_ne (tgt := 20) dX11_packing_15 (by decide) (fun c15 => ?_) (fun c15 => ?_)
    · rw [if_pos c15, onP_t hi (by omega)]
      refine r_aload_n dX11_packing_20 rfl ?_
      refine g_getR dX11_packing_21 f_X11_26 (Cla.sg (by assumption)) rfl (Cla.f2 (by assumption)) ?_
      refine r_iload_n dX11_packing_24 rfl ?_
      refine r_V1 dX11_packing_25 l_X11_122 k_X8_isHere i_X8_isHere (Sto.sg (Cla.now (by assumption))) ⟨_, rfl⟩ (Nat.le_of_ble_eq_true rfl) (v_X8_isHere X _ (by first | assumption | omega) (by first | assumption | omega)) (List.prefix_refl S) ?_
      refine r_ifB_ne (tgt := 34) dX11_packing_28 (by decide) (fun c28 => ?_) (fun c28 => ?_)
      · skip
        refine r_aload_n dX11_packing_34 rfl ?_
        refine g_getR dX11_packing_35 f_X11_66 (Cla.sg (by assumption)) rfl (Cla.f9 (by assumption)) ?_
        refine r_aload_n dX11_packing_38 rfl ?_
        refine g_getR dX11_packing_39 f_X11_26 (Cla.sg (by assumption)) rfl (Cla.f2 (by assumption)) ?_
        refine r_iload_n dX11_packing_42 rfl ?_
        refine r_S3 dX11_packing_43 l_X11_220 k_X0_bestLoad s_X0_bestLoad (Nat.le_of_ble_eq_true rfl) (v_X0_bestLoad X _ (by first | assumption | omega) (by first | assumption | omega) (by first | assumption | omega)) (List.prefix_refl S) ?_
        have hbl := blF_lt w s N G hb i 255 (by omega)
        refine r_istore_n (L' := [_, _, _, _]) dX11_packing_46 rfl rfl ?_
        refine r_iload_n dX11_packing_47 rfl ?_
        refine r_if_ne (tgt := 55) dX11_packing_48 (by decide) (fun c48 => ?_) (fun c48 => ?_)
        · have c48 : ¬ y = nI 0 := (by rw [nI_0]; exact c48)
          refine r_aload_n dX11_packing_55 rfl ?_
          refine g_getR dX11_packing_56 f_X11_66 (Cla.sg (by assumption)) rfl (Cla.f9 (by assumption)) ?_
          refine r_aload_n dX11_packing_59 rfl ?_
          refine g_getR dX11_packing_60 f_X11_26 (Cla.sg (by assumption)) rfl (Cla.f2 (by assumption)) ?_
          refine r_iload_n dX11_packing_63 rfl ?_
          refine r_iload_n dX11_packing_64 rfl ?_
          refine r_S4 dX11_packing_65 l_X11_223 k_X0_owedPacking s_X0_owedPacking (Nat.le_of_ble_eq_true rfl) (v_X0_owedPacking X _ (by first | assumption | omega) (by first | assumption | omega) (by first | assumption | omega) (by first | assumption | omega)) (List.prefix_refl S) ?_
          exact g_iret dX11_packing_68 (by first | rw [if_pos c28, if_pos c48] | rw [if_pos c28, if_neg c48]) rfl
        · have c48 : y = nI 0 := (by rw [nI_0]; exact c48)
          refine r_iload_n dX11_packing_51 rfl ?_
          refine r_goto (tgt := 68) dX11_packing_52 (by decide) ?_
          exact g_iret dX11_packing_68 (by first | rw [if_pos c28, if_pos c48] | rw [if_pos c28, if_neg c48]) rfl
      · skip
        refine r_bipush dX11_packing_31 bp_m2 ?_
        exact g_iret dX11_packing_33 (by simp [*]) rfl
    · rw [if_neg (by rw [c15]; decide)]
      refine r_iconst dX11_packing_18 ic_m1 ?_
      exact g_iret dX11_packing_19 (by first | rfl | (rw [e]; split <;> rfl)) rfl

set_option maxHeartbeats 4000000 in
set_option maxRecDepth 100000 in
theorem v_X11_stuck (X : mCx) (d : Nat) {S : mSh} {I : mI} {R : mR} {w s : Nat → Int32} {N G hb pb f dr : Nat} (hc : Cla S R f dr) (hf : Fam S I R f w N G) (hst : Std S I R 6 s N G hb pb)  : CC X (d + 6) M_X11_stuck [.ref 1] S (I, R) (some (.int (nI (nFold N (fun i b => if hb.testBit i = true ∧ fOut w s N G hb i < nI 0 then b ||| 2 ^ i else b) 0)))) S (I, R) := by
  have hG8 := hst.G8
  have hN6 := hst.N6
  have h256 := hst.h256
  have p256 := hst.p256
  have hund := hc.und
  have hkep := hc.kep
  have hoat := hc.oat
  have hord := hc.ord
  have htxt := hc.txt
  have htwo := hc.two
  have hgif := hc.gif
  have htri := hc.tri
  have hnow := hc.now
  refine CC.of2 (L := [.ref 1, .retAddr 0, .retAddr 0]) p_X11 (Nat.le_of_ble_eq_true rfl) rfl rfl (List.prefix_refl S) ?_
  refine r_iconst dX11_stuck_0 ic_0 ?_
  refine r_istore_n (L' := [_, _, _]) dX11_stuck_1 rfl rfl ?_
  refine r_iconst dX11_stuck_2 ic_0 ?_
  refine r_istore_n (L' := [_, _, _]) dX11_stuck_3 rfl rfl ?_
  refine JJ.loop N (fun j => [.ref 1, .int (nI (nFold j (fun i b => if hb.testBit i = true ∧ fOut w s N G hb i < nI 0 then b ||| 2 ^ i else b) 0)), .int (nI j)]) (fun j => (I, R)) (fun j => True) rfl rfl trivial (fun hp => ?_) (fun j hj hp K => ?_)
  · skip
    refine r_iload_n dX11_stuck_4 rfl ?_
    refine r_aload_n dX11_stuck_5 rfl ?_
    refine g_getR dX11_stuck_6 f_X11_66 (Cla.sg (by assumption)) rfl (Cla.f9 (by assumption)) ?_
    refine g_getI dX11_stuck_9 f_X11_103 (Fam.sg (by assumption)) rfl hf.hN ?_
    refine n_icmp_ge (tgt := 53) dX11_stuck_12 (by decide) (by omega) (by omega) (fun c12 => ?_) (fun c12 => absurd c12 (by omega))
    refine r_iload_n dX11_stuck_53 rfl ?_
    exact g_iret dX11_stuck_54 rfl rfl
  · skip
    refine r_iload_n dX11_stuck_4 rfl ?_
    refine r_aload_n dX11_stuck_5 rfl ?_
    refine g_getR dX11_stuck_6 f_X11_66 (Cla.sg (by assumption)) rfl (Cla.f9 (by assumption)) ?_
    refine g_getI dX11_stuck_9 f_X11_103 (Fam.sg (by assumption)) rfl hf.hN ?_
    refine n_icmp_ge (tgt := 53) dX11_stuck_12 (by decide) (by omega) (by omega) (fun c12 => absurd c12 (by omega)) (fun c12 => ?_)
    refine r_aload_n dX11_stuck_15 rfl ?_
    refine g_getR dX11_stuck_16 f_X11_26 (Cla.sg (by assumption)) rfl (Cla.f2 (by assumption)) ?_
    refine r_iload_n dX11_stuck_19 rfl ?_
    refine r_V1 dX11_stuck_20 l_X11_122 k_X8_isHere i_X8_isHere (Sto.sg (Cla.now (by assumption))) ⟨_, rfl⟩ (Nat.le_of_ble_eq_true rfl) (v_X8_isHere X _ (by first | assumption | omega) (by first | assumption | omega)) (List.prefix_refl S) ?_
    refine r_ifB_eq (tgt := 47) dX11_stuck_23 (by decide) (fun c23 => ?_) (fun c23 => ?_)
    · skip
      refine r_iinc (L' := [_, _, _]) dX11_stuck_47 rfl rfl (nI_inc _) rfl ?_
      refine r_goto (tgt := 4) dX11_stuck_50 (by decide) ?_
      first | exact JJ.to (K trivial) (by rw [nFold]; rw [if_pos (And.intro c23 c38)]) rfl rfl | exact JJ.to (K trivial) (by rw [nFold]; rw [if_neg (fun z => c38 z.2)]) rfl rfl | exact JJ.to (K trivial) (by rw [nFold]; rw [if_neg (fun z => absurd (c23.symm.trans z.1) (by decide))]) rfl rfl
    · skip
      refine r_aload_n dX11_stuck_26 rfl ?_
      refine g_getR dX11_stuck_27 f_X11_66 (Cla.sg (by assumption)) rfl (Cla.f9 (by assumption)) ?_
      refine r_aload_n dX11_stuck_30 rfl ?_
      refine g_getR dX11_stuck_31 f_X11_26 (Cla.sg (by assumption)) rfl (Cla.f2 (by assumption)) ?_
      refine r_iload_n dX11_stuck_34 rfl ?_
      refine r_S3 dX11_stuck_35 l_X11_178 k_X2_feeToLeave s_X2_feeToLeave (Nat.le_of_ble_eq_true rfl) (v_X2_feeToLeave X _ (by first | assumption | omega) (by first | assumption | omega) (by first | assumption | omega)) (List.prefix_refl S) ?_
      refine r_if_ge (tgt := 47) dX11_stuck_38 (by decide) (fun c38 => ?_) (fun c38 => ?_)
      · have c38 : ¬ fOut w s N G hb j < nI 0 := Int32.not_lt.mpr c38
        refine r_iinc (L' := [_, _, _]) dX11_stuck_47 rfl rfl (nI_inc _) rfl ?_
        refine r_goto (tgt := 4) dX11_stuck_50 (by decide) ?_
        first | exact JJ.to (K trivial) (by rw [nFold]; rw [if_pos (And.intro c23 c38)]) rfl rfl | exact JJ.to (K trivial) (by rw [nFold]; rw [if_neg (fun z => c38 z.2)]) rfl rfl | exact JJ.to (K trivial) (by rw [nFold]; rw [if_neg (fun z => absurd (c23.symm.trans z.1) (by decide))]) rfl rfl
      · have c38 : fOut w s N G hb j < nI 0 := Int32.not_le.mp c38
        refine r_iload_n dX11_stuck_41 rfl ?_
        refine r_iconst dX11_stuck_42 ic_1 ?_
        refine r_iload_n dX11_stuck_43 rfl ?_
        refine r_ishl dX11_stuck_44 ?_
        refine g_top (shl1 (by omega)) ?_
        refine r_ior dX11_stuck_45 ?_
        refine g_top (nI_or _ _) ?_
        refine r_istore_n (L' := [_, _, _]) dX11_stuck_46 rfl rfl ?_
        refine r_iinc (L' := [_, _, _]) dX11_stuck_47 rfl rfl (nI_inc _) rfl ?_
        refine r_goto (tgt := 4) dX11_stuck_50 (by decide) ?_
        first | exact JJ.to (K trivial) (by rw [nFold]; rw [if_pos (And.intro c23 c38)]) rfl rfl | exact JJ.to (K trivial) (by rw [nFold]; rw [if_neg (fun z => c38 z.2)]) rfl rfl | exact JJ.to (K trivial) (by rw [nFold]; rw [if_neg (fun z => absurd (c23.symm.trans z.1) (by decide))]) rfl rfl

/-- the k-th sworn, what of it is false -/
def fB0 (w s : Nat → Int32) (N G hb i : Nat) (v : Int32) : Nat := if owe w s N G hb i = v then 256 else 0
def fBs (w s : Nat → Int32) (N G hb i : Nat) (v : Int32) (n : Nat) : Nat := nFold n (fun g b => if ly s g i = true ∧ duty w i (gLeft w s G i + lLeft w N i hb - cnt w g) = v then b ||| 2 ^ g else b) (fB0 w s N G hb i v)
theorem fBs_s (w s : Nat → Int32) (N G hb i : Nat) (v : Int32) (n : Nat) : fBs w s N G hb i v (n + 1) = if ly s n i = true ∧ duty w i (gLeft w s G i + lLeft w N i hb - cnt w n) = v then fBs w s N G hb i v n ||| 2 ^ n else fBs w s N G hb i v n := rfl
/-- 20 down to -1 -/
def dn (j : Nat) : Int32 := nI 20 - nI j
theorem dn_s {j : Nat} (h : j < 21) : dn j + Int32.ofInt (-1) = dn (j + 1) := by
  have : ∀ j, j < 21 → dn j + Int32.ofInt (-1) = dn (j + 1) := by decide +kernel
  exact this j h
theorem dn_nlt {j : Nat} (h : j < 21) : ¬ dn j < 0 := by
  have : ∀ j, j < 21 → ¬ dn j < 0 := by decide +kernel
  exact this j h
theorem dn_lt : dn 21 < 0 := by decide +kernel
def lvQ (w : Nat → Int32) (i : Nat) (x v : Int32) (n : Nat) : Nat × Int32 := nFold n (fun j q => if duty w i (x + dn j) = v then (q.1 + 1, dn j) else q) (0, -4)
theorem lvQ_s (w : Nat → Int32) (i : Nat) (x v : Int32) (n : Nat) : lvQ w i x v (n + 1) = if duty w i (x + dn n) = v then ((lvQ w i x v n).1 + 1, dn n) else lvQ w i x v n := rfl
set_option maxHeartbeats 4000000 in
set_option maxRecDepth 100000 in
theorem v_X11_isFalse (X : mCx) (d : Nat) {S : mSh} {I : mI} {R : mR} {w s vs : Nat → Int32} {ps : Nat → Nat} {N G hb pb f dr m : Nat} {x : Int32} (hc : Cla S R f dr) (hf : Fam S I R f w N G) (hst : Std S I R 6 s N G hb pb) (hm : I 70 2 = nI m) (h6 : m ≤ 6) (hsw : ∀ k, k < m → I 71 k = nI (ps k) ∧ ps k < N ∧ I 72 k = vs k)  : CC X (d + 5) M_X11_isFalse [.ref 1, .int x] S (I, R) (some (.int (onP m x (fun k => if hb.testBit (ps k) = true then nI (fBs w s N G hb (ps k) (vs k) G) else -2) (-1)))) S (I, R) := by
  have hG8 := hst.G8
  have hN6 := hst.N6
  have h256 := hst.h256
  have p256 := hst.p256
  have hund := hc.und
  have hkep := hc.kep
  have hoat := hc.oat
  have hord := hc.ord
  have htxt := hc.txt
  have htwo := hc.two
  have hgif := hc.gif
  have htri := hc.tri
  have hnow := hc.now
  refine CC.of2 (L := [.ref 1, .int x, .retAddr 0, .retAddr 0, .retAddr 0, .retAddr 0, .retAddr 0]) p_X11 (Nat.le_of_ble_eq_true rfl) rfl rfl (List.prefix_refl S) ?_
  refine r_aload_n dX11_isFalse_0 rfl ?_
  refine g_getR dX11_isFalse_1 f_X11_48 (Cla.sg (by assumption)) rfl (Cla.f6 (by assumption)) ?_
  refine r_iload_n dX11_isFalse_4 rfl ?_
  refine r_V1 dX11_isFalse_5 l_X11_247 k_X3_holds i_X3_holds (Oat.sg (Cla.oat (by assumption))) ⟨_, rfl⟩ (Nat.le_of_ble_eq_true rfl) (v_X3_holds X _ (by first | assumption | omega) (by first | assumption | omega)) (List.prefix_refl S) ?_
  refine r_ifB_ne (tgt := 13) dX11_isFalse_8 (by decide) (fun c8 => ?_) (fun c8 => ?_)
  · obtain ⟨k, hk, rfl⟩ := isP_t c8 (by omega); rw [onP_t hk (by omega)]
    have hps := (hsw k hk).2.1
    refine r_aload_n dX11_isFalse_13 rfl ?_
    refine g_getR dX11_isFalse_14 f_X11_48 (Cla.sg (by assumption)) rfl (Cla.f6 (by assumption)) ?_
    refine r_iload_n dX11_isFalse_17 rfl ?_
    refine r_V1 dX11_isFalse_18 l_X11_250 k_X3_swearer i_X3_swearer (Oat.sg (Cla.oat (by assumption))) ⟨_, rfl⟩ (Nat.le_of_ble_eq_true rfl) (v_X3_swearer X _ (by first | assumption | omega) (by first | assumption | omega)) (List.prefix_refl S) ?_
    rw [(hsw k hk).1]
    refine r_istore_n (L' := [_, _, _, _, _, _, _]) dX11_isFalse_21 rfl rfl ?_
    refine r_aload_n dX11_isFalse_22 rfl ?_
    refine g_getR dX11_isFalse_23 f_X11_26 (Cla.sg (by assumption)) rfl (Cla.f2 (by assumption)) ?_
    refine r_iload_n dX11_isFalse_26 rfl ?_
    refine r_V1 dX11_isFalse_27 l_X11_122 k_X8_isHere i_X8_isHere (Sto.sg (Cla.now (by assumption))) ⟨_, rfl⟩ (Nat.le_of_ble_eq_true rfl) (v_X8_isHere X _ (by first | assumption | omega) (by first | assumption | omega)) (List.prefix_refl S) ?_
    refine r_ifB_ne (tgt := 36) dX11_isFalse_30 (by decide) (fun c30 => ?_) (fun c30 => ?_)
    · skip
      refine r_aload_n dX11_isFalse_36 rfl ?_
      refine g_getR dX11_isFalse_37 f_X11_48 (Cla.sg (by assumption)) rfl (Cla.f6 (by assumption)) ?_
      refine r_iload_n dX11_isFalse_40 rfl ?_
      refine r_V1 dX11_isFalse_41 l_X11_253 k_X3_sum i_X3_sum (Oat.sg (Cla.oat (by assumption))) ⟨_, rfl⟩ (Nat.le_of_ble_eq_true rfl) (v_X3_sum X _ (by first | assumption | omega) (by first | assumption | omega)) (List.prefix_refl S) ?_
      rw [(hsw k hk).2.2]
      refine r_istore_n (L' := [_, _, _, _, _, _, _]) dX11_isFalse_44 rfl rfl ?_
      refine r_aload_n dX11_isFalse_45 rfl ?_
      refine g_getR dX11_isFalse_46 f_X11_66 (Cla.sg (by assumption)) rfl (Cla.f9 (by assumption)) ?_
      refine r_aload_n dX11_isFalse_49 rfl ?_
      refine g_getR dX11_isFalse_50 f_X11_26 (Cla.sg (by assumption)) rfl (Cla.f2 (by assumption)) ?_
      refine r_iload_n dX11_isFalse_53 rfl ?_
      refine r_S3 dX11_isFalse_54 l_X11_256 k_X0_left s_X0_left (Nat.le_of_ble_eq_true rfl) (v_X0_left X _ (by first | assumption | omega) (by first | assumption | omega) (by first | assumption | omega)) (List.prefix_refl S) ?_
      refine r_istore (L' := [_, _, _, _, _, _, _]) dX11_isFalse_57 rfl rfl ?_
      refine r_aload_n dX11_isFalse_59 rfl ?_
      refine g_getR dX11_isFalse_60 f_X11_66 (Cla.sg (by assumption)) rfl (Cla.f9 (by assumption)) ?_
      refine r_iload_n dX11_isFalse_63 rfl ?_
      refine r_iload dX11_isFalse_64 rfl ?_
      refine r_S3 dX11_isFalse_66 l_X11_259 k_X0_onLeft s_X0_onLeft (Nat.le_of_ble_eq_true rfl) (v_X0_onLeft X _ (by first | assumption | omega) (by first | assumption | omega)) (List.prefix_refl S) ?_
      refine r_iload_n dX11_isFalse_69 rfl ?_
      refine r_icmp_ne (tgt := 79) dX11_isFalse_70 (by decide) (fun c70 => ?_) (fun c70 => ?_)
      · skip
        refine r_iconst dX11_isFalse_79 ic_0 ?_
        refine g_top (show _ = nI (fB0 w s N G hb (ps k) (vs k)) by first | exact (by unfold fB0; rw [if_pos (show owe w s N G hb (ps k) = vs k from c70)]) | exact (by unfold fB0; rw [if_neg (show ¬ owe w s N G hb (ps k) = vs k from c70)])) ?_
        refine r_istore (L' := [_, _, _, _, _, _, _]) dX11_isFalse_80 rfl rfl ?_
        refine r_iconst dX11_isFalse_82 ic_0 ?_
        refine r_istore (L' := [_, _, _, _, _, _, _]) dX11_isFalse_83 rfl rfl ?_
        refine JJ.loop G (fun j => [.ref 1, .int (nI k), .int (nI (ps k)), .int (vs k), .int (gLeft w s G (ps k) + lLeft w N (ps k) hb), .int (nI (fBs w s N G hb (ps k) (vs k) j)), .int (nI j)]) (fun j => (I, R)) (fun j => True) rfl rfl trivial (fun hp => ?_) (fun j hj hp K => ?_)
        · skip
          refine r_iload dX11_isFalse_85 rfl ?_
          refine r_aload_n dX11_isFalse_87 rfl ?_
          refine g_getR dX11_isFalse_88 f_X11_66 (Cla.sg (by assumption)) rfl (Cla.f9 (by assumption)) ?_
          refine g_getI dX11_isFalse_91 f_X11_263 (Fam.sg (by assumption)) rfl hf.hG ?_
          refine n_icmp_ge (tgt := 149) dX11_isFalse_94 (by decide) (by omega) (by omega) (fun c94 => ?_) (fun c94 => absurd c94 (by omega))
          refine r_iload dX11_isFalse_149 rfl ?_
          exact g_iret dX11_isFalse_151 (by rw [if_pos c30]) rfl
        · skip
          refine r_iload dX11_isFalse_85 rfl ?_
          refine r_aload_n dX11_isFalse_87 rfl ?_
          refine g_getR dX11_isFalse_88 f_X11_66 (Cla.sg (by assumption)) rfl (Cla.f9 (by assumption)) ?_
          refine g_getI dX11_isFalse_91 f_X11_263 (Fam.sg (by assumption)) rfl hf.hG ?_
          refine n_icmp_ge (tgt := 149) dX11_isFalse_94 (by decide) (by omega) (by omega) (fun c94 => absurd c94 (by omega)) (fun c94 => ?_)
          refine r_aload_n dX11_isFalse_97 rfl ?_
          refine g_getR dX11_isFalse_98 f_X11_26 (Cla.sg (by assumption)) rfl (Cla.f2 (by assumption)) ?_
          refine r_iload dX11_isFalse_101 rfl ?_
          refine r_iload_n dX11_isFalse_103 rfl ?_
          refine r_V2 dX11_isFalse_104 l_X11_266 k_X8_lies i_X8_lies (Sto.sg (Cla.now (by assumption))) ⟨_, rfl⟩ (Nat.le_of_ble_eq_true rfl) (v_X8_lies X _ (by first | assumption | omega) (by first | assumption | omega)) (List.prefix_refl S) ?_
          refine r_ifB_eq (tgt := 143) dX11_isFalse_107 (by decide) (fun c107 => ?_) (fun c107 => ?_)
          · skip
            refine r_iinc (L' := [_, _, _, _, _, _, _]) dX11_isFalse_143 rfl rfl (nI_inc _) rfl ?_
            refine r_goto (tgt := 85) dX11_isFalse_146 (by decide) ?_
            first | exact JJ.to (K trivial) (by rw [fBs_s, if_pos (And.intro c107 c131)]) rfl rfl | exact JJ.to (K trivial) (by rw [fBs_s, if_neg (fun z => c131 z.2)]) rfl rfl | exact JJ.to (K trivial) (by rw [fBs_s, if_neg (fun z => absurd (c107.symm.trans z.1) (by decide))]) rfl rfl
          · skip
            refine r_aload_n dX11_isFalse_110 rfl ?_
            refine g_getR dX11_isFalse_111 f_X11_66 (Cla.sg (by assumption)) rfl (Cla.f9 (by assumption)) ?_
            refine r_iload_n dX11_isFalse_114 rfl ?_
            refine r_iload dX11_isFalse_115 rfl ?_
            refine r_aload_n dX11_isFalse_117 rfl ?_
            refine g_getR dX11_isFalse_118 f_X11_66 (Cla.sg (by assumption)) rfl (Cla.f9 (by assumption)) ?_
            refine r_iload dX11_isFalse_121 rfl ?_
            refine r_V1 dX11_isFalse_123 l_X11_269 k_X1_countOf i_X1_countOf (Fam.sg (by assumption)) ⟨_, rfl⟩ (Nat.le_of_ble_eq_true rfl) (v_X1_countOf X _ (by first | assumption | omega) (by first | assumption | omega)) (List.prefix_refl S) ?_
            refine r_isub dX11_isFalse_126 ?_
            refine r_S3 dX11_isFalse_127 l_X11_259 k_X0_onLeft s_X0_onLeft (Nat.le_of_ble_eq_true rfl) (v_X0_onLeft X _ (by first | assumption | omega) (by first | assumption | omega)) (List.prefix_refl S) ?_
            refine r_iload_n dX11_isFalse_130 rfl ?_
            refine r_icmp_ne (tgt := 143) dX11_isFalse_131 (by decide) (fun c131 => ?_) (fun c131 => ?_)
            · skip
              refine r_iinc (L' := [_, _, _, _, _, _, _]) dX11_isFalse_143 rfl rfl (nI_inc _) rfl ?_
              refine r_goto (tgt := 85) dX11_isFalse_146 (by decide) ?_
              first | exact JJ.to (K trivial) (by rw [fBs_s, if_pos (And.intro c107 c131)]) rfl rfl | exact JJ.to (K trivial) (by rw [fBs_s, if_neg (fun z => c131 z.2)]) rfl rfl | exact JJ.to (K trivial) (by rw [fBs_s, if_neg (fun z => absurd (c107.symm.trans z.1) (by decide))]) rfl rfl
            · skip
              refine r_iload dX11_isFalse_134 rfl ?_
              refine r_iconst dX11_isFalse_136 ic_1 ?_
              refine r_iload dX11_isFalse_137 rfl ?_
              refine r_ishl dX11_isFalse_139 ?_
              refine g_top (shl1 (by omega)) ?_
              refine r_ior dX11_isFalse_140 ?_
              refine g_top (nI_or _ _) ?_
              refine r_istore (L' := [_, _, _, _, _, _, _]) dX11_isFalse_141 rfl rfl ?_
              refine r_iinc (L' := [_, _, _, _, _, _, _]) dX11_isFalse_143 rfl rfl (nI_inc _) rfl ?_
              refine r_goto (tgt := 85) dX11_isFalse_146 (by decide) ?_
              first | exact JJ.to (K trivial) (by rw [fBs_s, if_pos (And.intro c107 c131)]) rfl rfl | exact JJ.to (K trivial) (by rw [fBs_s, if_neg (fun z => c131 z.2)]) rfl rfl | exact JJ.to (K trivial) (by rw [fBs_s, if_neg (fun z => absurd (c107.symm.trans z.1) (by decide))]) rfl rfl
      · skip
        refine r_sipush dX11_isFalse_73 sp_256 ?_
        refine r_goto (tgt := 80) dX11_isFalse_76 (by decide) ?_
        refine g_top (show _ = nI (fB0 w s N G hb (ps k) (vs k)) by first | exact (by unfold fB0; rw [if_pos (show owe w s N G hb (ps k) = vs k from c70)]) | exact (by unfold fB0; rw [if_neg (show ¬ owe w s N G hb (ps k) = vs k from c70)])) ?_
        refine r_istore (L' := [_, _, _, _, _, _, _]) dX11_isFalse_80 rfl rfl ?_
        refine r_iconst dX11_isFalse_82 ic_0 ?_
        refine r_istore (L' := [_, _, _, _, _, _, _]) dX11_isFalse_83 rfl rfl ?_
        refine JJ.loop G (fun j => [.ref 1, .int (nI k), .int (nI (ps k)), .int (vs k), .int (gLeft w s G (ps k) + lLeft w N (ps k) hb), .int (nI (fBs w s N G hb (ps k) (vs k) j)), .int (nI j)]) (fun j => (I, R)) (fun j => True) rfl rfl trivial (fun hp => ?_) (fun j hj hp K => ?_)
        · skip
          refine r_iload dX11_isFalse_85 rfl ?_
          refine r_aload_n dX11_isFalse_87 rfl ?_
          refine g_getR dX11_isFalse_88 f_X11_66 (Cla.sg (by assumption)) rfl (Cla.f9 (by assumption)) ?_
          refine g_getI dX11_isFalse_91 f_X11_263 (Fam.sg (by assumption)) rfl hf.hG ?_
          refine n_icmp_ge (tgt := 149) dX11_isFalse_94 (by decide) (by omega) (by omega) (fun c94 => ?_) (fun c94 => absurd c94 (by omega))
          refine r_iload dX11_isFalse_149 rfl ?_
          exact g_iret dX11_isFalse_151 (by rw [if_pos c30]) rfl
        · skip
          refine r_iload dX11_isFalse_85 rfl ?_
          refine r_aload_n dX11_isFalse_87 rfl ?_
          refine g_getR dX11_isFalse_88 f_X11_66 (Cla.sg (by assumption)) rfl (Cla.f9 (by assumption)) ?_
          refine g_getI dX11_isFalse_91 f_X11_263 (Fam.sg (by assumption)) rfl hf.hG ?_
          refine n_icmp_ge (tgt := 149) dX11_isFalse_94 (by decide) (by omega) (by omega) (fun c94 => absurd c94 (by omega)) (fun c94 => ?_)
          refine r_aload_n dX11_isFalse_97 rfl ?_
          refine g_getR dX11_isFalse_98 f_X11_26 (Cla.sg (by assumption)) rfl (Cla.f2 (by assumption)) ?_
          refine r_iload dX11_isFalse_101 rfl ?_
          refine r_iload_n dX11_isFalse_103 rfl ?_
          refine r_V2 dX11_isFalse_104 l_X11_266 k_X8_lies i_X8_lies (Sto.sg (Cla.now (by assumption))) ⟨_, rfl⟩ (Nat.le_of_ble_eq_true rfl) (v_X8_lies X _ (by first | assumption | omega) (by first | assumption | omega)) (List.prefix_refl S) ?_
          refine r_ifB_eq (tgt := 143) dX11_isFalse_107 (by decide) (fun c107 => ?_) (fun c107 => ?_)
          · skip
            refine r_iinc (L' := [_, _, _, _, _, _, _]) dX11_isFalse_143 rfl rfl (nI_inc _) rfl ?_
            refine r_goto (tgt := 85) dX11_isFalse_146 (by decide) ?_
            first | exact JJ.to (K trivial) (by rw [fBs_s, if_pos (And.intro c107 c131)]) rfl rfl | exact JJ.to (K trivial) (by rw [fBs_s, if_neg (fun z => c131 z.2)]) rfl rfl | exact JJ.to (K trivial) (by rw [fBs_s, if_neg (fun z => absurd (c107.symm.trans z.1) (by decide))]) rfl rfl
          · skip
            refine r_aload_n dX11_isFalse_110 rfl ?_
            refine g_getR dX11_isFalse_111 f_X11_66 (Cla.sg (by assumption)) rfl (Cla.f9 (by assumption)) ?_
            refine r_iload_n dX11_isFalse_114 rfl ?_
            refine r_iload dX11_isFalse_115 rfl ?_
            refine r_aload_n dX11_isFalse_117 rfl ?_
            refine g_getR dX11_isFalse_118 f_X11_66 (Cla.sg (by assumption)) rfl (Cla.f9 (by assumption)) ?_
            refine r_iload dX11_isFalse_121 rfl ?_
            refine r_V1 dX11_isFalse_123 l_X11_269 k_X1_countOf i_X1_countOf (Fam.sg (by assumption)) ⟨_, rfl⟩ (Nat.le_of_ble_eq_true rfl) (v_X1_countOf X _ (by first | assumption | omega) (by first | assumption | omega)) (List.prefix_refl S) ?_
            refine r_isub dX11_isFalse_126 ?_
            refine r_S3 dX11_isFalse_127 l_X11_259 k_X0_onLeft s_X0_onLeft (Nat.le_of_ble_eq_true rfl) (v_X0_onLeft X _ (by first | assumption | omega) (by first | assumption | omega)) (List.prefix_refl S) ?_
            refine r_iload_n dX11_isFalse_130 rfl ?_
            refine r_icmp_ne (tgt := 143) dX11_isFalse_131 (by decide) (fun c131 => ?_) (fun c131 => ?_)
            · skip
              refine r_iinc (L' := [_, _, _, _, _, _, _]) dX11_isFalse_143 rfl rfl (nI_inc _) rfl ?_
              refine r_goto (tgt := 85) dX11_isFalse_146 (by decide) ?_
              first | exact JJ.to (K trivial) (by rw [fBs_s, if_pos (And.intro c107 c131)]) rfl rfl | exact JJ.to (K trivial) (by rw [fBs_s, if_neg (fun z => c131 z.2)]) rfl rfl | exact JJ.to (K trivial) (by rw [fBs_s, if_neg (fun z => absurd (c107.symm.trans z.1) (by decide))]) rfl rfl
            · skip
              refine r_iload dX11_isFalse_134 rfl ?_
              refine r_iconst dX11_isFalse_136 ic_1 ?_
              refine r_iload dX11_isFalse_137 rfl ?_
              refine r_ishl dX11_isFalse_139 ?_
              refine g_top (shl1 (by omega)) ?_
              refine r_ior dX11_isFalse_140 ?_
              refine g_top (nI_or _ _) ?_
              refine r_istore (L' := [_, _, _, _, _, _, _]) dX11_isFalse_141 rfl rfl ?_
              refine r_iinc (L' := [_, _, _, _, _, _, _]) dX11_isFalse_143 rfl rfl (nI_inc _) rfl ?_
              refine r_goto (tgt := 85) dX11_isFalse_146 (by decide) ?_
              first | exact JJ.to (K trivial) (by rw [fBs_s, if_pos (And.intro c107 c131)]) rfl rfl | exact JJ.to (K trivial) (by rw [fBs_s, if_neg (fun z => c131 z.2)]) rfl rfl | exact JJ.to (K trivial) (by rw [fBs_s, if_neg (fun z => absurd (c107.symm.trans z.1) (by decide))]) rfl rfl
    · skip
      refine r_bipush dX11_isFalse_33 bp_m2 ?_
      exact g_iret dX11_isFalse_35 (by rw [if_neg (by rw [c30]; decide)]) rfl
  · rw [onP_f c8]
    refine r_iconst dX11_isFalse_11 ic_m1 ?_
    exact g_iret dX11_isFalse_12 rfl rfl

set_option maxHeartbeats 4000000 in
set_option maxRecDepth 100000 in
theorem v_X11_loved_t (X : mCx) (d : Nat) {S : mSh} {I : mI} {R : mR} {w s vs : Nat → Int32} {ps : Nat → Nat} {N G hb pb f dr m : Nat} {z : Int32} {k j : Nat} (hc : Cla S R f dr) (hf : Fam S I R f w N G) (hst : Std S I R 6 s N G hb pb) (hm : I 70 2 = nI m) (h6 : m ≤ 6) (hsw : ∀ k, k < m → I 71 k = nI (ps k) ∧ ps k < N ∧ I 72 k = vs k) (hk : k < m) (hj : j < N) (hkj : ps k ≠ j) (hz : isA z = true) : CC X (d + 5) M_X11_loved [.ref 1, .int (nI k), .int (nI j), .int z] S (I, R) (some (.int (if hb.testBit (ps k) = true ∧ hb.testBit j = true then (if z = nI 0 then nI (lvQ w (ps k) (gLeft w s G (ps k) + lLeft w N (ps k) hb - w (53 + (6 * ps k + j))) (vs k) 21).1 else (lvQ w (ps k) (gLeft w s G (ps k) + lLeft w N (ps k) hb - w (53 + (6 * ps k + j))) (vs k) 21).2) else -2))) S (I, R) := by
  have hG8 := hst.G8
  have hN6 := hst.N6
  have h256 := hst.h256
  have p256 := hst.p256
  have hund := hc.und
  have hkep := hc.kep
  have hoat := hc.oat
  have hord := hc.ord
  have htxt := hc.txt
  have htwo := hc.two
  have hgif := hc.gif
  have htri := hc.tri
  have hnow := hc.now
  have hps := (hsw k hk).2.1
  refine CC.of2 (L := [.ref 1, .int (nI k), .int (nI j), .int z, .retAddr 0, .retAddr 0, .retAddr 0, .retAddr 0, .retAddr 0]) p_X11 (Nat.le_of_ble_eq_true rfl) rfl rfl (List.prefix_refl S) ?_
  refine r_aload_n dX11_loved_0 rfl ?_
  refine g_getR dX11_loved_1 f_X11_48 (Cla.sg (by assumption)) rfl (Cla.f6 (by assumption)) ?_
  refine r_iload_n dX11_loved_4 rfl ?_
  refine r_V1 dX11_loved_5 l_X11_247 k_X3_holds i_X3_holds (Oat.sg (Cla.oat (by assumption))) ⟨_, rfl⟩ (Nat.le_of_ble_eq_true rfl) (v_X3_holds X _ (by first | assumption | omega) (by first | assumption | omega)) (List.prefix_refl S) ?_
  refine r_ifB_eq (tgt := 34) dX11_loved_8 (by decide) (fun c8 => absurd (isP_n hk (by omega)) (by rw [c8]; decide)) (fun c8 => ?_)
  refine r_aload_n dX11_loved_11 rfl ?_
  refine r_aload_n dX11_loved_12 rfl ?_
  refine g_getR dX11_loved_13 f_X11_48 (Cla.sg (by assumption)) rfl (Cla.f6 (by assumption)) ?_
  refine r_iload_n dX11_loved_16 rfl ?_
  refine r_V1 dX11_loved_17 l_X11_250 k_X3_swearer i_X3_swearer (Oat.sg (Cla.oat (by assumption))) ⟨_, rfl⟩ (Nat.le_of_ble_eq_true rfl) (v_X3_swearer X _ (by first | assumption | omega) (by first | assumption | omega)) (List.prefix_refl S) ?_
  rw [(hsw k hk).1]
  refine r_iload_n dX11_loved_20 rfl ?_
  refine r_V2 dX11_loved_21 l_X11_146 k_X11_isPair i_X11_isPair (Cla.sg (by assumption)) ⟨_, rfl⟩ (Nat.le_of_ble_eq_true rfl) (v_X11_isPair X _ (by first | assumption | omega) (by first | assumption | omega)) (List.prefix_refl S) ?_
  refine r_ifB_eq (tgt := 34) dX11_loved_24 (by decide) (fun c24 => absurd (twoP_n hps hj (by omega) hkj) (by rw [c24]; decide)) (fun c24 => ?_)
  refine r_iload_n dX11_loved_27 rfl ?_
  refine r_S1 dX11_loved_28 l_X11_217 k_X11_isAsked s_X11_isAsked (Nat.le_of_ble_eq_true rfl) (v_X11_isAsked X _ ) (List.prefix_refl S) ?_
  refine r_ifB_ne (tgt := 36) dX11_loved_31 (by decide) (fun c31 => ?_) (fun c31 => absurd hz (by rw [c31]; decide))
  refine r_aload_n dX11_loved_36 rfl ?_
  refine g_getR dX11_loved_37 f_X11_48 (Cla.sg (by assumption)) rfl (Cla.f6 (by assumption)) ?_
  refine r_iload_n dX11_loved_40 rfl ?_
  refine r_V1 dX11_loved_41 l_X11_250 k_X3_swearer i_X3_swearer (Oat.sg (Cla.oat (by assumption))) ⟨_, rfl⟩ (Nat.le_of_ble_eq_true rfl) (v_X3_swearer X _ (by first | assumption | omega) (by first | assumption | omega)) (List.prefix_refl S) ?_
  rw [(hsw k hk).1]
  refine r_istore (L' := [_, _, _, _, _, _, _, _, _]) dX11_loved_44 rfl rfl ?_
  refine r_aload_n dX11_loved_46 rfl ?_
  refine r_iload dX11_loved_47 rfl ?_
  refine r_iload_n dX11_loved_49 rfl ?_
  refine r_V2 dX11_loved_50 l_X11_188 k_X11_areHere i_X11_areHere (Cla.sg (by assumption)) ⟨_, rfl⟩ (Nat.le_of_ble_eq_true rfl) (v_X11_areHere X _ (by first | assumption | omega) (by first | assumption | omega) (by first | assumption | omega) (by first | assumption | omega)) (List.prefix_refl S) ?_
  refine r_ifB_ne (tgt := 59) dX11_loved_53 (by decide) (fun c53 => ?_) (fun c53 => ?_)
  · skip
    have c53 := Bool.and_eq_true_iff.mp c53
    rw [if_pos c53]
    refine r_aload_n dX11_loved_59 rfl ?_
    refine g_getR dX11_loved_60 f_X11_66 (Cla.sg (by assumption)) rfl (Cla.f9 (by assumption)) ?_
    refine r_aload_n dX11_loved_63 rfl ?_
    refine g_getR dX11_loved_64 f_X11_26 (Cla.sg (by assumption)) rfl (Cla.f2 (by assumption)) ?_
    refine r_iload dX11_loved_67 rfl ?_
    refine r_S3 dX11_loved_69 l_X11_256 k_X0_left s_X0_left (Nat.le_of_ble_eq_true rfl) (v_X0_left X _ (by first | assumption | omega) (by first | assumption | omega) (by first | assumption | omega)) (List.prefix_refl S) ?_
    refine r_aload_n dX11_loved_72 rfl ?_
    refine g_getR dX11_loved_73 f_X11_66 (Cla.sg (by assumption)) rfl (Cla.f9 (by assumption)) ?_
    refine r_iload dX11_loved_76 rfl ?_
    refine r_iload_n dX11_loved_78 rfl ?_
    refine r_V2 dX11_loved_79 l_X11_150 k_X1_loveOf i_X1_loveOf (Fam.sg (by assumption)) ⟨_, rfl⟩ (Nat.le_of_ble_eq_true rfl) (v_X1_loveOf X _ (by first | assumption | omega) (by first | assumption | omega) (by first | assumption | omega)) (List.prefix_refl S) ?_
    refine r_isub dX11_loved_82 ?_
    refine r_istore (L' := [_, _, _, _, _, _, _, _, _]) dX11_loved_83 rfl rfl ?_
    refine r_iconst dX11_loved_85 ic_0 ?_
    refine r_istore (L' := [_, _, _, _, _, _, _, _, _]) dX11_loved_86 rfl rfl ?_
    refine r_bipush dX11_loved_88 bp_m4 ?_
    refine r_istore (L' := [_, _, _, _, _, _, _, _, _]) dX11_loved_90 rfl rfl ?_
    refine r_bipush dX11_loved_92 bp_20 ?_
    refine r_istore (L' := [_, _, _, _, _, _, _, _, _]) dX11_loved_94 rfl rfl ?_
    refine JJ.loop 21 (fun q => [.ref 1, .int (nI k), .int (nI j), .int z, .int (nI (ps k)), .int (gLeft w s G (ps k) + lLeft w N (ps k) hb - w (53 + (6 * ps k + j))), .int (nI (lvQ w (ps k) (gLeft w s G (ps k) + lLeft w N (ps k) hb - w (53 + (6 * ps k + j))) (vs k) q).1), .int (lvQ w (ps k) (gLeft w s G (ps k) + lLeft w N (ps k) hb - w (53 + (6 * ps k + j))) (vs k) q).2, .int (dn q)]) (fun q => (I, R)) (fun q => True) (by simp [dn, nI_0, lvQ, nFold]) rfl trivial (fun hp => ?_) (fun q hq hp K => ?_)
    · skip
      refine r_iload dX11_loved_96 rfl ?_
      refine r_if_lt (tgt := 139) dX11_loved_98 (by decide) (fun c98 => ?_) (fun c98 => absurd dn_lt c98)
      refine r_iload_n dX11_loved_139 rfl ?_
      refine r_if_ne (tgt := 148) dX11_loved_140 (by decide) (fun c140 => ?_) (fun c140 => ?_)
      · have c140 : ¬ z = nI 0 := (by rw [nI_0]; exact c140); rw [if_neg c140]
        refine r_iload dX11_loved_148 rfl ?_
        exact g_iret dX11_loved_150 rfl rfl
      · have c140 : z = nI 0 := (by rw [nI_0]; exact c140); rw [if_pos c140]
        refine r_iload dX11_loved_143 rfl ?_
        refine r_goto (tgt := 150) dX11_loved_145 (by decide) ?_
        exact g_iret dX11_loved_150 rfl rfl
    · skip
      refine r_iload dX11_loved_96 rfl ?_
      refine r_if_lt (tgt := 139) dX11_loved_98 (by decide) (fun c98 => absurd c98 (dn_nlt hq)) (fun c98 => ?_)
      refine r_aload_n dX11_loved_101 rfl ?_
      refine g_getR dX11_loved_102 f_X11_66 (Cla.sg (by assumption)) rfl (Cla.f9 (by assumption)) ?_
      refine r_iload dX11_loved_105 rfl ?_
      refine r_iload dX11_loved_107 rfl ?_
      refine r_iload dX11_loved_109 rfl ?_
      refine r_iadd dX11_loved_111 ?_
      refine r_S3 dX11_loved_112 l_X11_259 k_X0_onLeft s_X0_onLeft (Nat.le_of_ble_eq_true rfl) (v_X0_onLeft X _ (by first | assumption | omega) (by first | assumption | omega)) (List.prefix_refl S) ?_
      refine r_aload_n dX11_loved_115 rfl ?_
      refine g_getR dX11_loved_116 f_X11_48 (Cla.sg (by assumption)) rfl (Cla.f6 (by assumption)) ?_
      refine r_iload_n dX11_loved_119 rfl ?_
      refine r_V1 dX11_loved_120 l_X11_253 k_X3_sum i_X3_sum (Oat.sg (Cla.oat (by assumption))) ⟨_, rfl⟩ (Nat.le_of_ble_eq_true rfl) (v_X3_sum X _ (by first | assumption | omega) (by first | assumption | omega)) (List.prefix_refl S) ?_
      rw [(hsw k hk).2.2]
      refine r_icmp_ne (tgt := 133) dX11_loved_123 (by decide) (fun c123 => ?_) (fun c123 => ?_)
      · skip
        refine r_iinc (L' := [_, _, _, _, _, _, _, _, _]) dX11_loved_133 rfl rfl rfl rfl ?_
        refine r_goto (tgt := 96) dX11_loved_136 (by decide) ?_
        first | exact JJ.to (K trivial) (by rw [lvQ_s, if_pos c123, dn_s hq]) rfl rfl | exact JJ.to (K trivial) (by rw [lvQ_s, if_neg c123, dn_s hq]) rfl rfl
      · skip
        refine r_iinc (L' := [_, _, _, _, _, _, _, _, _]) dX11_loved_126 rfl rfl (nI_inc _) rfl ?_
        refine r_iload dX11_loved_129 rfl ?_
        refine r_istore (L' := [_, _, _, _, _, _, _, _, _]) dX11_loved_131 rfl rfl ?_
        refine r_iinc (L' := [_, _, _, _, _, _, _, _, _]) dX11_loved_133 rfl rfl rfl rfl ?_
        refine r_goto (tgt := 96) dX11_loved_136 (by decide) ?_
        first | exact JJ.to (K trivial) (by rw [lvQ_s, if_pos c123, dn_s hq]) rfl rfl | exact JJ.to (K trivial) (by rw [lvQ_s, if_neg c123, dn_s hq]) rfl rfl
  · skip
    refine r_bipush dX11_loved_56 bp_m2 ?_
    exact g_iret dX11_loved_58 (by rw [if_neg (fun q => absurd c53 (by rw [q.1, q.2]; decide))]) rfl

set_option maxHeartbeats 4000000 in
set_option maxRecDepth 100000 in
theorem v_X11_loved_f (X : mCx) (d : Nat) {S : mSh} {I : mI} {R : mR} {w s vs : Nat → Int32} {ps : Nat → Nat} {N G hb pb f dr m : Nat} {x y z : Int32} (hc : Cla S R f dr) (hf : Fam S I R f w N G) (hst : Std S I R 6 s N G hb pb) (hm : I 70 2 = nI m) (h6 : m ≤ 6) (hsw : ∀ k, k < m → I 71 k = nI (ps k) ∧ ps k < N ∧ I 72 k = vs k) (hx : isP m x = false ∨ (∃ k, k < m ∧ x = nI k ∧ twoP N (nI (ps k)) y = false) ∨ isA z = false) : CC X (d + 3) M_X11_loved [.ref 1, .int x, .int y, .int z] S (I, R) (some (.int (-1))) S (I, R) := by
  have hG8 := hst.G8
  have hN6 := hst.N6
  have h256 := hst.h256
  have p256 := hst.p256
  have hund := hc.und
  have hkep := hc.kep
  have hoat := hc.oat
  have hord := hc.ord
  have htxt := hc.txt
  have htwo := hc.two
  have hgif := hc.gif
  have htri := hc.tri
  have hnow := hc.now
  refine CC.of2 (L := [.ref 1, .int x, .int y, .int z, .retAddr 0, .retAddr 0, .retAddr 0, .retAddr 0, .retAddr 0]) p_X11 (Nat.le_of_ble_eq_true rfl) rfl rfl (List.prefix_refl S) ?_
  refine r_aload_n dX11_loved_0 rfl ?_
  refine g_getR dX11_loved_1 f_X11_48 (Cla.sg (by assumption)) rfl (Cla.f6 (by assumption)) ?_
  refine r_iload_n dX11_loved_4 rfl ?_
  refine r_V1 dX11_loved_5 l_X11_247 k_X3_holds i_X3_holds (Oat.sg (Cla.oat (by assumption))) ⟨_, rfl⟩ (Nat.le_of_ble_eq_true rfl) (v_X3_holds X _ (by first | assumption | omega) (by first | assumption | omega)) (List.prefix_refl S) ?_
  refine r_ifB_eq (tgt := 34) dX11_loved_8 (by decide) (fun c8 => ?_) (fun c8 => ?_)
  · skip
    refine r_iconst dX11_loved_34 ic_m1 ?_
    exact g_iret dX11_loved_35 rfl rfl
  · obtain ⟨k, hk, rfl⟩ := isP_t c8 (by omega); have hps := (hsw k hk).2.1
    refine r_aload_n dX11_loved_11 rfl ?_
    refine r_aload_n dX11_loved_12 rfl ?_
    refine g_getR dX11_loved_13 f_X11_48 (Cla.sg (by assumption)) rfl (Cla.f6 (by assumption)) ?_
    refine r_iload_n dX11_loved_16 rfl ?_
    refine r_V1 dX11_loved_17 l_X11_250 k_X3_swearer i_X3_swearer (Oat.sg (Cla.oat (by assumption))) ⟨_, rfl⟩ (Nat.le_of_ble_eq_true rfl) (v_X3_swearer X _ (by first | assumption | omega) (by first | assumption | omega)) (List.prefix_refl S) ?_
    rw [(hsw k hk).1]
    refine r_iload_n dX11_loved_20 rfl ?_
    refine r_V2 dX11_loved_21 l_X11_146 k_X11_isPair i_X11_isPair (Cla.sg (by assumption)) ⟨_, rfl⟩ (Nat.le_of_ble_eq_true rfl) (v_X11_isPair X _ (by first | assumption | omega) (by first | assumption | omega)) (List.prefix_refl S) ?_
    refine r_ifB_eq (tgt := 34) dX11_loved_24 (by decide) (fun c24 => ?_) (fun c24 => ?_)
    · skip
      refine r_iconst dX11_loved_34 ic_m1 ?_
      exact g_iret dX11_loved_35 rfl rfl
    · skip
      refine r_iload_n dX11_loved_27 rfl ?_
      refine r_S1 dX11_loved_28 l_X11_217 k_X11_isAsked s_X11_isAsked (Nat.le_of_ble_eq_true rfl) (v_X11_isAsked X _ ) (List.prefix_refl S) ?_
      refine r_ifB_ne (tgt := 36) dX11_loved_31 (by decide) (fun c31 => (by exfalso; rcases hx with q | ⟨k1, hk1, e, q⟩ | q <;> first | exact absurd q (by rw [c8]; decide) | exact absurd q (by rw [c31]; decide) | (have e := (nI_eq (by omega) (by omega)).mp e; subst e; exact absurd q (by rw [c24]; decide)))) (fun c31 => ?_)
      refine r_iconst dX11_loved_34 ic_m1 ?_
      exact g_iret dX11_loved_35 rfl rfl

