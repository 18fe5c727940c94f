set_option maxHeartbeats 4000000 in
set_option maxRecDepth 100000 in
theorem v_X0_worth (X : mCx) (d : Nat) {S : mSh} {I : mI} {R : mR} {w : Nat → Int32} {N G : Nat} {f b : Nat} (hf : Fam S I R f w N G) (hb : b < 256) : CC X (d + 3) M_X0_worth [.ref f, .int (nI b)] S (I, R) (some (.int (wthB w G b))) S (I, R) := by
  have hG8 := hf.G8
  refine CC.of2 (L := [.ref f, .int (nI b), .retAddr 0, .retAddr 0]) p_X0 (Nat.le_of_ble_eq_true rfl) rfl rfl (List.prefix_refl S) ?_
  refine r_iconst dX0_worth_0 ic_0 ?_
  refine r_istore_n (L' := [_, _, _, _]) dX0_worth_1 rfl rfl ?_
  refine r_iconst dX0_worth_2 ic_0 ?_
  refine r_istore_n (L' := [_, _, _, _]) dX0_worth_3 rfl rfl ?_
  refine JJ.loop G (fun j => [.ref f, .int (nI b), .int (wthB w j b), .int (nI j)]) (fun j => (I, R)) (fun j => True) (by simp [nI_0, nSum, wthB]) rfl trivial (fun hp => ?_) (fun j hj hp K => ?_)
  · skip
    refine r_iload_n dX0_worth_4 rfl ?_
    refine r_aload_n dX0_worth_5 rfl ?_
    refine g_getI dX0_worth_6 f_X0_9 (Fam.sg (by assumption)) rfl hf.hG ?_
    refine n_icmp_ge (tgt := 39) dX0_worth_9 (by decide) (by omega) (by omega) (fun c9 => ?_) (fun c9 => absurd c9 (by omega))
    refine r_iload_n dX0_worth_39 rfl ?_
    exact g_iret dX0_worth_40 rfl rfl
  · skip
    refine r_iload_n dX0_worth_4 rfl ?_
    refine r_aload_n dX0_worth_5 rfl ?_
    refine g_getI dX0_worth_6 f_X0_9 (Fam.sg (by assumption)) rfl hf.hG ?_
    refine n_icmp_ge (tgt := 39) dX0_worth_9 (by decide) (by omega) (by omega) (fun c9 => absurd c9 (by omega)) (fun c9 => ?_)
    refine r_iload_n dX0_worth_12 rfl ?_
    refine r_iload_n dX0_worth_13 rfl ?_
    refine r_iload_n dX0_worth_14 rfl ?_
    refine r_ishr dX0_worth_15 ?_
    refine r_iconst dX0_worth_16 ic_1 ?_
    refine r_iand dX0_worth_17 ?_
    refine g_top (bitv hb (by omega)) ?_
    refine r_iconst dX0_worth_18 ic_1 ?_
    refine r_icmp_ne (tgt := 30) dX0_worth_19 (by decide) (fun c19 => ?_) (fun c19 => ?_)
    · have c19 : b.testBit j = false := by simpa [bI_n1] using c19
      refine r_iconst dX0_worth_30 ic_0 ?_
      refine r_iadd dX0_worth_31 ?_
      refine r_istore_n (L' := [_, _, _, _]) dX0_worth_32 rfl rfl ?_
      refine r_iinc (L' := [_, _, _, _]) dX0_worth_33 rfl rfl (nI_inc _) rfl ?_
      refine r_goto (tgt := 4) dX0_worth_36 (by decide) ?_
      exact JJ.to (K trivial) (by simp [wthB, nSum, nI_0, *]) rfl rfl
    · have c19 : b.testBit j = true := bI_n1.mp c19
      refine r_aload_n dX0_worth_22 rfl ?_
      refine r_iload_n dX0_worth_23 rfl ?_
      refine r_V1 dX0_worth_24 l_X0_15 k_X1_countOf i_X1_countOf (Fam.sg (by assumption)) ⟨_, rfl⟩ (Nat.le_of_ble_eq_true rfl) (v_X1_countOf X _ (by first | assumption | omega) (by first | assumption | omega)) (List.prefix_refl S) ?_
      refine r_goto (tgt := 31) dX0_worth_27 (by decide) ?_
      refine r_iadd dX0_worth_31 ?_
      refine r_istore_n (L' := [_, _, _, _]) dX0_worth_32 rfl rfl ?_
      refine r_iinc (L' := [_, _, _, _]) dX0_worth_33 rfl rfl (nI_inc _) rfl ?_
      refine r_goto (tgt := 4) dX0_worth_36 (by decide) ?_
      exact JJ.to (K trivial) (by simp [wthB, nSum, nI_0, *]) rfl rfl

set_option maxHeartbeats 4000000 in
set_option maxRecDepth 100000 in
theorem v_X0_load (X : mCx) (d : Nat) {S : mSh} {I : mI} {R : mR} {w : Nat → Int32} {N G : Nat} {f b : Nat} (hf : Fam S I R f w N G) (hb : b < 256) : CC X (d + 3) M_X0_load [.ref f, .int (nI b)] S (I, R) (some (.int (lodB w G b))) S (I, R) := by
  have hG8 := hf.G8
  refine CC.of2 (L := [.ref f, .int (nI b), .retAddr 0, .retAddr 0]) p_X0 (Nat.le_of_ble_eq_true rfl) rfl rfl (List.prefix_refl S) ?_
  refine r_iconst dX0_load_0 ic_0 ?_
  refine r_istore_n (L' := [_, _, _, _]) dX0_load_1 rfl rfl ?_
  refine r_iconst dX0_load_2 ic_0 ?_
  refine r_istore_n (L' := [_, _, _, _]) dX0_load_3 rfl rfl ?_
  refine JJ.loop G (fun j => [.ref f, .int (nI b), .int (lodB w j b), .int (nI j)]) (fun j => (I, R)) (fun j => True) (by simp [nI_0, nSum, lodB]) rfl trivial (fun hp => ?_) (fun j hj hp K => ?_)
  · skip
    refine r_iload_n dX0_load_4 rfl ?_
    refine r_aload_n dX0_load_5 rfl ?_
    refine g_getI dX0_load_6 f_X0_9 (Fam.sg (by assumption)) rfl hf.hG ?_
    refine n_icmp_ge (tgt := 39) dX0_load_9 (by decide) (by omega) (by omega) (fun c9 => ?_) (fun c9 => absurd c9 (by omega))
    refine r_iload_n dX0_load_39 rfl ?_
    exact g_iret dX0_load_40 rfl rfl
  · skip
    refine r_iload_n dX0_load_4 rfl ?_
    refine r_aload_n dX0_load_5 rfl ?_
    refine g_getI dX0_load_6 f_X0_9 (Fam.sg (by assumption)) rfl hf.hG ?_
    refine n_icmp_ge (tgt := 39) dX0_load_9 (by decide) (by omega) (by omega) (fun c9 => absurd c9 (by omega)) (fun c9 => ?_)
    refine r_iload_n dX0_load_12 rfl ?_
    refine r_iload_n dX0_load_13 rfl ?_
    refine r_iload_n dX0_load_14 rfl ?_
    refine r_ishr dX0_load_15 ?_
    refine r_iconst dX0_load_16 ic_1 ?_
    refine r_iand dX0_load_17 ?_
    refine g_top (bitv hb (by omega)) ?_
    refine r_iconst dX0_load_18 ic_1 ?_
    refine r_icmp_ne (tgt := 30) dX0_load_19 (by decide) (fun c19 => ?_) (fun c19 => ?_)
    · have c19 : b.testBit j = false := by simpa [bI_n1] using c19
      refine r_iconst dX0_load_30 ic_0 ?_
      refine r_iadd dX0_load_31 ?_
      refine r_istore_n (L' := [_, _, _, _]) dX0_load_32 rfl rfl ?_
      refine r_iinc (L' := [_, _, _, _]) dX0_load_33 rfl rfl (nI_inc _) rfl ?_
      refine r_goto (tgt := 4) dX0_load_36 (by decide) ?_
      exact JJ.to (K trivial) (by simp [lodB, nSum, nI_0, *]) rfl rfl
    · have c19 : b.testBit j = true := bI_n1.mp c19
      refine r_aload_n dX0_load_22 rfl ?_
      refine r_iload_n dX0_load_23 rfl ?_
      refine r_V1 dX0_load_24 l_X0_19 k_X1_heavyOf i_X1_heavyOf (Fam.sg (by assumption)) ⟨_, rfl⟩ (Nat.le_of_ble_eq_true rfl) (v_X1_heavyOf X _ (by first | assumption | omega) (by first | assumption | omega)) (List.prefix_refl S) ?_
      refine r_goto (tgt := 31) dX0_load_27 (by decide) ?_
      refine r_iadd dX0_load_31 ?_
      refine r_istore_n (L' := [_, _, _, _]) dX0_load_32 rfl rfl ?_
      refine r_iinc (L' := [_, _, _, _]) dX0_load_33 rfl rfl (nI_inc _) rfl ?_
      refine r_goto (tgt := 4) dX0_load_36 (by decide) ?_
      exact JJ.to (K trivial) (by simp [lodB, nSum, nI_0, *]) rfl rfl

set_option maxHeartbeats 4000000 in
set_option maxRecDepth 100000 in
theorem v_X0_owedPacking (X : mCx) (d : Nat) {S : mSh} {I : mI} {R : mR} {w s : Nat → Int32} {N G hb pb : Nat} {f a i b : Nat} (hf : Fam S I R f w N G) (hst : Std S I R a s N G hb pb) (hi : i < N) (hb2 : b < 256) : CC X (d + 4) M_X0_owedPacking [.ref f, .ref a, .int (nI i), .int (nI b)] S (I, R) (some (.int (owP w s N G hb i b))) S (I, R) := by
  have hG8 := hst.G8
  have hN6 := hst.N6
  have h256 := hst.h256
  have p256 := hst.p256
  have ho := ownB_256 s (nI i) hG8
  have hd := dif_le (ownB s G (nI i)) b
  refine CC.of2 (L := [.ref f, .ref a, .int (nI i), .int (nI b), .retAddr 0]) p_X0 (Nat.le_of_ble_eq_true rfl) rfl rfl (List.prefix_refl S) ?_
  refine r_aload_n dX0_owedPacking_0 rfl ?_
  refine r_aload_n dX0_owedPacking_1 rfl ?_
  refine r_iload_n dX0_owedPacking_2 rfl ?_
  refine r_V1 dX0_owedPacking_3 l_X0_65 k_X8_owned i_X8_owned (Std.sg (by assumption)) ⟨_, rfl⟩ (Nat.le_of_ble_eq_true rfl) (v_X8_owned X _ (by first | assumption | omega)) (List.prefix_refl S) ?_
  refine r_iload_n dX0_owedPacking_6 rfl ?_
  refine r_iconst dX0_owedPacking_7 ic_m1 ?_
  refine r_ixor dX0_owedPacking_8 ?_
  refine r_iand dX0_owedPacking_9 ?_
  refine g_top (dif_eq (by omega) (by omega)) ?_
  refine r_S2 dX0_owedPacking_10 l_X0_68 k_X0_worth s_X0_worth (Nat.le_of_ble_eq_true rfl) (v_X0_worth X _ (by first | assumption | omega) (by first | assumption | omega)) (List.prefix_refl S) ?_
  refine r_istore (L' := [_, _, _, _, _]) dX0_owedPacking_13 rfl rfl ?_
  refine r_aload_n dX0_owedPacking_15 rfl ?_
  refine r_iload_n dX0_owedPacking_16 rfl ?_
  refine r_iload dX0_owedPacking_17 rfl ?_
  refine r_aload_n dX0_owedPacking_19 rfl ?_
  refine r_iload_n dX0_owedPacking_20 rfl ?_
  refine r_aload_n dX0_owedPacking_21 rfl ?_
  refine g_getI dX0_owedPacking_22 f_X0_46 (Std.sg (by assumption)) rfl hst.here ?_
  refine r_S3 dX0_owedPacking_25 l_X0_51 k_X0_loveLeft s_X0_loveLeft (Nat.le_of_ble_eq_true rfl) (v_X0_loveLeft X _ (by first | assumption | omega) (by first | assumption | omega) (by first | assumption | omega)) (List.prefix_refl S) ?_
  refine r_iadd dX0_owedPacking_28 ?_
  refine r_S3 dX0_owedPacking_29 l_X0_59 k_X0_onLeft s_X0_onLeft (Nat.le_of_ble_eq_true rfl) (v_X0_onLeft X _ (by first | assumption | omega) (by first | assumption | omega)) (List.prefix_refl S) ?_
  exact g_iret dX0_owedPacking_32 rfl rfl

set_option maxHeartbeats 4000000 in
set_option maxRecDepth 100000 in
theorem v_X0_bestLoad (X : mCx) (d : Nat) {S : mSh} {I : mI} {R : mR} {w s : Nat → Int32} {N G hb pb : Nat} {f a i : Nat} (hf : Fam S I R f w N G) (hst : Std S I R a s N G hb pb) (hi : i < N) : CC X (d + 5) M_X0_bestLoad [.ref f, .ref a, .int (nI i)] S (I, R) (some (.int (nI (blF w s N G hb i 255).1))) S (I, R) := by
  have hG8 := hst.G8
  have hN6 := hst.N6
  have h256 := hst.h256
  have p256 := hst.p256
  have ho := ownB_256 s (nI i) hG8
  refine CC.of2 (L := [.ref f, .ref a, .int (nI i), .retAddr 0, .retAddr 0, .retAddr 0, .retAddr 0, .retAddr 0]) p_X0 (Nat.le_of_ble_eq_true rfl) rfl rfl (List.prefix_refl S) ?_
  refine r_aload_n dX0_bestLoad_0 rfl ?_
  refine r_iload_n dX0_bestLoad_1 rfl ?_
  refine r_V1 dX0_bestLoad_2 l_X0_65 k_X8_owned i_X8_owned (Std.sg (by assumption)) ⟨_, rfl⟩ (Nat.le_of_ble_eq_true rfl) (v_X8_owned X _ (by first | assumption | omega)) (List.prefix_refl S) ?_
  refine r_istore_n (L' := [_, _, _, _, _, _, _, _]) dX0_bestLoad_5 rfl rfl ?_
  refine r_iconst dX0_bestLoad_6 ic_0 ?_
  refine r_istore (L' := [_, _, _, _, _, _, _, _]) dX0_bestLoad_7 rfl rfl ?_
  refine JJ.loop G (fun j => [.ref f, .ref a, .int (nI i), .int (nI (mineB w s j G i)), .int (nI j), .retAddr 0, .retAddr 0, .retAddr 0]) (fun j => (I, R)) (fun j => True) rfl rfl trivial (fun hp => ?_) (fun j hj hp K => ?_)
  · skip
    refine r_iload dX0_bestLoad_9 rfl ?_
    refine r_aload_n dX0_bestLoad_11 rfl ?_
    refine g_getI dX0_bestLoad_12 f_X0_9 (Fam.sg (by assumption)) rfl hf.hG ?_
    refine n_icmp_ge (tgt := 47) dX0_bestLoad_15 (by decide) (by omega) (by omega) (fun c15 => ?_) (fun c15 => absurd c15 (by omega))
    refine r_iconst dX0_bestLoad_47 ic_0 ?_
    refine r_istore (L' := [_, _, _, _, _, _, _, _]) dX0_bestLoad_48 rfl rfl ?_
    refine r_aload_n dX0_bestLoad_50 rfl ?_
    refine r_aload_n dX0_bestLoad_51 rfl ?_
    refine r_iload_n dX0_bestLoad_52 rfl ?_
    refine r_iconst dX0_bestLoad_53 ic_0 ?_
    refine r_S4 dX0_bestLoad_54 l_X0_75 k_X0_owedPacking s_X0_owedPacking (Nat.le_of_ble_eq_true rfl) (v_X0_owedPacking X _ (by first | assumption | omega) (by first | assumption | omega) (by first | assumption | omega) (by first | assumption | omega)) (List.prefix_refl S) ?_
    refine r_istore (L' := [_, _, _, _, _, _, _, _]) dX0_bestLoad_57 rfl rfl ?_
    refine r_iconst dX0_bestLoad_59 ic_1 ?_
    refine r_istore (L' := [_, _, _, _, _, _, _, _]) dX0_bestLoad_60 rfl rfl ?_
    refine JJ.loop 255 (fun j => [.ref f, .ref a, .int (nI i), .int (nI (mineB w s G G i)), .int (nI (blF w s N G hb i j).1), .int (blF w s N G hb i j).2, .int (nI (j + 1)), .retAddr 0]) (fun j => (I, R)) (fun j => True) rfl rfl trivial (fun hp => ?_) (fun j hj hp K => ?_)
    · skip
      refine r_iload dX0_bestLoad_62 rfl ?_
      refine r_sipush dX0_bestLoad_64 sp_256 ?_
      refine n_icmp_ge (tgt := 134) dX0_bestLoad_67 (by decide) (by omega) (by omega) (fun c67 => ?_) (fun c67 => absurd c67 (by omega))
      refine r_iload dX0_bestLoad_134 rfl ?_
      exact g_iret dX0_bestLoad_136 rfl rfl
    · have hm := mineB_lt w s (i := i) hG8 G; have hdl := dif_le (j + 1) (mineB w s G G i)
      refine r_iload dX0_bestLoad_62 rfl ?_
      refine r_sipush dX0_bestLoad_64 sp_256 ?_
      refine n_icmp_ge (tgt := 134) dX0_bestLoad_67 (by decide) (by omega) (by omega) (fun c67 => absurd c67 (by omega)) (fun c67 => ?_)
      refine r_iload dX0_bestLoad_70 rfl ?_
      refine r_iload_n dX0_bestLoad_72 rfl ?_
      refine r_iconst dX0_bestLoad_73 ic_m1 ?_
      refine r_ixor dX0_bestLoad_74 ?_
      refine r_iand dX0_bestLoad_75 ?_
      refine g_top (dif_eq (by omega) (by omega)) ?_
      refine n_if_ne (tgt := 128) dX0_bestLoad_76 (by decide) (by omega) (fun c76 => ?_) (fun c76 => ?_)
      · skip
        refine r_iinc (L' := [_, _, _, _, _, _, _, _]) dX0_bestLoad_128 rfl rfl (nI_inc _) rfl ?_
        refine r_goto (tgt := 62) dX0_bestLoad_131 (by decide) ?_
        exact JJ.wk_at 7 (JJ.to (K trivial) (by simp only [blF_s, blS]; simp [*]) rfl rfl)
      · skip
        refine r_aload_n dX0_bestLoad_79 rfl ?_
        refine r_iload dX0_bestLoad_80 rfl ?_
        refine r_S2 dX0_bestLoad_82 l_X0_79 k_X0_load s_X0_load (Nat.le_of_ble_eq_true rfl) (v_X0_load X _ (by first | assumption | omega) (by first | assumption | omega)) (List.prefix_refl S) ?_
        refine r_aload_n dX0_bestLoad_85 rfl ?_
        refine r_iload_n dX0_bestLoad_86 rfl ?_
        refine r_V1 dX0_bestLoad_87 l_X0_82 k_X1_strengthOf i_X1_strengthOf (Fam.sg (by assumption)) ⟨_, rfl⟩ (Nat.le_of_ble_eq_true rfl) (v_X1_strengthOf X _ (by first | assumption | omega) (by first | assumption | omega)) (List.prefix_refl S) ?_
        refine r_icmp_gt (tgt := 128) dX0_bestLoad_90 (by decide) (fun c90 => ?_) (fun c90 => ?_)
        · skip
          refine r_iinc (L' := [_, _, _, _, _, _, _, _]) dX0_bestLoad_128 rfl rfl (nI_inc _) rfl ?_
          refine r_goto (tgt := 62) dX0_bestLoad_131 (by decide) ?_
          exact JJ.wk_at 7 (JJ.to (K trivial) (by simp only [blF_s, blS]; simp [*]) rfl rfl)
        · skip
          refine r_aload_n dX0_bestLoad_93 rfl ?_
          refine r_aload_n dX0_bestLoad_94 rfl ?_
          refine r_iload_n dX0_bestLoad_95 rfl ?_
          refine r_iload dX0_bestLoad_96 rfl ?_
          refine r_S4 dX0_bestLoad_98 l_X0_75 k_X0_owedPacking s_X0_owedPacking (Nat.le_of_ble_eq_true rfl) (v_X0_owedPacking X _ (by first | assumption | omega) (by first | assumption | omega) (by first | assumption | omega) (by first | assumption | omega)) (List.prefix_refl S) ?_
          refine r_istore (L' := [_, _, _, _, _, _, _, _]) dX0_bestLoad_101 rfl rfl ?_
          refine r_iload dX0_bestLoad_103 rfl ?_
          refine r_iload dX0_bestLoad_105 rfl ?_
          refine r_icmp_ge (tgt := 115) dX0_bestLoad_107 (by decide) (fun c107 => ?_) (fun c107 => ?_)
          · skip
            refine r_iload dX0_bestLoad_115 rfl ?_
            refine r_istore (L' := [_, _, _, _, _, _, _, _]) dX0_bestLoad_117 rfl rfl ?_
            refine r_iload dX0_bestLoad_119 rfl ?_
            refine r_iload dX0_bestLoad_121 rfl ?_
            refine r_mmin dX0_bestLoad_123 l_X0_85 (Nat.le_of_ble_eq_true rfl) ?_
            refine r_istore (L' := [_, _, _, _, _, _, _, _]) dX0_bestLoad_126 rfl rfl ?_
            refine r_iinc (L' := [_, _, _, _, _, _, _, _]) dX0_bestLoad_128 rfl rfl (nI_inc _) rfl ?_
            refine r_goto (tgt := 62) dX0_bestLoad_131 (by decide) ?_
            exact JJ.wk_at 7 (JJ.to (K trivial) (by simp only [blF_s, blS]; simp [*]) rfl rfl)
          · skip
            refine r_iload dX0_bestLoad_110 rfl ?_
            refine r_goto (tgt := 117) dX0_bestLoad_112 (by decide) ?_
            refine r_istore (L' := [_, _, _, _, _, _, _, _]) dX0_bestLoad_117 rfl rfl ?_
            refine r_iload dX0_bestLoad_119 rfl ?_
            refine r_iload dX0_bestLoad_121 rfl ?_
            refine r_mmin dX0_bestLoad_123 l_X0_85 (Nat.le_of_ble_eq_true rfl) ?_
            refine r_istore (L' := [_, _, _, _, _, _, _, _]) dX0_bestLoad_126 rfl rfl ?_
            refine r_iinc (L' := [_, _, _, _, _, _, _, _]) dX0_bestLoad_128 rfl rfl (nI_inc _) rfl ?_
            refine r_goto (tgt := 62) dX0_bestLoad_131 (by decide) ?_
            exact JJ.wk_at 7 (JJ.to (K trivial) (by simp only [blF_s, blS]; simp [*]) rfl rfl)
  · have hm := mineB_lt w s (i := i) hG8 j
    refine r_iload dX0_bestLoad_9 rfl ?_
    refine r_aload_n dX0_bestLoad_11 rfl ?_
    refine g_getI dX0_bestLoad_12 f_X0_9 (Fam.sg (by assumption)) rfl hf.hG ?_
    refine n_icmp_ge (tgt := 47) dX0_bestLoad_15 (by decide) (by omega) (by omega) (fun c15 => absurd c15 (by omega)) (fun c15 => ?_)
    refine r_iload_n dX0_bestLoad_18 rfl ?_
    refine r_aload_n dX0_bestLoad_19 rfl ?_
    refine r_iload dX0_bestLoad_20 rfl ?_
    refine r_V1 dX0_bestLoad_22 l_X0_72 k_X1_sortOf i_X1_sortOf (Fam.sg (by assumption)) ⟨_, rfl⟩ (Nat.le_of_ble_eq_true rfl) (v_X1_sortOf X _ (by first | assumption | omega) (by first | assumption | omega)) (List.prefix_refl S) ?_
    refine r_iconst dX0_bestLoad_25 ic_2 ?_
    refine r_icmp_ne (tgt := 38) dX0_bestLoad_26 (by decide) (fun c26 => ?_) (fun c26 => ?_)
    · skip
      refine r_iconst dX0_bestLoad_38 ic_m1 ?_
      refine r_iand dX0_bestLoad_39 ?_
      refine g_top (and_m1 _) ?_
      refine r_istore_n (L' := [_, _, _, _, _, _, _, _]) dX0_bestLoad_40 rfl rfl ?_
      refine r_iinc (L' := [_, _, _, _, _, _, _, _]) dX0_bestLoad_41 rfl rfl (nI_inc _) rfl ?_
      refine r_goto (tgt := 9) dX0_bestLoad_44 (by decide) ?_
      exact JJ.to (K trivial) (by simp [mineB, nFold, *]) rfl rfl
    · skip
      refine r_iconst dX0_bestLoad_29 ic_1 ?_
      refine r_iload dX0_bestLoad_30 rfl ?_
      refine r_ishl dX0_bestLoad_32 ?_
      refine g_top (shl1 (by omega)) ?_
      refine r_iconst dX0_bestLoad_33 ic_m1 ?_
      refine r_ixor dX0_bestLoad_34 ?_
      refine r_goto (tgt := 39) dX0_bestLoad_35 (by decide) ?_
      refine r_iand dX0_bestLoad_39 ?_
      refine g_top (clr_eq (by omega) (by omega)) ?_
      refine r_istore_n (L' := [_, _, _, _, _, _, _, _]) dX0_bestLoad_40 rfl rfl ?_
      refine r_iinc (L' := [_, _, _, _, _, _, _, _]) dX0_bestLoad_41 rfl rfl (nI_inc _) rfl ?_
      refine r_goto (tgt := 9) dX0_bestLoad_44 (by decide) ?_
      exact JJ.to (K trivial) (by simp [mineB, nFold, *]) rfl rfl

def orS (w s : Nat → Int32) (N G : Nat) (T : Nat → Int32) (b i : Nat) (q : Int32 × Int32) : Int32 × Int32 := if clr b i = b ∨ alone w N (clr b i) = true ∨ T (clr b i) = -4 then q else if ¬ q.1 = -4 ∧ q.1 ≤ T (clr b i) + owe w s N G b i then q else (T (clr b i) + owe w s N G b i, nI i)
def orF (w s : Nat → Int32) (N G : Nat) (T : Nat → Int32) (b n : Nat) : Int32 × Int32 := nFold n (fun i q => orS w s N G T b i q) (-4, -4)
theorem orF_s (w s : Nat → Int32) (N G : Nat) (T : Nat → Int32) (b n : Nat) : orF w s N G T b (n + 1) = orS w s N G T b n (orF w s N G T b n) := rfl
set_option maxHeartbeats 4000000 in
set_option maxRecDepth 100000 in
theorem v_X4_least (X : mCx) (d : Nat) {S : mSh} {I : mI} {R : mR} {z k : Nat} (hz : Ord S R z) (hk : k < 64) : CC X (d + 2) M_X4_least [.ref z, .int (nI k)] S (I, R) (some (.int (I (z + 1) k))) S (I, R) := by
  refine CC.of2 (L := [.ref z, .int (nI k)]) p_X4 (Nat.le_of_ble_eq_true rfl) rfl rfl (List.prefix_refl S) ?_
  refine r_aload_n dX4_least_0 rfl ?_
  refine g_getR dX4_least_1 f_X4_9 (Ord.sg (by assumption)) rfl (Ord.r0 (by assumption)) ?_
  refine r_iload_n dX4_least_4 rfl ?_
  refine r_S2 dX4_least_5 l_X4_53 k_X7_get s_X7_get (Nat.le_of_ble_eq_true rfl) (v_X7_get X _ (Ord.s0 (by assumption)) (by omega) (by decide)) (List.prefix_refl S) ?_
  exact g_iret dX4_least_8 rfl rfl

set_option maxHeartbeats 4000000 in
set_option maxRecDepth 100000 in
theorem v_X4_reckonSet (X : mCx) (d : Nat) {S : mSh} {I : mI} {R : mR} {w s : Nat → Int32} {N G hb pb : Nat} {z f a b : Nat} (hz : Ord S R z) (hf : Fam S I R f w N G) (hst : Std S I R a s N G hb pb) (hb2 : b < 64) : CC X (d + 5) M_X4_reckonSet [.ref z, .ref f, .ref a, .int (nI b)] S (I, R) (none) S (sJ (sJ I (z + 1) b (orF w s N G (I (z + 1)) b N).1) (z + 2) b (orF w s N G (I (z + 1)) b N).2, R) := by
  have hG8 := hst.G8
  have hN6 := hst.N6
  have h256 := hst.h256
  have p256 := hst.p256
  refine CC.of2 (L := [.ref z, .ref f, .ref a, .int (nI b), .retAddr 0, .retAddr 0, .retAddr 0, .retAddr 0, .retAddr 0]) p_X4 (Nat.le_of_ble_eq_true rfl) rfl trivial (List.prefix_refl S) ?_
  refine r_bipush dX4_reckonSet_0 bp_m4 ?_
  refine r_istore (L' := [_, _, _, _, _, _, _, _, _]) dX4_reckonSet_2 rfl rfl ?_
  refine r_bipush dX4_reckonSet_4 bp_m4 ?_
  refine r_istore (L' := [_, _, _, _, _, _, _, _, _]) dX4_reckonSet_6 rfl rfl ?_
  refine r_iconst dX4_reckonSet_8 ic_0 ?_
  refine r_istore (L' := [_, _, _, _, _, _, _, _, _]) dX4_reckonSet_9 rfl rfl ?_
  refine JJ.loop N (fun j => [.ref z, .ref f, .ref a, .int (nI b), .int (orF w s N G (I (z + 1)) b j).1, .int (orF w s N G (I (z + 1)) b j).2, .int (nI j), .retAddr 0, .retAddr 0]) (fun j => (I, R)) (fun j => True) rfl rfl trivial (fun hp => ?_) (fun j hj hp K => ?_)
  · skip
    refine r_iload dX4_reckonSet_11 rfl ?_
    refine r_aload_n dX4_reckonSet_13 rfl ?_
    refine g_getI dX4_reckonSet_14 f_X4_34 (Fam.sg (by assumption)) rfl hf.hN ?_
    refine n_icmp_ge (tgt := 104) dX4_reckonSet_17 (by decide) (by omega) (by omega) (fun c17 => ?_) (fun c17 => absurd c17 (by omega))
    refine r_aload_n dX4_reckonSet_104 rfl ?_
    refine g_getR dX4_reckonSet_105 f_X4_9 (Ord.sg (by assumption)) rfl (Ord.r0 (by assumption)) ?_
    refine r_iload_n dX4_reckonSet_108 rfl ?_
    refine r_iload dX4_reckonSet_109 rfl ?_
    refine r_S3 dX4_reckonSet_111 l_X4_18 k_X7_put s_X7_put (Nat.le_of_ble_eq_true rfl) (v_X7_put X _ (Ord.s0 (by assumption)) (by omega) (by decide)) (List.prefix_refl S) ?_
    refine r_aload_n dX4_reckonSet_114 rfl ?_
    refine g_getR dX4_reckonSet_115 f_X4_15 (Ord.sg (by assumption)) rfl (Ord.r1 (by assumption)) ?_
    refine r_iload_n dX4_reckonSet_118 rfl ?_
    refine r_iload dX4_reckonSet_119 rfl ?_
    refine r_S3 dX4_reckonSet_121 l_X4_18 k_X7_put s_X7_put (Nat.le_of_ble_eq_true rfl) (v_X7_put X _ (Ord.s1 (by assumption)) (by omega) (by decide)) (List.prefix_refl S) ?_
    exact g_vret dX4_reckonSet_124 rfl rfl
  · have hc := clr_le b j
    refine r_iload dX4_reckonSet_11 rfl ?_
    refine r_aload_n dX4_reckonSet_13 rfl ?_
    refine g_getI dX4_reckonSet_14 f_X4_34 (Fam.sg (by assumption)) rfl hf.hN ?_
    refine n_icmp_ge (tgt := 104) dX4_reckonSet_17 (by decide) (by omega) (by omega) (fun c17 => absurd c17 (by omega)) (fun c17 => ?_)
    refine r_iload_n dX4_reckonSet_20 rfl ?_
    refine r_iconst dX4_reckonSet_21 ic_1 ?_
    refine r_iload dX4_reckonSet_22 rfl ?_
    refine r_ishl dX4_reckonSet_24 ?_
    refine g_top (shl1 (by omega)) ?_
    refine r_iconst dX4_reckonSet_25 ic_m1 ?_
    refine r_ixor dX4_reckonSet_26 ?_
    refine r_iand dX4_reckonSet_27 ?_
    refine g_top (clr_eq (by omega) (by omega)) ?_
    refine r_istore (L' := [_, _, _, _, _, _, _, _, _]) dX4_reckonSet_28 rfl rfl ?_
    refine r_iload dX4_reckonSet_30 rfl ?_
    refine r_iload_n dX4_reckonSet_32 rfl ?_
    refine n_icmp_eq (tgt := 98) dX4_reckonSet_33 (by decide) (by omega) (by omega) (fun c33 => ?_) (fun c33 => ?_)
    · skip
      refine r_iinc (L' := [_, _, _, _, _, _, _, _, _]) dX4_reckonSet_98 rfl rfl (nI_inc _) rfl ?_
      refine r_goto (tgt := 11) dX4_reckonSet_101 (by decide) ?_
      exact JJ.wk_at 7 (JJ.wk_at 8 (JJ.to (K trivial) (by simp only [orF_s, orS]; simp [owe, *]) rfl rfl))
    · skip
      refine r_aload_n dX4_reckonSet_36 rfl ?_
      refine r_iload dX4_reckonSet_37 rfl ?_
      refine r_V1 dX4_reckonSet_39 l_X4_39 k_X1_isLonelyGrandmother i_X1_isLonelyGrandmother (Fam.sg (by assumption)) ⟨_, rfl⟩ (Nat.le_of_ble_eq_true rfl) (v_X1_isLonelyGrandmother X _ (by first | assumption | omega) (by first | assumption | omega)) (List.prefix_refl S) ?_
      refine r_ifB_ne (tgt := 98) dX4_reckonSet_42 (by decide) (fun c42 => ?_) (fun c42 => ?_)
      · skip
        refine r_iinc (L' := [_, _, _, _, _, _, _, _, _]) dX4_reckonSet_98 rfl rfl (nI_inc _) rfl ?_
        refine r_goto (tgt := 11) dX4_reckonSet_101 (by decide) ?_
        exact JJ.wk_at 7 (JJ.wk_at 8 (JJ.to (K trivial) (by simp only [orF_s, orS]; simp [owe, *]) rfl rfl))
      · skip
        refine r_aload_n dX4_reckonSet_45 rfl ?_
        refine r_iload dX4_reckonSet_46 rfl ?_
        refine r_V1 dX4_reckonSet_48 l_X4_43 k_X4_least i_X4_least (Ord.sg (by assumption)) ⟨_, rfl⟩ (Nat.le_of_ble_eq_true rfl) (v_X4_least X _ (by first | assumption | omega) (by first | assumption | omega)) (List.prefix_refl S) ?_
        refine r_bipush dX4_reckonSet_51 bp_m4 ?_
        refine r_icmp_ne (tgt := 59) dX4_reckonSet_53 (by decide) (fun c53 => ?_) (fun c53 => ?_)
        · skip
          refine r_aload_n dX4_reckonSet_59 rfl ?_
          refine r_iload dX4_reckonSet_60 rfl ?_
          refine r_V1 dX4_reckonSet_62 l_X4_43 k_X4_least i_X4_least (Ord.sg (by assumption)) ⟨_, rfl⟩ (Nat.le_of_ble_eq_true rfl) (v_X4_least X _ (by first | assumption | omega) (by first | assumption | omega)) (List.prefix_refl S) ?_
          refine r_aload_n dX4_reckonSet_65 rfl ?_
          refine r_aload_n dX4_reckonSet_66 rfl ?_
          refine r_iload dX4_reckonSet_67 rfl ?_
          refine r_iload_n dX4_reckonSet_69 rfl ?_
          refine r_S4 dX4_reckonSet_70 l_X4_47 k_X0_owedAmong s_X0_owedAmong (Nat.le_of_ble_eq_true rfl) (v_X0_owedAmong X _ (by first | assumption | omega) (by first | assumption | omega) (by first | assumption | omega) (by first | assumption | omega)) (List.prefix_refl S) ?_
          refine r_iadd dX4_reckonSet_73 ?_
          refine r_istore (L' := [_, _, _, _, _, _, _, _, _]) dX4_reckonSet_74 rfl rfl ?_
          refine r_iload dX4_reckonSet_76 rfl ?_
          refine r_bipush dX4_reckonSet_78 bp_m4 ?_
          refine r_icmp_eq (tgt := 90) dX4_reckonSet_80 (by decide) (fun c80 => ?_) (fun c80 => ?_)
          · skip
            refine r_iload dX4_reckonSet_90 rfl ?_
            refine r_istore (L' := [_, _, _, _, _, _, _, _, _]) dX4_reckonSet_92 rfl rfl ?_
            refine r_iload dX4_reckonSet_94 rfl ?_
            refine r_istore (L' := [_, _, _, _, _, _, _, _, _]) dX4_reckonSet_96 rfl rfl ?_
            refine r_iinc (L' := [_, _, _, _, _, _, _, _, _]) dX4_reckonSet_98 rfl rfl (nI_inc _) rfl ?_
            refine r_goto (tgt := 11) dX4_reckonSet_101 (by decide) ?_
            exact JJ.wk_at 7 (JJ.wk_at 8 (JJ.to (K trivial) (by simp only [orF_s, orS]; simp [owe, *]) rfl rfl))
          · skip
            refine r_iload dX4_reckonSet_83 rfl ?_
            refine r_iload dX4_reckonSet_85 rfl ?_
            refine r_icmp_ge (tgt := 98) dX4_reckonSet_87 (by decide) (fun c87 => ?_) (fun c87 => ?_)
            · skip
              refine r_iinc (L' := [_, _, _, _, _, _, _, _, _]) dX4_reckonSet_98 rfl rfl (nI_inc _) rfl ?_
              refine r_goto (tgt := 11) dX4_reckonSet_101 (by decide) ?_
              exact JJ.wk_at 7 (JJ.wk_at 8 (JJ.to (K trivial) (by simp only [orF_s, orS]; simp [owe, *]) rfl rfl))
            · skip
              refine r_iload dX4_reckonSet_90 rfl ?_
              refine r_istore (L' := [_, _, _, _, _, _, _, _, _]) dX4_reckonSet_92 rfl rfl ?_
              refine r_iload dX4_reckonSet_94 rfl ?_
              refine r_istore (L' := [_, _, _, _, _, _, _, _, _]) dX4_reckonSet_96 rfl rfl ?_
              refine r_iinc (L' := [_, _, _, _, _, _, _, _, _]) dX4_reckonSet_98 rfl rfl (nI_inc _) rfl ?_
              refine r_goto (tgt := 11) dX4_reckonSet_101 (by decide) ?_
              exact JJ.wk_at 7 (JJ.wk_at 8 (JJ.to (K trivial) (by simp only [orF_s, orS]; simp [owe, *]) rfl rfl))
        · skip
          refine r_goto (tgt := 98) dX4_reckonSet_56 (by decide) ?_
          refine r_iinc (L' := [_, _, _, _, _, _, _, _, _]) dX4_reckonSet_98 rfl rfl (nI_inc _) rfl ?_
          refine r_goto (tgt := 11) dX4_reckonSet_101 (by decide) ?_
          exact JJ.wk_at 7 (JJ.wk_at 8 (JJ.to (K trivial) (by simp only [orF_s, orS]; simp [owe, *]) rfl rfl))

