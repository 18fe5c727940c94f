/-! ===== the reference packs, gives, leaves ===== -/
def pk1M (w s : Nat → Int32) (G hb g q : Nat) : Bool := hb.testBit q && (!decide (s (27 + g) = nI 1) && (!decide (w (21 + g) = nI 2) && !decide (w (15 + q) < hvM w s G q + w (45 + g))))
def pk0M (s : Nat → Int32) (hb g q : Nat) : Bool := hb.testBit q && decide (s (27 + g) = nI 1)
def giM (s : Nat → Int32) (hb g q j : Nat) : Bool := hb.testBit q && (!decide (q = j) && hb.testBit j)
set_option maxHeartbeats 4000000 in
set_option maxRecDepth 100000 in
theorem v_X12_pack_1 (X : mCx) (d : Nat) {S : mSh} {I : mI} {R : mR} {w s : Nat → Int32} {N G hb u g q : Nat} (hm : Mod S R) (hw : MoW I w N G) (hd : MoD I 0 s hb) (hu : I 97 2 = nI u) (h8 : u ≤ 8) (hg : g < G) (hq : q < N) (eo : s (19 + g) = nI q) : CC X (d + 4) M_X12_pack [.ref 97, .int (nI g), .int (nI 1)] S (I, R) (some (.int (if pk1M w s G hb g q = true then hvM w (up s (27 + g) (nI 1)) G q else -2))) S ((if pk1M w s G hb g q = true then dW (mnI I s u) 0 (up s (27 + g) (nI 1)) else I), R) := by
  have hN6 := hw.N6
  have hG8 := hw.G8
  have h256 := hd.b256
  refine CC.of2 (L := [.ref 97, .int (nI g), .int (nI 1), .retAddr 0]) p_X12 (Nat.le_of_ble_eq_true rfl) rfl rfl (List.prefix_refl S) ?_
  refine r_aload_n dX12_pack_0 rfl ?_
  refine r_iload_n dX12_pack_1 rfl ?_
  refine r_V1 dX12_pack_2 l_X12_121 k_X12_isGood i_X12_isGood (Mod.sg (by assumption)) ⟨_, rfl⟩ (Nat.le_of_ble_eq_true rfl) (v_X12_isGood X _ (by first | assumption | omega) (by first | assumption | omega)) (List.prefix_refl S) ?_
  refine r_ifB_ne (tgt := 10) dX12_pack_5 (by decide) (fun c5 => ?_) (fun c5 => absurd (isP_n hg (by omega)) (by rw [c5]; decide))
  refine r_aload_n dX12_pack_10 rfl ?_
  refine g_getR dX12_pack_11 f_X12_13 (Mod.sg (by assumption)) rfl (Mod.r99 (by assumption)) ?_
  refine r_bipush dX12_pack_14 bp_19 ?_
  refine r_iload_n dX12_pack_16 rfl ?_
  refine n_iadd dX12_pack_17 ?_
  refine g_iald dX12_pack_18 (Mod.s99 (by assumption)) rfl (by omega) (by omega) ((hd.at (k := 19 + g) (by omega) (by omega)).trans eo) ?_
  refine r_istore_n (L' := [_, _, _, _]) dX12_pack_19 rfl rfl ?_
  refine r_aload_n dX12_pack_20 rfl ?_
  refine r_iload_n dX12_pack_21 rfl ?_
  refine r_V1 dX12_pack_22 l_X12_151 k_X12_isOurs i_X12_isOurs (Mod.sg (by assumption)) ⟨_, rfl⟩ (Nat.le_of_ble_eq_true rfl) (v_X12_isOurs_p X _ hm hd (by omega) (by omega) eo) (List.prefix_refl S) ?_
  refine r_ifB_eq (tgt := 94) dX12_pack_25 (by decide) (fun c25 => ?_) (fun c25 => ?_)
  · have e : pk1M w s G hb g q = false := (by unfold pk1M; rw [c25]; rfl)
    refine r_bipush dX12_pack_94 bp_m2 ?_
    exact g_iret dX12_pack_96 (by first | rw [if_neg (by rw [e]; decide)] | rw [if_neg (by simp [pk1M, c38])]) (by first | rw [if_neg (by rw [e]; decide)] | rw [if_neg (by simp [pk1M, c38])])
  · skip
    refine r_aload_n dX12_pack_28 rfl ?_
    refine g_getR dX12_pack_29 f_X12_13 (Mod.sg (by assumption)) rfl (Mod.r99 (by assumption)) ?_
    refine r_bipush dX12_pack_32 bp_27 ?_
    refine r_iload_n dX12_pack_34 rfl ?_
    refine n_iadd dX12_pack_35 ?_
    refine g_iald dX12_pack_36 (Mod.s99 (by assumption)) rfl (by omega) (by omega) (hd.at (k := 27 + g) (by omega) (by omega)) ?_
    refine r_iconst dX12_pack_37 ic_1 ?_
    refine r_icmp_ne (tgt := 45) dX12_pack_38 (by decide) (fun c38 => ?_) (fun c38 => ?_)
    · skip
      refine r_iconst dX12_pack_45 ic_0 ?_
      refine r_iload_n dX12_pack_46 rfl ?_
      refine n_icmp_eq (tgt := 94) dX12_pack_47 (by decide) (by omega) (by omega) (fun c47 => (by exfalso; omega)) (fun c47 => ?_)
      refine r_iload_n dX12_pack_50 rfl ?_
      refine n_if_eq (tgt := 97) dX12_pack_51 (by decide) (by omega) (fun c51 => absurd c51 (by decide)) (fun c51 => ?_)
      refine r_aload_n dX12_pack_54 rfl ?_
      refine g_getR dX12_pack_55 f_X12_7 (Mod.sg (by assumption)) rfl (Mod.r98 (by assumption)) ?_
      refine r_bipush dX12_pack_58 bp_21 ?_
      refine r_iload_n dX12_pack_60 rfl ?_
      refine n_iadd dX12_pack_61 ?_
      refine g_iald dX12_pack_62 (Mod.s98 (by assumption)) rfl (by omega) (by omega) (hw.at (by omega)) ?_
      refine r_iconst dX12_pack_63 ic_2 ?_
      refine r_icmp_eq (tgt := 94) dX12_pack_64 (by decide) (fun c64 => ?_) (fun c64 => ?_)
      · have e : pk1M w s G hb g q = false := (by simp [pk1M, c64])
        refine r_bipush dX12_pack_94 bp_m2 ?_
        exact g_iret dX12_pack_96 (by first | rw [if_neg (by rw [e]; decide)] | rw [if_neg (by simp [pk1M, c38])]) (by first | rw [if_neg (by rw [e]; decide)] | rw [if_neg (by simp [pk1M, c38])])
      · skip
        refine r_aload_n dX12_pack_67 rfl ?_
        refine r_iload_n dX12_pack_68 rfl ?_
        refine r_V1 dX12_pack_69 l_X12_154 k_X12_heavyOf i_X12_heavyOf (Mod.sg (by assumption)) ⟨_, rfl⟩ (Nat.le_of_ble_eq_true rfl) (v_X12_heavyOf X _ (by first | assumption | omega) (by first | assumption | omega) (by first | assumption | omega)) (List.prefix_refl S) ?_
        refine r_aload_n dX12_pack_72 rfl ?_
        refine g_getR dX12_pack_73 f_X12_7 (Mod.sg (by assumption)) rfl (Mod.r98 (by assumption)) ?_
        refine r_bipush dX12_pack_76 bp_45 ?_
        refine r_iload_n dX12_pack_78 rfl ?_
        refine n_iadd dX12_pack_79 ?_
        refine g_iald dX12_pack_80 (Mod.s98 (by assumption)) rfl (by omega) (by omega) (hw.at (by omega)) ?_
        refine r_iadd dX12_pack_81 ?_
        refine r_aload_n dX12_pack_82 rfl ?_
        refine g_getR dX12_pack_83 f_X12_7 (Mod.sg (by assumption)) rfl (Mod.r98 (by assumption)) ?_
        refine r_bipush dX12_pack_86 bp_15 ?_
        refine r_iload_n dX12_pack_88 rfl ?_
        refine n_iadd dX12_pack_89 ?_
        refine g_iald dX12_pack_90 (Mod.s98 (by assumption)) rfl (by omega) (by omega) (hw.at (by omega)) ?_
        refine r_icmp_le (tgt := 97) dX12_pack_91 (by decide) (fun c91 => ?_) (fun c91 => ?_)
        · have e : pk1M w s G hb g q = true := (by unfold pk1M; rw [c25, decide_eq_false c38, decide_eq_false c64, decide_eq_false (Int32.not_lt.mpr c91)]; rfl); rw [if_pos e, if_pos e]
          refine r_aload_n dX12_pack_97 rfl ?_
          refine r_V0 dX12_pack_98 l_X12_157 k_X12_minds i_X12_minds (Mod.sg (by assumption)) ⟨_, rfl⟩ (Nat.le_of_ble_eq_true rfl) (v_X12_minds X _ hm hd hu h8) (List.prefix_refl S) ?_
          have hdm : MoD (mnI I s u) 0 s hb := hd.mn (by omega)
          have hwm : MoW (mnI I s u) w N G := hw.mn
          refine JJ.to (h1 := (dW (mnI I s u) 0 s, R)) ?_ rfl rfl (by rw [hdm.id])
          refine r_aload_n dX12_pack_101 rfl ?_
          refine g_getR dX12_pack_102 f_X12_13 (Mod.sg (by assumption)) rfl (Mod.r99 (by assumption)) ?_
          refine r_bipush dX12_pack_105 bp_27 ?_
          refine r_iload_n dX12_pack_107 rfl ?_
          refine n_iadd dX12_pack_108 ?_
          refine r_iload_n dX12_pack_109 rfl ?_
          refine n_if_eq (tgt := 117) dX12_pack_110 (by decide) (by omega) (fun c110 => absurd c110 (by decide)) (fun c110 => ?_)
          refine r_iconst dX12_pack_113 ic_1 ?_
          refine r_goto (tgt := 118) dX12_pack_114 (by decide) ?_
          refine g_iast dX12_pack_118 (Mod.s99 (by assumption)) rfl (by omega) (by omega) ?_
          refine JJ.to (h1 := (dW (mnI I s u) 0 (up s (27 + g) (nI 1)), R)) ?_ rfl rfl (by rw [dW_j (k := 27 + g) (by omega) (by omega)])
          have hd2 : MoD (dW (mnI I s u) 0 (up s (27 + g) (nI 1))) 0 (up s (27 + g) (nI 1)) hb := MoD.mk (by rw [up_ne (by omega)]; exact hd.2.1) h256 (by omega)
          have hw2 := hwm.dW (h := 0) (s := (up s (27 + g) (nI 1)))
          refine r_aload_n dX12_pack_119 rfl ?_
          refine r_iload_n dX12_pack_120 rfl ?_
          refine r_V1 dX12_pack_121 l_X12_154 k_X12_heavyOf i_X12_heavyOf (Mod.sg (by assumption)) ⟨_, rfl⟩ (Nat.le_of_ble_eq_true rfl) (v_X12_heavyOf X _ hm hw2 hd2) (List.prefix_refl S) ?_
          exact g_iret dX12_pack_124 rfl rfl
        · have e : pk1M w s G hb g q = false := (by simp only [pk1M, decide_eq_true (Int32.not_le.mp c91), Bool.not_true, Bool.and_false])
          refine r_bipush dX12_pack_94 bp_m2 ?_
          exact g_iret dX12_pack_96 (by first | rw [if_neg (by rw [e]; decide)] | rw [if_neg (by simp [pk1M, c38])]) (by first | rw [if_neg (by rw [e]; decide)] | rw [if_neg (by simp [pk1M, c38])])
    · skip
      refine r_iconst dX12_pack_41 ic_1 ?_
      refine r_goto (tgt := 46) dX12_pack_42 (by decide) ?_
      refine r_iload_n dX12_pack_46 rfl ?_
      refine n_icmp_eq (tgt := 94) dX12_pack_47 (by decide) (by omega) (by omega) (fun c47 => ?_) (fun c47 => (by exfalso; omega))
      refine r_bipush dX12_pack_94 bp_m2 ?_
      exact g_iret dX12_pack_96 (by first | rw [if_neg (by rw [e]; decide)] | rw [if_neg (by simp [pk1M, c38])]) (by first | rw [if_neg (by rw [e]; decide)] | rw [if_neg (by simp [pk1M, c38])])

set_option maxHeartbeats 4000000 in
set_option maxRecDepth 100000 in
theorem v_X12_pack_n1 (X : mCx) (d : Nat) {S : mSh} {I : mI} {R : mR} {w s : Nat → Int32} {N G hb u g : Nat} (hm : Mod S R) (hw : MoW I w N G) (hd : MoD I 0 s hb) (hg : g < G) (eo : s (19 + g) = -4) : CC X (d + 3) M_X12_pack [.ref 97, .int (nI g), .int (nI 1)] S (I, R) (some (.int (-2))) S (I, R) := by
  have hN6 := hw.N6
  have hG8 := hw.G8
  have h256 := hd.b256
  refine CC.of2 (L := [.ref 97, .int (nI g), .int (nI 1), .retAddr 0]) p_X12 (Nat.le_of_ble_eq_true rfl) rfl rfl (List.prefix_refl S) ?_
  refine r_aload_n dX12_pack_0 rfl ?_
  refine r_iload_n dX12_pack_1 rfl ?_
  refine r_V1 dX12_pack_2 l_X12_121 k_X12_isGood i_X12_isGood (Mod.sg (by assumption)) ⟨_, rfl⟩ (Nat.le_of_ble_eq_true rfl) (v_X12_isGood X _ (by first | assumption | omega) (by first | assumption | omega)) (List.prefix_refl S) ?_
  refine r_ifB_ne (tgt := 10) dX12_pack_5 (by decide) (fun c5 => ?_) (fun c5 => absurd (isP_n hg (by omega)) (by rw [c5]; decide))
  refine r_aload_n dX12_pack_10 rfl ?_
  refine g_getR dX12_pack_11 f_X12_13 (Mod.sg (by assumption)) rfl (Mod.r99 (by assumption)) ?_
  refine r_bipush dX12_pack_14 bp_19 ?_
  refine r_iload_n dX12_pack_16 rfl ?_
  refine n_iadd dX12_pack_17 ?_
  refine g_iald dX12_pack_18 (Mod.s99 (by assumption)) rfl (by omega) (by omega) ((hd.at (k := 19 + g) (by omega) (by omega)).trans eo) ?_
  refine r_istore_n (L' := [_, _, _, _]) dX12_pack_19 rfl rfl ?_
  refine r_aload_n dX12_pack_20 rfl ?_
  refine r_iload_n dX12_pack_21 rfl ?_
  refine r_V1 dX12_pack_22 l_X12_151 k_X12_isOurs i_X12_isOurs (Mod.sg (by assumption)) ⟨_, rfl⟩ (Nat.le_of_ble_eq_true rfl) (v_X12_isOurs_n X _ hm hd (by omega) eo) (List.prefix_refl S) ?_
  refine r_ifB_eq (tgt := 94) dX12_pack_25 (by decide) (fun c25 => ?_) (fun c25 => absurd c25 (by decide))
  refine r_bipush dX12_pack_94 bp_m2 ?_
  exact g_iret dX12_pack_96 rfl rfl

set_option maxHeartbeats 4000000 in
set_option maxRecDepth 100000 in
theorem v_X12_pack_f1 (X : mCx) (d : Nat) {S : mSh} {I : mI} {R : mR} {w : Nat → Int32} {N G : Nat} {x : Int32} (hm : Mod S R) (hw : MoW I w N G) (hb1 : isP G x = false) : CC X (d + 3) M_X12_pack [.ref 97, .int x, .int (nI 1)] S (I, R) (some (.int (-1))) S (I, R) := by
  have hN6 := hw.N6
  have hG8 := hw.G8
  refine CC.of2 (L := [.ref 97, .int x, .int (nI 1), .retAddr 0]) p_X12 (Nat.le_of_ble_eq_true rfl) rfl rfl (List.prefix_refl S) ?_
  refine r_aload_n dX12_pack_0 rfl ?_
  refine r_iload_n dX12_pack_1 rfl ?_
  refine r_V1 dX12_pack_2 l_X12_121 k_X12_isGood i_X12_isGood (Mod.sg (by assumption)) ⟨_, rfl⟩ (Nat.le_of_ble_eq_true rfl) (v_X12_isGood X _ (by first | assumption | omega) (by first | assumption | omega)) (List.prefix_refl S) ?_
  refine r_ifB_ne (tgt := 10) dX12_pack_5 (by decide) (fun c5 => absurd hb1 (by rw [c5]; decide)) (fun c5 => ?_)
  refine r_iconst dX12_pack_8 ic_m1 ?_
  exact g_iret dX12_pack_9 rfl rfl

set_option maxHeartbeats 4000000 in
set_option maxRecDepth 100000 in
theorem v_X12_pack_0 (X : mCx) (d : Nat) {S : mSh} {I : mI} {R : mR} {w s : Nat → Int32} {N G hb u g q : Nat} (hm : Mod S R) (hw : MoW I w N G) (hd : MoD I 0 s hb) (hu : I 97 2 = nI u) (h8 : u ≤ 8) (hg : g < G) (hq : q < N) (eo : s (19 + g) = nI q) : CC X (d + 4) M_X12_pack [.ref 97, .int (nI g), .int (nI 0)] S (I, R) (some (.int (if pk0M s hb g q = true then hvM w (up s (27 + g) (nI 0)) G q else -2))) S ((if pk0M s hb g q = true then dW (mnI I s u) 0 (up s (27 + g) (nI 0)) else I), R) := by
  have hN6 := hw.N6
  have hG8 := hw.G8
  have h256 := hd.b256
  refine CC.of2 (L := [.ref 97, .int (nI g), .int (nI 0), .retAddr 0]) p_X12 (Nat.le_of_ble_eq_true rfl) rfl rfl (List.prefix_refl S) ?_
  refine r_aload_n dX12_pack_0 rfl ?_
  refine r_iload_n dX12_pack_1 rfl ?_
  refine r_V1 dX12_pack_2 l_X12_121 k_X12_isGood i_X12_isGood (Mod.sg (by assumption)) ⟨_, rfl⟩ (Nat.le_of_ble_eq_true rfl) (v_X12_isGood X _ (by first | assumption | omega) (by first | assumption | omega)) (List.prefix_refl S) ?_
  refine r_ifB_ne (tgt := 10) dX12_pack_5 (by decide) (fun c5 => ?_) (fun c5 => absurd (isP_n hg (by omega)) (by rw [c5]; decide))
  refine r_aload_n dX12_pack_10 rfl ?_
  refine g_getR dX12_pack_11 f_X12_13 (Mod.sg (by assumption)) rfl (Mod.r99 (by assumption)) ?_
  refine r_bipush dX12_pack_14 bp_19 ?_
  refine r_iload_n dX12_pack_16 rfl ?_
  refine n_iadd dX12_pack_17 ?_
  refine g_iald dX12_pack_18 (Mod.s99 (by assumption)) rfl (by omega) (by omega) ((hd.at (k := 19 + g) (by omega) (by omega)).trans eo) ?_
  refine r_istore_n (L' := [_, _, _, _]) dX12_pack_19 rfl rfl ?_
  refine r_aload_n dX12_pack_20 rfl ?_
  refine r_iload_n dX12_pack_21 rfl ?_
  refine r_V1 dX12_pack_22 l_X12_151 k_X12_isOurs i_X12_isOurs (Mod.sg (by assumption)) ⟨_, rfl⟩ (Nat.le_of_ble_eq_true rfl) (v_X12_isOurs_p X _ hm hd (by omega) (by omega) eo) (List.prefix_refl S) ?_
  refine r_ifB_eq (tgt := 94) dX12_pack_25 (by decide) (fun c25 => ?_) (fun c25 => ?_)
  · have e : pk0M s hb g q = false := (by unfold pk0M; rw [c25]; rfl)
    refine r_bipush dX12_pack_94 bp_m2 ?_
    exact g_iret dX12_pack_96 (by first | rw [if_neg (by rw [e]; decide)] | rw [if_neg (by simp [pk0M, c38])]) (by first | rw [if_neg (by rw [e]; decide)] | rw [if_neg (by simp [pk0M, c38])])
  · skip
    refine r_aload_n dX12_pack_28 rfl ?_
    refine g_getR dX12_pack_29 f_X12_13 (Mod.sg (by assumption)) rfl (Mod.r99 (by assumption)) ?_
    refine r_bipush dX12_pack_32 bp_27 ?_
    refine r_iload_n dX12_pack_34 rfl ?_
    refine n_iadd dX12_pack_35 ?_
    refine g_iald dX12_pack_36 (Mod.s99 (by assumption)) rfl (by omega) (by omega) (hd.at (k := 27 + g) (by omega) (by omega)) ?_
    refine r_iconst dX12_pack_37 ic_1 ?_
    refine r_icmp_ne (tgt := 45) dX12_pack_38 (by decide) (fun c38 => ?_) (fun c38 => ?_)
    · skip
      refine r_iconst dX12_pack_45 ic_0 ?_
      refine r_iload_n dX12_pack_46 rfl ?_
      refine n_icmp_eq (tgt := 94) dX12_pack_47 (by decide) (by omega) (by omega) (fun c47 => ?_) (fun c47 => (by exfalso; omega))
      refine r_bipush dX12_pack_94 bp_m2 ?_
      exact g_iret dX12_pack_96 (by first | rw [if_neg (by rw [e]; decide)] | rw [if_neg (by simp [pk0M, c38])]) (by first | rw [if_neg (by rw [e]; decide)] | rw [if_neg (by simp [pk0M, c38])])
    · skip
      refine r_iconst dX12_pack_41 ic_1 ?_
      refine r_goto (tgt := 46) dX12_pack_42 (by decide) ?_
      refine r_iload_n dX12_pack_46 rfl ?_
      refine n_icmp_eq (tgt := 94) dX12_pack_47 (by decide) (by omega) (by omega) (fun c47 => (by exfalso; omega)) (fun c47 => ?_)
      refine r_iload_n dX12_pack_50 rfl ?_
      refine n_if_eq (tgt := 97) dX12_pack_51 (by decide) (by omega) (fun c51 => ?_) (fun c51 => absurd rfl c51)
      have e : pk0M s hb g q = true := (by unfold pk0M; rw [c25, decide_eq_true c38]; rfl)
      rw [if_pos e, if_pos e]
      refine r_aload_n dX12_pack_97 rfl ?_
      refine r_V0 dX12_pack_98 l_X12_157 k_X12_minds i_X12_minds (Mod.sg (by assumption)) ⟨_, rfl⟩ (Nat.le_of_ble_eq_true rfl) (v_X12_minds X _ hm hd hu h8) (List.prefix_refl S) ?_
      have hdm : MoD (mnI I s u) 0 s hb := hd.mn (by omega)
      have hwm : MoW (mnI I s u) w N G := hw.mn
      refine JJ.to (h1 := (dW (mnI I s u) 0 s, R)) ?_ rfl rfl (by rw [hdm.id])
      refine r_aload_n dX12_pack_101 rfl ?_
      refine g_getR dX12_pack_102 f_X12_13 (Mod.sg (by assumption)) rfl (Mod.r99 (by assumption)) ?_
      refine r_bipush dX12_pack_105 bp_27 ?_
      refine r_iload_n dX12_pack_107 rfl ?_
      refine n_iadd dX12_pack_108 ?_
      refine r_iload_n dX12_pack_109 rfl ?_
      refine n_if_eq (tgt := 117) dX12_pack_110 (by decide) (by omega) (fun c110 => ?_) (fun c110 => absurd rfl c110)
      refine r_iconst dX12_pack_117 ic_0 ?_
      refine g_iast dX12_pack_118 (Mod.s99 (by assumption)) rfl (by omega) (by omega) ?_
      refine JJ.to (h1 := (dW (mnI I s u) 0 (up s (27 + g) (nI 0)), R)) ?_ rfl rfl (by rw [dW_j (k := 27 + g) (by omega) (by omega)])
      have hd2 : MoD (dW (mnI I s u) 0 (up s (27 + g) (nI 0))) 0 (up s (27 + g) (nI 0)) hb := MoD.mk (by rw [up_ne (by omega)]; exact hd.2.1) h256 (by omega)
      have hw2 := hwm.dW (h := 0) (s := (up s (27 + g) (nI 0)))
      refine r_aload_n dX12_pack_119 rfl ?_
      refine r_iload_n dX12_pack_120 rfl ?_
      refine r_V1 dX12_pack_121 l_X12_154 k_X12_heavyOf i_X12_heavyOf (Mod.sg (by assumption)) ⟨_, rfl⟩ (Nat.le_of_ble_eq_true rfl) (v_X12_heavyOf X _ hm hw2 hd2) (List.prefix_refl S) ?_
      exact g_iret dX12_pack_124 rfl rfl

set_option maxHeartbeats 4000000 in
set_option maxRecDepth 100000 in
theorem v_X12_pack_n0 (X : mCx) (d : Nat) {S : mSh} {I : mI} {R : mR} {w s : Nat → Int32} {N G hb u g : Nat} (hm : Mod S R) (hw : MoW I w N G) (hd : MoD I 0 s hb) (hg : g < G) (eo : s (19 + g) = -4) : CC X (d + 3) M_X12_pack [.ref 97, .int (nI g), .int (nI 0)] S (I, R) (some (.int (-2))) S (I, R) := by
  have hN6 := hw.N6
  have hG8 := hw.G8
  have h256 := hd.b256
  refine CC.of2 (L := [.ref 97, .int (nI g), .int (nI 0), .retAddr 0]) p_X12 (Nat.le_of_ble_eq_true rfl) rfl rfl (List.prefix_refl S) ?_
  refine r_aload_n dX12_pack_0 rfl ?_
  refine r_iload_n dX12_pack_1 rfl ?_
  refine r_V1 dX12_pack_2 l_X12_121 k_X12_isGood i_X12_isGood (Mod.sg (by assumption)) ⟨_, rfl⟩ (Nat.le_of_ble_eq_true rfl) (v_X12_isGood X _ (by first | assumption | omega) (by first | assumption | omega)) (List.prefix_refl S) ?_
  refine r_ifB_ne (tgt := 10) dX12_pack_5 (by decide) (fun c5 => ?_) (fun c5 => absurd (isP_n hg (by omega)) (by rw [c5]; decide))
  refine r_aload_n dX12_pack_10 rfl ?_
  refine g_getR dX12_pack_11 f_X12_13 (Mod.sg (by assumption)) rfl (Mod.r99 (by assumption)) ?_
  refine r_bipush dX12_pack_14 bp_19 ?_
  refine r_iload_n dX12_pack_16 rfl ?_
  refine n_iadd dX12_pack_17 ?_
  refine g_iald dX12_pack_18 (Mod.s99 (by assumption)) rfl (by omega) (by omega) ((hd.at (k := 19 + g) (by omega) (by omega)).trans eo) ?_
  refine r_istore_n (L' := [_, _, _, _]) dX12_pack_19 rfl rfl ?_
  refine r_aload_n dX12_pack_20 rfl ?_
  refine r_iload_n dX12_pack_21 rfl ?_
  refine r_V1 dX12_pack_22 l_X12_151 k_X12_isOurs i_X12_isOurs (Mod.sg (by assumption)) ⟨_, rfl⟩ (Nat.le_of_ble_eq_true rfl) (v_X12_isOurs_n X _ hm hd (by omega) eo) (List.prefix_refl S) ?_
  refine r_ifB_eq (tgt := 94) dX12_pack_25 (by decide) (fun c25 => ?_) (fun c25 => absurd c25 (by decide))
  refine r_bipush dX12_pack_94 bp_m2 ?_
  exact g_iret dX12_pack_96 rfl rfl

set_option maxHeartbeats 4000000 in
set_option maxRecDepth 100000 in
theorem v_X12_pack_f0 (X : mCx) (d : Nat) {S : mSh} {I : mI} {R : mR} {w : Nat → Int32} {N G : Nat} {x : Int32} (hm : Mod S R) (hw : MoW I w N G) (hb1 : isP G x = false) : CC X (d + 3) M_X12_pack [.ref 97, .int x, .int (nI 0)] S (I, R) (some (.int (-1))) S (I, R) := by
  have hN6 := hw.N6
  have hG8 := hw.G8
  refine CC.of2 (L := [.ref 97, .int x, .int (nI 0), .retAddr 0]) p_X12 (Nat.le_of_ble_eq_true rfl) rfl rfl (List.prefix_refl S) ?_
  refine r_aload_n dX12_pack_0 rfl ?_
  refine r_iload_n dX12_pack_1 rfl ?_
  refine r_V1 dX12_pack_2 l_X12_121 k_X12_isGood i_X12_isGood (Mod.sg (by assumption)) ⟨_, rfl⟩ (Nat.le_of_ble_eq_true rfl) (v_X12_isGood X _ (by first | assumption | omega) (by first | assumption | omega)) (List.prefix_refl S) ?_
  refine r_ifB_ne (tgt := 10) dX12_pack_5 (by decide) (fun c5 => absurd hb1 (by rw [c5]; decide)) (fun c5 => ?_)
  refine r_iconst dX12_pack_8 ic_m1 ?_
  exact g_iret dX12_pack_9 rfl rfl

set_option maxHeartbeats 4000000 in
set_option maxRecDepth 100000 in
theorem v_X12_give_t (X : mCx) (d : Nat) {S : mSh} {I : mI} {R : mR} {w s : Nat → Int32} {N G hb u g q j : Nat} (hm : Mod S R) (hw : MoW I w N G) (hd : MoD I 0 s hb) (hu : I 97 2 = nI u) (h8 : u ≤ 8) (hg : g < G) (hj : j < N) (hq : q < N) (eo : s (19 + g) = nI q) : CC X (d + 4) M_X12_give [.ref 97, .int (nI g), .int (nI j)] S (I, R) (some (.int (if giM s hb g q j = true then nI q else -2))) S ((if giM s hb g q j = true then dW (mnI I s u) 0 (hnd s g j) else I), R) := by
  have hN6 := hw.N6
  have hG8 := hw.G8
  have h256 := hd.b256
  refine CC.of2 (L := [.ref 97, .int (nI g), .int (nI j), .retAddr 0]) p_X12 (Nat.le_of_ble_eq_true rfl) rfl rfl (List.prefix_refl S) ?_
  refine r_aload_n dX12_give_0 rfl ?_
  refine r_iload_n dX12_give_1 rfl ?_
  refine r_V1 dX12_give_2 l_X12_121 k_X12_isGood i_X12_isGood (Mod.sg (by assumption)) ⟨_, rfl⟩ (Nat.le_of_ble_eq_true rfl) (v_X12_isGood X _ (by first | assumption | omega) (by first | assumption | omega)) (List.prefix_refl S) ?_
  refine r_ifB_eq (tgt := 16) dX12_give_5 (by decide) (fun c5 => absurd (isP_n hg (by omega)) (by rw [c5]; decide)) (fun c5 => ?_)
  refine r_aload_n dX12_give_8 rfl ?_
  refine r_iload_n dX12_give_9 rfl ?_
  refine r_V1 dX12_give_10 l_X12_111 k_X12_isPerson i_X12_isPerson (Mod.sg (by assumption)) ⟨_, rfl⟩ (Nat.le_of_ble_eq_true rfl) (v_X12_isPerson X _ (by first | assumption | omega) (by first | assumption | omega)) (List.prefix_refl S) ?_
  refine r_ifB_ne (tgt := 18) dX12_give_13 (by decide) (fun c13 => ?_) (fun c13 => absurd (isP_n hj (by omega)) (by rw [c13]; decide))
  refine r_aload_n dX12_give_18 rfl ?_
  refine g_getR dX12_give_19 f_X12_13 (Mod.sg (by assumption)) rfl (Mod.r99 (by assumption)) ?_
  refine r_bipush dX12_give_22 bp_19 ?_
  refine r_iload_n dX12_give_24 rfl ?_
  refine n_iadd dX12_give_25 ?_
  refine g_iald dX12_give_26 (Mod.s99 (by assumption)) rfl (by omega) (by omega) ((hd.at (k := 19 + g) (by omega) (by omega)).trans eo) ?_
  refine r_istore_n (L' := [_, _, _, _]) dX12_give_27 rfl rfl ?_
  refine r_aload_n dX12_give_28 rfl ?_
  refine r_iload_n dX12_give_29 rfl ?_
  refine r_V1 dX12_give_30 l_X12_151 k_X12_isOurs i_X12_isOurs (Mod.sg (by assumption)) ⟨_, rfl⟩ (Nat.le_of_ble_eq_true rfl) (v_X12_isOurs_p X _ hm hd (by omega) (by omega) eo) (List.prefix_refl S) ?_
  refine r_ifB_eq (tgt := 49) dX12_give_33 (by decide) (fun c33 => ?_) (fun c33 => ?_)
  · have e : giM s hb g q j = false := (by simp [giM, c33])
    refine r_bipush dX12_give_49 bp_m2 ?_
    exact g_iret dX12_give_51 (by rw [if_neg (by rw [e]; decide)]) (by rw [if_neg (by rw [e]; decide)])
  · skip
    refine r_iload_n dX12_give_36 rfl ?_
    refine r_iload_n dX12_give_37 rfl ?_
    refine n_icmp_eq (tgt := 49) dX12_give_38 (by decide) (by omega) (by omega) (fun c38 => ?_) (fun c38 => ?_)
    · have e : giM s hb g q j = false := (by simp [giM, c38])
      refine r_bipush dX12_give_49 bp_m2 ?_
      exact g_iret dX12_give_51 (by rw [if_neg (by rw [e]; decide)]) (by rw [if_neg (by rw [e]; decide)])
    · skip
      refine r_aload_n dX12_give_41 rfl ?_
      refine r_iload_n dX12_give_42 rfl ?_
      refine r_V1 dX12_give_43 l_X12_118 k_X12_isHere i_X12_isHere (Mod.sg (by assumption)) ⟨_, rfl⟩ (Nat.le_of_ble_eq_true rfl) (v_X12_isHere X _ (by first | assumption | omega) (by first | assumption | omega) (by first | assumption | omega)) (List.prefix_refl S) ?_
      refine r_ifB_ne (tgt := 52) dX12_give_46 (by decide) (fun c46 => ?_) (fun c46 => ?_)
      · have e : giM s hb g q j = true := (by simp [giM, c33, c38, c46]); rw [if_pos e, if_pos e]
        refine r_aload_n dX12_give_52 rfl ?_
        refine r_V0 dX12_give_53 l_X12_157 k_X12_minds i_X12_minds (Mod.sg (by assumption)) ⟨_, rfl⟩ (Nat.le_of_ble_eq_true rfl) (v_X12_minds X _ hm hd hu h8) (List.prefix_refl S) ?_
        have hdm : MoD (mnI I s u) 0 s hb := hd.mn (by omega)
        have hwm : MoW (mnI I s u) w N G := hw.mn
        refine JJ.to (h1 := (dW (mnI I s u) 0 s, R)) ?_ rfl rfl (by rw [hdm.id])
        refine r_aload_n dX12_give_56 rfl ?_
        refine g_getR dX12_give_57 f_X12_13 (Mod.sg (by assumption)) rfl (Mod.r99 (by assumption)) ?_
        refine r_bipush dX12_give_60 bp_19 ?_
        refine r_iload_n dX12_give_62 rfl ?_
        refine n_iadd dX12_give_63 ?_
        refine r_iload_n dX12_give_64 rfl ?_
        refine g_iast dX12_give_65 (Mod.s99 (by assumption)) rfl (by omega) (by omega) ?_
        refine JJ.to (h1 := (dW (mnI I s u) 0 (up s (19 + g) (nI j)), R)) ?_ rfl rfl (by rw [dW_j (k := 19 + g) (by omega) (by omega)])
        refine r_aload_n dX12_give_66 rfl ?_
        refine g_getR dX12_give_67 f_X12_13 (Mod.sg (by assumption)) rfl (Mod.r99 (by assumption)) ?_
        refine r_bipush dX12_give_70 bp_27 ?_
        refine r_iload_n dX12_give_72 rfl ?_
        refine n_iadd dX12_give_73 ?_
        refine r_iconst dX12_give_74 ic_0 ?_
        refine g_iast dX12_give_75 (Mod.s99 (by assumption)) rfl (by omega) (by omega) ?_
        refine JJ.to (h1 := (dW (mnI I s u) 0 (hnd s g j), R)) ?_ rfl rfl (by rw [dW_j (k := 27 + g) (by omega) (by omega)]; rfl)
        refine r_iload_n dX12_give_76 rfl ?_
        exact g_iret dX12_give_77 rfl rfl
      · have e : giM s hb g q j = false := (by simp [giM, c46])
        refine r_bipush dX12_give_49 bp_m2 ?_
        exact g_iret dX12_give_51 (by rw [if_neg (by rw [e]; decide)]) (by rw [if_neg (by rw [e]; decide)])

set_option maxHeartbeats 4000000 in
set_option maxRecDepth 100000 in
theorem v_X12_give_n (X : mCx) (d : Nat) {S : mSh} {I : mI} {R : mR} {w s : Nat → Int32} {N G hb u g j : Nat} (hm : Mod S R) (hw : MoW I w N G) (hd : MoD I 0 s hb) (hg : g < G) (hj : j < N) (eo : s (19 + g) = -4) : CC X (d + 3) M_X12_give [.ref 97, .int (nI g), .int (nI j)] S (I, R) (some (.int (-2))) S (I, R) := by
  have hN6 := hw.N6
  have hG8 := hw.G8
  have h256 := hd.b256
  refine CC.of2 (L := [.ref 97, .int (nI g), .int (nI j), .retAddr 0]) p_X12 (Nat.le_of_ble_eq_true rfl) rfl rfl (List.prefix_refl S) ?_
  refine r_aload_n dX12_give_0 rfl ?_
  refine r_iload_n dX12_give_1 rfl ?_
  refine r_V1 dX12_give_2 l_X12_121 k_X12_isGood i_X12_isGood (Mod.sg (by assumption)) ⟨_, rfl⟩ (Nat.le_of_ble_eq_true rfl) (v_X12_isGood X _ (by first | assumption | omega) (by first | assumption | omega)) (List.prefix_refl S) ?_
  refine r_ifB_eq (tgt := 16) dX12_give_5 (by decide) (fun c5 => absurd (isP_n hg (by omega)) (by rw [c5]; decide)) (fun c5 => ?_)
  refine r_aload_n dX12_give_8 rfl ?_
  refine r_iload_n dX12_give_9 rfl ?_
  refine r_V1 dX12_give_10 l_X12_111 k_X12_isPerson i_X12_isPerson (Mod.sg (by assumption)) ⟨_, rfl⟩ (Nat.le_of_ble_eq_true rfl) (v_X12_isPerson X _ (by first | assumption | omega) (by first | assumption | omega)) (List.prefix_refl S) ?_
  refine r_ifB_ne (tgt := 18) dX12_give_13 (by decide) (fun c13 => ?_) (fun c13 => absurd (isP_n hj (by omega)) (by rw [c13]; decide))
  refine r_aload_n dX12_give_18 rfl ?_
  refine g_getR dX12_give_19 f_X12_13 (Mod.sg (by assumption)) rfl (Mod.r99 (by assumption)) ?_
  refine r_bipush dX12_give_22 bp_19 ?_
  refine r_iload_n dX12_give_24 rfl ?_
  refine n_iadd dX12_give_25 ?_
  refine g_iald dX12_give_26 (Mod.s99 (by assumption)) rfl (by omega) (by omega) ((hd.at (k := 19 + g) (by omega) (by omega)).trans eo) ?_
  refine r_istore_n (L' := [_, _, _, _]) dX12_give_27 rfl rfl ?_
  refine r_aload_n dX12_give_28 rfl ?_
  refine r_iload_n dX12_give_29 rfl ?_
  refine r_V1 dX12_give_30 l_X12_151 k_X12_isOurs i_X12_isOurs (Mod.sg (by assumption)) ⟨_, rfl⟩ (Nat.le_of_ble_eq_true rfl) (v_X12_isOurs_n X _ hm hd (by omega) eo) (List.prefix_refl S) ?_
  refine r_ifB_eq (tgt := 49) dX12_give_33 (by decide) (fun c33 => ?_) (fun c33 => absurd c33 (by decide))
  refine r_bipush dX12_give_49 bp_m2 ?_
  exact g_iret dX12_give_51 rfl rfl

set_option maxHeartbeats 4000000 in
set_option maxRecDepth 100000 in
theorem v_X12_give_f (X : mCx) (d : Nat) {S : mSh} {I : mI} {R : mR} {w : Nat → Int32} {N G : Nat} {x y : Int32} (hm : Mod S R) (hw : MoW I w N G) (hb1 : isP G x = false ∨ isP N y = false) : CC X (d + 3) M_X12_give [.ref 97, .int x, .int y] S (I, R) (some (.int (-1))) S (I, R) := by
  have hN6 := hw.N6
  have hG8 := hw.G8
  refine CC.of2 (L := [.ref 97, .int x, .int y, .retAddr 0]) p_X12 (Nat.le_of_ble_eq_true rfl) rfl rfl (List.prefix_refl S) ?_
  refine r_aload_n dX12_give_0 rfl ?_
  refine r_iload_n dX12_give_1 rfl ?_
  refine r_V1 dX12_give_2 l_X12_121 k_X12_isGood i_X12_isGood (Mod.sg (by assumption)) ⟨_, rfl⟩ (Nat.le_of_ble_eq_true rfl) (v_X12_isGood X _ (by first | assumption | omega) (by first | assumption | omega)) (List.prefix_refl S) ?_
  refine r_ifB_eq (tgt := 16) dX12_give_5 (by decide) (fun c5 => ?_) (fun c5 => ?_)
  · skip
    refine r_iconst dX12_give_16 ic_m1 ?_
    exact g_iret dX12_give_17 rfl rfl
  · skip
    refine r_aload_n dX12_give_8 rfl ?_
    refine r_iload_n dX12_give_9 rfl ?_
    refine r_V1 dX12_give_10 l_X12_111 k_X12_isPerson i_X12_isPerson (Mod.sg (by assumption)) ⟨_, rfl⟩ (Nat.le_of_ble_eq_true rfl) (v_X12_isPerson X _ (by first | assumption | omega) (by first | assumption | omega)) (List.prefix_refl S) ?_
    refine r_ifB_ne (tgt := 18) dX12_give_13 (by decide) (fun c13 => (by exfalso; rcases hb1 with q | q <;> first | exact absurd q (by rw [c13]; decide) | exact absurd q (by rw [c5]; decide))) (fun c13 => ?_)
    refine r_iconst dX12_give_16 ic_m1 ?_
    exact g_iret dX12_give_17 rfl rfl

def clB (w s : Nat → Int32) (N G hb i : Nat) : Bool := hb.testBit i && (!decide (s (1 + i) < owe w s N G hb i) && !alone w N (clr hb i))
def cbB (w s : Nat → Int32) (hb i : Nat) : Bool := !hb.testBit i && !decide (s (1 + i) < feeB w s i)
theorem payS_0 {s : Nat → Int32} {i : Nat} {x : Int32} : payS s i x 0 = s 0 := by
  unfold payS
  rw [up_ne (by omega), up_ne (by omega)]
theorem sGo_0 {s : Nat → Int32} {G hb i : Nat} {x : Int32} : sGo s G hb i x 0 = nI (clr hb i) := by
  unfold sGo sO
  rw [if_neg (by omega), up_ne (by omega), up_eq]
set_option maxHeartbeats 4000000 in
set_option maxRecDepth 100000 in
theorem v_X12_leave_t (X : mCx) (d : Nat) {S : mSh} {I : mI} {R : mR} {w s : Nat → Int32} {N G hb u i : Nat} (hm : Mod S R) (hw : MoW I w N G) (hd : MoD I 0 s hb) (hu : I 97 2 = nI u) (h8 : u ≤ 8) (hi : i < N) : CC X (d + 5) M_X12_leave [.ref 97, .int (nI i)] S (I, R) (some (.int (if clB w s N G hb i = true then (owe w s N G hb i) else -2))) S ((if clB w s N G hb i = true then dW (mnI I s u) 0 (sGo (payS s i (owe w s N G hb i)) G hb i (owe w s N G hb i)) else I), R) := by
  have hN6 := hw.N6
  have hG8 := hw.G8
  have h256 := hd.b256
  refine CC.of2 (L := [.ref 97, .int (nI i), .retAddr 0]) p_X12 (Nat.le_of_ble_eq_true rfl) rfl rfl (List.prefix_refl S) ?_
  refine r_aload_n dX12_leave_0 rfl ?_
  refine r_iload_n dX12_leave_1 rfl ?_
  refine r_V1 dX12_leave_2 l_X12_111 k_X12_isPerson i_X12_isPerson (Mod.sg (by assumption)) ⟨_, rfl⟩ (Nat.le_of_ble_eq_true rfl) (v_X12_isPerson X _ (by first | assumption | omega) (by first | assumption | omega)) (List.prefix_refl S) ?_
  refine r_ifB_ne (tgt := 10) dX12_leave_5 (by decide) (fun c5 => ?_) (fun c5 => absurd (isP_n hi (by omega)) (by rw [c5]; decide))
  refine r_aload_n dX12_leave_10 rfl ?_
  refine r_iload_n dX12_leave_11 rfl ?_
  refine r_V1 dX12_leave_12 l_X12_118 k_X12_isHere i_X12_isHere (Mod.sg (by assumption)) ⟨_, rfl⟩ (Nat.le_of_ble_eq_true rfl) (v_X12_isHere X _ (by first | assumption | omega) (by first | assumption | omega) (by first | assumption | omega)) (List.prefix_refl S) ?_
  refine r_ifB_eq (tgt := 27) dX12_leave_15 (by decide) (fun c15 => ?_) (fun c15 => ?_)
  · have e : clB w s N G hb i = false := (by simp only [clB, c15, Bool.false_and])
    refine r_bipush dX12_leave_27 bp_m2 ?_
    exact g_iret dX12_leave_29 (by rw [if_neg (by rw [e]; decide)]) (by rw [if_neg (by rw [e]; decide)])
  · skip
    refine r_aload_n dX12_leave_18 rfl ?_
    refine r_iconst dX12_leave_19 ic_0 ?_
    refine r_iload_n dX12_leave_20 rfl ?_
    refine r_V2 dX12_leave_21 l_X12_163 k_X12_canLeave i_X12_canLeave (Mod.sg (by assumption)) ⟨_, rfl⟩ (Nat.le_of_ble_eq_true rfl) (v_X12_canLeave X _ (by first | assumption | omega) (by first | assumption | omega) (by first | assumption | omega) (by first | assumption | omega)) (List.prefix_refl S) ?_
    refine r_ifB_ne (tgt := 30) dX12_leave_24 (by decide) (fun c24 => ?_) (fun c24 => ?_)
    · have e : clB w s N G hb i = true := (by simp only [clB, c15, c24, Bool.and_self]); rw [if_pos e, if_pos e]
      refine r_aload_n dX12_leave_30 rfl ?_
      refine r_iload_n dX12_leave_31 rfl ?_
      refine r_V1 dX12_leave_32 l_X12_144 k_X12_owesNow i_X12_owesNow (Mod.sg (by assumption)) ⟨_, rfl⟩ (Nat.le_of_ble_eq_true rfl) (v_X12_owesNow X _ (by first | assumption | omega) (by first | assumption | omega) (by first | assumption | omega) (by first | assumption | omega)) (List.prefix_refl S) ?_
      refine r_istore_n (L' := [_, _, _]) dX12_leave_35 rfl rfl ?_
      refine r_aload_n dX12_leave_36 rfl ?_
      refine r_V0 dX12_leave_37 l_X12_157 k_X12_minds i_X12_minds (Mod.sg (by assumption)) ⟨_, rfl⟩ (Nat.le_of_ble_eq_true rfl) (v_X12_minds X _ hm hd hu h8) (List.prefix_refl S) ?_
      have hdm : MoD (mnI I s u) 0 s hb := hd.mn (by omega)
      have hwm : MoW (mnI I s u) w N G := hw.mn
      refine r_aload_n dX12_leave_40 rfl ?_
      refine r_iconst dX12_leave_41 ic_0 ?_
      refine r_iload_n dX12_leave_42 rfl ?_
      refine r_iload_n dX12_leave_43 rfl ?_
      refine r_V3 dX12_leave_44 l_X12_166 k_X12_goes i_X12_goes (Mod.sg (by assumption)) ⟨_, rfl⟩ (Nat.le_of_ble_eq_true rfl) (v_X12_goes X _ hm hwm hdm hi) (List.prefix_refl S) ?_
      refine r_iload_n dX12_leave_47 rfl ?_
      exact g_iret dX12_leave_48 rfl rfl
    · have e : clB w s N G hb i = false := (by simp only [clB, c24, Bool.and_false])
      refine r_bipush dX12_leave_27 bp_m2 ?_
      exact g_iret dX12_leave_29 (by rw [if_neg (by rw [e]; decide)]) (by rw [if_neg (by rw [e]; decide)])

set_option maxHeartbeats 4000000 in
set_option maxRecDepth 100000 in
theorem v_X12_leave_f (X : mCx) (d : Nat) {S : mSh} {I : mI} {R : mR} {w : Nat → Int32} {N G : Nat} {x : Int32} (hm : Mod S R) (hw : MoW I w N G) (hb1 : isP N x = false) : CC X (d + 3) M_X12_leave [.ref 97, .int x] S (I, R) (some (.int (-1))) S (I, R) := by
  have hN6 := hw.N6
  have hG8 := hw.G8
  refine CC.of2 (L := [.ref 97, .int x, .retAddr 0]) p_X12 (Nat.le_of_ble_eq_true rfl) rfl rfl (List.prefix_refl S) ?_
  refine r_aload_n dX12_leave_0 rfl ?_
  refine r_iload_n dX12_leave_1 rfl ?_
  refine r_V1 dX12_leave_2 l_X12_111 k_X12_isPerson i_X12_isPerson (Mod.sg (by assumption)) ⟨_, rfl⟩ (Nat.le_of_ble_eq_true rfl) (v_X12_isPerson X _ (by first | assumption | omega) (by first | assumption | omega)) (List.prefix_refl S) ?_
  refine r_ifB_ne (tgt := 10) dX12_leave_5 (by decide) (fun c5 => absurd hb1 (by rw [c5]; decide)) (fun c5 => ?_)
  refine r_iconst dX12_leave_8 ic_m1 ?_
  exact g_iret dX12_leave_9 rfl rfl

set_option maxHeartbeats 4000000 in
set_option maxRecDepth 100000 in
theorem v_X12_comeBack_t (X : mCx) (d : Nat) {S : mSh} {I : mI} {R : mR} {w s : Nat → Int32} {N G hb u i : Nat} (hm : Mod S R) (hw : MoW I w N G) (hd : MoD I 0 s hb) (hu : I 97 2 = nI u) (h8 : u ≤ 8) (hi : i < N) : CC X (d + 3) M_X12_comeBack [.ref 97, .int (nI i)] S (I, R) (some (.int (if cbB w s hb i = true then (feeB w s i) else -2))) S ((if cbB w s hb i = true then dW (mnI I s u) 0 (up (payS s i (feeB w s i)) 0 (nI (hb ||| 2 ^ i))) else I), R) := by
  have hN6 := hw.N6
  have hG8 := hw.G8
  have h256 := hd.b256
  refine CC.of2 (L := [.ref 97, .int (nI i), .retAddr 0]) p_X12 (Nat.le_of_ble_eq_true rfl) rfl rfl (List.prefix_refl S) ?_
  refine r_aload_n dX12_comeBack_0 rfl ?_
  refine r_iload_n dX12_comeBack_1 rfl ?_
  refine r_V1 dX12_comeBack_2 l_X12_111 k_X12_isPerson i_X12_isPerson (Mod.sg (by assumption)) ⟨_, rfl⟩ (Nat.le_of_ble_eq_true rfl) (v_X12_isPerson X _ (by first | assumption | omega) (by first | assumption | omega)) (List.prefix_refl S) ?_
  refine r_ifB_ne (tgt := 10) dX12_comeBack_5 (by decide) (fun c5 => ?_) (fun c5 => absurd (isP_n hi (by omega)) (by rw [c5]; decide))
  refine r_aload_n dX12_comeBack_10 rfl ?_
  refine r_iconst dX12_comeBack_11 ic_0 ?_
  refine r_iload_n dX12_comeBack_12 rfl ?_
  refine r_V2 dX12_comeBack_13 l_X12_170 k_X12_backFor i_X12_backFor (Mod.sg (by assumption)) ⟨_, rfl⟩ (Nat.le_of_ble_eq_true rfl) (v_X12_backFor X _ (by first | assumption | omega) (by first | assumption | omega) (by first | assumption | omega) (by first | assumption | omega)) (List.prefix_refl S) ?_
  refine r_istore_n (L' := [_, _, _]) dX12_comeBack_16 rfl rfl ?_
  refine r_aload_n dX12_comeBack_17 rfl ?_
  refine r_iload_n dX12_comeBack_18 rfl ?_
  refine r_V1 dX12_comeBack_19 l_X12_118 k_X12_isHere i_X12_isHere (Mod.sg (by assumption)) ⟨_, rfl⟩ (Nat.le_of_ble_eq_true rfl) (v_X12_isHere X _ (by first | assumption | omega) (by first | assumption | omega) (by first | assumption | omega)) (List.prefix_refl S) ?_
  refine r_ifB_ne (tgt := 37) dX12_comeBack_22 (by decide) (fun c22 => ?_) (fun c22 => ?_)
  · have e : cbB w s hb i = false := (by simp only [cbB, c22, Bool.not_true, Bool.false_and])
    refine r_bipush dX12_comeBack_37 bp_m2 ?_
    exact g_iret dX12_comeBack_39 (by rw [if_neg (by rw [e]; decide)]) (by rw [if_neg (by rw [e]; decide)])
  · skip
    refine r_aload_n dX12_comeBack_25 rfl ?_
    refine g_getR dX12_comeBack_26 f_X12_13 (Mod.sg (by assumption)) rfl (Mod.r99 (by assumption)) ?_
    refine r_iconst dX12_comeBack_29 ic_1 ?_
    refine r_iload_n dX12_comeBack_30 rfl ?_
    refine n_iadd dX12_comeBack_31 ?_
    refine g_iald dX12_comeBack_32 (Mod.s99 (by assumption)) rfl (by omega) (by omega) (hd.at (k := 1 + i) (by omega) (by omega)) ?_
    refine r_iload_n dX12_comeBack_33 rfl ?_
    refine r_icmp_ge (tgt := 40) dX12_comeBack_34 (by decide) (fun c34 => ?_) (fun c34 => ?_)
    · have e : cbB w s hb i = true := (by simp only [cbB, c22, decide_eq_false (Int32.not_lt.mpr c34), Bool.not_false, Bool.and_self]); rw [if_pos e, if_pos e]
      refine r_aload_n dX12_comeBack_40 rfl ?_
      refine r_V0 dX12_comeBack_41 l_X12_157 k_X12_minds i_X12_minds (Mod.sg (by assumption)) ⟨_, rfl⟩ (Nat.le_of_ble_eq_true rfl) (v_X12_minds X _ hm hd hu h8) (List.prefix_refl S) ?_
      have hdm : MoD (mnI I s u) 0 s hb := hd.mn (by omega)
      have hwm : MoW (mnI I s u) w N G := hw.mn
      refine r_aload_n dX12_comeBack_44 rfl ?_
      refine r_iconst dX12_comeBack_45 ic_0 ?_
      refine r_iload_n dX12_comeBack_46 rfl ?_
      refine r_iload_n dX12_comeBack_47 rfl ?_
      refine r_V3 dX12_comeBack_48 l_X12_173 k_X12_returns i_X12_returns (Mod.sg (by assumption)) ⟨_, rfl⟩ (Nat.le_of_ble_eq_true rfl) (v_X12_returns X _ hm hwm hdm hi) (List.prefix_refl S) ?_
      refine r_iload_n dX12_comeBack_51 rfl ?_
      exact g_iret dX12_comeBack_52 rfl rfl
    · have e : cbB w s hb i = false := (by simp only [cbB, decide_eq_true (Int32.not_le.mp c34), Bool.not_true, Bool.and_false])
      refine r_bipush dX12_comeBack_37 bp_m2 ?_
      exact g_iret dX12_comeBack_39 (by rw [if_neg (by rw [e]; decide)]) (by rw [if_neg (by rw [e]; decide)])

set_option maxHeartbeats 4000000 in
set_option maxRecDepth 100000 in
theorem v_X12_comeBack_f (X : mCx) (d : Nat) {S : mSh} {I : mI} {R : mR} {w : Nat → Int32} {N G : Nat} {x : Int32} (hm : Mod S R) (hw : MoW I w N G) (hb1 : isP N x = false) : CC X (d + 3) M_X12_comeBack [.ref 97, .int x] S (I, R) (some (.int (-1))) S (I, R) := by
  have hN6 := hw.N6
  have hG8 := hw.G8
  refine CC.of2 (L := [.ref 97, .int x, .retAddr 0]) p_X12 (Nat.le_of_ble_eq_true rfl) rfl rfl (List.prefix_refl S) ?_
  refine r_aload_n dX12_comeBack_0 rfl ?_
  refine r_iload_n dX12_comeBack_1 rfl ?_
  refine r_V1 dX12_comeBack_2 l_X12_111 k_X12_isPerson i_X12_isPerson (Mod.sg (by assumption)) ⟨_, rfl⟩ (Nat.le_of_ble_eq_true rfl) (v_X12_isPerson X _ (by first | assumption | omega) (by first | assumption | omega)) (List.prefix_refl S) ?_
  refine r_ifB_ne (tgt := 10) dX12_comeBack_5 (by decide) (fun c5 => absurd hb1 (by rw [c5]; decide)) (fun c5 => ?_)
  refine r_iconst dX12_comeBack_8 ic_m1 ?_
  exact g_iret dX12_comeBack_9 rfl rfl

set_option maxHeartbeats 4000000 in
set_option maxRecDepth 100000 in
theorem v_X12_leaveBoth_t (X : mCx) (d : Nat) {S : mSh} {I : mI} {R : mR} {w s : Nat → Int32} {N G hb u i j : Nat} (hm : Mod S R) (hw : MoW I w N G) (hd : MoD I 0 s hb) (hu : I 97 2 = nI u) (h8 : u ≤ 8) (hi : i < N) (hj : j < N) (hij : i ≠ j) : CC X (d + 4) M_X12_leaveBoth [.ref 97, .int (nI i), .int (nI j)] S (I, R) (some (.int (if lbB w s N G hb i j = true then (oweW w s N G hb i j) + (oweW w s N G hb j i) else -2))) S ((if lbB w s N G hb i j = true then dW (mnI I s u) 0 (sGo (payS (sGo (payS s i (oweW w s N G hb i j)) G hb i (oweW w s N G hb i j)) j (oweW w s N G hb j i)) G (clr hb i) j (oweW w s N G hb j i)) else I), R) := by
  have hN6 := hw.N6
  have hG8 := hw.G8
  have h256 := hd.b256
  have hcl := clr_le hb i
  have hcl2 := clr_le (clr hb i) j
  refine CC.of2 (L := [.ref 97, .int (nI i), .int (nI j), .retAddr 0, .retAddr 0]) p_X12 (Nat.le_of_ble_eq_true rfl) rfl rfl (List.prefix_refl S) ?_
  refine r_aload_n dX12_leaveBoth_0 rfl ?_
  refine r_iload_n dX12_leaveBoth_1 rfl ?_
  refine r_iload_n dX12_leaveBoth_2 rfl ?_
  refine r_V2 dX12_leaveBoth_3 l_X12_124 k_X12_areTwo i_X12_areTwo (Mod.sg (by assumption)) ⟨_, rfl⟩ (Nat.le_of_ble_eq_true rfl) (v_X12_areTwo X _ (by first | assumption | omega) (by first | assumption | omega)) (List.prefix_refl S) ?_
  refine r_ifB_ne (tgt := 11) dX12_leaveBoth_6 (by decide) (fun c6 => ?_) (fun c6 => absurd (twoP_n hi hj (by omega) hij) (by rw [c6]; decide))
  refine r_aload_n dX12_leaveBoth_11 rfl ?_
  refine r_iload_n dX12_leaveBoth_12 rfl ?_
  refine r_V1 dX12_leaveBoth_13 l_X12_118 k_X12_isHere i_X12_isHere (Mod.sg (by assumption)) ⟨_, rfl⟩ (Nat.le_of_ble_eq_true rfl) (v_X12_isHere X _ (by first | assumption | omega) (by first | assumption | omega) (by first | assumption | omega)) (List.prefix_refl S) ?_
  refine r_ifB_eq (tgt := 27) dX12_leaveBoth_16 (by decide) (fun c16 => ?_) (fun c16 => ?_)
  · have e : lbB w s N G hb i j = false := (by unfold lbB; rw [c16]; rfl)
    refine r_bipush dX12_leaveBoth_27 bp_m2 ?_
    exact g_iret dX12_leaveBoth_29 (by rw [if_neg (by rw [e]; decide)]) (by rw [if_neg (by rw [e]; decide)])
  · skip
    refine r_aload_n dX12_leaveBoth_19 rfl ?_
    refine r_iload_n dX12_leaveBoth_20 rfl ?_
    refine r_V1 dX12_leaveBoth_21 l_X12_118 k_X12_isHere i_X12_isHere (Mod.sg (by assumption)) ⟨_, rfl⟩ (Nat.le_of_ble_eq_true rfl) (v_X12_isHere X _ (by first | assumption | omega) (by first | assumption | omega) (by first | assumption | omega)) (List.prefix_refl S) ?_
    refine r_ifB_ne (tgt := 30) dX12_leaveBoth_24 (by decide) (fun c24 => ?_) (fun c24 => ?_)
    · skip
      refine r_aload_n dX12_leaveBoth_30 rfl ?_
      refine r_iconst dX12_leaveBoth_31 ic_0 ?_
      refine r_iload_n dX12_leaveBoth_32 rfl ?_
      refine r_iload_n dX12_leaveBoth_33 rfl ?_
      refine r_V3 dX12_leaveBoth_34 l_X12_141 k_X12_owesIn i_X12_owesIn (Mod.sg (by assumption)) ⟨_, rfl⟩ (Nat.le_of_ble_eq_true rfl) (v_X12_owesIn X _ (by first | assumption | omega) (by first | assumption | omega) (by first | assumption | omega) (by first | assumption | omega)) (List.prefix_refl S) ?_
      rw [lLw_j hN6 hj hij c24]
      rw [i32_a]
      rw [show duty w i (gLeft w s G i + lLeft w N i hb - w (53 + (6 * i + j)) + w (53 + (6 * i + j)) / nI 2) = (oweW w s N G hb i j) from rfl]
      refine r_istore_n (L' := [_, _, _, _, _]) dX12_leaveBoth_37 rfl rfl ?_
      refine r_aload_n dX12_leaveBoth_38 rfl ?_
      refine r_iconst dX12_leaveBoth_39 ic_0 ?_
      refine r_iload_n dX12_leaveBoth_40 rfl ?_
      refine r_iload_n dX12_leaveBoth_41 rfl ?_
      refine r_V3 dX12_leaveBoth_42 l_X12_141 k_X12_owesIn i_X12_owesIn (Mod.sg (by assumption)) ⟨_, rfl⟩ (Nat.le_of_ble_eq_true rfl) (v_X12_owesIn X _ (by first | assumption | omega) (by first | assumption | omega) (by first | assumption | omega) (by first | assumption | omega)) (List.prefix_refl S) ?_
      rw [lLw_j hN6 hi (fun z => hij z.symm) c16]
      rw [i32_a]
      rw [show duty w j (gLeft w s G j + lLeft w N j hb - w (53 + (6 * j + i)) + w (53 + (6 * j + i)) / nI 2) = (oweW w s N G hb j i) from rfl]
      refine r_istore (L' := [_, _, _, _, _]) dX12_leaveBoth_45 rfl rfl ?_
      refine r_aload_n dX12_leaveBoth_47 rfl ?_
      refine g_getR dX12_leaveBoth_48 f_X12_13 (Mod.sg (by assumption)) rfl (Mod.r99 (by assumption)) ?_
      refine r_iconst dX12_leaveBoth_51 ic_1 ?_
      refine r_iload_n dX12_leaveBoth_52 rfl ?_
      refine n_iadd dX12_leaveBoth_53 ?_
      refine g_iald dX12_leaveBoth_54 (Mod.s99 (by assumption)) rfl (by omega) (by omega) (hd.at (k := 1 + i) (by omega) (by omega)) ?_
      refine r_iload_n dX12_leaveBoth_55 rfl ?_
      refine r_icmp_lt (tgt := 97) dX12_leaveBoth_56 (by decide) (fun c56 => ?_) (fun c56 => ?_)
      · have e : lbB w s N G hb i j = false := (by unfold lbB; rw [decide_eq_true c56]; simp)
        refine r_bipush dX12_leaveBoth_97 bp_m2 ?_
        exact g_iret dX12_leaveBoth_99 (by rw [if_neg (by rw [e]; decide)]) (by rw [if_neg (by rw [e]; decide)])
      · skip
        refine r_aload_n dX12_leaveBoth_59 rfl ?_
        refine g_getR dX12_leaveBoth_60 f_X12_13 (Mod.sg (by assumption)) rfl (Mod.r99 (by assumption)) ?_
        refine r_iconst dX12_leaveBoth_63 ic_1 ?_
        refine r_iload_n dX12_leaveBoth_64 rfl ?_
        refine n_iadd dX12_leaveBoth_65 ?_
        refine g_iald dX12_leaveBoth_66 (Mod.s99 (by assumption)) rfl (by omega) (by omega) (hd.at (k := 1 + j) (by omega) (by omega)) ?_
        refine r_iload dX12_leaveBoth_67 rfl ?_
        refine r_icmp_lt (tgt := 97) dX12_leaveBoth_69 (by decide) (fun c69 => ?_) (fun c69 => ?_)
        · have e : lbB w s N G hb i j = false := (by unfold lbB; rw [decide_eq_true c69]; simp)
          refine r_bipush dX12_leaveBoth_97 bp_m2 ?_
          exact g_iret dX12_leaveBoth_99 (by rw [if_neg (by rw [e]; decide)]) (by rw [if_neg (by rw [e]; decide)])
        · skip
          refine r_aload_n dX12_leaveBoth_72 rfl ?_
          refine r_aload_n dX12_leaveBoth_73 rfl ?_
          refine g_getR dX12_leaveBoth_74 f_X12_13 (Mod.sg (by assumption)) rfl (Mod.r99 (by assumption)) ?_
          refine r_iconst dX12_leaveBoth_77 ic_0 ?_
          refine g_iald dX12_leaveBoth_78 (Mod.s99 (by assumption)) rfl (by omega) (by omega) (hd.h0 (by omega)) ?_
          refine r_iconst dX12_leaveBoth_79 ic_1 ?_
          refine r_iload_n dX12_leaveBoth_80 rfl ?_
          refine r_ishl dX12_leaveBoth_81 ?_
          refine g_top (shl1 (by omega)) ?_
          refine r_iconst dX12_leaveBoth_82 ic_m1 ?_
          refine r_ixor dX12_leaveBoth_83 ?_
          refine r_iand dX12_leaveBoth_84 ?_
          refine g_top (clr_eq (by omega) (by omega)) ?_
          refine r_iconst dX12_leaveBoth_85 ic_1 ?_
          refine r_iload_n dX12_leaveBoth_86 rfl ?_
          refine r_ishl dX12_leaveBoth_87 ?_
          refine g_top (shl1 (by omega)) ?_
          refine r_iconst dX12_leaveBoth_88 ic_m1 ?_
          refine r_ixor dX12_leaveBoth_89 ?_
          refine r_iand dX12_leaveBoth_90 ?_
          refine g_top (clr_eq (by omega) (by omega)) ?_
          refine r_V1 dX12_leaveBoth_91 l_X12_160 k_X12_isAlone i_X12_isAlone (Mod.sg (by assumption)) ⟨_, rfl⟩ (Nat.le_of_ble_eq_true rfl) (v_X12_isAlone X _ (by first | assumption | omega) (by first | assumption | omega) (by first | assumption | omega)) (List.prefix_refl S) ?_
          refine r_ifB_eq (tgt := 100) dX12_leaveBoth_94 (by decide) (fun c94 => ?_) (fun c94 => ?_)
          · have e : lbB w s N G hb i j = true := (by unfold lbB; rw [c16, c24, decide_eq_false c56, decide_eq_false c69, c94]; rfl); rw [if_pos e, if_pos e]
            refine r_aload_n dX12_leaveBoth_100 rfl ?_
            refine r_V0 dX12_leaveBoth_101 l_X12_157 k_X12_minds i_X12_minds (Mod.sg (by assumption)) ⟨_, rfl⟩ (Nat.le_of_ble_eq_true rfl) (v_X12_minds X _ hm hd hu h8) (List.prefix_refl S) ?_
            have hdm : MoD (mnI I s u) 0 s hb := hd.mn (by omega)
            have hwm : MoW (mnI I s u) w N G := hw.mn
            refine r_aload_n dX12_leaveBoth_104 rfl ?_
            refine r_iconst dX12_leaveBoth_105 ic_0 ?_
            refine r_iload_n dX12_leaveBoth_106 rfl ?_
            refine r_iload_n dX12_leaveBoth_107 rfl ?_
            refine r_V3 dX12_leaveBoth_108 l_X12_166 k_X12_goes i_X12_goes (Mod.sg (by assumption)) ⟨_, rfl⟩ (Nat.le_of_ble_eq_true rfl) (v_X12_goes X _ hm hwm hdm hi) (List.prefix_refl S) ?_
            have hd3 : MoD (dW (mnI I s u) 0 (sGo (payS s i (oweW w s N G hb i j)) G hb i (oweW w s N G hb i j))) 0 (sGo (payS s i (oweW w s N G hb i j)) G hb i (oweW w s N G hb i j)) (clr hb i) := MoD.mk sGo_0 (by omega) (by omega)
            have hw3 := hwm.dW (h := 0) (s := (sGo (payS s i (oweW w s N G hb i j)) G hb i (oweW w s N G hb i j)))
            refine r_aload_n dX12_leaveBoth_111 rfl ?_
            refine r_iconst dX12_leaveBoth_112 ic_0 ?_
            refine r_iload_n dX12_leaveBoth_113 rfl ?_
            refine r_iload dX12_leaveBoth_114 rfl ?_
            refine r_V3 dX12_leaveBoth_116 l_X12_166 k_X12_goes i_X12_goes (Mod.sg (by assumption)) ⟨_, rfl⟩ (Nat.le_of_ble_eq_true rfl) (v_X12_goes X _ hm hw3 hd3 hj) (List.prefix_refl S) ?_
            refine JJ.to (h1 := (dW (mnI I s u) 0 (sGo (payS (sGo (payS s i (oweW w s N G hb i j)) G hb i (oweW w s N G hb i j)) j (oweW w s N G hb j i)) G (clr hb i) j (oweW w s N G hb j i)), R)) ?_ rfl rfl (by rw [dW_2])
            refine r_iload_n dX12_leaveBoth_119 rfl ?_
            refine r_iload dX12_leaveBoth_120 rfl ?_
            refine r_iadd dX12_leaveBoth_122 ?_
            exact g_iret dX12_leaveBoth_123 rfl rfl
          · have e : lbB w s N G hb i j = false := (by unfold lbB; rw [c94]; simp)
            refine r_bipush dX12_leaveBoth_97 bp_m2 ?_
            exact g_iret dX12_leaveBoth_99 (by rw [if_neg (by rw [e]; decide)]) (by rw [if_neg (by rw [e]; decide)])
    · have e : lbB w s N G hb i j = false := (by unfold lbB; rw [c24]; simp)
      refine r_bipush dX12_leaveBoth_27 bp_m2 ?_
      exact g_iret dX12_leaveBoth_29 (by rw [if_neg (by rw [e]; decide)]) (by rw [if_neg (by rw [e]; decide)])

set_option maxHeartbeats 4000000 in
set_option maxRecDepth 100000 in
theorem v_X12_leaveBoth_f (X : mCx) (d : Nat) {S : mSh} {I : mI} {R : mR} {w : Nat → Int32} {N G : Nat} {x y : Int32} (hm : Mod S R) (hw : MoW I w N G) (hb1 : twoP N x y = false) : CC X (d + 4) M_X12_leaveBoth [.ref 97, .int x, .int y] S (I, R) (some (.int (-1))) S (I, R) := by
  have hN6 := hw.N6
  have hG8 := hw.G8
  refine CC.of2 (L := [.ref 97, .int x, .int y, .retAddr 0, .retAddr 0]) p_X12 (Nat.le_of_ble_eq_true rfl) rfl rfl (List.prefix_refl S) ?_
  refine r_aload_n dX12_leaveBoth_0 rfl ?_
  refine r_iload_n dX12_leaveBoth_1 rfl ?_
  refine r_iload_n dX12_leaveBoth_2 rfl ?_
  refine r_V2 dX12_leaveBoth_3 l_X12_124 k_X12_areTwo i_X12_areTwo (Mod.sg (by assumption)) ⟨_, rfl⟩ (Nat.le_of_ble_eq_true rfl) (v_X12_areTwo X _ (by first | assumption | omega) (by first | assumption | omega)) (List.prefix_refl S) ?_
  refine r_ifB_ne (tgt := 11) dX12_leaveBoth_6 (by decide) (fun c6 => absurd hb1 (by rw [c6]; decide)) (fun c6 => ?_)
  refine r_iconst dX12_leaveBoth_9 ic_m1 ?_
  exact g_iret dX12_leaveBoth_10 rfl rfl

