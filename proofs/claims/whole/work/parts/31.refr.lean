/-! ===== the reference: what it answers and changes nothing ===== -/
theorem nSum_one {f g : Nat → Int32} : ∀ {n j : Nat}, j < n → (∀ k, k < n → k ≠ j → f k = g k) → nSum n f = nSum n g - g j + f j
  | n + 1, j, hj, h => by
    show nSum n f + f n = nSum n g + g n - g j + f j
    rcases Nat.lt_succ_iff_lt_or_eq.mp hj with h1 | rfl
    · rw [nSum_one h1 (fun k hk => h k (by omega)), h n (by omega) (by omega), Int32.sub_eq_add_neg, Int32.sub_eq_add_neg]
      ac_rfl
    · rw [nSum_congr (n := j) (fun k hk => h k (by omega) (by omega)), Int32.add_sub_cancel]
theorem lLw_j {w : Nat → Int32} {N i j b : Nat} (hN : N ≤ 6) (hj : j < N) (hij : i ≠ j) (hb : b.testBit j = true) : lLw w N i b (nI j) = lLeft w N i b - w (53 + (6 * i + j)) + w (53 + (6 * i + j)) / nI 2 := by
  have h0 : ((j ≠ i) ∧ b.testBit j = true) := ⟨fun e => hij e.symm, hb⟩
  unfold lLw lLeft
  rw [nSum_one (g := fun j => if j ≠ i ∧ b.testBit j = true then w (53 + (6 * i + j)) else 0) hj (fun k hk hkj => ?_)]
  · simp only [if_pos h0, if_true]
  · rw [if_neg (fun e => hkj ((nI_eq (by omega) (by omega)).mp e))]
theorem gLw_g {w s : Nat → Int32} {G i g : Nat} (hG : G ≤ 8) (hg : g < G) (h : ly s g i = true) : gLw w s G i (nI g) = gLeft w s G i - cnt w g := by
  unfold gLw gLeft
  rw [nSum_one (g := fun g => if ly s g i = true then cnt w g else 0) hg (fun k hk hkj => ?_)]
  · simp only [if_pos h]
    rw [if_neg (fun q => q.2 trivial), Int32.add_zero]
  · have e : ¬ nI k = nI g := fun e => hkj ((nI_eq (by omega) (by omega)).mp e)
    simp only [e, not_false_eq_true, and_true]
theorem nI_p1 (n : Nat) : nI n + nI 1 = nI (n + 1) := nI_inc n
theorem nI_p0 (n : Nat) : nI n + nI 0 = nI n := Int32.add_zero _
theorem i32_a (a b c e : Int32) : a + (b - c + e) = a + b - c + e := by
  rw [Int32.sub_eq_add_neg, Int32.sub_eq_add_neg]
  ac_rfl
theorem i32_b (a b c : Int32) : a - c + b = a + b - c := by
  rw [Int32.sub_eq_add_neg, Int32.sub_eq_add_neg]
  ac_rfl
def MoS (I : mI) (m : Nat) (ps : Nat → Nat) (vs : Nat → Int32) (N : Nat) : Prop := I 97 4 = nI m ∧ m ≤ 6 ∧ ∀ k, k < m → I 100 k = nI (ps k) ∧ ps k < N ∧ I 101 k = vs k
/-- those who can't leave -/
def stM (w s : Nat → Int32) (N G hb n : Nat) : Nat := nFold n (fun i b => if (hb.testBit i && !(!decide (s (1 + i) < owe w s N G hb i) && !alone w N (clr hb i))) = true then b ||| 2 ^ i else b) 0
theorem stM_s (w s : Nat → Int32) (N G hb n : Nat) : stM w s N G hb (n + 1) = if (hb.testBit n && !(!decide (s (1 + n) < owe w s N G hb n) && !alone w N (clr hb n))) = true then stM w s N G hb n ||| 2 ^ n else stM w s N G hb n := rfl
set_option maxHeartbeats 4000000 in
set_option maxRecDepth 100000 in
theorem v_X12_owes (X : mCx) (d : Nat) {S : mSh} {I : mI} {R : mR} {w s : Nat → Int32} {N G hb : Nat} {x : Int32} (hm : Mod S R) (hw : MoW I w N G) (hd : MoD I 0 s hb)  : CC X (d + 5) M_X12_owes [.ref 97, .int x] S (I, R) (some (.int (onP N x (fun i => if hb.testBit i = true then owe w s N G hb i else -2) (-1)))) S (I, R) := by
  have hN6 := hw.N6
  have hG8 := hw.G8
  have h256 := hd.b256
  refine CC.of2 (L := [.ref 97, .int x]) p_X12 (Nat.le_of_ble_eq_true rfl) rfl rfl (List.prefix_refl S) ?_
  refine r_aload_n dX12_owes_0 rfl ?_
  refine r_iload_n dX12_owes_1 rfl ?_
  refine r_V1 dX12_owes_2 l_X12_111 k_X12_isPerson i_X12_isPerson (Mod.sg (by assumption)) ⟨_, rfl⟩ (Nat.le_of_ble_eq_true rfl) (v_X12_isPerson X _ (by first | assumption | omega) (by first | assumption | omega)) (List.prefix_refl S) ?_
  refine r_ifB_ne (tgt := 10) dX12_owes_5 (by decide) (fun c5 => ?_) (fun c5 => ?_)
  · obtain ⟨i, hi, rfl⟩ := isP_t c5 (by omega); rw [onP_t hi (by omega)]
    refine r_aload_n dX12_owes_10 rfl ?_
    refine r_iload_n dX12_owes_11 rfl ?_
    refine r_V1 dX12_owes_12 l_X12_118 k_X12_isHere i_X12_isHere (Mod.sg (by assumption)) ⟨_, rfl⟩ (Nat.le_of_ble_eq_true rfl) (v_X12_isHere X _ (by first | assumption | omega) (by first | assumption | omega) (by first | assumption | omega)) (List.prefix_refl S) ?_
    refine r_ifB_eq (tgt := 26) dX12_owes_15 (by decide) (fun c15 => ?_) (fun c15 => ?_)
    · skip
      refine r_bipush dX12_owes_26 bp_m2 ?_
      exact g_iret dX12_owes_28 (by simp [*]) rfl
    · skip
      refine r_aload_n dX12_owes_18 rfl ?_
      refine r_iload_n dX12_owes_19 rfl ?_
      refine r_V1 dX12_owes_20 l_X12_144 k_X12_owesNow i_X12_owesNow (Mod.sg (by assumption)) ⟨_, rfl⟩ (Nat.le_of_ble_eq_true rfl) (v_X12_owesNow X _ (by first | assumption | omega) (by first | assumption | omega) (by first | assumption | omega) (by first | assumption | omega)) (List.prefix_refl S) ?_
      refine r_goto (tgt := 28) dX12_owes_23 (by decide) ?_
      exact g_iret dX12_owes_28 (by simp [*]) rfl
  · rw [onP_f c5]
    refine r_iconst dX12_owes_8 ic_m1 ?_
    exact g_iret dX12_owes_9 (by simp [*]) rfl

set_option maxHeartbeats 4000000 in
set_option maxRecDepth 100000 in
theorem v_X12_owesWith (X : mCx) (d : Nat) {S : mSh} {I : mI} {R : mR} {w s : Nat → Int32} {N G hb : Nat} {x y : Int32} (hm : Mod S R) (hw : MoW I w N G) (hd : MoD I 0 s hb)  : CC X (d + 4) M_X12_owesWith [.ref 97, .int x, .int y] S (I, R) (some (.int (onPP N x y (fun i j => if (hb.testBit i && hb.testBit j) = true then oweW w s N G hb i j else -2) (-1)))) S (I, R) := by
  have hN6 := hw.N6
  have hG8 := hw.G8
  have h256 := hd.b256
  refine CC.of2 (L := [.ref 97, .int x, .int y]) p_X12 (Nat.le_of_ble_eq_true rfl) rfl rfl (List.prefix_refl S) ?_
  refine r_aload_n dX12_owesWith_0 rfl ?_
  refine r_iload_n dX12_owesWith_1 rfl ?_
  refine r_iload_n dX12_owesWith_2 rfl ?_
  refine r_V2 dX12_owesWith_3 l_X12_124 k_X12_areTwo i_X12_areTwo (Mod.sg (by assumption)) ⟨_, rfl⟩ (Nat.le_of_ble_eq_true rfl) (v_X12_areTwo X _ (by first | assumption | omega) (by first | assumption | omega)) (List.prefix_refl S) ?_
  refine r_ifB_ne (tgt := 11) dX12_owesWith_6 (by decide) (fun c6 => ?_) (fun c6 => ?_)
  · obtain ⟨i, j, hi, hj, hij, rfl, rfl⟩ := twoP_t c6 (by omega); rw [onPP_t hi hj (by omega) hij]
    refine r_aload_n dX12_owesWith_11 rfl ?_
    refine r_iload_n dX12_owesWith_12 rfl ?_
    refine r_V1 dX12_owesWith_13 l_X12_118 k_X12_isHere i_X12_isHere (Mod.sg (by assumption)) ⟨_, rfl⟩ (Nat.le_of_ble_eq_true rfl) (v_X12_isHere X _ (by first | assumption | omega) (by first | assumption | omega) (by first | assumption | omega)) (List.prefix_refl S) ?_
    refine r_ifB_eq (tgt := 37) dX12_owesWith_16 (by decide) (fun c16 => ?_) (fun c16 => ?_)
    · skip
      refine r_bipush dX12_owesWith_37 bp_m2 ?_
      exact g_iret dX12_owesWith_39 (by simp [oweW, *]) rfl
    · skip
      refine r_aload_n dX12_owesWith_19 rfl ?_
      refine r_iload_n dX12_owesWith_20 rfl ?_
      refine r_V1 dX12_owesWith_21 l_X12_118 k_X12_isHere i_X12_isHere (Mod.sg (by assumption)) ⟨_, rfl⟩ (Nat.le_of_ble_eq_true rfl) (v_X12_isHere X _ (by first | assumption | omega) (by first | assumption | omega) (by first | assumption | omega)) (List.prefix_refl S) ?_
      refine r_ifB_eq (tgt := 37) dX12_owesWith_24 (by decide) (fun c24 => ?_) (fun c24 => ?_)
      · skip
        refine r_bipush dX12_owesWith_37 bp_m2 ?_
        exact g_iret dX12_owesWith_39 (by simp [oweW, *]) rfl
      · skip
        refine r_aload_n dX12_owesWith_27 rfl ?_
        refine r_iconst dX12_owesWith_28 ic_0 ?_
        refine r_iload_n dX12_owesWith_29 rfl ?_
        refine r_iload_n dX12_owesWith_30 rfl ?_
        refine r_V3 dX12_owesWith_31 l_X12_141 k_X12_owesIn i_X12_owesIn (Mod.sg (by assumption)) ⟨_, rfl⟩ (Nat.le_of_ble_eq_true rfl) (v_X12_owesIn X _ (by first | assumption | omega) (by first | assumption | omega) (by first | assumption | omega) (by first | assumption | omega)) (List.prefix_refl S) ?_
        rw [lLw_j hN6 hj hij c24]
        rw [i32_a]
        refine r_goto (tgt := 39) dX12_owesWith_34 (by decide) ?_
        exact g_iret dX12_owesWith_39 (by simp [oweW, *]) rfl
  · rw [onPP_f c6]
    refine r_iconst dX12_owesWith_9 ic_m1 ?_
    exact g_iret dX12_owesWith_10 (by simp [oweW, *]) rfl

set_option maxHeartbeats 4000000 in
set_option maxRecDepth 100000 in
theorem v_X12_person (X : mCx) (d : Nat) {S : mSh} {I : mI} {R : mR} {w s : Nat → Int32} {N G hb : Nat} {x y : Int32} (hm : Mod S R) (hw : MoW I w N G) (hd : MoD I 0 s hb)  : CC X (d + 3) M_X12_person [.ref 97, .int x, .int y] S (I, R) (some (.int (onP N x (fun i => aPer w s hb i y) (-1)))) S (I, R) := by
  have hN6 := hw.N6
  have hG8 := hw.G8
  have h256 := hd.b256
  refine CC.of2 (L := [.ref 97, .int x, .int y]) p_X12 (Nat.le_of_ble_eq_true rfl) rfl rfl (List.prefix_refl S) ?_
  refine r_aload_n dX12_person_0 rfl ?_
  refine r_iload_n dX12_person_1 rfl ?_
  refine r_V1 dX12_person_2 l_X12_111 k_X12_isPerson i_X12_isPerson (Mod.sg (by assumption)) ⟨_, rfl⟩ (Nat.le_of_ble_eq_true rfl) (v_X12_isPerson X _ (by first | assumption | omega) (by first | assumption | omega)) (List.prefix_refl S) ?_
  refine r_ifB_ne (tgt := 10) dX12_person_5 (by decide) (fun c5 => ?_) (fun c5 => ?_)
  · obtain ⟨i, hi, rfl⟩ := isP_t c5 (by omega); rw [onP_t hi (by omega)]
    refine r_iload_n dX12_person_10 rfl ?_
    by_cases k0 : y = nI 0
    · refine g_top k0 ?_
      refine r_tableIn (tgt := 44) dX12_person_11 (by decide) (by decide) (off := 33) rfl (by decide) ?_
      refine r_aload_n dX12_person_44 rfl ?_
      refine g_getR dX12_person_45 f_X12_7 (Mod.sg (by assumption)) rfl (Mod.r98 (by assumption)) ?_
      refine r_iconst dX12_person_48 ic_3 ?_
      refine r_iload_n dX12_person_49 rfl ?_
      refine n_iadd dX12_person_50 ?_
      refine g_iald dX12_person_51 (Mod.s98 (by assumption)) rfl (by omega) (by omega) (hw.at (by omega)) ?_
      exact g_iret dX12_person_52 (by unfold aPer; rw [if_pos k0]) rfl
    by_cases k1 : y = nI 1
    · refine g_top k1 ?_
      refine r_tableIn (tgt := 53) dX12_person_11 (by decide) (by decide) (off := 42) rfl (by decide) ?_
      refine r_aload_n dX12_person_53 rfl ?_
      refine g_getR dX12_person_54 f_X12_13 (Mod.sg (by assumption)) rfl (Mod.r99 (by assumption)) ?_
      refine r_iconst dX12_person_57 ic_1 ?_
      refine r_iload_n dX12_person_58 rfl ?_
      refine n_iadd dX12_person_59 ?_
      refine g_iald dX12_person_60 (Mod.s99 (by assumption)) rfl (by omega) (by omega) (hd.at (k := 1 + i) (by omega) (by omega)) ?_
      exact g_iret dX12_person_61 (by unfold aPer; rw [if_neg k0, if_pos k1]) rfl
    by_cases k2 : y = nI 2
    · refine g_top k2 ?_
      refine r_tableIn (tgt := 62) dX12_person_11 (by decide) (by decide) (off := 51) rfl (by decide) ?_
      refine r_aload_n dX12_person_62 rfl ?_
      refine g_getR dX12_person_63 f_X12_7 (Mod.sg (by assumption)) rfl (Mod.r98 (by assumption)) ?_
      refine r_bipush dX12_person_66 bp_15 ?_
      refine r_iload_n dX12_person_68 rfl ?_
      refine n_iadd dX12_person_69 ?_
      refine g_iald dX12_person_70 (Mod.s98 (by assumption)) rfl (by omega) (by omega) (hw.at (by omega)) ?_
      exact g_iret dX12_person_71 (by unfold aPer; rw [if_neg k0, if_neg k1, if_pos k2]) rfl
    by_cases k3 : y = nI 3
    · refine g_top k3 ?_
      refine r_tableIn (tgt := 72) dX12_person_11 (by decide) (by decide) (off := 61) rfl (by decide) ?_
      refine r_aload_n dX12_person_72 rfl ?_
      refine r_iload_n dX12_person_73 rfl ?_
      refine r_V1 dX12_person_74 l_X12_118 k_X12_isHere i_X12_isHere (Mod.sg (by assumption)) ⟨_, rfl⟩ (Nat.le_of_ble_eq_true rfl) (v_X12_isHere X _ (by first | assumption | omega) (by first | assumption | omega) (by first | assumption | omega)) (List.prefix_refl S) ?_
      refine r_ifB_eq (tgt := 84) dX12_person_77 (by decide) (fun c77 => ?_) (fun c77 => ?_)
      · skip
        refine r_iconst dX12_person_84 ic_0 ?_
        exact g_iret dX12_person_85 (by unfold aPer; rw [if_neg k0, if_neg k1, if_neg k2, if_pos k3, c77]; rfl) rfl
      · skip
        refine r_iconst dX12_person_80 ic_1 ?_
        refine r_goto (tgt := 85) dX12_person_81 (by decide) ?_
        exact g_iret dX12_person_85 (by unfold aPer; rw [if_neg k0, if_neg k1, if_neg k2, if_pos k3, c77]; rfl) rfl
    by_cases k4 : y = nI 4
    · refine g_top k4 ?_
      refine r_tableIn (tgt := 86) dX12_person_11 (by decide) (by decide) (off := 75) rfl (by decide) ?_
      refine r_aload_n dX12_person_86 rfl ?_
      refine g_getR dX12_person_87 f_X12_13 (Mod.sg (by assumption)) rfl (Mod.r99 (by assumption)) ?_
      refine r_bipush dX12_person_90 bp_7 ?_
      refine r_iload_n dX12_person_92 rfl ?_
      refine n_iadd dX12_person_93 ?_
      refine g_iald dX12_person_94 (Mod.s99 (by assumption)) rfl (by omega) (by omega) (hd.at (k := 7 + i) (by omega) (by omega)) ?_
      exact g_iret dX12_person_95 (by unfold aPer; rw [if_neg k0, if_neg k1, if_neg k2, if_neg k3, if_pos k4]) rfl
    refine r_tableOut (tgt := 96) dX12_person_11 (sw_outR 0 4 (by decide) (fun k h1 h2 e => by rcases (show k = 0 ∨ k = 1 ∨ k = 2 ∨ k = 3 ∨ k = 4 by omega) with rfl | rfl | rfl | rfl | rfl <;> first | exact k0 e | exact k1 e | exact k2 e | exact k3 e | exact k4 e)) (by decide) ?_
    refine r_iconst dX12_person_96 ic_m1 ?_
    exact g_iret dX12_person_97 (by unfold aPer; rw [if_neg k0, if_neg k1, if_neg k2, if_neg k3, if_neg k4]) rfl
  · rw [onP_f c5]
    refine r_iconst dX12_person_8 ic_m1 ?_
    exact g_iret dX12_person_9 rfl rfl

set_option maxHeartbeats 4000000 in
set_option maxRecDepth 100000 in
theorem v_X12_good (X : mCx) (d : Nat) {S : mSh} {I : mI} {R : mR} {w s : Nat → Int32} {N G hb : Nat} {x y : Int32} (hm : Mod S R) (hw : MoW I w N G) (hd : MoD I 0 s hb)  : CC X (d + 3) M_X12_good [.ref 97, .int x, .int y] S (I, R) (some (.int (onP G x (fun g => aGoo w s g y) (-1)))) S (I, R) := by
  have hN6 := hw.N6
  have hG8 := hw.G8
  have h256 := hd.b256
  refine CC.of2 (L := [.ref 97, .int x, .int y]) p_X12 (Nat.le_of_ble_eq_true rfl) rfl rfl (List.prefix_refl S) ?_
  refine r_aload_n dX12_good_0 rfl ?_
  refine r_iload_n dX12_good_1 rfl ?_
  refine r_V1 dX12_good_2 l_X12_121 k_X12_isGood i_X12_isGood (Mod.sg (by assumption)) ⟨_, rfl⟩ (Nat.le_of_ble_eq_true rfl) (v_X12_isGood X _ (by first | assumption | omega) (by first | assumption | omega)) (List.prefix_refl S) ?_
  refine r_ifB_ne (tgt := 10) dX12_good_5 (by decide) (fun c5 => ?_) (fun c5 => ?_)
  · obtain ⟨g, hg, rfl⟩ := isP_t c5 (by omega); rw [onP_t hg (by omega)]
    refine r_iload_n dX12_good_10 rfl ?_
    by_cases k0 : y = nI 0
    · refine g_top k0 ?_
      refine r_tableIn (tgt := 44) dX12_good_11 (by decide) (by decide) (off := 33) rfl (by decide) ?_
      refine r_aload_n dX12_good_44 rfl ?_
      refine g_getR dX12_good_45 f_X12_7 (Mod.sg (by assumption)) rfl (Mod.r98 (by assumption)) ?_
      refine r_bipush dX12_good_48 bp_21 ?_
      refine r_iload_n dX12_good_50 rfl ?_
      refine n_iadd dX12_good_51 ?_
      refine g_iald dX12_good_52 (Mod.s98 (by assumption)) rfl (by omega) (by omega) (hw.at (by omega)) ?_
      exact g_iret dX12_good_53 (by unfold aGoo; rw [if_pos k0]) rfl
    by_cases k1 : y = nI 1
    · refine g_top k1 ?_
      refine r_tableIn (tgt := 54) dX12_good_11 (by decide) (by decide) (off := 43) rfl (by decide) ?_
      refine r_aload_n dX12_good_54 rfl ?_
      refine g_getR dX12_good_55 f_X12_13 (Mod.sg (by assumption)) rfl (Mod.r99 (by assumption)) ?_
      refine r_bipush dX12_good_58 bp_19 ?_
      refine r_iload_n dX12_good_60 rfl ?_
      refine n_iadd dX12_good_61 ?_
      refine g_iald dX12_good_62 (Mod.s99 (by assumption)) rfl (by omega) (by omega) (hd.at (k := 19 + g) (by omega) (by omega)) ?_
      exact g_iret dX12_good_63 (by unfold aGoo; rw [if_neg k0, if_pos k1]) rfl
    by_cases k2 : y = nI 2
    · refine g_top k2 ?_
      refine r_tableIn (tgt := 64) dX12_good_11 (by decide) (by decide) (off := 53) rfl (by decide) ?_
      refine r_aload_n dX12_good_64 rfl ?_
      refine g_getR dX12_good_65 f_X12_7 (Mod.sg (by assumption)) rfl (Mod.r98 (by assumption)) ?_
      refine r_bipush dX12_good_68 bp_37 ?_
      refine r_iload_n dX12_good_70 rfl ?_
      refine n_iadd dX12_good_71 ?_
      refine g_iald dX12_good_72 (Mod.s98 (by assumption)) rfl (by omega) (by omega) (hw.at (by omega)) ?_
      exact g_iret dX12_good_73 (by unfold aGoo; rw [if_neg k0, if_neg k1, if_pos k2]) rfl
    by_cases k3 : y = nI 3
    · refine g_top k3 ?_
      refine r_tableIn (tgt := 74) dX12_good_11 (by decide) (by decide) (off := 63) rfl (by decide) ?_
      refine r_aload_n dX12_good_74 rfl ?_
      refine g_getR dX12_good_75 f_X12_7 (Mod.sg (by assumption)) rfl (Mod.r98 (by assumption)) ?_
      refine r_bipush dX12_good_78 bp_45 ?_
      refine r_iload_n dX12_good_80 rfl ?_
      refine n_iadd dX12_good_81 ?_
      refine g_iald dX12_good_82 (Mod.s98 (by assumption)) rfl (by omega) (by omega) (hw.at (by omega)) ?_
      exact g_iret dX12_good_83 (by unfold aGoo; rw [if_neg k0, if_neg k1, if_neg k2, if_pos k3]) rfl
    by_cases k4 : y = nI 4
    · refine g_top k4 ?_
      refine r_tableIn (tgt := 84) dX12_good_11 (by decide) (by decide) (off := 73) rfl (by decide) ?_
      refine r_aload_n dX12_good_84 rfl ?_
      refine g_getR dX12_good_85 f_X12_13 (Mod.sg (by assumption)) rfl (Mod.r99 (by assumption)) ?_
      refine r_bipush dX12_good_88 bp_27 ?_
      refine r_iload_n dX12_good_90 rfl ?_
      refine n_iadd dX12_good_91 ?_
      refine g_iald dX12_good_92 (Mod.s99 (by assumption)) rfl (by omega) (by omega) (hd.at (k := 27 + g) (by omega) (by omega)) ?_
      exact g_iret dX12_good_93 (by unfold aGoo; rw [if_neg k0, if_neg k1, if_neg k2, if_neg k3, if_pos k4]) rfl
    refine r_tableOut (tgt := 94) dX12_good_11 (sw_outR 0 4 (by decide) (fun k h1 h2 e => by rcases (show k = 0 ∨ k = 1 ∨ k = 2 ∨ k = 3 ∨ k = 4 by omega) with rfl | rfl | rfl | rfl | rfl <;> first | exact k0 e | exact k1 e | exact k2 e | exact k3 e | exact k4 e)) (by decide) ?_
    refine r_iconst dX12_good_94 ic_m1 ?_
    exact g_iret dX12_good_95 (by unfold aGoo; rw [if_neg k0, if_neg k1, if_neg k2, if_neg k3, if_neg k4]) rfl
  · rw [onP_f c5]
    refine r_iconst dX12_good_8 ic_m1 ?_
    exact g_iret dX12_good_9 rfl rfl

set_option maxHeartbeats 4000000 in
set_option maxRecDepth 100000 in
theorem v_X12_love (X : mCx) (d : Nat) {S : mSh} {I : mI} {R : mR} {w : Nat → Int32} {N G : Nat} {x y : Int32} (hm : Mod S R) (hw : MoW I w N G)  : CC X (d + 4) M_X12_love [.ref 97, .int x, .int y] S (I, R) (some (.int (onPP N x y (fun i j => w (53 + (6 * i + j))) (-1)))) S (I, R) := by
  have hN6 := hw.N6
  have hG8 := hw.G8
  refine CC.of2 (L := [.ref 97, .int x, .int y]) p_X12 (Nat.le_of_ble_eq_true rfl) rfl rfl (List.prefix_refl S) ?_
  refine r_aload_n dX12_love_0 rfl ?_
  refine r_iload_n dX12_love_1 rfl ?_
  refine r_iload_n dX12_love_2 rfl ?_
  refine r_V2 dX12_love_3 l_X12_124 k_X12_areTwo i_X12_areTwo (Mod.sg (by assumption)) ⟨_, rfl⟩ (Nat.le_of_ble_eq_true rfl) (v_X12_areTwo X _ (by first | assumption | omega) (by first | assumption | omega)) (List.prefix_refl S) ?_
  refine r_ifB_eq (tgt := 26) dX12_love_6 (by decide) (fun c6 => ?_) (fun c6 => ?_)
  · rw [onPP_f c6]
    refine r_iconst dX12_love_26 ic_m1 ?_
    exact g_iret dX12_love_27 (by first | rfl | (rw [Nat.add_assoc])) rfl
  · obtain ⟨i, j, hi, hj, hij, rfl, rfl⟩ := twoP_t c6 (by omega); rw [onPP_t hi hj (by omega) hij]
    refine r_aload_n dX12_love_9 rfl ?_
    refine g_getR dX12_love_10 f_X12_7 (Mod.sg (by assumption)) rfl (Mod.r98 (by assumption)) ?_
    refine r_bipush dX12_love_13 bp_53 ?_
    refine r_bipush dX12_love_15 bp_6 ?_
    refine r_iload_n dX12_love_17 rfl ?_
    refine n_imul dX12_love_18 ?_
    refine n_iadd dX12_love_19 ?_
    refine r_iload_n dX12_love_20 rfl ?_
    refine n_iadd dX12_love_21 ?_
    refine g_iald dX12_love_22 (Mod.s98 (by assumption)) rfl (by omega) (by omega) (hw.at (by omega)) ?_
    refine r_goto (tgt := 27) dX12_love_23 (by decide) ?_
    exact g_iret dX12_love_27 (by first | rfl | (rw [Nat.add_assoc])) rfl

set_option maxHeartbeats 4000000 in
set_option maxRecDepth 100000 in
theorem v_X12_stuck (X : mCx) (d : Nat) {S : mSh} {I : mI} {R : mR} {w s : Nat → Int32} {N G hb : Nat} (hm : Mod S R) (hw : MoW I w N G) (hd : MoD I 0 s hb)  : CC X (d + 5) M_X12_stuck [.ref 97] S (I, R) (some (.int (nI (stM w s N G hb N)))) S (I, R) := by
  have hN6 := hw.N6
  have hG8 := hw.G8
  have h256 := hd.b256
  refine CC.of2 (L := [.ref 97, .retAddr 0, .retAddr 0]) p_X12 (Nat.le_of_ble_eq_true rfl) rfl rfl (List.prefix_refl S) ?_
  refine r_iconst dX12_stuck_0 ic_0 ?_
  refine r_istore_n (L' := [_, _, _]) dX12_stuck_1 rfl rfl ?_
  refine r_iconst dX12_stuck_2 ic_0 ?_
  refine r_istore_n (L' := [_, _, _]) dX12_stuck_3 rfl rfl ?_
  refine JJ.loop N (fun j => [.ref 97, .int (nI (stM w s N G hb j)), .int (nI j)]) (fun j => (I, R)) (fun j => True) rfl rfl trivial (fun hp => ?_) (fun j hj hp K => ?_)
  · skip
    refine r_iload_n dX12_stuck_4 rfl ?_
    refine r_aload_n dX12_stuck_5 rfl ?_
    refine g_getR dX12_stuck_6 f_X12_7 (Mod.sg (by assumption)) rfl (Mod.r98 (by assumption)) ?_
    refine r_iconst dX12_stuck_9 ic_0 ?_
    refine g_iald dX12_stuck_10 (Mod.s98 (by assumption)) rfl (by omega) (by omega) hw.n0 ?_
    refine n_icmp_ge (tgt := 47) dX12_stuck_11 (by decide) (by omega) (by omega) (fun c11 => ?_) (fun c11 => absurd c11 (by omega))
    refine r_iload_n dX12_stuck_47 rfl ?_
    exact g_iret dX12_stuck_48 rfl rfl
  · skip
    refine r_iload_n dX12_stuck_4 rfl ?_
    refine r_aload_n dX12_stuck_5 rfl ?_
    refine g_getR dX12_stuck_6 f_X12_7 (Mod.sg (by assumption)) rfl (Mod.r98 (by assumption)) ?_
    refine r_iconst dX12_stuck_9 ic_0 ?_
    refine g_iald dX12_stuck_10 (Mod.s98 (by assumption)) rfl (by omega) (by omega) hw.n0 ?_
    refine n_icmp_ge (tgt := 47) dX12_stuck_11 (by decide) (by omega) (by omega) (fun c11 => absurd c11 (by omega)) (fun c11 => ?_)
    refine r_iload_n dX12_stuck_14 rfl ?_
    refine r_aload_n dX12_stuck_15 rfl ?_
    refine r_iload_n dX12_stuck_16 rfl ?_
    refine r_V1 dX12_stuck_17 l_X12_118 k_X12_isHere i_X12_isHere (Mod.sg (by assumption)) ⟨_, rfl⟩ (Nat.le_of_ble_eq_true rfl) (v_X12_isHere X _ (by first | assumption | omega) (by first | assumption | omega) (by first | assumption | omega)) (List.prefix_refl S) ?_
    refine r_ifB_eq (tgt := 38) dX12_stuck_20 (by decide) (fun c20 => ?_) (fun c20 => ?_)
    · skip
      refine r_iconst dX12_stuck_38 ic_0 ?_
      refine r_ior dX12_stuck_39 ?_
      refine g_top (nI_or _ _) ?_
      refine r_istore_n (L' := [_, _, _]) dX12_stuck_40 rfl rfl ?_
      refine r_iinc (L' := [_, _, _]) dX12_stuck_41 rfl rfl (nI_inc _) rfl ?_
      refine r_goto (tgt := 4) dX12_stuck_44 (by decide) ?_
      first | exact JJ.to (K trivial) (by rw [stM_s, if_pos (by rw [c20, c29]; rfl)]) rfl rfl | exact JJ.to (K trivial) (by rw [stM_s, if_neg (by rw [c20, c29]; decide), Nat.or_zero]) rfl rfl | exact JJ.to (K trivial) (by rw [stM_s, if_neg (by rw [c20, Bool.false_and]; decide), Nat.or_zero]) rfl rfl
    · skip
      refine r_aload_n dX12_stuck_23 rfl ?_
      refine r_iconst dX12_stuck_24 ic_0 ?_
      refine r_iload_n dX12_stuck_25 rfl ?_
      refine r_V2 dX12_stuck_26 l_X12_163 k_X12_canLeave i_X12_canLeave (Mod.sg (by assumption)) ⟨_, rfl⟩ (Nat.le_of_ble_eq_true rfl) (v_X12_canLeave X _ (by first | assumption | omega) (by first | assumption | omega) (by first | assumption | omega) (by first | assumption | omega)) (List.prefix_refl S) ?_
      refine r_ifB_ne (tgt := 38) dX12_stuck_29 (by decide) (fun c29 => ?_) (fun c29 => ?_)
      · skip
        refine r_iconst dX12_stuck_38 ic_0 ?_
        refine r_ior dX12_stuck_39 ?_
        refine g_top (nI_or _ _) ?_
        refine r_istore_n (L' := [_, _, _]) dX12_stuck_40 rfl rfl ?_
        refine r_iinc (L' := [_, _, _]) dX12_stuck_41 rfl rfl (nI_inc _) rfl ?_
        refine r_goto (tgt := 4) dX12_stuck_44 (by decide) ?_
        first | exact JJ.to (K trivial) (by rw [stM_s, if_pos (by rw [c20, c29]; rfl)]) rfl rfl | exact JJ.to (K trivial) (by rw [stM_s, if_neg (by rw [c20, c29]; decide), Nat.or_zero]) rfl rfl | exact JJ.to (K trivial) (by rw [stM_s, if_neg (by rw [c20, Bool.false_and]; decide), Nat.or_zero]) rfl rfl
      · skip
        refine r_iconst dX12_stuck_32 ic_1 ?_
        refine r_iload_n dX12_stuck_33 rfl ?_
        refine r_ishl dX12_stuck_34 ?_
        refine g_top (shl1 (by omega)) ?_
        refine r_goto (tgt := 39) dX12_stuck_35 (by decide) ?_
        refine r_ior dX12_stuck_39 ?_
        refine g_top (nI_or _ _) ?_
        refine r_istore_n (L' := [_, _, _]) dX12_stuck_40 rfl rfl ?_
        refine r_iinc (L' := [_, _, _]) dX12_stuck_41 rfl rfl (nI_inc _) rfl ?_
        refine r_goto (tgt := 4) dX12_stuck_44 (by decide) ?_
        first | exact JJ.to (K trivial) (by rw [stM_s, if_pos (by rw [c20, c29]; rfl)]) rfl rfl | exact JJ.to (K trivial) (by rw [stM_s, if_neg (by rw [c20, c29]; decide), Nat.or_zero]) rfl rfl | exact JJ.to (K trivial) (by rw [stM_s, if_neg (by rw [c20, Bool.false_and]; decide), Nat.or_zero]) rfl rfl

set_option maxHeartbeats 4000000 in
set_option maxRecDepth 100000 in
theorem v_X12_isFalse (X : mCx) (d : Nat) {S : mSh} {I : mI} {R : mR} {w s vs : Nat → Int32} {ps : Nat → Nat} {N G hb m : Nat} {x : Int32} (hm : Mod S R) (hw : MoW I w N G) (hd : MoD I 0 s hb) (ho : MoS I m ps vs N)  : CC X (d + 5) M_X12_isFalse [.ref 97, .int x] S (I, R) (some (.int (onP m x (fun k => if hb.testBit (ps k) = true then nI (fBs w s N G hb (ps k) (vs k) G) else -2) (-1)))) S (I, R) := by
  have hN6 := hw.N6
  have hG8 := hw.G8
  have h256 := hd.b256
  have hm6 := ho.2.1
  refine CC.of2 (L := [.ref 97, .int x, .retAddr 0, .retAddr 0, .retAddr 0, .retAddr 0, .retAddr 0]) p_X12 (Nat.le_of_ble_eq_true rfl) rfl rfl (List.prefix_refl S) ?_
  refine r_iload_n dX12_isFalse_0 rfl ?_
  refine r_i2l dX12_isFalse_1 rfl ?_
  refine r_lconst (v := lN 0) dX12_isFalse_2 rfl ?_
  refine r_aload_n dX12_isFalse_3 rfl ?_
  refine g_getI dX12_isFalse_4 f_X12_75 (Mod.sg (by assumption)) rfl ho.1 ?_
  refine r_iconst dX12_isFalse_7 ic_1 ?_
  refine r_isub dX12_isFalse_8 ?_
  refine r_i2l dX12_isFalse_9 rfl ?_
  refine r_S3 dX12_isFalse_10 l_X12_62 k_X12_in s_X12_in (Nat.le_of_ble_eq_true rfl) (v_X12_in X _ ) (List.prefix_refl S) ?_
  refine g_top (congrArg bI (inP (n := m) (by omega))) ?_
  refine r_ifB_ne (tgt := 18) dX12_isFalse_13 (by decide) (fun c13 => ?_) (fun c13 => ?_)
  · obtain ⟨k, hk, rfl⟩ := isP_t c13 (by omega); rw [onP_t hk (by omega)]
    have hps := (ho.2.2 k hk).2.1
    refine r_aload_n dX12_isFalse_18 rfl ?_
    refine g_getR dX12_isFalse_19 f_X12_16 (Mod.sg (by assumption)) rfl (Mod.r100 (by assumption)) ?_
    refine r_iload_n dX12_isFalse_22 rfl ?_
    refine g_iald dX12_isFalse_23 (Mod.s100 (by assumption)) rfl (by have := ho.2.1; omega) (by omega) ((ho.2.2 k hk).1) ?_
    refine r_istore_n (L' := [_, _, _, _, _, _, _]) dX12_isFalse_24 rfl rfl ?_
    refine r_aload_n dX12_isFalse_25 rfl ?_
    refine r_iload_n dX12_isFalse_26 rfl ?_
    refine r_V1 dX12_isFalse_27 l_X12_118 k_X12_isHere i_X12_isHere (Mod.sg (by assumption)) ⟨_, rfl⟩ (Nat.le_of_ble_eq_true rfl) (v_X12_isHere X _ (by first | assumption | omega) (by first | assumption | omega) (by first | assumption | omega)) (List.prefix_refl S) ?_
    refine r_ifB_ne (tgt := 36) dX12_isFalse_30 (by decide) (fun c30 => ?_) (fun c30 => ?_)
    · skip
      refine r_aload_n dX12_isFalse_36 rfl ?_
      refine r_aload_n dX12_isFalse_37 rfl ?_
      refine g_getR dX12_isFalse_38 f_X12_13 (Mod.sg (by assumption)) rfl (Mod.r99 (by assumption)) ?_
      refine r_iconst dX12_isFalse_41 ic_0 ?_
      refine g_iald dX12_isFalse_42 (Mod.s99 (by assumption)) rfl (by omega) (by omega) (hd.h0 (by omega)) ?_
      refine r_iload_n dX12_isFalse_43 rfl ?_
      refine r_bipush dX12_isFalse_44 bp_m4 ?_
      refine r_V3 dX12_isFalse_46 l_X12_134 k_X12_lovedBy i_X12_lovedBy (Mod.sg (by assumption)) ⟨_, rfl⟩ (Nat.le_of_ble_eq_true rfl) (v_X12_lovedBy X _ (by first | assumption | omega) (by first | assumption | omega) (by first | assumption | omega) (by first | assumption | omega)) (List.prefix_refl S) ?_
      rw [lLw_n hN6]
      refine r_istore_n (L' := [_, _, _, _, _, _, _]) dX12_isFalse_49 rfl rfl ?_
      refine r_aload_n dX12_isFalse_50 rfl ?_
      refine r_iload_n dX12_isFalse_51 rfl ?_
      refine r_V1 dX12_isFalse_52 l_X12_144 k_X12_owesNow i_X12_owesNow (Mod.sg (by assumption)) ⟨_, rfl⟩ (Nat.le_of_ble_eq_true rfl) (v_X12_owesNow X _ (by first | assumption | omega) (by first | assumption | omega) (by first | assumption | omega) (by first | assumption | omega)) (List.prefix_refl S) ?_
      refine r_aload_n dX12_isFalse_55 rfl ?_
      refine g_getR dX12_isFalse_56 f_X12_19 (Mod.sg (by assumption)) rfl (Mod.r101 (by assumption)) ?_
      refine r_iload_n dX12_isFalse_59 rfl ?_
      refine g_iald dX12_isFalse_60 (Mod.s101 (by assumption)) rfl (by have := ho.2.1; omega) (by omega) ((ho.2.2 k hk).2.2) ?_
      refine r_icmp_ne (tgt := 70) dX12_isFalse_61 (by decide) (fun c61 => ?_) (fun c61 => ?_)
      · skip
        refine r_iconst dX12_isFalse_70 ic_0 ?_
        refine g_top (show _ = nI (fB0 w s N G hb (ps k) (vs k)) by first | exact (by unfold fB0; rw [if_pos c61]) | exact (by unfold fB0; rw [if_neg c61])) ?_
        refine r_istore (L' := [_, _, _, _, _, _, _]) dX12_isFalse_71 rfl rfl ?_
        refine r_iconst dX12_isFalse_73 ic_0 ?_
        refine r_istore (L' := [_, _, _, _, _, _, _]) dX12_isFalse_74 rfl rfl ?_
        refine JJ.loop G (fun j => [.ref 97, .int (nI k), .int (nI (ps k)), .int (lLeft w N (ps k) hb), .int (nI (fBs w s N G hb (ps k) (vs k) j)), .int (nI j), .retAddr 0]) (fun j => (I, R)) (fun j => True) rfl rfl trivial (fun hp => ?_) (fun j hj hp K => ?_)
        · skip
          refine r_iload dX12_isFalse_76 rfl ?_
          refine r_aload_n dX12_isFalse_78 rfl ?_
          refine g_getR dX12_isFalse_79 f_X12_7 (Mod.sg (by assumption)) rfl (Mod.r98 (by assumption)) ?_
          refine r_iconst dX12_isFalse_82 ic_1 ?_
          refine g_iald dX12_isFalse_83 (Mod.s98 (by assumption)) rfl (by omega) (by omega) hw.n1 ?_
          refine n_icmp_ge (tgt := 169) dX12_isFalse_84 (by decide) (by omega) (by omega) (fun c84 => ?_) (fun c84 => absurd c84 (by omega))
          refine r_iload dX12_isFalse_169 rfl ?_
          exact g_iret dX12_isFalse_171 (by rw [if_pos c30]) rfl
        · skip
          refine r_iload dX12_isFalse_76 rfl ?_
          refine r_aload_n dX12_isFalse_78 rfl ?_
          refine g_getR dX12_isFalse_79 f_X12_7 (Mod.sg (by assumption)) rfl (Mod.r98 (by assumption)) ?_
          refine r_iconst dX12_isFalse_82 ic_1 ?_
          refine g_iald dX12_isFalse_83 (Mod.s98 (by assumption)) rfl (by omega) (by omega) hw.n1 ?_
          refine n_icmp_ge (tgt := 169) dX12_isFalse_84 (by decide) (by omega) (by omega) (fun c84 => absurd c84 (by omega)) (fun c84 => ?_)
          refine r_aload_n dX12_isFalse_87 rfl ?_
          refine g_getR dX12_isFalse_88 f_X12_13 (Mod.sg (by assumption)) rfl (Mod.r99 (by assumption)) ?_
          refine r_bipush dX12_isFalse_91 bp_19 ?_
          refine r_iload dX12_isFalse_93 rfl ?_
          refine n_iadd dX12_isFalse_95 ?_
          refine g_iald dX12_isFalse_96 (Mod.s99 (by assumption)) rfl (by omega) (by omega) (hd.at (k := 19 + j) (by omega) (by omega)) ?_
          refine r_iload_n dX12_isFalse_97 rfl ?_
          refine r_icmp_ne (tgt := 118) dX12_isFalse_98 (by decide) (fun c98 => ?_) (fun c98 => ?_)
          · have hly : ly s j (ps k) = false := by simp [ly, c98]
            refine r_iconst dX12_isFalse_118 ic_0 ?_
            refine r_istore (L' := [_, _, _, _, _, _, _]) dX12_isFalse_119 rfl rfl ?_
            refine r_iload dX12_isFalse_121 rfl ?_
            refine r_iload dX12_isFalse_123 rfl ?_
            refine n_if_eq (tgt := 159) dX12_isFalse_125 (by decide) (by omega) (fun c125 => ?_) (fun c125 => absurd rfl c125)
            refine r_iconst dX12_isFalse_159 ic_0 ?_
            refine r_ior dX12_isFalse_160 ?_
            refine g_top (nI_or _ _) ?_
            refine r_istore (L' := [_, _, _, _, _, _, _]) dX12_isFalse_161 rfl rfl ?_
            refine r_iinc (L' := [_, _, _, _, _, _, _]) dX12_isFalse_163 rfl rfl (nI_inc _) rfl ?_
            refine r_goto (tgt := 76) dX12_isFalse_166 (by decide) ?_
            refine JJ.wk_at 6 (JJ.to (K trivial) ?_ rfl rfl); rw [fBs_s]; first | (rw [if_pos (And.intro hly c149)]; rfl) | (rw [if_neg (fun z => c149 z.2), Nat.or_zero]; rfl) | (rw [if_neg (fun z => by rw [hly] at z; exact absurd z.1 (by decide)), Nat.or_zero]; rfl)
          · skip
            refine r_aload_n dX12_isFalse_101 rfl ?_
            refine g_getR dX12_isFalse_102 f_X12_13 (Mod.sg (by assumption)) rfl (Mod.r99 (by assumption)) ?_
            refine r_bipush dX12_isFalse_105 bp_27 ?_
            refine r_iload dX12_isFalse_107 rfl ?_
            refine n_iadd dX12_isFalse_109 ?_
            refine g_iald dX12_isFalse_110 (Mod.s99 (by assumption)) rfl (by omega) (by omega) (hd.at (k := 27 + j) (by omega) (by omega)) ?_
            refine r_if_ne (tgt := 118) dX12_isFalse_111 (by decide) (fun c111 => ?_) (fun c111 => ?_)
            · have hly : ly s j (ps k) = false := by simp [ly, c111]
              refine r_iconst dX12_isFalse_118 ic_0 ?_
              refine r_istore (L' := [_, _, _, _, _, _, _]) dX12_isFalse_119 rfl rfl ?_
              refine r_iload dX12_isFalse_121 rfl ?_
              refine r_iload dX12_isFalse_123 rfl ?_
              refine n_if_eq (tgt := 159) dX12_isFalse_125 (by decide) (by omega) (fun c125 => ?_) (fun c125 => absurd rfl c125)
              refine r_iconst dX12_isFalse_159 ic_0 ?_
              refine r_ior dX12_isFalse_160 ?_
              refine g_top (nI_or _ _) ?_
              refine r_istore (L' := [_, _, _, _, _, _, _]) dX12_isFalse_161 rfl rfl ?_
              refine r_iinc (L' := [_, _, _, _, _, _, _]) dX12_isFalse_163 rfl rfl (nI_inc _) rfl ?_
              refine r_goto (tgt := 76) dX12_isFalse_166 (by decide) ?_
              refine JJ.wk_at 6 (JJ.to (K trivial) ?_ rfl rfl); rw [fBs_s]; first | (rw [if_pos (And.intro hly c149)]; rfl) | (rw [if_neg (fun z => c149 z.2), Nat.or_zero]; rfl) | (rw [if_neg (fun z => by rw [hly] at z; exact absurd z.1 (by decide)), Nat.or_zero]; rfl)
            · have hly : ly s j (ps k) = true := by simp [ly, c98, c111]
              refine r_iconst dX12_isFalse_114 ic_1 ?_
              refine r_goto (tgt := 119) dX12_isFalse_115 (by decide) ?_
              refine r_istore (L' := [_, _, _, _, _, _, _]) dX12_isFalse_119 rfl rfl ?_
              refine r_iload dX12_isFalse_121 rfl ?_
              refine r_iload dX12_isFalse_123 rfl ?_
              refine n_if_eq (tgt := 159) dX12_isFalse_125 (by decide) (by omega) (fun c125 => absurd c125 (by decide)) (fun c125 => ?_)
              refine r_aload_n dX12_isFalse_128 rfl ?_
              refine r_iload_n dX12_isFalse_129 rfl ?_
              refine r_aload_n dX12_isFalse_130 rfl ?_
              refine r_iconst dX12_isFalse_131 ic_0 ?_
              refine r_iload_n dX12_isFalse_132 rfl ?_
              refine r_iload dX12_isFalse_133 rfl ?_
              refine r_V3 dX12_isFalse_135 l_X12_130 k_X12_leftBy i_X12_leftBy (Mod.sg (by assumption)) ⟨_, rfl⟩ (Nat.le_of_ble_eq_true rfl) (v_X12_leftBy X _ (by first | assumption | omega) (by first | assumption | omega) (by first | assumption | omega)) (List.prefix_refl S) ?_
              rw [gLw_g hG8 hj hly]
              refine r_iload_n dX12_isFalse_138 rfl ?_
              refine r_iadd dX12_isFalse_139 ?_
              rw [i32_b]
              refine r_V2 dX12_isFalse_140 l_X12_137 k_X12_dutyOf i_X12_dutyOf (Mod.sg (by assumption)) ⟨_, rfl⟩ (Nat.le_of_ble_eq_true rfl) (v_X12_dutyOf X _ (by first | assumption | omega) (by first | assumption | omega) (by first | assumption | omega)) (List.prefix_refl S) ?_
              refine r_aload_n dX12_isFalse_143 rfl ?_
              refine g_getR dX12_isFalse_144 f_X12_19 (Mod.sg (by assumption)) rfl (Mod.r101 (by assumption)) ?_
              refine r_iload_n dX12_isFalse_147 rfl ?_
              refine g_iald dX12_isFalse_148 (Mod.s101 (by assumption)) rfl (by have := ho.2.1; omega) (by omega) ((ho.2.2 k hk).2.2) ?_
              refine r_icmp_ne (tgt := 159) dX12_isFalse_149 (by decide) (fun c149 => ?_) (fun c149 => ?_)
              · skip
                refine r_iconst dX12_isFalse_159 ic_0 ?_
                refine r_ior dX12_isFalse_160 ?_
                refine g_top (nI_or _ _) ?_
                refine r_istore (L' := [_, _, _, _, _, _, _]) dX12_isFalse_161 rfl rfl ?_
                refine r_iinc (L' := [_, _, _, _, _, _, _]) dX12_isFalse_163 rfl rfl (nI_inc _) rfl ?_
                refine r_goto (tgt := 76) dX12_isFalse_166 (by decide) ?_
                refine JJ.wk_at 6 (JJ.to (K trivial) ?_ rfl rfl); rw [fBs_s]; first | (rw [if_pos (And.intro hly c149)]; rfl) | (rw [if_neg (fun z => c149 z.2), Nat.or_zero]; rfl) | (rw [if_neg (fun z => by rw [hly] at z; exact absurd z.1 (by decide)), Nat.or_zero]; rfl)
              · skip
                refine r_iconst dX12_isFalse_152 ic_1 ?_
                refine r_iload dX12_isFalse_153 rfl ?_
                refine r_ishl dX12_isFalse_155 ?_
                refine g_top (shl1 (by omega)) ?_
                refine r_goto (tgt := 160) dX12_isFalse_156 (by decide) ?_
                refine r_ior dX12_isFalse_160 ?_
                refine g_top (nI_or _ _) ?_
                refine r_istore (L' := [_, _, _, _, _, _, _]) dX12_isFalse_161 rfl rfl ?_
                refine r_iinc (L' := [_, _, _, _, _, _, _]) dX12_isFalse_163 rfl rfl (nI_inc _) rfl ?_
                refine r_goto (tgt := 76) dX12_isFalse_166 (by decide) ?_
                refine JJ.wk_at 6 (JJ.to (K trivial) ?_ rfl rfl); rw [fBs_s]; first | (rw [if_pos (And.intro hly c149)]; rfl) | (rw [if_neg (fun z => c149 z.2), Nat.or_zero]; rfl) | (rw [if_neg (fun z => by rw [hly] at z; exact absurd z.1 (by decide)), Nat.or_zero]; rfl)
      · skip
        refine r_sipush dX12_isFalse_64 sp_256 ?_
        refine r_goto (tgt := 71) dX12_isFalse_67 (by decide) ?_
        refine g_top (show _ = nI (fB0 w s N G hb (ps k) (vs k)) by first | exact (by unfold fB0; rw [if_pos c61]) | exact (by unfold fB0; rw [if_neg c61])) ?_
        refine r_istore (L' := [_, _, _, _, _, _, _]) dX12_isFalse_71 rfl rfl ?_
        refine r_iconst dX12_isFalse_73 ic_0 ?_
        refine r_istore (L' := [_, _, _, _, _, _, _]) dX12_isFalse_74 rfl rfl ?_
        refine JJ.loop G (fun j => [.ref 97, .int (nI k), .int (nI (ps k)), .int (lLeft w N (ps k) hb), .int (nI (fBs w s N G hb (ps k) (vs k) j)), .int (nI j), .retAddr 0]) (fun j => (I, R)) (fun j => True) rfl rfl trivial (fun hp => ?_) (fun j hj hp K => ?_)
        · skip
          refine r_iload dX12_isFalse_76 rfl ?_
          refine r_aload_n dX12_isFalse_78 rfl ?_
          refine g_getR dX12_isFalse_79 f_X12_7 (Mod.sg (by assumption)) rfl (Mod.r98 (by assumption)) ?_
          refine r_iconst dX12_isFalse_82 ic_1 ?_
          refine g_iald dX12_isFalse_83 (Mod.s98 (by assumption)) rfl (by omega) (by omega) hw.n1 ?_
          refine n_icmp_ge (tgt := 169) dX12_isFalse_84 (by decide) (by omega) (by omega) (fun c84 => ?_) (fun c84 => absurd c84 (by omega))
          refine r_iload dX12_isFalse_169 rfl ?_
          exact g_iret dX12_isFalse_171 (by rw [if_pos c30]) rfl
        · skip
          refine r_iload dX12_isFalse_76 rfl ?_
          refine r_aload_n dX12_isFalse_78 rfl ?_
          refine g_getR dX12_isFalse_79 f_X12_7 (Mod.sg (by assumption)) rfl (Mod.r98 (by assumption)) ?_
          refine r_iconst dX12_isFalse_82 ic_1 ?_
          refine g_iald dX12_isFalse_83 (Mod.s98 (by assumption)) rfl (by omega) (by omega) hw.n1 ?_
          refine n_icmp_ge (tgt := 169) dX12_isFalse_84 (by decide) (by omega) (by omega) (fun c84 => absurd c84 (by omega)) (fun c84 => ?_)
          refine r_aload_n dX12_isFalse_87 rfl ?_
          refine g_getR dX12_isFalse_88 f_X12_13 (Mod.sg (by assumption)) rfl (Mod.r99 (by assumption)) ?_
          refine r_bipush dX12_isFalse_91 bp_19 ?_
          refine r_iload dX12_isFalse_93 rfl ?_
          refine n_iadd dX12_isFalse_95 ?_
          refine g_iald dX12_isFalse_96 (Mod.s99 (by assumption)) rfl (by omega) (by omega) (hd.at (k := 19 + j) (by omega) (by omega)) ?_
          refine r_iload_n dX12_isFalse_97 rfl ?_
          refine r_icmp_ne (tgt := 118) dX12_isFalse_98 (by decide) (fun c98 => ?_) (fun c98 => ?_)
          · have hly : ly s j (ps k) = false := by simp [ly, c98]
            refine r_iconst dX12_isFalse_118 ic_0 ?_
            refine r_istore (L' := [_, _, _, _, _, _, _]) dX12_isFalse_119 rfl rfl ?_
            refine r_iload dX12_isFalse_121 rfl ?_
            refine r_iload dX12_isFalse_123 rfl ?_
            refine n_if_eq (tgt := 159) dX12_isFalse_125 (by decide) (by omega) (fun c125 => ?_) (fun c125 => absurd rfl c125)
            refine r_iconst dX12_isFalse_159 ic_0 ?_
            refine r_ior dX12_isFalse_160 ?_
            refine g_top (nI_or _ _) ?_
            refine r_istore (L' := [_, _, _, _, _, _, _]) dX12_isFalse_161 rfl rfl ?_
            refine r_iinc (L' := [_, _, _, _, _, _, _]) dX12_isFalse_163 rfl rfl (nI_inc _) rfl ?_
            refine r_goto (tgt := 76) dX12_isFalse_166 (by decide) ?_
            refine JJ.wk_at 6 (JJ.to (K trivial) ?_ rfl rfl); rw [fBs_s]; first | (rw [if_pos (And.intro hly c149)]; rfl) | (rw [if_neg (fun z => c149 z.2), Nat.or_zero]; rfl) | (rw [if_neg (fun z => by rw [hly] at z; exact absurd z.1 (by decide)), Nat.or_zero]; rfl)
          · skip
            refine r_aload_n dX12_isFalse_101 rfl ?_
            refine g_getR dX12_isFalse_102 f_X12_13 (Mod.sg (by assumption)) rfl (Mod.r99 (by assumption)) ?_
            refine r_bipush dX12_isFalse_105 bp_27 ?_
            refine r_iload dX12_isFalse_107 rfl ?_
            refine n_iadd dX12_isFalse_109 ?_
            refine g_iald dX12_isFalse_110 (Mod.s99 (by assumption)) rfl (by omega) (by omega) (hd.at (k := 27 + j) (by omega) (by omega)) ?_
            refine r_if_ne (tgt := 118) dX12_isFalse_111 (by decide) (fun c111 => ?_) (fun c111 => ?_)
            · have hly : ly s j (ps k) = false := by simp [ly, c111]
              refine r_iconst dX12_isFalse_118 ic_0 ?_
              refine r_istore (L' := [_, _, _, _, _, _, _]) dX12_isFalse_119 rfl rfl ?_
              refine r_iload dX12_isFalse_121 rfl ?_
              refine r_iload dX12_isFalse_123 rfl ?_
              refine n_if_eq (tgt := 159) dX12_isFalse_125 (by decide) (by omega) (fun c125 => ?_) (fun c125 => absurd rfl c125)
              refine r_iconst dX12_isFalse_159 ic_0 ?_
              refine r_ior dX12_isFalse_160 ?_
              refine g_top (nI_or _ _) ?_
              refine r_istore (L' := [_, _, _, _, _, _, _]) dX12_isFalse_161 rfl rfl ?_
              refine r_iinc (L' := [_, _, _, _, _, _, _]) dX12_isFalse_163 rfl rfl (nI_inc _) rfl ?_
              refine r_goto (tgt := 76) dX12_isFalse_166 (by decide) ?_
              refine JJ.wk_at 6 (JJ.to (K trivial) ?_ rfl rfl); rw [fBs_s]; first | (rw [if_pos (And.intro hly c149)]; rfl) | (rw [if_neg (fun z => c149 z.2), Nat.or_zero]; rfl) | (rw [if_neg (fun z => by rw [hly] at z; exact absurd z.1 (by decide)), Nat.or_zero]; rfl)
            · have hly : ly s j (ps k) = true := by simp [ly, c98, c111]
              refine r_iconst dX12_isFalse_114 ic_1 ?_
              refine r_goto (tgt := 119) dX12_isFalse_115 (by decide) ?_
              refine r_istore (L' := [_, _, _, _, _, _, _]) dX12_isFalse_119 rfl rfl ?_
              refine r_iload dX12_isFalse_121 rfl ?_
              refine r_iload dX12_isFalse_123 rfl ?_
              refine n_if_eq (tgt := 159) dX12_isFalse_125 (by decide) (by omega) (fun c125 => absurd c125 (by decide)) (fun c125 => ?_)
              refine r_aload_n dX12_isFalse_128 rfl ?_
              refine r_iload_n dX12_isFalse_129 rfl ?_
              refine r_aload_n dX12_isFalse_130 rfl ?_
              refine r_iconst dX12_isFalse_131 ic_0 ?_
              refine r_iload_n dX12_isFalse_132 rfl ?_
              refine r_iload dX12_isFalse_133 rfl ?_
              refine r_V3 dX12_isFalse_135 l_X12_130 k_X12_leftBy i_X12_leftBy (Mod.sg (by assumption)) ⟨_, rfl⟩ (Nat.le_of_ble_eq_true rfl) (v_X12_leftBy X _ (by first | assumption | omega) (by first | assumption | omega) (by first | assumption | omega)) (List.prefix_refl S) ?_
              rw [gLw_g hG8 hj hly]
              refine r_iload_n dX12_isFalse_138 rfl ?_
              refine r_iadd dX12_isFalse_139 ?_
              rw [i32_b]
              refine r_V2 dX12_isFalse_140 l_X12_137 k_X12_dutyOf i_X12_dutyOf (Mod.sg (by assumption)) ⟨_, rfl⟩ (Nat.le_of_ble_eq_true rfl) (v_X12_dutyOf X _ (by first | assumption | omega) (by first | assumption | omega) (by first | assumption | omega)) (List.prefix_refl S) ?_
              refine r_aload_n dX12_isFalse_143 rfl ?_
              refine g_getR dX12_isFalse_144 f_X12_19 (Mod.sg (by assumption)) rfl (Mod.r101 (by assumption)) ?_
              refine r_iload_n dX12_isFalse_147 rfl ?_
              refine g_iald dX12_isFalse_148 (Mod.s101 (by assumption)) rfl (by have := ho.2.1; omega) (by omega) ((ho.2.2 k hk).2.2) ?_
              refine r_icmp_ne (tgt := 159) dX12_isFalse_149 (by decide) (fun c149 => ?_) (fun c149 => ?_)
              · skip
                refine r_iconst dX12_isFalse_159 ic_0 ?_
                refine r_ior dX12_isFalse_160 ?_
                refine g_top (nI_or _ _) ?_
                refine r_istore (L' := [_, _, _, _, _, _, _]) dX12_isFalse_161 rfl rfl ?_
                refine r_iinc (L' := [_, _, _, _, _, _, _]) dX12_isFalse_163 rfl rfl (nI_inc _) rfl ?_
                refine r_goto (tgt := 76) dX12_isFalse_166 (by decide) ?_
                refine JJ.wk_at 6 (JJ.to (K trivial) ?_ rfl rfl); rw [fBs_s]; first | (rw [if_pos (And.intro hly c149)]; rfl) | (rw [if_neg (fun z => c149 z.2), Nat.or_zero]; rfl) | (rw [if_neg (fun z => by rw [hly] at z; exact absurd z.1 (by decide)), Nat.or_zero]; rfl)
              · skip
                refine r_iconst dX12_isFalse_152 ic_1 ?_
                refine r_iload dX12_isFalse_153 rfl ?_
                refine r_ishl dX12_isFalse_155 ?_
                refine g_top (shl1 (by omega)) ?_
                refine r_goto (tgt := 160) dX12_isFalse_156 (by decide) ?_
                refine r_ior dX12_isFalse_160 ?_
                refine g_top (nI_or _ _) ?_
                refine r_istore (L' := [_, _, _, _, _, _, _]) dX12_isFalse_161 rfl rfl ?_
                refine r_iinc (L' := [_, _, _, _, _, _, _]) dX12_isFalse_163 rfl rfl (nI_inc _) rfl ?_
                refine r_goto (tgt := 76) dX12_isFalse_166 (by decide) ?_
                refine JJ.wk_at 6 (JJ.to (K trivial) ?_ rfl rfl); rw [fBs_s]; first | (rw [if_pos (And.intro hly c149)]; rfl) | (rw [if_neg (fun z => c149 z.2), Nat.or_zero]; rfl) | (rw [if_neg (fun z => by rw [hly] at z; exact absurd z.1 (by decide)), Nat.or_zero]; rfl)
    · skip
      refine r_bipush dX12_isFalse_33 bp_m2 ?_
      exact g_iret dX12_isFalse_35 (by rw [if_neg (by rw [c30]; decide)]) rfl
  · rw [onP_f c13]
    refine r_iconst dX12_isFalse_16 ic_m1 ?_
    exact g_iret dX12_isFalse_17 rfl rfl

/-- the loves from 0 up that make it true: how many, the first -/
def lvM (w : Nat → Int32) (i : Nat) (x v : Int32) (n : Nat) : Nat × Int32 := nFold n (fun j q => if duty w i (x + nI j) = v then (q.1 + 1, if q.1 = 0 then nI j else q.2) else q) (0, -4)
theorem lvM_s (w : Nat → Int32) (i : Nat) (x v : Int32) (n : Nat) : lvM w i x v (n + 1) = if duty w i (x + nI n) = v then ((lvM w i x v n).1 + 1, if (lvM w i x v n).1 = 0 then nI n else (lvM w i x v n).2) else lvM w i x v n := rfl
theorem lvM_le (w : Nat → Int32) (i : Nat) (x v : Int32) : ∀ n, (lvM w i x v n).1 ≤ n
  | 0 => Nat.le_refl 0
  | n + 1 => by
    have h := lvM_le w i x v n
    rw [lvM_s]
    split
    · show (lvM w i x v n).1 + 1 ≤ n + 1
      omega
    · omega
theorem isA_in {x : Int32} : (!decide (x.toInt64 < lN 0) && !decide (lN 1 < x.toInt64)) = isA x := by
  rw [inL (by decide) (by decide)]
  unfold isA
  rw [Bool.eq_iff_iff]
  simp only [Bool.and_eq_true, Bool.or_eq_true, Bool.not_eq_true', decide_eq_false_iff_not, decide_eq_true_eq]
  constructor
  · rintro ⟨h1, h2⟩
    obtain ⟨k, hk, rfl⟩ := isP_t (n := 2) (show isP 2 x = true by
      unfold isP
      rw [decide_eq_false (by rw [← nI_0]; exact h1), decide_eq_false (fun z => h2 (by
        rw [Int32.lt_iff_toInt_lt]
        rw [Int32.le_iff_toInt_le] at z
        have e1 : (nI 1).toInt = 1 := by decide
        have e2 : (nI 2).toInt = 2 := by decide
        omega))]; rfl) (by decide)
    rcases (show k = 0 ∨ k = 1 by omega) with rfl | rfl
    · exact Or.inl rfl
    · exact Or.inr rfl
  · rintro (rfl | rfl) <;> decide
set_option maxHeartbeats 4000000 in
set_option maxRecDepth 100000 in
theorem v_X12_loved_t (X : mCx) (d : Nat) {S : mSh} {I : mI} {R : mR} {w s vs : Nat → Int32} {ps : Nat → Nat} {N G hb m : Nat} {z : Int32} {k j : Nat} (hm : Mod S R) (hw : MoW I w N G) (hd : MoD I 0 s hb) (ho : MoS I m ps vs N) (hk : k < m) (hj : j < N) (hkj : ps k ≠ j) (hz : isA z = true) : CC X (d + 4) M_X12_loved [.ref 97, .int (nI k), .int (nI j), .int z] S (I, R) (some (.int (if (hb.testBit (ps k) && hb.testBit j) = true then (if z = nI 0 then nI (lvM w (ps k) (gLeft w s G (ps k) + lLeft w N (ps k) hb - w (53 + (6 * ps k + j))) (vs k) 21).1 else (lvM w (ps k) (gLeft w s G (ps k) + lLeft w N (ps k) hb - w (53 + (6 * ps k + j))) (vs k) 21).2) else -2))) S (I, R) := by
  have hN6 := hw.N6
  have hG8 := hw.G8
  have h256 := hd.b256
  have hm6 := ho.2.1
  have hps := (ho.2.2 k hk).2.1
  refine CC.of2 (L := [.ref 97, .int (nI k), .int (nI j), .int z, .retAddr 0, .retAddr 0, .retAddr 0, .retAddr 0, .retAddr 0, .retAddr 0]) p_X12 (Nat.le_of_ble_eq_true rfl) rfl rfl (List.prefix_refl S) ?_
  refine r_iload_n dX12_loved_0 rfl ?_
  refine r_i2l dX12_loved_1 rfl ?_
  refine r_lconst (v := lN 0) dX12_loved_2 rfl ?_
  refine r_aload_n dX12_loved_3 rfl ?_
  refine g_getI dX12_loved_4 f_X12_75 (Mod.sg (by assumption)) rfl ho.1 ?_
  refine r_iconst dX12_loved_7 ic_1 ?_
  refine r_isub dX12_loved_8 ?_
  refine r_i2l dX12_loved_9 rfl ?_
  refine r_S3 dX12_loved_10 l_X12_62 k_X12_in s_X12_in (Nat.le_of_ble_eq_true rfl) (v_X12_in X _ ) (List.prefix_refl S) ?_
  refine g_top (congrArg bI (inP (n := m) (by omega))) ?_
  refine r_ifB_eq (tgt := 40) dX12_loved_13 (by decide) (fun c13 => absurd (isP_n hk (by omega)) (by rw [c13]; decide)) (fun c13 => ?_)
  refine r_aload_n dX12_loved_16 rfl ?_
  refine r_aload_n dX12_loved_17 rfl ?_
  refine g_getR dX12_loved_18 f_X12_16 (Mod.sg (by assumption)) rfl (Mod.r100 (by assumption)) ?_
  refine r_iload_n dX12_loved_21 rfl ?_
  refine g_iald dX12_loved_22 (Mod.s100 (by assumption)) rfl (by have := ho.2.1; omega) (by omega) ((ho.2.2 k hk).1) ?_
  refine r_iload_n dX12_loved_23 rfl ?_
  refine r_V2 dX12_loved_24 l_X12_124 k_X12_areTwo i_X12_areTwo (Mod.sg (by assumption)) ⟨_, rfl⟩ (Nat.le_of_ble_eq_true rfl) (v_X12_areTwo X _ (by first | assumption | omega) (by first | assumption | omega)) (List.prefix_refl S) ?_
  refine r_ifB_eq (tgt := 40) dX12_loved_27 (by decide) (fun c27 => absurd (twoP_n hps hj (by omega) hkj) (by rw [c27]; decide)) (fun c27 => ?_)
  refine r_iload_n dX12_loved_30 rfl ?_
  refine r_i2l dX12_loved_31 rfl ?_
  refine r_lconst (v := lN 0) dX12_loved_32 rfl ?_
  refine r_lconst (v := lN 1) dX12_loved_33 rfl ?_
  refine r_S3 dX12_loved_34 l_X12_62 k_X12_in s_X12_in (Nat.le_of_ble_eq_true rfl) (v_X12_in X _ ) (List.prefix_refl S) ?_
  refine g_top (congrArg bI isA_in) ?_
  refine r_ifB_ne (tgt := 42) dX12_loved_37 (by decide) (fun c37 => ?_) (fun c37 => absurd hz (by rw [c37]; decide))
  refine r_aload_n dX12_loved_42 rfl ?_
  refine g_getR dX12_loved_43 f_X12_16 (Mod.sg (by assumption)) rfl (Mod.r100 (by assumption)) ?_
  refine r_iload_n dX12_loved_46 rfl ?_
  refine g_iald dX12_loved_47 (Mod.s100 (by assumption)) rfl (by have := ho.2.1; omega) (by omega) ((ho.2.2 k hk).1) ?_
  refine r_istore (L' := [_, _, _, _, _, _, _, _, _, _]) dX12_loved_48 rfl rfl ?_
  refine r_aload_n dX12_loved_50 rfl ?_
  refine r_iload dX12_loved_51 rfl ?_
  refine r_V1 dX12_loved_53 l_X12_118 k_X12_isHere i_X12_isHere (Mod.sg (by assumption)) ⟨_, rfl⟩ (Nat.le_of_ble_eq_true rfl) (v_X12_isHere X _ (by first | assumption | omega) (by first | assumption | omega) (by first | assumption | omega)) (List.prefix_refl S) ?_
  refine r_ifB_eq (tgt := 67) dX12_loved_56 (by decide) (fun c56 => ?_) (fun c56 => ?_)
  · skip
    refine r_bipush dX12_loved_67 bp_m2 ?_
    exact g_iret dX12_loved_69 (by rw [if_neg (by simp [*])]) rfl
  · skip
    refine r_aload_n dX12_loved_59 rfl ?_
    refine r_iload_n dX12_loved_60 rfl ?_
    refine r_V1 dX12_loved_61 l_X12_118 k_X12_isHere i_X12_isHere (Mod.sg (by assumption)) ⟨_, rfl⟩ (Nat.le_of_ble_eq_true rfl) (v_X12_isHere X _ (by first | assumption | omega) (by first | assumption | omega) (by first | assumption | omega)) (List.prefix_refl S) ?_
    refine r_ifB_ne (tgt := 70) dX12_loved_64 (by decide) (fun c64 => ?_) (fun c64 => ?_)
    · skip
      rw [if_pos (show (hb.testBit (ps k) && hb.testBit j) = true by rw [c56, c64]; rfl)]
      refine r_aload_n dX12_loved_70 rfl ?_
      refine r_iconst dX12_loved_71 ic_0 ?_
      refine r_iload dX12_loved_72 rfl ?_
      refine r_bipush dX12_loved_74 bp_m4 ?_
      refine r_V3 dX12_loved_76 l_X12_130 k_X12_leftBy i_X12_leftBy (Mod.sg (by assumption)) ⟨_, rfl⟩ (Nat.le_of_ble_eq_true rfl) (v_X12_leftBy X _ (by first | assumption | omega) (by first | assumption | omega) (by first | assumption | omega)) (List.prefix_refl S) ?_
      rw [gLw_n hG8]
      refine r_aload_n dX12_loved_79 rfl ?_
      refine r_aload_n dX12_loved_80 rfl ?_
      refine g_getR dX12_loved_81 f_X12_13 (Mod.sg (by assumption)) rfl (Mod.r99 (by assumption)) ?_
      refine r_iconst dX12_loved_84 ic_0 ?_
      refine g_iald dX12_loved_85 (Mod.s99 (by assumption)) rfl (by omega) (by omega) (hd.h0 (by omega)) ?_
      refine r_iload dX12_loved_86 rfl ?_
      refine r_bipush dX12_loved_88 bp_m4 ?_
      refine r_V3 dX12_loved_90 l_X12_134 k_X12_lovedBy i_X12_lovedBy (Mod.sg (by assumption)) ⟨_, rfl⟩ (Nat.le_of_ble_eq_true rfl) (v_X12_lovedBy X _ (by first | assumption | omega) (by first | assumption | omega) (by first | assumption | omega) (by first | assumption | omega)) (List.prefix_refl S) ?_
      rw [lLw_n hN6]
      refine r_iadd dX12_loved_93 ?_
      refine r_aload_n dX12_loved_94 rfl ?_
      refine g_getR dX12_loved_95 f_X12_7 (Mod.sg (by assumption)) rfl (Mod.r98 (by assumption)) ?_
      refine r_bipush dX12_loved_98 bp_53 ?_
      refine r_bipush dX12_loved_100 bp_6 ?_
      refine r_iload dX12_loved_102 rfl ?_
      refine n_imul dX12_loved_104 ?_
      refine n_iadd dX12_loved_105 ?_
      refine r_iload_n dX12_loved_106 rfl ?_
      refine n_iadd dX12_loved_107 ?_
      refine g_iald dX12_loved_108 (Mod.s98 (by assumption)) rfl (by omega) (by omega) (hw.at (by omega)) ?_
      refine r_isub dX12_loved_109 ?_
      rw [Nat.add_assoc]
      refine r_istore (L' := [_, _, _, _, _, _, _, _, _, _]) dX12_loved_110 rfl rfl ?_
      refine r_iconst dX12_loved_112 ic_0 ?_
      refine r_istore (L' := [_, _, _, _, _, _, _, _, _, _]) dX12_loved_113 rfl rfl ?_
      refine r_bipush dX12_loved_115 bp_m4 ?_
      refine r_istore (L' := [_, _, _, _, _, _, _, _, _, _]) dX12_loved_117 rfl rfl ?_
      refine r_iconst dX12_loved_119 ic_0 ?_
      refine r_istore (L' := [_, _, _, _, _, _, _, _, _, _]) dX12_loved_120 rfl rfl ?_
      refine JJ.loop 21 (fun q => [.ref 97, .int (nI k), .int (nI j), .int z, .int (nI (ps k)), .int (gLeft w s G (ps k) + lLeft w N (ps k) hb - w (53 + (6 * ps k + j))), .int (nI (lvM w (ps k) (gLeft w s G (ps k) + lLeft w N (ps k) hb - w (53 + (6 * ps k + j))) (vs k) q).1), .int (lvM w (ps k) (gLeft w s G (ps k) + lLeft w N (ps k) hb - w (53 + (6 * ps k + j))) (vs k) q).2, .int (nI q), .retAddr 0]) (fun q => (I, R)) (fun q => True) (by rw [Nat.add_assoc]; rfl) rfl trivial (fun hp => ?_) (fun q hq hp K => ?_)
      · skip
        refine r_iload dX12_loved_122 rfl ?_
        refine r_bipush dX12_loved_124 bp_20 ?_
        refine n_icmp_gt (tgt := 196) dX12_loved_126 (by decide) (by omega) (by omega) (fun c126 => ?_) (fun c126 => (by exfalso; omega))
        refine r_iload_n dX12_loved_196 rfl ?_
        refine r_if_ne (tgt := 205) dX12_loved_197 (by decide) (fun c197 => ?_) (fun c197 => ?_)
        · have c197 : ¬ z = nI 0 := (by rw [nI_0]; exact c197); rw [if_neg c197]
          refine r_iload dX12_loved_205 rfl ?_
          exact g_iret dX12_loved_207 rfl rfl
        · have c197 : z = nI 0 := (by rw [nI_0]; exact c197); rw [if_pos c197]
          refine r_iload dX12_loved_200 rfl ?_
          refine r_goto (tgt := 207) dX12_loved_202 (by decide) ?_
          exact g_iret dX12_loved_207 rfl rfl
      · have hle := lvM_le w (ps k) (gLeft w s G (ps k) + lLeft w N (ps k) hb - w (53 + (6 * ps k + j))) (vs k) q
        refine r_iload dX12_loved_122 rfl ?_
        refine r_bipush dX12_loved_124 bp_20 ?_
        refine n_icmp_gt (tgt := 196) dX12_loved_126 (by decide) (by omega) (by omega) (fun c126 => absurd c126 (by omega)) (fun c126 => ?_)
        refine r_aload_n dX12_loved_129 rfl ?_
        refine r_iload dX12_loved_130 rfl ?_
        refine r_iload dX12_loved_132 rfl ?_
        refine r_iload dX12_loved_134 rfl ?_
        refine r_iadd dX12_loved_136 ?_
        refine r_V2 dX12_loved_137 l_X12_137 k_X12_dutyOf i_X12_dutyOf (Mod.sg (by assumption)) ⟨_, rfl⟩ (Nat.le_of_ble_eq_true rfl) (v_X12_dutyOf X _ (by first | assumption | omega) (by first | assumption | omega) (by first | assumption | omega)) (List.prefix_refl S) ?_
        refine r_aload_n dX12_loved_140 rfl ?_
        refine g_getR dX12_loved_141 f_X12_19 (Mod.sg (by assumption)) rfl (Mod.r101 (by assumption)) ?_
        refine r_iload_n dX12_loved_144 rfl ?_
        refine g_iald dX12_loved_145 (Mod.s101 (by assumption)) rfl (by have := ho.2.1; omega) (by omega) ((ho.2.2 k hk).2.2) ?_
        refine r_icmp_ne (tgt := 153) dX12_loved_146 (by decide) (fun c146 => ?_) (fun c146 => ?_)
        · skip
          refine r_iconst dX12_loved_153 ic_0 ?_
          refine r_istore (L' := [_, _, _, _, _, _, _, _, _, _]) dX12_loved_154 rfl rfl ?_
          refine r_iload dX12_loved_156 rfl ?_
          refine n_if_eq (tgt := 171) dX12_loved_158 (by decide) (by omega) (fun c158 => ?_) (fun c158 => absurd rfl c158)
          refine r_iload dX12_loved_171 rfl ?_
          refine r_istore (L' := [_, _, _, _, _, _, _, _, _, _]) dX12_loved_173 rfl rfl ?_
          refine r_iload dX12_loved_175 rfl ?_
          refine r_iload dX12_loved_177 rfl ?_
          refine n_if_eq (tgt := 186) dX12_loved_179 (by decide) (by omega) (fun c179 => ?_) (fun c179 => absurd rfl c179)
          refine r_iconst dX12_loved_186 ic_0 ?_
          refine n_iadd dX12_loved_187 ?_
          refine r_istore (L' := [_, _, _, _, _, _, _, _, _, _]) dX12_loved_188 rfl rfl ?_
          refine r_iinc (L' := [_, _, _, _, _, _, _, _, _, _]) dX12_loved_190 rfl rfl (nI_inc _) rfl ?_
          refine r_goto (tgt := 122) dX12_loved_193 (by decide) ?_
          refine JJ.wk_at 9 (JJ.to (K trivial) ?_ rfl rfl); rw [lvM_s]; first | (rw [if_pos c146, if_pos c163]; rfl) | (rw [if_pos c146, if_neg c163]; rfl) | (rw [if_neg c146]; rfl)
        · skip
          refine r_iconst dX12_loved_149 ic_1 ?_
          refine r_goto (tgt := 154) dX12_loved_150 (by decide) ?_
          refine r_istore (L' := [_, _, _, _, _, _, _, _, _, _]) dX12_loved_154 rfl rfl ?_
          refine r_iload dX12_loved_156 rfl ?_
          refine n_if_eq (tgt := 171) dX12_loved_158 (by decide) (by omega) (fun c158 => absurd c158 (by decide)) (fun c158 => ?_)
          refine r_iload dX12_loved_161 rfl ?_
          refine n_if_ne (tgt := 171) dX12_loved_163 (by decide) (by omega) (fun c163 => ?_) (fun c163 => ?_)
          · skip
            refine r_iload dX12_loved_171 rfl ?_
            refine r_istore (L' := [_, _, _, _, _, _, _, _, _, _]) dX12_loved_173 rfl rfl ?_
            refine r_iload dX12_loved_175 rfl ?_
            refine r_iload dX12_loved_177 rfl ?_
            refine n_if_eq (tgt := 186) dX12_loved_179 (by decide) (by omega) (fun c179 => absurd c179 (by decide)) (fun c179 => ?_)
            refine r_iconst dX12_loved_182 ic_1 ?_
            refine r_goto (tgt := 187) dX12_loved_183 (by decide) ?_
            refine n_iadd dX12_loved_187 ?_
            refine r_istore (L' := [_, _, _, _, _, _, _, _, _, _]) dX12_loved_188 rfl rfl ?_
            refine r_iinc (L' := [_, _, _, _, _, _, _, _, _, _]) dX12_loved_190 rfl rfl (nI_inc _) rfl ?_
            refine r_goto (tgt := 122) dX12_loved_193 (by decide) ?_
            refine JJ.wk_at 9 (JJ.to (K trivial) ?_ rfl rfl); rw [lvM_s]; first | (rw [if_pos c146, if_pos c163]; rfl) | (rw [if_pos c146, if_neg c163]; rfl) | (rw [if_neg c146]; rfl)
          · skip
            refine r_iload dX12_loved_166 rfl ?_
            refine r_goto (tgt := 173) dX12_loved_168 (by decide) ?_
            refine r_istore (L' := [_, _, _, _, _, _, _, _, _, _]) dX12_loved_173 rfl rfl ?_
            refine r_iload dX12_loved_175 rfl ?_
            refine r_iload dX12_loved_177 rfl ?_
            refine n_if_eq (tgt := 186) dX12_loved_179 (by decide) (by omega) (fun c179 => absurd c179 (by decide)) (fun c179 => ?_)
            refine r_iconst dX12_loved_182 ic_1 ?_
            refine r_goto (tgt := 187) dX12_loved_183 (by decide) ?_
            refine n_iadd dX12_loved_187 ?_
            refine r_istore (L' := [_, _, _, _, _, _, _, _, _, _]) dX12_loved_188 rfl rfl ?_
            refine r_iinc (L' := [_, _, _, _, _, _, _, _, _, _]) dX12_loved_190 rfl rfl (nI_inc _) rfl ?_
            refine r_goto (tgt := 122) dX12_loved_193 (by decide) ?_
            refine JJ.wk_at 9 (JJ.to (K trivial) ?_ rfl rfl); rw [lvM_s]; first | (rw [if_pos c146, if_pos c163]; rfl) | (rw [if_pos c146, if_neg c163]; rfl) | (rw [if_neg c146]; rfl)
    · skip
      refine r_bipush dX12_loved_67 bp_m2 ?_
      exact g_iret dX12_loved_69 (by rw [if_neg (by simp [*])]) rfl

set_option maxHeartbeats 4000000 in
set_option maxRecDepth 100000 in
theorem v_X12_loved_f (X : mCx) (d : Nat) {S : mSh} {I : mI} {R : mR} {w s vs : Nat → Int32} {ps : Nat → Nat} {N G hb m : Nat} {x y z : Int32} (hm : Mod S R) (hw : MoW I w N G) (hd : MoD I 0 s hb) (ho : MoS I m ps vs N) (hx : isP m x = false ∨ (∃ k, k < m ∧ x = nI k ∧ twoP N (nI (ps k)) y = false) ∨ isA z = false) : CC X (d + 4) M_X12_loved [.ref 97, .int x, .int y, .int z] S (I, R) (some (.int (-1))) S (I, R) := by
  have hN6 := hw.N6
  have hG8 := hw.G8
  have h256 := hd.b256
  have hm6 := ho.2.1
  refine CC.of2 (L := [.ref 97, .int x, .int y, .int z, .retAddr 0, .retAddr 0, .retAddr 0, .retAddr 0, .retAddr 0, .retAddr 0]) p_X12 (Nat.le_of_ble_eq_true rfl) rfl rfl (List.prefix_refl S) ?_
  refine r_iload_n dX12_loved_0 rfl ?_
  refine r_i2l dX12_loved_1 rfl ?_
  refine r_lconst (v := lN 0) dX12_loved_2 rfl ?_
  refine r_aload_n dX12_loved_3 rfl ?_
  refine g_getI dX12_loved_4 f_X12_75 (Mod.sg (by assumption)) rfl ho.1 ?_
  refine r_iconst dX12_loved_7 ic_1 ?_
  refine r_isub dX12_loved_8 ?_
  refine r_i2l dX12_loved_9 rfl ?_
  refine r_S3 dX12_loved_10 l_X12_62 k_X12_in s_X12_in (Nat.le_of_ble_eq_true rfl) (v_X12_in X _ ) (List.prefix_refl S) ?_
  refine g_top (congrArg bI (inP (n := m) (by omega))) ?_
  refine r_ifB_eq (tgt := 40) dX12_loved_13 (by decide) (fun c13 => ?_) (fun c13 => ?_)
  · skip
    refine r_iconst dX12_loved_40 ic_m1 ?_
    exact g_iret dX12_loved_41 rfl rfl
  · obtain ⟨k, hk, rfl⟩ := isP_t c13 (by omega); have hps := (ho.2.2 k hk).2.1
    refine r_aload_n dX12_loved_16 rfl ?_
    refine r_aload_n dX12_loved_17 rfl ?_
    refine g_getR dX12_loved_18 f_X12_16 (Mod.sg (by assumption)) rfl (Mod.r100 (by assumption)) ?_
    refine r_iload_n dX12_loved_21 rfl ?_
    refine g_iald dX12_loved_22 (Mod.s100 (by assumption)) rfl (by have := ho.2.1; omega) (by omega) ((ho.2.2 k hk).1) ?_
    refine r_iload_n dX12_loved_23 rfl ?_
    refine r_V2 dX12_loved_24 l_X12_124 k_X12_areTwo i_X12_areTwo (Mod.sg (by assumption)) ⟨_, rfl⟩ (Nat.le_of_ble_eq_true rfl) (v_X12_areTwo X _ (by first | assumption | omega) (by first | assumption | omega)) (List.prefix_refl S) ?_
    refine r_ifB_eq (tgt := 40) dX12_loved_27 (by decide) (fun c27 => ?_) (fun c27 => ?_)
    · skip
      refine r_iconst dX12_loved_40 ic_m1 ?_
      exact g_iret dX12_loved_41 rfl rfl
    · skip
      refine r_iload_n dX12_loved_30 rfl ?_
      refine r_i2l dX12_loved_31 rfl ?_
      refine r_lconst (v := lN 0) dX12_loved_32 rfl ?_
      refine r_lconst (v := lN 1) dX12_loved_33 rfl ?_
      refine r_S3 dX12_loved_34 l_X12_62 k_X12_in s_X12_in (Nat.le_of_ble_eq_true rfl) (v_X12_in X _ ) (List.prefix_refl S) ?_
      refine g_top (congrArg bI isA_in) ?_
      refine r_ifB_ne (tgt := 42) dX12_loved_37 (by decide) (fun c37 => (by exfalso; rcases hx with q | ⟨k1, hk1, e, q⟩ | q <;> first | exact absurd q (by rw [c13]; decide) | exact absurd q (by rw [c37]; decide) | (have e := (nI_eq (by omega) (by omega)).mp e; subst e; exact absurd q (by rw [c27]; decide)))) (fun c37 => ?_)
      refine r_iconst dX12_loved_40 ic_m1 ?_
      exact g_iret dX12_loved_41 rfl rfl

set_option maxHeartbeats 4000000 in
set_option maxRecDepth 100000 in
theorem v_X12_paidInAll (X : mCx) (d : Nat) {S : mSh} {I : mI} {R : mR} {w s : Nat → Int32} {N G hb : Nat} (hm : Mod S R) (hw : MoW I w N G) (hd : MoD I 0 s hb)  : CC X (d + 1) M_X12_paidInAll [.ref 97] S (I, R) (some (.int (nSum N (fun i => s (7 + i))))) S (I, R) := by
  have hN6 := hw.N6
  have hG8 := hw.G8
  refine CC.of2 (L := [.ref 97, .retAddr 0, .retAddr 0]) p_X12 (Nat.le_of_ble_eq_true rfl) rfl rfl (List.prefix_refl S) ?_
  refine r_iconst dX12_paidInAll_0 ic_0 ?_
  refine r_istore_n (L' := [_, _, _]) dX12_paidInAll_1 rfl rfl ?_
  refine r_iconst dX12_paidInAll_2 ic_0 ?_
  refine r_istore_n (L' := [_, _, _]) dX12_paidInAll_3 rfl rfl ?_
  refine JJ.loop N (fun j => [.ref 97, .int (nSum j (fun i => s (7 + i))), .int (nI j)]) (fun j => (I, R)) (fun j => True) rfl rfl trivial (fun hp => ?_) (fun j hj hp K => ?_)
  · skip
    refine r_iload_n dX12_paidInAll_4 rfl ?_
    refine r_aload_n dX12_paidInAll_5 rfl ?_
    refine g_getR dX12_paidInAll_6 f_X12_7 (Mod.sg (by assumption)) rfl (Mod.r98 (by assumption)) ?_
    refine r_iconst dX12_paidInAll_9 ic_0 ?_
    refine g_iald dX12_paidInAll_10 (Mod.s98 (by assumption)) rfl (by omega) (by omega) hw.n0 ?_
    refine n_icmp_ge (tgt := 32) dX12_paidInAll_11 (by decide) (by omega) (by omega) (fun c11 => ?_) (fun c11 => absurd c11 (by omega))
    refine r_iload_n dX12_paidInAll_32 rfl ?_
    exact g_iret dX12_paidInAll_33 rfl rfl
  · skip
    refine r_iload_n dX12_paidInAll_4 rfl ?_
    refine r_aload_n dX12_paidInAll_5 rfl ?_
    refine g_getR dX12_paidInAll_6 f_X12_7 (Mod.sg (by assumption)) rfl (Mod.r98 (by assumption)) ?_
    refine r_iconst dX12_paidInAll_9 ic_0 ?_
    refine g_iald dX12_paidInAll_10 (Mod.s98 (by assumption)) rfl (by omega) (by omega) hw.n0 ?_
    refine n_icmp_ge (tgt := 32) dX12_paidInAll_11 (by decide) (by omega) (by omega) (fun c11 => absurd c11 (by omega)) (fun c11 => ?_)
    refine r_iload_n dX12_paidInAll_14 rfl ?_
    refine r_aload_n dX12_paidInAll_15 rfl ?_
    refine g_getR dX12_paidInAll_16 f_X12_13 (Mod.sg (by assumption)) rfl (Mod.r99 (by assumption)) ?_
    refine r_bipush dX12_paidInAll_19 bp_7 ?_
    refine r_iload_n dX12_paidInAll_21 rfl ?_
    refine n_iadd dX12_paidInAll_22 ?_
    refine g_iald dX12_paidInAll_23 (Mod.s99 (by assumption)) rfl (by omega) (by omega) (hd.at (k := 7 + j) (by omega) (by omega)) ?_
    refine r_iadd dX12_paidInAll_24 ?_
    refine r_istore_n (L' := [_, _, _]) dX12_paidInAll_25 rfl rfl ?_
    refine r_iinc (L' := [_, _, _]) dX12_paidInAll_26 rfl rfl (nI_inc _) rfl ?_
    refine r_goto (tgt := 4) dX12_paidInAll_29 (by decide) ?_
    exact JJ.to (K trivial) rfl rfl rfl

set_option maxHeartbeats 4000000 in
set_option maxRecDepth 100000 in
theorem v_X12_goodsThat_p (X : mCx) (d : Nat) {S : mSh} {I : mI} {R : mR} {w s : Nat → Int32} {N G hb : Nat} (hm : Mod S R) (hw : MoW I w N G) (hd : MoD I 0 s hb)  : CC X (d + 1) M_X12_goodsThat [.ref 97, .int (nI 1)] S (I, R) (some (.int (nI (nFold G (fun g n => if s (27 + g) = nI 1 then n + 1 else n) 0)))) S (I, R) := by
  have hN6 := hw.N6
  have hG8 := hw.G8
  refine CC.of2 (L := [.ref 97, .int (nI 1), .retAddr 0, .retAddr 0]) p_X12 (Nat.le_of_ble_eq_true rfl) rfl rfl (List.prefix_refl S) ?_
  refine r_iconst dX12_goodsThat_0 ic_0 ?_
  refine r_istore_n (L' := [_, _, _, _]) dX12_goodsThat_1 rfl rfl ?_
  refine r_iconst dX12_goodsThat_2 ic_0 ?_
  refine r_istore_n (L' := [_, _, _, _]) dX12_goodsThat_3 rfl rfl ?_
  refine JJ.loop G (fun j => [.ref 97, .int (nI 1), .int (nI (nFold j (fun g n => if s (27 + g) = nI 1 then n + 1 else n) 0)), .int (nI j)]) (fun j => (I, R)) (fun j => True) rfl rfl trivial (fun hp => ?_) (fun j hj hp K => ?_)
  · skip
    refine r_iload_n dX12_goodsThat_4 rfl ?_
    refine r_aload_n dX12_goodsThat_5 rfl ?_
    refine g_getR dX12_goodsThat_6 f_X12_7 (Mod.sg (by assumption)) rfl (Mod.r98 (by assumption)) ?_
    refine r_iconst dX12_goodsThat_9 ic_1 ?_
    refine g_iald dX12_goodsThat_10 (Mod.s98 (by assumption)) rfl (by omega) (by omega) hw.n1 ?_
    refine n_icmp_ge (tgt := 62) dX12_goodsThat_11 (by decide) (by omega) (by omega) (fun c11 => ?_) (fun c11 => absurd c11 (by omega))
    refine r_iload_n dX12_goodsThat_62 rfl ?_
    exact g_iret dX12_goodsThat_63 rfl rfl
  · skip
    refine r_iload_n dX12_goodsThat_4 rfl ?_
    refine r_aload_n dX12_goodsThat_5 rfl ?_
    refine g_getR dX12_goodsThat_6 f_X12_7 (Mod.sg (by assumption)) rfl (Mod.r98 (by assumption)) ?_
    refine r_iconst dX12_goodsThat_9 ic_1 ?_
    refine g_iald dX12_goodsThat_10 (Mod.s98 (by assumption)) rfl (by omega) (by omega) hw.n1 ?_
    refine n_icmp_ge (tgt := 62) dX12_goodsThat_11 (by decide) (by omega) (by omega) (fun c11 => absurd c11 (by omega)) (fun c11 => ?_)
    refine r_iload_n dX12_goodsThat_14 rfl ?_
    refine r_iload_n dX12_goodsThat_15 rfl ?_
    refine n_if_eq (tgt := 35) dX12_goodsThat_16 (by decide) (by omega) (fun c16 => absurd c16 (by decide)) (fun c16 => ?_)
    refine r_aload_n dX12_goodsThat_19 rfl ?_
    refine g_getR dX12_goodsThat_20 f_X12_13 (Mod.sg (by assumption)) rfl (Mod.r99 (by assumption)) ?_
    refine r_bipush dX12_goodsThat_23 bp_27 ?_
    refine r_iload_n dX12_goodsThat_25 rfl ?_
    refine n_iadd dX12_goodsThat_26 ?_
    refine g_iald dX12_goodsThat_27 (Mod.s99 (by assumption)) rfl (by omega) (by omega) (hd.at (k := 27 + j) (by omega) (by omega)) ?_
    refine r_iconst dX12_goodsThat_28 ic_1 ?_
    refine r_icmp_ne (tgt := 53) dX12_goodsThat_29 (by decide) (fun c29 => ?_) (fun c29 => ?_)
    · skip
      refine r_iconst dX12_goodsThat_53 ic_0 ?_
      refine r_iadd dX12_goodsThat_54 ?_
      refine r_istore_n (L' := [_, _, _, _]) dX12_goodsThat_55 rfl rfl ?_
      refine r_iinc (L' := [_, _, _, _]) dX12_goodsThat_56 rfl rfl (nI_inc _) rfl ?_
      refine r_goto (tgt := 4) dX12_goodsThat_59 (by decide) ?_
      exact JJ.to (K trivial) (by rw [nFold]; simp [*, nI_p1, nI_p0]) rfl rfl
    · skip
      refine r_goto (tgt := 49) dX12_goodsThat_32 (by decide) ?_
      refine r_iconst dX12_goodsThat_49 ic_1 ?_
      refine r_goto (tgt := 54) dX12_goodsThat_50 (by decide) ?_
      refine r_iadd dX12_goodsThat_54 ?_
      refine r_istore_n (L' := [_, _, _, _]) dX12_goodsThat_55 rfl rfl ?_
      refine r_iinc (L' := [_, _, _, _]) dX12_goodsThat_56 rfl rfl (nI_inc _) rfl ?_
      refine r_goto (tgt := 4) dX12_goodsThat_59 (by decide) ?_
      exact JJ.to (K trivial) (by rw [nFold]; simp [*, nI_p1, nI_p0]) rfl rfl

set_option maxHeartbeats 4000000 in
set_option maxRecDepth 100000 in
theorem v_X12_goodsThat_o (X : mCx) (d : Nat) {S : mSh} {I : mI} {R : mR} {w s : Nat → Int32} {N G hb : Nat} (hm : Mod S R) (hw : MoW I w N G) (hd : MoD I 0 s hb)  : CC X (d + 1) M_X12_goodsThat [.ref 97, .int (nI 0)] S (I, R) (some (.int (nI (nFold G (fun g n => if s (19 + g) = -4 then n + 1 else n) 0)))) S (I, R) := by
  have hN6 := hw.N6
  have hG8 := hw.G8
  refine CC.of2 (L := [.ref 97, .int (nI 0), .retAddr 0, .retAddr 0]) p_X12 (Nat.le_of_ble_eq_true rfl) rfl rfl (List.prefix_refl S) ?_
  refine r_iconst dX12_goodsThat_0 ic_0 ?_
  refine r_istore_n (L' := [_, _, _, _]) dX12_goodsThat_1 rfl rfl ?_
  refine r_iconst dX12_goodsThat_2 ic_0 ?_
  refine r_istore_n (L' := [_, _, _, _]) dX12_goodsThat_3 rfl rfl ?_
  refine JJ.loop G (fun j => [.ref 97, .int (nI 0), .int (nI (nFold j (fun g n => if s (19 + g) = -4 then n + 1 else n) 0)), .int (nI j)]) (fun j => (I, R)) (fun j => True) rfl rfl trivial (fun hp => ?_) (fun j hj hp K => ?_)
  · skip
    refine r_iload_n dX12_goodsThat_4 rfl ?_
    refine r_aload_n dX12_goodsThat_5 rfl ?_
    refine g_getR dX12_goodsThat_6 f_X12_7 (Mod.sg (by assumption)) rfl (Mod.r98 (by assumption)) ?_
    refine r_iconst dX12_goodsThat_9 ic_1 ?_
    refine g_iald dX12_goodsThat_10 (Mod.s98 (by assumption)) rfl (by omega) (by omega) hw.n1 ?_
    refine n_icmp_ge (tgt := 62) dX12_goodsThat_11 (by decide) (by omega) (by omega) (fun c11 => ?_) (fun c11 => absurd c11 (by omega))
    refine r_iload_n dX12_goodsThat_62 rfl ?_
    exact g_iret dX12_goodsThat_63 rfl rfl
  · skip
    refine r_iload_n dX12_goodsThat_4 rfl ?_
    refine r_aload_n dX12_goodsThat_5 rfl ?_
    refine g_getR dX12_goodsThat_6 f_X12_7 (Mod.sg (by assumption)) rfl (Mod.r98 (by assumption)) ?_
    refine r_iconst dX12_goodsThat_9 ic_1 ?_
    refine g_iald dX12_goodsThat_10 (Mod.s98 (by assumption)) rfl (by omega) (by omega) hw.n1 ?_
    refine n_icmp_ge (tgt := 62) dX12_goodsThat_11 (by decide) (by omega) (by omega) (fun c11 => absurd c11 (by omega)) (fun c11 => ?_)
    refine r_iload_n dX12_goodsThat_14 rfl ?_
    refine r_iload_n dX12_goodsThat_15 rfl ?_
    refine n_if_eq (tgt := 35) dX12_goodsThat_16 (by decide) (by omega) (fun c16 => ?_) (fun c16 => absurd rfl c16)
    refine r_aload_n dX12_goodsThat_35 rfl ?_
    refine g_getR dX12_goodsThat_36 f_X12_13 (Mod.sg (by assumption)) rfl (Mod.r99 (by assumption)) ?_
    refine r_bipush dX12_goodsThat_39 bp_19 ?_
    refine r_iload_n dX12_goodsThat_41 rfl ?_
    refine n_iadd dX12_goodsThat_42 ?_
    refine g_iald dX12_goodsThat_43 (Mod.s99 (by assumption)) rfl (by omega) (by omega) (hd.at (k := 19 + j) (by omega) (by omega)) ?_
    refine r_bipush dX12_goodsThat_44 bp_m4 ?_
    refine r_icmp_ne (tgt := 53) dX12_goodsThat_46 (by decide) (fun c46 => ?_) (fun c46 => ?_)
    · skip
      refine r_iconst dX12_goodsThat_53 ic_0 ?_
      refine r_iadd dX12_goodsThat_54 ?_
      refine r_istore_n (L' := [_, _, _, _]) dX12_goodsThat_55 rfl rfl ?_
      refine r_iinc (L' := [_, _, _, _]) dX12_goodsThat_56 rfl rfl (nI_inc _) rfl ?_
      refine r_goto (tgt := 4) dX12_goodsThat_59 (by decide) ?_
      exact JJ.to (K trivial) (by rw [nFold]; simp [*, nI_p1, nI_p0]) rfl rfl
    · skip
      refine r_iconst dX12_goodsThat_49 ic_1 ?_
      refine r_goto (tgt := 54) dX12_goodsThat_50 (by decide) ?_
      refine r_iadd dX12_goodsThat_54 ?_
      refine r_istore_n (L' := [_, _, _, _]) dX12_goodsThat_55 rfl rfl ?_
      refine r_iinc (L' := [_, _, _, _]) dX12_goodsThat_56 rfl rfl (nI_inc _) rfl ?_
      refine r_goto (tgt := 4) dX12_goodsThat_59 (by decide) ?_
      exact JJ.to (K trivial) (by rw [nFold]; simp [*, nI_p1, nI_p0]) rfl rfl

