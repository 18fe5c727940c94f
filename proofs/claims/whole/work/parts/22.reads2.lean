/-! ===== the class: counts, chairs, orders, giving, turns, years ===== -/
def pop (b : Nat) : Nat := nFold 8 (fun k n => if b.testBit k = true then n + 1 else n) 0
set_option maxHeartbeats 4000000 in
set_option maxRecDepth 100000 in
theorem v_J6_bitCount_0f7a4 (X : mCx) (d : Nat) {S : mSh} {I : mI} {R : mR} {b : Nat} (hb : b < 256) : CC X (d + 1) M_J6_bitCount_0f7a4 [.int (nI b)] S (I, R) (some (.int (nI (pop b)))) S (I, R) := by
  refine CC.of2 (L := [.int (nI b)]) p_J6 (Nat.le_of_ble_eq_true rfl) rfl rfl (List.prefix_refl S) ?_
  refine r_iload_n dJ6_bitCount_0f7a4_0 rfl ?_
  refine r_iload_n dJ6_bitCount_0f7a4_1 rfl ?_
  refine r_iconst dJ6_bitCount_0f7a4_2 ic_1 ?_
  refine r_iushr dJ6_bitCount_0f7a4_3 rfl ?_
  refine r_ldcw dJ6_bitCount_0f7a4_4 c_J6_265 ?_
  refine r_iand dJ6_bitCount_0f7a4_7 ?_
  refine r_isub dJ6_bitCount_0f7a4_8 ?_
  refine r_istore_n (L' := [_]) dJ6_bitCount_0f7a4_9 rfl rfl ?_
  refine r_iload_n dJ6_bitCount_0f7a4_10 rfl ?_
  refine r_ldcw dJ6_bitCount_0f7a4_11 c_J6_266 ?_
  refine r_iand dJ6_bitCount_0f7a4_14 ?_
  refine r_iload_n dJ6_bitCount_0f7a4_15 rfl ?_
  refine r_iconst dJ6_bitCount_0f7a4_16 ic_2 ?_
  refine r_iushr dJ6_bitCount_0f7a4_17 rfl ?_
  refine r_ldcw dJ6_bitCount_0f7a4_18 c_J6_266 ?_
  refine r_iand dJ6_bitCount_0f7a4_21 ?_
  refine r_iadd dJ6_bitCount_0f7a4_22 ?_
  refine r_istore_n (L' := [_]) dJ6_bitCount_0f7a4_23 rfl rfl ?_
  refine r_iload_n dJ6_bitCount_0f7a4_24 rfl ?_
  refine r_iload_n dJ6_bitCount_0f7a4_25 rfl ?_
  refine r_iconst dJ6_bitCount_0f7a4_26 ic_4 ?_
  refine r_iushr dJ6_bitCount_0f7a4_27 rfl ?_
  refine r_iadd dJ6_bitCount_0f7a4_28 ?_
  refine r_ldcw dJ6_bitCount_0f7a4_29 c_J6_267 ?_
  refine r_iand dJ6_bitCount_0f7a4_32 ?_
  refine r_istore_n (L' := [_]) dJ6_bitCount_0f7a4_33 rfl rfl ?_
  refine r_iload_n dJ6_bitCount_0f7a4_34 rfl ?_
  refine r_iload_n dJ6_bitCount_0f7a4_35 rfl ?_
  refine r_bipush dJ6_bitCount_0f7a4_36 bp_8 ?_
  refine r_iushr dJ6_bitCount_0f7a4_38 rfl ?_
  refine r_iadd dJ6_bitCount_0f7a4_39 ?_
  refine r_istore_n (L' := [_]) dJ6_bitCount_0f7a4_40 rfl rfl ?_
  refine r_iload_n dJ6_bitCount_0f7a4_41 rfl ?_
  refine r_iload_n dJ6_bitCount_0f7a4_42 rfl ?_
  refine r_bipush dJ6_bitCount_0f7a4_43 bp_16 ?_
  refine r_iushr dJ6_bitCount_0f7a4_45 rfl ?_
  refine r_iadd dJ6_bitCount_0f7a4_46 ?_
  refine r_istore_n (L' := [_]) dJ6_bitCount_0f7a4_47 rfl rfl ?_
  refine r_iload_n dJ6_bitCount_0f7a4_48 rfl ?_
  refine r_bipush dJ6_bitCount_0f7a4_49 bp_63 ?_
  refine r_iand dJ6_bitCount_0f7a4_51 ?_
  exact g_iret dJ6_bitCount_0f7a4_52 (by clear R I S d X; revert b; decide +kernel) rfl

set_option maxHeartbeats 4000000 in
set_option maxRecDepth 100000 in
theorem v_X11_gone (X : mCx) (d : Nat) {S : mSh} {I : mI} {R : mR} {w s : Nat → Int32} {N G hb pb f dr : Nat} {a : Nat} (hc : Cla S R f dr) (hf : Fam S I R f w N G) (hst : Std S I R a s N G hb pb)  : CC X (d + 2) M_X11_gone [.ref 1, .ref a] S (I, R) (some (.int (nI N - nI (pop hb)))) S (I, R) := by
  have hG8 := hst.G8
  have hN6 := hst.N6
  have h256 := hst.h256
  have p256 := hst.p256
  refine CC.of2 (L := [.ref 1, .ref a]) p_X11 (Nat.le_of_ble_eq_true rfl) rfl rfl (List.prefix_refl S) ?_
  refine r_aload_n dX11_gone_0 rfl ?_
  refine g_getR dX11_gone_1 f_X11_66 (Cla.sg (by assumption)) rfl (Cla.f9 (by assumption)) ?_
  refine g_getI dX11_gone_4 f_X11_103 (Fam.sg (by assumption)) rfl hf.hN ?_
  refine r_aload_n dX11_gone_7 rfl ?_
  refine g_getI dX11_gone_8 f_X11_195 (Std.sg (by assumption)) rfl hst.here ?_
  refine r_S1 dX11_gone_11 l_X11_290 k_J6_bitCount_0f7a4 s_J6_bitCount_0f7a4 (Nat.le_of_ble_eq_true rfl) (v_J6_bitCount_0f7a4 X _ (by first | assumption | omega)) (List.prefix_refl S) ?_
  refine r_isub dX11_gone_14 ?_
  exact g_iret dX11_gone_15 rfl rfl

set_option maxHeartbeats 4000000 in
set_option maxRecDepth 100000 in
theorem v_X11_paidInAll (X : mCx) (d : Nat) {S : mSh} {I : mI} {R : mR} {w s : Nat → Int32} {N G hb pb f dr : Nat} (hc : Cla S R f dr) (hf : Fam S I R f w N G) (hst : Std S I R 6 s N G hb pb)  : CC X (d + 3) M_X11_paidInAll [.ref 1] S (I, R) (some (.int (nSum N (fun i => s (7 + i))))) S (I, R) := by
  have hG8 := hst.G8
  have hN6 := hst.N6
  have h256 := hst.h256
  have p256 := hst.p256
  have hund := hc.und
  have hkep := hc.kep
  have hoat := hc.oat
  have hord := hc.ord
  have htxt := hc.txt
  have htwo := hc.two
  have hgif := hc.gif
  have htri := hc.tri
  have hnow := hc.now
  refine CC.of2 (L := [.ref 1, .retAddr 0, .retAddr 0]) p_X11 (Nat.le_of_ble_eq_true rfl) rfl rfl (List.prefix_refl S) ?_
  refine r_iconst dX11_paidInAll_0 ic_0 ?_
  refine r_istore_n (L' := [_, _, _]) dX11_paidInAll_1 rfl rfl ?_
  refine r_iconst dX11_paidInAll_2 ic_0 ?_
  refine r_istore_n (L' := [_, _, _]) dX11_paidInAll_3 rfl rfl ?_
  refine JJ.loop N (fun j => [.ref 1, .int (nSum j (fun i => s (7 + i))), .int (nI j)]) (fun j => (I, R)) (fun j => True) (by simp [nI_0, nSum]) rfl trivial (fun hp => ?_) (fun j hj hp K => ?_)
  · skip
    refine r_iload_n dX11_paidInAll_4 rfl ?_
    refine r_aload_n dX11_paidInAll_5 rfl ?_
    refine g_getR dX11_paidInAll_6 f_X11_66 (Cla.sg (by assumption)) rfl (Cla.f9 (by assumption)) ?_
    refine g_getI dX11_paidInAll_9 f_X11_103 (Fam.sg (by assumption)) rfl hf.hN ?_
    refine n_icmp_ge (tgt := 32) dX11_paidInAll_12 (by decide) (by omega) (by omega) (fun c12 => ?_) (fun c12 => absurd c12 (by omega))
    refine r_iload_n dX11_paidInAll_32 rfl ?_
    exact g_iret dX11_paidInAll_33 rfl rfl
  · skip
    refine r_iload_n dX11_paidInAll_4 rfl ?_
    refine r_aload_n dX11_paidInAll_5 rfl ?_
    refine g_getR dX11_paidInAll_6 f_X11_66 (Cla.sg (by assumption)) rfl (Cla.f9 (by assumption)) ?_
    refine g_getI dX11_paidInAll_9 f_X11_103 (Fam.sg (by assumption)) rfl hf.hN ?_
    refine n_icmp_ge (tgt := 32) dX11_paidInAll_12 (by decide) (by omega) (by omega) (fun c12 => absurd c12 (by omega)) (fun c12 => ?_)
    refine r_iload_n dX11_paidInAll_15 rfl ?_
    refine r_aload_n dX11_paidInAll_16 rfl ?_
    refine g_getR dX11_paidInAll_17 f_X11_26 (Cla.sg (by assumption)) rfl (Cla.f2 (by assumption)) ?_
    refine r_iload_n dX11_paidInAll_20 rfl ?_
    refine r_V1 dX11_paidInAll_21 l_X11_125 k_X8_paidBy i_X8_paidBy (Sto.sg (Cla.now (by assumption))) ⟨_, rfl⟩ (Nat.le_of_ble_eq_true rfl) (v_X8_paidBy X _ (by first | assumption | omega) (by first | assumption | omega)) (List.prefix_refl S) ?_
    refine r_iadd dX11_paidInAll_24 ?_
    refine r_istore_n (L' := [_, _, _]) dX11_paidInAll_25 rfl rfl ?_
    refine r_iinc (L' := [_, _, _]) dX11_paidInAll_26 rfl rfl (nI_inc _) rfl ?_
    refine r_goto (tgt := 4) dX11_paidInAll_29 (by decide) ?_
    exact JJ.to (K trivial) (by simp [nSum]) rfl rfl

def aCnt (w s : Nat → Int32) (N G hb pb m u v n : Nat) (y : Int32) : Int32 := if y = nI 0 then nI N else if y = nI 1 then nI G else if y = nI 2 then nI N - nI (pop hb) else if y = nI 3 then nI (pop pb) else if y = nI 4 then nI (pop (ownB s G (-4))) else if y = nI 5 then nSum N (fun i => s (7 + i)) else if y = nI 6 then w 2 else if y = nI 7 then nI m else if y = nI 8 then nI u else if y = nI 9 then nI v else if y = nI 10 then nI n else -1
set_option maxHeartbeats 4000000 in
set_option maxRecDepth 100000 in
theorem v_X11_count (X : mCx) (d : Nat) {S : mSh} {I : mI} {R : mR} {w s : Nat → Int32} {N G hb pb f dr : Nat} {m u v n : Nat} {y : Int32} (hc : Cla S R f dr) (hf : Fam S I R f w N G) (hst : Std S I R 6 s N G hb pb) (hm : I 70 2 = nI m) (hu : I 16 2 = nI u) (hv : I 58 2 = nI v) (hn : I 2 1 = nI n) : CC X (d + 4) M_X11_count [.ref 1, .int y] S (I, R) (some (.int (aCnt w s N G hb pb m u v n y))) S (I, R) := by
  have hG8 := hst.G8
  have hN6 := hst.N6
  have h256 := hst.h256
  have p256 := hst.p256
  have hund := hc.und
  have hkep := hc.kep
  have hoat := hc.oat
  have hord := hc.ord
  have htxt := hc.txt
  have htwo := hc.two
  have hgif := hc.gif
  have htri := hc.tri
  have hnow := hc.now
  have ho := ownB_256 s (-4) hG8
  refine CC.of2 (L := [.ref 1, .int y]) p_X11 (Nat.le_of_ble_eq_true rfl) rfl rfl (List.prefix_refl S) ?_
  refine r_iload_n dX11_count_0 rfl ?_
  by_cases k0 : y = nI 0
  · refine g_top k0 ?_
    refine r_tableIn (tgt := 60) dX11_count_1 (by decide) (by decide) (off := 59) rfl (by decide) ?_
    refine r_aload_n dX11_count_60 rfl ?_
    refine g_getR dX11_count_61 f_X11_66 (Cla.sg (by assumption)) rfl (Cla.f9 (by assumption)) ?_
    refine g_getI dX11_count_64 f_X11_103 (Fam.sg (by assumption)) rfl hf.hN ?_
    exact g_iret dX11_count_67 (by unfold aCnt; rw [if_pos k0]) rfl
  by_cases k1 : y = nI 1
  · refine g_top k1 ?_
    refine r_tableIn (tgt := 68) dX11_count_1 (by decide) (by decide) (off := 67) rfl (by decide) ?_
    refine r_aload_n dX11_count_68 rfl ?_
    refine g_getR dX11_count_69 f_X11_66 (Cla.sg (by assumption)) rfl (Cla.f9 (by assumption)) ?_
    refine g_getI dX11_count_72 f_X11_263 (Fam.sg (by assumption)) rfl hf.hG ?_
    exact g_iret dX11_count_75 (by unfold aCnt; rw [if_neg k0, if_pos k1]) rfl
  by_cases k2 : y = nI 2
  · refine g_top k2 ?_
    refine r_tableIn (tgt := 76) dX11_count_1 (by decide) (by decide) (off := 75) rfl (by decide) ?_
    refine r_aload_n dX11_count_76 rfl ?_
    refine r_aload_n dX11_count_77 rfl ?_
    refine g_getR dX11_count_78 f_X11_26 (Cla.sg (by assumption)) rfl (Cla.f2 (by assumption)) ?_
    refine r_V1 dX11_count_81 l_X11_304 k_X11_gone i_X11_gone (Cla.sg (by assumption)) ⟨_, rfl⟩ (Nat.le_of_ble_eq_true rfl) (v_X11_gone X _ (by first | assumption | omega) (by first | assumption | omega) (by first | assumption | omega)) (List.prefix_refl S) ?_
    exact g_iret dX11_count_84 (by unfold aCnt; rw [if_neg k0, if_neg k1, if_pos k2]) rfl
  by_cases k3 : y = nI 3
  · refine g_top k3 ?_
    refine r_tableIn (tgt := 85) dX11_count_1 (by decide) (by decide) (off := 84) rfl (by decide) ?_
    refine r_aload_n dX11_count_85 rfl ?_
    refine g_getR dX11_count_86 f_X11_26 (Cla.sg (by assumption)) rfl (Cla.f2 (by assumption)) ?_
    refine g_getI dX11_count_89 f_X11_157 (Sto.sg (Cla.now (by assumption))) rfl hst.packed ?_
    refine r_S1 dX11_count_92 l_X11_290 k_J6_bitCount_0f7a4 s_J6_bitCount_0f7a4 (Nat.le_of_ble_eq_true rfl) (v_J6_bitCount_0f7a4 X _ (by first | assumption | omega)) (List.prefix_refl S) ?_
    exact g_iret dX11_count_95 (by unfold aCnt; rw [if_neg k0, if_neg k1, if_neg k2, if_pos k3]) rfl
  by_cases k4 : y = nI 4
  · refine g_top k4 ?_
    refine r_tableIn (tgt := 96) dX11_count_1 (by decide) (by decide) (off := 95) rfl (by decide) ?_
    refine r_aload_n dX11_count_96 rfl ?_
    refine g_getR dX11_count_97 f_X11_26 (Cla.sg (by assumption)) rfl (Cla.f2 (by assumption)) ?_
    refine r_bipush dX11_count_100 bp_m4 ?_
    refine r_V1 dX11_count_102 l_X11_154 k_X8_owned i_X8_owned (Sto.sg (Cla.now (by assumption))) ⟨_, rfl⟩ (Nat.le_of_ble_eq_true rfl) (v_X8_owned X _ (by first | assumption | omega)) (List.prefix_refl S) ?_
    refine r_S1 dX11_count_105 l_X11_290 k_J6_bitCount_0f7a4 s_J6_bitCount_0f7a4 (Nat.le_of_ble_eq_true rfl) (v_J6_bitCount_0f7a4 X _ (by first | assumption | omega)) (List.prefix_refl S) ?_
    exact g_iret dX11_count_108 (by unfold aCnt; rw [if_neg k0, if_neg k1, if_neg k2, if_neg k3, if_pos k4]) rfl
  by_cases k5 : y = nI 5
  · refine g_top k5 ?_
    refine r_tableIn (tgt := 109) dX11_count_1 (by decide) (by decide) (off := 108) rfl (by decide) ?_
    refine r_aload_n dX11_count_109 rfl ?_
    refine r_V0 dX11_count_110 l_X11_308 k_X11_paidInAll i_X11_paidInAll (Cla.sg (by assumption)) ⟨_, rfl⟩ (Nat.le_of_ble_eq_true rfl) (v_X11_paidInAll X _ (by first | assumption | omega) (by first | assumption | omega) (by first | assumption | omega)) (List.prefix_refl S) ?_
    exact g_iret dX11_count_113 (by unfold aCnt; rw [if_neg k0, if_neg k1, if_neg k2, if_neg k3, if_neg k4, if_pos k5]) rfl
  by_cases k6 : y = nI 6
  · refine g_top k6 ?_
    refine r_tableIn (tgt := 114) dX11_count_1 (by decide) (by decide) (off := 113) rfl (by decide) ?_
    refine r_aload_n dX11_count_114 rfl ?_
    refine g_getR dX11_count_115 f_X11_66 (Cla.sg (by assumption)) rfl (Cla.f9 (by assumption)) ?_
    refine g_getI dX11_count_118 f_X11_311 (Fam.sg (by assumption)) rfl hf.hT ?_
    exact g_iret dX11_count_121 (by unfold aCnt; rw [if_neg k0, if_neg k1, if_neg k2, if_neg k3, if_neg k4, if_neg k5, if_pos k6]) rfl
  by_cases k7 : y = nI 7
  · refine g_top k7 ?_
    refine r_tableIn (tgt := 122) dX11_count_1 (by decide) (by decide) (off := 121) rfl (by decide) ?_
    refine r_aload_n dX11_count_122 rfl ?_
    refine g_getR dX11_count_123 f_X11_48 (Cla.sg (by assumption)) rfl (Cla.f6 (by assumption)) ?_
    refine g_getI dX11_count_126 f_X11_244 (Oat.sg (Cla.oat (by assumption))) rfl hm ?_
    exact g_iret dX11_count_129 (by unfold aCnt; rw [if_neg k0, if_neg k1, if_neg k2, if_neg k3, if_neg k4, if_neg k5, if_neg k6, if_pos k7]) rfl
  by_cases k8 : y = nI 8
  · refine g_top k8 ?_
    refine r_tableIn (tgt := 130) dX11_count_1 (by decide) (by decide) (off := 129) rfl (by decide) ?_
    refine r_aload_n dX11_count_130 rfl ?_
    refine g_getR dX11_count_131 f_X11_38 (Cla.sg (by assumption)) rfl (Cla.f4 (by assumption)) ?_
    refine g_getI dX11_count_134 f_X11_211 (Pio.sg (Cla.und (by assumption))) rfl hu ?_
    exact g_iret dX11_count_137 (by unfold aCnt; rw [if_neg k0, if_neg k1, if_neg k2, if_neg k3, if_neg k4, if_neg k5, if_neg k6, if_neg k7, if_pos k8]) rfl
  by_cases k9 : y = nI 9
  · refine g_top k9 ?_
    refine r_tableIn (tgt := 138) dX11_count_1 (by decide) (by decide) (off := 137) rfl (by decide) ?_
    refine r_aload_n dX11_count_138 rfl ?_
    refine g_getR dX11_count_139 f_X11_42 (Cla.sg (by assumption)) rfl (Cla.f5 (by assumption)) ?_
    refine g_getI dX11_count_142 f_X11_211 (Pio.sg (Cla.kep (by assumption))) rfl hv ?_
    exact g_iret dX11_count_145 (by unfold aCnt; rw [if_neg k0, if_neg k1, if_neg k2, if_neg k3, if_neg k4, if_neg k5, if_neg k6, if_neg k7, if_neg k8, if_pos k9]) rfl
  by_cases k10 : y = nI 10
  · refine g_top k10 ?_
    refine r_tableIn (tgt := 146) dX11_count_1 (by decide) (by decide) (off := 145) rfl (by decide) ?_
    refine r_aload_n dX11_count_146 rfl ?_
    refine g_getR dX11_count_147 f_X11_10 (Cla.sg (by assumption)) rfl (Cla.f0 (by assumption)) ?_
    refine g_getI dX11_count_150 f_X11_100 (Txt.sg (Cla.txt (by assumption))) rfl hn ?_
    exact g_iret dX11_count_153 (by unfold aCnt; rw [if_neg k0, if_neg k1, if_neg k2, if_neg k3, if_neg k4, if_neg k5, if_neg k6, if_neg k7, if_neg k8, if_neg k9, if_pos k10]) rfl
  refine r_tableOut (tgt := 154) dX11_count_1 (sw_outR 0 10 (by decide) (fun k h1 h2 e => by rcases (show k = 0 ∨ k = 1 ∨ k = 2 ∨ k = 3 ∨ k = 4 ∨ k = 5 ∨ k = 6 ∨ k = 7 ∨ k = 8 ∨ k = 9 ∨ k = 10 by omega) with rfl | rfl | rfl | rfl | rfl | rfl | rfl | rfl | rfl | rfl | rfl <;> first | exact k0 e | exact k1 e | exact k2 e | exact k3 e | exact k4 e | exact k5 e | exact k6 e | exact k7 e | exact k8 e | exact k9 e | exact k10 e)) (by decide) ?_
  refine r_iconst dX11_count_154 ic_m1 ?_
  exact g_iret dX11_count_155 (by unfold aCnt; rw [if_neg k0, if_neg k1, if_neg k2, if_neg k3, if_neg k4, if_neg k5, if_neg k6, if_neg k7, if_neg k8, if_neg k9, if_neg k10]) rfl

def thB (s : Nat → Int32) (G hb n : Nat) : Nat := nFold n (fun i b => if hb.testBit i = true then b ||| ownB s G (nI i) else b) 0
theorem thB_lt (s : Nat → Int32) {G hb : Nat} (h : G ≤ 8) : ∀ n, thB s G hb n < 256
  | 0 => by show (0 : Nat) < 256; decide
  | n + 1 => by
    show (if hb.testBit n = true then thB s G hb n ||| ownB s G (nI n) else thB s G hb n) < 256
    split
    · exact Nat.or_lt_two_pow (n := 8) (thB_lt s h n) (ownB_256 s (nI n) h)
    · exact thB_lt s h n
def chQ (w s : Nat → Int32) (N G hb : Nat) (k : Int32) (n : Nat) : Int32 := nFold n (fun b q => if dif b (thB s G hb N) = 0 ∧ (q = -4 ∨ ¬ q ≤ nI (pop b)) ∧ ¬ wthB w G b < k then nI (pop b) else q) (-4)
theorem chQ_s (w s : Nat → Int32) (N G hb : Nat) (k : Int32) (n : Nat) : chQ w s N G hb k (n + 1) = if dif n (thB s G hb N) = 0 ∧ (chQ w s N G hb k n = -4 ∨ ¬ chQ w s N G hb k n ≤ nI (pop n)) ∧ ¬ wthB w G n < k then nI (pop n) else chQ w s N G hb k n := rfl
set_option maxHeartbeats 4000000 in
set_option maxRecDepth 100000 in
theorem v_X11_chairs (X : mCx) (d : Nat) {S : mSh} {I : mI} {R : mR} {w s : Nat → Int32} {N G hb pb f dr : Nat} {x : Int32} (hc : Cla S R f dr) (hf : Fam S I R f w N G) (hst : Std S I R 6 s N G hb pb)  : CC X (d + 4) M_X11_chairs [.ref 1, .int x] S (I, R) (some (.int (if isS x = true then chQ w s N G hb x 256 else -1))) S (I, R) := by
  have hG8 := hst.G8
  have hN6 := hst.N6
  have h256 := hst.h256
  have p256 := hst.p256
  have hund := hc.und
  have hkep := hc.kep
  have hoat := hc.oat
  have hord := hc.ord
  have htxt := hc.txt
  have htwo := hc.two
  have hgif := hc.gif
  have htri := hc.tri
  have hnow := hc.now
  refine CC.of2 (L := [.ref 1, .int x, .retAddr 0, .retAddr 0, .retAddr 0, .retAddr 0]) p_X11 (Nat.le_of_ble_eq_true rfl) rfl rfl (List.prefix_refl S) ?_
  refine r_iload_n dX11_chairs_0 rfl ?_
  refine r_S1 dX11_chairs_1 l_X11_239 k_X11_isSum s_X11_isSum (Nat.le_of_ble_eq_true rfl) (v_X11_isSum X _ ) (List.prefix_refl S) ?_
  refine r_ifB_ne (tgt := 9) dX11_chairs_4 (by decide) (fun c4 => ?_) (fun c4 => ?_)
  · skip
    refine r_iconst dX11_chairs_9 ic_0 ?_
    refine r_istore_n (L' := [_, _, _, _, _, _]) dX11_chairs_10 rfl rfl ?_
    refine r_iconst dX11_chairs_11 ic_0 ?_
    refine r_istore_n (L' := [_, _, _, _, _, _]) dX11_chairs_12 rfl rfl ?_
    refine JJ.loop N (fun j => [.ref 1, .int x, .int (nI (thB s G hb j)), .int (nI j), .retAddr 0, .retAddr 0]) (fun j => (I, R)) (fun j => True) rfl rfl trivial (fun hp => ?_) (fun j hj hp K => ?_)
    · skip
      refine r_iload_n dX11_chairs_13 rfl ?_
      refine r_aload_n dX11_chairs_14 rfl ?_
      refine g_getR dX11_chairs_15 f_X11_66 (Cla.sg (by assumption)) rfl (Cla.f9 (by assumption)) ?_
      refine g_getI dX11_chairs_18 f_X11_103 (Fam.sg (by assumption)) rfl hf.hN ?_
      refine n_icmp_ge (tgt := 56) dX11_chairs_21 (by decide) (by omega) (by omega) (fun c21 => ?_) (fun c21 => absurd c21 (by omega))
      refine r_bipush dX11_chairs_56 bp_m4 ?_
      refine r_istore_n (L' := [_, _, _, _, _, _]) dX11_chairs_58 rfl rfl ?_
      refine r_iconst dX11_chairs_59 ic_0 ?_
      refine r_istore (L' := [_, _, _, _, _, _]) dX11_chairs_60 rfl rfl ?_
      refine JJ.loop 256 (fun j => [.ref 1, .int x, .int (nI (thB s G hb N)), .int (chQ w s N G hb x j), .int (nI j), .retAddr 0]) (fun j => (I, R)) (fun j => True) rfl rfl trivial (fun hp => ?_) (fun j hj hp K => ?_)
      · skip
        refine r_iload dX11_chairs_62 rfl ?_
        refine r_sipush dX11_chairs_64 sp_256 ?_
        refine n_icmp_ge (tgt := 131) dX11_chairs_67 (by decide) (by omega) (by omega) (fun c67 => ?_) (fun c67 => (by exfalso; omega))
        refine r_iload_n dX11_chairs_131 rfl ?_
        exact g_iret dX11_chairs_132 (by rw [if_pos c4]) rfl
      · have ht := thB_lt s (hb := hb) hG8 N; have hdl := dif_le j (thB s G hb N)
        refine r_iload dX11_chairs_62 rfl ?_
        refine r_sipush dX11_chairs_64 sp_256 ?_
        refine n_icmp_ge (tgt := 131) dX11_chairs_67 (by decide) (by omega) (by omega) (fun c67 => absurd c67 (by omega)) (fun c67 => ?_)
        refine r_iload_n dX11_chairs_70 rfl ?_
        refine r_bipush dX11_chairs_71 bp_m4 ?_
        refine r_icmp_eq (tgt := 85) dX11_chairs_73 (by decide) (fun c73 => ?_) (fun c73 => ?_)
        · skip
          refine r_iconst dX11_chairs_85 ic_1 ?_
          refine r_goto (tgt := 90) dX11_chairs_86 (by decide) ?_
          refine r_istore (L' := [_, _, _, _, _, _]) dX11_chairs_90 rfl rfl ?_
          refine r_iload dX11_chairs_92 rfl ?_
          refine r_iload_n dX11_chairs_94 rfl ?_
          refine r_iconst dX11_chairs_95 ic_m1 ?_
          refine r_ixor dX11_chairs_96 ?_
          refine r_iand dX11_chairs_97 ?_
          refine g_top (dif_eq (by omega) (by omega)) ?_
          refine n_if_ne (tgt := 125) dX11_chairs_98 (by decide) (by omega) (fun c98 => ?_) (fun c98 => ?_)
          · skip
            refine r_iinc (L' := [_, _, _, _, _, _]) dX11_chairs_125 rfl rfl (nI_inc _) rfl ?_
            refine r_goto (tgt := 62) dX11_chairs_128 (by decide) ?_
            refine JJ.wk_at 5 (JJ.to (K trivial) ?_ rfl rfl); rw [chQ_s]; first | (rw [if_pos (And.intro c98 (And.intro (Or.inl c73) c116))]; rfl) | (rw [if_pos (And.intro c98 (And.intro (Or.inr c82) c116))]; rfl) | (rw [if_neg (fun z => absurd c116 z.2.2)]; rfl) | (rw [if_neg (fun z => c98 z.1)]; rfl) | (rw [if_neg (fun z => z.2.1.elim c73 (fun q => q c82))]; rfl)
          · skip
            refine r_iload dX11_chairs_101 rfl ?_
            refine n_if_eq (tgt := 125) dX11_chairs_103 (by decide) (by omega) (fun c103 => absurd c103 (by decide)) (fun c103 => ?_)
            refine r_aload_n dX11_chairs_106 rfl ?_
            refine g_getR dX11_chairs_107 f_X11_66 (Cla.sg (by assumption)) rfl (Cla.f9 (by assumption)) ?_
            refine r_iload dX11_chairs_110 rfl ?_
            refine r_S2 dX11_chairs_112 l_X11_295 k_X0_worth s_X0_worth (Nat.le_of_ble_eq_true rfl) (v_X0_worth X _ (by first | assumption | omega) (by first | assumption | omega)) (List.prefix_refl S) ?_
            refine r_iload_n dX11_chairs_115 rfl ?_
            refine r_icmp_lt (tgt := 125) dX11_chairs_116 (by decide) (fun c116 => ?_) (fun c116 => ?_)
            · skip
              refine r_iinc (L' := [_, _, _, _, _, _]) dX11_chairs_125 rfl rfl (nI_inc _) rfl ?_
              refine r_goto (tgt := 62) dX11_chairs_128 (by decide) ?_
              refine JJ.wk_at 5 (JJ.to (K trivial) ?_ rfl rfl); rw [chQ_s]; first | (rw [if_pos (And.intro c98 (And.intro (Or.inl c73) c116))]; rfl) | (rw [if_pos (And.intro c98 (And.intro (Or.inr c82) c116))]; rfl) | (rw [if_neg (fun z => absurd c116 z.2.2)]; rfl) | (rw [if_neg (fun z => c98 z.1)]; rfl) | (rw [if_neg (fun z => z.2.1.elim c73 (fun q => q c82))]; rfl)
            · skip
              refine r_iload dX11_chairs_119 rfl ?_
              refine r_S1 dX11_chairs_121 l_X11_290 k_J6_bitCount_0f7a4 s_J6_bitCount_0f7a4 (Nat.le_of_ble_eq_true rfl) (v_J6_bitCount_0f7a4 X _ (by first | assumption | omega)) (List.prefix_refl S) ?_
              refine r_istore_n (L' := [_, _, _, _, _, _]) dX11_chairs_124 rfl rfl ?_
              refine r_iinc (L' := [_, _, _, _, _, _]) dX11_chairs_125 rfl rfl (nI_inc _) rfl ?_
              refine r_goto (tgt := 62) dX11_chairs_128 (by decide) ?_
              refine JJ.wk_at 5 (JJ.to (K trivial) ?_ rfl rfl); rw [chQ_s]; first | (rw [if_pos (And.intro c98 (And.intro (Or.inl c73) c116))]; rfl) | (rw [if_pos (And.intro c98 (And.intro (Or.inr c82) c116))]; rfl) | (rw [if_neg (fun z => absurd c116 z.2.2)]; rfl) | (rw [if_neg (fun z => c98 z.1)]; rfl) | (rw [if_neg (fun z => z.2.1.elim c73 (fun q => q c82))]; rfl)
        · skip
          refine r_iload dX11_chairs_76 rfl ?_
          refine r_S1 dX11_chairs_78 l_X11_290 k_J6_bitCount_0f7a4 s_J6_bitCount_0f7a4 (Nat.le_of_ble_eq_true rfl) (v_J6_bitCount_0f7a4 X _ (by first | assumption | omega)) (List.prefix_refl S) ?_
          refine r_iload_n dX11_chairs_81 rfl ?_
          refine r_icmp_ge (tgt := 89) dX11_chairs_82 (by decide) (fun c82 => ?_) (fun c82 => ?_)
          · skip
            refine r_iconst dX11_chairs_89 ic_0 ?_
            refine r_istore (L' := [_, _, _, _, _, _]) dX11_chairs_90 rfl rfl ?_
            refine r_iload dX11_chairs_92 rfl ?_
            refine r_iload_n dX11_chairs_94 rfl ?_
            refine r_iconst dX11_chairs_95 ic_m1 ?_
            refine r_ixor dX11_chairs_96 ?_
            refine r_iand dX11_chairs_97 ?_
            refine g_top (dif_eq (by omega) (by omega)) ?_
            refine n_if_ne (tgt := 125) dX11_chairs_98 (by decide) (by omega) (fun c98 => ?_) (fun c98 => ?_)
            · skip
              refine r_iinc (L' := [_, _, _, _, _, _]) dX11_chairs_125 rfl rfl (nI_inc _) rfl ?_
              refine r_goto (tgt := 62) dX11_chairs_128 (by decide) ?_
              refine JJ.wk_at 5 (JJ.to (K trivial) ?_ rfl rfl); rw [chQ_s]; first | (rw [if_pos (And.intro c98 (And.intro (Or.inl c73) c116))]; rfl) | (rw [if_pos (And.intro c98 (And.intro (Or.inr c82) c116))]; rfl) | (rw [if_neg (fun z => absurd c116 z.2.2)]; rfl) | (rw [if_neg (fun z => c98 z.1)]; rfl) | (rw [if_neg (fun z => z.2.1.elim c73 (fun q => q c82))]; rfl)
            · skip
              refine r_iload dX11_chairs_101 rfl ?_
              refine n_if_eq (tgt := 125) dX11_chairs_103 (by decide) (by omega) (fun c103 => ?_) (fun c103 => absurd rfl c103)
              refine r_iinc (L' := [_, _, _, _, _, _]) dX11_chairs_125 rfl rfl (nI_inc _) rfl ?_
              refine r_goto (tgt := 62) dX11_chairs_128 (by decide) ?_
              refine JJ.wk_at 5 (JJ.to (K trivial) ?_ rfl rfl); rw [chQ_s]; first | (rw [if_pos (And.intro c98 (And.intro (Or.inl c73) c116))]; rfl) | (rw [if_pos (And.intro c98 (And.intro (Or.inr c82) c116))]; rfl) | (rw [if_neg (fun z => absurd c116 z.2.2)]; rfl) | (rw [if_neg (fun z => c98 z.1)]; rfl) | (rw [if_neg (fun z => z.2.1.elim c73 (fun q => q c82))]; rfl)
          · skip
            refine r_iconst dX11_chairs_85 ic_1 ?_
            refine r_goto (tgt := 90) dX11_chairs_86 (by decide) ?_
            refine r_istore (L' := [_, _, _, _, _, _]) dX11_chairs_90 rfl rfl ?_
            refine r_iload dX11_chairs_92 rfl ?_
            refine r_iload_n dX11_chairs_94 rfl ?_
            refine r_iconst dX11_chairs_95 ic_m1 ?_
            refine r_ixor dX11_chairs_96 ?_
            refine r_iand dX11_chairs_97 ?_
            refine g_top (dif_eq (by omega) (by omega)) ?_
            refine n_if_ne (tgt := 125) dX11_chairs_98 (by decide) (by omega) (fun c98 => ?_) (fun c98 => ?_)
            · skip
              refine r_iinc (L' := [_, _, _, _, _, _]) dX11_chairs_125 rfl rfl (nI_inc _) rfl ?_
              refine r_goto (tgt := 62) dX11_chairs_128 (by decide) ?_
              refine JJ.wk_at 5 (JJ.to (K trivial) ?_ rfl rfl); rw [chQ_s]; first | (rw [if_pos (And.intro c98 (And.intro (Or.inl c73) c116))]; rfl) | (rw [if_pos (And.intro c98 (And.intro (Or.inr c82) c116))]; rfl) | (rw [if_neg (fun z => absurd c116 z.2.2)]; rfl) | (rw [if_neg (fun z => c98 z.1)]; rfl) | (rw [if_neg (fun z => z.2.1.elim c73 (fun q => q c82))]; rfl)
            · skip
              refine r_iload dX11_chairs_101 rfl ?_
              refine n_if_eq (tgt := 125) dX11_chairs_103 (by decide) (by omega) (fun c103 => absurd c103 (by decide)) (fun c103 => ?_)
              refine r_aload_n dX11_chairs_106 rfl ?_
              refine g_getR dX11_chairs_107 f_X11_66 (Cla.sg (by assumption)) rfl (Cla.f9 (by assumption)) ?_
              refine r_iload dX11_chairs_110 rfl ?_
              refine r_S2 dX11_chairs_112 l_X11_295 k_X0_worth s_X0_worth (Nat.le_of_ble_eq_true rfl) (v_X0_worth X _ (by first | assumption | omega) (by first | assumption | omega)) (List.prefix_refl S) ?_
              refine r_iload_n dX11_chairs_115 rfl ?_
              refine r_icmp_lt (tgt := 125) dX11_chairs_116 (by decide) (fun c116 => ?_) (fun c116 => ?_)
              · skip
                refine r_iinc (L' := [_, _, _, _, _, _]) dX11_chairs_125 rfl rfl (nI_inc _) rfl ?_
                refine r_goto (tgt := 62) dX11_chairs_128 (by decide) ?_
                refine JJ.wk_at 5 (JJ.to (K trivial) ?_ rfl rfl); rw [chQ_s]; first | (rw [if_pos (And.intro c98 (And.intro (Or.inl c73) c116))]; rfl) | (rw [if_pos (And.intro c98 (And.intro (Or.inr c82) c116))]; rfl) | (rw [if_neg (fun z => absurd c116 z.2.2)]; rfl) | (rw [if_neg (fun z => c98 z.1)]; rfl) | (rw [if_neg (fun z => z.2.1.elim c73 (fun q => q c82))]; rfl)
              · skip
                refine r_iload dX11_chairs_119 rfl ?_
                refine r_S1 dX11_chairs_121 l_X11_290 k_J6_bitCount_0f7a4 s_J6_bitCount_0f7a4 (Nat.le_of_ble_eq_true rfl) (v_J6_bitCount_0f7a4 X _ (by first | assumption | omega)) (List.prefix_refl S) ?_
                refine r_istore_n (L' := [_, _, _, _, _, _]) dX11_chairs_124 rfl rfl ?_
                refine r_iinc (L' := [_, _, _, _, _, _]) dX11_chairs_125 rfl rfl (nI_inc _) rfl ?_
                refine r_goto (tgt := 62) dX11_chairs_128 (by decide) ?_
                refine JJ.wk_at 5 (JJ.to (K trivial) ?_ rfl rfl); rw [chQ_s]; first | (rw [if_pos (And.intro c98 (And.intro (Or.inl c73) c116))]; rfl) | (rw [if_pos (And.intro c98 (And.intro (Or.inr c82) c116))]; rfl) | (rw [if_neg (fun z => absurd c116 z.2.2)]; rfl) | (rw [if_neg (fun z => c98 z.1)]; rfl) | (rw [if_neg (fun z => z.2.1.elim c73 (fun q => q c82))]; rfl)
    · skip
      refine r_iload_n dX11_chairs_13 rfl ?_
      refine r_aload_n dX11_chairs_14 rfl ?_
      refine g_getR dX11_chairs_15 f_X11_66 (Cla.sg (by assumption)) rfl (Cla.f9 (by assumption)) ?_
      refine g_getI dX11_chairs_18 f_X11_103 (Fam.sg (by assumption)) rfl hf.hN ?_
      refine n_icmp_ge (tgt := 56) dX11_chairs_21 (by decide) (by omega) (by omega) (fun c21 => absurd c21 (by omega)) (fun c21 => ?_)
      refine r_iload_n dX11_chairs_24 rfl ?_
      refine r_aload_n dX11_chairs_25 rfl ?_
      refine g_getR dX11_chairs_26 f_X11_26 (Cla.sg (by assumption)) rfl (Cla.f2 (by assumption)) ?_
      refine r_iload_n dX11_chairs_29 rfl ?_
      refine r_V1 dX11_chairs_30 l_X11_122 k_X8_isHere i_X8_isHere (Sto.sg (Cla.now (by assumption))) ⟨_, rfl⟩ (Nat.le_of_ble_eq_true rfl) (v_X8_isHere X _ (by first | assumption | omega) (by first | assumption | omega)) (List.prefix_refl S) ?_
      refine r_ifB_eq (tgt := 47) dX11_chairs_33 (by decide) (fun c33 => ?_) (fun c33 => ?_)
      · skip
        refine r_iconst dX11_chairs_47 ic_0 ?_
        refine r_ior dX11_chairs_48 ?_
        refine g_top (nI_or _ _) ?_
        refine r_istore_n (L' := [_, _, _, _, _, _]) dX11_chairs_49 rfl rfl ?_
        refine r_iinc (L' := [_, _, _, _, _, _]) dX11_chairs_50 rfl rfl (nI_inc _) rfl ?_
        refine r_goto (tgt := 13) dX11_chairs_53 (by decide) ?_
        exact JJ.to (K trivial) (by simp [thB, nFold, *]) rfl rfl
      · skip
        refine r_aload_n dX11_chairs_36 rfl ?_
        refine g_getR dX11_chairs_37 f_X11_26 (Cla.sg (by assumption)) rfl (Cla.f2 (by assumption)) ?_
        refine r_iload_n dX11_chairs_40 rfl ?_
        refine r_V1 dX11_chairs_41 l_X11_154 k_X8_owned i_X8_owned (Sto.sg (Cla.now (by assumption))) ⟨_, rfl⟩ (Nat.le_of_ble_eq_true rfl) (v_X8_owned X _ (by first | assumption | omega)) (List.prefix_refl S) ?_
        refine r_goto (tgt := 48) dX11_chairs_44 (by decide) ?_
        refine r_ior dX11_chairs_48 ?_
        refine g_top (nI_or _ _) ?_
        refine r_istore_n (L' := [_, _, _, _, _, _]) dX11_chairs_49 rfl rfl ?_
        refine r_iinc (L' := [_, _, _, _, _, _]) dX11_chairs_50 rfl rfl (nI_inc _) rfl ?_
        refine r_goto (tgt := 13) dX11_chairs_53 (by decide) ?_
        exact JJ.to (K trivial) (by simp [thB, nFold, *]) rfl rfl
  · skip
    refine r_iconst dX11_chairs_7 ic_m1 ?_
    exact g_iret dX11_chairs_8 (by rw [if_neg (by rw [c4]; decide)]) rfl

