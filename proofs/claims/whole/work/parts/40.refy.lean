/-! ===== the reference's year ===== -/
theorem is40_in {y : Int32} : (!decide (y.toInt64 < lN 1) && !decide (lN 40 < y.toInt64)) = is40 y := by rw [inL (by decide) (by decide)]; rfl
theorem is14_in {y : Int32} : (!decide (y.toInt64 < lN 1) && !decide (lN 4 < y.toInt64)) = is14 y := by rw [inL (by decide) (by decide)]; rfl
theorem inZ {x : Int32} : (!decide (x.toInt64 < lN 0) && !decide (lN 9999 < x.toInt64)) = isP 10000 x := inP (n := 10000) (by decide)
def yM (w s : Nat → Int32) (N G hb i : Nat) : Int32 × (Nat → Int32) × Nat := if hb.testBit i = true then (if (!decide (s (1 + i) < owe w s N G hb i) && !alone w N (clr hb i)) = true then (owe w s N G hb i, sGo (payS s i (owe w s N G hb i)) G hb i (owe w s N G hb i), clr hb i) else (nI 0, s, hb)) else if s (1 + i) < feeB w s i then (nI 0, s, hb) else (feeB w s i, up (payS s i (feeB w s i)) 0 (nI (hb ||| 2 ^ i)), hb ||| 2 ^ i)
def yrM (w s : Nat → Int32) (N G hb z n : Nat) : Int32 × (Nat → Int32) × Nat := nFold n (fun k q => (q.1 + (yM w q.2.1 N G q.2.2 (drN N z k)).1, (yM w q.2.1 N G q.2.2 (drN N z k)).2)) (nI 0, s, hb)
theorem yrM_s (w s : Nat → Int32) (N G hb z n : Nat) : yrM w s N G hb z (n + 1) = ((yrM w s N G hb z n).1 + (yM w (yrM w s N G hb z n).2.1 N G (yrM w s N G hb z n).2.2 (drN N z n)).1, (yM w (yrM w s N G hb z n).2.1 N G (yrM w s N G hb z n).2.2 (drN N z n)).2) := rfl
theorem yM_1 {w s : Nat → Int32} {N G hb i : Nat} (h1 : hb.testBit i = true) (h2 : (!decide (s (1 + i) < owe w s N G hb i) && !alone w N (clr hb i)) = true) : yM w s N G hb i = (owe w s N G hb i, sGo (payS s i (owe w s N G hb i)) G hb i (owe w s N G hb i), clr hb i) := by unfold yM; rw [if_pos h1, if_pos h2]
theorem yM_2 {w s : Nat → Int32} {N G hb i : Nat} (h1 : hb.testBit i = true) (h2 : (!decide (s (1 + i) < owe w s N G hb i) && !alone w N (clr hb i)) = false) : yM w s N G hb i = (nI 0, s, hb) := by unfold yM; rw [if_pos h1, if_neg (by rw [h2]; decide)]
theorem yM_3 {w s : Nat → Int32} {N G hb i : Nat} (h1 : hb.testBit i = false) (h2 : s (1 + i) < feeB w s i) : yM w s N G hb i = (nI 0, s, hb) := by unfold yM; rw [if_neg (by rw [h1]; decide), if_pos h2]
theorem yM_4 {w s : Nat → Int32} {N G hb i : Nat} (h1 : hb.testBit i = false) (h2 : ¬ s (1 + i) < feeB w s i) : yM w s N G hb i = (feeB w s i, up (payS s i (feeB w s i)) 0 (nI (hb ||| 2 ^ i)), hb ||| 2 ^ i) := by unfold yM; rw [if_neg (by rw [h1]; decide), if_neg h2]
theorem or_256 {b i : Nat} (hb : b < 256) (hi : i < 8) : b ||| 2 ^ i < 256 := Nat.or_lt_two_pow (n := 8) hb (Nat.pow_lt_pow_right (by decide) hi)
theorem MoD.st {I : mI} {s t : Nat → Int32} {hb hb1 : Nat} (_q : MoD (dW I 385 s) 385 s hb) (h0 : t 0 = nI hb1) (h1 : hb1 < 256) : MoD (dW I 385 t) 385 t hb1 := MoD.mk h0 h1 (by decide)
set_option maxHeartbeats 4000000 in
set_option maxRecDepth 100000 in
theorem v_X12_year_t (X : mCx) (d : Nat) {S : mSh} {I : mI} {R : mR} {w s : Nat → Int32} {N G hb z n : Nat} {y : Int32} (hm : Mod S R) (hw : MoW I w N G) (hd : MoD I 0 s hb) (hN1 : 1 ≤ N) (hz : z ≤ 9999) (hn1 : 1 ≤ n) (hn : n ≤ 40) (hy : isA y = true) : CC X (d + 5) M_X12_year [.ref 97, .int (nI z), .int (nI n), .int y] S (I, R) (some (.int (if y = nI 0 then nI N - nI (pop (yrM w s N G hb z n).2.2) else (yrM w s N G hb z n).1))) S (dW I 385 (yrM w s N G hb z n).2.1, R) := by
  have hN6 := hw.N6
  have hG8 := hw.G8
  have h256 := hd.b256
  refine CC.of2 (L := [.ref 97, .int (nI z), .int (nI n), .int y, .retAddr 0, .retAddr 0, .retAddr 0, .retAddr 0, .retAddr 0, .retAddr 0, .retAddr 0]) p_X12 (Nat.le_of_ble_eq_true rfl) rfl rfl (List.prefix_refl S) ?_
  refine r_iload_n dX12_year_0 rfl ?_
  refine r_i2l dX12_year_1 rfl ?_
  refine r_lconst (v := lN 0) dX12_year_2 rfl ?_
  refine r_ldc2 dX12_year_3 c_X12_208 ?_
  refine r_S3 dX12_year_6 l_X12_62 k_X12_in s_X12_in (Nat.le_of_ble_eq_true rfl) (v_X12_in X _ ) (List.prefix_refl S) ?_
  refine g_top (congrArg bI (in_n (k := z) (a := 0) (b := 9999) (by omega) (by decide) (by decide))) ?_
  refine r_ifB_eq (tgt := 34) dX12_year_9 (by decide) (fun c9 => absurd (show (decide (0 ≤ z) && decide (z ≤ 9999)) = true by simp [hz]) (by rw [c9]; decide)) (fun c9 => ?_)
  refine r_iload_n dX12_year_12 rfl ?_
  refine r_i2l dX12_year_13 rfl ?_
  refine r_lconst (v := lN 1) dX12_year_14 rfl ?_
  refine r_ldc2 dX12_year_15 c_X12_60 ?_
  refine r_S3 dX12_year_18 l_X12_62 k_X12_in s_X12_in (Nat.le_of_ble_eq_true rfl) (v_X12_in X _ ) (List.prefix_refl S) ?_
  refine g_top (congrArg bI (in_n (k := n) (a := 1) (b := 40) (by omega) (by decide) (by decide))) ?_
  refine r_ifB_eq (tgt := 34) dX12_year_21 (by decide) (fun c21 => absurd (show (decide (1 ≤ n) && decide (n ≤ 40)) = true by simp [hn1, hn]) (by rw [c21]; decide)) (fun c21 => ?_)
  refine r_iload_n dX12_year_24 rfl ?_
  refine r_i2l dX12_year_25 rfl ?_
  refine r_lconst (v := lN 0) dX12_year_26 rfl ?_
  refine r_lconst (v := lN 1) dX12_year_27 rfl ?_
  refine r_S3 dX12_year_28 l_X12_62 k_X12_in s_X12_in (Nat.le_of_ble_eq_true rfl) (v_X12_in X _ ) (List.prefix_refl S) ?_
  refine g_top (congrArg bI isA_in) ?_
  refine r_ifB_ne (tgt := 36) dX12_year_31 (by decide) (fun c31 => ?_) (fun c31 => absurd hy (by rw [c31]; decide))
  refine r_iconst dX12_year_36 ic_0 ?_
  refine r_istore (L' := [_, _, _, _, _, _, _, _, _, _, _]) dX12_year_37 rfl rfl ?_
  refine r_aload_n dX12_year_39 rfl ?_
  refine r_iconst dX12_year_40 ic_0 ?_
  refine r_sipush dX12_year_41 sp_385 ?_
  refine r_V2 dX12_year_44 l_X12_147 k_X12_copy i_X12_copy (Mod.sg (by assumption)) ⟨_, rfl⟩ (Nat.le_of_ble_eq_true rfl) (v_X12_copy X _ hm hd (by omega) (by omega)) (List.prefix_refl S) ?_
  refine r_iconst dX12_year_47 ic_0 ?_
  refine r_istore (L' := [_, _, _, _, _, _, _, _, _, _, _]) dX12_year_48 rfl rfl ?_
  refine JJ.loop n (fun j => [.ref 97, .int (nI z), .int (nI n), .int y, .int (yrM w s N G hb z j).1, .int (nI j), .retAddr 0, .retAddr 0, .retAddr 0, .retAddr 0, .retAddr 0]) (fun j => (dW I 385 (yrM w s N G hb z j).2.1, R)) (fun j => MoD (dW I 385 (yrM w s N G hb z j).2.1) 385 (yrM w s N G hb z j).2.1 (yrM w s N G hb z j).2.2) rfl rfl (MoD.mk hd.2.1 h256 (by decide)) (fun hp => ?_) (fun j hj hp K => ?_)
  · have hw := hw.dW (h := 385) (s := (yrM w s N G hb z n).2.1); have hb1 := hp.b256
    refine r_iload dX12_year_50 rfl ?_
    refine r_iload_n dX12_year_52 rfl ?_
    refine n_icmp_ge (tgt := 226) dX12_year_53 (by decide) (by omega) (by omega) (fun c53 => ?_) (fun c53 => absurd c53 (by omega))
    refine r_iload_n dX12_year_226 rfl ?_
    refine r_if_ne (tgt := 251) dX12_year_227 (by decide) (fun c227 => ?_) (fun c227 => ?_)
    · skip
      refine r_iload dX12_year_251 rfl ?_
      exact g_iret dX12_year_253 (by first | rw [if_pos (by rw [nI_0]; exact c227)] | rw [if_neg (by rw [nI_0]; exact c227)]) rfl
    · skip
      refine r_aload_n dX12_year_230 rfl ?_
      refine g_getR dX12_year_231 f_X12_7 (Mod.sg (by assumption)) rfl (Mod.r98 (by assumption)) ?_
      refine r_iconst dX12_year_234 ic_0 ?_
      refine g_iald dX12_year_235 (Mod.s98 (by assumption)) rfl (by omega) (by omega) hw.n0 ?_
      refine r_aload_n dX12_year_236 rfl ?_
      refine g_getR dX12_year_237 f_X12_13 (Mod.sg (by assumption)) rfl (Mod.r99 (by assumption)) ?_
      refine r_sipush dX12_year_240 sp_385 ?_
      refine g_iald dX12_year_243 (Mod.s99 (by assumption)) rfl (by omega) (by omega) (hp.h0 rfl) ?_
      refine r_S1 dX12_year_244 l_X12_205 k_X12_ones s_X12_ones (Nat.le_of_ble_eq_true rfl) (v_X12_ones X _ (by first | assumption | omega)) (List.prefix_refl S) ?_
      refine r_isub dX12_year_247 ?_
      refine r_goto (tgt := 253) dX12_year_248 (by decide) ?_
      exact g_iret dX12_year_253 (by first | rw [if_pos (by rw [nI_0]; exact c227)] | rw [if_neg (by rw [nI_0]; exact c227)]) rfl
  · have hw := hw.dW (h := 385) (s := (yrM w s N G hb z j).2.1); have hd1 := drN_lt (z := z) (k := j) (show 0 < N by omega); have hb1 := hp.b256
    refine r_iload dX12_year_50 rfl ?_
    refine r_iload_n dX12_year_52 rfl ?_
    refine n_icmp_ge (tgt := 226) dX12_year_53 (by decide) (by omega) (by omega) (fun c53 => absurd c53 (by omega)) (fun c53 => ?_)
    refine r_ldc2 dX12_year_56 c_X12_210 ?_
    refine r_iload_n dX12_year_59 rfl ?_
    refine r_i2l dX12_year_60 rfl ?_
    refine r_lmul dX12_year_61 ?_
    refine r_ldc2 dX12_year_62 c_X12_212 ?_
    refine r_iload dX12_year_65 rfl ?_
    refine r_i2l dX12_year_67 rfl ?_
    refine r_lmul dX12_year_68 ?_
    refine r_ladd dX12_year_69 ?_
    refine r_lconst (v := lN 1) dX12_year_70 rfl ?_
    refine r_ladd dX12_year_71 ?_
    refine r_lstore (L' := [_, _, _, _, _, _, _, _, _, _, _]) dX12_year_72 rfl rfl ?_
    refine r_lload dX12_year_74 rfl ?_
    refine r_lload dX12_year_76 rfl ?_
    refine r_lmul dX12_year_78 ?_
    refine r_ldc2 dX12_year_79 c_X12_214 ?_
    refine r_lrem dX12_year_82 (by decide) ?_
    refine r_ldc2 dX12_year_83 c_X12_216 ?_
    refine r_ldiv dX12_year_86 (by decide) ?_
    refine r_aload_n dX12_year_87 rfl ?_
    refine g_getR dX12_year_88 f_X12_7 (Mod.sg (by assumption)) rfl (Mod.r98 (by assumption)) ?_
    refine r_iconst dX12_year_91 ic_0 ?_
    refine g_iald dX12_year_92 (Mod.s98 (by assumption)) rfl (by omega) (by omega) hw.n0 ?_
    refine r_i2l dX12_year_93 rfl ?_
    refine r_lrem dX12_year_94 (by rw [nI_l (by omega)]; exact lN_ne (by omega) (by omega)) ?_
    refine r_l2i dX12_year_95 (show _ = nI (drN N z j) by have hm := Nat.mod_lt ((7919 * z + 6151 * j + 1) * (7919 * z + 6151 * j + 1)) (show 0 < 65521 by decide); rw [nI_l (show z < 2 ^ 31 by omega), nI_l (show j < 2 ^ 31 by omega), nI_l (show N < 2 ^ 31 by omega), l7919, l6151, l65521, l8, lN_mul, lN_mul, lN_add]; rw [dr_eq hz (by omega) _ (lN_add _ 1), lN_rem (by omega) (by omega) (by omega), show (7919 * z + 6151 * j + 1) * (7919 * z + 6151 * j + 1) % 65521 / 8 % N = drN N z j from rfl, lN_I32 (show drN N z j < 2 ^ 31 by omega)]) ?_
    refine r_istore (L' := [_, _, _, _, _, _, _, _, _, _, _]) dX12_year_96 rfl rfl ?_
    refine r_aload_n dX12_year_98 rfl ?_
    refine g_getR dX12_year_99 f_X12_13 (Mod.sg (by assumption)) rfl (Mod.r99 (by assumption)) ?_
    refine r_sipush dX12_year_102 sp_385 ?_
    refine g_iald dX12_year_105 (Mod.s99 (by assumption)) rfl (by omega) (by omega) (hp.h0 rfl) ?_
    refine r_iload dX12_year_106 rfl ?_
    refine r_S2 dX12_year_108 l_X12_114 k_X12_has s_X12_has (Nat.le_of_ble_eq_true rfl) (v_X12_has X _ (by first | assumption | omega) (by first | assumption | omega)) (List.prefix_refl S) ?_
    refine r_istore (L' := [_, _, _, _, _, _, _, _, _, _, _]) dX12_year_111 rfl rfl ?_
    refine r_iload dX12_year_113 rfl ?_
    refine r_ifB_eq (tgt := 132) dX12_year_115 (by decide) (fun c115 => ?_) (fun c115 => ?_)
    · skip
      refine r_aload_n dX12_year_132 rfl ?_
      refine r_sipush dX12_year_133 sp_385 ?_
      refine r_iload dX12_year_136 rfl ?_
      refine r_V2 dX12_year_138 l_X12_170 k_X12_backFor i_X12_backFor (Mod.sg (by assumption)) ⟨_, rfl⟩ (Nat.le_of_ble_eq_true rfl) (v_X12_backFor X _ hm hw hp hd1) (List.prefix_refl S) ?_
      refine r_istore (L' := [_, _, _, _, _, _, _, _, _, _, _]) dX12_year_141 rfl rfl ?_
      refine r_iload dX12_year_143 rfl ?_
      refine r_ifB_eq (tgt := 181) dX12_year_145 (by decide) (fun c145 => ?_) (fun c145 => absurd (c115.symm.trans c145) (by decide))
      refine r_iload dX12_year_181 rfl ?_
      refine r_ifB_ne (tgt := 220) dX12_year_183 (by decide) (fun c183 => absurd (c115.symm.trans c183) (by decide)) (fun c183 => ?_)
      refine r_aload_n dX12_year_186 rfl ?_
      refine g_getR dX12_year_187 f_X12_13 (Mod.sg (by assumption)) rfl (Mod.r99 (by assumption)) ?_
      refine r_sipush dX12_year_190 sp_386 ?_
      refine r_iload dX12_year_193 rfl ?_
      refine n_iadd dX12_year_195 ?_
      refine g_iald dX12_year_196 (Mod.s99 (by assumption)) rfl (by omega) (by omega) (hp.at (k := 1 + drN N z j) (by omega) (by omega)) ?_
      refine r_iload dX12_year_197 rfl ?_
      refine r_icmp_lt (tgt := 220) dX12_year_199 (by decide) (fun c199 => ?_) (fun c199 => ?_)
      · skip
        refine r_iinc (L' := [_, _, _, _, _, _, _, _, _, _, _]) dX12_year_220 rfl rfl (nI_inc _) rfl ?_
        refine r_goto (tgt := 50) dX12_year_223 (by decide) ?_
        first | (have e := yM_1 (N := N) (G := G) c115 c157; have e2 := yrM_s w s N G hb z j; rw [e] at e2; dsimp only at e2; exact JJ.wk_at 6 (JJ.wk_at 7 (JJ.wk_at 8 (JJ.wk_at 9 (JJ.wk_at 10 (JJ.to (K (by rw [e2]; dsimp only; exact (hp.st sGo_0 (Nat.lt_of_le_of_lt (clr_le _ _) hp.b256)))) (by simp only [e2, nI_0, Int32.add_zero]; try rfl) rfl (by simp only [e2, dW_2]))))))) | (have e := yM_2 (N := N) (G := G) c115 c157; have e2 := yrM_s w s N G hb z j; rw [e] at e2; dsimp only at e2; exact JJ.wk_at 6 (JJ.wk_at 7 (JJ.wk_at 8 (JJ.wk_at 9 (JJ.wk_at 10 (JJ.to (K (by rw [e2]; dsimp only; exact hp)) (by simp only [e2, nI_0, Int32.add_zero]; try rfl) rfl (by simp only [e2, dW_2]))))))) | (have e := yM_4 (N := N) (G := G) c115 c199; have e2 := yrM_s w s N G hb z j; rw [e] at e2; dsimp only at e2; exact JJ.wk_at 6 (JJ.wk_at 7 (JJ.wk_at 8 (JJ.wk_at 9 (JJ.wk_at 10 (JJ.to (K (by rw [e2]; dsimp only; exact (hp.st (up_eq _ _ _) (or_256 hp.b256 (by omega))))) (by simp only [e2, nI_0, Int32.add_zero]; try rfl) rfl (by simp only [e2, dW_2]))))))) | (have e := yM_3 (N := N) (G := G) c115 c199; have e2 := yrM_s w s N G hb z j; rw [e] at e2; dsimp only at e2; exact JJ.wk_at 6 (JJ.wk_at 7 (JJ.wk_at 8 (JJ.wk_at 9 (JJ.wk_at 10 (JJ.to (K (by rw [e2]; dsimp only; exact hp)) (by simp only [e2, nI_0, Int32.add_zero]; try rfl) rfl (by simp only [e2, dW_2])))))))
      · have c199 := Int32.not_lt.mpr (Int32.not_lt.mp c199)
        refine r_aload_n dX12_year_202 rfl ?_
        refine r_sipush dX12_year_203 sp_385 ?_
        refine r_iload dX12_year_206 rfl ?_
        refine r_iload dX12_year_208 rfl ?_
        refine r_V3 dX12_year_210 l_X12_173 k_X12_returns i_X12_returns (Mod.sg (by assumption)) ⟨_, rfl⟩ (Nat.le_of_ble_eq_true rfl) (v_X12_returns X _ hm hw hp hd1) (List.prefix_refl S) ?_
        refine r_iload dX12_year_213 rfl ?_
        refine r_iload dX12_year_215 rfl ?_
        refine r_iadd dX12_year_217 ?_
        refine r_istore (L' := [_, _, _, _, _, _, _, _, _, _, _]) dX12_year_218 rfl rfl ?_
        refine r_iinc (L' := [_, _, _, _, _, _, _, _, _, _, _]) dX12_year_220 rfl rfl (nI_inc _) rfl ?_
        refine r_goto (tgt := 50) dX12_year_223 (by decide) ?_
        first | (have e := yM_1 (N := N) (G := G) c115 c157; have e2 := yrM_s w s N G hb z j; rw [e] at e2; dsimp only at e2; exact JJ.wk_at 6 (JJ.wk_at 7 (JJ.wk_at 8 (JJ.wk_at 9 (JJ.wk_at 10 (JJ.to (K (by rw [e2]; dsimp only; exact (hp.st sGo_0 (Nat.lt_of_le_of_lt (clr_le _ _) hp.b256)))) (by simp only [e2, nI_0, Int32.add_zero]; try rfl) rfl (by simp only [e2, dW_2]))))))) | (have e := yM_2 (N := N) (G := G) c115 c157; have e2 := yrM_s w s N G hb z j; rw [e] at e2; dsimp only at e2; exact JJ.wk_at 6 (JJ.wk_at 7 (JJ.wk_at 8 (JJ.wk_at 9 (JJ.wk_at 10 (JJ.to (K (by rw [e2]; dsimp only; exact hp)) (by simp only [e2, nI_0, Int32.add_zero]; try rfl) rfl (by simp only [e2, dW_2]))))))) | (have e := yM_4 (N := N) (G := G) c115 c199; have e2 := yrM_s w s N G hb z j; rw [e] at e2; dsimp only at e2; exact JJ.wk_at 6 (JJ.wk_at 7 (JJ.wk_at 8 (JJ.wk_at 9 (JJ.wk_at 10 (JJ.to (K (by rw [e2]; dsimp only; exact (hp.st (up_eq _ _ _) (or_256 hp.b256 (by omega))))) (by simp only [e2, nI_0, Int32.add_zero]; try rfl) rfl (by simp only [e2, dW_2]))))))) | (have e := yM_3 (N := N) (G := G) c115 c199; have e2 := yrM_s w s N G hb z j; rw [e] at e2; dsimp only at e2; exact JJ.wk_at 6 (JJ.wk_at 7 (JJ.wk_at 8 (JJ.wk_at 9 (JJ.wk_at 10 (JJ.to (K (by rw [e2]; dsimp only; exact hp)) (by simp only [e2, nI_0, Int32.add_zero]; try rfl) rfl (by simp only [e2, dW_2])))))))
    · skip
      refine r_aload_n dX12_year_118 rfl ?_
      refine r_sipush dX12_year_119 sp_385 ?_
      refine r_iload dX12_year_122 rfl ?_
      refine r_bipush dX12_year_124 bp_m4 ?_
      refine r_V3 dX12_year_126 l_X12_141 k_X12_owesIn i_X12_owesIn (Mod.sg (by assumption)) ⟨_, rfl⟩ (Nat.le_of_ble_eq_true rfl) (v_X12_owesIn X _ hm hw hp hd1) (List.prefix_refl S) ?_
      rw [lLw_n hN6]
      rw [show duty w (drN N z j) (gLeft w (yrM w s N G hb z j).2.1 G (drN N z j) + lLeft w N (drN N z j) (yrM w s N G hb z j).2.2) = owe w (yrM w s N G hb z j).2.1 N G (yrM w s N G hb z j).2.2 (drN N z j) from rfl]
      refine r_goto (tgt := 141) dX12_year_129 (by decide) ?_
      refine r_istore (L' := [_, _, _, _, _, _, _, _, _, _, _]) dX12_year_141 rfl rfl ?_
      refine r_iload dX12_year_143 rfl ?_
      refine r_ifB_eq (tgt := 181) dX12_year_145 (by decide) (fun c145 => absurd (c115.symm.trans c145) (by decide)) (fun c145 => ?_)
      refine r_aload_n dX12_year_148 rfl ?_
      refine r_sipush dX12_year_149 sp_385 ?_
      refine r_iload dX12_year_152 rfl ?_
      refine r_V2 dX12_year_154 l_X12_163 k_X12_canLeave i_X12_canLeave (Mod.sg (by assumption)) ⟨_, rfl⟩ (Nat.le_of_ble_eq_true rfl) (v_X12_canLeave X _ hm hw hp hd1) (List.prefix_refl S) ?_
      refine r_ifB_eq (tgt := 181) dX12_year_157 (by decide) (fun c157 => ?_) (fun c157 => ?_)
      · skip
        refine r_iload dX12_year_181 rfl ?_
        refine r_ifB_ne (tgt := 220) dX12_year_183 (by decide) (fun c183 => ?_) (fun c183 => absurd (c115.symm.trans c183) (by decide))
        refine r_iinc (L' := [_, _, _, _, _, _, _, _, _, _, _]) dX12_year_220 rfl rfl (nI_inc _) rfl ?_
        refine r_goto (tgt := 50) dX12_year_223 (by decide) ?_
        first | (have e := yM_1 (N := N) (G := G) c115 c157; have e2 := yrM_s w s N G hb z j; rw [e] at e2; dsimp only at e2; exact JJ.wk_at 6 (JJ.wk_at 7 (JJ.wk_at 8 (JJ.wk_at 9 (JJ.wk_at 10 (JJ.to (K (by rw [e2]; dsimp only; exact (hp.st sGo_0 (Nat.lt_of_le_of_lt (clr_le _ _) hp.b256)))) (by simp only [e2, nI_0, Int32.add_zero]; try rfl) rfl (by simp only [e2, dW_2]))))))) | (have e := yM_2 (N := N) (G := G) c115 c157; have e2 := yrM_s w s N G hb z j; rw [e] at e2; dsimp only at e2; exact JJ.wk_at 6 (JJ.wk_at 7 (JJ.wk_at 8 (JJ.wk_at 9 (JJ.wk_at 10 (JJ.to (K (by rw [e2]; dsimp only; exact hp)) (by simp only [e2, nI_0, Int32.add_zero]; try rfl) rfl (by simp only [e2, dW_2]))))))) | (have e := yM_4 (N := N) (G := G) c115 c199; have e2 := yrM_s w s N G hb z j; rw [e] at e2; dsimp only at e2; exact JJ.wk_at 6 (JJ.wk_at 7 (JJ.wk_at 8 (JJ.wk_at 9 (JJ.wk_at 10 (JJ.to (K (by rw [e2]; dsimp only; exact (hp.st (up_eq _ _ _) (or_256 hp.b256 (by omega))))) (by simp only [e2, nI_0, Int32.add_zero]; try rfl) rfl (by simp only [e2, dW_2]))))))) | (have e := yM_3 (N := N) (G := G) c115 c199; have e2 := yrM_s w s N G hb z j; rw [e] at e2; dsimp only at e2; exact JJ.wk_at 6 (JJ.wk_at 7 (JJ.wk_at 8 (JJ.wk_at 9 (JJ.wk_at 10 (JJ.to (K (by rw [e2]; dsimp only; exact hp)) (by simp only [e2, nI_0, Int32.add_zero]; try rfl) rfl (by simp only [e2, dW_2])))))))
      · skip
        refine r_aload_n dX12_year_160 rfl ?_
        refine r_sipush dX12_year_161 sp_385 ?_
        refine r_iload dX12_year_164 rfl ?_
        refine r_iload dX12_year_166 rfl ?_
        refine r_V3 dX12_year_168 l_X12_166 k_X12_goes i_X12_goes (Mod.sg (by assumption)) ⟨_, rfl⟩ (Nat.le_of_ble_eq_true rfl) (v_X12_goes X _ hm hw hp hd1) (List.prefix_refl S) ?_
        refine r_iload dX12_year_171 rfl ?_
        refine r_iload dX12_year_173 rfl ?_
        refine r_iadd dX12_year_175 ?_
        refine r_istore (L' := [_, _, _, _, _, _, _, _, _, _, _]) dX12_year_176 rfl rfl ?_
        refine r_goto (tgt := 220) dX12_year_178 (by decide) ?_
        refine r_iinc (L' := [_, _, _, _, _, _, _, _, _, _, _]) dX12_year_220 rfl rfl (nI_inc _) rfl ?_
        refine r_goto (tgt := 50) dX12_year_223 (by decide) ?_
        first | (have e := yM_1 (N := N) (G := G) c115 c157; have e2 := yrM_s w s N G hb z j; rw [e] at e2; dsimp only at e2; exact JJ.wk_at 6 (JJ.wk_at 7 (JJ.wk_at 8 (JJ.wk_at 9 (JJ.wk_at 10 (JJ.to (K (by rw [e2]; dsimp only; exact (hp.st sGo_0 (Nat.lt_of_le_of_lt (clr_le _ _) hp.b256)))) (by simp only [e2, nI_0, Int32.add_zero]; try rfl) rfl (by simp only [e2, dW_2]))))))) | (have e := yM_2 (N := N) (G := G) c115 c157; have e2 := yrM_s w s N G hb z j; rw [e] at e2; dsimp only at e2; exact JJ.wk_at 6 (JJ.wk_at 7 (JJ.wk_at 8 (JJ.wk_at 9 (JJ.wk_at 10 (JJ.to (K (by rw [e2]; dsimp only; exact hp)) (by simp only [e2, nI_0, Int32.add_zero]; try rfl) rfl (by simp only [e2, dW_2]))))))) | (have e := yM_4 (N := N) (G := G) c115 c199; have e2 := yrM_s w s N G hb z j; rw [e] at e2; dsimp only at e2; exact JJ.wk_at 6 (JJ.wk_at 7 (JJ.wk_at 8 (JJ.wk_at 9 (JJ.wk_at 10 (JJ.to (K (by rw [e2]; dsimp only; exact (hp.st (up_eq _ _ _) (or_256 hp.b256 (by omega))))) (by simp only [e2, nI_0, Int32.add_zero]; try rfl) rfl (by simp only [e2, dW_2]))))))) | (have e := yM_3 (N := N) (G := G) c115 c199; have e2 := yrM_s w s N G hb z j; rw [e] at e2; dsimp only at e2; exact JJ.wk_at 6 (JJ.wk_at 7 (JJ.wk_at 8 (JJ.wk_at 9 (JJ.wk_at 10 (JJ.to (K (by rw [e2]; dsimp only; exact hp)) (by simp only [e2, nI_0, Int32.add_zero]; try rfl) rfl (by simp only [e2, dW_2])))))))

set_option maxHeartbeats 4000000 in
set_option maxRecDepth 100000 in
theorem v_X12_year_f (X : mCx) (d : Nat) {S : mSh} {I : mI} {R : mR} {x y v : Int32} (hm : Mod S R) (hb1 : isP 10000 x = false ∨ is40 y = false ∨ isA v = false) : CC X (d + 2) M_X12_year [.ref 97, .int x, .int y, .int v] S (I, R) (some (.int (-1))) S (I, R) := by
  refine CC.of2 (L := [.ref 97, .int x, .int y, .int v, .retAddr 0, .retAddr 0, .retAddr 0, .retAddr 0, .retAddr 0, .retAddr 0, .retAddr 0]) p_X12 (Nat.le_of_ble_eq_true rfl) rfl rfl (List.prefix_refl S) ?_
  refine r_iload_n dX12_year_0 rfl ?_
  refine r_i2l dX12_year_1 rfl ?_
  refine r_lconst (v := lN 0) dX12_year_2 rfl ?_
  refine r_ldc2 dX12_year_3 c_X12_208 ?_
  refine r_S3 dX12_year_6 l_X12_62 k_X12_in s_X12_in (Nat.le_of_ble_eq_true rfl) (v_X12_in X _ ) (List.prefix_refl S) ?_
  refine g_top (congrArg bI inZ) ?_
  refine r_ifB_eq (tgt := 34) dX12_year_9 (by decide) (fun c9 => ?_) (fun c9 => ?_)
  · skip
    refine r_iconst dX12_year_34 ic_m1 ?_
    exact g_iret dX12_year_35 rfl rfl
  · skip
    refine r_iload_n dX12_year_12 rfl ?_
    refine r_i2l dX12_year_13 rfl ?_
    refine r_lconst (v := lN 1) dX12_year_14 rfl ?_
    refine r_ldc2 dX12_year_15 c_X12_60 ?_
    refine r_S3 dX12_year_18 l_X12_62 k_X12_in s_X12_in (Nat.le_of_ble_eq_true rfl) (v_X12_in X _ ) (List.prefix_refl S) ?_
    refine g_top (congrArg bI is40_in) ?_
    refine r_ifB_eq (tgt := 34) dX12_year_21 (by decide) (fun c21 => ?_) (fun c21 => ?_)
    · skip
      refine r_iconst dX12_year_34 ic_m1 ?_
      exact g_iret dX12_year_35 rfl rfl
    · skip
      refine r_iload_n dX12_year_24 rfl ?_
      refine r_i2l dX12_year_25 rfl ?_
      refine r_lconst (v := lN 0) dX12_year_26 rfl ?_
      refine r_lconst (v := lN 1) dX12_year_27 rfl ?_
      refine r_S3 dX12_year_28 l_X12_62 k_X12_in s_X12_in (Nat.le_of_ble_eq_true rfl) (v_X12_in X _ ) (List.prefix_refl S) ?_
      refine g_top (congrArg bI isA_in) ?_
      refine r_ifB_ne (tgt := 36) dX12_year_31 (by decide) (fun c31 => (by exfalso; rcases hb1 with q | q | q; exact absurd q (by rw [c9]; decide); exact absurd q (by rw [c21]; decide); exact absurd q (by rw [c31]; decide))) (fun c31 => ?_)
      refine r_iconst dX12_year_34 ic_m1 ?_
      exact g_iret dX12_year_35 rfl rfl

