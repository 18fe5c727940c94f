/-! ===== the reference: findTurns, byTurns ===== -/
theorem g_ftC (X : mCx) {S : mSh} {R : mR} {i j n hb N G : Nat} {w : Nat → Int32} (hm : Mod S R) (hk : wOk w N G) (hi : i < N) (hj : j < N) (hn : n ≤ 4) : ∀ (r0 D : Nat) (s : Nat → Int32) (H : mI), D + r0 = n → MoW H w N G → MoD H 385 s hb → H 106 D = -5 → H 107 D = FARI → H 108 D = FARI →
    ∃ H1, frT D H H1 ∧ (1 ≤ r0 → H1 107 D = oneV D (plP w N G hb r0 s (whoT D i j) (whoT (D + 1) i j)).1.1 (plP w N G hb r0 s (whoT D i j) (whoT (D + 1) i j)).1.2) ∧ (D = 0 → 1 ≤ r0 → H1 97 16 = (plP w N G hb r0 s (whoT D i j) (whoT (D + 1) i j)).2) ∧ ∀ d r h, ftZ X S R i j n D (oneV D (plP w N G hb r0 s (whoT D i j) (whoT (D + 1) i j)).1.1 (plP w N G hb r0 s (whoT D i j) (whoT (D + 1) i j)).1.2) (oneV (D + 1) (plP w N G hb r0 s (whoT D i j) (whoT (D + 1) i j)).1.1 (plP w N G hb r0 s (whoT D i j) (whoT (D + 1) i j)).1.2) H1 d r h → ftA X S R i j n D H d r h
  | 0, D, s, H, hD, hw, hd, h6, h7, h8 => by
    refine ⟨H, frT.rfl' D H, fun h => absurd h (by decide), fun _ h => absurd h (by decide), fun d r h K => ?_⟩
    refine g_ft3 X d hm hw hd hi hj hn (by omega) ?_
    have ei := (owe_ow (s := s) (hb := hb) hk hi).1
    have ej := (owe_ow (s := s) (hb := hb) hk hj).1
    rw [ei, ej]
    have e1 : oneV D (ow w s N G hb (whoT D i j)) (ow w s N G hb (whoT (D + 1) i j)) = nI (ow w s N G hb i) := by
      unfold oneV whoT
      by_cases h : D % 2 = 0
      · rw [if_pos h, if_pos h]
      · rw [if_neg h, if_pos (show (D + 1) % 2 = 0 by omega)]
    have e2 : oneV (D + 1) (ow w s N G hb (whoT D i j)) (ow w s N G hb (whoT (D + 1) i j)) = nI (ow w s N G hb j) := by
      unfold oneV whoT
      by_cases h : D % 2 = 0
      · rw [if_neg (show ¬ (D + 1) % 2 = 0 by omega), if_neg (show ¬ (D + 1) % 2 = 0 by omega)]
      · rw [if_pos (show (D + 1) % 2 = 0 by omega), if_neg h]
    have K2 : ftZ X S R i j n D (oneV D (ow w s N G hb (whoT D i j)) (ow w s N G hb (whoT (D + 1) i j))) (oneV (D + 1) (ow w s N G hb (whoT D i j)) (ow w s N G hb (whoT (D + 1) i j))) H d r h := K
    rw [e1, e2] at K2
    exact K2
  | r0 + 1, D, s, H, hD, hw, hd, h6, h7, h8 => by
    have hN6 := hw.N6
    have IH : ∀ (s' : Nat → Int32) (J : mI), MoW J w N G → MoD J 385 s' hb → J 106 (D + 1) = -5 → J 107 (D + 1) = FARI → J 108 (D + 1) = FARI → ∃ J1, frT (D + 1) J J1 ∧ ∀ d r h, ftZ X S R i j n (D + 1) (oneV (D + 1) (plP w N G hb r0 s' (whoT (D + 1) i j) (whoT D i j)).1.1 (plP w N G hb r0 s' (whoT (D + 1) i j) (whoT D i j)).1.2) (oneV (D + 2) (plP w N G hb r0 s' (whoT (D + 1) i j) (whoT D i j)).1.1 (plP w N G hb r0 s' (whoT (D + 1) i j) (whoT D i j)).1.2) J1 d r h → ftA X S R i j n (D + 1) J d r h := by
      intro s' J a1 a2 a3 a4 a5
      obtain ⟨J1, f1, _, _, K1⟩ := g_ftC X hm hk hi hj hn r0 (D + 1) s' J (by omega) a1 a2 a3 a4 a5
      rw [show whoT (D + 1 + 1) i j = whoT D i j from whoT_2 D i j] at K1
      exact ⟨J1, f1, K1⟩
    have bp := plP_b hk r0 s (whoT (D + 1) i j) (whoT D i j) (hb := hb) (whoT_lt hi hj) (whoT_lt hi hj)
    obtain ⟨H1, f1, g6, gt, gf, run⟩ := g_ftT X (x := -4) (s' := s) hm (by omega) (by omega) hn (show D < n by omega) hw hd h6 (by decide) (fun d => v_X12_next_a X d hm) (Or.inl ⟨rfl, rfl⟩) (fun J a1 a2 a3 a4 a5 => IH _ J a1 a2 a3 a4 a5)
    obtain ⟨t7, t8, t16⟩ := gt (less_far h7 h8 bp.2)
    have hw1 : MoW H1 w N G := hw.fr (f1.1 98 (by decide) (by decide) (by decide) (by decide))
    have hd1 : MoD H1 385 s hb := hd.fr (f1.1 99 (by decide) (by decide) (by decide) (by decide))
    obtain ⟨H2, f2, y2, z2, run2⟩ := g_ftL X (s := s) hm hk hi hj hn (show D + 1 + r0 = n by omega) IH G 0 H1 (by omega) (Nat.zero_le _) hw1 hd1 g6 (by rw [t7, oneV_sw]; rfl) (by rw [t8, oneV_sw]; rfl) (fun z => by rw [t16 z]; rfl)
    exact ⟨H2, f1.tr f2, fun _ => y2, fun z _ => z2 z, fun d r h K => run d r h (run2 d r h K)⟩
theorem g_ftE {H : mI} {s t : Nat → Int32} {hb h : Nat} (q : MoD H h t hb) (hh : h + 35 ≤ 385) (v : Int32) : MoD (opI (sJ (dW H 385 s) 97 16 v) 0) h t hb := (q.ot (s := s) (h := 385) (by omega)).fr (by rw [opI_o (by decide) (by decide) (by decide), sJ_o (by decide)])
set_option maxHeartbeats 4000000 in
set_option maxRecDepth 100000 in
theorem g_ft0 (X : mCx) (d : Nat) {S : mSh} {I : mI} {R : mR} {s : Nat → Int32} {hb i j n : Nat} {I1 : mI} (hm : Mod S R) (hd : MoD I 0 s hb) (K : JJ X M_X12_findTurns (d + 4) 22 [.ref 97, .int (nI i), .int (nI j), .int (nI n), .int (nI 0), .retAddr 0, .retAddr 0, .retAddr 0, .retAddr 0] [] S (opI (sJ (dW I 385 s) 97 16 (-4)) 0, R) none S (I1, R)) : CC X (d + 4) M_X12_findTurns [.ref 97, .int (nI i), .int (nI j), .int (nI n)] S (I, R) (none) S (I1, R) := by
  refine CC.of2 (L := [.ref 97, .int (nI i), .int (nI j), .int (nI n), .retAddr 0, .retAddr 0, .retAddr 0, .retAddr 0, .retAddr 0]) p_X12 (Nat.le_of_ble_eq_true rfl) rfl trivial (List.prefix_refl S) ?_
  refine r_aload_n dX12_findTurns_0 rfl ?_
  refine r_iconst dX12_findTurns_1 ic_0 ?_
  refine r_sipush dX12_findTurns_2 sp_385 ?_
  refine r_V2 dX12_findTurns_5 l_X12_147 k_X12_copy i_X12_copy (Mod.sg (by assumption)) ⟨_, rfl⟩ (Nat.le_of_ble_eq_true rfl) (v_X12_copy X _ hm hd (by omega) (by omega)) (List.prefix_refl S) ?_
  refine r_aload_n dX12_findTurns_8 rfl ?_
  refine r_bipush dX12_findTurns_9 bp_m4 ?_
  refine g_putI dX12_findTurns_11 f_X12_184 (Mod.sg (by assumption)) rfl ?_
  refine r_iconst dX12_findTurns_14 ic_0 ?_
  refine r_istore (L' := [_, _, _, _, _, _, _, _, _]) dX12_findTurns_15 rfl rfl ?_
  refine r_aload_n dX12_findTurns_17 rfl ?_
  refine r_iconst dX12_findTurns_18 ic_0 ?_
  refine r_V1 dX12_findTurns_19 l_X12_187 k_X12_opens i_X12_opens (Mod.sg (by assumption)) ⟨_, rfl⟩ (Nat.le_of_ble_eq_true rfl) (v_X12_opens X _ (by first | assumption | omega) (by first | assumption | omega)) (List.prefix_refl S) ?_
  exact K

theorem v_findTurns (X : mCx) {S : mSh} {I : mI} {R : mR} {i j n hb N G : Nat} {w s : Nat → Int32} (hm : Mod S R) (hw : MoW I w N G) (hd : MoD I 0 s hb) (hk : wOk w N G) (hi : i < N) (hj : j < N) (h1 : 1 ≤ n) (hn : n ≤ 4) :
    ∃ I1, (∀ d, CC X (d + 4) M_X12_findTurns [.ref 97, .int (nI i), .int (nI j), .int (nI n)] S (I, R) none S (I1, R)) ∧ (∀ o, o ≠ 97 → o ≠ 99 → o ≠ 106 → o ≠ 107 → o ≠ 108 → I1 o = I o) ∧ (∀ b, b ≠ 16 → I1 97 b = I 97 b) ∧ (∀ b, b < 385 → I1 99 b = I 99 b) ∧ I1 107 0 = nI (plP w N G hb n s i j).1.1 ∧ I1 97 16 = (plP w N G hb n s i j).2 := by
  have hw1 : MoW (opI (sJ (dW I 385 s) 97 16 (-4)) 0) w N G := hw.fr (by rw [opI_o (by decide) (by decide) (by decide), sJ_o (by decide), dW_o (by decide)])
  have hd1 : MoD (opI (sJ (dW I 385 s) 97 16 (-4)) 0) 385 s hb := (MoD.mk (I := I) hd.2.1 hd.2.2.1 (by decide)).fr (by rw [opI_o (by decide) (by decide) (by decide), sJ_o (by decide)])
  obtain ⟨q6, q7, q8⟩ := opI_q (sJ (dW I 385 s) 97 16 (-4)) 0
  obtain ⟨H1, f1, y1, z1, run⟩ := g_ftC X hm hk hi hj hn n 0 s _ (by omega) hw1 hd1 q6 q7 q8
  exact ⟨H1, fun d => g_ft0 X d hm hd (run d none _ (g_ft5 X d hm)), fun o a1 a2 a3 a4 a5 => by rw [f1.1 o a1 a3 a4 a5, opI_o a3 a4 a5, sJ_o a1, dW_o a2], fun b hb => by rw [f1.2.1 b hb, opI_o (by decide) (by decide) (by decide), sJ_ne (Or.inr hb), dW_o (by decide)], fun b hb => by rw [f1.1 99 (by decide) (by decide) (by decide) (by decide), opI_o (by decide) (by decide) (by decide), sJ_o (by decide), dW_n (by omega)], y1 h1, z1 rfl h1⟩
set_option maxHeartbeats 4000000 in
set_option maxRecDepth 100000 in
theorem v_X12_byTurns_t (X : mCx) (d : Nat) {S : mSh} {I : mI} {R : mR} {w s : Nat → Int32} {N G hb i j n : Nat} {y : Int32} {I1 : mI} {v0 v1 : Int32} (hm : Mod S R) (hw : MoW I w N G) (hd : MoD I 0 s hb) (hi : i < N) (hj : j < N) (hij : i ≠ j) (hn1 : 1 ≤ n) (hn : n ≤ 4) (hy : isA y = true) (hbi : hb.testBit i = true) (hbj : hb.testBit j = true) (hC : ∀ d, CC X (d + 4) M_X12_findTurns [.ref 97, .int (nI i), .int (nI j), .int (nI n)] S (I, R) none S (I1, R)) (e0 : I1 107 0 = v0) (e1 : I1 97 16 = v1) : CC X (d + 5) M_X12_byTurns [.ref 97, .int (nI i), .int (nI j), .int (nI n), .int y] S (I, R) (some (.int (if y = nI 0 then v0 else v1))) S (I1, R) := by
  have hN6 := hw.N6
  have hG8 := hw.G8
  have h256 := hd.b256
  refine CC.of2 (L := [.ref 97, .int (nI i), .int (nI j), .int (nI n), .int y]) p_X12 (Nat.le_of_ble_eq_true rfl) rfl rfl (List.prefix_refl S) ?_
  refine r_aload_n dX12_byTurns_0 rfl ?_
  refine r_iload_n dX12_byTurns_1 rfl ?_
  refine r_iload_n dX12_byTurns_2 rfl ?_
  refine r_V2 dX12_byTurns_3 l_X12_124 k_X12_areTwo i_X12_areTwo (Mod.sg (by assumption)) ⟨_, rfl⟩ (Nat.le_of_ble_eq_true rfl) (v_X12_areTwo X _ (by first | assumption | omega) (by first | assumption | omega)) (List.prefix_refl S) ?_
  refine r_ifB_eq (tgt := 32) dX12_byTurns_6 (by decide) (fun c6 => absurd (twoP_n hi hj (by omega) hij) (by rw [c6]; decide)) (fun c6 => ?_)
  refine r_iload_n dX12_byTurns_9 rfl ?_
  refine r_i2l dX12_byTurns_10 rfl ?_
  refine r_lconst (v := lN 1) dX12_byTurns_11 rfl ?_
  refine r_ldc2 dX12_byTurns_12 c_X12_200 ?_
  refine r_S3 dX12_byTurns_15 l_X12_62 k_X12_in s_X12_in (Nat.le_of_ble_eq_true rfl) (v_X12_in X _ ) (List.prefix_refl S) ?_
  refine g_top (congrArg bI (in_n (k := n) (a := 1) (b := 4) (by omega) (by decide) (by decide))) ?_
  refine r_ifB_eq (tgt := 32) dX12_byTurns_18 (by decide) (fun c18 => absurd (show (decide (1 ≤ n) && decide (n ≤ 4)) = true by simp [hn1, hn]) (by rw [c18]; decide)) (fun c18 => ?_)
  refine r_iload dX12_byTurns_21 rfl ?_
  refine r_i2l dX12_byTurns_23 rfl ?_
  refine r_lconst (v := lN 0) dX12_byTurns_24 rfl ?_
  refine r_lconst (v := lN 1) dX12_byTurns_25 rfl ?_
  refine r_S3 dX12_byTurns_26 l_X12_62 k_X12_in s_X12_in (Nat.le_of_ble_eq_true rfl) (v_X12_in X _ ) (List.prefix_refl S) ?_
  refine g_top (congrArg bI isA_in) ?_
  refine r_ifB_ne (tgt := 34) dX12_byTurns_29 (by decide) (fun c29 => ?_) (fun c29 => absurd hy (by rw [c29]; decide))
  refine r_aload_n dX12_byTurns_34 rfl ?_
  refine r_iload_n dX12_byTurns_35 rfl ?_
  refine r_V1 dX12_byTurns_36 l_X12_118 k_X12_isHere i_X12_isHere (Mod.sg (by assumption)) ⟨_, rfl⟩ (Nat.le_of_ble_eq_true rfl) (v_X12_isHere X _ (by first | assumption | omega) (by first | assumption | omega) (by first | assumption | omega)) (List.prefix_refl S) ?_
  refine r_ifB_eq (tgt := 50) dX12_byTurns_39 (by decide) (fun c39 => absurd hbi (by rw [c39]; decide)) (fun c39 => ?_)
  refine r_aload_n dX12_byTurns_42 rfl ?_
  refine r_iload_n dX12_byTurns_43 rfl ?_
  refine r_V1 dX12_byTurns_44 l_X12_118 k_X12_isHere i_X12_isHere (Mod.sg (by assumption)) ⟨_, rfl⟩ (Nat.le_of_ble_eq_true rfl) (v_X12_isHere X _ (by first | assumption | omega) (by first | assumption | omega) (by first | assumption | omega)) (List.prefix_refl S) ?_
  refine r_ifB_ne (tgt := 53) dX12_byTurns_47 (by decide) (fun c47 => ?_) (fun c47 => absurd hbj (by rw [c47]; decide))
  refine r_aload_n dX12_byTurns_53 rfl ?_
  refine r_iload_n dX12_byTurns_54 rfl ?_
  refine r_iload_n dX12_byTurns_55 rfl ?_
  refine r_iload_n dX12_byTurns_56 rfl ?_
  refine r_V3 dX12_byTurns_57 l_X12_202 k_X12_findTurns i_X12_findTurns (Mod.sg (by assumption)) ⟨_, rfl⟩ (Nat.le_of_ble_eq_true rfl) (hC _) (List.prefix_refl S) ?_
  refine r_iload dX12_byTurns_60 rfl ?_
  refine r_if_ne (tgt := 74) dX12_byTurns_62 (by decide) (fun c62 => ?_) (fun c62 => ?_)
  · skip
    refine r_aload_n dX12_byTurns_74 rfl ?_
    refine g_getI dX12_byTurns_75 f_X12_184 (Mod.sg (by assumption)) rfl e1 ?_
    exact g_iret dX12_byTurns_78 (by first | rw [if_pos (by rw [nI_0]; exact c62)] | rw [if_neg (by rw [nI_0]; exact c62)]) rfl
  · skip
    refine r_aload_n dX12_byTurns_65 rfl ?_
    refine g_getR dX12_byTurns_66 f_X12_37 (Mod.sg (by assumption)) rfl (Mod.r107 (by assumption)) ?_
    refine r_iconst dX12_byTurns_69 ic_0 ?_
    refine g_iald dX12_byTurns_70 (Mod.s107 (by assumption)) rfl (by omega) (by omega) e0 ?_
    refine r_goto (tgt := 78) dX12_byTurns_71 (by decide) ?_
    exact g_iret dX12_byTurns_78 (by first | rw [if_pos (by rw [nI_0]; exact c62)] | rw [if_neg (by rw [nI_0]; exact c62)]) rfl

set_option maxHeartbeats 4000000 in
set_option maxRecDepth 100000 in
theorem v_X12_byTurns_n (X : mCx) (d : Nat) {S : mSh} {I : mI} {R : mR} {w s : Nat → Int32} {N G hb i j n : Nat} {y : Int32} (hm : Mod S R) (hw : MoW I w N G) (hd : MoD I 0 s hb) (hi : i < N) (hj : j < N) (hij : i ≠ j) (hn1 : 1 ≤ n) (hn : n ≤ 4) (hy : isA y = true) (hbb : (hb.testBit i && hb.testBit j) = false) : CC X (d + 4) M_X12_byTurns [.ref 97, .int (nI i), .int (nI j), .int (nI n), .int y] S (I, R) (some (.int (-2))) S (I, R) := by
  have hN6 := hw.N6
  have hG8 := hw.G8
  have h256 := hd.b256
  refine CC.of2 (L := [.ref 97, .int (nI i), .int (nI j), .int (nI n), .int y]) p_X12 (Nat.le_of_ble_eq_true rfl) rfl rfl (List.prefix_refl S) ?_
  refine r_aload_n dX12_byTurns_0 rfl ?_
  refine r_iload_n dX12_byTurns_1 rfl ?_
  refine r_iload_n dX12_byTurns_2 rfl ?_
  refine r_V2 dX12_byTurns_3 l_X12_124 k_X12_areTwo i_X12_areTwo (Mod.sg (by assumption)) ⟨_, rfl⟩ (Nat.le_of_ble_eq_true rfl) (v_X12_areTwo X _ (by first | assumption | omega) (by first | assumption | omega)) (List.prefix_refl S) ?_
  refine r_ifB_eq (tgt := 32) dX12_byTurns_6 (by decide) (fun c6 => absurd (twoP_n hi hj (by omega) hij) (by rw [c6]; decide)) (fun c6 => ?_)
  refine r_iload_n dX12_byTurns_9 rfl ?_
  refine r_i2l dX12_byTurns_10 rfl ?_
  refine r_lconst (v := lN 1) dX12_byTurns_11 rfl ?_
  refine r_ldc2 dX12_byTurns_12 c_X12_200 ?_
  refine r_S3 dX12_byTurns_15 l_X12_62 k_X12_in s_X12_in (Nat.le_of_ble_eq_true rfl) (v_X12_in X _ ) (List.prefix_refl S) ?_
  refine g_top (congrArg bI (in_n (k := n) (a := 1) (b := 4) (by omega) (by decide) (by decide))) ?_
  refine r_ifB_eq (tgt := 32) dX12_byTurns_18 (by decide) (fun c18 => absurd (show (decide (1 ≤ n) && decide (n ≤ 4)) = true by simp [hn1, hn]) (by rw [c18]; decide)) (fun c18 => ?_)
  refine r_iload dX12_byTurns_21 rfl ?_
  refine r_i2l dX12_byTurns_23 rfl ?_
  refine r_lconst (v := lN 0) dX12_byTurns_24 rfl ?_
  refine r_lconst (v := lN 1) dX12_byTurns_25 rfl ?_
  refine r_S3 dX12_byTurns_26 l_X12_62 k_X12_in s_X12_in (Nat.le_of_ble_eq_true rfl) (v_X12_in X _ ) (List.prefix_refl S) ?_
  refine g_top (congrArg bI isA_in) ?_
  refine r_ifB_ne (tgt := 34) dX12_byTurns_29 (by decide) (fun c29 => ?_) (fun c29 => absurd hy (by rw [c29]; decide))
  refine r_aload_n dX12_byTurns_34 rfl ?_
  refine r_iload_n dX12_byTurns_35 rfl ?_
  refine r_V1 dX12_byTurns_36 l_X12_118 k_X12_isHere i_X12_isHere (Mod.sg (by assumption)) ⟨_, rfl⟩ (Nat.le_of_ble_eq_true rfl) (v_X12_isHere X _ (by first | assumption | omega) (by first | assumption | omega) (by first | assumption | omega)) (List.prefix_refl S) ?_
  refine r_ifB_eq (tgt := 50) dX12_byTurns_39 (by decide) (fun c39 => ?_) (fun c39 => ?_)
  · skip
    refine r_bipush dX12_byTurns_50 bp_m2 ?_
    exact g_iret dX12_byTurns_52 rfl rfl
  · skip
    refine r_aload_n dX12_byTurns_42 rfl ?_
    refine r_iload_n dX12_byTurns_43 rfl ?_
    refine r_V1 dX12_byTurns_44 l_X12_118 k_X12_isHere i_X12_isHere (Mod.sg (by assumption)) ⟨_, rfl⟩ (Nat.le_of_ble_eq_true rfl) (v_X12_isHere X _ (by first | assumption | omega) (by first | assumption | omega) (by first | assumption | omega)) (List.prefix_refl S) ?_
    refine r_ifB_ne (tgt := 53) dX12_byTurns_47 (by decide) (fun c47 => absurd hbb (by rw [c39, c47]; decide)) (fun c47 => ?_)
    refine r_bipush dX12_byTurns_50 bp_m2 ?_
    exact g_iret dX12_byTurns_52 rfl rfl

set_option maxHeartbeats 4000000 in
set_option maxRecDepth 100000 in
theorem v_X12_byTurns_f (X : mCx) (d : Nat) {S : mSh} {I : mI} {R : mR} {w : Nat → Int32} {N G : Nat} {x y u v : Int32} (hm : Mod S R) (hw : MoW I w N G) (hb1 : twoP N x y = false ∨ is14 u = false ∨ isA v = false) : CC X (d + 4) M_X12_byTurns [.ref 97, .int x, .int y, .int u, .int v] S (I, R) (some (.int (-1))) S (I, R) := by
  have hN6 := hw.N6
  have hG8 := hw.G8
  refine CC.of2 (L := [.ref 97, .int x, .int y, .int u, .int v]) p_X12 (Nat.le_of_ble_eq_true rfl) rfl rfl (List.prefix_refl S) ?_
  refine r_aload_n dX12_byTurns_0 rfl ?_
  refine r_iload_n dX12_byTurns_1 rfl ?_
  refine r_iload_n dX12_byTurns_2 rfl ?_
  refine r_V2 dX12_byTurns_3 l_X12_124 k_X12_areTwo i_X12_areTwo (Mod.sg (by assumption)) ⟨_, rfl⟩ (Nat.le_of_ble_eq_true rfl) (v_X12_areTwo X _ (by first | assumption | omega) (by first | assumption | omega)) (List.prefix_refl S) ?_
  refine r_ifB_eq (tgt := 32) dX12_byTurns_6 (by decide) (fun c6 => ?_) (fun c6 => ?_)
  · skip
    refine r_iconst dX12_byTurns_32 ic_m1 ?_
    exact g_iret dX12_byTurns_33 rfl rfl
  · skip
    refine r_iload_n dX12_byTurns_9 rfl ?_
    refine r_i2l dX12_byTurns_10 rfl ?_
    refine r_lconst (v := lN 1) dX12_byTurns_11 rfl ?_
    refine r_ldc2 dX12_byTurns_12 c_X12_200 ?_
    refine r_S3 dX12_byTurns_15 l_X12_62 k_X12_in s_X12_in (Nat.le_of_ble_eq_true rfl) (v_X12_in X _ ) (List.prefix_refl S) ?_
    refine g_top (congrArg bI is14_in) ?_
    refine r_ifB_eq (tgt := 32) dX12_byTurns_18 (by decide) (fun c18 => ?_) (fun c18 => ?_)
    · skip
      refine r_iconst dX12_byTurns_32 ic_m1 ?_
      exact g_iret dX12_byTurns_33 rfl rfl
    · skip
      refine r_iload dX12_byTurns_21 rfl ?_
      refine r_i2l dX12_byTurns_23 rfl ?_
      refine r_lconst (v := lN 0) dX12_byTurns_24 rfl ?_
      refine r_lconst (v := lN 1) dX12_byTurns_25 rfl ?_
      refine r_S3 dX12_byTurns_26 l_X12_62 k_X12_in s_X12_in (Nat.le_of_ble_eq_true rfl) (v_X12_in X _ ) (List.prefix_refl S) ?_
      refine g_top (congrArg bI isA_in) ?_
      refine r_ifB_ne (tgt := 34) dX12_byTurns_29 (by decide) (fun c29 => (by exfalso; rcases hb1 with q | q | q; exact absurd q (by rw [c6]; decide); exact absurd q (by rw [c18]; decide); exact absurd q (by rw [c29]; decide))) (fun c29 => ?_)
      refine r_iconst dX12_byTurns_32 ic_m1 ?_
      exact g_iret dX12_byTurns_33 rfl rfl

