/-! ===== the reference: turns ===== -/
theorem rem2 {D : Nat} (h : D ≤ 5) : nI D - nI D / nI 2 * nI 2 = nI (D % 2) := by
  have : ∀ D, D ≤ 5 → nI D - nI D / nI 2 * nI 2 = nI (D % 2) := by decide +kernel
  exact this D h
def opI (I : mI) (D : Nat) : mI := sJ (sJ (sJ I 106 D (-5)) 107 D FARI) 108 D FARI
def ofI (I : mI) (D : Nat) (a b : Int32) : mI := sJ (sJ (sJ I 107 D a) 108 D b) 97 16 (if D = 0 then I 106 0 else I 97 16)
set_option maxHeartbeats 4000000 in
set_option maxRecDepth 100000 in
theorem v_X12_opens (X : mCx) (d : Nat) {S : mSh} {I : mI} {R : mR} {D : Nat} (hm : Mod S R) (h5 : D < 5) : CC X (d + 1) M_X12_opens [.ref 97, .int (nI D)] S (I, R) (none) S (opI I D, R) := by
  refine CC.of2 (L := [.ref 97, .int (nI D)]) p_X12 (Nat.le_of_ble_eq_true rfl) rfl trivial (List.prefix_refl S) ?_
  refine r_aload_n dX12_opens_0 rfl ?_
  refine g_getR dX12_opens_1 f_X12_34 (Mod.sg (by assumption)) rfl (Mod.r106 (by assumption)) ?_
  refine r_iload_n dX12_opens_4 rfl ?_
  refine r_bipush dX12_opens_5 bp_m5 ?_
  refine g_iast dX12_opens_7 (Mod.s106 (by assumption)) rfl (by omega) (by omega) ?_
  refine r_aload_n dX12_opens_8 rfl ?_
  refine g_getR dX12_opens_9 f_X12_37 (Mod.sg (by assumption)) rfl (Mod.r107 (by assumption)) ?_
  refine r_iload_n dX12_opens_12 rfl ?_
  refine r_ldc dX12_opens_13 c_X12_176 ?_
  refine g_iast dX12_opens_15 (Mod.s107 (by assumption)) rfl (by omega) (by omega) ?_
  refine r_aload_n dX12_opens_16 rfl ?_
  refine g_getR dX12_opens_17 f_X12_40 (Mod.sg (by assumption)) rfl (Mod.r108 (by assumption)) ?_
  refine r_iload_n dX12_opens_20 rfl ?_
  refine r_ldc dX12_opens_21 c_X12_176 ?_
  refine g_iast dX12_opens_23 (Mod.s108 (by assumption)) rfl (by omega) (by omega) ?_
  exact g_vret dX12_opens_24 rfl rfl

set_option maxHeartbeats 4000000 in
set_option maxRecDepth 100000 in
theorem v_X12_gives_n (X : mCx) (d : Nat) {S : mSh} {I : mI} {R : mR} {t : Nat} (hm : Mod S R)  : CC X (d + 1) M_X12_gives [.ref 97, .int (-4), .int (nI t)] S (I, R) (none) S (I, R) := by
  refine CC.of2 (L := [.ref 97, .int (-4), .int (nI t)]) p_X12 (Nat.le_of_ble_eq_true rfl) rfl trivial (List.prefix_refl S) ?_
  refine r_iload_n dX12_gives_0 rfl ?_
  refine r_if_lt (tgt := 15) dX12_gives_1 (by decide) (fun c1 => ?_) (fun c1 => absurd (show (-4 : Int32) < 0 by decide) c1)
  exact g_vret dX12_gives_15 rfl rfl

set_option maxHeartbeats 4000000 in
set_option maxRecDepth 100000 in
theorem v_X12_gives_t (X : mCx) (d : Nat) {S : mSh} {I : mI} {R : mR} {s : Nat → Int32} {hb t g : Nat} (hm : Mod S R) (hd : MoD I 385 s hb) (hg : g < 8) : CC X (d + 1) M_X12_gives [.ref 97, .int (nI g), .int (nI t)] S (I, R) (none) S (dW I 385 (up s (19 + g) (nI t)), R) := by
  refine CC.of2 (L := [.ref 97, .int (nI g), .int (nI t)]) p_X12 (Nat.le_of_ble_eq_true rfl) rfl trivial (List.prefix_refl S) ?_
  refine r_iload_n dX12_gives_0 rfl ?_
  refine n_if_lt (tgt := 15) dX12_gives_1 (by decide) (by omega) (fun c1 => absurd c1 (Nat.not_lt_zero _)) (fun c1 => ?_)
  refine JJ.to (h1 := (dW I 385 s, R)) ?_ rfl rfl (by rw [hd.id])
  refine r_aload_n dX12_gives_4 rfl ?_
  refine g_getR dX12_gives_5 f_X12_13 (Mod.sg (by assumption)) rfl (Mod.r99 (by assumption)) ?_
  refine r_sipush dX12_gives_8 sp_404 ?_
  refine r_iload_n dX12_gives_11 rfl ?_
  refine n_iadd dX12_gives_12 ?_
  refine r_iload_n dX12_gives_13 rfl ?_
  refine g_iast dX12_gives_14 (Mod.s99 (by assumption)) rfl (by omega) (by omega) ?_
  refine JJ.to (h1 := (dW I 385 (up s (19 + g) (nI t)), R)) ?_ rfl rfl (by rw [dW_j (k := 19 + g) (by omega) (by omega)])
  exact g_vret dX12_gives_15 rfl rfl

set_option maxHeartbeats 4000000 in
set_option maxRecDepth 100000 in
theorem v_X12_next_a (X : mCx) (d : Nat) {S : mSh} {I : mI} {R : mR} {who : Nat} (hm : Mod S R)  : CC X (d + 1) M_X12_nextGift [.ref 97, .int (nI who), .int (-5)] S (I, R) (some (.int (-4))) S (I, R) := by
  refine CC.of2 (L := [.ref 97, .int (nI who), .int (-5), .retAddr 0]) p_X12 (Nat.le_of_ble_eq_true rfl) rfl rfl (List.prefix_refl S) ?_
  refine r_iload_n dX12_nextGift_0 rfl ?_
  refine r_bipush dX12_nextGift_1 bp_m5 ?_
  refine r_icmp_ne (tgt := 9) dX12_nextGift_3 (by decide) (fun c3 => absurd rfl c3) (fun c3 => ?_)
  refine r_bipush dX12_nextGift_6 bp_m4 ?_
  exact g_iret dX12_nextGift_8 rfl rfl

theorem nI_ne5 {g : Nat} (h : g < 2 ^ 31) : ¬ nI g = (-5 : Int32) := by
  intro e
  have := congrArg Int32.toInt e
  rw [nI_toInt h] at this
  have e2 : (-5 : Int32).toInt = -5 := by decide
  omega
set_option maxHeartbeats 4000000 in
set_option maxRecDepth 100000 in
theorem v_X12_next_0t (X : mCx) (d : Nat) {S : mSh} {I : mI} {R : mR} {w s : Nat → Int32} {N G hb who k : Nat} (hm : Mod S R) (hw : MoW I w N G) (hd : MoD I 385 s hb) (hkG : k < G) (hmk : 0 ≤ k) (hk : ly s k who = true) (hno : ∀ x, 0 ≤ x → x < k → ly s x who = false)  : CC X (d + 1) M_X12_nextGift [.ref 97, .int (nI who), .int (-4)] S (I, R) (some (.int (nI k))) S (I, R) := by
  have hN6 := hw.N6
  have hG8 := hw.G8
  refine CC.of2 (L := [.ref 97, .int (nI who), .int (-4), .retAddr 0]) p_X12 (Nat.le_of_ble_eq_true rfl) rfl rfl (List.prefix_refl S) ?_
  refine r_iload_n dX12_nextGift_0 rfl ?_
  refine r_bipush dX12_nextGift_1 bp_m5 ?_
  refine r_icmp_ne (tgt := 9) dX12_nextGift_3 (by decide) (fun c3 => ?_) (fun c3 => absurd c3 (by decide))
  refine r_iload_n dX12_nextGift_9 rfl ?_
  refine r_if_ge (tgt := 17) dX12_nextGift_10 (by decide) (fun c10 => absurd c10 (by decide)) (fun c10 => ?_)
  refine r_iconst dX12_nextGift_13 ic_0 ?_
  refine r_goto (tgt := 20) dX12_nextGift_14 (by decide) ?_
  refine r_istore_n (L' := [_, _, _, _]) dX12_nextGift_20 rfl rfl ?_
  refine JJ.loop ((k - 0)) (fun c => [.ref 97, .int (nI who), .int (-4), .int (nI (0 + c))]) (fun c => (I, R)) (fun c => True) rfl rfl trivial (fun hp => ?_) (fun c hc hp K => ?_)
  · have hkk : 0 + (k - 0) = k := by omega
    refine r_iload_n dX12_nextGift_21 rfl ?_
    refine r_aload_n dX12_nextGift_22 rfl ?_
    refine g_getR dX12_nextGift_23 f_X12_7 (Mod.sg (by assumption)) rfl (Mod.r98 (by assumption)) ?_
    refine r_iconst dX12_nextGift_26 ic_1 ?_
    refine g_iald dX12_nextGift_27 (Mod.s98 (by assumption)) rfl (by omega) (by omega) hw.n1 ?_
    refine n_icmp_ge (tgt := 66) dX12_nextGift_28 (by decide) (by omega) (by omega) (fun c28 => absurd c28 (by omega)) (fun c28 => ?_)
    refine r_aload_n dX12_nextGift_31 rfl ?_
    refine g_getR dX12_nextGift_32 f_X12_13 (Mod.sg (by assumption)) rfl (Mod.r99 (by assumption)) ?_
    refine r_sipush dX12_nextGift_35 sp_404 ?_
    refine r_iload_n dX12_nextGift_38 rfl ?_
    refine n_iadd dX12_nextGift_39 ?_
    refine g_iald dX12_nextGift_40 (Mod.s99 (by assumption)) rfl (by omega) (by omega) (hd.at (k := 19 + (0 + (k - 0))) (by omega) (by omega)) ?_
    refine r_iload_n dX12_nextGift_41 rfl ?_
    refine r_icmp_ne (tgt := 60) dX12_nextGift_42 (by decide) (fun c42 => absurd (of_decide_eq_true (Bool.and_eq_true_iff.mp (show (decide (s (19 + (0 + (k - 0))) = nI who) && decide (s (27 + (0 + (k - 0))) = 0)) = true by rw [hkk]; exact hk)).1) c42) (fun c42 => ?_)
    refine r_aload_n dX12_nextGift_45 rfl ?_
    refine g_getR dX12_nextGift_46 f_X12_13 (Mod.sg (by assumption)) rfl (Mod.r99 (by assumption)) ?_
    refine r_sipush dX12_nextGift_49 sp_412 ?_
    refine r_iload_n dX12_nextGift_52 rfl ?_
    refine n_iadd dX12_nextGift_53 ?_
    refine g_iald dX12_nextGift_54 (Mod.s99 (by assumption)) rfl (by omega) (by omega) (hd.at (k := 27 + (0 + (k - 0))) (by omega) (by omega)) ?_
    refine r_if_ne (tgt := 60) dX12_nextGift_55 (by decide) (fun c55 => absurd (of_decide_eq_true (Bool.and_eq_true_iff.mp (show (decide (s (19 + (0 + (k - 0))) = nI who) && decide (s (27 + (0 + (k - 0))) = 0)) = true by rw [hkk]; exact hk)).2) c55) (fun c55 => ?_)
    refine r_iload_n dX12_nextGift_58 rfl ?_
    exact g_iret dX12_nextGift_59 (by rw [hkk]) rfl
  · have hly := hno (0 + c) (by omega) (by omega)
    refine r_iload_n dX12_nextGift_21 rfl ?_
    refine r_aload_n dX12_nextGift_22 rfl ?_
    refine g_getR dX12_nextGift_23 f_X12_7 (Mod.sg (by assumption)) rfl (Mod.r98 (by assumption)) ?_
    refine r_iconst dX12_nextGift_26 ic_1 ?_
    refine g_iald dX12_nextGift_27 (Mod.s98 (by assumption)) rfl (by omega) (by omega) hw.n1 ?_
    refine n_icmp_ge (tgt := 66) dX12_nextGift_28 (by decide) (by omega) (by omega) (fun c28 => absurd c28 (by omega)) (fun c28 => ?_)
    refine r_aload_n dX12_nextGift_31 rfl ?_
    refine g_getR dX12_nextGift_32 f_X12_13 (Mod.sg (by assumption)) rfl (Mod.r99 (by assumption)) ?_
    refine r_sipush dX12_nextGift_35 sp_404 ?_
    refine r_iload_n dX12_nextGift_38 rfl ?_
    refine n_iadd dX12_nextGift_39 ?_
    refine g_iald dX12_nextGift_40 (Mod.s99 (by assumption)) rfl (by omega) (by omega) (hd.at (k := 19 + (0 + c)) (by omega) (by omega)) ?_
    refine r_iload_n dX12_nextGift_41 rfl ?_
    refine r_icmp_ne (tgt := 60) dX12_nextGift_42 (by decide) (fun c42 => ?_) (fun c42 => ?_)
    · skip
      refine r_iinc (L' := [_, _, _, _]) dX12_nextGift_60 rfl rfl (nI_inc _) rfl ?_
      refine r_goto (tgt := 21) dX12_nextGift_63 (by decide) ?_
      exact JJ.to (K trivial) rfl rfl rfl
    · skip
      refine r_aload_n dX12_nextGift_45 rfl ?_
      refine g_getR dX12_nextGift_46 f_X12_13 (Mod.sg (by assumption)) rfl (Mod.r99 (by assumption)) ?_
      refine r_sipush dX12_nextGift_49 sp_412 ?_
      refine r_iload_n dX12_nextGift_52 rfl ?_
      refine n_iadd dX12_nextGift_53 ?_
      refine g_iald dX12_nextGift_54 (Mod.s99 (by assumption)) rfl (by omega) (by omega) (hd.at (k := 27 + (0 + c)) (by omega) (by omega)) ?_
      refine r_if_ne (tgt := 60) dX12_nextGift_55 (by decide) (fun c55 => ?_) (fun c55 => ?_)
      · skip
        refine r_iinc (L' := [_, _, _, _]) dX12_nextGift_60 rfl rfl (nI_inc _) rfl ?_
        refine r_goto (tgt := 21) dX12_nextGift_63 (by decide) ?_
        exact JJ.to (K trivial) rfl rfl rfl
      · skip
        exact absurd (show ly s (0 + c) who = true by simp only [ly, Bool.and_eq_true, decide_eq_true_eq]; exact ⟨c42, c55⟩) (by rw [hly]; decide)

set_option maxHeartbeats 4000000 in
set_option maxRecDepth 100000 in
theorem v_X12_next_0f (X : mCx) (d : Nat) {S : mSh} {I : mI} {R : mR} {w s : Nat → Int32} {N G hb who : Nat} (hm : Mod S R) (hw : MoW I w N G) (hd : MoD I 385 s hb) (hmG : 0 ≤ G) (hno : ∀ x, 0 ≤ x → x < G → ly s x who = false)  : CC X (d + 1) M_X12_nextGift [.ref 97, .int (nI who), .int (-4)] S (I, R) (some (.int FARI)) S (I, R) := by
  have hN6 := hw.N6
  have hG8 := hw.G8
  refine CC.of2 (L := [.ref 97, .int (nI who), .int (-4), .retAddr 0]) p_X12 (Nat.le_of_ble_eq_true rfl) rfl rfl (List.prefix_refl S) ?_
  refine r_iload_n dX12_nextGift_0 rfl ?_
  refine r_bipush dX12_nextGift_1 bp_m5 ?_
  refine r_icmp_ne (tgt := 9) dX12_nextGift_3 (by decide) (fun c3 => ?_) (fun c3 => absurd c3 (by decide))
  refine r_iload_n dX12_nextGift_9 rfl ?_
  refine r_if_ge (tgt := 17) dX12_nextGift_10 (by decide) (fun c10 => absurd c10 (by decide)) (fun c10 => ?_)
  refine r_iconst dX12_nextGift_13 ic_0 ?_
  refine r_goto (tgt := 20) dX12_nextGift_14 (by decide) ?_
  refine r_istore_n (L' := [_, _, _, _]) dX12_nextGift_20 rfl rfl ?_
  refine JJ.loop ((G - 0)) (fun c => [.ref 97, .int (nI who), .int (-4), .int (nI (0 + c))]) (fun c => (I, R)) (fun c => True) rfl rfl trivial (fun hp => ?_) (fun c hc hp K => ?_)
  · skip
    refine r_iload_n dX12_nextGift_21 rfl ?_
    refine r_aload_n dX12_nextGift_22 rfl ?_
    refine g_getR dX12_nextGift_23 f_X12_7 (Mod.sg (by assumption)) rfl (Mod.r98 (by assumption)) ?_
    refine r_iconst dX12_nextGift_26 ic_1 ?_
    refine g_iald dX12_nextGift_27 (Mod.s98 (by assumption)) rfl (by omega) (by omega) hw.n1 ?_
    refine n_icmp_ge (tgt := 66) dX12_nextGift_28 (by decide) (by omega) (by omega) (fun c28 => ?_) (fun c28 => absurd c28 (by omega))
    refine r_ldc dX12_nextGift_66 c_X12_176 ?_
    exact g_iret dX12_nextGift_68 rfl rfl
  · have hly := hno (0 + c) (by omega) (by omega)
    refine r_iload_n dX12_nextGift_21 rfl ?_
    refine r_aload_n dX12_nextGift_22 rfl ?_
    refine g_getR dX12_nextGift_23 f_X12_7 (Mod.sg (by assumption)) rfl (Mod.r98 (by assumption)) ?_
    refine r_iconst dX12_nextGift_26 ic_1 ?_
    refine g_iald dX12_nextGift_27 (Mod.s98 (by assumption)) rfl (by omega) (by omega) hw.n1 ?_
    refine n_icmp_ge (tgt := 66) dX12_nextGift_28 (by decide) (by omega) (by omega) (fun c28 => absurd c28 (by omega)) (fun c28 => ?_)
    refine r_aload_n dX12_nextGift_31 rfl ?_
    refine g_getR dX12_nextGift_32 f_X12_13 (Mod.sg (by assumption)) rfl (Mod.r99 (by assumption)) ?_
    refine r_sipush dX12_nextGift_35 sp_404 ?_
    refine r_iload_n dX12_nextGift_38 rfl ?_
    refine n_iadd dX12_nextGift_39 ?_
    refine g_iald dX12_nextGift_40 (Mod.s99 (by assumption)) rfl (by omega) (by omega) (hd.at (k := 19 + (0 + c)) (by omega) (by omega)) ?_
    refine r_iload_n dX12_nextGift_41 rfl ?_
    refine r_icmp_ne (tgt := 60) dX12_nextGift_42 (by decide) (fun c42 => ?_) (fun c42 => ?_)
    · skip
      refine r_iinc (L' := [_, _, _, _]) dX12_nextGift_60 rfl rfl (nI_inc _) rfl ?_
      refine r_goto (tgt := 21) dX12_nextGift_63 (by decide) ?_
      exact JJ.to (K trivial) rfl rfl rfl
    · skip
      refine r_aload_n dX12_nextGift_45 rfl ?_
      refine g_getR dX12_nextGift_46 f_X12_13 (Mod.sg (by assumption)) rfl (Mod.r99 (by assumption)) ?_
      refine r_sipush dX12_nextGift_49 sp_412 ?_
      refine r_iload_n dX12_nextGift_52 rfl ?_
      refine n_iadd dX12_nextGift_53 ?_
      refine g_iald dX12_nextGift_54 (Mod.s99 (by assumption)) rfl (by omega) (by omega) (hd.at (k := 27 + (0 + c)) (by omega) (by omega)) ?_
      refine r_if_ne (tgt := 60) dX12_nextGift_55 (by decide) (fun c55 => ?_) (fun c55 => ?_)
      · skip
        refine r_iinc (L' := [_, _, _, _]) dX12_nextGift_60 rfl rfl (nI_inc _) rfl ?_
        refine r_goto (tgt := 21) dX12_nextGift_63 (by decide) ?_
        exact JJ.to (K trivial) rfl rfl rfl
      · skip
        exact absurd (show ly s (0 + c) who = true by simp only [ly, Bool.and_eq_true, decide_eq_true_eq]; exact ⟨c42, c55⟩) (by rw [hly]; decide)

set_option maxHeartbeats 4000000 in
set_option maxRecDepth 100000 in
theorem v_X12_next_gt (X : mCx) (d : Nat) {S : mSh} {I : mI} {R : mR} {w s : Nat → Int32} {N G hb who k g : Nat} (hm : Mod S R) (hw : MoW I w N G) (hd : MoD I 385 s hb) (hg8 : g < 8) (hkG : k < G) (hmk : (g + 1) ≤ k) (hk : ly s k who = true) (hno : ∀ x, (g + 1) ≤ x → x < k → ly s x who = false)  : CC X (d + 1) M_X12_nextGift [.ref 97, .int (nI who), .int (nI g)] S (I, R) (some (.int (nI k))) S (I, R) := by
  have hN6 := hw.N6
  have hG8 := hw.G8
  refine CC.of2 (L := [.ref 97, .int (nI who), .int (nI g), .retAddr 0]) p_X12 (Nat.le_of_ble_eq_true rfl) rfl rfl (List.prefix_refl S) ?_
  refine r_iload_n dX12_nextGift_0 rfl ?_
  refine r_bipush dX12_nextGift_1 bp_m5 ?_
  refine r_icmp_ne (tgt := 9) dX12_nextGift_3 (by decide) (fun c3 => ?_) (fun c3 => absurd c3 (nI_ne5 (by omega)))
  refine r_iload_n dX12_nextGift_9 rfl ?_
  refine n_if_ge (tgt := 17) dX12_nextGift_10 (by decide) (by omega) (fun c10 => ?_) (fun c10 => absurd c10 (Nat.not_lt_zero _))
  refine r_iload_n dX12_nextGift_17 rfl ?_
  refine r_iconst dX12_nextGift_18 ic_1 ?_
  refine n_iadd dX12_nextGift_19 ?_
  refine r_istore_n (L' := [_, _, _, _]) dX12_nextGift_20 rfl rfl ?_
  refine JJ.loop ((k - (g + 1))) (fun c => [.ref 97, .int (nI who), .int (nI g), .int (nI ((g + 1) + c))]) (fun c => (I, R)) (fun c => True) rfl rfl trivial (fun hp => ?_) (fun c hc hp K => ?_)
  · have hkk : (g + 1) + (k - (g + 1)) = k := by omega
    refine r_iload_n dX12_nextGift_21 rfl ?_
    refine r_aload_n dX12_nextGift_22 rfl ?_
    refine g_getR dX12_nextGift_23 f_X12_7 (Mod.sg (by assumption)) rfl (Mod.r98 (by assumption)) ?_
    refine r_iconst dX12_nextGift_26 ic_1 ?_
    refine g_iald dX12_nextGift_27 (Mod.s98 (by assumption)) rfl (by omega) (by omega) hw.n1 ?_
    refine n_icmp_ge (tgt := 66) dX12_nextGift_28 (by decide) (by omega) (by omega) (fun c28 => absurd c28 (by omega)) (fun c28 => ?_)
    refine r_aload_n dX12_nextGift_31 rfl ?_
    refine g_getR dX12_nextGift_32 f_X12_13 (Mod.sg (by assumption)) rfl (Mod.r99 (by assumption)) ?_
    refine r_sipush dX12_nextGift_35 sp_404 ?_
    refine r_iload_n dX12_nextGift_38 rfl ?_
    refine n_iadd dX12_nextGift_39 ?_
    refine g_iald dX12_nextGift_40 (Mod.s99 (by assumption)) rfl (by omega) (by omega) (hd.at (k := 19 + ((g + 1) + (k - (g + 1)))) (by omega) (by omega)) ?_
    refine r_iload_n dX12_nextGift_41 rfl ?_
    refine r_icmp_ne (tgt := 60) dX12_nextGift_42 (by decide) (fun c42 => absurd (of_decide_eq_true (Bool.and_eq_true_iff.mp (show (decide (s (19 + ((g + 1) + (k - (g + 1)))) = nI who) && decide (s (27 + ((g + 1) + (k - (g + 1)))) = 0)) = true by rw [hkk]; exact hk)).1) c42) (fun c42 => ?_)
    refine r_aload_n dX12_nextGift_45 rfl ?_
    refine g_getR dX12_nextGift_46 f_X12_13 (Mod.sg (by assumption)) rfl (Mod.r99 (by assumption)) ?_
    refine r_sipush dX12_nextGift_49 sp_412 ?_
    refine r_iload_n dX12_nextGift_52 rfl ?_
    refine n_iadd dX12_nextGift_53 ?_
    refine g_iald dX12_nextGift_54 (Mod.s99 (by assumption)) rfl (by omega) (by omega) (hd.at (k := 27 + ((g + 1) + (k - (g + 1)))) (by omega) (by omega)) ?_
    refine r_if_ne (tgt := 60) dX12_nextGift_55 (by decide) (fun c55 => absurd (of_decide_eq_true (Bool.and_eq_true_iff.mp (show (decide (s (19 + ((g + 1) + (k - (g + 1)))) = nI who) && decide (s (27 + ((g + 1) + (k - (g + 1)))) = 0)) = true by rw [hkk]; exact hk)).2) c55) (fun c55 => ?_)
    refine r_iload_n dX12_nextGift_58 rfl ?_
    exact g_iret dX12_nextGift_59 (by rw [hkk]) rfl
  · have hly := hno ((g + 1) + c) (by omega) (by omega)
    refine r_iload_n dX12_nextGift_21 rfl ?_
    refine r_aload_n dX12_nextGift_22 rfl ?_
    refine g_getR dX12_nextGift_23 f_X12_7 (Mod.sg (by assumption)) rfl (Mod.r98 (by assumption)) ?_
    refine r_iconst dX12_nextGift_26 ic_1 ?_
    refine g_iald dX12_nextGift_27 (Mod.s98 (by assumption)) rfl (by omega) (by omega) hw.n1 ?_
    refine n_icmp_ge (tgt := 66) dX12_nextGift_28 (by decide) (by omega) (by omega) (fun c28 => absurd c28 (by omega)) (fun c28 => ?_)
    refine r_aload_n dX12_nextGift_31 rfl ?_
    refine g_getR dX12_nextGift_32 f_X12_13 (Mod.sg (by assumption)) rfl (Mod.r99 (by assumption)) ?_
    refine r_sipush dX12_nextGift_35 sp_404 ?_
    refine r_iload_n dX12_nextGift_38 rfl ?_
    refine n_iadd dX12_nextGift_39 ?_
    refine g_iald dX12_nextGift_40 (Mod.s99 (by assumption)) rfl (by omega) (by omega) (hd.at (k := 19 + ((g + 1) + c)) (by omega) (by omega)) ?_
    refine r_iload_n dX12_nextGift_41 rfl ?_
    refine r_icmp_ne (tgt := 60) dX12_nextGift_42 (by decide) (fun c42 => ?_) (fun c42 => ?_)
    · skip
      refine r_iinc (L' := [_, _, _, _]) dX12_nextGift_60 rfl rfl (nI_inc _) rfl ?_
      refine r_goto (tgt := 21) dX12_nextGift_63 (by decide) ?_
      exact JJ.to (K trivial) rfl rfl rfl
    · skip
      refine r_aload_n dX12_nextGift_45 rfl ?_
      refine g_getR dX12_nextGift_46 f_X12_13 (Mod.sg (by assumption)) rfl (Mod.r99 (by assumption)) ?_
      refine r_sipush dX12_nextGift_49 sp_412 ?_
      refine r_iload_n dX12_nextGift_52 rfl ?_
      refine n_iadd dX12_nextGift_53 ?_
      refine g_iald dX12_nextGift_54 (Mod.s99 (by assumption)) rfl (by omega) (by omega) (hd.at (k := 27 + ((g + 1) + c)) (by omega) (by omega)) ?_
      refine r_if_ne (tgt := 60) dX12_nextGift_55 (by decide) (fun c55 => ?_) (fun c55 => ?_)
      · skip
        refine r_iinc (L' := [_, _, _, _]) dX12_nextGift_60 rfl rfl (nI_inc _) rfl ?_
        refine r_goto (tgt := 21) dX12_nextGift_63 (by decide) ?_
        exact JJ.to (K trivial) rfl rfl rfl
      · skip
        exact absurd (show ly s ((g + 1) + c) who = true by simp only [ly, Bool.and_eq_true, decide_eq_true_eq]; exact ⟨c42, c55⟩) (by rw [hly]; decide)

set_option maxHeartbeats 4000000 in
set_option maxRecDepth 100000 in
theorem v_X12_next_gf (X : mCx) (d : Nat) {S : mSh} {I : mI} {R : mR} {w s : Nat → Int32} {N G hb who g : Nat} (hm : Mod S R) (hw : MoW I w N G) (hd : MoD I 385 s hb) (hg8 : g < 8) (hmG : (g + 1) ≤ G) (hno : ∀ x, (g + 1) ≤ x → x < G → ly s x who = false)  : CC X (d + 1) M_X12_nextGift [.ref 97, .int (nI who), .int (nI g)] S (I, R) (some (.int FARI)) S (I, R) := by
  have hN6 := hw.N6
  have hG8 := hw.G8
  refine CC.of2 (L := [.ref 97, .int (nI who), .int (nI g), .retAddr 0]) p_X12 (Nat.le_of_ble_eq_true rfl) rfl rfl (List.prefix_refl S) ?_
  refine r_iload_n dX12_nextGift_0 rfl ?_
  refine r_bipush dX12_nextGift_1 bp_m5 ?_
  refine r_icmp_ne (tgt := 9) dX12_nextGift_3 (by decide) (fun c3 => ?_) (fun c3 => absurd c3 (nI_ne5 (by omega)))
  refine r_iload_n dX12_nextGift_9 rfl ?_
  refine n_if_ge (tgt := 17) dX12_nextGift_10 (by decide) (by omega) (fun c10 => ?_) (fun c10 => absurd c10 (Nat.not_lt_zero _))
  refine r_iload_n dX12_nextGift_17 rfl ?_
  refine r_iconst dX12_nextGift_18 ic_1 ?_
  refine n_iadd dX12_nextGift_19 ?_
  refine r_istore_n (L' := [_, _, _, _]) dX12_nextGift_20 rfl rfl ?_
  refine JJ.loop ((G - (g + 1))) (fun c => [.ref 97, .int (nI who), .int (nI g), .int (nI ((g + 1) + c))]) (fun c => (I, R)) (fun c => True) rfl rfl trivial (fun hp => ?_) (fun c hc hp K => ?_)
  · skip
    refine r_iload_n dX12_nextGift_21 rfl ?_
    refine r_aload_n dX12_nextGift_22 rfl ?_
    refine g_getR dX12_nextGift_23 f_X12_7 (Mod.sg (by assumption)) rfl (Mod.r98 (by assumption)) ?_
    refine r_iconst dX12_nextGift_26 ic_1 ?_
    refine g_iald dX12_nextGift_27 (Mod.s98 (by assumption)) rfl (by omega) (by omega) hw.n1 ?_
    refine n_icmp_ge (tgt := 66) dX12_nextGift_28 (by decide) (by omega) (by omega) (fun c28 => ?_) (fun c28 => absurd c28 (by omega))
    refine r_ldc dX12_nextGift_66 c_X12_176 ?_
    exact g_iret dX12_nextGift_68 rfl rfl
  · have hly := hno ((g + 1) + c) (by omega) (by omega)
    refine r_iload_n dX12_nextGift_21 rfl ?_
    refine r_aload_n dX12_nextGift_22 rfl ?_
    refine g_getR dX12_nextGift_23 f_X12_7 (Mod.sg (by assumption)) rfl (Mod.r98 (by assumption)) ?_
    refine r_iconst dX12_nextGift_26 ic_1 ?_
    refine g_iald dX12_nextGift_27 (Mod.s98 (by assumption)) rfl (by omega) (by omega) hw.n1 ?_
    refine n_icmp_ge (tgt := 66) dX12_nextGift_28 (by decide) (by omega) (by omega) (fun c28 => absurd c28 (by omega)) (fun c28 => ?_)
    refine r_aload_n dX12_nextGift_31 rfl ?_
    refine g_getR dX12_nextGift_32 f_X12_13 (Mod.sg (by assumption)) rfl (Mod.r99 (by assumption)) ?_
    refine r_sipush dX12_nextGift_35 sp_404 ?_
    refine r_iload_n dX12_nextGift_38 rfl ?_
    refine n_iadd dX12_nextGift_39 ?_
    refine g_iald dX12_nextGift_40 (Mod.s99 (by assumption)) rfl (by omega) (by omega) (hd.at (k := 19 + ((g + 1) + c)) (by omega) (by omega)) ?_
    refine r_iload_n dX12_nextGift_41 rfl ?_
    refine r_icmp_ne (tgt := 60) dX12_nextGift_42 (by decide) (fun c42 => ?_) (fun c42 => ?_)
    · skip
      refine r_iinc (L' := [_, _, _, _]) dX12_nextGift_60 rfl rfl (nI_inc _) rfl ?_
      refine r_goto (tgt := 21) dX12_nextGift_63 (by decide) ?_
      exact JJ.to (K trivial) rfl rfl rfl
    · skip
      refine r_aload_n dX12_nextGift_45 rfl ?_
      refine g_getR dX12_nextGift_46 f_X12_13 (Mod.sg (by assumption)) rfl (Mod.r99 (by assumption)) ?_
      refine r_sipush dX12_nextGift_49 sp_412 ?_
      refine r_iload_n dX12_nextGift_52 rfl ?_
      refine n_iadd dX12_nextGift_53 ?_
      refine g_iald dX12_nextGift_54 (Mod.s99 (by assumption)) rfl (by omega) (by omega) (hd.at (k := 27 + ((g + 1) + c)) (by omega) (by omega)) ?_
      refine r_if_ne (tgt := 60) dX12_nextGift_55 (by decide) (fun c55 => ?_) (fun c55 => ?_)
      · skip
        refine r_iinc (L' := [_, _, _, _]) dX12_nextGift_60 rfl rfl (nI_inc _) rfl ?_
        refine r_goto (tgt := 21) dX12_nextGift_63 (by decide) ?_
        exact JJ.to (K trivial) rfl rfl rfl
      · skip
        exact absurd (show ly s ((g + 1) + c) who = true by simp only [ly, Bool.and_eq_true, decide_eq_true_eq]; exact ⟨c42, c55⟩) (by rw [hly]; decide)

