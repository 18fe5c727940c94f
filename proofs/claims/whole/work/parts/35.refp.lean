/-! ===== the reference: what a text tells ===== -/
def xWp (I : mI) (w : Nat → Int32) (n : Nat) : mI := fun o b => if o = 98 ∧ 89 ≤ b ∧ b < 89 + n then w (b - 89) else I o b
def xW (I : mI) (w : Nat → Int32) : mI := xWp I w 89
def MoX (I : mI) (w : Nat → Int32) : Prop := ∀ k, k < 89 → I 98 (89 + k) = w k
theorem xW_o {I : mI} {o : Nat} {w : Nat → Int32} (ho : o ≠ 98) : xW I w o = I o := by
  funext b
  unfold xW xWp
  rw [if_neg (fun q => ho q.1)]
theorem xW_q (I : mI) {k : Nat} (w : Nat → Int32) (hk : k < 89) : xW I w 98 (89 + k) = w k := by
  unfold xW xWp
  rw [if_pos (by omega), Nat.add_sub_cancel_left]
theorem xW_lo {I : mI} {k : Nat} {w : Nat → Int32} (hk : k < 89) : xW I w 98 k = I 98 k := by
  unfold xW xWp
  rw [if_neg (by omega)]
theorem xW_j {I : mI} {k e : Nat} {w : Nat → Int32} {v : Int32} (he : e = 89 + k) (hk : k < 89) : sJ (xW I w) 98 e v = xW I (up w k v) := by
  subst he
  funext o b
  unfold sJ xW xWp up
  by_cases h1 : o = 98 ∧ b = 89 + k
  · rw [if_pos h1, if_pos (by omega), if_pos (by omega)]
  · rw [if_neg h1]
    by_cases h2 : o = 98 ∧ 89 ≤ b ∧ b < 89 + 89
    · rw [if_pos h2, if_pos h2, if_neg (by omega)]
    · rw [if_neg h2, if_neg h2]
theorem MoX.id {I : mI} {w : Nat → Int32} (q : MoX I w) : xW I w = I := by
  funext o b
  unfold xW xWp
  split
  case isTrue g =>
    have e := q (b - 89) (by omega)
    rw [show 89 + (b - 89) = b by omega] at e
    rw [g.1, e]
  case isFalse => rfl
theorem MoX.mk (I : mI) (w : Nat → Int32) : MoX (xW I w) w := fun k hk => xW_q I w hk
theorem MoX.at {I : mI} {w : Nat → Int32} {e k : Nat} (q : MoX I w) (he : e = 89 + k) (hk : k < 89) : I 98 e = w k := by rw [he]; exact q k hk
theorem MoX.fr {I I1 : mI} {w : Nat → Int32} (q : MoX I w) (h : I1 98 = I 98) : MoX I1 w := by
  unfold MoX at q ⊢
  rw [h]; exact q
theorem xW_2 (I : mI) (w v : Nat → Int32) : xW (xW I w) v = xW I v := by
  funext o b
  unfold xW xWp
  split <;> rfl
theorem MoW.xW {I : mI} {w v : Nat → Int32} {N G : Nat} (q : MoW I w N G) : MoW (xW I v) w N G := ⟨fun k hk => by rw [xW_lo hk]; exact q.1 k hk, q.2⟩
/-- a number is kept: what is written at 89 + k -/
def DrK (q : Dr) : Prop := q.1 0 = nI q.2.1 ∧ q.1 1 = nI q.2.2 ∧ q.2.1 ≤ 6 ∧ q.2.2 ≤ 8
def zxI (I : mI) (n : Nat) : mI := fun o b => if o = 98 ∧ 89 ≤ b ∧ b < 89 + n then nI 0 else I o b
theorem zxI_0 (I : mI) : zxI I 0 = I := by
  funext o b
  unfold zxI
  rw [if_neg (by omega)]
theorem zxI_s (I : mI) (n : Nat) : sJ (zxI I n) 98 (89 + n) (nI 0) = zxI I (n + 1) := by
  funext o b
  unfold sJ zxI
  by_cases h1 : o = 98 ∧ b = 89 + n
  · rw [if_pos h1, if_pos (by omega)]
  · rw [if_neg h1]
    by_cases h2 : o = 98 ∧ 89 ≤ b ∧ b < 89 + n
    · rw [if_pos h2, if_pos (by omega)]
    · rw [if_neg h2, if_neg (by omega)]
theorem zxI_f (I : mI) : sJ (zxI I 89) 98 91 (nI 10) = xW I bgW := by
  funext o b
  unfold sJ zxI xW xWp bgW
  by_cases h1 : o = 98 ∧ b = 91
  · rw [if_pos h1, if_pos (by omega), if_pos (by omega)]
  · rw [if_neg h1]
    by_cases h2 : o = 98 ∧ 89 ≤ b ∧ b < 89 + 89
    · rw [if_pos h2, if_pos h2, if_neg (by omega)]
    · rw [if_neg h2, if_neg h2]
theorem in_n {k a b : Nat} (hk : k < 2 ^ 31) (ha : a < 2 ^ 31) (hb : b < 2 ^ 31) : (!decide ((nI k).toInt64 < lN a) && !decide (lN b < (nI k).toInt64)) = (decide (a ≤ k) && decide (k ≤ b)) := by
  rw [inL ha hb]
  have e1 : (!decide (nI k < nI a)) = decide (a ≤ k) := by
    rw [← decide_not]
    exact decide_eq_decide.mpr (by rw [nI_ltI hk ha]; omega)
  have e2 : (!decide (nI b < nI k)) = decide (k ≤ b) := by
    rw [← decide_not]
    exact decide_eq_decide.mpr (by rw [nI_ltI hb hk]; omega)
  rw [e1, e2]
set_option maxHeartbeats 4000000 in
set_option maxRecDepth 100000 in
theorem v_X12_begins (X : mCx) (d : Nat) {S : mSh} {I : mI} {R : mR} (hm : Mod S R)  : CC X (d + 1) M_X12_begins [.ref 97] S (I, R) (none) S (xW I bgW, R) := by
  refine CC.of2 (L := [.ref 97, .retAddr 0]) p_X12 (Nat.le_of_ble_eq_true rfl) rfl trivial (List.prefix_refl S) ?_
  refine r_iconst dX12_begins_0 ic_0 ?_
  refine r_istore_n (L' := [_, _]) dX12_begins_1 rfl rfl ?_
  refine JJ.loop 89 (fun j => [.ref 97, .int (nI j)]) (fun j => (zxI I j, R)) (fun j => True) rfl (by rw [zxI_0]) trivial (fun hp => ?_) (fun j hj hp K => ?_)
  · skip
    refine r_iload_n dX12_begins_2 rfl ?_
    refine r_bipush dX12_begins_3 bp_89 ?_
    refine n_icmp_ge (tgt := 24) dX12_begins_5 (by decide) (by omega) (by omega) (fun c5 => ?_) (fun c5 => (by exfalso; omega))
    refine r_aload_n dX12_begins_24 rfl ?_
    refine g_getR dX12_begins_25 f_X12_7 (Mod.sg (by assumption)) rfl (Mod.r98 (by assumption)) ?_
    refine r_bipush dX12_begins_28 bp_91 ?_
    refine r_bipush dX12_begins_30 bp_10 ?_
    refine g_iast dX12_begins_32 (Mod.s98 (by assumption)) rfl (by omega) (by omega) ?_
    exact g_vret dX12_begins_33 rfl (by rw [zxI_f])
  · skip
    refine r_iload_n dX12_begins_2 rfl ?_
    refine r_bipush dX12_begins_3 bp_89 ?_
    refine n_icmp_ge (tgt := 24) dX12_begins_5 (by decide) (by omega) (by omega) (fun c5 => absurd c5 (by omega)) (fun c5 => ?_)
    refine r_aload_n dX12_begins_8 rfl ?_
    refine g_getR dX12_begins_9 f_X12_7 (Mod.sg (by assumption)) rfl (Mod.r98 (by assumption)) ?_
    refine r_bipush dX12_begins_12 bp_89 ?_
    refine r_iload_n dX12_begins_14 rfl ?_
    refine n_iadd dX12_begins_15 ?_
    refine r_iconst dX12_begins_16 ic_0 ?_
    refine g_iast dX12_begins_17 (Mod.s98 (by assumption)) rfl (by omega) (by omega) ?_
    refine r_iinc (L' := [_, _]) dX12_begins_18 rfl rfl (nI_inc _) rfl ?_
    refine r_goto (tgt := 2) dX12_begins_21 (by decide) ?_
    exact JJ.to (K trivial) rfl rfl (by rw [zxI_s])

set_option maxHeartbeats 4000000 in
set_option maxRecDepth 100000 in
theorem v_X12_persons_t (X : mCx) (d : Nat) {S : mSh} {I : mI} {R : mR} {w : Nat → Int32} {N G a b c : Nat} (hm : Mod S R) (hx : MoX I w) (hN : w 0 = nI N) (hG : w 1 = nI G) (h6 : N ≤ 6) (h8 : G ≤ 8) (ha : a < 100) (hb : b < 100) (hc : c < 100) (h : N < 6 ∧ a ≤ 4 ∧ c ≤ 20) : CC X (d + 1) M_X12_persons [.ref 97, .int (nI a), .int (nI b), .int (nI c)] S (I, R) (some (.int (bI true))) S (xW I (perW w N a b c), R) := by
  refine CC.of2 (L := [.ref 97, .int (nI a), .int (nI b), .int (nI c), .retAddr 0]) p_X12 (Nat.le_of_ble_eq_true rfl) rfl (mRok_b _) (List.prefix_refl S) ?_
  refine r_aload_n dX12_persons_0 rfl ?_
  refine g_getR dX12_persons_1 f_X12_7 (Mod.sg (by assumption)) rfl (Mod.r98 (by assumption)) ?_
  refine r_bipush dX12_persons_4 bp_89 ?_
  refine g_iald dX12_persons_6 (Mod.s98 (by assumption)) rfl (by omega) (by omega) ((hx.at (k := 0) (by omega) (by omega)).trans hN) ?_
  refine r_istore (L' := [_, _, _, _, _]) dX12_persons_7 rfl rfl ?_
  refine r_iload dX12_persons_9 rfl ?_
  refine r_bipush dX12_persons_11 bp_6 ?_
  refine n_icmp_eq (tgt := 33) dX12_persons_13 (by decide) (by omega) (by omega) (fun c13 => absurd c13 (by omega)) (fun c13 => ?_)
  refine r_iload_n dX12_persons_16 rfl ?_
  refine r_iconst dX12_persons_17 ic_4 ?_
  refine n_icmp_gt (tgt := 33) dX12_persons_18 (by decide) (by omega) (by omega) (fun c18 => absurd c18 (by omega)) (fun c18 => ?_)
  refine r_iload_n dX12_persons_21 rfl ?_
  refine r_bipush dX12_persons_22 bp_99 ?_
  refine n_icmp_gt (tgt := 33) dX12_persons_24 (by decide) (by omega) (by omega) (fun c24 => absurd c24 (by omega)) (fun c24 => ?_)
  refine r_iload_n dX12_persons_27 rfl ?_
  refine r_bipush dX12_persons_28 bp_20 ?_
  refine n_icmp_le (tgt := 35) dX12_persons_30 (by decide) (by omega) (by omega) (fun c30 => ?_) (fun c30 => absurd c30 (by omega))
  refine JJ.to (h1 := (xW I w, R)) ?_ rfl rfl (by rw [hx.id])
  refine r_aload_n dX12_persons_35 rfl ?_
  refine g_getR dX12_persons_36 f_X12_7 (Mod.sg (by assumption)) rfl (Mod.r98 (by assumption)) ?_
  refine r_bipush dX12_persons_39 bp_92 ?_
  refine r_iload dX12_persons_41 rfl ?_
  refine n_iadd dX12_persons_43 ?_
  refine r_iload_n dX12_persons_44 rfl ?_
  refine g_iast dX12_persons_45 (Mod.s98 (by assumption)) rfl (by omega) (by omega) ?_
  refine JJ.to (h1 := (xW I (up w (3 + N) (nI a)), R)) ?_ rfl rfl (by rw [xW_j (k := 3 + N) (by omega) (by omega)])
  refine r_aload_n dX12_persons_46 rfl ?_
  refine g_getR dX12_persons_47 f_X12_7 (Mod.sg (by assumption)) rfl (Mod.r98 (by assumption)) ?_
  refine r_bipush dX12_persons_50 bp_98 ?_
  refine r_iload dX12_persons_52 rfl ?_
  refine n_iadd dX12_persons_54 ?_
  refine r_iload_n dX12_persons_55 rfl ?_
  refine g_iast dX12_persons_56 (Mod.s98 (by assumption)) rfl (by omega) (by omega) ?_
  refine JJ.to (h1 := (xW I (up (up w (3 + N) (nI a)) (9 + N) (nI b)), R)) ?_ rfl rfl (by rw [xW_j (k := 9 + N) (by omega) (by omega)])
  refine r_aload_n dX12_persons_57 rfl ?_
  refine g_getR dX12_persons_58 f_X12_7 (Mod.sg (by assumption)) rfl (Mod.r98 (by assumption)) ?_
  refine r_bipush dX12_persons_61 bp_104 ?_
  refine r_iload dX12_persons_63 rfl ?_
  refine n_iadd dX12_persons_65 ?_
  refine r_iload_n dX12_persons_66 rfl ?_
  refine g_iast dX12_persons_67 (Mod.s98 (by assumption)) rfl (by omega) (by omega) ?_
  refine JJ.to (h1 := (xW I (up (up (up w (3 + N) (nI a)) (9 + N) (nI b)) (15 + N) (nI c)), R)) ?_ rfl rfl (by rw [xW_j (k := 15 + N) (by omega) (by omega)])
  refine r_aload_n dX12_persons_68 rfl ?_
  refine g_getR dX12_persons_69 f_X12_7 (Mod.sg (by assumption)) rfl (Mod.r98 (by assumption)) ?_
  refine r_bipush dX12_persons_72 bp_89 ?_
  refine r_dup2 dX12_persons_74 rfl rfl ?_
  refine g_iald dX12_persons_75 (Mod.s98 (by assumption)) rfl (by omega) (by omega) ((xW_q I (up (up (up w (3 + N) (nI a)) (9 + N) (nI b)) (15 + N) (nI c)) (show 0 < 89 by decide)).trans (show _ = nI N by (repeat rw [up_ne (by omega)]); exact hN)) ?_
  refine r_iconst dX12_persons_76 ic_1 ?_
  refine n_iadd dX12_persons_77 ?_
  refine g_iast dX12_persons_78 (Mod.s98 (by assumption)) rfl (by omega) (by omega) ?_
  refine JJ.to (h1 := (xW I (perW w N a b c), R)) ?_ rfl rfl (by rw [xW_j (k := 0) (by omega) (by omega)]; rfl)
  refine r_iconst dX12_persons_79 ic_1 ?_
  exact g_iret dX12_persons_80 (rB1 rfl) rfl

set_option maxHeartbeats 4000000 in
set_option maxRecDepth 100000 in
theorem v_X12_persons_f (X : mCx) (d : Nat) {S : mSh} {I : mI} {R : mR} {w : Nat → Int32} {N G a b c : Nat} (hm : Mod S R) (hx : MoX I w) (hN : w 0 = nI N) (hG : w 1 = nI G) (h6 : N ≤ 6) (h8 : G ≤ 8) (ha : a < 100) (hb : b < 100) (hc : c < 100) (h : ¬ (N < 6 ∧ a ≤ 4 ∧ c ≤ 20)) : CC X (d + 1) M_X12_persons [.ref 97, .int (nI a), .int (nI b), .int (nI c)] S (I, R) (some (.int (bI false))) S (I, R) := by
  refine CC.of2 (L := [.ref 97, .int (nI a), .int (nI b), .int (nI c), .retAddr 0]) p_X12 (Nat.le_of_ble_eq_true rfl) rfl (mRok_b _) (List.prefix_refl S) ?_
  refine r_aload_n dX12_persons_0 rfl ?_
  refine g_getR dX12_persons_1 f_X12_7 (Mod.sg (by assumption)) rfl (Mod.r98 (by assumption)) ?_
  refine r_bipush dX12_persons_4 bp_89 ?_
  refine g_iald dX12_persons_6 (Mod.s98 (by assumption)) rfl (by omega) (by omega) ((hx.at (k := 0) (by omega) (by omega)).trans hN) ?_
  refine r_istore (L' := [_, _, _, _, _]) dX12_persons_7 rfl rfl ?_
  refine r_iload dX12_persons_9 rfl ?_
  refine r_bipush dX12_persons_11 bp_6 ?_
  refine n_icmp_eq (tgt := 33) dX12_persons_13 (by decide) (by omega) (by omega) (fun c13 => ?_) (fun c13 => ?_)
  · skip
    refine r_iconst dX12_persons_33 ic_0 ?_
    exact g_iret dX12_persons_34 (rB0 rfl) rfl
  · skip
    refine r_iload_n dX12_persons_16 rfl ?_
    refine r_iconst dX12_persons_17 ic_4 ?_
    refine n_icmp_gt (tgt := 33) dX12_persons_18 (by decide) (by omega) (by omega) (fun c18 => ?_) (fun c18 => ?_)
    · skip
      refine r_iconst dX12_persons_33 ic_0 ?_
      exact g_iret dX12_persons_34 (rB0 rfl) rfl
    · skip
      refine r_iload_n dX12_persons_21 rfl ?_
      refine r_bipush dX12_persons_22 bp_99 ?_
      refine n_icmp_gt (tgt := 33) dX12_persons_24 (by decide) (by omega) (by omega) (fun c24 => absurd c24 (by omega)) (fun c24 => ?_)
      refine r_iload_n dX12_persons_27 rfl ?_
      refine r_bipush dX12_persons_28 bp_20 ?_
      refine n_icmp_le (tgt := 35) dX12_persons_30 (by decide) (by omega) (by omega) (fun c30 => ?_) (fun c30 => ?_)
      · skip
        exfalso; omega
      · skip
        refine r_iconst dX12_persons_33 ic_0 ?_
        exact g_iret dX12_persons_34 (rB0 rfl) rfl

set_option maxHeartbeats 4000000 in
set_option maxRecDepth 100000 in
theorem v_X12_goods_t (X : mCx) (d : Nat) {S : mSh} {I : mI} {R : mR} {w : Nat → Int32} {N G a b c e : Nat} (hm : Mod S R) (hx : MoX I w) (hN : w 0 = nI N) (hG : w 1 = nI G) (h6 : N ≤ 6) (h8 : G ≤ 8) (ha : a < 100) (hb : b < 100) (hc : c < 100) (he : e < 100) (h : G < 8 ∧ a ≤ 3 ∧ b < N ∧ 1 ≤ c ∧ c ≤ 40 ∧ e ≤ 20) : CC X (d + 2) M_X12_goods [.ref 97, .int (nI a), .int (nI b), .int (nI c), .int (nI e)] S (I, R) (some (.int (bI true))) S (xW I (gooW w G a b c e), R) := by
  refine CC.of2 (L := [.ref 97, .int (nI a), .int (nI b), .int (nI c), .int (nI e), .retAddr 0]) p_X12 (Nat.le_of_ble_eq_true rfl) rfl (mRok_b _) (List.prefix_refl S) ?_
  refine r_aload_n dX12_goods_0 rfl ?_
  refine g_getR dX12_goods_1 f_X12_7 (Mod.sg (by assumption)) rfl (Mod.r98 (by assumption)) ?_
  refine r_bipush dX12_goods_4 bp_90 ?_
  refine g_iald dX12_goods_6 (Mod.s98 (by assumption)) rfl (by omega) (by omega) ((hx.at (k := 1) (by omega) (by omega)).trans hG) ?_
  refine r_istore (L' := [_, _, _, _, _, _]) dX12_goods_7 rfl rfl ?_
  refine r_iload dX12_goods_9 rfl ?_
  refine r_bipush dX12_goods_11 bp_8 ?_
  refine n_icmp_eq (tgt := 51) dX12_goods_13 (by decide) (by omega) (by omega) (fun c13 => absurd c13 (by omega)) (fun c13 => ?_)
  refine r_iload_n dX12_goods_16 rfl ?_
  refine r_iconst dX12_goods_17 ic_3 ?_
  refine n_icmp_gt (tgt := 51) dX12_goods_18 (by decide) (by omega) (by omega) (fun c18 => absurd c18 (by omega)) (fun c18 => ?_)
  refine r_iload_n dX12_goods_21 rfl ?_
  refine r_aload_n dX12_goods_22 rfl ?_
  refine g_getR dX12_goods_23 f_X12_7 (Mod.sg (by assumption)) rfl (Mod.r98 (by assumption)) ?_
  refine r_bipush dX12_goods_26 bp_89 ?_
  refine g_iald dX12_goods_28 (Mod.s98 (by assumption)) rfl (by omega) (by omega) ((hx.at (k := 0) (by omega) (by omega)).trans hN) ?_
  refine n_icmp_ge (tgt := 51) dX12_goods_29 (by decide) (by omega) (by omega) (fun c29 => absurd c29 (by omega)) (fun c29 => ?_)
  refine r_iload_n dX12_goods_32 rfl ?_
  refine r_i2l dX12_goods_33 rfl ?_
  refine r_lconst (v := lN 1) dX12_goods_34 rfl ?_
  refine r_ldc2 dX12_goods_35 c_X12_60 ?_
  refine r_S3 dX12_goods_38 l_X12_62 k_X12_in s_X12_in (Nat.le_of_ble_eq_true rfl) (v_X12_in X _ ) (List.prefix_refl S) ?_
  refine g_top (congrArg bI (in_n (k := c) (a := 1) (b := 40) (by omega) (by decide) (by decide))) ?_
  refine r_ifB_eq (tgt := 51) dX12_goods_41 (by decide) (fun c41 => absurd (show (decide (1 ≤ c) && decide (c ≤ 40)) = true by simp [h]) (by rw [c41]; decide)) (fun c41 => ?_)
  refine r_iload dX12_goods_44 rfl ?_
  refine r_bipush dX12_goods_46 bp_20 ?_
  refine n_icmp_le (tgt := 53) dX12_goods_48 (by decide) (by omega) (by omega) (fun c48 => ?_) (fun c48 => absurd c48 (by omega))
  refine JJ.to (h1 := (xW I w, R)) ?_ rfl rfl (by rw [hx.id])
  refine r_aload_n dX12_goods_53 rfl ?_
  refine g_getR dX12_goods_54 f_X12_7 (Mod.sg (by assumption)) rfl (Mod.r98 (by assumption)) ?_
  refine r_bipush dX12_goods_57 bp_110 ?_
  refine r_iload dX12_goods_59 rfl ?_
  refine n_iadd dX12_goods_61 ?_
  refine r_iload_n dX12_goods_62 rfl ?_
  refine g_iast dX12_goods_63 (Mod.s98 (by assumption)) rfl (by omega) (by omega) ?_
  refine JJ.to (h1 := (xW I (up w (21 + G) (nI a)), R)) ?_ rfl rfl (by rw [xW_j (k := 21 + G) (by omega) (by omega)])
  refine r_aload_n dX12_goods_64 rfl ?_
  refine g_getR dX12_goods_65 f_X12_7 (Mod.sg (by assumption)) rfl (Mod.r98 (by assumption)) ?_
  refine r_bipush dX12_goods_68 bp_118 ?_
  refine r_iload dX12_goods_70 rfl ?_
  refine n_iadd dX12_goods_72 ?_
  refine r_iload_n dX12_goods_73 rfl ?_
  refine g_iast dX12_goods_74 (Mod.s98 (by assumption)) rfl (by omega) (by omega) ?_
  refine JJ.to (h1 := (xW I (up (up w (21 + G) (nI a)) (29 + G) (nI b)), R)) ?_ rfl rfl (by rw [xW_j (k := 29 + G) (by omega) (by omega)])
  refine r_aload_n dX12_goods_75 rfl ?_
  refine g_getR dX12_goods_76 f_X12_7 (Mod.sg (by assumption)) rfl (Mod.r98 (by assumption)) ?_
  refine r_bipush dX12_goods_79 bp_126 ?_
  refine r_iload dX12_goods_81 rfl ?_
  refine n_iadd dX12_goods_83 ?_
  refine r_iload_n dX12_goods_84 rfl ?_
  refine g_iast dX12_goods_85 (Mod.s98 (by assumption)) rfl (by omega) (by omega) ?_
  refine JJ.to (h1 := (xW I (up (up (up w (21 + G) (nI a)) (29 + G) (nI b)) (37 + G) (nI c)), R)) ?_ rfl rfl (by rw [xW_j (k := 37 + G) (by omega) (by omega)])
  refine r_aload_n dX12_goods_86 rfl ?_
  refine g_getR dX12_goods_87 f_X12_7 (Mod.sg (by assumption)) rfl (Mod.r98 (by assumption)) ?_
  refine r_sipush dX12_goods_90 sp_134 ?_
  refine r_iload dX12_goods_93 rfl ?_
  refine n_iadd dX12_goods_95 ?_
  refine r_iload dX12_goods_96 rfl ?_
  refine g_iast dX12_goods_98 (Mod.s98 (by assumption)) rfl (by omega) (by omega) ?_
  refine JJ.to (h1 := (xW I (up (up (up (up w (21 + G) (nI a)) (29 + G) (nI b)) (37 + G) (nI c)) (45 + G) (nI e)), R)) ?_ rfl rfl (by rw [xW_j (k := 45 + G) (by omega) (by omega)])
  refine r_aload_n dX12_goods_99 rfl ?_
  refine g_getR dX12_goods_100 f_X12_7 (Mod.sg (by assumption)) rfl (Mod.r98 (by assumption)) ?_
  refine r_bipush dX12_goods_103 bp_90 ?_
  refine r_dup2 dX12_goods_105 rfl rfl ?_
  refine g_iald dX12_goods_106 (Mod.s98 (by assumption)) rfl (by omega) (by omega) ((xW_q I (up (up (up (up w (21 + G) (nI a)) (29 + G) (nI b)) (37 + G) (nI c)) (45 + G) (nI e)) (show 1 < 89 by decide)).trans (show _ = nI G by (repeat rw [up_ne (by omega)]); exact hG)) ?_
  refine r_iconst dX12_goods_107 ic_1 ?_
  refine n_iadd dX12_goods_108 ?_
  refine g_iast dX12_goods_109 (Mod.s98 (by assumption)) rfl (by omega) (by omega) ?_
  refine JJ.to (h1 := (xW I (gooW w G a b c e), R)) ?_ rfl rfl (by rw [xW_j (k := 1) (by omega) (by omega)]; rfl)
  refine r_iconst dX12_goods_110 ic_1 ?_
  exact g_iret dX12_goods_111 (rB1 rfl) rfl

set_option maxHeartbeats 4000000 in
set_option maxRecDepth 100000 in
theorem v_X12_goods_f (X : mCx) (d : Nat) {S : mSh} {I : mI} {R : mR} {w : Nat → Int32} {N G a b c e : Nat} (hm : Mod S R) (hx : MoX I w) (hN : w 0 = nI N) (hG : w 1 = nI G) (h6 : N ≤ 6) (h8 : G ≤ 8) (ha : a < 100) (hb : b < 100) (hc : c < 100) (he : e < 100) (h : ¬ (G < 8 ∧ a ≤ 3 ∧ b < N ∧ 1 ≤ c ∧ c ≤ 40 ∧ e ≤ 20)) : CC X (d + 2) M_X12_goods [.ref 97, .int (nI a), .int (nI b), .int (nI c), .int (nI e)] S (I, R) (some (.int (bI false))) S (I, R) := by
  refine CC.of2 (L := [.ref 97, .int (nI a), .int (nI b), .int (nI c), .int (nI e), .retAddr 0]) p_X12 (Nat.le_of_ble_eq_true rfl) rfl (mRok_b _) (List.prefix_refl S) ?_
  refine r_aload_n dX12_goods_0 rfl ?_
  refine g_getR dX12_goods_1 f_X12_7 (Mod.sg (by assumption)) rfl (Mod.r98 (by assumption)) ?_
  refine r_bipush dX12_goods_4 bp_90 ?_
  refine g_iald dX12_goods_6 (Mod.s98 (by assumption)) rfl (by omega) (by omega) ((hx.at (k := 1) (by omega) (by omega)).trans hG) ?_
  refine r_istore (L' := [_, _, _, _, _, _]) dX12_goods_7 rfl rfl ?_
  refine r_iload dX12_goods_9 rfl ?_
  refine r_bipush dX12_goods_11 bp_8 ?_
  refine n_icmp_eq (tgt := 51) dX12_goods_13 (by decide) (by omega) (by omega) (fun c13 => ?_) (fun c13 => ?_)
  · skip
    refine r_iconst dX12_goods_51 ic_0 ?_
    exact g_iret dX12_goods_52 (rB0 rfl) rfl
  · skip
    refine r_iload_n dX12_goods_16 rfl ?_
    refine r_iconst dX12_goods_17 ic_3 ?_
    refine n_icmp_gt (tgt := 51) dX12_goods_18 (by decide) (by omega) (by omega) (fun c18 => ?_) (fun c18 => ?_)
    · skip
      refine r_iconst dX12_goods_51 ic_0 ?_
      exact g_iret dX12_goods_52 (rB0 rfl) rfl
    · skip
      refine r_iload_n dX12_goods_21 rfl ?_
      refine r_aload_n dX12_goods_22 rfl ?_
      refine g_getR dX12_goods_23 f_X12_7 (Mod.sg (by assumption)) rfl (Mod.r98 (by assumption)) ?_
      refine r_bipush dX12_goods_26 bp_89 ?_
      refine g_iald dX12_goods_28 (Mod.s98 (by assumption)) rfl (by omega) (by omega) ((hx.at (k := 0) (by omega) (by omega)).trans hN) ?_
      refine n_icmp_ge (tgt := 51) dX12_goods_29 (by decide) (by omega) (by omega) (fun c29 => ?_) (fun c29 => ?_)
      · skip
        refine r_iconst dX12_goods_51 ic_0 ?_
        exact g_iret dX12_goods_52 (rB0 rfl) rfl
      · skip
        refine r_iload_n dX12_goods_32 rfl ?_
        refine r_i2l dX12_goods_33 rfl ?_
        refine r_lconst (v := lN 1) dX12_goods_34 rfl ?_
        refine r_ldc2 dX12_goods_35 c_X12_60 ?_
        refine r_S3 dX12_goods_38 l_X12_62 k_X12_in s_X12_in (Nat.le_of_ble_eq_true rfl) (v_X12_in X _ ) (List.prefix_refl S) ?_
        refine g_top (congrArg bI (in_n (k := c) (a := 1) (b := 40) (by omega) (by decide) (by decide))) ?_
        refine r_ifB_eq (tgt := 51) dX12_goods_41 (by decide) (fun c41 => ?_) (fun c41 => ?_)
        · skip
          refine r_iconst dX12_goods_51 ic_0 ?_
          exact g_iret dX12_goods_52 (rB0 rfl) rfl
        · skip
          refine r_iload dX12_goods_44 rfl ?_
          refine r_bipush dX12_goods_46 bp_20 ?_
          refine n_icmp_le (tgt := 53) dX12_goods_48 (by decide) (by omega) (by omega) (fun c48 => ?_) (fun c48 => ?_)
          · skip
            exfalso; simp only [Bool.and_eq_true, decide_eq_true_eq] at c41; omega
          · skip
            refine r_iconst dX12_goods_51 ic_0 ?_
            exact g_iret dX12_goods_52 (rB0 rfl) rfl

set_option maxHeartbeats 4000000 in
set_option maxRecDepth 100000 in
theorem v_X12_loves_t (X : mCx) (d : Nat) {S : mSh} {I : mI} {R : mR} {w : Nat → Int32} {N G a b c : Nat} (hm : Mod S R) (hx : MoX I w) (hN : w 0 = nI N) (hG : w 1 = nI G) (h6 : N ≤ 6) (h8 : G ≤ 8) (ha : a < 100) (hb : b < 100) (hc : c < 100) (h : a ≠ b ∧ a < N ∧ b < N ∧ c ≤ 20) : CC X (d + 1) M_X12_loves [.ref 97, .int (nI a), .int (nI b), .int (nI c)] S (I, R) (some (.int (bI true))) S (xW I (up w (53 + (6 * a + b)) (nI c)), R) := by
  refine CC.of2 (L := [.ref 97, .int (nI a), .int (nI b), .int (nI c), .retAddr 0]) p_X12 (Nat.le_of_ble_eq_true rfl) rfl (mRok_b _) (List.prefix_refl S) ?_
  refine r_iload_n dX12_loves_0 rfl ?_
  refine r_iload_n dX12_loves_1 rfl ?_
  refine n_icmp_eq (tgt := 37) dX12_loves_2 (by decide) (by omega) (by omega) (fun c2 => absurd c2 (by omega)) (fun c2 => ?_)
  refine r_iload_n dX12_loves_5 rfl ?_
  refine r_aload_n dX12_loves_6 rfl ?_
  refine g_getR dX12_loves_7 f_X12_7 (Mod.sg (by assumption)) rfl (Mod.r98 (by assumption)) ?_
  refine r_bipush dX12_loves_10 bp_89 ?_
  refine g_iald dX12_loves_12 (Mod.s98 (by assumption)) rfl (by omega) (by omega) ((hx.at (k := 0) (by omega) (by omega)).trans hN) ?_
  refine n_icmp_ge (tgt := 37) dX12_loves_13 (by decide) (by omega) (by omega) (fun c13 => absurd c13 (by omega)) (fun c13 => ?_)
  refine r_iload_n dX12_loves_16 rfl ?_
  refine r_aload_n dX12_loves_17 rfl ?_
  refine g_getR dX12_loves_18 f_X12_7 (Mod.sg (by assumption)) rfl (Mod.r98 (by assumption)) ?_
  refine r_bipush dX12_loves_21 bp_89 ?_
  refine g_iald dX12_loves_23 (Mod.s98 (by assumption)) rfl (by omega) (by omega) ((hx.at (k := 0) (by omega) (by omega)).trans hN) ?_
  refine n_icmp_ge (tgt := 37) dX12_loves_24 (by decide) (by omega) (by omega) (fun c24 => absurd c24 (by omega)) (fun c24 => ?_)
  refine r_iload_n dX12_loves_27 rfl ?_
  refine r_bipush dX12_loves_28 bp_20 ?_
  refine n_icmp_gt (tgt := 37) dX12_loves_30 (by decide) (by omega) (by omega) (fun c30 => absurd c30 (by omega)) (fun c30 => ?_)
  refine r_iconst dX12_loves_33 ic_1 ?_
  refine r_goto (tgt := 38) dX12_loves_34 (by decide) ?_
  refine r_istore (L' := [_, _, _, _, _]) dX12_loves_38 rfl rfl ?_
  refine r_iload dX12_loves_40 rfl ?_
  refine n_if_eq (tgt := 61) dX12_loves_42 (by decide) (by omega) (fun c42 => absurd c42 (by decide)) (fun c42 => ?_)
  refine JJ.to (h1 := (xW I w, R)) ?_ rfl rfl (by rw [hx.id])
  refine r_aload_n dX12_loves_45 rfl ?_
  refine g_getR dX12_loves_46 f_X12_7 (Mod.sg (by assumption)) rfl (Mod.r98 (by assumption)) ?_
  refine r_sipush dX12_loves_49 sp_142 ?_
  refine r_bipush dX12_loves_52 bp_6 ?_
  refine r_iload_n dX12_loves_54 rfl ?_
  refine n_imul dX12_loves_55 ?_
  refine n_iadd dX12_loves_56 ?_
  refine r_iload_n dX12_loves_57 rfl ?_
  refine n_iadd dX12_loves_58 ?_
  refine r_iload_n dX12_loves_59 rfl ?_
  refine g_iast dX12_loves_60 (Mod.s98 (by assumption)) rfl (by omega) (by omega) ?_
  refine JJ.to (h1 := (xW I (up w (53 + (6 * a + b)) (nI c)), R)) ?_ rfl rfl (by rw [xW_j (k := 53 + (6 * a + b)) (by omega) (by omega)])
  refine r_iload dX12_loves_61 rfl ?_
  exact g_iret dX12_loves_63 (rB1 rfl) rfl

set_option maxHeartbeats 4000000 in
set_option maxRecDepth 100000 in
theorem v_X12_loves_f (X : mCx) (d : Nat) {S : mSh} {I : mI} {R : mR} {w : Nat → Int32} {N G a b c : Nat} (hm : Mod S R) (hx : MoX I w) (hN : w 0 = nI N) (hG : w 1 = nI G) (h6 : N ≤ 6) (h8 : G ≤ 8) (ha : a < 100) (hb : b < 100) (hc : c < 100) (h : ¬ (a ≠ b ∧ a < N ∧ b < N ∧ c ≤ 20)) : CC X (d + 1) M_X12_loves [.ref 97, .int (nI a), .int (nI b), .int (nI c)] S (I, R) (some (.int (bI false))) S (I, R) := by
  refine CC.of2 (L := [.ref 97, .int (nI a), .int (nI b), .int (nI c), .retAddr 0]) p_X12 (Nat.le_of_ble_eq_true rfl) rfl (mRok_b _) (List.prefix_refl S) ?_
  refine r_iload_n dX12_loves_0 rfl ?_
  refine r_iload_n dX12_loves_1 rfl ?_
  refine n_icmp_eq (tgt := 37) dX12_loves_2 (by decide) (by omega) (by omega) (fun c2 => ?_) (fun c2 => ?_)
  · skip
    refine r_iconst dX12_loves_37 ic_0 ?_
    refine r_istore (L' := [_, _, _, _, _]) dX12_loves_38 rfl rfl ?_
    refine r_iload dX12_loves_40 rfl ?_
    refine n_if_eq (tgt := 61) dX12_loves_42 (by decide) (by omega) (fun c42 => ?_) (fun c42 => absurd rfl c42)
    refine r_iload dX12_loves_61 rfl ?_
    exact g_iret dX12_loves_63 (rB0 rfl) rfl
  · skip
    refine r_iload_n dX12_loves_5 rfl ?_
    refine r_aload_n dX12_loves_6 rfl ?_
    refine g_getR dX12_loves_7 f_X12_7 (Mod.sg (by assumption)) rfl (Mod.r98 (by assumption)) ?_
    refine r_bipush dX12_loves_10 bp_89 ?_
    refine g_iald dX12_loves_12 (Mod.s98 (by assumption)) rfl (by omega) (by omega) ((hx.at (k := 0) (by omega) (by omega)).trans hN) ?_
    refine n_icmp_ge (tgt := 37) dX12_loves_13 (by decide) (by omega) (by omega) (fun c13 => ?_) (fun c13 => ?_)
    · skip
      refine r_iconst dX12_loves_37 ic_0 ?_
      refine r_istore (L' := [_, _, _, _, _]) dX12_loves_38 rfl rfl ?_
      refine r_iload dX12_loves_40 rfl ?_
      refine n_if_eq (tgt := 61) dX12_loves_42 (by decide) (by omega) (fun c42 => ?_) (fun c42 => absurd rfl c42)
      refine r_iload dX12_loves_61 rfl ?_
      exact g_iret dX12_loves_63 (rB0 rfl) rfl
    · skip
      refine r_iload_n dX12_loves_16 rfl ?_
      refine r_aload_n dX12_loves_17 rfl ?_
      refine g_getR dX12_loves_18 f_X12_7 (Mod.sg (by assumption)) rfl (Mod.r98 (by assumption)) ?_
      refine r_bipush dX12_loves_21 bp_89 ?_
      refine g_iald dX12_loves_23 (Mod.s98 (by assumption)) rfl (by omega) (by omega) ((hx.at (k := 0) (by omega) (by omega)).trans hN) ?_
      refine n_icmp_ge (tgt := 37) dX12_loves_24 (by decide) (by omega) (by omega) (fun c24 => ?_) (fun c24 => ?_)
      · skip
        refine r_iconst dX12_loves_37 ic_0 ?_
        refine r_istore (L' := [_, _, _, _, _]) dX12_loves_38 rfl rfl ?_
        refine r_iload dX12_loves_40 rfl ?_
        refine n_if_eq (tgt := 61) dX12_loves_42 (by decide) (by omega) (fun c42 => ?_) (fun c42 => absurd rfl c42)
        refine r_iload dX12_loves_61 rfl ?_
        exact g_iret dX12_loves_63 (rB0 rfl) rfl
      · skip
        refine r_iload_n dX12_loves_27 rfl ?_
        refine r_bipush dX12_loves_28 bp_20 ?_
        refine n_icmp_gt (tgt := 37) dX12_loves_30 (by decide) (by omega) (by omega) (fun c30 => ?_) (fun c30 => ?_)
        · skip
          refine r_iconst dX12_loves_37 ic_0 ?_
          refine r_istore (L' := [_, _, _, _, _]) dX12_loves_38 rfl rfl ?_
          refine r_iload dX12_loves_40 rfl ?_
          refine n_if_eq (tgt := 61) dX12_loves_42 (by decide) (by omega) (fun c42 => ?_) (fun c42 => absurd rfl c42)
          refine r_iload dX12_loves_61 rfl ?_
          exact g_iret dX12_loves_63 (rB0 rfl) rfl
        · skip
          exfalso; omega

set_option maxHeartbeats 4000000 in
set_option maxRecDepth 100000 in
theorem v_X12_tenths_t (X : mCx) (d : Nat) {S : mSh} {I : mI} {R : mR} {w : Nat → Int32} {a : Nat} (hm : Mod S R) (hx : MoX I w) (ha : a < 100) (h : 1 ≤ a ∧ a ≤ 20) : CC X (d + 2) M_X12_tenths [.ref 97, .int (nI a)] S (I, R) (some (.int (bI true))) S (xW I (up w 2 (nI a)), R) := by
  refine CC.of2 (L := [.ref 97, .int (nI a), .retAddr 0]) p_X12 (Nat.le_of_ble_eq_true rfl) rfl (mRok_b _) (List.prefix_refl S) ?_
  refine r_iload_n dX12_tenths_0 rfl ?_
  refine r_i2l dX12_tenths_1 rfl ?_
  refine r_lconst (v := lN 1) dX12_tenths_2 rfl ?_
  refine r_ldc2 dX12_tenths_3 c_X12_66 ?_
  refine r_S3 dX12_tenths_6 l_X12_62 k_X12_in s_X12_in (Nat.le_of_ble_eq_true rfl) (v_X12_in X _ ) (List.prefix_refl S) ?_
  refine g_top (congrArg bI (in_n (k := a) (a := 1) (b := 20) (by omega) (by decide) (by decide))) ?_
  refine g_top (congrArg bI (show _ = true by simp [h])) ?_
  refine r_istore_n (L' := [_, _, _]) dX12_tenths_9 rfl rfl ?_
  refine JJ.to (h1 := (xW I w, R)) ?_ rfl rfl (by rw [hx.id])
  refine r_aload_n dX12_tenths_10 rfl ?_
  refine g_getR dX12_tenths_11 f_X12_7 (Mod.sg (by assumption)) rfl (Mod.r98 (by assumption)) ?_
  refine r_bipush dX12_tenths_14 bp_91 ?_
  refine r_iload_n dX12_tenths_16 rfl ?_
  refine r_ifB_eq (tgt := 24) dX12_tenths_17 (by decide) (fun c17 => absurd c17 (by decide)) (fun c17 => ?_)
  refine r_iload_n dX12_tenths_20 rfl ?_
  refine r_goto (tgt := 31) dX12_tenths_21 (by decide) ?_
  refine g_iast dX12_tenths_31 (Mod.s98 (by assumption)) rfl (by omega) (by omega) ?_
  refine JJ.to (h1 := (xW I (up w (2) (nI a)), R)) ?_ rfl rfl (by rw [xW_j (k := 2) (by omega) (by omega)])
  refine r_iload_n dX12_tenths_32 rfl ?_
  exact g_iret dX12_tenths_33 rfl rfl

set_option maxHeartbeats 4000000 in
set_option maxRecDepth 100000 in
theorem v_X12_tenths_f (X : mCx) (d : Nat) {S : mSh} {I : mI} {R : mR} {w : Nat → Int32} {a : Nat} (hm : Mod S R) (hx : MoX I w) (ha : a < 100) (h : ¬ (1 ≤ a ∧ a ≤ 20)) : CC X (d + 2) M_X12_tenths [.ref 97, .int (nI a)] S (I, R) (some (.int (bI false))) S (I, R) := by
  refine CC.of2 (L := [.ref 97, .int (nI a), .retAddr 0]) p_X12 (Nat.le_of_ble_eq_true rfl) rfl (mRok_b _) (List.prefix_refl S) ?_
  refine r_iload_n dX12_tenths_0 rfl ?_
  refine r_i2l dX12_tenths_1 rfl ?_
  refine r_lconst (v := lN 1) dX12_tenths_2 rfl ?_
  refine r_ldc2 dX12_tenths_3 c_X12_66 ?_
  refine r_S3 dX12_tenths_6 l_X12_62 k_X12_in s_X12_in (Nat.le_of_ble_eq_true rfl) (v_X12_in X _ ) (List.prefix_refl S) ?_
  refine g_top (congrArg bI (in_n (k := a) (a := 1) (b := 20) (by omega) (by decide) (by decide))) ?_
  refine g_top (congrArg bI (show _ = false by simp; omega)) ?_
  refine r_istore_n (L' := [_, _, _]) dX12_tenths_9 rfl rfl ?_
  refine r_aload_n dX12_tenths_10 rfl ?_
  refine g_getR dX12_tenths_11 f_X12_7 (Mod.sg (by assumption)) rfl (Mod.r98 (by assumption)) ?_
  refine r_bipush dX12_tenths_14 bp_91 ?_
  refine r_iload_n dX12_tenths_16 rfl ?_
  refine r_ifB_eq (tgt := 24) dX12_tenths_17 (by decide) (fun c17 => ?_) (fun c17 => absurd c17 (by decide))
  refine r_aload_n dX12_tenths_24 rfl ?_
  refine g_getR dX12_tenths_25 f_X12_7 (Mod.sg (by assumption)) rfl (Mod.r98 (by assumption)) ?_
  refine r_bipush dX12_tenths_28 bp_91 ?_
  refine g_iald dX12_tenths_30 (Mod.s98 (by assumption)) rfl (by omega) (by omega) rfl ?_
  refine g_iast dX12_tenths_31 (Mod.s98 (by assumption)) rfl (by omega) (by omega) ?_
  refine JJ.to (h1 := (I, R)) ?_ rfl rfl (by rw [sJ_same])
  refine r_iload_n dX12_tenths_32 rfl ?_
  exact g_iret dX12_tenths_33 rfl rfl

def letM (tx : Nat → Nat) (n k : Nat) : Int32 := if k < n then nI (tx k) else -1
def MoT (I : mI) (tx : Nat → Nat) (n : Nat) : Prop := I 97 8 = nI n ∧ n ≤ 200 ∧ ∀ k, k < n → I 102 k = nI (tx k) ∧ tx k < 128
set_option maxHeartbeats 4000000 in
set_option maxRecDepth 100000 in
theorem v_X12_letterAt (X : mCx) (d : Nat) {S : mSh} {I : mI} {R : mR} {tx : Nat → Nat} {n k : Nat} (hm : Mod S R) (ht : MoT I tx n) (hk : k < 2 ^ 31) : CC X (d + 1) M_X12_letterAt [.ref 97, .int (nI k)] S (I, R) (some (.int (letM tx n k))) S (I, R) := by
  have hn := ht.2.1
  refine CC.of2 (L := [.ref 97, .int (nI k)]) p_X12 (Nat.le_of_ble_eq_true rfl) rfl rfl (List.prefix_refl S) ?_
  refine r_iload_n dX12_letterAt_0 rfl ?_
  refine r_aload_n dX12_letterAt_1 rfl ?_
  refine g_getI dX12_letterAt_2 f_X12_82 (Mod.sg (by assumption)) rfl ht.1 ?_
  refine n_icmp_ge (tgt := 17) dX12_letterAt_5 (by decide) (by omega) (by omega) (fun c5 => ?_) (fun c5 => ?_)
  · skip
    refine r_iconst dX12_letterAt_17 ic_m1 ?_
    exact g_iret dX12_letterAt_18 (by unfold letM; first | rw [if_pos c5] | rw [if_neg (by omega)]) rfl
  · skip
    refine r_aload_n dX12_letterAt_8 rfl ?_
    refine g_getR dX12_letterAt_9 f_X12_22 (Mod.sg (by assumption)) rfl (Mod.r102 (by assumption)) ?_
    refine r_iload_n dX12_letterAt_12 rfl ?_
    refine g_iald dX12_letterAt_13 (Mod.s102 (by assumption)) rfl (by omega) (by omega) ((ht.2.2 k c5).1) ?_
    refine r_goto (tgt := 18) dX12_letterAt_14 (by decide) ?_
    exact g_iret dX12_letterAt_18 (by unfold letM; first | rw [if_pos c5] | rw [if_neg (by omega)]) rfl

