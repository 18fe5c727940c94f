/-! ===== the reference: what it writes ===== -/
def dWp (I : mI) (h : Nat) (s : Nat → Int32) (n : Nat) : mI := fun o b => if o = 99 ∧ h ≤ b ∧ b < h + n then s (b - h) else I o b
def dW (I : mI) (h : Nat) (s : Nat → Int32) : mI := dWp I h s 35
theorem dWp_0 (I : mI) (h : Nat) (s : Nat → Int32) : dWp I h s 0 = I := by
  funext o b
  unfold dWp
  rw [if_neg (by omega)]
theorem dWp_s (I : mI) (h : Nat) (s : Nat → Int32) (n : Nat) : sJ (dWp I h s n) 99 (h + n) (s n) = dWp I h s (n + 1) := by
  funext o b
  unfold sJ dWp
  by_cases h1 : o = 99 ∧ b = h + n
  · rw [if_pos h1, if_pos (by omega), h1.2, Nat.add_sub_cancel_left]
  · rw [if_neg h1]
    by_cases h2 : o = 99 ∧ h ≤ b ∧ b < h + n
    · rw [if_pos h2, if_pos (by omega)]
    · rw [if_neg h2, if_neg (by omega)]
theorem dWp_n {I : mI} {h n b : Nat} {s : Nat → Int32} (hb : b < h ∨ h + n ≤ b) : dWp I h s n 99 b = I 99 b := by
  unfold dWp
  rw [if_neg (by omega)]
theorem dW_o {I : mI} {h o : Nat} {s : Nat → Int32} (ho : o ≠ 99) : dW I h s o = I o := by
  funext b
  unfold dW dWp
  rw [if_neg (by omega)]
theorem dW_q (I : mI) {h k : Nat} (s : Nat → Int32) (hk : k < 35) : dW I h s 99 (h + k) = s k := by
  unfold dW dWp
  rw [if_pos (by omega), Nat.add_sub_cancel_left]
theorem dW_n {I : mI} {h b : Nat} {s : Nat → Int32} (hb : b < h ∨ h + 35 ≤ b) : dW I h s 99 b = I 99 b := dWp_n hb
theorem dW_j {I : mI} {h k e : Nat} {s : Nat → Int32} {v : Int32} (he : e = h + k) (hk : k < 35) : sJ (dW I h s) 99 e v = dW I h (up s k v) := by
  subst he
  funext o b
  unfold sJ dW dWp up
  by_cases h1 : o = 99 ∧ b = h + k
  · rw [if_pos h1, if_pos (by omega), if_pos (by omega)]
  · rw [if_neg h1]
    by_cases h2 : o = 99 ∧ h ≤ b ∧ b < h + 35
    · rw [if_pos h2, if_pos h2, if_neg (by omega)]
    · rw [if_neg h2, if_neg h2]
theorem dW_2 (I : mI) (h : Nat) (s t : Nat → Int32) : dW (dW I h s) h t = dW I h t := by
  funext o b
  unfold dW dWp
  split <;> rfl
theorem MoD.id {I : mI} {h hb : Nat} {s : Nat → Int32} (q : MoD I h s hb) : dW I h s = I := by
  funext o b
  unfold dW dWp
  split
  case isTrue g =>
    have e := q.1 (b - h) (by omega)
    rw [show h + (b - h) = b by omega] at e
    rw [g.1, e]
  case isFalse => rfl
theorem MoD.mk {I : mI} {h hb : Nat} {s : Nat → Int32} (h0 : s 0 = nI hb) (h1 : hb < 256) (h2 : h ≤ 385) : MoD (dW I h s) h s hb := ⟨fun k hk => dW_q I s hk, h0, h1, h2⟩
theorem MoD.ot {I : mI} {h k hb : Nat} {s t : Nat → Int32} (q : MoD I k t hb) (hd : k + 35 ≤ h ∨ h + 35 ≤ k) : MoD (dW I h s) k t hb := ⟨fun b hb1 => by rw [dW_n (by omega)]; exact q.1 b hb1, q.2⟩
theorem up_up {s : Nat → Int32} {j k : Nat} {x y : Int32} (h : j ≠ k) : up (up s j x) k y = up (up s k y) j x := by
  funext b
  unfold up
  by_cases h1 : b = j
  · rw [if_neg (by omega), if_pos h1, if_pos h1]
  · rw [if_neg h1, if_neg h1]
/-- all deeds one place down -/
def shF (I : mI) (n : Nat) : mI := fun o b => if o = 99 ∧ 105 ≤ b ∧ b < 105 + n then I 99 (b + 35) else I o b
theorem shF_0 (I : mI) : shF I 0 = I := by
  funext o b
  unfold shF
  rw [if_neg (by omega)]
theorem shF_s (I : mI) (n : Nat) : sJ (shF I n) 99 (105 + n) (I 99 (105 + n + 35)) = shF I (n + 1) := by
  funext o b
  unfold sJ shF
  by_cases h1 : o = 99 ∧ b = 105 + n
  · rw [if_pos h1, if_pos (by omega), h1.2]
  · rw [if_neg h1]
    by_cases h2 : o = 99 ∧ 105 ≤ b ∧ b < 105 + n
    · rw [if_pos h2, if_pos (by omega)]
    · rw [if_neg h2, if_neg (by omega)]
theorem shF_n {I : mI} {n b : Nat} (hb : b < 105 ∨ 105 + n ≤ b) : shF I n 99 b = I 99 b := by
  unfold shF
  rw [if_neg (by omega)]
theorem shF_q {I : mI} {n b : Nat} (h1 : 105 ≤ b) (h2 : b < 105 + n) : shF I n 99 b = I 99 (b + 35) := by
  unfold shF
  rw [if_pos ⟨rfl, h1, h2⟩]
theorem shF_o {I : mI} {n o : Nat} (ho : o ≠ 99) : shF I n o = I o := by
  funext b
  unfold shF
  rw [if_neg (fun q => ho q.1)]
set_option maxHeartbeats 4000000 in
set_option maxRecDepth 100000 in
theorem v_X12_copy (X : mCx) (d : Nat) {S : mSh} {I : mI} {R : mR} {s : Nat → Int32} {hb a c : Nat} (hm : Mod S R) (hd : MoD I a s hb) (hc : c ≤ 385) (hac : a + 35 ≤ c ∨ c + 35 ≤ a) : CC X (d + 1) M_X12_copy [.ref 97, .int (nI a), .int (nI c)] S (I, R) (none) S (dW I c s, R) := by
  have hh := hd.hh
  refine CC.of2 (L := [.ref 97, .int (nI a), .int (nI c), .retAddr 0]) p_X12 (Nat.le_of_ble_eq_true rfl) rfl trivial (List.prefix_refl S) ?_
  refine r_iconst dX12_copy_0 ic_0 ?_
  refine r_istore_n (L' := [_, _, _, _]) dX12_copy_1 rfl rfl ?_
  refine JJ.loop 35 (fun j => [.ref 97, .int (nI a), .int (nI c), .int (nI j)]) (fun j => (dWp I c s j, R)) (fun j => True) rfl (by rw [dWp_0]) trivial (fun hp => ?_) (fun j hj hp K => ?_)
  · skip
    refine r_iload_n dX12_copy_2 rfl ?_
    refine r_bipush dX12_copy_3 bp_35 ?_
    refine n_icmp_ge (tgt := 30) dX12_copy_5 (by decide) (by omega) (by omega) (fun c5 => ?_) (fun c5 => (by exfalso; omega))
    exact g_vret dX12_copy_30 rfl rfl
  · skip
    refine r_iload_n dX12_copy_2 rfl ?_
    refine r_bipush dX12_copy_3 bp_35 ?_
    refine n_icmp_ge (tgt := 30) dX12_copy_5 (by decide) (by omega) (by omega) (fun c5 => absurd c5 (by omega)) (fun c5 => ?_)
    refine r_aload_n dX12_copy_8 rfl ?_
    refine g_getR dX12_copy_9 f_X12_13 (Mod.sg (by assumption)) rfl (Mod.r99 (by assumption)) ?_
    refine r_iload_n dX12_copy_12 rfl ?_
    refine r_iload_n dX12_copy_13 rfl ?_
    refine n_iadd dX12_copy_14 ?_
    refine r_aload_n dX12_copy_15 rfl ?_
    refine g_getR dX12_copy_16 f_X12_13 (Mod.sg (by assumption)) rfl (Mod.r99 (by assumption)) ?_
    refine r_iload_n dX12_copy_19 rfl ?_
    refine r_iload_n dX12_copy_20 rfl ?_
    refine n_iadd dX12_copy_21 ?_
    refine g_iald dX12_copy_22 (Mod.s99 (by assumption)) rfl (by omega) (by omega) ((dWp_n (by omega)).trans (hd.1 j hj)) ?_
    refine g_iast dX12_copy_23 (Mod.s99 (by assumption)) rfl (by omega) (by omega) ?_
    refine r_iinc (L' := [_, _, _, _]) dX12_copy_24 rfl rfl (nI_inc _) rfl ?_
    refine r_goto (tgt := 2) dX12_copy_27 (by decide) ?_
    exact JJ.to (K trivial) rfl rfl (by rw [dWp_s])

set_option maxHeartbeats 4000000 in
set_option maxRecDepth 100000 in
theorem v_X12_minds_a (X : mCx) (d : Nat) {S : mSh} {I : mI} {R : mR} {s : Nat → Int32} {hb u : Nat} (hm : Mod S R) (hd : MoD I 0 s hb) (hu : I 97 2 = nI u) (h8 : u < 8) : CC X (d + 2) M_X12_minds [.ref 97] S (I, R) (none) S (sJ (dW I (105 + 35 * u) s) 97 2 (nI (u + 1)), R) := by
  refine CC.of2 (L := [.ref 97, .retAddr 0]) p_X12 (Nat.le_of_ble_eq_true rfl) rfl trivial (List.prefix_refl S) ?_
  refine r_aload_n dX12_minds_0 rfl ?_
  refine g_getI dX12_minds_1 f_X12_68 (Mod.sg (by assumption)) rfl hu ?_
  refine r_bipush dX12_minds_4 bp_8 ?_
  refine n_icmp_ne (tgt := 55) dX12_minds_6 (by decide) (by omega) (by omega) (fun c6 => ?_) (fun c6 => absurd c6 (by omega))
  refine r_aload_n dX12_minds_55 rfl ?_
  refine r_iconst dX12_minds_56 ic_0 ?_
  refine r_bipush dX12_minds_57 bp_105 ?_
  refine r_bipush dX12_minds_59 bp_35 ?_
  refine r_aload_n dX12_minds_61 rfl ?_
  refine g_getI dX12_minds_62 f_X12_68 (Mod.sg (by assumption)) rfl hu ?_
  refine n_imul dX12_minds_65 ?_
  refine n_iadd dX12_minds_66 ?_
  refine r_V2 dX12_minds_67 l_X12_147 k_X12_copy i_X12_copy (Mod.sg (by assumption)) ⟨_, rfl⟩ (Nat.le_of_ble_eq_true rfl) (v_X12_copy X _ (by first | assumption | omega) (by first | assumption | omega) (by first | assumption | omega) (by first | assumption | omega)) (List.prefix_refl S) ?_
  refine r_aload_n dX12_minds_70 rfl ?_
  refine r_dup dX12_minds_71 rfl ?_
  refine g_getI dX12_minds_72 f_X12_68 (Mod.sg (by assumption)) rfl (show _ = nI u by rw [dW_o (by decide)]; exact hu) ?_
  refine r_iconst dX12_minds_75 ic_1 ?_
  refine n_iadd dX12_minds_76 ?_
  refine g_putI dX12_minds_77 f_X12_68 (Mod.sg (by assumption)) rfl ?_
  exact g_vret dX12_minds_80 rfl rfl

set_option maxHeartbeats 4000000 in
set_option maxRecDepth 100000 in
theorem v_X12_minds_b (X : mCx) (d : Nat) {S : mSh} {I : mI} {R : mR} {s : Nat → Int32} {hb : Nat} (hm : Mod S R) (hd : MoD I 0 s hb) (hu : I 97 2 = nI 8) : CC X (d + 2) M_X12_minds [.ref 97] S (I, R) (none) S (sJ (dW (sJ (shF I 245) 97 2 (nI 7)) 350 s) 97 2 (nI 8), R) := by
  refine CC.of2 (L := [.ref 97, .retAddr 0]) p_X12 (Nat.le_of_ble_eq_true rfl) rfl trivial (List.prefix_refl S) ?_
  refine r_aload_n dX12_minds_0 rfl ?_
  refine g_getI dX12_minds_1 f_X12_68 (Mod.sg (by assumption)) rfl hu ?_
  refine r_bipush dX12_minds_4 bp_8 ?_
  refine n_icmp_ne (tgt := 55) dX12_minds_6 (by decide) (by omega) (by omega) (fun c6 => absurd rfl c6) (fun c6 => ?_)
  refine r_iconst dX12_minds_9 ic_0 ?_
  refine r_istore_n (L' := [_, _]) dX12_minds_10 rfl rfl ?_
  refine JJ.loop 245 (fun j => [.ref 97, .int (nI j)]) (fun j => (shF I j, R)) (fun j => True) rfl (by rw [shF_0]) trivial (fun hp => ?_) (fun j hj hp K => ?_)
  · skip
    refine r_iload_n dX12_minds_11 rfl ?_
    refine r_sipush dX12_minds_12 sp_245 ?_
    refine n_icmp_ge (tgt := 45) dX12_minds_15 (by decide) (by omega) (by omega) (fun c15 => ?_) (fun c15 => (by exfalso; omega))
    refine r_aload_n dX12_minds_45 rfl ?_
    refine r_dup dX12_minds_46 rfl ?_
    refine g_getI dX12_minds_47 f_X12_68 (Mod.sg (by assumption)) rfl (show _ = nI 8 by rw [shF_o (by decide)]; exact hu) ?_
    refine r_iconst dX12_minds_50 ic_1 ?_
    refine n_isub dX12_minds_51 (by omega) ?_
    refine g_putI dX12_minds_52 f_X12_68 (Mod.sg (by assumption)) rfl ?_
    have hd2 : MoD (sJ (shF I 245) 97 2 (nI 7)) 0 s hb := ⟨fun k hk => by rw [sJ_o (by decide), shF_n (by omega)]; exact hd.1 k hk, hd.2⟩
    refine r_aload_n dX12_minds_55 rfl ?_
    refine r_iconst dX12_minds_56 ic_0 ?_
    refine r_bipush dX12_minds_57 bp_105 ?_
    refine r_bipush dX12_minds_59 bp_35 ?_
    refine r_aload_n dX12_minds_61 rfl ?_
    refine g_getI dX12_minds_62 f_X12_68 (Mod.sg (by assumption)) rfl (sJ_eq _ _ _ _) ?_
    refine n_imul dX12_minds_65 ?_
    refine n_iadd dX12_minds_66 ?_
    refine r_V2 dX12_minds_67 l_X12_147 k_X12_copy i_X12_copy (Mod.sg (by assumption)) ⟨_, rfl⟩ (Nat.le_of_ble_eq_true rfl) (v_X12_copy X _ (by first | assumption | omega) (by first | assumption | omega) (by first | assumption | omega) (by first | assumption | omega)) (List.prefix_refl S) ?_
    refine r_aload_n dX12_minds_70 rfl ?_
    refine r_dup dX12_minds_71 rfl ?_
    refine g_getI dX12_minds_72 f_X12_68 (Mod.sg (by assumption)) rfl (show _ = nI 7 by rw [dW_o (by decide)]; exact sJ_eq _ _ _ _) ?_
    refine r_iconst dX12_minds_75 ic_1 ?_
    refine n_iadd dX12_minds_76 ?_
    refine g_putI dX12_minds_77 f_X12_68 (Mod.sg (by assumption)) rfl ?_
    exact g_vret dX12_minds_80 rfl rfl
  · skip
    refine r_iload_n dX12_minds_11 rfl ?_
    refine r_sipush dX12_minds_12 sp_245 ?_
    refine n_icmp_ge (tgt := 45) dX12_minds_15 (by decide) (by omega) (by omega) (fun c15 => absurd c15 (by omega)) (fun c15 => ?_)
    refine r_aload_n dX12_minds_18 rfl ?_
    refine g_getR dX12_minds_19 f_X12_13 (Mod.sg (by assumption)) rfl (Mod.r99 (by assumption)) ?_
    refine r_bipush dX12_minds_22 bp_105 ?_
    refine r_iload_n dX12_minds_24 rfl ?_
    refine n_iadd dX12_minds_25 ?_
    refine r_aload_n dX12_minds_26 rfl ?_
    refine g_getR dX12_minds_27 f_X12_13 (Mod.sg (by assumption)) rfl (Mod.r99 (by assumption)) ?_
    refine r_bipush dX12_minds_30 bp_105 ?_
    refine r_iload_n dX12_minds_32 rfl ?_
    refine n_iadd dX12_minds_33 ?_
    refine r_bipush dX12_minds_34 bp_35 ?_
    refine n_iadd dX12_minds_36 ?_
    refine g_iald dX12_minds_37 (Mod.s99 (by assumption)) rfl (by omega) (by omega) (shF_n (by omega)) ?_
    refine g_iast dX12_minds_38 (Mod.s99 (by assumption)) rfl (by omega) (by omega) ?_
    refine r_iinc (L' := [_, _]) dX12_minds_39 rfl rfl (nI_inc _) rfl ?_
    refine r_goto (tgt := 11) dX12_minds_42 (by decide) ?_
    exact JJ.to (K trivial) rfl rfl (by rw [shF_s])

set_option maxHeartbeats 4000000 in
set_option maxRecDepth 100000 in
theorem v_X12_goes (X : mCx) (d : Nat) {S : mSh} {I : mI} {R : mR} {w s : Nat → Int32} {N G hb h : Nat} {i : Nat} {x : Int32} (hm : Mod S R) (hw : MoW I w N G) (hd : MoD I h s hb) (hi : i < N) : CC X (d + 1) M_X12_goes [.ref 97, .int (nI h), .int (nI i), .int x] S (I, R) (none) S (dW I h (sGo (payS s i x) G hb i x), R) := by
  have hN6 := hw.N6
  have hG8 := hw.G8
  have hh := hd.hh
  have h256 := hd.b256
  refine CC.of2 (L := [.ref 97, .int (nI h), .int (nI i), .int x, .retAddr 0]) p_X12 (Nat.le_of_ble_eq_true rfl) rfl trivial (List.prefix_refl S) ?_
  refine JJ.to (h1 := (dW I h s, R)) ?_ rfl rfl (by rw [hd.id])
  refine r_aload_n dX12_goes_0 rfl ?_
  refine g_getR dX12_goes_1 f_X12_13 (Mod.sg (by assumption)) rfl (Mod.r99 (by assumption)) ?_
  refine r_iload_n dX12_goes_4 rfl ?_
  refine r_iconst dX12_goes_5 ic_1 ?_
  refine n_iadd dX12_goes_6 ?_
  refine r_iload_n dX12_goes_7 rfl ?_
  refine n_iadd dX12_goes_8 ?_
  refine r_dup2 dX12_goes_9 rfl rfl ?_
  refine g_iald dX12_goes_10 (Mod.s99 (by assumption)) rfl (by omega) (by omega) ((congrArg (dW I h s 99) (show _ = h + (1 + i) by omega)).trans ((dW_q I s (by omega)).trans (show _ = s (1 + i) by first | rfl | (simp only [payS, up]; (repeat rw [if_neg (by omega)]); done) | (simp only [payS, up]; (repeat rw [if_neg (by omega)]); exact hd.2.1)))) ?_
  refine r_iload_n dX12_goes_11 rfl ?_
  refine r_isub dX12_goes_12 ?_
  refine g_iast dX12_goes_13 (Mod.s99 (by assumption)) rfl (by omega) (by omega) ?_
  refine JJ.to (h1 := (dW I h (up s (1 + i) (s (1 + i) - x)), R)) ?_ rfl rfl (by rw [dW_j (k := 1 + i) (by omega) (by omega)])
  refine r_aload_n dX12_goes_14 rfl ?_
  refine g_getR dX12_goes_15 f_X12_13 (Mod.sg (by assumption)) rfl (Mod.r99 (by assumption)) ?_
  refine r_iload_n dX12_goes_18 rfl ?_
  refine r_bipush dX12_goes_19 bp_7 ?_
  refine n_iadd dX12_goes_21 ?_
  refine r_iload_n dX12_goes_22 rfl ?_
  refine n_iadd dX12_goes_23 ?_
  refine r_dup2 dX12_goes_24 rfl rfl ?_
  refine g_iald dX12_goes_25 (Mod.s99 (by assumption)) rfl (by omega) (by omega) ((congrArg (dW I h (up s (1 + i) (s (1 + i) - x)) 99) (show _ = h + (7 + i) by omega)).trans ((dW_q I (up s (1 + i) (s (1 + i) - x)) (by omega)).trans (show _ = s (7 + i) by first | rfl | (simp only [payS, up]; (repeat rw [if_neg (by omega)]); done) | (simp only [payS, up]; (repeat rw [if_neg (by omega)]); exact hd.2.1)))) ?_
  refine r_iload_n dX12_goes_26 rfl ?_
  refine r_iadd dX12_goes_27 ?_
  refine g_iast dX12_goes_28 (Mod.s99 (by assumption)) rfl (by omega) (by omega) ?_
  refine JJ.to (h1 := (dW I h (payS s i x), R)) ?_ rfl rfl (by rw [dW_j (k := 7 + i) (by omega) (by omega)]; rfl)
  refine r_aload_n dX12_goes_29 rfl ?_
  refine g_getR dX12_goes_30 f_X12_13 (Mod.sg (by assumption)) rfl (Mod.r99 (by assumption)) ?_
  refine r_iload_n dX12_goes_33 rfl ?_
  refine r_bipush dX12_goes_34 bp_13 ?_
  refine n_iadd dX12_goes_36 ?_
  refine r_iload_n dX12_goes_37 rfl ?_
  refine n_iadd dX12_goes_38 ?_
  refine r_iload_n dX12_goes_39 rfl ?_
  refine g_iast dX12_goes_40 (Mod.s99 (by assumption)) rfl (by omega) (by omega) ?_
  refine JJ.to (h1 := (dW I h (up (payS s i x) (13 + i) x), R)) ?_ rfl rfl (by rw [dW_j (k := 13 + i) (by omega) (by omega)])
  refine r_aload_n dX12_goes_41 rfl ?_
  refine g_getR dX12_goes_42 f_X12_13 (Mod.sg (by assumption)) rfl (Mod.r99 (by assumption)) ?_
  refine r_iload_n dX12_goes_45 rfl ?_
  refine r_iconst dX12_goes_46 ic_0 ?_
  refine n_iadd dX12_goes_47 ?_
  refine r_dup2 dX12_goes_48 rfl rfl ?_
  refine g_iald dX12_goes_49 (Mod.s99 (by assumption)) rfl (by omega) (by omega) ((congrArg (dW I h (up (payS s i x) (13 + i) x) 99) (show _ = h + (0) by omega)).trans ((dW_q I (up (payS s i x) (13 + i) x) (by omega)).trans (show _ = nI hb by first | rfl | (simp only [payS, up]; (repeat rw [if_neg (by omega)]); done) | (simp only [payS, up]; (repeat rw [if_neg (by omega)]); exact hd.2.1)))) ?_
  refine r_iconst dX12_goes_50 ic_1 ?_
  refine r_iload_n dX12_goes_51 rfl ?_
  refine r_ishl dX12_goes_52 ?_
  refine g_top (shl1 (by omega)) ?_
  refine r_iconst dX12_goes_53 ic_m1 ?_
  refine r_ixor dX12_goes_54 ?_
  refine r_iand dX12_goes_55 ?_
  refine g_top (clr_eq (by omega) (by omega)) ?_
  refine g_iast dX12_goes_56 (Mod.s99 (by assumption)) rfl (by omega) (by omega) ?_
  refine JJ.to (h1 := (dW I h (up (up (payS s i x) 0 (nI (clr hb i))) (13 + i) x), R)) ?_ rfl rfl (by rw [dW_j (k := 0) (by omega) (by omega), up_up (by omega)])
  refine r_iconst dX12_goes_57 ic_0 ?_
  refine r_istore (L' := [_, _, _, _, _]) dX12_goes_58 rfl rfl ?_
  refine JJ.loop G (fun j => [.ref 97, .int (nI h), .int (nI i), .int x, .int (nI j)]) (fun j => (dW I h (sO (up (up (payS s i x) 0 (nI (clr hb i))) (13 + i) x) i j), R)) (fun j => True) rfl (by rw [sO_0]) trivial (fun hp => ?_) (fun j hj hp K => ?_)
  · have hw := hw.fr (I1 := dW I h (sO (up (up (payS s i x) 0 (nI (clr hb i))) (13 + i) x) i G)) (dW_o (by decide))
    refine r_iload dX12_goes_60 rfl ?_
    refine r_aload_n dX12_goes_62 rfl ?_
    refine g_getR dX12_goes_63 f_X12_7 (Mod.sg (by assumption)) rfl (Mod.r98 (by assumption)) ?_
    refine r_iconst dX12_goes_66 ic_1 ?_
    refine g_iald dX12_goes_67 (Mod.s98 (by assumption)) rfl (by omega) (by omega) hw.n1 ?_
    refine n_icmp_ge (tgt := 122) dX12_goes_68 (by decide) (by omega) (by omega) (fun c68 => ?_) (fun c68 => absurd c68 (by omega))
    exact g_vret dX12_goes_122 rfl rfl
  · have hw := hw.fr (I1 := dW I h (sO (up (up (payS s i x) 0 (nI (clr hb i))) (13 + i) x) i j)) (dW_o (by decide))
    refine r_iload dX12_goes_60 rfl ?_
    refine r_aload_n dX12_goes_62 rfl ?_
    refine g_getR dX12_goes_63 f_X12_7 (Mod.sg (by assumption)) rfl (Mod.r98 (by assumption)) ?_
    refine r_iconst dX12_goes_66 ic_1 ?_
    refine g_iald dX12_goes_67 (Mod.s98 (by assumption)) rfl (by omega) (by omega) hw.n1 ?_
    refine n_icmp_ge (tgt := 122) dX12_goes_68 (by decide) (by omega) (by omega) (fun c68 => absurd c68 (by omega)) (fun c68 => ?_)
    refine r_aload_n dX12_goes_71 rfl ?_
    refine g_getR dX12_goes_72 f_X12_13 (Mod.sg (by assumption)) rfl (Mod.r99 (by assumption)) ?_
    refine r_iload_n dX12_goes_75 rfl ?_
    refine r_bipush dX12_goes_76 bp_19 ?_
    refine n_iadd dX12_goes_78 ?_
    refine r_iload dX12_goes_79 rfl ?_
    refine n_iadd dX12_goes_81 ?_
    refine g_iald dX12_goes_82 (Mod.s99 (by assumption)) rfl (by omega) (by omega) ((congrArg (dW I h (sO (up (up (payS s i x) 0 (nI (clr hb i))) (13 + i) x) i j) 99) (show _ = h + (19 + j) by omega)).trans (dW_q I (sO (up (up (payS s i x) 0 (nI (clr hb i))) (13 + i) x) i j) (by omega))) ?_
    refine r_iload_n dX12_goes_83 rfl ?_
    refine r_icmp_ne (tgt := 116) dX12_goes_84 (by decide) (fun c84 => ?_) (fun c84 => ?_)
    · have hly : ly (sO (up (up (payS s i x) 0 (nI (clr hb i))) (13 + i) x) i j) j i = false := (by simp only [ly, Bool.and_eq_false_iff, decide_eq_false_iff_not]; exact Or.inl c84); rw [sO_ly (by omega)] at hly
      refine r_iinc (L' := [_, _, _, _, _]) dX12_goes_116 rfl rfl (nI_inc _) rfl ?_
      refine r_goto (tgt := 60) dX12_goes_119 (by decide) ?_
      first | exact JJ.to (K trivial) rfl rfl (by rw [dW_j (k := 19 + j) (by omega) (by omega), sO_st (by omega) hly]) | exact JJ.to (K trivial) rfl rfl (by rw [sO_sf hly])
    · skip
      refine r_aload_n dX12_goes_87 rfl ?_
      refine g_getR dX12_goes_88 f_X12_13 (Mod.sg (by assumption)) rfl (Mod.r99 (by assumption)) ?_
      refine r_iload_n dX12_goes_91 rfl ?_
      refine r_bipush dX12_goes_92 bp_27 ?_
      refine n_iadd dX12_goes_94 ?_
      refine r_iload dX12_goes_95 rfl ?_
      refine n_iadd dX12_goes_97 ?_
      refine g_iald dX12_goes_98 (Mod.s99 (by assumption)) rfl (by omega) (by omega) ((congrArg (dW I h (sO (up (up (payS s i x) 0 (nI (clr hb i))) (13 + i) x) i j) 99) (show _ = h + (27 + j) by omega)).trans (dW_q I (sO (up (up (payS s i x) 0 (nI (clr hb i))) (13 + i) x) i j) (by omega))) ?_
      refine r_if_ne (tgt := 116) dX12_goes_99 (by decide) (fun c99 => ?_) (fun c99 => ?_)
      · have hly : ly (sO (up (up (payS s i x) 0 (nI (clr hb i))) (13 + i) x) i j) j i = false := (by simp only [ly, Bool.and_eq_false_iff, decide_eq_false_iff_not]; exact Or.inr c99); rw [sO_ly (by omega)] at hly
        refine r_iinc (L' := [_, _, _, _, _]) dX12_goes_116 rfl rfl (nI_inc _) rfl ?_
        refine r_goto (tgt := 60) dX12_goes_119 (by decide) ?_
        first | exact JJ.to (K trivial) rfl rfl (by rw [dW_j (k := 19 + j) (by omega) (by omega), sO_st (by omega) hly]) | exact JJ.to (K trivial) rfl rfl (by rw [sO_sf hly])
      · have hly : ly (sO (up (up (payS s i x) 0 (nI (clr hb i))) (13 + i) x) i j) j i = true := (by simp only [ly, Bool.and_eq_true, decide_eq_true_eq]; exact ⟨c84, c99⟩); rw [sO_ly (by omega)] at hly
        refine r_aload_n dX12_goes_102 rfl ?_
        refine g_getR dX12_goes_103 f_X12_13 (Mod.sg (by assumption)) rfl (Mod.r99 (by assumption)) ?_
        refine r_iload_n dX12_goes_106 rfl ?_
        refine r_bipush dX12_goes_107 bp_19 ?_
        refine n_iadd dX12_goes_109 ?_
        refine r_iload dX12_goes_110 rfl ?_
        refine n_iadd dX12_goes_112 ?_
        refine r_bipush dX12_goes_113 bp_m4 ?_
        refine g_iast dX12_goes_115 (Mod.s99 (by assumption)) rfl (by omega) (by omega) ?_
        refine r_iinc (L' := [_, _, _, _, _]) dX12_goes_116 rfl rfl (nI_inc _) rfl ?_
        refine r_goto (tgt := 60) dX12_goes_119 (by decide) ?_
        first | exact JJ.to (K trivial) rfl rfl (by rw [dW_j (k := 19 + j) (by omega) (by omega), sO_st (by omega) hly]) | exact JJ.to (K trivial) rfl rfl (by rw [sO_sf hly])

set_option maxHeartbeats 4000000 in
set_option maxRecDepth 100000 in
theorem v_X12_returns (X : mCx) (d : Nat) {S : mSh} {I : mI} {R : mR} {w s : Nat → Int32} {N G hb h : Nat} {i : Nat} {x : Int32} (hm : Mod S R) (hw : MoW I w N G) (hd : MoD I h s hb) (hi : i < N) : CC X (d + 1) M_X12_returns [.ref 97, .int (nI h), .int (nI i), .int x] S (I, R) (none) S (dW I h (up (payS s i x) 0 (nI (hb ||| 2 ^ i))), R) := by
  have hN6 := hw.N6
  have hG8 := hw.G8
  have hh := hd.hh
  have h256 := hd.b256
  refine CC.of2 (L := [.ref 97, .int (nI h), .int (nI i), .int x]) p_X12 (Nat.le_of_ble_eq_true rfl) rfl trivial (List.prefix_refl S) ?_
  refine JJ.to (h1 := (dW I h s, R)) ?_ rfl rfl (by rw [hd.id])
  refine r_aload_n dX12_returns_0 rfl ?_
  refine g_getR dX12_returns_1 f_X12_13 (Mod.sg (by assumption)) rfl (Mod.r99 (by assumption)) ?_
  refine r_iload_n dX12_returns_4 rfl ?_
  refine r_iconst dX12_returns_5 ic_1 ?_
  refine n_iadd dX12_returns_6 ?_
  refine r_iload_n dX12_returns_7 rfl ?_
  refine n_iadd dX12_returns_8 ?_
  refine r_dup2 dX12_returns_9 rfl rfl ?_
  refine g_iald dX12_returns_10 (Mod.s99 (by assumption)) rfl (by omega) (by omega) ((congrArg (dW I h s 99) (show _ = h + (1 + i) by omega)).trans ((dW_q I s (by omega)).trans (show _ = s (1 + i) by first | rfl | (simp only [payS, up]; (repeat rw [if_neg (by omega)]); done) | (simp only [payS, up]; (repeat rw [if_neg (by omega)]); exact hd.2.1)))) ?_
  refine r_iload_n dX12_returns_11 rfl ?_
  refine r_isub dX12_returns_12 ?_
  refine g_iast dX12_returns_13 (Mod.s99 (by assumption)) rfl (by omega) (by omega) ?_
  refine JJ.to (h1 := (dW I h (up s (1 + i) (s (1 + i) - x)), R)) ?_ rfl rfl (by rw [dW_j (k := 1 + i) (by omega) (by omega)])
  refine r_aload_n dX12_returns_14 rfl ?_
  refine g_getR dX12_returns_15 f_X12_13 (Mod.sg (by assumption)) rfl (Mod.r99 (by assumption)) ?_
  refine r_iload_n dX12_returns_18 rfl ?_
  refine r_bipush dX12_returns_19 bp_7 ?_
  refine n_iadd dX12_returns_21 ?_
  refine r_iload_n dX12_returns_22 rfl ?_
  refine n_iadd dX12_returns_23 ?_
  refine r_dup2 dX12_returns_24 rfl rfl ?_
  refine g_iald dX12_returns_25 (Mod.s99 (by assumption)) rfl (by omega) (by omega) ((congrArg (dW I h (up s (1 + i) (s (1 + i) - x)) 99) (show _ = h + (7 + i) by omega)).trans ((dW_q I (up s (1 + i) (s (1 + i) - x)) (by omega)).trans (show _ = s (7 + i) by first | rfl | (simp only [payS, up]; (repeat rw [if_neg (by omega)]); done) | (simp only [payS, up]; (repeat rw [if_neg (by omega)]); exact hd.2.1)))) ?_
  refine r_iload_n dX12_returns_26 rfl ?_
  refine r_iadd dX12_returns_27 ?_
  refine g_iast dX12_returns_28 (Mod.s99 (by assumption)) rfl (by omega) (by omega) ?_
  refine JJ.to (h1 := (dW I h (payS s i x), R)) ?_ rfl rfl (by rw [dW_j (k := 7 + i) (by omega) (by omega)]; rfl)
  refine r_aload_n dX12_returns_29 rfl ?_
  refine g_getR dX12_returns_30 f_X12_13 (Mod.sg (by assumption)) rfl (Mod.r99 (by assumption)) ?_
  refine r_iload_n dX12_returns_33 rfl ?_
  refine r_iconst dX12_returns_34 ic_0 ?_
  refine n_iadd dX12_returns_35 ?_
  refine r_dup2 dX12_returns_36 rfl rfl ?_
  refine g_iald dX12_returns_37 (Mod.s99 (by assumption)) rfl (by omega) (by omega) ((congrArg (dW I h (payS s i x) 99) (show _ = h + (0) by omega)).trans ((dW_q I (payS s i x) (by omega)).trans (show _ = nI hb by first | rfl | (simp only [payS, up]; (repeat rw [if_neg (by omega)]); done) | (simp only [payS, up]; (repeat rw [if_neg (by omega)]); exact hd.2.1)))) ?_
  refine r_iconst dX12_returns_38 ic_1 ?_
  refine r_iload_n dX12_returns_39 rfl ?_
  refine r_ishl dX12_returns_40 ?_
  refine g_top (shl1 (by omega)) ?_
  refine r_ior dX12_returns_41 ?_
  refine g_top (nI_or _ _) ?_
  refine g_iast dX12_returns_42 (Mod.s99 (by assumption)) rfl (by omega) (by omega) ?_
  refine JJ.to (h1 := (dW I h (up (payS s i x) 0 (nI (hb ||| 2 ^ i))), R)) ?_ rfl rfl (by rw [dW_j (k := 0) (by omega) (by omega)])
  exact g_vret dX12_returns_43 rfl rfl

