/-! ===== the reference lays ===== -/
def wW (I : mI) (w : Nat → Int32) (n : Nat) : mI := fun o b => if o = 98 ∧ b < n then w b else I o b
theorem wW_0 (I : mI) (w : Nat → Int32) : wW I w 0 = I := by
  funext o b
  unfold wW
  rw [if_neg (by omega)]
theorem wW_s (I : mI) (w : Nat → Int32) (n : Nat) : sJ (wW I w n) 98 n (w n) = wW I w (n + 1) := by
  funext o b
  unfold sJ wW
  by_cases h1 : o = 98 ∧ b = n
  · rw [if_pos h1, if_pos (by omega), h1.2]
  · rw [if_neg h1]
    by_cases h2 : o = 98 ∧ b < n
    · rw [if_pos h2, if_pos (by omega)]
    · rw [if_neg h2, if_neg (by omega)]
theorem wW_o {I : mI} {w : Nat → Int32} {n o : Nat} (h : o ≠ 98) : wW I w n o = I o := by
  funext b
  unfold wW
  rw [if_neg (fun q => h q.1)]
theorem wW_q (I : mI) (w : Nat → Int32) {n b : Nat} (h : b < n) : wW I w n 98 b = w b := by
  unfold wW
  rw [if_pos ⟨rfl, h⟩]
theorem wW_n {I : mI} {w : Nat → Int32} {n b : Nat} (h : n ≤ b) : wW I w n 98 b = I 98 b := by
  unfold wW
  rw [if_neg (by omega)]
def sBg (w : Nat → Int32) (N i g : Nat) : Nat → Int32 := fun k => if k = 0 then nI (2 ^ N - 1) else if 1 ≤ k ∧ k < 1 + i then w (8 + k) else if 19 ≤ k ∧ k < 19 + g then w (10 + k) else 0
theorem sBg_f (w : Nat → Int32) (N G : Nat) : sBg w N N G = sBeg w N G := rfl
theorem sBg_0 (w : Nat → Int32) (N : Nat) : up (fun _ => nI 0) 0 (nI (2 ^ N - 1)) = sBg w N 0 0 := by
  funext k
  unfold up sBg
  by_cases h : k = 0
  · rw [if_pos h, if_pos h]
  · rw [if_neg h, if_neg h, if_neg (by omega), if_neg (by omega)]; rfl
theorem sBg_i (w : Nat → Int32) (N i : Nat) : up (sBg w N i 0) (1 + i) (w (9 + i)) = sBg w N (i + 1) 0 := by
  funext k
  unfold up sBg
  by_cases h : k = 1 + i
  · subst h
    rw [if_pos rfl, if_neg (by omega), if_pos (by omega), show 8 + (1 + i) = 9 + i by omega]
  · rw [if_neg h]
    by_cases h0 : k = 0
    · rw [if_pos h0, if_pos h0]
    · rw [if_neg h0, if_neg h0]
      by_cases h1 : 1 ≤ k ∧ k < 1 + i
      · rw [if_pos h1, if_pos (by omega)]
      · rw [if_neg h1, if_neg (show ¬ (1 ≤ k ∧ k < 1 + (i + 1)) by omega)]
theorem sBg_g {w : Nat → Int32} {N i g : Nat} (hi : i ≤ 6) : up (sBg w N i g) (19 + g) (w (29 + g)) = sBg w N i (g + 1) := by
  funext k
  unfold up sBg
  by_cases h : k = 19 + g
  · subst h
    rw [if_pos rfl, if_neg (by omega), if_neg (by omega), if_pos (by omega), show 10 + (19 + g) = 29 + g by omega]
  · rw [if_neg h]
    by_cases h0 : k = 0
    · rw [if_pos h0, if_pos h0]
    · rw [if_neg h0, if_neg h0]
      by_cases h1 : 1 ≤ k ∧ k < 1 + i
      · rw [if_pos h1, if_pos h1]
      · rw [if_neg h1, if_neg h1]
        by_cases h2 : 19 ≤ k ∧ k < 19 + g
        · rw [if_pos h2, if_pos (by omega)]
        · rw [if_neg h2, if_neg (by omega)]
/-- all that laying writes -/
def coI (I : mI) (w : Nat → Int32) (N G : Nat) : mI := sJ (sJ (sJ (dW (wW I w 89) 0 (sBeg w N G)) 97 2 (nI 0)) 97 3 (nI 0)) 97 4 (nI 0)
set_option maxHeartbeats 4000000 in
set_option maxRecDepth 100000 in
theorem v_X12_comes (X : mCx) (d : Nat) {S : mSh} {I : mI} {R : mR} {w : Nat → Int32} {N G : Nat} (hm : Mod S R) (hx : MoX I w) (hN : w 0 = nI N) (hG : w 1 = nI G) (h6 : N ≤ 6) (h8 : G ≤ 8)  : CC X (d + 1) M_X12_comes [.ref 97] S (I, R) (none) S (coI I w N G, R) := by
  have hp2 : 1 ≤ 2 ^ N := Nat.one_le_two_pow
  have hp3 := p2_lt (j := N) (by omega)
  refine CC.of2 (L := [.ref 97, .retAddr 0]) p_X12 (Nat.le_of_ble_eq_true rfl) rfl trivial (List.prefix_refl S) ?_
  refine r_iconst dX12_comes_0 ic_0 ?_
  refine r_istore_n (L' := [_, _]) dX12_comes_1 rfl rfl ?_
  refine JJ.loop 89 (fun j => [.ref 97, .int (nI j)]) (fun j => (wW I w j, R)) (fun j => True) rfl (by rw [wW_0]) trivial (fun hp => ?_) (fun j hj hp K => ?_)
  · skip
    refine r_iload_n dX12_comes_2 rfl ?_
    refine r_bipush dX12_comes_3 bp_89 ?_
    refine n_icmp_ge (tgt := 29) dX12_comes_5 (by decide) (by omega) (by omega) (fun c5 => ?_) (fun c5 => (by exfalso; omega))
    refine r_iconst dX12_comes_29 ic_0 ?_
    refine r_istore_n (L' := [_, _]) dX12_comes_30 rfl rfl ?_
    refine JJ.loop 35 (fun j => [.ref 97, .int (nI j)]) (fun j => (dWp (wW I w 89) 0 (fun _ => nI 0) j, R)) (fun j => True) rfl (by rw [dWp_0]) trivial (fun hp => ?_) (fun j hj hp K => ?_)
    · skip
      refine r_iload_n dX12_comes_31 rfl ?_
      refine r_bipush dX12_comes_32 bp_35 ?_
      refine n_icmp_ge (tgt := 50) dX12_comes_34 (by decide) (by omega) (by omega) (fun c34 => ?_) (fun c34 => (by exfalso; omega))
      have hw2 : MoW (dW (wW I w 89) 0 (fun _ => nI 0)) w N G := MoW.dW ⟨fun k hk => wW_q I w hk, hN, hG, h6, h8⟩
      refine JJ.to (h1 := (dW (wW I w 89) 0 (fun _ => nI 0), R)) ?_ rfl rfl rfl
      refine r_aload_n dX12_comes_50 rfl ?_
      refine g_getR dX12_comes_51 f_X12_13 (Mod.sg (by assumption)) rfl (Mod.r99 (by assumption)) ?_
      refine r_iconst dX12_comes_54 ic_0 ?_
      refine r_iconst dX12_comes_55 ic_1 ?_
      refine r_aload_n dX12_comes_56 rfl ?_
      refine g_getR dX12_comes_57 f_X12_7 (Mod.sg (by assumption)) rfl (Mod.r98 (by assumption)) ?_
      refine r_iconst dX12_comes_60 ic_0 ?_
      refine g_iald dX12_comes_61 (Mod.s98 (by assumption)) rfl (by omega) (by omega) (hw2.n0) ?_
      refine r_ishl dX12_comes_62 ?_
      refine g_top (shl1 (by omega)) ?_
      refine r_iconst dX12_comes_63 ic_1 ?_
      refine n_isub dX12_comes_64 (by omega) ?_
      refine g_iast dX12_comes_65 (Mod.s99 (by assumption)) rfl (by omega) (by omega) ?_
      refine JJ.to (h1 := (dW (wW I w 89) 0 (sBg w N 0 0), R)) ?_ rfl rfl (by rw [dW_j (k := 0) (by omega) (by omega), sBg_0])
      refine r_iconst dX12_comes_66 ic_0 ?_
      refine r_istore_n (L' := [_, _]) dX12_comes_67 rfl rfl ?_
      refine JJ.loop N (fun j => [.ref 97, .int (nI j)]) (fun j => (dW (wW I w 89) 0 (sBg w N j 0), R)) (fun j => True) rfl rfl trivial (fun hp => ?_) (fun j hj hp K => ?_)
      · have hw2 : MoW (dW (wW I w 89) 0 (sBg w N N 0)) w N G := MoW.dW ⟨fun k hk => wW_q I w hk, hN, hG, h6, h8⟩
        refine r_iload_n dX12_comes_68 rfl ?_
        refine r_aload_n dX12_comes_69 rfl ?_
        refine g_getR dX12_comes_70 f_X12_7 (Mod.sg (by assumption)) rfl (Mod.r98 (by assumption)) ?_
        refine r_iconst dX12_comes_73 ic_0 ?_
        refine g_iald dX12_comes_74 (Mod.s98 (by assumption)) rfl (by omega) (by omega) (hw2.n0) ?_
        refine n_icmp_ge (tgt := 101) dX12_comes_75 (by decide) (by omega) (by omega) (fun c75 => ?_) (fun c75 => absurd c75 (by omega))
        refine r_iconst dX12_comes_101 ic_0 ?_
        refine r_istore_n (L' := [_, _]) dX12_comes_102 rfl rfl ?_
        refine JJ.loop G (fun j => [.ref 97, .int (nI j)]) (fun j => (dW (wW I w 89) 0 (sBg w N N j), R)) (fun j => True) rfl rfl trivial (fun hp => ?_) (fun j hj hp K => ?_)
        · have hw2 : MoW (dW (wW I w 89) 0 (sBg w N N G)) w N G := MoW.dW ⟨fun k hk => wW_q I w hk, hN, hG, h6, h8⟩
          refine r_iload_n dX12_comes_103 rfl ?_
          refine r_aload_n dX12_comes_104 rfl ?_
          refine g_getR dX12_comes_105 f_X12_7 (Mod.sg (by assumption)) rfl (Mod.r98 (by assumption)) ?_
          refine r_iconst dX12_comes_108 ic_1 ?_
          refine g_iald dX12_comes_109 (Mod.s98 (by assumption)) rfl (by omega) (by omega) (hw2.n1) ?_
          refine n_icmp_ge (tgt := 137) dX12_comes_110 (by decide) (by omega) (by omega) (fun c110 => ?_) (fun c110 => absurd c110 (by omega))
          refine r_aload_n dX12_comes_137 rfl ?_
          refine r_iconst dX12_comes_138 ic_0 ?_
          refine g_putI dX12_comes_139 f_X12_68 (Mod.sg (by assumption)) rfl ?_
          refine r_aload_n dX12_comes_142 rfl ?_
          refine r_iconst dX12_comes_143 ic_0 ?_
          refine g_putI dX12_comes_144 f_X12_72 (Mod.sg (by assumption)) rfl ?_
          refine r_aload_n dX12_comes_147 rfl ?_
          refine r_iconst dX12_comes_148 ic_0 ?_
          refine g_putI dX12_comes_149 f_X12_75 (Mod.sg (by assumption)) rfl ?_
          exact g_vret dX12_comes_152 rfl rfl
        · have hw2 : MoW (dW (wW I w 89) 0 (sBg w N N j)) w N G := MoW.dW ⟨fun k hk => wW_q I w hk, hN, hG, h6, h8⟩
          refine r_iload_n dX12_comes_103 rfl ?_
          refine r_aload_n dX12_comes_104 rfl ?_
          refine g_getR dX12_comes_105 f_X12_7 (Mod.sg (by assumption)) rfl (Mod.r98 (by assumption)) ?_
          refine r_iconst dX12_comes_108 ic_1 ?_
          refine g_iald dX12_comes_109 (Mod.s98 (by assumption)) rfl (by omega) (by omega) (hw2.n1) ?_
          refine n_icmp_ge (tgt := 137) dX12_comes_110 (by decide) (by omega) (by omega) (fun c110 => absurd c110 (by omega)) (fun c110 => ?_)
          refine r_aload_n dX12_comes_113 rfl ?_
          refine g_getR dX12_comes_114 f_X12_13 (Mod.sg (by assumption)) rfl (Mod.r99 (by assumption)) ?_
          refine r_bipush dX12_comes_117 bp_19 ?_
          refine r_iload_n dX12_comes_119 rfl ?_
          refine n_iadd dX12_comes_120 ?_
          refine r_aload_n dX12_comes_121 rfl ?_
          refine g_getR dX12_comes_122 f_X12_7 (Mod.sg (by assumption)) rfl (Mod.r98 (by assumption)) ?_
          refine r_bipush dX12_comes_125 bp_29 ?_
          refine r_iload_n dX12_comes_127 rfl ?_
          refine n_iadd dX12_comes_128 ?_
          refine g_iald dX12_comes_129 (Mod.s98 (by assumption)) rfl (by omega) (by omega) (hw2.at (by omega)) ?_
          refine g_iast dX12_comes_130 (Mod.s99 (by assumption)) rfl (by omega) (by omega) ?_
          refine r_iinc (L' := [_, _]) dX12_comes_131 rfl rfl (nI_inc _) rfl ?_
          refine r_goto (tgt := 103) dX12_comes_134 (by decide) ?_
          exact JJ.to (K trivial) rfl rfl (by rw [dW_j (k := 19 + j) (by omega) (by omega), sBg_g h6])
      · have hw2 : MoW (dW (wW I w 89) 0 (sBg w N j 0)) w N G := MoW.dW ⟨fun k hk => wW_q I w hk, hN, hG, h6, h8⟩
        refine r_iload_n dX12_comes_68 rfl ?_
        refine r_aload_n dX12_comes_69 rfl ?_
        refine g_getR dX12_comes_70 f_X12_7 (Mod.sg (by assumption)) rfl (Mod.r98 (by assumption)) ?_
        refine r_iconst dX12_comes_73 ic_0 ?_
        refine g_iald dX12_comes_74 (Mod.s98 (by assumption)) rfl (by omega) (by omega) (hw2.n0) ?_
        refine n_icmp_ge (tgt := 101) dX12_comes_75 (by decide) (by omega) (by omega) (fun c75 => absurd c75 (by omega)) (fun c75 => ?_)
        refine r_aload_n dX12_comes_78 rfl ?_
        refine g_getR dX12_comes_79 f_X12_13 (Mod.sg (by assumption)) rfl (Mod.r99 (by assumption)) ?_
        refine r_iconst dX12_comes_82 ic_1 ?_
        refine r_iload_n dX12_comes_83 rfl ?_
        refine n_iadd dX12_comes_84 ?_
        refine r_aload_n dX12_comes_85 rfl ?_
        refine g_getR dX12_comes_86 f_X12_7 (Mod.sg (by assumption)) rfl (Mod.r98 (by assumption)) ?_
        refine r_bipush dX12_comes_89 bp_9 ?_
        refine r_iload_n dX12_comes_91 rfl ?_
        refine n_iadd dX12_comes_92 ?_
        refine g_iald dX12_comes_93 (Mod.s98 (by assumption)) rfl (by omega) (by omega) (hw2.at (by omega)) ?_
        refine g_iast dX12_comes_94 (Mod.s99 (by assumption)) rfl (by omega) (by omega) ?_
        refine r_iinc (L' := [_, _]) dX12_comes_95 rfl rfl (nI_inc _) rfl ?_
        refine r_goto (tgt := 68) dX12_comes_98 (by decide) ?_
        exact JJ.to (K trivial) rfl rfl (by rw [dW_j (k := 1 + j) (by omega) (by omega), sBg_i])
    · skip
      refine r_iload_n dX12_comes_31 rfl ?_
      refine r_bipush dX12_comes_32 bp_35 ?_
      refine n_icmp_ge (tgt := 50) dX12_comes_34 (by decide) (by omega) (by omega) (fun c34 => absurd c34 (by omega)) (fun c34 => ?_)
      refine r_aload_n dX12_comes_37 rfl ?_
      refine g_getR dX12_comes_38 f_X12_13 (Mod.sg (by assumption)) rfl (Mod.r99 (by assumption)) ?_
      refine r_iload_n dX12_comes_41 rfl ?_
      refine r_iconst dX12_comes_42 ic_0 ?_
      refine g_iast dX12_comes_43 (Mod.s99 (by assumption)) rfl (by omega) (by omega) ?_
      refine r_iinc (L' := [_, _]) dX12_comes_44 rfl rfl (nI_inc _) rfl ?_
      refine r_goto (tgt := 31) dX12_comes_47 (by decide) ?_
      exact JJ.to (K trivial) rfl rfl (by rw [← dWp_s, Nat.zero_add])
  · skip
    refine r_iload_n dX12_comes_2 rfl ?_
    refine r_bipush dX12_comes_3 bp_89 ?_
    refine n_icmp_ge (tgt := 29) dX12_comes_5 (by decide) (by omega) (by omega) (fun c5 => absurd c5 (by omega)) (fun c5 => ?_)
    refine r_aload_n dX12_comes_8 rfl ?_
    refine g_getR dX12_comes_9 f_X12_7 (Mod.sg (by assumption)) rfl (Mod.r98 (by assumption)) ?_
    refine r_iload_n dX12_comes_12 rfl ?_
    refine r_aload_n dX12_comes_13 rfl ?_
    refine g_getR dX12_comes_14 f_X12_7 (Mod.sg (by assumption)) rfl (Mod.r98 (by assumption)) ?_
    refine r_bipush dX12_comes_17 bp_89 ?_
    refine r_iload_n dX12_comes_19 rfl ?_
    refine n_iadd dX12_comes_20 ?_
    refine g_iald dX12_comes_21 (Mod.s98 (by assumption)) rfl (by omega) (by omega) ((wW_n (by omega)).trans (hx j hj)) ?_
    refine g_iast dX12_comes_22 (Mod.s98 (by assumption)) rfl (by omega) (by omega) ?_
    refine r_iinc (L' := [_, _]) dX12_comes_23 rfl rfl (nI_inc _) rfl ?_
    refine r_goto (tgt := 2) dX12_comes_26 (by decide) ?_
    exact JJ.to (K trivial) rfl rfl (by rw [wW_s])

set_option maxHeartbeats 4000000 in
set_option maxRecDepth 100000 in
theorem v_X12_fault_x (X : mCx) (d : Nat) {S : mSh} {I : mI} {R : mR} {I1 : mI} {x : Int32} (hm : Mod S R) (hC : ∀ d, CC X (d + 4) M_X12_faultOf [.ref 97] S (I, R) (some (.int x)) S (I1, R))  : CC X (d + 5) M_X12_fault [.ref 97] S (I, R) (some (.int x)) S (I1, R) := by
  refine CC.of2 (L := [.ref 97]) p_X12 (Nat.le_of_ble_eq_true rfl) rfl rfl (List.prefix_refl S) ?_
  refine r_aload_n dX12_fault_0 rfl ?_
  refine r_V0 dX12_fault_1 l_X12_107 k_X12_faultOf i_X12_faultOf (Mod.sg (by assumption)) ⟨_, rfl⟩ (Nat.le_of_ble_eq_true rfl) (hC _) (List.prefix_refl S) ?_
  exact g_iret dX12_fault_4 rfl rfl

set_option maxHeartbeats 4000000 in
set_option maxRecDepth 100000 in
theorem v_X12_lay_f (X : mCx) (d : Nat) {S : mSh} {I : mI} {R : mR} {I1 : mI} {x : Int32} (hm : Mod S R) (hC : ∀ d, CC X (d + 4) M_X12_faultOf [.ref 97] S (I, R) (some (.int x)) S (I1, R)) (h : x ≠ -4) : CC X (d + 5) M_X12_lay [.ref 97] S (I, R) (some (.int (-2))) S (I1, R) := by
  refine CC.of2 (L := [.ref 97]) p_X12 (Nat.le_of_ble_eq_true rfl) rfl rfl (List.prefix_refl S) ?_
  refine r_aload_n dX12_lay_0 rfl ?_
  refine r_V0 dX12_lay_1 l_X12_107 k_X12_faultOf i_X12_faultOf (Mod.sg (by assumption)) ⟨_, rfl⟩ (Nat.le_of_ble_eq_true rfl) (hC _) (List.prefix_refl S) ?_
  refine r_bipush dX12_lay_4 bp_m4 ?_
  refine r_icmp_ne (tgt := 19) dX12_lay_6 (by decide) (fun c6 => ?_) (fun c6 => absurd c6 h)
  refine r_bipush dX12_lay_19 bp_m2 ?_
  exact g_iret dX12_lay_21 rfl rfl

set_option maxHeartbeats 4000000 in
set_option maxRecDepth 100000 in
theorem v_X12_lay_0 (X : mCx) (d : Nat) {S : mSh} {I : mI} {R : mR} {I1 : mI} {w : Nat → Int32} (hm : Mod S R) (hC : ∀ d, CC X (d + 4) M_X12_faultOf [.ref 97] S (I, R) (some (.int (-4))) S (I1, R)) (hx : MoX I1 w) (hN : w 0 = nI 0) : CC X (d + 5) M_X12_lay [.ref 97] S (I, R) (some (.int (-2))) S (I1, R) := by
  refine CC.of2 (L := [.ref 97]) p_X12 (Nat.le_of_ble_eq_true rfl) rfl rfl (List.prefix_refl S) ?_
  refine r_aload_n dX12_lay_0 rfl ?_
  refine r_V0 dX12_lay_1 l_X12_107 k_X12_faultOf i_X12_faultOf (Mod.sg (by assumption)) ⟨_, rfl⟩ (Nat.le_of_ble_eq_true rfl) (hC _) (List.prefix_refl S) ?_
  refine r_bipush dX12_lay_4 bp_m4 ?_
  refine r_icmp_ne (tgt := 19) dX12_lay_6 (by decide) (fun c6 => absurd rfl c6) (fun c6 => ?_)
  refine r_aload_n dX12_lay_9 rfl ?_
  refine g_getR dX12_lay_10 f_X12_7 (Mod.sg (by assumption)) rfl (Mod.r98 (by assumption)) ?_
  refine r_bipush dX12_lay_13 bp_89 ?_
  refine g_iald dX12_lay_15 (Mod.s98 (by assumption)) rfl (by omega) (by omega) ((hx.at (k := 0) (by omega) (by omega)).trans hN) ?_
  refine n_if_ne (tgt := 22) dX12_lay_16 (by decide) (by omega) (fun c16 => absurd rfl c16) (fun c16 => ?_)
  refine r_bipush dX12_lay_19 bp_m2 ?_
  exact g_iret dX12_lay_21 rfl rfl

set_option maxHeartbeats 4000000 in
set_option maxRecDepth 100000 in
theorem v_X12_lay_t (X : mCx) (d : Nat) {S : mSh} {I : mI} {R : mR} {I1 : mI} {w : Nat → Int32} {N G : Nat} (hm : Mod S R) (hC : ∀ d, CC X (d + 4) M_X12_faultOf [.ref 97] S (I, R) (some (.int (-4))) S (I1, R)) (hx : MoX I1 w) (hN : w 0 = nI N) (hG : w 1 = nI G) (h6 : N ≤ 6) (h8 : G ≤ 8) (h1 : 1 ≤ N) : CC X (d + 5) M_X12_lay [.ref 97] S (I, R) (some (.int (nI N))) S (coI I1 w N G, R) := by
  refine CC.of2 (L := [.ref 97]) p_X12 (Nat.le_of_ble_eq_true rfl) rfl rfl (List.prefix_refl S) ?_
  refine r_aload_n dX12_lay_0 rfl ?_
  refine r_V0 dX12_lay_1 l_X12_107 k_X12_faultOf i_X12_faultOf (Mod.sg (by assumption)) ⟨_, rfl⟩ (Nat.le_of_ble_eq_true rfl) (hC _) (List.prefix_refl S) ?_
  refine r_bipush dX12_lay_4 bp_m4 ?_
  refine r_icmp_ne (tgt := 19) dX12_lay_6 (by decide) (fun c6 => absurd rfl c6) (fun c6 => ?_)
  refine r_aload_n dX12_lay_9 rfl ?_
  refine g_getR dX12_lay_10 f_X12_7 (Mod.sg (by assumption)) rfl (Mod.r98 (by assumption)) ?_
  refine r_bipush dX12_lay_13 bp_89 ?_
  refine g_iald dX12_lay_15 (Mod.s98 (by assumption)) rfl (by omega) (by omega) ((hx.at (k := 0) (by omega) (by omega)).trans hN) ?_
  refine n_if_ne (tgt := 22) dX12_lay_16 (by decide) (by omega) (fun c16 => ?_) (fun c16 => absurd c16 (by omega))
  refine r_aload_n dX12_lay_22 rfl ?_
  refine r_V0 dX12_lay_23 l_X12_57 k_X12_comes i_X12_comes (Mod.sg (by assumption)) ⟨_, rfl⟩ (Nat.le_of_ble_eq_true rfl) (v_X12_comes X _ (by first | assumption | omega) (by first | assumption | omega) (by first | assumption | omega) (by first | assumption | omega) (by first | assumption | omega) (by first | assumption | omega)) (List.prefix_refl S) ?_
  refine r_aload_n dX12_lay_26 rfl ?_
  refine g_getR dX12_lay_27 f_X12_7 (Mod.sg (by assumption)) rfl (Mod.r98 (by assumption)) ?_
  refine r_iconst dX12_lay_30 ic_0 ?_
  refine g_iald dX12_lay_31 (Mod.s98 (by assumption)) rfl (by omega) (by omega) (show coI I1 w N G 98 0 = nI N by unfold coI; rw [sJ_o (by decide), sJ_o (by decide), sJ_o (by decide), dW_o (by decide), wW_q _ _ (by decide)]; exact hN) ?_
  exact g_iret dX12_lay_32 rfl rfl

def pkN (s : Nat → Int32) (G : Nat) : Nat := nFold G (fun g n => if s (27 + g) = nI 1 then n + 1 else n) 0
def noN (s : Nat → Int32) (G : Nat) : Nat := nFold G (fun g n => if s (19 + g) = -4 then n + 1 else n) 0
def aCnM (w s : Nat → Int32) (N G hb m u v n : Nat) (y : Int32) : Int32 := if y = nI 0 then nI N else if y = nI 1 then nI G else if y = nI 2 then nI N - nI (pop hb) else if y = nI 3 then nI (pkN s G) else if y = nI 4 then nI (noN s G) else if y = nI 5 then nSum N (fun i => s (7 + i)) else if y = nI 6 then w 2 else if y = nI 7 then nI m else if y = nI 8 then nI u else if y = nI 9 then nI v else if y = nI 10 then nI n else -1
set_option maxHeartbeats 4000000 in
set_option maxRecDepth 100000 in
theorem v_X12_count (X : mCx) (d : Nat) {S : mSh} {I : mI} {R : mR} {w s : Nat → Int32} {N G hb m u v n : Nat} {y : Int32} (hm : Mod S R) (hw : MoW I w N G) (hd : MoD I 0 s hb) (hc4 : I 97 4 = nI m) (hc2 : I 97 2 = nI u) (hc3 : I 97 3 = nI v) (hc8 : I 97 8 = nI n) : CC X (d + 2) M_X12_count [.ref 97, .int y] S (I, R) (some (.int (aCnM w s N G hb m u v n y))) S (I, R) := by
  have hN6 := hw.N6
  have hG8 := hw.G8
  have h256 := hd.b256
  refine CC.of2 (L := [.ref 97, .int y]) p_X12 (Nat.le_of_ble_eq_true rfl) rfl rfl (List.prefix_refl S) ?_
  refine r_iload_n dX12_count_0 rfl ?_
  by_cases k0 : y = nI 0
  · refine g_top k0 ?_
    refine r_tableIn (tgt := 60) dX12_count_1 (by decide) (by decide) (off := 59) rfl (by decide) ?_
    refine r_aload_n dX12_count_60 rfl ?_
    refine g_getR dX12_count_61 f_X12_7 (Mod.sg (by assumption)) rfl (Mod.r98 (by assumption)) ?_
    refine r_iconst dX12_count_64 ic_0 ?_
    refine g_iald dX12_count_65 (Mod.s98 (by assumption)) rfl (by omega) (by omega) hw.n0 ?_
    exact g_iret dX12_count_66 (by unfold aCnM; rw [if_pos k0]) rfl
  by_cases k1 : y = nI 1
  · refine g_top k1 ?_
    refine r_tableIn (tgt := 67) dX12_count_1 (by decide) (by decide) (off := 66) rfl (by decide) ?_
    refine r_aload_n dX12_count_67 rfl ?_
    refine g_getR dX12_count_68 f_X12_7 (Mod.sg (by assumption)) rfl (Mod.r98 (by assumption)) ?_
    refine r_iconst dX12_count_71 ic_1 ?_
    refine g_iald dX12_count_72 (Mod.s98 (by assumption)) rfl (by omega) (by omega) hw.n1 ?_
    exact g_iret dX12_count_73 (by unfold aCnM; rw [if_neg k0, if_pos k1]) rfl
  by_cases k2 : y = nI 2
  · refine g_top k2 ?_
    refine r_tableIn (tgt := 74) dX12_count_1 (by decide) (by decide) (off := 73) rfl (by decide) ?_
    refine r_aload_n dX12_count_74 rfl ?_
    refine g_getR dX12_count_75 f_X12_7 (Mod.sg (by assumption)) rfl (Mod.r98 (by assumption)) ?_
    refine r_iconst dX12_count_78 ic_0 ?_
    refine g_iald dX12_count_79 (Mod.s98 (by assumption)) rfl (by omega) (by omega) hw.n0 ?_
    refine r_aload_n dX12_count_80 rfl ?_
    refine g_getR dX12_count_81 f_X12_13 (Mod.sg (by assumption)) rfl (Mod.r99 (by assumption)) ?_
    refine r_iconst dX12_count_84 ic_0 ?_
    refine g_iald dX12_count_85 (Mod.s99 (by assumption)) rfl (by omega) (by omega) (hd.h0 (by omega)) ?_
    refine r_S1 dX12_count_86 l_X12_205 k_X12_ones s_X12_ones (Nat.le_of_ble_eq_true rfl) (v_X12_ones X _ (by first | assumption | omega)) (List.prefix_refl S) ?_
    refine r_isub dX12_count_89 ?_
    exact g_iret dX12_count_90 (by unfold aCnM; rw [if_neg k0, if_neg k1, if_pos k2]) rfl
  by_cases k3 : y = nI 3
  · refine g_top k3 ?_
    refine r_tableIn (tgt := 91) dX12_count_1 (by decide) (by decide) (off := 90) rfl (by decide) ?_
    refine r_aload_n dX12_count_91 rfl ?_
    refine r_iconst dX12_count_92 ic_1 ?_
    refine r_V1 dX12_count_93 l_X12_218 k_X12_goodsThat i_X12_goodsThat (Mod.sg (by assumption)) ⟨_, rfl⟩ (Nat.le_of_ble_eq_true rfl) (v_X12_goodsThat_p X _ (by first | assumption | omega) (by first | assumption | omega) (by first | assumption | omega)) (List.prefix_refl S) ?_
    exact g_iret dX12_count_96 (by unfold aCnM; rw [if_neg k0, if_neg k1, if_neg k2, if_pos k3]; rfl) rfl
  by_cases k4 : y = nI 4
  · refine g_top k4 ?_
    refine r_tableIn (tgt := 97) dX12_count_1 (by decide) (by decide) (off := 96) rfl (by decide) ?_
    refine r_aload_n dX12_count_97 rfl ?_
    refine r_iconst dX12_count_98 ic_0 ?_
    refine r_V1 dX12_count_99 l_X12_218 k_X12_goodsThat i_X12_goodsThat (Mod.sg (by assumption)) ⟨_, rfl⟩ (Nat.le_of_ble_eq_true rfl) (v_X12_goodsThat_o X _ (by first | assumption | omega) (by first | assumption | omega) (by first | assumption | omega)) (List.prefix_refl S) ?_
    exact g_iret dX12_count_102 (by unfold aCnM; rw [if_neg k0, if_neg k1, if_neg k2, if_neg k3, if_pos k4]; rfl) rfl
  by_cases k5 : y = nI 5
  · refine g_top k5 ?_
    refine r_tableIn (tgt := 103) dX12_count_1 (by decide) (by decide) (off := 102) rfl (by decide) ?_
    refine r_aload_n dX12_count_103 rfl ?_
    refine r_V0 dX12_count_104 l_X12_222 k_X12_paidInAll i_X12_paidInAll (Mod.sg (by assumption)) ⟨_, rfl⟩ (Nat.le_of_ble_eq_true rfl) (v_X12_paidInAll X _ (by first | assumption | omega) (by first | assumption | omega) (by first | assumption | omega)) (List.prefix_refl S) ?_
    exact g_iret dX12_count_107 (by unfold aCnM; rw [if_neg k0, if_neg k1, if_neg k2, if_neg k3, if_neg k4, if_pos k5]) rfl
  by_cases k6 : y = nI 6
  · refine g_top k6 ?_
    refine r_tableIn (tgt := 108) dX12_count_1 (by decide) (by decide) (off := 107) rfl (by decide) ?_
    refine r_aload_n dX12_count_108 rfl ?_
    refine g_getR dX12_count_109 f_X12_7 (Mod.sg (by assumption)) rfl (Mod.r98 (by assumption)) ?_
    refine r_iconst dX12_count_112 ic_2 ?_
    refine g_iald dX12_count_113 (Mod.s98 (by assumption)) rfl (by omega) (by omega) (hw.at (by omega)) ?_
    exact g_iret dX12_count_114 (by unfold aCnM; rw [if_neg k0, if_neg k1, if_neg k2, if_neg k3, if_neg k4, if_neg k5, if_pos k6]) rfl
  by_cases k7 : y = nI 7
  · refine g_top k7 ?_
    refine r_tableIn (tgt := 115) dX12_count_1 (by decide) (by decide) (off := 114) rfl (by decide) ?_
    refine r_aload_n dX12_count_115 rfl ?_
    refine g_getI dX12_count_116 f_X12_75 (Mod.sg (by assumption)) rfl hc4 ?_
    exact g_iret dX12_count_119 (by unfold aCnM; rw [if_neg k0, if_neg k1, if_neg k2, if_neg k3, if_neg k4, if_neg k5, if_neg k6, if_pos k7]) rfl
  by_cases k8 : y = nI 8
  · refine g_top k8 ?_
    refine r_tableIn (tgt := 120) dX12_count_1 (by decide) (by decide) (off := 119) rfl (by decide) ?_
    refine r_aload_n dX12_count_120 rfl ?_
    refine g_getI dX12_count_121 f_X12_68 (Mod.sg (by assumption)) rfl hc2 ?_
    exact g_iret dX12_count_124 (by unfold aCnM; rw [if_neg k0, if_neg k1, if_neg k2, if_neg k3, if_neg k4, if_neg k5, if_neg k6, if_neg k7, if_pos k8]) rfl
  by_cases k9 : y = nI 9
  · refine g_top k9 ?_
    refine r_tableIn (tgt := 125) dX12_count_1 (by decide) (by decide) (off := 124) rfl (by decide) ?_
    refine r_aload_n dX12_count_125 rfl ?_
    refine g_getI dX12_count_126 f_X12_72 (Mod.sg (by assumption)) rfl hc3 ?_
    exact g_iret dX12_count_129 (by unfold aCnM; rw [if_neg k0, if_neg k1, if_neg k2, if_neg k3, if_neg k4, if_neg k5, if_neg k6, if_neg k7, if_neg k8, if_pos k9]) rfl
  by_cases k10 : y = nI 10
  · refine g_top k10 ?_
    refine r_tableIn (tgt := 130) dX12_count_1 (by decide) (by decide) (off := 129) rfl (by decide) ?_
    refine r_aload_n dX12_count_130 rfl ?_
    refine g_getI dX12_count_131 f_X12_82 (Mod.sg (by assumption)) rfl hc8 ?_
    exact g_iret dX12_count_134 (by unfold aCnM; rw [if_neg k0, if_neg k1, if_neg k2, if_neg k3, if_neg k4, if_neg k5, if_neg k6, if_neg k7, if_neg k8, if_neg k9, if_pos k10]) rfl
  refine r_tableOut (tgt := 135) dX12_count_1 (sw_outR 0 10 (by decide) (fun k h1 h2 e => by rcases (show k = 0 ∨ k = 1 ∨ k = 2 ∨ k = 3 ∨ k = 4 ∨ k = 5 ∨ k = 6 ∨ k = 7 ∨ k = 8 ∨ k = 9 ∨ k = 10 by omega) with rfl | rfl | rfl | rfl | rfl | rfl | rfl | rfl | rfl | rfl | rfl <;> first | exact k0 e | exact k1 e | exact k2 e | exact k3 e | exact k4 e | exact k5 e | exact k6 e | exact k7 e | exact k8 e | exact k9 e | exact k10 e)) (by decide) ?_
  refine r_iconst dX12_count_135 ic_m1 ?_
  exact g_iret dX12_count_136 (by unfold aCnM; rw [if_neg k0, if_neg k1, if_neg k2, if_neg k3, if_neg k4, if_neg k5, if_neg k6, if_neg k7, if_neg k8, if_neg k9, if_neg k10]) rfl

