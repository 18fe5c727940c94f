/-! ===== the reference: turns, pieces of the loop ===== -/
set_option maxHeartbeats 4000000 in
set_option maxRecDepth 100000 in
theorem v_X12_offers_t (X : mCx) (d : Nat) {S : mSh} {I : mI} {R : mR} {D : Nat} {a b : Int32} (hm : Mod S R) (h5 : D < 5) (hl : (if D % 2 = 0 then a < I 107 D else b < I 108 D)) : CC X (d + 1) M_X12_offers [.ref 97, .int (nI D), .int a, .int b] S (I, R) (none) S (ofI I D a b, R) := by
  refine CC.of2 (L := [.ref 97, .int (nI D), .int a, .int b, .retAddr 0]) p_X12 (Nat.le_of_ble_eq_true rfl) rfl trivial (List.prefix_refl S) ?_
  refine r_iload_n dX12_offers_0 rfl ?_
  refine r_iconst dX12_offers_1 ic_2 ?_
  refine r_irem dX12_offers_2 (by decide) ?_
  refine g_top (rem2 (by omega)) ?_
  refine n_if_ne (tgt := 24) dX12_offers_3 (by decide) (by omega) (fun c3 => ?_) (fun c3 => ?_)
  · skip
    refine r_iload_n dX12_offers_24 rfl ?_
    refine r_aload_n dX12_offers_25 rfl ?_
    refine g_getR dX12_offers_26 f_X12_40 (Mod.sg (by assumption)) rfl (Mod.r108 (by assumption)) ?_
    refine r_iload_n dX12_offers_29 rfl ?_
    refine g_iald dX12_offers_30 (Mod.s108 (by assumption)) rfl (by omega) (by omega) rfl ?_
    refine r_icmp_ge (tgt := 38) dX12_offers_31 (by decide) (fun c31 => (by exfalso; rw [if_neg c3] at hl; exact absurd hl (Int32.not_lt.mpr c31))) (fun c31 => ?_)
    refine r_iconst dX12_offers_34 ic_1 ?_
    refine r_goto (tgt := 39) dX12_offers_35 (by decide) ?_
    refine r_istore (L' := [_, _, _, _, _]) dX12_offers_39 rfl rfl ?_
    refine r_iload dX12_offers_41 rfl ?_
    refine n_if_eq (tgt := 81) dX12_offers_43 (by decide) (by omega) (fun c43 => absurd c43 (by decide)) (fun c43 => ?_)
    refine r_aload_n dX12_offers_46 rfl ?_
    refine g_getR dX12_offers_47 f_X12_37 (Mod.sg (by assumption)) rfl (Mod.r107 (by assumption)) ?_
    refine r_iload_n dX12_offers_50 rfl ?_
    refine r_iload_n dX12_offers_51 rfl ?_
    refine g_iast dX12_offers_52 (Mod.s107 (by assumption)) rfl (by omega) (by omega) ?_
    refine r_aload_n dX12_offers_53 rfl ?_
    refine g_getR dX12_offers_54 f_X12_40 (Mod.sg (by assumption)) rfl (Mod.r108 (by assumption)) ?_
    refine r_iload_n dX12_offers_57 rfl ?_
    refine r_iload_n dX12_offers_58 rfl ?_
    refine g_iast dX12_offers_59 (Mod.s108 (by assumption)) rfl (by omega) (by omega) ?_
    refine r_aload_n dX12_offers_60 rfl ?_
    refine r_iload_n dX12_offers_61 rfl ?_
    refine n_if_ne (tgt := 74) dX12_offers_62 (by decide) (by omega) (fun c62 => ?_) (fun c62 => ?_)
    · skip
      refine r_aload_n dX12_offers_74 rfl ?_
      refine g_getI dX12_offers_75 f_X12_184 (Mod.sg (by assumption)) rfl (show _ = I 97 16 by rw [sJ_o (by decide), sJ_o (by decide)]) ?_
      refine g_top (show _ = (if D = 0 then I 106 0 else I 97 16) by first | (rw [if_pos c62]; done) | (rw [if_neg c62]; done)) ?_
      refine g_putI dX12_offers_78 f_X12_184 (Mod.sg (by assumption)) rfl ?_
      exact g_vret dX12_offers_81 rfl rfl
    · skip
      refine r_aload_n dX12_offers_65 rfl ?_
      refine g_getR dX12_offers_66 f_X12_34 (Mod.sg (by assumption)) rfl (Mod.r106 (by assumption)) ?_
      refine r_iconst dX12_offers_69 ic_0 ?_
      refine g_iald dX12_offers_70 (Mod.s106 (by assumption)) rfl (by omega) (by omega) (show _ = I 106 0 by rw [sJ_o (by decide), sJ_o (by decide)]) ?_
      refine r_goto (tgt := 78) dX12_offers_71 (by decide) ?_
      refine g_top (show _ = (if D = 0 then I 106 0 else I 97 16) by first | (rw [if_pos c62]; done) | (rw [if_neg c62]; done)) ?_
      refine g_putI dX12_offers_78 f_X12_184 (Mod.sg (by assumption)) rfl ?_
      exact g_vret dX12_offers_81 rfl rfl
  · skip
    refine r_iload_n dX12_offers_6 rfl ?_
    refine r_aload_n dX12_offers_7 rfl ?_
    refine g_getR dX12_offers_8 f_X12_37 (Mod.sg (by assumption)) rfl (Mod.r107 (by assumption)) ?_
    refine r_iload_n dX12_offers_11 rfl ?_
    refine g_iald dX12_offers_12 (Mod.s107 (by assumption)) rfl (by omega) (by omega) rfl ?_
    refine r_icmp_ge (tgt := 20) dX12_offers_13 (by decide) (fun c13 => (by exfalso; rw [if_pos c3] at hl; exact absurd hl (Int32.not_lt.mpr c13))) (fun c13 => ?_)
    refine r_iconst dX12_offers_16 ic_1 ?_
    refine r_goto (tgt := 39) dX12_offers_17 (by decide) ?_
    refine r_istore (L' := [_, _, _, _, _]) dX12_offers_39 rfl rfl ?_
    refine r_iload dX12_offers_41 rfl ?_
    refine n_if_eq (tgt := 81) dX12_offers_43 (by decide) (by omega) (fun c43 => absurd c43 (by decide)) (fun c43 => ?_)
    refine r_aload_n dX12_offers_46 rfl ?_
    refine g_getR dX12_offers_47 f_X12_37 (Mod.sg (by assumption)) rfl (Mod.r107 (by assumption)) ?_
    refine r_iload_n dX12_offers_50 rfl ?_
    refine r_iload_n dX12_offers_51 rfl ?_
    refine g_iast dX12_offers_52 (Mod.s107 (by assumption)) rfl (by omega) (by omega) ?_
    refine r_aload_n dX12_offers_53 rfl ?_
    refine g_getR dX12_offers_54 f_X12_40 (Mod.sg (by assumption)) rfl (Mod.r108 (by assumption)) ?_
    refine r_iload_n dX12_offers_57 rfl ?_
    refine r_iload_n dX12_offers_58 rfl ?_
    refine g_iast dX12_offers_59 (Mod.s108 (by assumption)) rfl (by omega) (by omega) ?_
    refine r_aload_n dX12_offers_60 rfl ?_
    refine r_iload_n dX12_offers_61 rfl ?_
    refine n_if_ne (tgt := 74) dX12_offers_62 (by decide) (by omega) (fun c62 => ?_) (fun c62 => ?_)
    · skip
      refine r_aload_n dX12_offers_74 rfl ?_
      refine g_getI dX12_offers_75 f_X12_184 (Mod.sg (by assumption)) rfl (show _ = I 97 16 by rw [sJ_o (by decide), sJ_o (by decide)]) ?_
      refine g_top (show _ = (if D = 0 then I 106 0 else I 97 16) by first | (rw [if_pos c62]; done) | (rw [if_neg c62]; done)) ?_
      refine g_putI dX12_offers_78 f_X12_184 (Mod.sg (by assumption)) rfl ?_
      exact g_vret dX12_offers_81 rfl rfl
    · skip
      refine r_aload_n dX12_offers_65 rfl ?_
      refine g_getR dX12_offers_66 f_X12_34 (Mod.sg (by assumption)) rfl (Mod.r106 (by assumption)) ?_
      refine r_iconst dX12_offers_69 ic_0 ?_
      refine g_iald dX12_offers_70 (Mod.s106 (by assumption)) rfl (by omega) (by omega) (show _ = I 106 0 by rw [sJ_o (by decide), sJ_o (by decide)]) ?_
      refine r_goto (tgt := 78) dX12_offers_71 (by decide) ?_
      refine g_top (show _ = (if D = 0 then I 106 0 else I 97 16) by first | (rw [if_pos c62]; done) | (rw [if_neg c62]; done)) ?_
      refine g_putI dX12_offers_78 f_X12_184 (Mod.sg (by assumption)) rfl ?_
      exact g_vret dX12_offers_81 rfl rfl

set_option maxHeartbeats 4000000 in
set_option maxRecDepth 100000 in
theorem v_X12_offers_f (X : mCx) (d : Nat) {S : mSh} {I : mI} {R : mR} {D : Nat} {a b : Int32} (hm : Mod S R) (h5 : D < 5) (hl : ¬ (if D % 2 = 0 then a < I 107 D else b < I 108 D)) : CC X (d + 1) M_X12_offers [.ref 97, .int (nI D), .int a, .int b] S (I, R) (none) S (I, R) := by
  refine CC.of2 (L := [.ref 97, .int (nI D), .int a, .int b, .retAddr 0]) p_X12 (Nat.le_of_ble_eq_true rfl) rfl trivial (List.prefix_refl S) ?_
  refine r_iload_n dX12_offers_0 rfl ?_
  refine r_iconst dX12_offers_1 ic_2 ?_
  refine r_irem dX12_offers_2 (by decide) ?_
  refine g_top (rem2 (by omega)) ?_
  refine n_if_ne (tgt := 24) dX12_offers_3 (by decide) (by omega) (fun c3 => ?_) (fun c3 => ?_)
  · skip
    refine r_iload_n dX12_offers_24 rfl ?_
    refine r_aload_n dX12_offers_25 rfl ?_
    refine g_getR dX12_offers_26 f_X12_40 (Mod.sg (by assumption)) rfl (Mod.r108 (by assumption)) ?_
    refine r_iload_n dX12_offers_29 rfl ?_
    refine g_iald dX12_offers_30 (Mod.s108 (by assumption)) rfl (by omega) (by omega) rfl ?_
    refine r_icmp_ge (tgt := 38) dX12_offers_31 (by decide) (fun c31 => ?_) (fun c31 => (by exfalso; rw [if_neg c3] at hl; exact hl (Int32.not_le.mp c31)))
    refine r_iconst dX12_offers_38 ic_0 ?_
    refine r_istore (L' := [_, _, _, _, _]) dX12_offers_39 rfl rfl ?_
    refine r_iload dX12_offers_41 rfl ?_
    refine n_if_eq (tgt := 81) dX12_offers_43 (by decide) (by omega) (fun c43 => ?_) (fun c43 => absurd rfl c43)
    exact g_vret dX12_offers_81 rfl rfl
  · skip
    refine r_iload_n dX12_offers_6 rfl ?_
    refine r_aload_n dX12_offers_7 rfl ?_
    refine g_getR dX12_offers_8 f_X12_37 (Mod.sg (by assumption)) rfl (Mod.r107 (by assumption)) ?_
    refine r_iload_n dX12_offers_11 rfl ?_
    refine g_iald dX12_offers_12 (Mod.s107 (by assumption)) rfl (by omega) (by omega) rfl ?_
    refine r_icmp_ge (tgt := 20) dX12_offers_13 (by decide) (fun c13 => ?_) (fun c13 => (by exfalso; rw [if_pos c3] at hl; exact hl (Int32.not_le.mp c13)))
    refine r_iconst dX12_offers_20 ic_0 ?_
    refine r_goto (tgt := 39) dX12_offers_21 (by decide) ?_
    refine r_istore (L' := [_, _, _, _, _]) dX12_offers_39 rfl rfl ?_
    refine r_iload dX12_offers_41 rfl ?_
    refine n_if_eq (tgt := 81) dX12_offers_43 (by decide) (by omega) (fun c43 => ?_) (fun c43 => absurd rfl c43)
    exact g_vret dX12_offers_81 rfl rfl

def whoT (D i j : Nat) : Nat := if D % 2 = 0 then i else j
theorem whoT_c (D i j : Nat) : whoT D i j = i ∨ whoT D i j = j := by
  unfold whoT
  split
  · exact Or.inl rfl
  · exact Or.inr rfl
set_option maxHeartbeats 4000000 in
set_option maxRecDepth 100000 in
theorem g_ft1 (X : mCx) (d : Nat) {S : mSh} {I : mI} {R : mR} {i j n D : Nat} {r : Option Value} {h : mHp} (hm : Mod S R) {I2 : mI} {x g : Int32} (hi : i < 6) (hj : j < 6) (hn : n ≤ 4) (hD : D ≤ n) (hDn : D < n) (h106 : I 106 D = g) (hx : ¬ x = FARI) (hN : ∀ d, CC X (d + 1) M_X12_nextGift [.ref 97, .int (nI (whoT D i j)), .int g] S (I, R) (some (.int x)) S (I, R)) (hG : ∀ d, CC X (d + 1) M_X12_gives [.ref 97, .int x, .int (nI (i + j - (whoT D i j)))] S (sJ I 106 D x, R) none S (I2, R)) (K : JJ X M_X12_findTurns (d + 4) 22 [.ref 97, .int (nI i), .int (nI j), .int (nI n), .int (nI (D + 1)), .retAddr 0, .retAddr 0, .retAddr 0, .retAddr 0] [] S (opI I2 (D + 1), R) r S h) : JJ X M_X12_findTurns (d + 4) 22 [.ref 97, .int (nI i), .int (nI j), .int (nI n), .int (nI D), .retAddr 0, .retAddr 0, .retAddr 0, .retAddr 0] [] S (I, R) (r) S h := by
  have hwt := whoT_c D i j
  refine r_iload dX12_findTurns_22 rfl ?_
  refine n_if_lt (tgt := 207) dX12_findTurns_24 (by decide) (by omega) (fun c24 => absurd c24 (Nat.not_lt_zero _)) (fun c24 => ?_)
  refine r_iload dX12_findTurns_27 rfl ?_
  refine r_iconst dX12_findTurns_29 ic_2 ?_
  refine r_irem dX12_findTurns_30 (by decide) ?_
  refine g_top (rem2 (by omega)) ?_
  refine n_if_ne (tgt := 38) dX12_findTurns_31 (by decide) (by omega) (fun c31 => ?_) (fun c31 => ?_)
  · skip
    refine r_iload_n dX12_findTurns_38 rfl ?_
    refine g_top (show _ = nI (whoT D i j) by unfold whoT; first | (rw [if_pos c31]; done) | (rw [if_neg c31]; done)) ?_
    refine r_istore (L' := [_, _, _, _, _, _, _, _, _]) dX12_findTurns_39 rfl rfl ?_
    refine r_iload dX12_findTurns_41 rfl ?_
    refine r_iload_n dX12_findTurns_43 rfl ?_
    refine n_icmp_ne (tgt := 52) dX12_findTurns_44 (by decide) (by omega) (by omega) (fun c44 => ?_) (fun c44 => absurd c44 (by omega))
    refine r_aload_n dX12_findTurns_52 rfl ?_
    refine r_iload dX12_findTurns_53 rfl ?_
    refine r_aload_n dX12_findTurns_55 rfl ?_
    refine g_getR dX12_findTurns_56 f_X12_34 (Mod.sg (by assumption)) rfl (Mod.r106 (by assumption)) ?_
    refine r_iload dX12_findTurns_59 rfl ?_
    refine g_iald dX12_findTurns_61 (Mod.s106 (by assumption)) rfl (by omega) (by omega) h106 ?_
    refine r_V2 dX12_findTurns_62 l_X12_191 k_X12_nextGift i_X12_nextGift (Mod.sg (by assumption)) ⟨_, rfl⟩ (Nat.le_of_ble_eq_true rfl) (hN _) (List.prefix_refl S) ?_
    refine r_istore (L' := [_, _, _, _, _, _, _, _, _]) dX12_findTurns_65 rfl rfl ?_
    refine r_iload dX12_findTurns_67 rfl ?_
    refine r_ldc dX12_findTurns_69 c_X12_176 ?_
    refine r_icmp_eq (tgt := 107) dX12_findTurns_71 (by decide) (fun c71 => absurd c71 hx) (fun c71 => ?_)
    refine r_aload_n dX12_findTurns_74 rfl ?_
    refine g_getR dX12_findTurns_75 f_X12_34 (Mod.sg (by assumption)) rfl (Mod.r106 (by assumption)) ?_
    refine r_iload dX12_findTurns_78 rfl ?_
    refine r_iload dX12_findTurns_80 rfl ?_
    refine g_iast dX12_findTurns_82 (Mod.s106 (by assumption)) rfl (by omega) (by omega) ?_
    refine r_aload_n dX12_findTurns_83 rfl ?_
    refine r_iload dX12_findTurns_84 rfl ?_
    refine r_iload_n dX12_findTurns_86 rfl ?_
    refine r_iload_n dX12_findTurns_87 rfl ?_
    refine n_iadd dX12_findTurns_88 ?_
    refine r_iload dX12_findTurns_89 rfl ?_
    refine n_isub dX12_findTurns_91 (by omega) ?_
    refine r_V2 dX12_findTurns_92 l_X12_194 k_X12_gives i_X12_gives (Mod.sg (by assumption)) ⟨_, rfl⟩ (Nat.le_of_ble_eq_true rfl) (hG _) (List.prefix_refl S) ?_
    refine r_iinc (L' := [_, _, _, _, _, _, _, _, _]) dX12_findTurns_95 rfl rfl (nI_inc _) rfl ?_
    refine r_aload_n dX12_findTurns_98 rfl ?_
    refine r_iload dX12_findTurns_99 rfl ?_
    refine r_V1 dX12_findTurns_101 l_X12_187 k_X12_opens i_X12_opens (Mod.sg (by assumption)) ⟨_, rfl⟩ (Nat.le_of_ble_eq_true rfl) (v_X12_opens X _ hm (by omega)) (List.prefix_refl S) ?_
    exact r_goto (tgt := 204) dX12_findTurns_104 (by decide) (r_goto (tgt := 22) dX12_findTurns_204 (by decide) (JJ.wk_at 5 (JJ.wk_at 6 K)))
  · skip
    refine r_iload_n dX12_findTurns_34 rfl ?_
    refine r_goto (tgt := 39) dX12_findTurns_35 (by decide) ?_
    refine g_top (show _ = nI (whoT D i j) by unfold whoT; first | (rw [if_pos c31]; done) | (rw [if_neg c31]; done)) ?_
    refine r_istore (L' := [_, _, _, _, _, _, _, _, _]) dX12_findTurns_39 rfl rfl ?_
    refine r_iload dX12_findTurns_41 rfl ?_
    refine r_iload_n dX12_findTurns_43 rfl ?_
    refine n_icmp_ne (tgt := 52) dX12_findTurns_44 (by decide) (by omega) (by omega) (fun c44 => ?_) (fun c44 => absurd c44 (by omega))
    refine r_aload_n dX12_findTurns_52 rfl ?_
    refine r_iload dX12_findTurns_53 rfl ?_
    refine r_aload_n dX12_findTurns_55 rfl ?_
    refine g_getR dX12_findTurns_56 f_X12_34 (Mod.sg (by assumption)) rfl (Mod.r106 (by assumption)) ?_
    refine r_iload dX12_findTurns_59 rfl ?_
    refine g_iald dX12_findTurns_61 (Mod.s106 (by assumption)) rfl (by omega) (by omega) h106 ?_
    refine r_V2 dX12_findTurns_62 l_X12_191 k_X12_nextGift i_X12_nextGift (Mod.sg (by assumption)) ⟨_, rfl⟩ (Nat.le_of_ble_eq_true rfl) (hN _) (List.prefix_refl S) ?_
    refine r_istore (L' := [_, _, _, _, _, _, _, _, _]) dX12_findTurns_65 rfl rfl ?_
    refine r_iload dX12_findTurns_67 rfl ?_
    refine r_ldc dX12_findTurns_69 c_X12_176 ?_
    refine r_icmp_eq (tgt := 107) dX12_findTurns_71 (by decide) (fun c71 => absurd c71 hx) (fun c71 => ?_)
    refine r_aload_n dX12_findTurns_74 rfl ?_
    refine g_getR dX12_findTurns_75 f_X12_34 (Mod.sg (by assumption)) rfl (Mod.r106 (by assumption)) ?_
    refine r_iload dX12_findTurns_78 rfl ?_
    refine r_iload dX12_findTurns_80 rfl ?_
    refine g_iast dX12_findTurns_82 (Mod.s106 (by assumption)) rfl (by omega) (by omega) ?_
    refine r_aload_n dX12_findTurns_83 rfl ?_
    refine r_iload dX12_findTurns_84 rfl ?_
    refine r_iload_n dX12_findTurns_86 rfl ?_
    refine r_iload_n dX12_findTurns_87 rfl ?_
    refine n_iadd dX12_findTurns_88 ?_
    refine r_iload dX12_findTurns_89 rfl ?_
    refine n_isub dX12_findTurns_91 (by omega) ?_
    refine r_V2 dX12_findTurns_92 l_X12_194 k_X12_gives i_X12_gives (Mod.sg (by assumption)) ⟨_, rfl⟩ (Nat.le_of_ble_eq_true rfl) (hG _) (List.prefix_refl S) ?_
    refine r_iinc (L' := [_, _, _, _, _, _, _, _, _]) dX12_findTurns_95 rfl rfl (nI_inc _) rfl ?_
    refine r_aload_n dX12_findTurns_98 rfl ?_
    refine r_iload dX12_findTurns_99 rfl ?_
    refine r_V1 dX12_findTurns_101 l_X12_187 k_X12_opens i_X12_opens (Mod.sg (by assumption)) ⟨_, rfl⟩ (Nat.le_of_ble_eq_true rfl) (v_X12_opens X _ hm (by omega)) (List.prefix_refl S) ?_
    exact r_goto (tgt := 204) dX12_findTurns_104 (by decide) (r_goto (tgt := 22) dX12_findTurns_204 (by decide) (JJ.wk_at 5 (JJ.wk_at 6 K)))

set_option maxHeartbeats 4000000 in
set_option maxRecDepth 100000 in
theorem g_ft2 (X : mCx) (d : Nat) {S : mSh} {I : mI} {R : mR} {i j n D : Nat} {r : Option Value} {h : mHp} (hm : Mod S R) {g : Int32} (hi : i < 6) (hj : j < 6) (hn : n ≤ 4) (hD : D ≤ n) (hDn : D < n) (h106 : I 106 D = g) (hN : ∀ d, CC X (d + 1) M_X12_nextGift [.ref 97, .int (nI (whoT D i j)), .int g] S (I, R) (some (.int FARI)) S (I, R)) (K : JJ X M_X12_findTurns (d + 4) 163 [.ref 97, .int (nI i), .int (nI j), .int (nI n), .int (nI D), .retAddr 0, .retAddr 0, .int (I 107 D), .int (I 108 D)] [] S (I, R) r S h) : JJ X M_X12_findTurns (d + 4) 22 [.ref 97, .int (nI i), .int (nI j), .int (nI n), .int (nI D), .retAddr 0, .retAddr 0, .retAddr 0, .retAddr 0] [] S (I, R) (r) S h := by
  have hwt := whoT_c D i j
  refine r_iload dX12_findTurns_22 rfl ?_
  refine n_if_lt (tgt := 207) dX12_findTurns_24 (by decide) (by omega) (fun c24 => absurd c24 (Nat.not_lt_zero _)) (fun c24 => ?_)
  refine r_iload dX12_findTurns_27 rfl ?_
  refine r_iconst dX12_findTurns_29 ic_2 ?_
  refine r_irem dX12_findTurns_30 (by decide) ?_
  refine g_top (rem2 (by omega)) ?_
  refine n_if_ne (tgt := 38) dX12_findTurns_31 (by decide) (by omega) (fun c31 => ?_) (fun c31 => ?_)
  · skip
    refine r_iload_n dX12_findTurns_38 rfl ?_
    refine g_top (show _ = nI (whoT D i j) by unfold whoT; first | (rw [if_pos c31]; done) | (rw [if_neg c31]; done)) ?_
    refine r_istore (L' := [_, _, _, _, _, _, _, _, _]) dX12_findTurns_39 rfl rfl ?_
    refine r_iload dX12_findTurns_41 rfl ?_
    refine r_iload_n dX12_findTurns_43 rfl ?_
    refine n_icmp_ne (tgt := 52) dX12_findTurns_44 (by decide) (by omega) (by omega) (fun c44 => ?_) (fun c44 => absurd c44 (by omega))
    refine r_aload_n dX12_findTurns_52 rfl ?_
    refine r_iload dX12_findTurns_53 rfl ?_
    refine r_aload_n dX12_findTurns_55 rfl ?_
    refine g_getR dX12_findTurns_56 f_X12_34 (Mod.sg (by assumption)) rfl (Mod.r106 (by assumption)) ?_
    refine r_iload dX12_findTurns_59 rfl ?_
    refine g_iald dX12_findTurns_61 (Mod.s106 (by assumption)) rfl (by omega) (by omega) h106 ?_
    refine r_V2 dX12_findTurns_62 l_X12_191 k_X12_nextGift i_X12_nextGift (Mod.sg (by assumption)) ⟨_, rfl⟩ (Nat.le_of_ble_eq_true rfl) (hN _) (List.prefix_refl S) ?_
    refine r_istore (L' := [_, _, _, _, _, _, _, _, _]) dX12_findTurns_65 rfl rfl ?_
    refine r_iload dX12_findTurns_67 rfl ?_
    refine r_ldc dX12_findTurns_69 c_X12_176 ?_
    refine r_icmp_eq (tgt := 107) dX12_findTurns_71 (by decide) (fun c71 => ?_) (fun c71 => absurd rfl c71)
    refine r_iload dX12_findTurns_107 rfl ?_
    refine r_iload_n dX12_findTurns_109 rfl ?_
    refine n_icmp_ne (tgt := 126) dX12_findTurns_110 (by decide) (by omega) (by omega) (fun c110 => ?_) (fun c110 => absurd c110 (by omega))
    refine r_aload_n dX12_findTurns_126 rfl ?_
    refine g_getR dX12_findTurns_127 f_X12_37 (Mod.sg (by assumption)) rfl (Mod.r107 (by assumption)) ?_
    refine r_iload dX12_findTurns_130 rfl ?_
    refine g_iald dX12_findTurns_132 (Mod.s107 (by assumption)) rfl (by omega) (by omega) rfl ?_
    refine r_istore (L' := [_, _, _, _, _, _, _, _, _]) dX12_findTurns_133 rfl rfl ?_
    refine r_iload dX12_findTurns_135 rfl ?_
    refine r_iload_n dX12_findTurns_137 rfl ?_
    refine n_icmp_ne (tgt := 154) dX12_findTurns_138 (by decide) (by omega) (by omega) (fun c138 => ?_) (fun c138 => absurd c138 (by omega))
    refine r_aload_n dX12_findTurns_154 rfl ?_
    refine g_getR dX12_findTurns_155 f_X12_40 (Mod.sg (by assumption)) rfl (Mod.r108 (by assumption)) ?_
    refine r_iload dX12_findTurns_158 rfl ?_
    refine g_iald dX12_findTurns_160 (Mod.s108 (by assumption)) rfl (by omega) (by omega) rfl ?_
    refine r_istore (L' := [_, _, _, _, _, _, _, _, _]) dX12_findTurns_161 rfl rfl ?_
    exact JJ.wk_at 5 (JJ.wk_at 6 K)
  · skip
    refine r_iload_n dX12_findTurns_34 rfl ?_
    refine r_goto (tgt := 39) dX12_findTurns_35 (by decide) ?_
    refine g_top (show _ = nI (whoT D i j) by unfold whoT; first | (rw [if_pos c31]; done) | (rw [if_neg c31]; done)) ?_
    refine r_istore (L' := [_, _, _, _, _, _, _, _, _]) dX12_findTurns_39 rfl rfl ?_
    refine r_iload dX12_findTurns_41 rfl ?_
    refine r_iload_n dX12_findTurns_43 rfl ?_
    refine n_icmp_ne (tgt := 52) dX12_findTurns_44 (by decide) (by omega) (by omega) (fun c44 => ?_) (fun c44 => absurd c44 (by omega))
    refine r_aload_n dX12_findTurns_52 rfl ?_
    refine r_iload dX12_findTurns_53 rfl ?_
    refine r_aload_n dX12_findTurns_55 rfl ?_
    refine g_getR dX12_findTurns_56 f_X12_34 (Mod.sg (by assumption)) rfl (Mod.r106 (by assumption)) ?_
    refine r_iload dX12_findTurns_59 rfl ?_
    refine g_iald dX12_findTurns_61 (Mod.s106 (by assumption)) rfl (by omega) (by omega) h106 ?_
    refine r_V2 dX12_findTurns_62 l_X12_191 k_X12_nextGift i_X12_nextGift (Mod.sg (by assumption)) ⟨_, rfl⟩ (Nat.le_of_ble_eq_true rfl) (hN _) (List.prefix_refl S) ?_
    refine r_istore (L' := [_, _, _, _, _, _, _, _, _]) dX12_findTurns_65 rfl rfl ?_
    refine r_iload dX12_findTurns_67 rfl ?_
    refine r_ldc dX12_findTurns_69 c_X12_176 ?_
    refine r_icmp_eq (tgt := 107) dX12_findTurns_71 (by decide) (fun c71 => ?_) (fun c71 => absurd rfl c71)
    refine r_iload dX12_findTurns_107 rfl ?_
    refine r_iload_n dX12_findTurns_109 rfl ?_
    refine n_icmp_ne (tgt := 126) dX12_findTurns_110 (by decide) (by omega) (by omega) (fun c110 => ?_) (fun c110 => absurd c110 (by omega))
    refine r_aload_n dX12_findTurns_126 rfl ?_
    refine g_getR dX12_findTurns_127 f_X12_37 (Mod.sg (by assumption)) rfl (Mod.r107 (by assumption)) ?_
    refine r_iload dX12_findTurns_130 rfl ?_
    refine g_iald dX12_findTurns_132 (Mod.s107 (by assumption)) rfl (by omega) (by omega) rfl ?_
    refine r_istore (L' := [_, _, _, _, _, _, _, _, _]) dX12_findTurns_133 rfl rfl ?_
    refine r_iload dX12_findTurns_135 rfl ?_
    refine r_iload_n dX12_findTurns_137 rfl ?_
    refine n_icmp_ne (tgt := 154) dX12_findTurns_138 (by decide) (by omega) (by omega) (fun c138 => ?_) (fun c138 => absurd c138 (by omega))
    refine r_aload_n dX12_findTurns_154 rfl ?_
    refine g_getR dX12_findTurns_155 f_X12_40 (Mod.sg (by assumption)) rfl (Mod.r108 (by assumption)) ?_
    refine r_iload dX12_findTurns_158 rfl ?_
    refine g_iald dX12_findTurns_160 (Mod.s108 (by assumption)) rfl (by omega) (by omega) rfl ?_
    refine r_istore (L' := [_, _, _, _, _, _, _, _, _]) dX12_findTurns_161 rfl rfl ?_
    exact JJ.wk_at 5 (JJ.wk_at 6 K)

set_option maxHeartbeats 4000000 in
set_option maxRecDepth 100000 in
theorem g_ft3 (X : mCx) (d : Nat) {S : mSh} {I : mI} {R : mR} {w s : Nat → Int32} {N G hb i j n D : Nat} {r : Option Value} {h : mHp} (hm : Mod S R) (hw : MoW I w N G) (hd : MoD I 385 s hb) (hi : i < N) (hj : j < N) (hn : n ≤ 4) (hD : D = n) (K : JJ X M_X12_findTurns (d + 4) 163 [.ref 97, .int (nI i), .int (nI j), .int (nI n), .int (nI D), .retAddr 0, .retAddr 0, .int (owe w s N G hb i), .int (owe w s N G hb j)] [] S (I, R) r S h) : JJ X M_X12_findTurns (d + 4) 22 [.ref 97, .int (nI i), .int (nI j), .int (nI n), .int (nI D), .retAddr 0, .retAddr 0, .retAddr 0, .retAddr 0] [] S (I, R) (r) S h := by
  have hN6 := hw.N6
  have hwt := whoT_c D i j
  refine r_iload dX12_findTurns_22 rfl ?_
  refine n_if_lt (tgt := 207) dX12_findTurns_24 (by decide) (by omega) (fun c24 => absurd c24 (Nat.not_lt_zero _)) (fun c24 => ?_)
  refine r_iload dX12_findTurns_27 rfl ?_
  refine r_iconst dX12_findTurns_29 ic_2 ?_
  refine r_irem dX12_findTurns_30 (by decide) ?_
  refine g_top (rem2 (by omega)) ?_
  refine n_if_ne (tgt := 38) dX12_findTurns_31 (by decide) (by omega) (fun c31 => ?_) (fun c31 => ?_)
  · skip
    refine r_iload_n dX12_findTurns_38 rfl ?_
    refine g_top (show _ = nI (whoT D i j) by unfold whoT; first | (rw [if_pos c31]; done) | (rw [if_neg c31]; done)) ?_
    refine r_istore (L' := [_, _, _, _, _, _, _, _, _]) dX12_findTurns_39 rfl rfl ?_
    refine r_iload dX12_findTurns_41 rfl ?_
    refine r_iload_n dX12_findTurns_43 rfl ?_
    refine n_icmp_ne (tgt := 52) dX12_findTurns_44 (by decide) (by omega) (by omega) (fun c44 => absurd c44 (by omega)) (fun c44 => ?_)
    refine r_ldc dX12_findTurns_47 c_X12_176 ?_
    refine r_goto (tgt := 65) dX12_findTurns_49 (by decide) ?_
    refine r_istore (L' := [_, _, _, _, _, _, _, _, _]) dX12_findTurns_65 rfl rfl ?_
    refine r_iload dX12_findTurns_67 rfl ?_
    refine r_ldc dX12_findTurns_69 c_X12_176 ?_
    refine r_icmp_eq (tgt := 107) dX12_findTurns_71 (by decide) (fun c71 => ?_) (fun c71 => absurd rfl c71)
    refine r_iload dX12_findTurns_107 rfl ?_
    refine r_iload_n dX12_findTurns_109 rfl ?_
    refine n_icmp_ne (tgt := 126) dX12_findTurns_110 (by decide) (by omega) (by omega) (fun c110 => absurd c110 (by omega)) (fun c110 => ?_)
    refine r_aload_n dX12_findTurns_113 rfl ?_
    refine r_sipush dX12_findTurns_114 sp_385 ?_
    refine r_iload_n dX12_findTurns_117 rfl ?_
    refine r_bipush dX12_findTurns_118 bp_m4 ?_
    refine r_V3 dX12_findTurns_120 l_X12_141 k_X12_owesIn i_X12_owesIn (Mod.sg (by assumption)) ⟨_, rfl⟩ (Nat.le_of_ble_eq_true rfl) (v_X12_owesIn X _ hm hw hd hi) (List.prefix_refl S) ?_
    rw [lLw_n hN6]
    rw [show duty w i (gLeft w s G i + lLeft w N i hb) = (owe w s N G hb i) from rfl]
    refine r_goto (tgt := 133) dX12_findTurns_123 (by decide) ?_
    refine r_istore (L' := [_, _, _, _, _, _, _, _, _]) dX12_findTurns_133 rfl rfl ?_
    refine r_iload dX12_findTurns_135 rfl ?_
    refine r_iload_n dX12_findTurns_137 rfl ?_
    refine n_icmp_ne (tgt := 154) dX12_findTurns_138 (by decide) (by omega) (by omega) (fun c138 => absurd c138 (by omega)) (fun c138 => ?_)
    refine r_aload_n dX12_findTurns_141 rfl ?_
    refine r_sipush dX12_findTurns_142 sp_385 ?_
    refine r_iload_n dX12_findTurns_145 rfl ?_
    refine r_bipush dX12_findTurns_146 bp_m4 ?_
    refine r_V3 dX12_findTurns_148 l_X12_141 k_X12_owesIn i_X12_owesIn (Mod.sg (by assumption)) ⟨_, rfl⟩ (Nat.le_of_ble_eq_true rfl) (v_X12_owesIn X _ hm hw hd hj) (List.prefix_refl S) ?_
    rw [lLw_n hN6]
    rw [show duty w j (gLeft w s G j + lLeft w N j hb) = (owe w s N G hb j) from rfl]
    refine r_goto (tgt := 161) dX12_findTurns_151 (by decide) ?_
    refine r_istore (L' := [_, _, _, _, _, _, _, _, _]) dX12_findTurns_161 rfl rfl ?_
    exact JJ.wk_at 5 (JJ.wk_at 6 K)
  · skip
    refine r_iload_n dX12_findTurns_34 rfl ?_
    refine r_goto (tgt := 39) dX12_findTurns_35 (by decide) ?_
    refine g_top (show _ = nI (whoT D i j) by unfold whoT; first | (rw [if_pos c31]; done) | (rw [if_neg c31]; done)) ?_
    refine r_istore (L' := [_, _, _, _, _, _, _, _, _]) dX12_findTurns_39 rfl rfl ?_
    refine r_iload dX12_findTurns_41 rfl ?_
    refine r_iload_n dX12_findTurns_43 rfl ?_
    refine n_icmp_ne (tgt := 52) dX12_findTurns_44 (by decide) (by omega) (by omega) (fun c44 => absurd c44 (by omega)) (fun c44 => ?_)
    refine r_ldc dX12_findTurns_47 c_X12_176 ?_
    refine r_goto (tgt := 65) dX12_findTurns_49 (by decide) ?_
    refine r_istore (L' := [_, _, _, _, _, _, _, _, _]) dX12_findTurns_65 rfl rfl ?_
    refine r_iload dX12_findTurns_67 rfl ?_
    refine r_ldc dX12_findTurns_69 c_X12_176 ?_
    refine r_icmp_eq (tgt := 107) dX12_findTurns_71 (by decide) (fun c71 => ?_) (fun c71 => absurd rfl c71)
    refine r_iload dX12_findTurns_107 rfl ?_
    refine r_iload_n dX12_findTurns_109 rfl ?_
    refine n_icmp_ne (tgt := 126) dX12_findTurns_110 (by decide) (by omega) (by omega) (fun c110 => absurd c110 (by omega)) (fun c110 => ?_)
    refine r_aload_n dX12_findTurns_113 rfl ?_
    refine r_sipush dX12_findTurns_114 sp_385 ?_
    refine r_iload_n dX12_findTurns_117 rfl ?_
    refine r_bipush dX12_findTurns_118 bp_m4 ?_
    refine r_V3 dX12_findTurns_120 l_X12_141 k_X12_owesIn i_X12_owesIn (Mod.sg (by assumption)) ⟨_, rfl⟩ (Nat.le_of_ble_eq_true rfl) (v_X12_owesIn X _ hm hw hd hi) (List.prefix_refl S) ?_
    rw [lLw_n hN6]
    rw [show duty w i (gLeft w s G i + lLeft w N i hb) = (owe w s N G hb i) from rfl]
    refine r_goto (tgt := 133) dX12_findTurns_123 (by decide) ?_
    refine r_istore (L' := [_, _, _, _, _, _, _, _, _]) dX12_findTurns_133 rfl rfl ?_
    refine r_iload dX12_findTurns_135 rfl ?_
    refine r_iload_n dX12_findTurns_137 rfl ?_
    refine n_icmp_ne (tgt := 154) dX12_findTurns_138 (by decide) (by omega) (by omega) (fun c138 => absurd c138 (by omega)) (fun c138 => ?_)
    refine r_aload_n dX12_findTurns_141 rfl ?_
    refine r_sipush dX12_findTurns_142 sp_385 ?_
    refine r_iload_n dX12_findTurns_145 rfl ?_
    refine r_bipush dX12_findTurns_146 bp_m4 ?_
    refine r_V3 dX12_findTurns_148 l_X12_141 k_X12_owesIn i_X12_owesIn (Mod.sg (by assumption)) ⟨_, rfl⟩ (Nat.le_of_ble_eq_true rfl) (v_X12_owesIn X _ hm hw hd hj) (List.prefix_refl S) ?_
    rw [lLw_n hN6]
    rw [show duty w j (gLeft w s G j + lLeft w N j hb) = (owe w s N G hb j) from rfl]
    refine r_goto (tgt := 161) dX12_findTurns_151 (by decide) ?_
    refine r_istore (L' := [_, _, _, _, _, _, _, _, _]) dX12_findTurns_161 rfl rfl ?_
    exact JJ.wk_at 5 (JJ.wk_at 6 K)

set_option maxHeartbeats 4000000 in
set_option maxRecDepth 100000 in
theorem g_ft4 (X : mCx) (d : Nat) {S : mSh} {I : mI} {R : mR} {i j n D : Nat} {r : Option Value} {h : mHp} (hm : Mod S R) {a b g : Int32} {I2 I3 : mI} (hi : i < 6) (hj : j < 6) (hn : n ≤ 4) (hD : D ≤ n) (h106 : I 106 D = g) (hG : ∀ d, CC X (d + 1) M_X12_gives [.ref 97, .int g, .int (nI (whoT D i j))] S (I, R) none S (I2, R)) (hO : ∀ d, CC X (d + 1) M_X12_offers [.ref 97, .int (nI D), .int a, .int b] S (I2, R) none S (I3, R)) (K : JJ X M_X12_findTurns (d + 4) 22 [.ref 97, .int (nI i), .int (nI j), .int (nI n), .int (nI D), .retAddr 0, .retAddr 0, .retAddr 0, .retAddr 0] [] S (I3, R) r S h) : JJ X M_X12_findTurns (d + 4) 163 [.ref 97, .int (nI i), .int (nI j), .int (nI n), .int (nI (D + 1)), .retAddr 0, .retAddr 0, .int a, .int b] [] S (I, R) (r) S h := by
  have hwt := whoT_c D i j
  refine r_iinc (L' := [_, _, _, _, _, _, _, _, _]) dX12_findTurns_163 rfl rfl (nI_dec (by omega)) rfl ?_
  refine JJ.to (L1 := [.ref 97, .int (nI i), .int (nI j), .int (nI n), .int (nI D), .retAddr 0, .retAddr 0, .int a, .int b]) ?_ (by rw [Nat.add_sub_cancel]) rfl rfl
  refine r_iload dX12_findTurns_166 rfl ?_
  refine n_if_lt (tgt := 204) dX12_findTurns_168 (by decide) (by omega) (fun c168 => absurd c168 (Nat.not_lt_zero _)) (fun c168 => ?_)
  refine r_aload_n dX12_findTurns_171 rfl ?_
  refine r_aload_n dX12_findTurns_172 rfl ?_
  refine g_getR dX12_findTurns_173 f_X12_34 (Mod.sg (by assumption)) rfl (Mod.r106 (by assumption)) ?_
  refine r_iload dX12_findTurns_176 rfl ?_
  refine g_iald dX12_findTurns_178 (Mod.s106 (by assumption)) rfl (by omega) (by omega) h106 ?_
  refine r_iload dX12_findTurns_179 rfl ?_
  refine r_iconst dX12_findTurns_181 ic_2 ?_
  refine r_irem dX12_findTurns_182 (by decide) ?_
  refine g_top (rem2 (by omega)) ?_
  refine n_if_ne (tgt := 190) dX12_findTurns_183 (by decide) (by omega) (fun c183 => ?_) (fun c183 => ?_)
  · skip
    refine r_iload_n dX12_findTurns_190 rfl ?_
    refine g_top (show _ = nI (whoT D i j) by unfold whoT; first | (rw [if_pos c183]; done) | (rw [if_neg c183]; done)) ?_
    refine r_V2 dX12_findTurns_191 l_X12_194 k_X12_gives i_X12_gives (Mod.sg (by assumption)) ⟨_, rfl⟩ (Nat.le_of_ble_eq_true rfl) (hG _) (List.prefix_refl S) ?_
    refine r_aload_n dX12_findTurns_194 rfl ?_
    refine r_iload dX12_findTurns_195 rfl ?_
    refine r_iload dX12_findTurns_197 rfl ?_
    refine r_iload dX12_findTurns_199 rfl ?_
    refine r_V3 dX12_findTurns_201 l_X12_197 k_X12_offers i_X12_offers (Mod.sg (by assumption)) ⟨_, rfl⟩ (Nat.le_of_ble_eq_true rfl) (hO _) (List.prefix_refl S) ?_
    exact r_goto (tgt := 22) dX12_findTurns_204 (by decide) (JJ.wk_at 7 (JJ.wk_at 8 K))
  · skip
    refine r_iload_n dX12_findTurns_186 rfl ?_
    refine r_goto (tgt := 191) dX12_findTurns_187 (by decide) ?_
    refine g_top (show _ = nI (whoT D i j) by unfold whoT; first | (rw [if_pos c183]; done) | (rw [if_neg c183]; done)) ?_
    refine r_V2 dX12_findTurns_191 l_X12_194 k_X12_gives i_X12_gives (Mod.sg (by assumption)) ⟨_, rfl⟩ (Nat.le_of_ble_eq_true rfl) (hG _) (List.prefix_refl S) ?_
    refine r_aload_n dX12_findTurns_194 rfl ?_
    refine r_iload dX12_findTurns_195 rfl ?_
    refine r_iload dX12_findTurns_197 rfl ?_
    refine r_iload dX12_findTurns_199 rfl ?_
    refine r_V3 dX12_findTurns_201 l_X12_197 k_X12_offers i_X12_offers (Mod.sg (by assumption)) ⟨_, rfl⟩ (Nat.le_of_ble_eq_true rfl) (hO _) (List.prefix_refl S) ?_
    exact r_goto (tgt := 22) dX12_findTurns_204 (by decide) (JJ.wk_at 7 (JJ.wk_at 8 K))

set_option maxHeartbeats 4000000 in
set_option maxRecDepth 100000 in
theorem g_ft5 (X : mCx) (d : Nat) {S : mSh} {I : mI} {R : mR} {i j n : Nat} (hm : Mod S R) {a b : Int32}  : JJ X M_X12_findTurns (d + 4) 163 [.ref 97, .int (nI i), .int (nI j), .int (nI n), .int (nI 0), .retAddr 0, .retAddr 0, .int a, .int b] [] S (I, R) (none) S (I, R) := by
  refine r_iinc (L' := [_, _, _, _, _, _, _, _, _]) dX12_findTurns_163 rfl rfl rfl rfl ?_
  refine r_iload dX12_findTurns_166 rfl ?_
  refine r_if_lt (tgt := 204) dX12_findTurns_168 (by decide) (fun c168 => ?_) (fun c168 => absurd (by decide) c168)
  refine r_goto (tgt := 22) dX12_findTurns_204 (by decide) ?_
  refine r_iload dX12_findTurns_22 rfl ?_
  refine r_if_lt (tgt := 207) dX12_findTurns_24 (by decide) (fun c24 => ?_) (fun c24 => absurd (by decide) c24)
  exact g_vret dX12_findTurns_207 rfl rfl

