/-! ===== the constant: its length, its letters ===== -/
section
variable {X : mCx} {M : mMe} {d pc : Nat} {L st : List Value} {S S' : mSh} {h h' : mHp} {r : Option Value}
theorem r_getsC (hd : decode M.2.1 pc = .ok (.getstatic 38, 3)) (hc : M.1.cls = RJ0) (K : JJ X M d (pc + 3) L (.int (nI 1) :: st) S h r S' h') : JJ X M d pc L st S h r S' h' := fun hpre p e s m args below meth c R S0 Q F ret H locs cells slots ls hA hL => va_gets F.1 F.2.1 (C := "java/lang/String") (n := "COMPACT_STRINGS") (d := "Z") (own := RJ0) (ref := "java/lang/String") (v := .int (nI 1)) (show va_Z "java/lang/String" "COMPACT_STRINGS" "Z" (.int (nI 1)) (fun q => xB X ≤ q) s s.heap from (show nI 1 = 1 by decide) ▸ F.2.2.2.2.2.2.2.2.2.2.2.2.2.2.2.2.1) hA.2.2.1 (by rw [← hc]; exact F.2.2.2.1) (F.2.2.2.2.2.1 _ (mWd_at 250 (by decide +kernel) rfl)) (fun _ z => z) hd (K hpre p e s m args below meth c R S0 Q F ret H locs cells slots ls hA hL)
theorem r_getsF (hd : decode M.2.1 pc = .ok (.getstatic 1053, 3)) (hc : M.1.cls = RJ0) (K : JJ X M d (pc + 3) L (.float 3 :: st) S h r S' h') : JJ X M d pc L st S h r S' h' := fun hpre p e s m args below meth c R S0 Q F ret H locs cells slots ls hA hL => va_gets F.1 F.2.1 (C := "jdk/internal/util/Preconditions") (n := "SIOOBE_FORMATTER") (d := "Ljava/util/function/BiFunction;") (own := RJ0) (ref := "jdk/internal/util/Preconditions") (v := mFm X) F.2.2.2.2.2.2.2.2.2.2.2.2.2.2.2.2.2.1 hA.2.2.1 (by rw [← hc]; exact F.2.2.2.1) (F.2.2.2.2.2.1 _ (mWd_at 266 (by decide +kernel) rfl)) (fun _ z => z) hd (K hpre p e s m args below meth c R S0 Q F ret H locs cells slots ls hA hL)
theorem r_getV (hd : decode M.2.1 pc = .ok (.getfield 9, 3)) (hc : M.1.cls = RJ0) (K : JJ X M d (pc + 3) L (.float 2 :: st) S h r S' h') : JJ X M d pc L (.float 0 :: st) S h r S' h' := fun hpre p e s m args below meth c R S0 Q F ret H locs cells slots ls hA hL => vk_getf F.1 F.2.1 (o := "java/lang/String") (n := "value") (d := "[B") (own := RJ0) (ref := "java/lang/String") (q := xK X 0) (v := .ref (xV X 0)) (F.2.2.2.2.2.2.2.2.2.2.2.2.1.1 0 (by decide)).2.2.1 hA.2.2.1 (by rw [← hc]; exact F.2.2.2.1) (F.2.2.2.2.2.1 _ (mWd_at 1163 (by decide +kernel) rfl)) (fun _ z => z) hd (K hpre p e s m args below meth c R S0 Q F ret H locs cells slots ls hA hL)
theorem r_getCo (hd : decode M.2.1 pc = .ok (.getfield 15, 3)) (hc : M.1.cls = RJ0) (K : JJ X M d (pc + 3) L (.int (nI 0) :: st) S h r S' h') : JJ X M d pc L (.float 0 :: st) S h r S' h' := fun hpre p e s m args below meth c R S0 Q F ret H locs cells slots ls hA hL => vk_getf F.1 F.2.1 (o := "java/lang/String") (n := "coder") (d := "B") (own := RJ0) (ref := "java/lang/String") (q := xK X 0) (v := .int (nI 0)) (show va_OF "java/lang/String" "coder" "B" (.int (nI 0)) (xK X 0) (fun q => xB X ≤ q) s s.heap from (show nI 0 = 0 by decide) ▸ (F.2.2.2.2.2.2.2.2.2.2.2.2.1.1 0 (by decide)).2.1) hA.2.2.1 (by rw [← hc]; exact F.2.2.2.1) (F.2.2.2.2.2.1 _ (mWd_at 1164 (by decide +kernel) rfl)) (fun _ z => z) hd (K hpre p e s m args below meth c R S0 Q F ret H locs cells slots ls hA hL)
theorem r_alenB {v : Int32} (hd : decode M.2.1 pc = .ok (.arraylength, 1)) (hv : Int32.ofNat ([mBy.length].getD 0 0) = v) (K : JJ X M d (pc + 1) L (.int v :: st) S h r S' h') : JJ X M d pc L (.float 2 :: st) S h r S' h' := fun hpre p e s m args below meth c R S0 Q F ret H locs cells slots ls hA hL => va_tlen F.1 F.2.1 (t := xV X 0) (F.2.2.2.2.2.2.2.2.2.2.2.2.1.1 0 (by decide)).2.2.2 hA.2.2.1 hv hd (K hpre p e s m args below meth c R S0 Q F ret H locs cells slots ls hA hL)
theorem r_baldB {i v : Int32} (hd : decode M.2.1 pc = .ok (.baload, 1)) (hin : vp_in i ([mBy.length].getD 0 0)) (hv : ([mBy].getD 0 []).getD i.toNatClampNeg 0 = v) (K : JJ X M d (pc + 1) L (.int v :: st) S h r S' h') : JJ X M d pc L (.int i :: .float 2 :: st) S h r S' h' := fun hpre p e s m args below meth c R S0 Q F ret H locs cells slots ls hA hL => va_tb F.1 F.2.1 (t := xV X 0) (F.2.2.2.2.2.2.2.2.2.2.2.2.1.1 0 (by decide)).2.2.2 hA.2.2.1 hin (v := .int v) (congrArg Value.int hv) hd (K hpre p e s m args below meth c R S0 Q F ret H locs cells slots ls hA hL)
theorem r_callVF {idx n : Nat} {M2 : mMe} {rest : List Value} {S1 : mSh} {h1 : mHp} {r1 : Option Value} (as : List Value) (hd : decode M.2.1 pc = .ok (.invokevirtual idx, 3)) (hl : Cond.methodLink M.1.cls idx M2.1 ∈ mWd) (h2 : mK2 M2 n) (hI : mKI M2) (ho : M2.1.cls = RJ0) (hn : as.length = n) (hst : (rest.map Value.category).sum ≤ 8) (hC : CC X d M2 (.float 0 :: as) S h r1 S1 h1) (hpre2 : S1 <+: S') (K : JJ X M (d + 1) (pc + 3) L (r1.toList ++ rest) S1 h1 r S' h') : JJ X M (d + 1) pc L (as.reverse ++ .float 0 :: rest) S h r S' h' := by
  intro hpre p e s m args below meth c R S0 Q F ret H locs cells slots ls hA hL
  obtain ⟨hS1, hM⟩ := hC
  have b := mPre_len hA.2.2.2.1 hS1
  have b2 := mPre_len (hA.2.2.2.1.trans hS1) hpre2
  have g1 := F.2.2.2.2.2.2.2.2.1
  have g2 := F.2.2.2.2.2.2.2.2.2.1
  have g3 := hA.2.2.2.2.1
  have g4 := hA.2.2.2.2.2
  have hts := F.2.2.2.2.2.1
  have hf1 := F.2.2.2.2.2.2.1
  have hf2 := F.2.2.2.2.2.2.2.1
  have hcat : ((rest.map (mEnc X)).map fun v => v.category).sum ≤ 8 := by
    rw [List.map_map]
    have : (fun v => v.category) ∘ mEnc X = (fun v : Value => v.category) := by funext v; exact mEnc_cat X v
    rw [this]; exact hst
  have hrun := va_runV (l := xL X) (e := e) (below := below) (meth := meth) (H := H) (locs := locs) (cells := cells) (slots := slots) (As := as.map (mEnc X)) (b := xK X 0) (rest := rest.map (mEnc X)) (g := F0 m pc ls ((as.reverse ++ .float 0 :: rest).map (mEnc X))) ⟨F.1, F.2.1, F.2.2.1, F.2.2.2.1, hts⟩ hM ⟨(callB_of n hts (mWs_good h2.1) rfl rfl rfl (hts _ h2.2.1) (hts _ hl) h2.2.2.1 ⟨hf1, by show 8 + (M2.2.2.1 + 11) + 64 * d ≤ R.locals; have := h2.2.2.2; omega⟩), hts _ hI.1, hts _ hI.2⟩ ⟨mPc_blind _, by rw [ho]; exact vk_recv F.2.2.2.2.2.2.2.2.2.2.2.2.1 (by decide) hA.2.2.1, fun U hU hW => ⟨rfl, mU_at F hA hU hW⟩⟩ rfl (by rw [List.length_map]; exact hn) hL.2.1 (by rw [List.map_append, List.map_reverse]; rfl) (lv_room hcat) hd ⟨by omega, by omega⟩
  refine m_go hrun hA hS1 (fun H1 locs1 hA1 => ?_)
  have := K hpre2 p e s m args below meth c R S0 Q F ret H1 locs1 _ _ ls hA1 hL
  rw [List.map_append] at this
  cases r1 <;> exact this
theorem r_VF0 {idx : Nat} {M2 : mMe} {rest : List Value} {S1 : mSh} {h1 : mHp} {r1 : Option Value} (hd : decode M.2.1 pc = .ok (.invokevirtual idx, 3)) (hl : Cond.methodLink M.1.cls idx M2.1 ∈ mWd) (h2 : mK2 M2 0) (hI : mKI M2) (ho : M2.1.cls = RJ0) (hst : (rest.map Value.category).sum ≤ 8) (hC : CC X d M2 (.float 0 :: []) S h r1 S1 h1) (hpre2 : S1 <+: S') (K : JJ X M (d + 1) (pc + 3) L (r1.toList ++ rest) S1 h1 r S' h') : JJ X M (d + 1) pc L (.float 0 :: rest) S h r S' h' := r_callVF [] hd hl h2 hI ho rfl hst hC hpre2 K
theorem r_VF1 {idx : Nat} {M2 : mMe} {v0 : Value} {rest : List Value} {S1 : mSh} {h1 : mHp} {r1 : Option Value} (hd : decode M.2.1 pc = .ok (.invokevirtual idx, 3)) (hl : Cond.methodLink M.1.cls idx M2.1 ∈ mWd) (h2 : mK2 M2 1) (hI : mKI M2) (ho : M2.1.cls = RJ0) (hst : (rest.map Value.category).sum ≤ 8) (hC : CC X d M2 (.float 0 :: [v0]) S h r1 S1 h1) (hpre2 : S1 <+: S') (K : JJ X M (d + 1) (pc + 3) L (r1.toList ++ rest) S1 h1 r S' h') : JJ X M (d + 1) pc L (v0 :: .float 0 :: rest) S h r S' h' := r_callVF [v0] hd hl h2 hI ho rfl hst hC hpre2 K
end
def tLen : Nat := 145
/-- the letter at k -/
def tC (k : Nat) : Nat := (mTx.toList.getD k ' ').toNat
theorem mBy_len : mBy.length = mTx.toList.length := by unfold mBy; rw [List.length_map]
theorem mBy_L : [mBy.length].getD 0 0 = mTx.toList.length := by rw [List.getD_cons_zero, mBy_len]
theorem mBy_B : [mBy].getD 0 [] = mBy := List.getD_cons_zero
theorem tC_ok : ∀ k, k < mTx.toList.length → ((mBy.getD k 0 &&& nI 255).toUInt32 % 65536).toInt32 = nI (tC k) ∧ tC k < 128 ∧ narrow .char (.int (nI (tC k))) = .int (nI (tC k)) := by decide +kernel
theorem mTx_l : mTx.toList.length < 200 := by decide +kernel
theorem v_coder (X : mCx) (d : Nat) {S : mSh} {h : mHp} : CC X (d + 1) M_J0_coder_7d493 [.float 0] S h (some (.int (nI 0))) S h := by
  refine CC.of2 (L := [.float 0]) p_J0 (Nat.le_of_ble_eq_true rfl) rfl (by show narrow .byte (.int (nI 0)) = _; decide) (List.prefix_refl S) ?_
  refine r_getsC dJ0_coder_7d493_0 rfl ?_
  refine n_if_eq (tgt := 13) dJ0_coder_7d493_3 (by decide) (by decide) (fun c => absurd c (by decide)) (fun _ => ?_)
  refine r_aload_nF dJ0_coder_7d493_6 rfl ?_
  refine r_getCo dJ0_coder_7d493_7 rfl ?_
  refine r_goto (tgt := 14) dJ0_coder_7d493_10 (by decide) ?_
  exact g_iret dJ0_coder_7d493_14 rfl rfl
theorem v_length (X : mCx) (d : Nat) {S : mSh} {h : mHp} : CC X (d + 2) M_J0_length_8abf5 [.float 0] S h (some (.int (nI mTx.toList.length))) S h := by
  refine CC.of2 (L := [.float 0]) p_J0 (Nat.le_of_ble_eq_true rfl) rfl rfl (List.prefix_refl S) ?_
  refine r_aload_nF dJ0_length_8abf5_0 rfl ?_
  refine r_getV dJ0_length_8abf5_1 rfl ?_
  refine r_alenB dJ0_length_8abf5_4 (v := nI mTx.toList.length) (by rw [mBy_L]; rfl) ?_
  refine r_aload_nF dJ0_length_8abf5_5 rfl ?_
  refine r_VF0 dJ0_length_8abf5_6 l_J0_335 k_J0_coder_7d493 i_J0_coder_7d493 rfl (Nat.le_of_ble_eq_true rfl) (v_coder X _) (List.prefix_refl S) ?_
  refine r_ishr dJ0_length_8abf5_9 ?_
  refine g_top (y := nI mTx.toList.length) (by decide +kernel) ?_
  exact g_iret dJ0_length_8abf5_10 rfl rfl
theorem v_isLatin1 (X : mCx) (d : Nat) {S : mSh} {h : mHp} : CC X (d + 1) M_J0_isLatin1_aae02 [.float 0] S h (some (.int (nI 1))) S h := by
  refine CC.of2 (L := [.float 0]) p_J0 (Nat.le_of_ble_eq_true rfl) rfl (by show narrow .boolean (.int (nI 1)) = _; decide) (List.prefix_refl S) ?_
  refine r_getsC dJ0_isLatin1_aae02_0 rfl ?_
  refine n_if_eq (tgt := 17) dJ0_isLatin1_aae02_3 (by decide) (by decide) (fun c => absurd c (by decide)) (fun _ => ?_)
  refine r_aload_nF dJ0_isLatin1_aae02_6 rfl ?_
  refine r_getCo dJ0_isLatin1_aae02_7 rfl ?_
  refine n_if_ne (tgt := 17) dJ0_isLatin1_aae02_10 (by decide) (by decide) (fun c => absurd rfl c) (fun _ => ?_)
  refine r_iconst dJ0_isLatin1_aae02_13 ic_1 ?_
  refine r_goto (tgt := 18) dJ0_isLatin1_aae02_14 (by decide) ?_
  exact g_iret dJ0_isLatin1_aae02_18 rfl rfl
theorem v_preCheck (X : mCx) (d : Nat) {S : mSh} {h : mHp} {k n : Nat} (hk : k < n) (hn : n < 1000) : CC X (d + 1) M_J3_checkIndex_8e157 [.int (nI k), .int (nI n), .float 3] S h (some (.int (nI k))) S h := by
  refine CC.of2 (L := [.int (nI k), .int (nI n), .float 3]) p_J3 (Nat.le_of_ble_eq_true rfl) rfl rfl (List.prefix_refl S) ?_
  refine r_iload_n dJ3_checkIndex_8e157_0 rfl ?_
  refine n_if_lt (tgt := 9) dJ3_checkIndex_8e157_1 (by decide) (by omega) (fun c => absurd c (Nat.not_lt_zero _)) (fun _ => ?_)
  refine r_iload_n dJ3_checkIndex_8e157_4 rfl ?_
  refine r_iload_n dJ3_checkIndex_8e157_5 rfl ?_
  refine n_icmp_lt (tgt := 16) dJ3_checkIndex_8e157_6 (by decide) (by omega) (by omega) (fun _ => ?_) (fun c => absurd c (by omega))
  refine r_iload_n dJ3_checkIndex_8e157_16 rfl ?_
  exact g_iret dJ3_checkIndex_8e157_17 rfl rfl
theorem v_strCheck (X : mCx) (d : Nat) {S : mSh} {h : mHp} {k n : Nat} (hk : k < n) (hn : n < 1000) : CC X (d + 2) M_J0_checkIndex_df160 [.int (nI k), .int (nI n)] S h none S h := by
  refine CC.of2 (L := [.int (nI k), .int (nI n)]) p_J0 (Nat.le_of_ble_eq_true rfl) rfl trivial (List.prefix_refl S) ?_
  refine r_iload_n dJ0_checkIndex_df160_0 rfl ?_
  refine r_iload_n dJ0_checkIndex_df160_1 rfl ?_
  refine r_getsF dJ0_checkIndex_df160_2 rfl ?_
  refine r_S3 dJ0_checkIndex_df160_5 l_J0_1059 k_J3_checkIndex_8e157 s_J3_checkIndex_8e157 (Nat.le_of_ble_eq_true rfl) (v_preCheck X _ hk hn) (List.prefix_refl S) ?_
  refine r_pop dJ0_checkIndex_df160_8 rfl ?_
  exact g_vret dJ0_checkIndex_df160_9 rfl rfl
theorem v_latin (X : mCx) (d : Nat) {S : mSh} {h : mHp} {k : Nat} (hk : k < mTx.toList.length) : CC X (d + 3) M_J1_charAt_3b067 [.float 2, .int (nI k)] S h (some (.int (nI (tC k)))) S h := by
  have hl := mTx_l
  refine CC.of2 (L := [.float 2, .int (nI k)]) p_J1 (Nat.le_of_ble_eq_true rfl) rfl (tC_ok k hk).2.2 (List.prefix_refl S) ?_
  refine r_iload_n dJ1_charAt_3b067_0 rfl ?_
  refine r_aload_nF dJ1_charAt_3b067_1 rfl ?_
  refine r_alenB dJ1_charAt_3b067_2 (v := nI mTx.toList.length) (by rw [mBy_L]; rfl) ?_
  refine r_S2 dJ1_charAt_3b067_3 l_J1_9 k_J0_checkIndex_df160 s_J0_checkIndex_df160 (Nat.le_of_ble_eq_true rfl) (v_strCheck X _ hk (by omega)) (List.prefix_refl S) ?_
  refine r_aload_nF dJ1_charAt_3b067_6 rfl ?_
  refine r_iload_n dJ1_charAt_3b067_7 rfl ?_
  refine r_baldB dJ1_charAt_3b067_8 (nI_in (by rw [mBy_L]; exact hk) (by rw [mBy_L]; omega)) (v := mBy.getD k 0) (by rw [mBy_B, nI_clamp (by omega)]) ?_
  refine r_sipush dJ1_charAt_3b067_9 (v := nI 255) (by decide) ?_
  refine r_iand dJ1_charAt_3b067_12 ?_
  refine r_i2c dJ1_charAt_3b067_13 (tC_ok k hk).1 ?_
  exact g_iret dJ1_charAt_3b067_14 rfl rfl
theorem v_charAt (X : mCx) (d : Nat) {S : mSh} {h : mHp} {k : Nat} (hk : k < mTx.toList.length) : CC X (d + 4) M_J0_charAt_5068e [.float 0, .int (nI k)] S h (some (.int (nI (tC k)))) S h := by
  refine CC.of2 (L := [.float 0, .int (nI k)]) p_J0 (Nat.le_of_ble_eq_true rfl) rfl (tC_ok k hk).2.2 (List.prefix_refl S) ?_
  refine r_aload_nF dJ0_charAt_5068e_0 rfl ?_
  refine r_VF0 dJ0_charAt_5068e_1 l_J0_492 k_J0_isLatin1_aae02 i_J0_isLatin1_aae02 rfl (Nat.le_of_ble_eq_true rfl) (v_isLatin1 X _) (List.prefix_refl S) ?_
  refine n_if_eq (tgt := 16) dJ0_charAt_5068e_4 (by decide) (by decide) (fun c => absurd c (by decide)) (fun _ => ?_)
  refine r_aload_nF dJ0_charAt_5068e_7 rfl ?_
  refine r_getV dJ0_charAt_5068e_8 rfl ?_
  refine r_iload_n dJ0_charAt_5068e_11 rfl ?_
  refine r_S2 dJ0_charAt_5068e_12 l_J0_495 k_J1_charAt_3b067 s_J1_charAt_3b067 (Nat.le_of_ble_eq_true rfl) (v_latin X _ hk) (List.prefix_refl S) ?_
  exact g_iret dJ0_charAt_5068e_15 rfl rfl
