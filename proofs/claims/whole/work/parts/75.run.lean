/-! ===== the law's loop ===== -/
theorem law_pre (X : mCx) (D : Nat) {nm : String} {i : Nat} {h h' : mHp} (hN : xN X ≤ 320) (hi : i + 5 ≤ xN X) (K : JJ X (ML nm) D 32 [.float 1, .ref 1, .ref 97, .int (nI i)] [.int (xX X i &&& nI 31)] (Sg.take 108) h (some (.int 1)) (Sg.take 108) h') : JJ X (ML nm) D 18 [.float 1, .ref 1, .ref 97, .int (nI i)] [] (Sg.take 108) h (some (.int 1)) (Sg.take 108) h' := by
  refine r_iload_n dL_law_18 rfl ?_
  refine r_aload_nF dL_law_19 rfl ?_
  refine r_slen dL_law_20 ?_
  refine r_iconst dL_law_21 ic_5 ?_
  refine n_isub dL_law_22 (by omega) ?_
  refine r_icmp_gt (tgt := 943) dL_law_23 (by decide) (fun z => absurd ((nI_ltI (by omega) (by omega)).mp z) (by omega)) (fun _ => ?_)
  refine r_aload_nF dL_law_26 rfl ?_
  refine r_iload_n dL_law_27 rfl ?_
  refine r_sld dL_law_28 (by omega) (by omega) ?_
  refine r_bipush dL_law_29 bp_31 ?_
  refine r_iand dL_law_31 ?_
  exact K
theorem gt_neg {a i : Nat} (ha : a < 5) (hi : i < 1000) : nI a - nI 5 < nI i := by
  have h : ∀ a, a < 5 → (nI a - nI 5).toInt < 0 := by decide
  rw [Int32.lt_iff_toInt_lt, nI_toInt (by omega)]
  have := h a ha
  omega
theorem law_out (X : mCx) (D : Nat) {nm : String} {i : Nat} {h : mHp} (hN : xN X ≤ 320) (hi0 : i ≤ 320) (hi : xN X < i + 5) : JJ X (ML nm) D 18 [.float 1, .ref 1, .ref 97, .int (nI i)] [] (Sg.take 108) h (some (.int 1)) (Sg.take 108) h := by
  refine r_iload_n dL_law_18 rfl ?_
  refine r_aload_nF dL_law_19 rfl ?_
  refine r_slen dL_law_20 ?_
  refine r_iconst dL_law_21 ic_5 ?_
  refine r_isub dL_law_22 ?_
  have hlt : nI (xN X) - nI 5 < nI i := by
    by_cases h5 : xN X < 5
    · exact gt_neg h5 (by omega)
    · rw [nI_sub (by omega)]
      exact (nI_ltI (by omega) (by omega)).mpr (by omega)
  refine r_icmp_gt (tgt := 943) dL_law_23 (by decide) (fun _ => ?_) (fun z => absurd hlt z)
  refine r_iconst dL_law_943 ic_1 ?_
  exact g_iret dL_law_944 (by rw [show nI 1 = (1 : Int32) by decide]) rfl
set_option maxHeartbeats 4000000 in
theorem law_step (X : mCx) (d : Nat) {nm : String} {i : Nat} {I : mI} {R : mR} (q : RR (Sg.take 108) I R) (hN : xN X ≤ 320) (hi : i + 5 ≤ xN X) : ∃ I2 R2, RR (Sg.take 108) I2 R2 ∧ ∀ h', JJ X (ML nm) (d + 13) 18 [.float 1, .ref 1, .ref 97, .int (nI (i + 5))] [] (Sg.take 108) (I2, R2) (some (.int 1)) (Sg.take 108) h' → JJ X (ML nm) (d + 13) 18 [.float 1, .ref 1, .ref 97, .int (nI i)] [] (Sg.take 108) (I, R) (some (.int 1)) (Sg.take 108) h' := by
  by_cases k0 : xX X i &&& nI 31 = nI 0
  · obtain ⟨I2, R2, q2, H⟩ := lc_0 X d (nm := nm) q hN hi
    exact ⟨I2, R2, q2, fun h' K => law_pre X _ hN hi (g_top k0 (r_tableIn (tgt := 164) dL_law_32 (by decide) (by decide) (off := 132) rfl (by decide) (H h' K)))⟩
  by_cases k1 : xX X i &&& nI 31 = nI 1
  · obtain ⟨I2, R2, q2, H⟩ := lc_1 X d (nm := nm) q hN hi
    exact ⟨I2, R2, q2, fun h' K => law_pre X _ hN hi (g_top k1 (r_tableIn (tgt := 187) dL_law_32 (by decide) (by decide) (off := 155) rfl (by decide) (H h' K)))⟩
  by_cases k2 : xX X i &&& nI 31 = nI 2
  · obtain ⟨I2, R2, q2, H⟩ := lc_2 X d (nm := nm) q hN hi
    exact ⟨I2, R2, q2, fun h' K => law_pre X _ hN hi (g_top k2 (r_tableIn (tgt := 200) dL_law_32 (by decide) (by decide) (off := 168) rfl (by decide) (H h' K)))⟩
  by_cases k3 : xX X i &&& nI 31 = nI 3
  · obtain ⟨I2, R2, q2, H⟩ := lc_3 X d (nm := nm) q hN hi
    exact ⟨I2, R2, q2, fun h' K => law_pre X _ hN hi (g_top k3 (r_tableIn (tgt := 213) dL_law_32 (by decide) (by decide) (off := 181) rfl (by decide) (H h' K)))⟩
  by_cases k4 : xX X i &&& nI 31 = nI 4
  · obtain ⟨I2, R2, q2, H⟩ := lc_4 X d (nm := nm) q hN hi
    exact ⟨I2, R2, q2, fun h' K => law_pre X _ hN hi (g_top k4 (r_tableIn (tgt := 226) dL_law_32 (by decide) (by decide) (off := 194) rfl (by decide) (H h' K)))⟩
  by_cases k5 : xX X i &&& nI 31 = nI 5
  · obtain ⟨I2, R2, q2, H⟩ := lc_5 X d (nm := nm) q hN hi
    exact ⟨I2, R2, q2, fun h' K => law_pre X _ hN hi (g_top k5 (r_tableIn (tgt := 259) dL_law_32 (by decide) (by decide) (off := 227) rfl (by decide) (H h' K)))⟩
  by_cases k6 : xX X i &&& nI 31 = nI 6
  · obtain ⟨I2, R2, q2, H⟩ := lc_6 X d (nm := nm) q hN hi
    exact ⟨I2, R2, q2, fun h' K => law_pre X _ hN hi (g_top k6 (r_tableIn (tgt := 292) dL_law_32 (by decide) (by decide) (off := 260) rfl (by decide) (H h' K)))⟩
  by_cases k7 : xX X i &&& nI 31 = nI 7
  · obtain ⟨I2, R2, q2, H⟩ := lc_7 X d (nm := nm) q hN hi
    exact ⟨I2, R2, q2, fun h' K => law_pre X _ hN hi (g_top k7 (r_tableIn (tgt := 325) dL_law_32 (by decide) (by decide) (off := 293) rfl (by decide) (H h' K)))⟩
  by_cases k8 : xX X i &&& nI 31 = nI 8
  · obtain ⟨I2, R2, q2, H⟩ := lc_8 X d (nm := nm) q hN hi
    exact ⟨I2, R2, q2, fun h' K => law_pre X _ hN hi (g_top k8 (r_tableIn (tgt := 374) dL_law_32 (by decide) (by decide) (off := 342) rfl (by decide) (H h' K)))⟩
  by_cases k9 : xX X i &&& nI 31 = nI 9
  · obtain ⟨I2, R2, q2, H⟩ := lc_9 X d (nm := nm) q hN hi
    exact ⟨I2, R2, q2, fun h' K => law_pre X _ hN hi (g_top k9 (r_tableIn (tgt := 407) dL_law_32 (by decide) (by decide) (off := 375) rfl (by decide) (H h' K)))⟩
  by_cases k10 : xX X i &&& nI 31 = nI 10
  · obtain ⟨I2, R2, q2, H⟩ := lc_10 X d (nm := nm) q hN hi
    exact ⟨I2, R2, q2, fun h' K => law_pre X _ hN hi (g_top k10 (r_tableIn (tgt := 430) dL_law_32 (by decide) (by decide) (off := 398) rfl (by decide) (H h' K)))⟩
  by_cases k11 : xX X i &&& nI 31 = nI 11
  · obtain ⟨I2, R2, q2, H⟩ := lc_11 X d (nm := nm) q hN hi
    exact ⟨I2, R2, q2, fun h' K => law_pre X _ hN hi (g_top k11 (r_tableIn (tgt := 463) dL_law_32 (by decide) (by decide) (off := 431) rfl (by decide) (H h' K)))⟩
  by_cases k12 : xX X i &&& nI 31 = nI 12
  · obtain ⟨I2, R2, q2, H⟩ := lc_12 X d (nm := nm) q hN hi
    exact ⟨I2, R2, q2, fun h' K => law_pre X _ hN hi (g_top k12 (r_tableIn (tgt := 486) dL_law_32 (by decide) (by decide) (off := 454) rfl (by decide) (H h' K)))⟩
  by_cases k13 : xX X i &&& nI 31 = nI 13
  · obtain ⟨I2, R2, q2, H⟩ := lc_13 X d (nm := nm) q hN hi
    exact ⟨I2, R2, q2, fun h' K => law_pre X _ hN hi (g_top k13 (r_tableIn (tgt := 499) dL_law_32 (by decide) (by decide) (off := 467) rfl (by decide) (H h' K)))⟩
  by_cases k14 : xX X i &&& nI 31 = nI 14
  · obtain ⟨I2, R2, q2, H⟩ := lc_14 X d (nm := nm) q hN hi
    exact ⟨I2, R2, q2, fun h' K => law_pre X _ hN hi (g_top k14 (r_tableIn (tgt := 522) dL_law_32 (by decide) (by decide) (off := 490) rfl (by decide) (H h' K)))⟩
  by_cases k15 : xX X i &&& nI 31 = nI 15
  · obtain ⟨I2, R2, q2, H⟩ := lc_15 X d (nm := nm) q hN hi
    exact ⟨I2, R2, q2, fun h' K => law_pre X _ hN hi (g_top k15 (r_tableIn (tgt := 555) dL_law_32 (by decide) (by decide) (off := 523) rfl (by decide) (H h' K)))⟩
  by_cases k16 : xX X i &&& nI 31 = nI 16
  · obtain ⟨I2, R2, q2, H⟩ := lc_16 X d (nm := nm) q hN hi
    exact ⟨I2, R2, q2, fun h' K => law_pre X _ hN hi (g_top k16 (r_tableIn (tgt := 588) dL_law_32 (by decide) (by decide) (off := 556) rfl (by decide) (H h' K)))⟩
  by_cases k17 : xX X i &&& nI 31 = nI 17
  · obtain ⟨I2, R2, q2, H⟩ := lc_17 X d (nm := nm) q hN hi
    exact ⟨I2, R2, q2, fun h' K => law_pre X _ hN hi (g_top k17 (r_tableIn (tgt := 621) dL_law_32 (by decide) (by decide) (off := 589) rfl (by decide) (H h' K)))⟩
  by_cases k18 : xX X i &&& nI 31 = nI 18
  · obtain ⟨I2, R2, q2, H⟩ := lc_18 X d (nm := nm) q hN hi
    exact ⟨I2, R2, q2, fun h' K => law_pre X _ hN hi (g_top k18 (r_tableIn (tgt := 644) dL_law_32 (by decide) (by decide) (off := 612) rfl (by decide) (H h' K)))⟩
  by_cases k19 : xX X i &&& nI 31 = nI 19
  · obtain ⟨I2, R2, q2, H⟩ := lc_19 X d (nm := nm) q hN hi
    exact ⟨I2, R2, q2, fun h' K => law_pre X _ hN hi (g_top k19 (r_tableIn (tgt := 657) dL_law_32 (by decide) (by decide) (off := 625) rfl (by decide) (H h' K)))⟩
  by_cases k20 : xX X i &&& nI 31 = nI 20
  · obtain ⟨I2, R2, q2, H⟩ := lc_20 X d (nm := nm) q hN hi
    exact ⟨I2, R2, q2, fun h' K => law_pre X _ hN hi (g_top k20 (r_tableIn (tgt := 690) dL_law_32 (by decide) (by decide) (off := 658) rfl (by decide) (H h' K)))⟩
  by_cases k21 : xX X i &&& nI 31 = nI 21
  · obtain ⟨I2, R2, q2, H⟩ := lc_21 X d (nm := nm) q hN hi
    exact ⟨I2, R2, q2, fun h' K => law_pre X _ hN hi (g_top k21 (r_tableIn (tgt := 703) dL_law_32 (by decide) (by decide) (off := 671) rfl (by decide) (H h' K)))⟩
  by_cases k22 : xX X i &&& nI 31 = nI 22
  · obtain ⟨I2, R2, q2, H⟩ := lc_22 X d (nm := nm) q hN hi
    exact ⟨I2, R2, q2, fun h' K => law_pre X _ hN hi (g_top k22 (r_tableIn (tgt := 726) dL_law_32 (by decide) (by decide) (off := 694) rfl (by decide) (H h' K)))⟩
  by_cases k23 : xX X i &&& nI 31 = nI 23
  · obtain ⟨I2, R2, q2, H⟩ := lc_23 X d (nm := nm) q hN hi
    exact ⟨I2, R2, q2, fun h' K => law_pre X _ hN hi (g_top k23 (r_tableIn (tgt := 769) dL_law_32 (by decide) (by decide) (off := 737) rfl (by decide) (H h' K)))⟩
  by_cases k24 : xX X i &&& nI 31 = nI 24
  · obtain ⟨I2, R2, q2, H⟩ := lc_24 X d (nm := nm) q hN hi
    exact ⟨I2, R2, q2, fun h' K => law_pre X _ hN hi (g_top k24 (r_tableIn (tgt := 822) dL_law_32 (by decide) (by decide) (off := 790) rfl (by decide) (H h' K)))⟩
  by_cases k25 : xX X i &&& nI 31 = nI 25
  · obtain ⟨I2, R2, q2, H⟩ := lc_25 X d (nm := nm) q hN hi
    exact ⟨I2, R2, q2, fun h' K => law_pre X _ hN hi (g_top k25 (r_tableIn (tgt := 845) dL_law_32 (by decide) (by decide) (off := 813) rfl (by decide) (H h' K)))⟩
  by_cases k26 : xX X i &&& nI 31 = nI 26
  · obtain ⟨I2, R2, q2, H⟩ := lc_26 X d (nm := nm) q hN hi
    exact ⟨I2, R2, q2, fun h' K => law_pre X _ hN hi (g_top k26 (r_tableIn (tgt := 888) dL_law_32 (by decide) (by decide) (off := 856) rfl (by decide) (H h' K)))⟩
  by_cases k27 : xX X i &&& nI 31 = nI 27
  · obtain ⟨I2, R2, q2, H⟩ := lc_27 X d (nm := nm) q hN hi
    exact ⟨I2, R2, q2, fun h' K => law_pre X _ hN hi (g_top k27 (r_tableIn (tgt := 901) dL_law_32 (by decide) (by decide) (off := 869) rfl (by decide) (H h' K)))⟩
  by_cases k28 : xX X i &&& nI 31 = nI 28
  · obtain ⟨I2, R2, q2, H⟩ := lc_28 X d (nm := nm) q hN hi
    exact ⟨I2, R2, q2, fun h' K => law_pre X _ hN hi (g_top k28 (r_tableIn (tgt := 914) dL_law_32 (by decide) (by decide) (off := 882) rfl (by decide) (H h' K)))⟩
  exact ⟨I, R, q, fun h' K => law_pre X _ hN hi (r_tableOut (tgt := 937) dL_law_32 (sw_outR 0 28 (by decide) (fun k h1 h2 e => by rcases (show k = 0 ∨ k = 1 ∨ k = 2 ∨ k = 3 ∨ k = 4 ∨ k = 5 ∨ k = 6 ∨ k = 7 ∨ k = 8 ∨ k = 9 ∨ k = 10 ∨ k = 11 ∨ k = 12 ∨ k = 13 ∨ k = 14 ∨ k = 15 ∨ k = 16 ∨ k = 17 ∨ k = 18 ∨ k = 19 ∨ k = 20 ∨ k = 21 ∨ k = 22 ∨ k = 23 ∨ k = 24 ∨ k = 25 ∨ k = 26 ∨ k = 27 ∨ k = 28 by omega) with rfl | rfl | rfl | rfl | rfl | rfl | rfl | rfl | rfl | rfl | rfl | rfl | rfl | rfl | rfl | rfl | rfl | rfl | rfl | rfl | rfl | rfl | rfl | rfl | rfl | rfl | rfl | rfl | rfl <;> first | exact k0 e | exact k1 e | exact k2 e | exact k3 e | exact k4 e | exact k5 e | exact k6 e | exact k7 e | exact k8 e | exact k9 e | exact k10 e | exact k11 e | exact k12 e | exact k13 e | exact k14 e | exact k15 e | exact k16 e | exact k17 e | exact k18 e | exact k19 e | exact k20 e | exact k21 e | exact k22 e | exact k23 e | exact k24 e | exact k25 e | exact k26 e | exact k27 e | exact k28 e)) (by decide) (law_next X _ K))⟩
theorem law_loop (X : mCx) (d : Nat) {nm : String} (hN : xN X ≤ 320) : ∀ (k i : Nat) (I : mI) (R : mR), RR (Sg.take 108) I R → i ≤ 320 → xN X ≤ i + 5 * k → ∃ h', JJ X (ML nm) (d + 13) 18 [.float 1, .ref 1, .ref 97, .int (nI i)] [] (Sg.take 108) (I, R) (some (.int 1)) (Sg.take 108) h'
  | 0, i, I, R, _, h0, h1 => ⟨_, law_out X _ hN h0 (by omega)⟩
  | k + 1, i, I, R, q, h0, h1 => by
    by_cases hi : i + 5 ≤ xN X
    · obtain ⟨I2, R2, q2, H⟩ := law_step X d (nm := nm) q hN hi
      obtain ⟨h', K⟩ := law_loop X d hN k (i + 5) I2 R2 q2 (by omega) (by omega)
      exact ⟨h', H h' K⟩
    · exact ⟨_, law_out X _ hN h0 (by omega)⟩
/-- the law from its entry -/
theorem law_run (X : mCx) (d : Nat) {nm : String} (hN : xN X ≤ 320) : ∃ h', JJ X (ML nm) (d + 13) 0 [.float 1, .retAddr 0, .retAddr 0, .retAddr 0] [] (Sg.take 0) (fun _ _ => 0, fun _ _ => 0) (some (.int 1)) (Sg.take 108) h' := by
  obtain ⟨IA, RA, IB, RB, c1, c2, q⟩ := start_ok X
  obtain ⟨h', K⟩ := law_loop X d (nm := nm) hN 64 0 IB RB q (by decide) (by omega)
  refine ⟨h', ?_⟩
  refine n_new (k := 0) dL_law_0 (by decide) rfl ⟨TX11, rfl, u_TX11⟩ cl_L_7 in_7 it_7 (t_p (by decide)) ?_
  refine r_dup dL_law_3 rfl ?_
  refine r_callI [] dL_law_4 l_L_9 k_X11_init i_X11_init rfl rfl (by decide) rfl (Nat.le_of_ble_eq_true rfl) (c1 (d + 4)) (t_p (by decide)) ?_
  refine r_astore_n (L' := [_, _, _, _]) dL_law_7 rfl rfl ?_
  refine n_new (k := 96) dL_law_8 (by decide) rfl ⟨TX12, rfl, u_TX12⟩ cl_L_10 in_8 it_8 (t_p (by decide)) ?_
  refine r_dup dL_law_11 rfl ?_
  refine r_callI [] dL_law_12 l_L_12 k_X12_init i_X12_init rfl rfl (by decide) rfl (Nat.le_of_ble_eq_true rfl) (c2 (d + 4)) (t_p (by decide)) ?_
  refine r_astore_n (L' := [_, _, _, _]) dL_law_15 rfl rfl ?_
  refine r_iconst dL_law_16 ic_0 ?_
  refine r_istore_n (L' := [_, _, _, _]) dL_law_17 rfl rfl ?_
  exact K
