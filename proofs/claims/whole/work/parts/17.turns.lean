/-! ===== the class: the orders' table, two who give by turns ===== -/
def rkH (I : mI) (z : Nat) (w s : Nat → Int32) (N G hb n : Nat) : mI := nFold n (fun k J => if dif (k + 1) hb = 0 then sJ (sJ J (z + 1) (k + 1) (orF w s N G (J (z + 1)) (k + 1) N).1) (z + 2) (k + 1) (orF w s N G (J (z + 1)) (k + 1) N).2 else J) (sJ (sJ I (z + 1) 0 (nI 0)) (z + 2) 0 (-4))
theorem rkH_s (I : mI) (z : Nat) (w s : Nat → Int32) (N G hb n : Nat) : rkH I z w s N G hb (n + 1) = if dif (n + 1) hb = 0 then sJ (sJ (rkH I z w s N G hb n) (z + 1) (n + 1) (orF w s N G (rkH I z w s N G hb n (z + 1)) (n + 1) N).1) (z + 2) (n + 1) (orF w s N G (rkH I z w s N G hb n (z + 1)) (n + 1) N).2 else rkH I z w s N G hb n := rfl
theorem rkH_fr {I : mI} {z : Nat} {w s : Nat → Int32} {N G hb o : Nat} (h : o < z + 1 ∨ z + 2 < o) : ∀ n, rkH I z w s N G hb n o = I o
  | 0 => by unfold rkH nFold; rw [sJ_o (by omega), sJ_o (by omega)]
  | n + 1 => by
    rw [rkH_s]
    split
    · rw [sJ_o (by omega), sJ_o (by omega)]; exact rkH_fr h n
    · exact rkH_fr h n
set_option maxHeartbeats 4000000 in
set_option maxRecDepth 100000 in
theorem v_X4_reckon (X : mCx) (d : Nat) {S : mSh} {I : mI} {R : mR} {w s : Nat → Int32} {N G hb pb : Nat} {z f a : Nat} (hz : Ord S R z) (hf : Fam S I R f w N G) (hst : Std S I R a s N G hb pb) (s1 : f + 9 < z ∨ z + 2 < f) (s2 : a + 4 < z ∨ z + 2 < a) : CC X (d + 6) M_X4_reckon [.ref z, .ref f, .ref a] S (I, R) (none) S (rkH I z w s N G hb 63, R) := by
  have hG8 := hst.G8
  have hN6 := hst.N6
  have h256 := hst.h256
  have p256 := hst.p256
  refine CC.of2 (L := [.ref z, .ref f, .ref a, .retAddr 0]) p_X4 (Nat.le_of_ble_eq_true rfl) rfl trivial (List.prefix_refl S) ?_
  refine r_aload_n dX4_reckon_0 rfl ?_
  refine g_getR dX4_reckon_1 f_X4_9 (Ord.sg (by assumption)) rfl (Ord.r0 (by assumption)) ?_
  refine r_iconst dX4_reckon_4 ic_0 ?_
  refine r_iconst dX4_reckon_5 ic_0 ?_
  refine r_S3 dX4_reckon_6 l_X4_18 k_X7_put s_X7_put (Nat.le_of_ble_eq_true rfl) (v_X7_put X _ (Ord.s0 (by assumption)) (by omega) (by decide)) (List.prefix_refl S) ?_
  refine r_aload_n dX4_reckon_9 rfl ?_
  refine g_getR dX4_reckon_10 f_X4_15 (Ord.sg (by assumption)) rfl (Ord.r1 (by assumption)) ?_
  refine r_iconst dX4_reckon_13 ic_0 ?_
  refine r_bipush dX4_reckon_14 bp_m4 ?_
  refine r_S3 dX4_reckon_16 l_X4_18 k_X7_put s_X7_put (Nat.le_of_ble_eq_true rfl) (v_X7_put X _ (Ord.s1 (by assumption)) (by omega) (by decide)) (List.prefix_refl S) ?_
  refine r_iconst dX4_reckon_19 ic_1 ?_
  refine r_istore_n (L' := [_, _, _, _]) dX4_reckon_20 rfl rfl ?_
  refine JJ.loop 63 (fun j => [.ref z, .ref f, .ref a, .int (nI (j + 1))]) (fun j => (rkH I z w s N G hb j, R)) (fun j => True) rfl rfl trivial (fun hp => ?_) (fun j hj hp K => ?_)
  · skip
    refine r_iload_n dX4_reckon_21 rfl ?_
    refine r_bipush dX4_reckon_22 bp_64 ?_
    refine n_icmp_ge (tgt := 51) dX4_reckon_24 (by decide) (by omega) (by omega) (fun c24 => ?_) (fun c24 => absurd c24 (by omega))
    exact g_vret dX4_reckon_51 rfl rfl
  · have hf1 : Fam S (rkH I z w s N G hb j) R f w N G := hf.fr (fun o h1 h2 => rkH_fr (by omega) j); have hst1 : Std S (rkH I z w s N G hb j) R a s N G hb pb := hst.fr (fun o h1 h2 => rkH_fr (by omega) j); have hdl := dif_le (j + 1) hb
    refine r_iload_n dX4_reckon_21 rfl ?_
    refine r_bipush dX4_reckon_22 bp_64 ?_
    refine n_icmp_ge (tgt := 51) dX4_reckon_24 (by decide) (by omega) (by omega) (fun c24 => absurd c24 (by omega)) (fun c24 => ?_)
    refine r_iload_n dX4_reckon_27 rfl ?_
    refine r_aload_n dX4_reckon_28 rfl ?_
    refine g_getI dX4_reckon_29 f_X4_24 (Std.sg (by assumption)) rfl hst1.here ?_
    refine r_iconst dX4_reckon_32 ic_m1 ?_
    refine r_ixor dX4_reckon_33 ?_
    refine r_iand dX4_reckon_34 ?_
    refine g_top (dif_eq (by omega) (by omega)) ?_
    refine n_if_ne (tgt := 45) dX4_reckon_35 (by decide) (by omega) (fun c35 => ?_) (fun c35 => ?_)
    · skip
      refine r_iinc (L' := [_, _, _, _]) dX4_reckon_45 rfl rfl (nI_inc _) rfl ?_
      refine r_goto (tgt := 21) dX4_reckon_48 (by decide) ?_
      first | exact JJ.to (K trivial) rfl rfl (by rw [rkH_s, if_pos c35]) | exact JJ.to (K trivial) rfl rfl (by rw [rkH_s, if_neg c35])
    · skip
      refine r_aload_n dX4_reckon_38 rfl ?_
      refine r_aload_n dX4_reckon_39 rfl ?_
      refine r_aload_n dX4_reckon_40 rfl ?_
      refine r_iload_n dX4_reckon_41 rfl ?_
      refine r_V3 dX4_reckon_42 l_X4_30 k_X4_reckonSet i_X4_reckonSet (Ord.sg (by assumption)) ⟨_, rfl⟩ (Nat.le_of_ble_eq_true rfl) (v_X4_reckonSet X _ hz hf1 hst1 (by omega)) (List.prefix_refl S) ?_
      refine r_iinc (L' := [_, _, _, _]) dX4_reckon_45 rfl rfl (nI_inc _) rfl ?_
      refine r_goto (tgt := 21) dX4_reckon_48 (by decide) ?_
      first | exact JJ.to (K trivial) rfl rfl (by rw [rkH_s, if_pos c35]) | exact JJ.to (K trivial) rfl rfl (by rw [rkH_s, if_neg c35])

/-- who is left behind the first n who leave -/
def lvB (T : Nat → Nat) (b n : Nat) : Nat := match n with
  | 0 => b
  | n + 1 => clr (lvB T b n) (T (lvB T b n))
theorem lvB_0 {T : Nat → Nat} {b n : Nat} (h : lvB T b n = 0) : ∀ k, lvB T b (n + k) = 0
  | 0 => h
  | k + 1 => by
    have e := lvB_0 (T := T) h k
    show clr (lvB T b (n + k)) (T (lvB T b (n + k))) = 0
    rw [e]
    have := clr_le 0 (T 0)
    omega
theorem lvB_le (T : Nat → Nat) (b : Nat) : ∀ n, lvB T b n ≤ b
  | 0 => Nat.le_refl _
  | n + 1 => Nat.le_trans (clr_le _ _) (lvB_le T b n)
set_option maxHeartbeats 4000000 in
set_option maxRecDepth 100000 in
theorem v_X4_leaver (X : mCx) (d : Nat) {S : mSh} {I : mI} {R : mR} {z b k : Nat} {T : Nat → Nat} (hz : Ord S R z) (hb : b < 64) (hk : 1 ≤ k) (hk6 : k ≤ 6) (hT : ∀ x, 0 < x → x ≤ b → (∃ n, x = lvB T b n) → I (z + 2) x = nI (T x) ∧ T x < 6) : CC X (d + 2) M_X4_leaver [.ref z, .int (nI b), .int (nI k)] S (I, R) (some (.int (if 0 < lvB T b (k - 1) then nI (T (lvB T b (k - 1))) else -4))) S (I, R) := by
  refine CC.of2 (L := [.ref z, .int (nI b), .int (nI k), .retAddr 0, .retAddr 0]) p_X4 (Nat.le_of_ble_eq_true rfl) rfl rfl (List.prefix_refl S) ?_
  refine r_iload_n dX4_leaver_0 rfl ?_
  refine r_istore_n (L' := [_, _, _, _, _]) dX4_leaver_1 rfl rfl ?_
  refine r_iconst dX4_leaver_2 ic_1 ?_
  refine r_istore (L' := [_, _, _, _, _]) dX4_leaver_3 rfl rfl ?_
  refine JJ.loop ((k - 1)) (fun j => [.ref z, .int (nI b), .int (nI k), .int (nI (lvB T b j)), .int (nI (j + 1))]) (fun j => (I, R)) (fun j => True) rfl rfl trivial (fun hp => ?_) (fun j hj hp K => ?_)
  · have hle := lvB_le T b (k - 1)
    refine r_iload dX4_leaver_5 rfl ?_
    refine r_iload_n dX4_leaver_7 rfl ?_
    refine n_icmp_ge (tgt := 36) dX4_leaver_8 (by decide) (by omega) (by omega) (fun c8 => ?_) (fun c8 => absurd c8 (by omega))
    refine r_iload_n dX4_leaver_36 rfl ?_
    refine n_if_le (tgt := 51) dX4_leaver_37 (by decide) (by omega) (fun c37 => ?_) (fun c37 => ?_)
    · skip
      refine r_bipush dX4_leaver_51 bp_m4 ?_
      exact g_iret dX4_leaver_53 (by first | rw [if_pos c37, hT1.1] | (exfalso; omega) | rw [if_neg (by omega)]) rfl
    · skip
      refine r_aload_n dX4_leaver_40 rfl ?_
      refine g_getR dX4_leaver_41 f_X4_15 (Ord.sg (by assumption)) rfl (Ord.r1 (by assumption)) ?_
      refine r_iload_n dX4_leaver_44 rfl ?_
      refine r_S2 dX4_leaver_45 l_X4_53 k_X7_get s_X7_get (Nat.le_of_ble_eq_true rfl) (v_X7_get X _ (Ord.s1 (by assumption)) (by omega) (by decide)) (List.prefix_refl S) ?_
      have hT1 : I (z + 2) (lvB T b (k - 1)) = nI (T (lvB T b (k - 1))) ∧ T (lvB T b (k - 1)) < 6 := by first | exact hT (lvB T b (k - 1)) (by omega) hle ⟨_, rfl⟩ | (exfalso; omega)
      refine r_goto (tgt := 53) dX4_leaver_48 (by decide) ?_
      exact g_iret dX4_leaver_53 (by first | rw [if_pos c37, hT1.1] | (exfalso; omega) | rw [if_neg (by omega)]) rfl
  · have hle := lvB_le T b j
    refine r_iload dX4_leaver_5 rfl ?_
    refine r_iload_n dX4_leaver_7 rfl ?_
    refine n_icmp_ge (tgt := 36) dX4_leaver_8 (by decide) (by omega) (by omega) (fun c8 => absurd c8 (by omega)) (fun c8 => ?_)
    refine r_iload_n dX4_leaver_11 rfl ?_
    refine n_if_le (tgt := 36) dX4_leaver_12 (by decide) (by omega) (fun c12 => ?_) (fun c12 => ?_)
    · have h0 := lvB_0 (T := T) (b := b) (n := j) (by omega) (k - 1 - j); rw [show j + (k - 1 - j) = k - 1 by omega] at h0; have e0 : lvB T b j = 0 := (by omega); rw [e0]
      refine r_iload_n dX4_leaver_36 rfl ?_
      refine n_if_le (tgt := 51) dX4_leaver_37 (by decide) (by omega) (fun c37 => ?_) (fun c37 => ?_)
      · skip
        refine r_bipush dX4_leaver_51 bp_m4 ?_
        exact g_iret dX4_leaver_53 (by first | rw [if_pos c37, hT1.1] | (exfalso; omega) | rw [if_neg (by omega)]) rfl
      · skip
        refine r_aload_n dX4_leaver_40 rfl ?_
        refine g_getR dX4_leaver_41 f_X4_15 (Ord.sg (by assumption)) rfl (Ord.r1 (by assumption)) ?_
        refine r_iload_n dX4_leaver_44 rfl ?_
        refine r_S2 dX4_leaver_45 l_X4_53 k_X7_get s_X7_get (Nat.le_of_ble_eq_true rfl) (v_X7_get X _ (Ord.s1 (by assumption)) (by omega) (by decide)) (List.prefix_refl S) ?_
        have hT1 : I (z + 2) (lvB T b (k - 1)) = nI (T (lvB T b (k - 1))) ∧ T (lvB T b (k - 1)) < 6 := by first | exact hT (lvB T b (k - 1)) (by omega) hle ⟨_, rfl⟩ | (exfalso; omega)
        refine r_goto (tgt := 53) dX4_leaver_48 (by decide) ?_
        exact g_iret dX4_leaver_53 (by first | rw [if_pos c37, hT1.1] | (exfalso; omega) | rw [if_neg (by omega)]) rfl
    · skip
      refine r_iload_n dX4_leaver_15 rfl ?_
      refine r_iconst dX4_leaver_16 ic_1 ?_
      refine r_aload_n dX4_leaver_17 rfl ?_
      refine g_getR dX4_leaver_18 f_X4_15 (Ord.sg (by assumption)) rfl (Ord.r1 (by assumption)) ?_
      refine r_iload_n dX4_leaver_21 rfl ?_
      refine r_S2 dX4_leaver_22 l_X4_53 k_X7_get s_X7_get (Nat.le_of_ble_eq_true rfl) (v_X7_get X _ (Ord.s1 (by assumption)) (by omega) (by decide)) (List.prefix_refl S) ?_
      have hT1 := hT (lvB T b j) (by omega) (lvB_le T b j) ⟨j, rfl⟩
      have hT2 := hT1.2
      rw [hT1.1]
      refine r_ishl dX4_leaver_25 ?_
      refine g_top (shl1 (by omega)) ?_
      refine r_iconst dX4_leaver_26 ic_m1 ?_
      refine r_ixor dX4_leaver_27 ?_
      refine r_iand dX4_leaver_28 ?_
      refine g_top (clr_eq (by omega) (by omega)) ?_
      refine r_istore_n (L' := [_, _, _, _, _]) dX4_leaver_29 rfl rfl ?_
      refine r_iinc (L' := [_, _, _, _, _]) dX4_leaver_30 rfl rfl (nI_inc _) rfl ?_
      refine r_goto (tgt := 5) dX4_leaver_33 (by decide) ?_
      exact JJ.to (K trivial) rfl rfl rfl

