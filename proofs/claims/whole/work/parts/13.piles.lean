/-! ===== the class: copies of standings, piles, oaths, the text ===== -/
def Stx (S : mSh) (I : mI) (R : mR) (a : Nat) (s : Nat → Int32) (N G : Nat) : Prop := ∃ hb pb, Std S I R a s N G hb pb
theorem Stx.fr {S : mSh} {I I1 : mI} {R : mR} {a : Nat} {s : Nat → Int32} {N G : Nat} (q : Stx S I R a s N G) (hi : ∀ o, a ≤ o → o ≤ a + 4 → I1 o = I o) : Stx S I1 R a s N G := by
  obtain ⟨hb, pb, q⟩ := q
  exact ⟨hb, pb, q.fr hi⟩
def cp3 (I : mI) (q a : Nat) : mI := sJ (sJ (sJ I a 0 (I q 0)) a 1 (I q 1)) a 6 (I q 6)
def cpH (I : mI) (q a : Nat) : mI := cpy (cpy (cpy (cpy (cp3 I q a) (q + 1) (a + 1) 8) (q + 2) (a + 2) 6) (q + 3) (a + 3) 6) (q + 4) (a + 4) 6
theorem cp3_fr {I : mI} {q a o : Nat} (h : o ≠ a) : cp3 I q a o = I o := by unfold cp3; rw [sJ_o h, sJ_o h, sJ_o h]
theorem cpH_fr {I : mI} {q a o : Nat} (h : o < a ∨ a + 4 < o) : cpH I q a o = I o := by
  unfold cpH
  rw [cpy_o (by omega), cpy_o (by omega), cpy_o (by omega), cpy_o (by omega), cp3_fr (by omega)]
theorem cpH_0 {I : mI} {q a : Nat} : cpH I q a a 0 = I q 0 ∧ cpH I q a a 1 = I q 1 ∧ cpH I q a a 6 = I q 6 := by
  unfold cpH
  rw [cpy_o (by omega), cpy_o (by omega), cpy_o (by omega), cpy_o (by omega)]
  unfold cp3
  exact ⟨by rw [sJ_ne (by omega), sJ_ne (by omega), sJ_eq], by rw [sJ_ne (by omega), sJ_eq], sJ_eq _ _ _ _⟩
theorem cpH_1 {I : mI} {q a b : Nat} (h : q + 4 < a ∨ a + 4 < q) (hb : b < 8) : cpH I q a (a + 1) b = I (q + 1) b := by
  unfold cpH
  rw [cpy_o (by omega), cpy_o (by omega), cpy_o (by omega), cpy_q hb, cp3_fr (by omega)]
theorem cpH_2 {I : mI} {q a b : Nat} (h : q + 4 < a ∨ a + 4 < q) (hb : b < 6) : cpH I q a (a + 2) b = I (q + 2) b := by
  unfold cpH
  rw [cpy_o (by omega), cpy_o (by omega), cpy_q hb, cpy_o (by omega), cp3_fr (by omega)]
theorem cpH_3 {I : mI} {q a b : Nat} (h : q + 4 < a ∨ a + 4 < q) (hb : b < 6) : cpH I q a (a + 3) b = I (q + 3) b := by
  unfold cpH
  rw [cpy_o (by omega), cpy_q hb, cpy_o (by omega), cpy_o (by omega), cp3_fr (by omega)]
theorem cpH_4 {I : mI} {q a b : Nat} (h : q + 4 < a ∨ a + 4 < q) (hb : b < 6) : cpH I q a (a + 4) b = I (q + 4) b := by
  unfold cpH
  rw [cpy_q hb, cpy_o (by omega), cpy_o (by omega), cpy_o (by omega), cp3_fr (by omega)]
theorem Std.cp {S : mSh} {I : mI} {R : mR} {q a : Nat} {s : Nat → Int32} {N G hb pb : Nat} (hst : Std S I R q s N G hb pb) (ho : Sto S R a) (h : q + 4 < a ∨ a + 4 < q) : Std S (cpH I q a) R a s N G hb pb := by
  have hG := hst.G8
  have hN := hst.N6
  obtain ⟨e0, e1, e6⟩ := cpH_0 (I := I) (q := q) (a := a)
  exact ⟨ho, hst.N6, hst.G8, by rw [e6]; exact hst.hG, hst.hb2, by rw [e0]; exact hst.here, hst.here0, hst.pb2, by rw [e1]; exact hst.packed, hst.pk, fun g hg => by rw [cpH_1 h (by omega)]; exact hst.own g hg, fun i hi => by rw [cpH_2 h (by omega)]; exact hst.coins i hi, fun i hi => by rw [cpH_3 h (by omega)]; exact hst.paid i hi, fun i hi => by rw [cpH_4 h (by omega)]; exact hst.last i hi⟩
set_option maxHeartbeats 4000000 in
set_option maxRecDepth 100000 in
theorem v_X8_copy (X : mCx) (d : Nat) {S : mSh} {I : mI} {R : mR} {s : Nat → Int32} {N G hb pb q a : Nat} (hst : Std S I R q s N G hb pb) (ho : Sto S R a) (h : q + 4 < a ∨ a + 4 < q) : CC X (d + 2) M_X8_copy [.ref a, .ref q] S (I, R) (none) S (cpH I q a, R) := by
  refine CC.of2 (L := [.ref a, .ref q]) p_X8 (Nat.le_of_ble_eq_true rfl) rfl trivial (List.prefix_refl S) ?_
  refine r_aload_n dX8_copy_0 rfl ?_
  refine r_aload_n dX8_copy_1 rfl ?_
  refine g_getI dX8_copy_2 f_X8_9 (Std.sg hst) rfl rfl ?_
  refine g_putI dX8_copy_5 f_X8_9 (Sto.sg ho) rfl ?_
  refine r_aload_n dX8_copy_8 rfl ?_
  refine r_aload_n dX8_copy_9 rfl ?_
  refine g_getI dX8_copy_10 f_X8_15 (Std.sg hst) rfl (by rw [sJ_o (by omega)]) ?_
  refine g_putI dX8_copy_13 f_X8_15 (Sto.sg ho) rfl ?_
  refine r_aload_n dX8_copy_16 rfl ?_
  refine r_aload_n dX8_copy_17 rfl ?_
  refine g_getI dX8_copy_18 f_X8_31 (Std.sg hst) rfl (by rw [sJ_o (by omega), sJ_o (by omega)]) ?_
  refine g_putI dX8_copy_21 f_X8_31 (Sto.sg ho) rfl ?_
  refine r_aload_n dX8_copy_24 rfl ?_
  refine g_getR dX8_copy_25 f_X8_18 (Std.sg hst) rfl (Std.r2 (by assumption)) ?_
  refine r_aload_n dX8_copy_28 rfl ?_
  refine g_getR dX8_copy_29 f_X8_18 (Sto.sg ho) rfl (Sto.r2 (by assumption)) ?_
  refine r_S2 dX8_copy_32 l_X8_57 k_X7_copy s_X7_copy (Nat.le_of_ble_eq_true rfl) (v_X7_copy X _ (Std.s2 hst) (Sto.s2 ho) (by omega) (by omega)) (List.prefix_refl S) ?_
  refine r_aload_n dX8_copy_35 rfl ?_
  refine g_getR dX8_copy_36 f_X8_22 (Std.sg hst) rfl (Std.r3 (by assumption)) ?_
  refine r_aload_n dX8_copy_39 rfl ?_
  refine g_getR dX8_copy_40 f_X8_22 (Sto.sg ho) rfl (Sto.r3 (by assumption)) ?_
  refine r_S2 dX8_copy_43 l_X8_57 k_X7_copy s_X7_copy (Nat.le_of_ble_eq_true rfl) (v_X7_copy X _ (Std.s3 hst) (Sto.s3 ho) (by omega) (by omega)) (List.prefix_refl S) ?_
  refine r_aload_n dX8_copy_46 rfl ?_
  refine g_getR dX8_copy_47 f_X8_25 (Std.sg hst) rfl (Std.r4 (by assumption)) ?_
  refine r_aload_n dX8_copy_50 rfl ?_
  refine g_getR dX8_copy_51 f_X8_25 (Sto.sg ho) rfl (Sto.r4 (by assumption)) ?_
  refine r_S2 dX8_copy_54 l_X8_57 k_X7_copy s_X7_copy (Nat.le_of_ble_eq_true rfl) (v_X7_copy X _ (Std.s4 hst) (Sto.s4 ho) (by omega) (by omega)) (List.prefix_refl S) ?_
  refine r_aload_n dX8_copy_57 rfl ?_
  refine g_getR dX8_copy_58 f_X8_28 (Std.sg hst) rfl (Std.r5 (by assumption)) ?_
  refine r_aload_n dX8_copy_61 rfl ?_
  refine g_getR dX8_copy_62 f_X8_28 (Sto.sg ho) rfl (Sto.r5 (by assumption)) ?_
  refine r_S2 dX8_copy_65 l_X8_57 k_X7_copy s_X7_copy (Nat.le_of_ble_eq_true rfl) (v_X7_copy X _ (Std.s5 hst) (Sto.s5 ho) (by omega) (by omega)) (List.prefix_refl S) ?_
  exact g_vret dX8_copy_68 rfl rfl

/-- a family's first standing -/
def sBeg (w : Nat → Int32) (N G : Nat) : Nat → Int32 := fun k => if k = 0 then nI (2 ^ N - 1) else if 1 ≤ k ∧ k < 1 + N then w (8 + k) else if 19 ≤ k ∧ k < 19 + G then w (10 + k) else 0
def bg1 (I : mI) (a N G : Nat) : mI := sJ (sJ (sJ I a 0 (nI (2 ^ N - 1))) a 1 (nI 0)) a 6 (nI G)
def bg2 (I : mI) (a : Nat) (w : Nat → Int32) (G n : Nat) : mI := fun o b => if o = a + 1 ∧ b < n then (if b < G then w (29 + b) else -4) else I o b
def bg3 (I : mI) (a f n : Nat) : mI := fun o b => if o = a + 2 ∧ b < n then I (f + 2) b else I o b
theorem bg2_s (I : mI) (a : Nat) (w : Nat → Int32) (G j : Nat) : sJ (bg2 I a w G j) (a + 1) j (if j < G then w (29 + j) else -4) = bg2 I a w G (j + 1) := by
  funext o b
  unfold sJ bg2
  by_cases h1 : o = a + 1
  · subst h1
    by_cases h2 : b = j
    · subst h2; simp
    · by_cases h3 : b < j
      · simp [h2, h3, show b < j + 1 by omega]
      · simp [h2, h3, show ¬ b < j + 1 by omega]
  · simp [h1]
theorem bg3_s (I : mI) (a f j : Nat) : sJ (bg3 I a f j) (a + 2) j (I (f + 2) j) = bg3 I a f (j + 1) := by
  funext o b
  unfold sJ bg3
  by_cases h1 : o = a + 2
  · subst h1
    by_cases h2 : b = j
    · subst h2; simp
    · by_cases h3 : b < j
      · simp [h2, h3, show b < j + 1 by omega]
      · simp [h2, h3, show ¬ b < j + 1 by omega]
  · simp [h1]
theorem bg1_o {I : mI} {a N G o : Nat} (h : o ≠ a) : bg1 I a N G o = I o := by unfold bg1; rw [sJ_o h, sJ_o h, sJ_o h]
theorem bg2_o {I : mI} {a G n o : Nat} {w : Nat → Int32} (h : o ≠ a + 1) : bg2 I a w G n o = I o := by funext b; simp [bg2, h]
theorem bg3_o {I : mI} {a f n o : Nat} (h : o ≠ a + 2) : bg3 I a f n o = I o := by funext b; simp [bg3, h]
def bgH (I : mI) (a f : Nat) (w : Nat → Int32) (N G : Nat) : mI := fil (fil (bg3 (bg2 (bg1 I a N G) a w G 8) a f 6) (a + 3) 6 (nI 0)) (a + 4) 6 (nI 0)
theorem bgH_fr {I : mI} {a f N G o : Nat} {w : Nat → Int32} (h : o < a ∨ a + 4 < o) : bgH I a f w N G o = I o := by
  unfold bgH
  rw [fil_o (by omega), fil_o (by omega), bg3_o (by omega), bg2_o (by omega), bg1_o (by omega)]
theorem p2_1 (n : Nat) : 1 ≤ 2 ^ n := Nat.one_le_two_pow
theorem Std.beg {S : mSh} {I : mI} {R : mR} {a f : Nat} {w : Nat → Int32} {N G : Nat} (hf : Fam S I R f w N G) (ho : Sto S R a) (h : a + 4 < f ∨ f + 9 < a) : Std S (bgH I a f w N G) R a (sBeg w N G) N G (2 ^ N - 1) 0 := by
  have hG := hf.G8
  have hN := hf.N6
  have h1 := p2_1 N
  have e0 : bgH I a f w N G a = bg1 I a N G a := by unfold bgH; rw [fil_o (by omega), fil_o (by omega), bg3_o (by omega), bg2_o (by omega)]
  have d0 : bg1 I a N G a 0 = nI (2 ^ N - 1) := by unfold bg1; rw [sJ_ne (by omega), sJ_ne (by omega), sJ_eq]
  have d1 : bg1 I a N G a 1 = nI 0 := by unfold bg1; rw [sJ_ne (by omega), sJ_eq]
  have d6 : bg1 I a N G a 6 = nI G := by unfold bg1; rw [sJ_eq]
  refine ⟨ho, hN, hG, by rw [e0]; exact d6, by omega, by rw [e0]; exact d0, by simp [sBeg], by have := p2_1 G; omega, by rw [e0]; exact d1, fun g hg => ?_, fun g hg => ?_, fun i hi => ?_, fun i hi => ?_, fun i hi => ?_⟩
  · unfold sBeg; rw [if_neg (by omega), if_neg (by omega), if_neg (by omega)]; simp [bI]
  · unfold bgH
    rw [fil_o (by omega), fil_o (by omega), bg3_o (by omega)]
    unfold bg2 sBeg
    rw [if_pos ⟨rfl, by omega⟩, if_pos hg, if_neg (by omega), if_neg (by omega), if_pos (by omega), show 10 + (19 + g) = 29 + g by omega]
  · unfold bgH
    rw [fil_o (by omega), fil_o (by omega)]
    unfold bg3 sBeg
    rw [if_pos ⟨rfl, by omega⟩, if_neg (by omega), if_pos (by omega), bg2_o (by omega), bg1_o (by omega), hf.purse i hi, show 8 + (1 + i) = 9 + i by omega]
  · unfold bgH
    rw [fil_o (by omega), fil_q (by omega)]
    unfold sBeg
    rw [if_neg (by omega), if_neg (by omega), if_neg (by omega)]; exact nI_0
  · unfold bgH
    rw [fil_q (by omega)]
    unfold sBeg
    rw [if_neg (by omega), if_neg (by omega), if_neg (by omega)]; exact nI_0
set_option maxHeartbeats 4000000 in
set_option maxRecDepth 100000 in
theorem v_X8_begin (X : mCx) (d : Nat) {S : mSh} {I : mI} {R : mR} {w : Nat → Int32} {N G f a : Nat} (hf : Fam S I R f w N G) (ho : Sto S R a) (h : a + 4 < f ∨ f + 9 < a) : CC X (d + 3) M_X8_begin [.ref a, .ref f] S (I, R) (none) S (bgH I a f w N G, R) := by
  have hG8 := hf.G8
  have hN6 := hf.N6
  have h21 := p2_1 N
  refine CC.of2 (L := [.ref a, .ref f, .retAddr 0]) p_X8 (Nat.le_of_ble_eq_true rfl) rfl trivial (List.prefix_refl S) ?_
  refine r_aload_n dX8_begin_0 rfl ?_
  refine r_iconst dX8_begin_1 ic_1 ?_
  refine r_aload_n dX8_begin_2 rfl ?_
  refine g_getI dX8_begin_3 f_X8_34 (Fam.sg (by assumption)) rfl hf.hN ?_
  refine r_ishl dX8_begin_6 ?_
  refine g_top (shl1 (by omega)) ?_
  refine r_iconst dX8_begin_7 ic_1 ?_
  refine n_isub dX8_begin_8 (by omega) ?_
  refine g_putI dX8_begin_9 f_X8_9 (Sto.sg ho) rfl ?_
  refine r_aload_n dX8_begin_12 rfl ?_
  refine r_iconst dX8_begin_13 ic_0 ?_
  have hf1 := hf.fr (fun o h1 h2 => by exact sJ_o (I := I) (o := a) (j := 0) (v := nI (2 ^ N - 1)) (by omega))
  refine g_putI dX8_begin_14 f_X8_15 (Sto.sg ho) rfl ?_
  have hf2 := hf1.fr (I1 := sJ (sJ I a 0 (nI (2 ^ N - 1))) a 1 (nI 0)) (fun o h1 h2 => by exact sJ_o (by omega))
  refine r_aload_n dX8_begin_17 rfl ?_
  refine r_aload_n dX8_begin_18 rfl ?_
  refine g_getI dX8_begin_19 f_X8_39 (Fam.sg (by assumption)) rfl hf2.hG ?_
  refine g_putI dX8_begin_22 f_X8_31 (Sto.sg ho) rfl ?_
  have hf3 : Fam S (bg1 I a N G) R f w N G := hf.fr (fun o h1 h2 => bg1_o (by omega))
  refine r_iconst dX8_begin_25 ic_0 ?_
  refine r_istore_n (L' := [_, _, _]) dX8_begin_26 rfl rfl ?_
  refine JJ.loop 8 (fun j => [.ref a, .ref f, .int (nI j)]) (fun j => (bg2 (bg1 I a N G) a w G j, R)) (fun j => True) (by simp [nI_0, nSum, nFold]) (by rw [show bg2 (bg1 I a N G) a w G 0 = bg1 I a N G from by funext o b; simp [bg2]]; rfl) trivial (fun hp => ?_) (fun j hj hp K => ?_)
  · have hf4 : Fam S (bg2 (bg1 I a N G) a w G 8) R f w N G := hf3.fr (fun o h1 h2 => bg2_o (by omega))
    refine r_iload_n dX8_begin_27 rfl ?_
    refine r_bipush dX8_begin_28 bp_8 ?_
    refine n_icmp_ge (tgt := 52) dX8_begin_30 (by decide) (by omega) (by omega) (fun c30 => ?_) (fun c30 => (by exfalso; omega))
    refine r_iconst dX8_begin_52 ic_0 ?_
    refine r_istore_n (L' := [_, _, _]) dX8_begin_53 rfl rfl ?_
    refine JJ.loop 6 (fun j => [.ref a, .ref f, .int (nI j)]) (fun j => (bg3 (bg2 (bg1 I a N G) a w G 8) a f j, R)) (fun j => True) (by simp [nI_0, nSum, nFold]) (by rw [show bg3 (bg2 (bg1 I a N G) a w G 8) a f 0 = bg2 (bg1 I a N G) a w G 8 from by funext o b; simp [bg3]]) trivial (fun hp => ?_) (fun j hj hp K => ?_)
    · skip
      refine r_iload_n dX8_begin_54 rfl ?_
      refine r_bipush dX8_begin_55 bp_6 ?_
      refine n_icmp_ge (tgt := 79) dX8_begin_57 (by decide) (by omega) (by omega) (fun c57 => ?_) (fun c57 => (by exfalso; omega))
      refine r_aload_n dX8_begin_79 rfl ?_
      refine g_getR dX8_begin_80 f_X8_25 (Sto.sg ho) rfl (Sto.r4 (by assumption)) ?_
      refine r_iconst dX8_begin_83 ic_0 ?_
      refine r_S2 dX8_begin_84 l_X8_53 k_X7_fill s_X7_fill (Nat.le_of_ble_eq_true rfl) (v_X7_fill X _ (Sto.s4 ho) (by omega)) (List.prefix_refl S) ?_
      refine r_aload_n dX8_begin_87 rfl ?_
      refine g_getR dX8_begin_88 f_X8_28 (Sto.sg ho) rfl (Sto.r5 (by assumption)) ?_
      refine r_iconst dX8_begin_91 ic_0 ?_
      refine r_S2 dX8_begin_92 l_X8_53 k_X7_fill s_X7_fill (Nat.le_of_ble_eq_true rfl) (v_X7_fill X _ (Sto.s5 ho) (by omega)) (List.prefix_refl S) ?_
      exact g_vret dX8_begin_95 rfl rfl
    · have hf5 : Fam S (bg3 (bg2 (bg1 I a N G) a w G 8) a f j) R f w N G := hf4.fr (fun o h1 h2 => bg3_o (by omega))
      refine r_iload_n dX8_begin_54 rfl ?_
      refine r_bipush dX8_begin_55 bp_6 ?_
      refine n_icmp_ge (tgt := 79) dX8_begin_57 (by decide) (by omega) (by omega) (fun c57 => absurd c57 (by omega)) (fun c57 => ?_)
      refine r_aload_n dX8_begin_60 rfl ?_
      refine g_getR dX8_begin_61 f_X8_22 (Sto.sg ho) rfl (Sto.r3 (by assumption)) ?_
      refine r_iload_n dX8_begin_64 rfl ?_
      refine r_aload_n dX8_begin_65 rfl ?_
      refine r_iload_n dX8_begin_66 rfl ?_
      refine r_V1 dX8_begin_67 l_X8_50 k_X1_purseOf i_X1_purseOf (Fam.sg (by assumption)) ⟨_, rfl⟩ (Nat.le_of_ble_eq_true rfl) (v_X1_purseOf X _ (by first | assumption | omega) (by first | assumption | omega)) (List.prefix_refl S) ?_
      refine r_S3 dX8_begin_70 l_X8_44 k_X7_put s_X7_put (Nat.le_of_ble_eq_true rfl) (v_X7_put X _ (Sto.s3 (by assumption)) (by omega) (by decide)) (List.prefix_refl S) ?_
      refine r_iinc (L' := [_, _, _]) dX8_begin_73 rfl rfl (nI_inc _) rfl ?_
      refine r_goto (tgt := 54) dX8_begin_76 (by decide) ?_
      exact JJ.to (K trivial) rfl rfl (by rw [bg3_o (show f + 2 ≠ a + 2 by omega), bg3_s])
  · have hf4 : Fam S (bg2 (bg1 I a N G) a w G j) R f w N G := hf3.fr (fun o h1 h2 => bg2_o (by omega))
    refine r_iload_n dX8_begin_27 rfl ?_
    refine r_bipush dX8_begin_28 bp_8 ?_
    refine n_icmp_ge (tgt := 52) dX8_begin_30 (by decide) (by omega) (by omega) (fun c30 => absurd c30 (by omega)) (fun c30 => ?_)
    refine r_aload_n dX8_begin_33 rfl ?_
    refine g_getR dX8_begin_34 f_X8_18 (Sto.sg ho) rfl (Sto.r2 (by assumption)) ?_
    refine r_iload_n dX8_begin_37 rfl ?_
    refine r_aload_n dX8_begin_38 rfl ?_
    refine r_iload_n dX8_begin_39 rfl ?_
    refine r_V1 dX8_begin_40 l_X8_40 k_X1_firstOwnerOf i_X1_firstOwnerOf (Fam.sg (by assumption)) ⟨_, rfl⟩ (Nat.le_of_ble_eq_true rfl) (v_X1_firstOwnerOf X _ (by first | assumption | omega) (by first | assumption | omega)) (List.prefix_refl S) ?_
    refine r_S3 dX8_begin_43 l_X8_44 k_X7_put s_X7_put (Nat.le_of_ble_eq_true rfl) (v_X7_put X _ (Sto.s2 (by assumption)) (by omega) (by decide)) (List.prefix_refl S) ?_
    refine r_iinc (L' := [_, _, _]) dX8_begin_46 rfl rfl (nI_inc _) rfl ?_
    refine r_goto (tgt := 27) dX8_begin_49 (by decide) ?_
    exact JJ.to (K trivial) rfl rfl (by rw [bg2_s])

