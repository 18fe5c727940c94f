/-! ===== the class: orders, giving, turns, years ===== -/
theorem isP_6 {x : Int32} (h1 : ¬ x < 0) (h2 : x ≤ nI 6) : isP 7 x = true := by
  obtain ⟨k, hk, rfl⟩ := nI_of h1
  rw [nI_leI hk (by omega)] at h2
  exact isP_n (by omega) (by decide)
set_option maxHeartbeats 4000000 in
set_option maxRecDepth 100000 in
theorem v_X11_order_f (X : mCx) (d : Nat) {S : mSh} {I : mI} {R : mR} {w s : Nat → Int32} {N G hb pb f dr : Nat} {x : Int32} (hc : Cla S R f dr) (hf : Fam S I R f w N G) (hst : Std S I R 6 s N G hb pb) (hx : isP 7 x = false) : CC X (d + 1) M_X11_order [.ref 1, .int x] S (I, R) (some (.int (-1))) S (I, R) := by
  have hG8 := hst.G8
  have hN6 := hst.N6
  have h256 := hst.h256
  have p256 := hst.p256
  have hund := hc.und
  have hkep := hc.kep
  have hoat := hc.oat
  have hord := hc.ord
  have htxt := hc.txt
  have htwo := hc.two
  have hgif := hc.gif
  have htri := hc.tri
  have hnow := hc.now
  refine CC.of2 (L := [.ref 1, .int x, .retAddr 0]) p_X11 (Nat.le_of_ble_eq_true rfl) rfl rfl (List.prefix_refl S) ?_
  refine r_iload_n dX11_order_0 rfl ?_
  refine r_if_lt (tgt := 10) dX11_order_1 (by decide) (fun c1 => ?_) (fun c1 => ?_)
  · skip
    refine r_iconst dX11_order_10 ic_m1 ?_
    exact g_iret dX11_order_11 rfl rfl
  · skip
    refine r_iload_n dX11_order_4 rfl ?_
    refine r_bipush dX11_order_5 bp_6 ?_
    refine r_icmp_le (tgt := 12) dX11_order_7 (by decide) (fun c7 => ?_) (fun c7 => ?_)
    · skip
      exact absurd hx (by rw [isP_6 c1 c7]; decide)
    · skip
      refine r_iconst dX11_order_10 ic_m1 ?_
      exact g_iret dX11_order_11 rfl rfl

set_option maxHeartbeats 4000000 in
set_option maxRecDepth 100000 in
theorem v_X11_order (X : mCx) (d : Nat) {S : mSh} {I : mI} {R : mR} {w s : Nat → Int32} {N G hb pb f dr : Nat} {k : Nat} {T : Nat → Nat} (hc : Cla S R f dr) (hf : Fam S I R f w N G) (hst : Std S I R 6 s N G hb pb) (hk : k ≤ 6) (hT : ∀ x, 0 < x → x ≤ hb → (∃ n, x = lvB T hb n) → (rkH I 73 w s N G hb 63) 75 x = nI (T x) ∧ T x < 6) : CC X (d + 7) M_X11_order [.ref 1, .int (nI k)] S (I, R) (some (.int (if k = 0 ∨ (rkH I 73 w s N G hb 63) 74 hb = -4 then (rkH I 73 w s N G hb 63) 74 hb else if 0 < lvB T hb (k - 1) then nI (T (lvB T hb (k - 1))) else -4))) S (rkH I 73 w s N G hb 63, R) := by
  have hG8 := hst.G8
  have hN6 := hst.N6
  have h256 := hst.h256
  have p256 := hst.p256
  have hund := hc.und
  have hkep := hc.kep
  have hoat := hc.oat
  have hord := hc.ord
  have htxt := hc.txt
  have htwo := hc.two
  have hgif := hc.gif
  have htri := hc.tri
  have hnow := hc.now
  have hb2 := hst.hb2
  have h64 := p2_le (m := 6) hN6 hb2
  refine CC.of2 (L := [.ref 1, .int (nI k), .retAddr 0]) p_X11 (Nat.le_of_ble_eq_true rfl) rfl rfl (List.prefix_refl S) ?_
  refine r_iload_n dX11_order_0 rfl ?_
  refine n_if_lt (tgt := 10) dX11_order_1 (by decide) (by omega) (fun c1 => absurd c1 (Nat.not_lt_zero _)) (fun c1 => ?_)
  refine r_iload_n dX11_order_4 rfl ?_
  refine r_bipush dX11_order_5 bp_6 ?_
  refine n_icmp_le (tgt := 12) dX11_order_7 (by decide) (by omega) (by omega) (fun c7 => ?_) (fun c7 => absurd c7 (by omega))
  refine r_aload_n dX11_order_12 rfl ?_
  refine g_getR dX11_order_13 f_X11_55 (Cla.sg (by assumption)) rfl (Cla.f7 (by assumption)) ?_
  refine r_aload_n dX11_order_16 rfl ?_
  refine g_getR dX11_order_17 f_X11_66 (Cla.sg (by assumption)) rfl (Cla.f9 (by assumption)) ?_
  refine r_aload_n dX11_order_20 rfl ?_
  refine g_getR dX11_order_21 f_X11_26 (Cla.sg (by assumption)) rfl (Cla.f2 (by assumption)) ?_
  refine r_V2 dX11_order_24 l_X11_229 k_X4_reckon i_X4_reckon (Ord.sg (Cla.ord (by assumption))) ⟨_, rfl⟩ (Nat.le_of_ble_eq_true rfl) (v_X4_reckon X _ hord hf hst (by omega) (by omega)) (List.prefix_refl S) ?_
  have hf1 : Fam S (rkH I 73 w s N G hb 63) R f w N G := hf.fr (fun o h1 h2 => rkH_fr (by omega) 63)
  have hst1 : Std S (rkH I 73 w s N G hb 63) R 6 s N G hb pb := hst.fr (fun o h1 h2 => rkH_fr (by omega) 63)
  refine r_aload_n dX11_order_27 rfl ?_
  refine g_getR dX11_order_28 f_X11_55 (Cla.sg (by assumption)) rfl (Cla.f7 (by assumption)) ?_
  refine r_aload_n dX11_order_31 rfl ?_
  refine g_getR dX11_order_32 f_X11_26 (Cla.sg (by assumption)) rfl (Cla.f2 (by assumption)) ?_
  refine g_getI dX11_order_35 f_X11_195 (Sto.sg (Cla.now (by assumption))) rfl hst1.here ?_
  refine r_V1 dX11_order_38 l_X11_233 k_X4_least i_X4_least (Ord.sg (Cla.ord (by assumption))) ⟨_, rfl⟩ (Nat.le_of_ble_eq_true rfl) (v_X4_least X _ hord (by omega)) (List.prefix_refl S) ?_
  refine r_istore_n (L' := [_, _, _]) dX11_order_41 rfl rfl ?_
  refine r_iload_n dX11_order_42 rfl ?_
  refine n_if_eq (tgt := 52) dX11_order_43 (by decide) (by omega) (fun c43 => ?_) (fun c43 => ?_)
  · rw [if_pos (Or.inl c43)]
    refine r_iload_n dX11_order_52 rfl ?_
    refine r_goto (tgt := 71) dX11_order_53 (by decide) ?_
    exact g_iret dX11_order_71 rfl rfl
  · skip
    refine r_iload_n dX11_order_46 rfl ?_
    refine r_bipush dX11_order_47 bp_m4 ?_
    refine r_icmp_ne (tgt := 56) dX11_order_49 (by decide) (fun c49 => ?_) (fun c49 => ?_)
    · rw [if_neg (fun q => q.elim c43 c49)]
      refine r_aload_n dX11_order_56 rfl ?_
      refine g_getR dX11_order_57 f_X11_55 (Cla.sg (by assumption)) rfl (Cla.f7 (by assumption)) ?_
      refine r_aload_n dX11_order_60 rfl ?_
      refine g_getR dX11_order_61 f_X11_26 (Cla.sg (by assumption)) rfl (Cla.f2 (by assumption)) ?_
      refine g_getI dX11_order_64 f_X11_195 (Sto.sg (Cla.now (by assumption))) rfl hst1.here ?_
      refine r_iload_n dX11_order_67 rfl ?_
      refine r_V2 dX11_order_68 l_X11_236 k_X4_leaver i_X4_leaver (Ord.sg (Cla.ord (by assumption))) ⟨_, rfl⟩ (Nat.le_of_ble_eq_true rfl) (v_X4_leaver X _ hord (by omega) (by omega) hk hT) (List.prefix_refl S) ?_
      exact g_iret dX11_order_71 rfl rfl
    · rw [if_pos (Or.inr c49)]
      refine r_iload_n dX11_order_52 rfl ?_
      refine r_goto (tgt := 71) dX11_order_53 (by decide) ?_
      exact g_iret dX11_order_71 rfl rfl

def gvH (I : mI) (g j pb : Nat) : mI := sJ (sJ (cpH I 6 11) 12 g (nI j)) 11 1 (nI (pbs pb g false))
theorem gvH_fr {I : mI} {g j pb o : Nat} (h : o < 11 ∨ 15 < o) : gvH I g j pb o = I o := by unfold gvH; rw [sJ_o (by omega), sJ_o (by omega), cpH_fr (by omega)]
theorem Std.gv {S : mSh} {I : mI} {R : mR} {s : Nat → Int32} {N G hb pb g j : Nat} (hst : Std S I R 6 s N G hb pb) (ho : Sto S R 11) (hg : g < G) : Std S (gvH I g j pb) R 11 (hnd s g j) N G hb (pbs pb g false) := (hst.cp ho (by omega)).hand hg
/-- what all who are here owe if good g were j's -/
def gvS (w s : Nat → Int32) (N G hb g j n : Nat) : Int32 := nSum n (fun i => if hb.testBit i = true then owe w (hnd s g j) N G hb i else 0)
set_option maxHeartbeats 4000000 in
set_option maxRecDepth 100000 in
theorem v_X11_owedByAllAfterGiving (X : mCx) (d : Nat) {S : mSh} {I : mI} {R : mR} {w s : Nat → Int32} {N G hb pb f dr : Nat} {g j : Nat} (hc : Cla S R f dr) (hf : Fam S I R f w N G) (hst : Std S I R 6 s N G hb pb) (hg : g < G) : CC X (d + 5) M_X11_owedByAllAfterGiving [.ref 1, .int (nI g), .int (nI j)] S (I, R) (some (.int (gvS w s N G hb g j N))) S (gvH I g j pb, R) := by
  have hG8 := hst.G8
  have hN6 := hst.N6
  have h256 := hst.h256
  have p256 := hst.p256
  have hund := hc.und
  have hkep := hc.kep
  have hoat := hc.oat
  have hord := hc.ord
  have htxt := hc.txt
  have htwo := hc.two
  have hgif := hc.gif
  have htri := hc.tri
  have hnow := hc.now
  refine CC.of2 (L := [.ref 1, .int (nI g), .int (nI j), .retAddr 0, .retAddr 0]) p_X11 (Nat.le_of_ble_eq_true rfl) rfl rfl (List.prefix_refl S) ?_
  refine r_aload_n dX11_owedByAllAfterGiving_0 rfl ?_
  refine g_getR dX11_owedByAllAfterGiving_1 f_X11_30 (Cla.sg (by assumption)) rfl (Cla.f3 (by assumption)) ?_
  refine r_aload_n dX11_owedByAllAfterGiving_4 rfl ?_
  refine g_getR dX11_owedByAllAfterGiving_5 f_X11_26 (Cla.sg (by assumption)) rfl (Cla.f2 (by assumption)) ?_
  refine r_V1 dX11_owedByAllAfterGiving_8 l_X11_272 k_X8_copy i_X8_copy (Sto.sg (Cla.tri (by assumption))) ⟨_, rfl⟩ (Nat.le_of_ble_eq_true rfl) (v_X8_copy X _ hst htri (by omega)) (List.prefix_refl S) ?_
  have h1 := hst.cp htri (by omega)
  refine r_aload_n dX11_owedByAllAfterGiving_11 rfl ?_
  refine g_getR dX11_owedByAllAfterGiving_12 f_X11_30 (Cla.sg (by assumption)) rfl (Cla.f3 (by assumption)) ?_
  refine r_iload_n dX11_owedByAllAfterGiving_15 rfl ?_
  refine r_iload_n dX11_owedByAllAfterGiving_16 rfl ?_
  refine r_V2 dX11_owedByAllAfterGiving_17 l_X11_174 k_X8_handOver i_X8_handOver (Sto.sg (Cla.tri (by assumption))) ⟨_, rfl⟩ (Nat.le_of_ble_eq_true rfl) (v_X8_handOver X _ h1 hg) (List.prefix_refl S) ?_
  have h2 := hst.gv (j := j) htri hg
  have hf2 : Fam S (gvH I g j pb) R f w N G := hf.fr (fun o h1 h2 => gvH_fr (by omega))
  refine r_iconst dX11_owedByAllAfterGiving_20 ic_0 ?_
  refine r_istore_n (L' := [_, _, _, _, _]) dX11_owedByAllAfterGiving_21 rfl rfl ?_
  refine r_iconst dX11_owedByAllAfterGiving_22 ic_0 ?_
  refine r_istore (L' := [_, _, _, _, _]) dX11_owedByAllAfterGiving_23 rfl rfl ?_
  refine JJ.loop N (fun q => [.ref 1, .int (nI g), .int (nI j), .int (gvS w s N G hb g j q), .int (nI q)]) (fun q => (gvH I g j pb, R)) (fun q => True) (by simp [nI_0, nSum, gvS]) rfl trivial (fun hp => ?_) (fun q hq hp K => ?_)
  · skip
    refine r_iload dX11_owedByAllAfterGiving_25 rfl ?_
    refine r_aload_n dX11_owedByAllAfterGiving_27 rfl ?_
    refine g_getR dX11_owedByAllAfterGiving_28 f_X11_66 (Cla.sg (by assumption)) rfl (Cla.f9 (by assumption)) ?_
    refine g_getI dX11_owedByAllAfterGiving_31 f_X11_103 (Fam.sg (by assumption)) rfl hf2.hN ?_
    refine n_icmp_ge (tgt := 75) dX11_owedByAllAfterGiving_34 (by decide) (by omega) (by omega) (fun c34 => ?_) (fun c34 => absurd c34 (by omega))
    refine r_iload_n dX11_owedByAllAfterGiving_75 rfl ?_
    exact g_iret dX11_owedByAllAfterGiving_76 rfl rfl
  · skip
    refine r_iload dX11_owedByAllAfterGiving_25 rfl ?_
    refine r_aload_n dX11_owedByAllAfterGiving_27 rfl ?_
    refine g_getR dX11_owedByAllAfterGiving_28 f_X11_66 (Cla.sg (by assumption)) rfl (Cla.f9 (by assumption)) ?_
    refine g_getI dX11_owedByAllAfterGiving_31 f_X11_103 (Fam.sg (by assumption)) rfl hf2.hN ?_
    refine n_icmp_ge (tgt := 75) dX11_owedByAllAfterGiving_34 (by decide) (by omega) (by omega) (fun c34 => absurd c34 (by omega)) (fun c34 => ?_)
    refine r_iload_n dX11_owedByAllAfterGiving_37 rfl ?_
    refine r_aload_n dX11_owedByAllAfterGiving_38 rfl ?_
    refine g_getR dX11_owedByAllAfterGiving_39 f_X11_30 (Cla.sg (by assumption)) rfl (Cla.f3 (by assumption)) ?_
    refine r_iload dX11_owedByAllAfterGiving_42 rfl ?_
    refine r_V1 dX11_owedByAllAfterGiving_44 l_X11_122 k_X8_isHere i_X8_isHere (Sto.sg (Cla.tri (by assumption))) ⟨_, rfl⟩ (Nat.le_of_ble_eq_true rfl) (v_X8_isHere X _ (by first | assumption | omega) (by first | assumption | omega)) (List.prefix_refl S) ?_
    refine r_ifB_eq (tgt := 66) dX11_owedByAllAfterGiving_47 (by decide) (fun c47 => ?_) (fun c47 => ?_)
    · skip
      refine r_iconst dX11_owedByAllAfterGiving_66 ic_0 ?_
      refine r_iadd dX11_owedByAllAfterGiving_67 ?_
      refine r_istore_n (L' := [_, _, _, _, _]) dX11_owedByAllAfterGiving_68 rfl rfl ?_
      refine r_iinc (L' := [_, _, _, _, _]) dX11_owedByAllAfterGiving_69 rfl rfl (nI_inc _) rfl ?_
      refine r_goto (tgt := 25) dX11_owedByAllAfterGiving_72 (by decide) ?_
      exact JJ.to (K trivial) (by simp [gvS, nSum, owe, nI_0, *]) rfl rfl
    · skip
      refine r_aload_n dX11_owedByAllAfterGiving_50 rfl ?_
      refine g_getR dX11_owedByAllAfterGiving_51 f_X11_66 (Cla.sg (by assumption)) rfl (Cla.f9 (by assumption)) ?_
      refine r_aload_n dX11_owedByAllAfterGiving_54 rfl ?_
      refine g_getR dX11_owedByAllAfterGiving_55 f_X11_30 (Cla.sg (by assumption)) rfl (Cla.f3 (by assumption)) ?_
      refine r_iload dX11_owedByAllAfterGiving_58 rfl ?_
      refine r_S3 dX11_owedByAllAfterGiving_60 l_X11_214 k_X0_owed s_X0_owed (Nat.le_of_ble_eq_true rfl) (v_X0_owed X _ (by first | assumption | omega) (by first | assumption | omega) (by first | assumption | omega)) (List.prefix_refl S) ?_
      refine r_goto (tgt := 67) dX11_owedByAllAfterGiving_63 (by decide) ?_
      refine r_iadd dX11_owedByAllAfterGiving_67 ?_
      refine r_istore_n (L' := [_, _, _, _, _]) dX11_owedByAllAfterGiving_68 rfl rfl ?_
      refine r_iinc (L' := [_, _, _, _, _]) dX11_owedByAllAfterGiving_69 rfl rfl (nI_inc _) rfl ?_
      refine r_goto (tgt := 25) dX11_owedByAllAfterGiving_72 (by decide) ?_
      exact JJ.to (K trivial) (by simp [gvS, nSum, owe, nI_0, *]) rfl rfl

def gvQ (w s : Nat → Int32) (N G hb g n : Nat) : Int32 × Int32 := nFold n (fun j q => if ¬ nI j = s (19 + g) ∧ hb.testBit j = true ∧ (q.1 = -4 ∨ ¬ q.2 ≤ gvS w s N G hb g j N) then (nI j, gvS w s N G hb g j N) else q) (-4, -4)
theorem gvQ_s (w s : Nat → Int32) (N G hb g n : Nat) : gvQ w s N G hb g (n + 1) = if ¬ nI n = s (19 + g) ∧ hb.testBit n = true ∧ ((gvQ w s N G hb g n).1 = -4 ∨ ¬ (gvQ w s N G hb g n).2 ≤ gvS w s N G hb g n N) then (nI n, gvS w s N G hb g n N) else gvQ w s N G hb g n := rfl
def gvJ (I : mI) (s : Nat → Int32) (hb g pb n : Nat) : mI := nFold n (fun j J => if ¬ nI j = s (19 + g) ∧ hb.testBit j = true then gvH J g j pb else J) I
theorem gvJ_s (I : mI) (s : Nat → Int32) (hb g pb n : Nat) : gvJ I s hb g pb (n + 1) = if ¬ nI n = s (19 + g) ∧ hb.testBit n = true then gvH (gvJ I s hb g pb n) g n pb else gvJ I s hb g pb n := rfl
theorem gvJ_fr {I : mI} {s : Nat → Int32} {hb g pb o : Nat} (h : o < 11 ∨ 15 < o) : ∀ n, gvJ I s hb g pb n o = I o
  | 0 => rfl
  | n + 1 => by
    rw [gvJ_s]
    split
    · rw [gvH_fr h]; exact gvJ_fr h n
    · exact gvJ_fr h n
section
variable {w s : Nat → Int32} {N G hb g n pb : Nat} {I : mI}
theorem gvQ_t1 (h1 : ¬ nI n = s (19 + g)) (h2 : hb.testBit n = true) (h3 : (gvQ w s N G hb g n).1 = -4) : gvQ w s N G hb g (n + 1) = (nI n, gvS w s N G hb g n N) := by rw [gvQ_s, if_pos ⟨h1, h2, Or.inl h3⟩]
theorem gvQ_t2 (h1 : ¬ nI n = s (19 + g)) (h2 : hb.testBit n = true) (h3 : ¬ (gvQ w s N G hb g n).2 ≤ gvS w s N G hb g n N) : gvQ w s N G hb g (n + 1) = (nI n, gvS w s N G hb g n N) := by rw [gvQ_s, if_pos ⟨h1, h2, Or.inr h3⟩]
theorem gvQ_f1 (h1 : nI n = s (19 + g)) : gvQ w s N G hb g (n + 1) = gvQ w s N G hb g n := by rw [gvQ_s, if_neg (fun z => z.1 h1)]
theorem gvQ_f2 (h2 : hb.testBit n = false) : gvQ w s N G hb g (n + 1) = gvQ w s N G hb g n := by rw [gvQ_s, if_neg (fun z => absurd (h2.symm.trans z.2.1) (by decide))]
theorem gvQ_f3 (h3 : ¬ (gvQ w s N G hb g n).1 = -4) (h4 : (gvQ w s N G hb g n).2 ≤ gvS w s N G hb g n N) : gvQ w s N G hb g (n + 1) = gvQ w s N G hb g n := by rw [gvQ_s, if_neg (fun z => z.2.2.elim h3 (fun q => q h4))]
theorem gvJ_t (h1 : ¬ nI n = s (19 + g)) (h2 : hb.testBit n = true) : gvJ I s hb g pb (n + 1) = gvH (gvJ I s hb g pb n) g n pb := by rw [gvJ_s, if_pos ⟨h1, h2⟩]
theorem gvJ_f1 (h1 : nI n = s (19 + g)) : gvJ I s hb g pb (n + 1) = gvJ I s hb g pb n := by rw [gvJ_s, if_neg (fun z => z.1 h1)]
theorem gvJ_f2 (h2 : hb.testBit n = false) : gvJ I s hb g pb (n + 1) = gvJ I s hb g pb n := by rw [gvJ_s, if_neg (fun z => absurd (h2.symm.trans z.2) (by decide))]
end
set_option maxHeartbeats 4000000 in
set_option maxRecDepth 100000 in
theorem v_X11_giving_t (X : mCx) (d : Nat) {S : mSh} {I : mI} {R : mR} {w s : Nat → Int32} {N G hb pb f dr : Nat} {g : Nat} {y : Int32} (hc : Cla S R f dr) (hf : Fam S I R f w N G) (hst : Std S I R 6 s N G hb pb) (hs : sOk s N G) (hg : g < G) (hy : isA y = true) (hh : isHr hb (s (19 + g)) = true) : CC X (d + 6) M_X11_giving [.ref 1, .int (nI g), .int y] S (I, R) (some (.int (if y = nI 0 then (gvQ w s N G hb g N).1 else (gvQ w s N G hb g N).2))) S (gvJ I s hb g pb N, R) := by
  have hG8 := hst.G8
  have hN6 := hst.N6
  have h256 := hst.h256
  have p256 := hst.p256
  have hund := hc.und
  have hkep := hc.kep
  have hoat := hc.oat
  have hord := hc.ord
  have htxt := hc.txt
  have htwo := hc.two
  have hgif := hc.gif
  have htri := hc.tri
  have hnow := hc.now
  refine CC.of2 (L := [.ref 1, .int (nI g), .int y, .retAddr 0, .retAddr 0, .retAddr 0, .retAddr 0, .retAddr 0]) p_X11 (Nat.le_of_ble_eq_true rfl) rfl rfl (List.prefix_refl S) ?_
  refine r_aload_n dX11_giving_0 rfl ?_
  refine g_getR dX11_giving_1 f_X11_66 (Cla.sg (by assumption)) rfl (Cla.f9 (by assumption)) ?_
  refine r_iload_n dX11_giving_4 rfl ?_
  refine r_V1 dX11_giving_5 l_X11_128 k_X1_isGood i_X1_isGood (Fam.sg (by assumption)) ⟨_, rfl⟩ (Nat.le_of_ble_eq_true rfl) (v_X1_isGood X _ (by first | assumption | omega)) (List.prefix_refl S) ?_
  refine r_ifB_eq (tgt := 18) dX11_giving_8 (by decide) (fun c8 => absurd (isP_n hg (by omega)) (by rw [c8]; decide)) (fun c8 => ?_)
  refine r_iload_n dX11_giving_11 rfl ?_
  refine r_S1 dX11_giving_12 l_X11_217 k_X11_isAsked s_X11_isAsked (Nat.le_of_ble_eq_true rfl) (v_X11_isAsked X _ ) (List.prefix_refl S) ?_
  refine r_ifB_ne (tgt := 20) dX11_giving_15 (by decide) (fun c15 => ?_) (fun c15 => absurd hy (by rw [c15]; decide))
  refine r_aload_n dX11_giving_20 rfl ?_
  refine g_getR dX11_giving_21 f_X11_26 (Cla.sg (by assumption)) rfl (Cla.f2 (by assumption)) ?_
  refine r_iload_n dX11_giving_24 rfl ?_
  refine r_V1 dX11_giving_25 l_X11_134 k_X8_ownerOf i_X8_ownerOf (Sto.sg (Cla.now (by assumption))) ⟨_, rfl⟩ (Nat.le_of_ble_eq_true rfl) (v_X8_ownerOf X _ (by first | assumption | omega) (by first | assumption | omega)) (List.prefix_refl S) ?_
  refine r_istore_n (L' := [_, _, _, _, _, _, _, _]) dX11_giving_28 rfl rfl ?_
  refine r_aload_n dX11_giving_29 rfl ?_
  refine g_getR dX11_giving_30 f_X11_26 (Cla.sg (by assumption)) rfl (Cla.f2 (by assumption)) ?_
  refine r_iload_n dX11_giving_33 rfl ?_
  refine r_V1 dX11_giving_34 l_X11_122 k_X8_isHere i_X8_isHere (Sto.sg (Cla.now (by assumption))) ⟨_, rfl⟩ (Nat.le_of_ble_eq_true rfl) (v_X8_isHere_x X _ (by first | assumption | omega)) (List.prefix_refl S) ?_
  refine r_ifB_ne (tgt := 43) dX11_giving_37 (by decide) (fun c37 => ?_) (fun c37 => absurd hh (by rw [c37]; decide))
  refine r_bipush dX11_giving_43 bp_m4 ?_
  refine r_istore (L' := [_, _, _, _, _, _, _, _]) dX11_giving_45 rfl rfl ?_
  refine r_bipush dX11_giving_47 bp_m4 ?_
  refine r_istore (L' := [_, _, _, _, _, _, _, _]) dX11_giving_49 rfl rfl ?_
  refine r_iconst dX11_giving_51 ic_0 ?_
  refine r_istore (L' := [_, _, _, _, _, _, _, _]) dX11_giving_52 rfl rfl ?_
  refine JJ.loop N (fun j => [.ref 1, .int (nI g), .int y, .int (s (19 + g)), .int (gvQ w s N G hb g j).1, .int (gvQ w s N G hb g j).2, .int (nI j), .retAddr 0]) (fun j => (gvJ I s hb g pb j, R)) (fun j => True) rfl rfl trivial (fun hp => ?_) (fun j hj hp K => ?_)
  · have hf1 : Fam S (gvJ I s hb g pb N) R f w N G := hf.fr (fun o h1 h2 => gvJ_fr (by omega) N)
    refine r_iload dX11_giving_54 rfl ?_
    refine r_aload_n dX11_giving_56 rfl ?_
    refine g_getR dX11_giving_57 f_X11_66 (Cla.sg (by assumption)) rfl (Cla.f9 (by assumption)) ?_
    refine g_getI dX11_giving_60 f_X11_103 (Fam.sg (by assumption)) rfl hf1.hN ?_
    refine n_icmp_ge (tgt := 121) dX11_giving_63 (by decide) (by omega) (by omega) (fun c63 => ?_) (fun c63 => absurd c63 (by omega))
    refine r_iload_n dX11_giving_121 rfl ?_
    refine r_if_ne (tgt := 130) dX11_giving_122 (by decide) (fun c122 => ?_) (fun c122 => ?_)
    · have c122 : ¬ y = nI 0 := (by rw [nI_0]; exact c122); rw [if_neg c122]
      refine r_iload dX11_giving_130 rfl ?_
      exact g_iret dX11_giving_132 rfl rfl
    · have c122 : y = nI 0 := (by rw [nI_0]; exact c122); rw [if_pos c122]
      refine r_iload dX11_giving_125 rfl ?_
      refine r_goto (tgt := 132) dX11_giving_127 (by decide) ?_
      exact g_iret dX11_giving_132 rfl rfl
  · have hf1 : Fam S (gvJ I s hb g pb j) R f w N G := hf.fr (fun o h1 h2 => gvJ_fr (by omega) j); have hst1 : Std S (gvJ I s hb g pb j) R 6 s N G hb pb := hst.fr (fun o h1 h2 => gvJ_fr (by omega) j)
    refine r_iload dX11_giving_54 rfl ?_
    refine r_aload_n dX11_giving_56 rfl ?_
    refine g_getR dX11_giving_57 f_X11_66 (Cla.sg (by assumption)) rfl (Cla.f9 (by assumption)) ?_
    refine g_getI dX11_giving_60 f_X11_103 (Fam.sg (by assumption)) rfl hf1.hN ?_
    refine n_icmp_ge (tgt := 121) dX11_giving_63 (by decide) (by omega) (by omega) (fun c63 => absurd c63 (by omega)) (fun c63 => ?_)
    refine r_iload dX11_giving_66 rfl ?_
    refine r_iload_n dX11_giving_68 rfl ?_
    refine r_icmp_eq (tgt := 115) dX11_giving_69 (by decide) (fun c69 => ?_) (fun c69 => ?_)
    · have e69 := c69
      refine r_iinc (L' := [_, _, _, _, _, _, _, _]) dX11_giving_115 rfl rfl (nI_inc _) rfl ?_
      refine r_goto (tgt := 54) dX11_giving_118 (by decide) ?_
      refine JJ.wk_at 7 (JJ.to (K trivial) ?_ rfl ?_); (first | (rw [gvQ_t1 n69 t81 e97]; rfl) | (rw [gvQ_t2 n69 t81 n104]; rfl) | (rw [gvQ_f1 e69]; rfl) | (rw [gvQ_f2 f81]; rfl) | (rw [gvQ_f3 n97 l104]; rfl)); (first | rw [gvJ_t n69 t81] | rw [gvJ_f1 e69] | rw [gvJ_f2 f81])
    · have n69 := c69
      refine r_aload_n dX11_giving_72 rfl ?_
      refine g_getR dX11_giving_73 f_X11_26 (Cla.sg (by assumption)) rfl (Cla.f2 (by assumption)) ?_
      refine r_iload dX11_giving_76 rfl ?_
      refine r_V1 dX11_giving_78 l_X11_122 k_X8_isHere i_X8_isHere (Sto.sg (Cla.now (by assumption))) ⟨_, rfl⟩ (Nat.le_of_ble_eq_true rfl) (v_X8_isHere X _ hst1 (by omega)) (List.prefix_refl S) ?_
      refine r_ifB_eq (tgt := 115) dX11_giving_81 (by decide) (fun c81 => ?_) (fun c81 => ?_)
      · have f81 := c81
        refine r_iinc (L' := [_, _, _, _, _, _, _, _]) dX11_giving_115 rfl rfl (nI_inc _) rfl ?_
        refine r_goto (tgt := 54) dX11_giving_118 (by decide) ?_
        refine JJ.wk_at 7 (JJ.to (K trivial) ?_ rfl ?_); (first | (rw [gvQ_t1 n69 t81 e97]; rfl) | (rw [gvQ_t2 n69 t81 n104]; rfl) | (rw [gvQ_f1 e69]; rfl) | (rw [gvQ_f2 f81]; rfl) | (rw [gvQ_f3 n97 l104]; rfl)); (first | rw [gvJ_t n69 t81] | rw [gvJ_f1 e69] | rw [gvJ_f2 f81])
      · have t81 := c81
        refine r_aload_n dX11_giving_84 rfl ?_
        refine r_iload_n dX11_giving_85 rfl ?_
        refine r_iload dX11_giving_86 rfl ?_
        refine r_V2 dX11_giving_88 l_X11_226 k_X11_owedByAllAfterGiving i_X11_owedByAllAfterGiving (Cla.sg (by assumption)) ⟨_, rfl⟩ (Nat.le_of_ble_eq_true rfl) (v_X11_owedByAllAfterGiving X _ (by first | assumption | omega) (by first | assumption | omega) (by first | assumption | omega) (by first | assumption | omega)) (List.prefix_refl S) ?_
        refine r_istore (L' := [_, _, _, _, _, _, _, _]) dX11_giving_91 rfl rfl ?_
        refine r_iload dX11_giving_93 rfl ?_
        refine r_bipush dX11_giving_95 bp_m4 ?_
        refine r_icmp_eq (tgt := 107) dX11_giving_97 (by decide) (fun c97 => ?_) (fun c97 => ?_)
        · have e97 := c97
          refine r_iload dX11_giving_107 rfl ?_
          refine r_istore (L' := [_, _, _, _, _, _, _, _]) dX11_giving_109 rfl rfl ?_
          refine r_iload dX11_giving_111 rfl ?_
          refine r_istore (L' := [_, _, _, _, _, _, _, _]) dX11_giving_113 rfl rfl ?_
          refine r_iinc (L' := [_, _, _, _, _, _, _, _]) dX11_giving_115 rfl rfl (nI_inc _) rfl ?_
          refine r_goto (tgt := 54) dX11_giving_118 (by decide) ?_
          refine JJ.wk_at 7 (JJ.to (K trivial) ?_ rfl ?_); (first | (rw [gvQ_t1 n69 t81 e97]; rfl) | (rw [gvQ_t2 n69 t81 n104]; rfl) | (rw [gvQ_f1 e69]; rfl) | (rw [gvQ_f2 f81]; rfl) | (rw [gvQ_f3 n97 l104]; rfl)); (first | rw [gvJ_t n69 t81] | rw [gvJ_f1 e69] | rw [gvJ_f2 f81])
        · have n97 := c97
          refine r_iload dX11_giving_100 rfl ?_
          refine r_iload dX11_giving_102 rfl ?_
          refine r_icmp_ge (tgt := 115) dX11_giving_104 (by decide) (fun c104 => ?_) (fun c104 => ?_)
          · have l104 := c104
            refine r_iinc (L' := [_, _, _, _, _, _, _, _]) dX11_giving_115 rfl rfl (nI_inc _) rfl ?_
            refine r_goto (tgt := 54) dX11_giving_118 (by decide) ?_
            refine JJ.wk_at 7 (JJ.to (K trivial) ?_ rfl ?_); (first | (rw [gvQ_t1 n69 t81 e97]; rfl) | (rw [gvQ_t2 n69 t81 n104]; rfl) | (rw [gvQ_f1 e69]; rfl) | (rw [gvQ_f2 f81]; rfl) | (rw [gvQ_f3 n97 l104]; rfl)); (first | rw [gvJ_t n69 t81] | rw [gvJ_f1 e69] | rw [gvJ_f2 f81])
          · have n104 := c104
            refine r_iload dX11_giving_107 rfl ?_
            refine r_istore (L' := [_, _, _, _, _, _, _, _]) dX11_giving_109 rfl rfl ?_
            refine r_iload dX11_giving_111 rfl ?_
            refine r_istore (L' := [_, _, _, _, _, _, _, _]) dX11_giving_113 rfl rfl ?_
            refine r_iinc (L' := [_, _, _, _, _, _, _, _]) dX11_giving_115 rfl rfl (nI_inc _) rfl ?_
            refine r_goto (tgt := 54) dX11_giving_118 (by decide) ?_
            refine JJ.wk_at 7 (JJ.to (K trivial) ?_ rfl ?_); (first | (rw [gvQ_t1 n69 t81 e97]; rfl) | (rw [gvQ_t2 n69 t81 n104]; rfl) | (rw [gvQ_f1 e69]; rfl) | (rw [gvQ_f2 f81]; rfl) | (rw [gvQ_f3 n97 l104]; rfl)); (first | rw [gvJ_t n69 t81] | rw [gvJ_f1 e69] | rw [gvJ_f2 f81])

set_option maxHeartbeats 4000000 in
set_option maxRecDepth 100000 in
theorem v_X11_giving_f (X : mCx) (d : Nat) {S : mSh} {I : mI} {R : mR} {w s : Nat → Int32} {N G hb pb f dr : Nat} {x y : Int32} (hc : Cla S R f dr) (hf : Fam S I R f w N G) (hst : Std S I R 6 s N G hb pb) (hb1 : isP G x = false ∨ isA y = false) : CC X (d + 2) M_X11_giving [.ref 1, .int x, .int y] S (I, R) (some (.int (-1))) S (I, R) := by
  have hG8 := hst.G8
  have hN6 := hst.N6
  have h256 := hst.h256
  have p256 := hst.p256
  have hund := hc.und
  have hkep := hc.kep
  have hoat := hc.oat
  have hord := hc.ord
  have htxt := hc.txt
  have htwo := hc.two
  have hgif := hc.gif
  have htri := hc.tri
  have hnow := hc.now
  refine CC.of2 (L := [.ref 1, .int x, .int y, .retAddr 0, .retAddr 0, .retAddr 0, .retAddr 0, .retAddr 0]) p_X11 (Nat.le_of_ble_eq_true rfl) rfl rfl (List.prefix_refl S) ?_
  refine r_aload_n dX11_giving_0 rfl ?_
  refine g_getR dX11_giving_1 f_X11_66 (Cla.sg (by assumption)) rfl (Cla.f9 (by assumption)) ?_
  refine r_iload_n dX11_giving_4 rfl ?_
  refine r_V1 dX11_giving_5 l_X11_128 k_X1_isGood i_X1_isGood (Fam.sg (by assumption)) ⟨_, rfl⟩ (Nat.le_of_ble_eq_true rfl) (v_X1_isGood X _ (by first | assumption | omega)) (List.prefix_refl S) ?_
  refine r_ifB_eq (tgt := 18) dX11_giving_8 (by decide) (fun c8 => ?_) (fun c8 => ?_)
  · skip
    refine r_iconst dX11_giving_18 ic_m1 ?_
    exact g_iret dX11_giving_19 rfl rfl
  · obtain ⟨g, hg, rfl⟩ := isP_t c8 (by omega)
    refine r_iload_n dX11_giving_11 rfl ?_
    refine r_S1 dX11_giving_12 l_X11_217 k_X11_isAsked s_X11_isAsked (Nat.le_of_ble_eq_true rfl) (v_X11_isAsked X _ ) (List.prefix_refl S) ?_
    refine r_ifB_ne (tgt := 20) dX11_giving_15 (by decide) (fun c15 => (by exfalso; rcases hb1 with q | q <;> first | exact absurd q (by rw [c15]; decide) | exact absurd q (by rw [c8]; decide))) (fun c15 => ?_)
    refine r_iconst dX11_giving_18 ic_m1 ?_
    exact g_iret dX11_giving_19 rfl rfl

set_option maxHeartbeats 4000000 in
set_option maxRecDepth 100000 in
theorem v_X11_giving_n (X : mCx) (d : Nat) {S : mSh} {I : mI} {R : mR} {w s : Nat → Int32} {N G hb pb f dr : Nat} {g : Nat} {y : Int32} (hc : Cla S R f dr) (hf : Fam S I R f w N G) (hst : Std S I R 6 s N G hb pb) (hg : g < G) (hy : isA y = true) (hh : isHr hb (s (19 + g)) = false) : CC X (d + 3) M_X11_giving [.ref 1, .int (nI g), .int y] S (I, R) (some (.int (-2))) S (I, R) := by
  have hG8 := hst.G8
  have hN6 := hst.N6
  have h256 := hst.h256
  have p256 := hst.p256
  have hund := hc.und
  have hkep := hc.kep
  have hoat := hc.oat
  have hord := hc.ord
  have htxt := hc.txt
  have htwo := hc.two
  have hgif := hc.gif
  have htri := hc.tri
  have hnow := hc.now
  refine CC.of2 (L := [.ref 1, .int (nI g), .int y, .retAddr 0, .retAddr 0, .retAddr 0, .retAddr 0, .retAddr 0]) p_X11 (Nat.le_of_ble_eq_true rfl) rfl rfl (List.prefix_refl S) ?_
  refine r_aload_n dX11_giving_0 rfl ?_
  refine g_getR dX11_giving_1 f_X11_66 (Cla.sg (by assumption)) rfl (Cla.f9 (by assumption)) ?_
  refine r_iload_n dX11_giving_4 rfl ?_
  refine r_V1 dX11_giving_5 l_X11_128 k_X1_isGood i_X1_isGood (Fam.sg (by assumption)) ⟨_, rfl⟩ (Nat.le_of_ble_eq_true rfl) (v_X1_isGood X _ (by first | assumption | omega)) (List.prefix_refl S) ?_
  refine r_ifB_eq (tgt := 18) dX11_giving_8 (by decide) (fun c8 => absurd (isP_n hg (by omega)) (by rw [c8]; decide)) (fun c8 => ?_)
  refine r_iload_n dX11_giving_11 rfl ?_
  refine r_S1 dX11_giving_12 l_X11_217 k_X11_isAsked s_X11_isAsked (Nat.le_of_ble_eq_true rfl) (v_X11_isAsked X _ ) (List.prefix_refl S) ?_
  refine r_ifB_ne (tgt := 20) dX11_giving_15 (by decide) (fun c15 => ?_) (fun c15 => absurd hy (by rw [c15]; decide))
  refine r_aload_n dX11_giving_20 rfl ?_
  refine g_getR dX11_giving_21 f_X11_26 (Cla.sg (by assumption)) rfl (Cla.f2 (by assumption)) ?_
  refine r_iload_n dX11_giving_24 rfl ?_
  refine r_V1 dX11_giving_25 l_X11_134 k_X8_ownerOf i_X8_ownerOf (Sto.sg (Cla.now (by assumption))) ⟨_, rfl⟩ (Nat.le_of_ble_eq_true rfl) (v_X8_ownerOf X _ (by first | assumption | omega) (by first | assumption | omega)) (List.prefix_refl S) ?_
  refine r_istore_n (L' := [_, _, _, _, _, _, _, _]) dX11_giving_28 rfl rfl ?_
  refine r_aload_n dX11_giving_29 rfl ?_
  refine g_getR dX11_giving_30 f_X11_26 (Cla.sg (by assumption)) rfl (Cla.f2 (by assumption)) ?_
  refine r_iload_n dX11_giving_33 rfl ?_
  refine r_V1 dX11_giving_34 l_X11_122 k_X8_isHere i_X8_isHere (Sto.sg (Cla.now (by assumption))) ⟨_, rfl⟩ (Nat.le_of_ble_eq_true rfl) (v_X8_isHere_x X _ (by first | assumption | omega)) (List.prefix_refl S) ?_
  refine r_ifB_ne (tgt := 43) dX11_giving_37 (by decide) (fun c37 => absurd hh (by rw [c37]; decide)) (fun c37 => ?_)
  refine r_bipush dX11_giving_40 bp_m2 ?_
  exact g_iret dX11_giving_42 rfl rfl

