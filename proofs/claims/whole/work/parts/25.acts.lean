/-! ===== the class: what changes something ===== -/
theorem puH_fr {I : mI} {z n nx u q o : Nat} (hnx : nx < n) (h : o < z ∨ z + 1 + 5 * n < o) : puH I z n nx u q o = I o := by
  unfold puH
  rw [sJ_o (by omega), sJ_o (by omega), cpH_fr (by omega)]
theorem taH_fr {I : mI} {z n nx u a o : Nat} (h1 : o ≠ z) (h : o < a ∨ a + 4 < o) : taH I z n nx u a o = I o := by
  unfold taH
  rw [sJ_o h1, sJ_o h1, cpH_fr h]
def ldP (w s : Nat → Int32) (G pb p : Nat) : Int32 := lodB w G (ownB s G (nI p) &&& pb)
/-- a good can be packed by its owner p -/
def pk1 (w s : Nat → Int32) (G hb pb g p : Nat) : Bool := isHr hb (s (19 + g)) && (!pb.testBit g && (!decide (w (21 + g) = nI 2) && !decide (w (15 + p) < ldP w s G pb p + w (45 + g))))
def pk0 (w s : Nat → Int32) (hb pb g : Nat) : Bool := isHr hb (s (19 + g)) && (pb.testBit g && !decide (w (21 + g) = nI 2))
set_option maxHeartbeats 4000000 in
set_option maxRecDepth 100000 in
theorem v_X11_pack_1 (X : mCx) (d : Nat) {S : mSh} {I : mI} {R : mR} {w s : Nat → Int32} {N G g hb pb f dr nx u : Nat} (hc : Cla S R f dr) (hf : Fam S I R f w N G) (hst : Std S I R 6 s N G hb pb) (hn : I 16 1 = nI nx) (hnx : nx < 8) (hh : I 16 2 = nI u) (hu : u ≤ 8) (hs : sOk s N G) (hg : g < G) : CC X (d + 4) M_X11_pack [.ref 1, .int (nI g), .int (nI 1)] S (I, R) (some (.int (if pk1 w s G hb pb g (s (19 + g)).toNatClampNeg = true then ldP w s G pb (s (19 + g)).toNatClampNeg + w (45 + g) else -2))) S ((if pk1 w s G hb pb g (s (19 + g)).toNatClampNeg = true then sJ (puH I 16 8 nx u 6) 6 1 (nI (pbs pb g true)) else I), R) := by
  have hG8 := hst.G8
  have hN6 := hst.N6
  have h256 := hst.h256
  have p256 := hst.p256
  have hund := hc.und
  have hkep := hc.kep
  have hoat := hc.oat
  have hord := hc.ord
  have htxt := hc.txt
  have htwo := hc.two
  have hgif := hc.gif
  have htri := hc.tri
  have hnow := hc.now
  refine CC.of2 (L := [.ref 1, .int (nI g), .int (nI 1), .retAddr 0, .retAddr 0, .retAddr 0]) p_X11 (Nat.le_of_ble_eq_true rfl) rfl rfl (List.prefix_refl S) ?_
  refine r_aload_n dX11_pack_0 rfl ?_
  refine g_getR dX11_pack_1 f_X11_66 (Cla.sg (by assumption)) rfl (Cla.f9 (by assumption)) ?_
  refine r_iload_n dX11_pack_4 rfl ?_
  refine r_V1 dX11_pack_5 l_X11_128 k_X1_isGood i_X1_isGood (Fam.sg (by assumption)) ⟨_, rfl⟩ (Nat.le_of_ble_eq_true rfl) (v_X1_isGood X _ (by first | assumption | omega)) (List.prefix_refl S) ?_
  refine r_ifB_ne (tgt := 13) dX11_pack_8 (by decide) (fun c8 => ?_) (fun c8 => absurd (isP_n hg (by omega)) (by rw [c8]; decide))
  refine r_aload_n dX11_pack_13 rfl ?_
  refine g_getR dX11_pack_14 f_X11_26 (Cla.sg (by assumption)) rfl (Cla.f2 (by assumption)) ?_
  refine r_iload_n dX11_pack_17 rfl ?_
  refine r_V1 dX11_pack_18 l_X11_134 k_X8_ownerOf i_X8_ownerOf (Sto.sg (Cla.now (by assumption))) ⟨_, rfl⟩ (Nat.le_of_ble_eq_true rfl) (v_X8_ownerOf X _ (by first | assumption | omega) (by first | assumption | omega)) (List.prefix_refl S) ?_
  refine r_istore_n (L' := [_, _, _, _, _, _]) dX11_pack_21 rfl rfl ?_
  refine r_aload_n dX11_pack_22 rfl ?_
  refine g_getR dX11_pack_23 f_X11_26 (Cla.sg (by assumption)) rfl (Cla.f2 (by assumption)) ?_
  refine r_iload_n dX11_pack_26 rfl ?_
  refine r_V1 dX11_pack_27 l_X11_122 k_X8_isHere i_X8_isHere (Sto.sg (Cla.now (by assumption))) ⟨_, rfl⟩ (Nat.le_of_ble_eq_true rfl) (v_X8_isHere_x X _ (by first | assumption | omega)) (List.prefix_refl S) ?_
  refine r_ifB_eq (tgt := 57) dX11_pack_30 (by decide) (fun c30 => ?_) (fun c30 => ?_)
  · have e : pk1 w s G hb pb g (s (19 + g)).toNatClampNeg = false := (by simp [pk1, c30])
    refine r_bipush dX11_pack_57 bp_m2 ?_
    exact g_iret dX11_pack_59 (by first | rw [if_neg (by rw [e]; decide)] | (rw [if_neg (by simp [pk1, c42])])) (by first | rw [if_neg (by rw [e]; decide)] | (rw [if_neg (by simp [pk1, c42])]))
  · obtain ⟨p, hp, ep, hbp⟩ := hs.own hg hN6 c30; have e1 : (s (19 + g)).toNatClampNeg = p := (by rw [ep, nI_clamp (by omega)]); rw [e1, ep]; have ho := ownB_256 s (nI p) hG8; have hld : ownB s G (nI p) &&& pb < 256 := Nat.lt_of_le_of_lt Nat.and_le_left ho
    refine r_aload_n dX11_pack_33 rfl ?_
    refine g_getR dX11_pack_34 f_X11_26 (Cla.sg (by assumption)) rfl (Cla.f2 (by assumption)) ?_
    refine r_iload_n dX11_pack_37 rfl ?_
    refine r_V1 dX11_pack_38 l_X11_143 k_X8_isPacked i_X8_isPacked (Sto.sg (Cla.now (by assumption))) ⟨_, rfl⟩ (Nat.le_of_ble_eq_true rfl) (v_X8_isPacked X _ (by first | assumption | omega) (by first | assumption | omega)) (List.prefix_refl S) ?_
    refine r_iload_n dX11_pack_41 rfl ?_
    refine r_icmp_eq (tgt := 57) dX11_pack_42 (by decide) (fun c42 => ?_) (fun c42 => ?_)
    · have c42 : pb.testBit g = true := bI_n1.mp c42
      refine r_bipush dX11_pack_57 bp_m2 ?_
      exact g_iret dX11_pack_59 (by first | rw [if_neg (by rw [e]; decide)] | (rw [if_neg (by simp [pk1, c42])])) (by first | rw [if_neg (by rw [e]; decide)] | (rw [if_neg (by simp [pk1, c42])]))
    · have c42 : pb.testBit g = false := (by have q := c42; rw [bI_n1] at q; simpa using q)
      refine r_aload_n dX11_pack_45 rfl ?_
      refine g_getR dX11_pack_46 f_X11_66 (Cla.sg (by assumption)) rfl (Cla.f9 (by assumption)) ?_
      refine r_iload_n dX11_pack_49 rfl ?_
      refine r_V1 dX11_pack_50 l_X11_131 k_X1_sortOf i_X1_sortOf (Fam.sg (by assumption)) ⟨_, rfl⟩ (Nat.le_of_ble_eq_true rfl) (v_X1_sortOf X _ (by first | assumption | omega) (by first | assumption | omega)) (List.prefix_refl S) ?_
      refine r_iconst dX11_pack_53 ic_2 ?_
      refine r_icmp_ne (tgt := 60) dX11_pack_54 (by decide) (fun c54 => ?_) (fun c54 => ?_)
      · skip
        refine r_aload_n dX11_pack_60 rfl ?_
        refine g_getR dX11_pack_61 f_X11_66 (Cla.sg (by assumption)) rfl (Cla.f9 (by assumption)) ?_
        refine r_aload_n dX11_pack_64 rfl ?_
        refine g_getR dX11_pack_65 f_X11_26 (Cla.sg (by assumption)) rfl (Cla.f2 (by assumption)) ?_
        refine r_iload_n dX11_pack_68 rfl ?_
        refine r_V1 dX11_pack_69 l_X11_154 k_X8_owned i_X8_owned (Sto.sg (Cla.now (by assumption))) ⟨_, rfl⟩ (Nat.le_of_ble_eq_true rfl) (v_X8_owned X _ (by first | assumption | omega)) (List.prefix_refl S) ?_
        refine r_aload_n dX11_pack_72 rfl ?_
        refine g_getR dX11_pack_73 f_X11_26 (Cla.sg (by assumption)) rfl (Cla.f2 (by assumption)) ?_
        refine g_getI dX11_pack_76 f_X11_157 (Sto.sg (Cla.now (by assumption))) rfl hst.packed ?_
        refine r_iand dX11_pack_79 ?_
        refine g_top (nI_and _ _) ?_
        refine r_S2 dX11_pack_80 l_X11_160 k_X0_load s_X0_load (Nat.le_of_ble_eq_true rfl) (v_X0_load X _ (by first | assumption | omega) (by first | assumption | omega)) (List.prefix_refl S) ?_
        refine r_istore (L' := [_, _, _, _, _, _]) dX11_pack_83 rfl rfl ?_
        refine r_iload_n dX11_pack_85 rfl ?_
        refine n_if_eq (tgt := 103) dX11_pack_86 (by decide) (by omega) (fun c86 => absurd c86 (by decide)) (fun c86 => ?_)
        refine r_iload dX11_pack_89 rfl ?_
        refine r_aload_n dX11_pack_91 rfl ?_
        refine g_getR dX11_pack_92 f_X11_66 (Cla.sg (by assumption)) rfl (Cla.f9 (by assumption)) ?_
        refine r_iload_n dX11_pack_95 rfl ?_
        refine r_V1 dX11_pack_96 l_X11_140 k_X1_heavyOf i_X1_heavyOf (Fam.sg (by assumption)) ⟨_, rfl⟩ (Nat.le_of_ble_eq_true rfl) (v_X1_heavyOf X _ (by first | assumption | omega) (by first | assumption | omega)) (List.prefix_refl S) ?_
        refine r_iadd dX11_pack_99 ?_
        refine r_goto (tgt := 114) dX11_pack_100 (by decide) ?_
        refine r_istore (L' := [_, _, _, _, _, _]) dX11_pack_114 rfl rfl ?_
        refine r_iload_n dX11_pack_116 rfl ?_
        refine n_if_eq (tgt := 136) dX11_pack_117 (by decide) (by omega) (fun c117 => absurd c117 (by decide)) (fun c117 => ?_)
        refine r_iload dX11_pack_120 rfl ?_
        refine r_aload_n dX11_pack_122 rfl ?_
        refine g_getR dX11_pack_123 f_X11_66 (Cla.sg (by assumption)) rfl (Cla.f9 (by assumption)) ?_
        refine r_iload_n dX11_pack_126 rfl ?_
        refine r_V1 dX11_pack_127 l_X11_119 k_X1_strengthOf i_X1_strengthOf (Fam.sg (by assumption)) ⟨_, rfl⟩ (Nat.le_of_ble_eq_true rfl) (v_X1_strengthOf X _ (by first | assumption | omega) (by first | assumption | omega)) (List.prefix_refl S) ?_
        refine r_icmp_le (tgt := 136) dX11_pack_130 (by decide) (fun c130 => ?_) (fun c130 => ?_)
        · skip
          have e : pk1 w s G hb pb g p = true := by unfold pk1 ldP; rw [c30, c42]; simp [c54]; exact c130
          rw [if_pos e, if_pos e]
          refine r_aload_n dX11_pack_136 rfl ?_
          refine g_getR dX11_pack_137 f_X11_38 (Cla.sg (by assumption)) rfl (Cla.f4 (by assumption)) ?_
          refine r_aload_n dX11_pack_140 rfl ?_
          refine g_getR dX11_pack_141 f_X11_26 (Cla.sg (by assumption)) rfl (Cla.f2 (by assumption)) ?_
          refine r_V1 dX11_pack_144 l_X11_166 k_X5_put i_X5_put (Pio.sg (Cla.und (by assumption))) ⟨_, rfl⟩ (Nat.le_of_ble_eq_true rfl) (v_X5_put X _ hund hst hn hnx hh hu (by omega)) (List.prefix_refl S) ?_
          have hf1 : Fam S (puH I 16 8 nx u 6) R f w N G := hf.fr (fun o h1 h2 => puH_fr hnx (by omega))
          have hst1 : Std S (puH I 16 8 nx u 6) R 6 s N G hb pb := hst.fr (fun o h1 h2 => puH_fr hnx (by omega))
          refine r_aload_n dX11_pack_147 rfl ?_
          refine g_getR dX11_pack_148 f_X11_26 (Cla.sg (by assumption)) rfl (Cla.f2 (by assumption)) ?_
          refine r_iload_n dX11_pack_151 rfl ?_
          refine r_iload_n dX11_pack_152 rfl ?_
          rw [show nI 1 = bI true from rfl]
          refine r_V2 dX11_pack_153 l_X11_170 k_X8_setPacked i_X8_setPacked (Sto.sg (Cla.now (by assumption))) ⟨_, rfl⟩ (Nat.le_of_ble_eq_true rfl) (v_X8_setPacked X _ hst1 hg) (List.prefix_refl S) ?_
          refine r_iload dX11_pack_156 rfl ?_
          exact g_iret dX11_pack_158 rfl rfl
        · have e : pk1 w s G hb pb g p = false := (by unfold pk1 ldP; simp; intro _ _ _; exact Int32.not_le.mp c130)
          refine r_bipush dX11_pack_133 bp_m2 ?_
          exact g_iret dX11_pack_135 (by rw [if_neg (by rw [e]; decide)]) (by rw [if_neg (by rw [e]; decide)])
      · have e : pk1 w s G hb pb g p = false := (by simp [pk1, c54])
        refine r_bipush dX11_pack_57 bp_m2 ?_
        exact g_iret dX11_pack_59 (by first | rw [if_neg (by rw [e]; decide)] | (rw [if_neg (by simp [pk1, c42])])) (by first | rw [if_neg (by rw [e]; decide)] | (rw [if_neg (by simp [pk1, c42])]))

set_option maxHeartbeats 4000000 in
set_option maxRecDepth 100000 in
theorem v_X11_pack_f1 (X : mCx) (d : Nat) {S : mSh} {I : mI} {R : mR} {w : Nat → Int32} {N G f dr : Nat} {x : Int32} (hc : Cla S R f dr) (hf : Fam S I R f w N G) (hb1 : isP G x = false) : CC X (d + 2) M_X11_pack [.ref 1, .int x, .int (nI 1)] S (I, R) (some (.int (-1))) S (I, R) := by
  have hG8 := hf.G8
  refine CC.of2 (L := [.ref 1, .int x, .int (nI 1), .retAddr 0, .retAddr 0, .retAddr 0]) p_X11 (Nat.le_of_ble_eq_true rfl) rfl rfl (List.prefix_refl S) ?_
  refine r_aload_n dX11_pack_0 rfl ?_
  refine g_getR dX11_pack_1 f_X11_66 (Cla.sg (by assumption)) rfl (Cla.f9 (by assumption)) ?_
  refine r_iload_n dX11_pack_4 rfl ?_
  refine r_V1 dX11_pack_5 l_X11_128 k_X1_isGood i_X1_isGood (Fam.sg (by assumption)) ⟨_, rfl⟩ (Nat.le_of_ble_eq_true rfl) (v_X1_isGood X _ (by first | assumption | omega)) (List.prefix_refl S) ?_
  refine r_ifB_ne (tgt := 13) dX11_pack_8 (by decide) (fun c8 => absurd hb1 (by rw [c8]; decide)) (fun c8 => ?_)
  refine r_iconst dX11_pack_11 ic_m1 ?_
  exact g_iret dX11_pack_12 rfl rfl

set_option maxHeartbeats 4000000 in
set_option maxRecDepth 100000 in
theorem v_X11_pack_0 (X : mCx) (d : Nat) {S : mSh} {I : mI} {R : mR} {w s : Nat → Int32} {N G g hb pb f dr nx u : Nat} (hc : Cla S R f dr) (hf : Fam S I R f w N G) (hst : Std S I R 6 s N G hb pb) (hn : I 16 1 = nI nx) (hnx : nx < 8) (hh : I 16 2 = nI u) (hu : u ≤ 8) (hs : sOk s N G) (hg : g < G) : CC X (d + 4) M_X11_pack [.ref 1, .int (nI g), .int (nI 0)] S (I, R) (some (.int (if pk0 w s hb pb g = true then ldP w s G pb (s (19 + g)).toNatClampNeg - w (45 + g) else -2))) S ((if pk0 w s hb pb g = true then sJ (puH I 16 8 nx u 6) 6 1 (nI (pbs pb g false)) else I), R) := by
  have hG8 := hst.G8
  have hN6 := hst.N6
  have h256 := hst.h256
  have p256 := hst.p256
  have hund := hc.und
  have hkep := hc.kep
  have hoat := hc.oat
  have hord := hc.ord
  have htxt := hc.txt
  have htwo := hc.two
  have hgif := hc.gif
  have htri := hc.tri
  have hnow := hc.now
  refine CC.of2 (L := [.ref 1, .int (nI g), .int (nI 0), .retAddr 0, .retAddr 0, .retAddr 0]) p_X11 (Nat.le_of_ble_eq_true rfl) rfl rfl (List.prefix_refl S) ?_
  refine r_aload_n dX11_pack_0 rfl ?_
  refine g_getR dX11_pack_1 f_X11_66 (Cla.sg (by assumption)) rfl (Cla.f9 (by assumption)) ?_
  refine r_iload_n dX11_pack_4 rfl ?_
  refine r_V1 dX11_pack_5 l_X11_128 k_X1_isGood i_X1_isGood (Fam.sg (by assumption)) ⟨_, rfl⟩ (Nat.le_of_ble_eq_true rfl) (v_X1_isGood X _ (by first | assumption | omega)) (List.prefix_refl S) ?_
  refine r_ifB_ne (tgt := 13) dX11_pack_8 (by decide) (fun c8 => ?_) (fun c8 => absurd (isP_n hg (by omega)) (by rw [c8]; decide))
  refine r_aload_n dX11_pack_13 rfl ?_
  refine g_getR dX11_pack_14 f_X11_26 (Cla.sg (by assumption)) rfl (Cla.f2 (by assumption)) ?_
  refine r_iload_n dX11_pack_17 rfl ?_
  refine r_V1 dX11_pack_18 l_X11_134 k_X8_ownerOf i_X8_ownerOf (Sto.sg (Cla.now (by assumption))) ⟨_, rfl⟩ (Nat.le_of_ble_eq_true rfl) (v_X8_ownerOf X _ (by first | assumption | omega) (by first | assumption | omega)) (List.prefix_refl S) ?_
  refine r_istore_n (L' := [_, _, _, _, _, _]) dX11_pack_21 rfl rfl ?_
  refine r_aload_n dX11_pack_22 rfl ?_
  refine g_getR dX11_pack_23 f_X11_26 (Cla.sg (by assumption)) rfl (Cla.f2 (by assumption)) ?_
  refine r_iload_n dX11_pack_26 rfl ?_
  refine r_V1 dX11_pack_27 l_X11_122 k_X8_isHere i_X8_isHere (Sto.sg (Cla.now (by assumption))) ⟨_, rfl⟩ (Nat.le_of_ble_eq_true rfl) (v_X8_isHere_x X _ (by first | assumption | omega)) (List.prefix_refl S) ?_
  refine r_ifB_eq (tgt := 57) dX11_pack_30 (by decide) (fun c30 => ?_) (fun c30 => ?_)
  · have e : pk0 w s hb pb g = false := (by simp [pk0, c30])
    refine r_bipush dX11_pack_57 bp_m2 ?_
    exact g_iret dX11_pack_59 (by first | rw [if_neg (by rw [e]; decide)] | (rw [if_neg (by simp [pk0, c42])])) (by first | rw [if_neg (by rw [e]; decide)] | (rw [if_neg (by simp [pk0, c42])]))
  · obtain ⟨p, hp, ep, hbp⟩ := hs.own hg hN6 c30; have e1 : (s (19 + g)).toNatClampNeg = p := (by rw [ep, nI_clamp (by omega)]); rw [e1, ep]; have ho := ownB_256 s (nI p) hG8; have hld : ownB s G (nI p) &&& pb < 256 := Nat.lt_of_le_of_lt Nat.and_le_left ho
    refine r_aload_n dX11_pack_33 rfl ?_
    refine g_getR dX11_pack_34 f_X11_26 (Cla.sg (by assumption)) rfl (Cla.f2 (by assumption)) ?_
    refine r_iload_n dX11_pack_37 rfl ?_
    refine r_V1 dX11_pack_38 l_X11_143 k_X8_isPacked i_X8_isPacked (Sto.sg (Cla.now (by assumption))) ⟨_, rfl⟩ (Nat.le_of_ble_eq_true rfl) (v_X8_isPacked X _ (by first | assumption | omega) (by first | assumption | omega)) (List.prefix_refl S) ?_
    refine r_iload_n dX11_pack_41 rfl ?_
    refine r_icmp_eq (tgt := 57) dX11_pack_42 (by decide) (fun c42 => ?_) (fun c42 => ?_)
    · have c42 : pb.testBit g = false := bI_n0.mp c42
      refine r_bipush dX11_pack_57 bp_m2 ?_
      exact g_iret dX11_pack_59 (by first | rw [if_neg (by rw [e]; decide)] | (rw [if_neg (by simp [pk0, c42])])) (by first | rw [if_neg (by rw [e]; decide)] | (rw [if_neg (by simp [pk0, c42])]))
    · have c42 : pb.testBit g = true := (by have q := c42; rw [bI_n0] at q; simpa using q)
      refine r_aload_n dX11_pack_45 rfl ?_
      refine g_getR dX11_pack_46 f_X11_66 (Cla.sg (by assumption)) rfl (Cla.f9 (by assumption)) ?_
      refine r_iload_n dX11_pack_49 rfl ?_
      refine r_V1 dX11_pack_50 l_X11_131 k_X1_sortOf i_X1_sortOf (Fam.sg (by assumption)) ⟨_, rfl⟩ (Nat.le_of_ble_eq_true rfl) (v_X1_sortOf X _ (by first | assumption | omega) (by first | assumption | omega)) (List.prefix_refl S) ?_
      refine r_iconst dX11_pack_53 ic_2 ?_
      refine r_icmp_ne (tgt := 60) dX11_pack_54 (by decide) (fun c54 => ?_) (fun c54 => ?_)
      · skip
        refine r_aload_n dX11_pack_60 rfl ?_
        refine g_getR dX11_pack_61 f_X11_66 (Cla.sg (by assumption)) rfl (Cla.f9 (by assumption)) ?_
        refine r_aload_n dX11_pack_64 rfl ?_
        refine g_getR dX11_pack_65 f_X11_26 (Cla.sg (by assumption)) rfl (Cla.f2 (by assumption)) ?_
        refine r_iload_n dX11_pack_68 rfl ?_
        refine r_V1 dX11_pack_69 l_X11_154 k_X8_owned i_X8_owned (Sto.sg (Cla.now (by assumption))) ⟨_, rfl⟩ (Nat.le_of_ble_eq_true rfl) (v_X8_owned X _ (by first | assumption | omega)) (List.prefix_refl S) ?_
        refine r_aload_n dX11_pack_72 rfl ?_
        refine g_getR dX11_pack_73 f_X11_26 (Cla.sg (by assumption)) rfl (Cla.f2 (by assumption)) ?_
        refine g_getI dX11_pack_76 f_X11_157 (Sto.sg (Cla.now (by assumption))) rfl hst.packed ?_
        refine r_iand dX11_pack_79 ?_
        refine g_top (nI_and _ _) ?_
        refine r_S2 dX11_pack_80 l_X11_160 k_X0_load s_X0_load (Nat.le_of_ble_eq_true rfl) (v_X0_load X _ (by first | assumption | omega) (by first | assumption | omega)) (List.prefix_refl S) ?_
        refine r_istore (L' := [_, _, _, _, _, _]) dX11_pack_83 rfl rfl ?_
        refine r_iload_n dX11_pack_85 rfl ?_
        refine n_if_eq (tgt := 103) dX11_pack_86 (by decide) (by omega) (fun c86 => ?_) (fun c86 => absurd rfl c86)
        refine r_iload dX11_pack_103 rfl ?_
        refine r_aload_n dX11_pack_105 rfl ?_
        refine g_getR dX11_pack_106 f_X11_66 (Cla.sg (by assumption)) rfl (Cla.f9 (by assumption)) ?_
        refine r_iload_n dX11_pack_109 rfl ?_
        refine r_V1 dX11_pack_110 l_X11_140 k_X1_heavyOf i_X1_heavyOf (Fam.sg (by assumption)) ⟨_, rfl⟩ (Nat.le_of_ble_eq_true rfl) (v_X1_heavyOf X _ (by first | assumption | omega) (by first | assumption | omega)) (List.prefix_refl S) ?_
        refine r_isub dX11_pack_113 ?_
        refine r_istore (L' := [_, _, _, _, _, _]) dX11_pack_114 rfl rfl ?_
        refine r_iload_n dX11_pack_116 rfl ?_
        refine n_if_eq (tgt := 136) dX11_pack_117 (by decide) (by omega) (fun c117 => ?_) (fun c117 => absurd rfl c117)
        have e : pk0 w s hb pb g = true := by unfold pk0; rw [c30, c42]; simp [c54]
        rw [if_pos e, if_pos e]
        refine r_aload_n dX11_pack_136 rfl ?_
        refine g_getR dX11_pack_137 f_X11_38 (Cla.sg (by assumption)) rfl (Cla.f4 (by assumption)) ?_
        refine r_aload_n dX11_pack_140 rfl ?_
        refine g_getR dX11_pack_141 f_X11_26 (Cla.sg (by assumption)) rfl (Cla.f2 (by assumption)) ?_
        refine r_V1 dX11_pack_144 l_X11_166 k_X5_put i_X5_put (Pio.sg (Cla.und (by assumption))) ⟨_, rfl⟩ (Nat.le_of_ble_eq_true rfl) (v_X5_put X _ hund hst hn hnx hh hu (by omega)) (List.prefix_refl S) ?_
        have hf1 : Fam S (puH I 16 8 nx u 6) R f w N G := hf.fr (fun o h1 h2 => puH_fr hnx (by omega))
        have hst1 : Std S (puH I 16 8 nx u 6) R 6 s N G hb pb := hst.fr (fun o h1 h2 => puH_fr hnx (by omega))
        refine r_aload_n dX11_pack_147 rfl ?_
        refine g_getR dX11_pack_148 f_X11_26 (Cla.sg (by assumption)) rfl (Cla.f2 (by assumption)) ?_
        refine r_iload_n dX11_pack_151 rfl ?_
        refine r_iload_n dX11_pack_152 rfl ?_
        rw [show nI 0 = bI false from rfl]
        refine r_V2 dX11_pack_153 l_X11_170 k_X8_setPacked i_X8_setPacked (Sto.sg (Cla.now (by assumption))) ⟨_, rfl⟩ (Nat.le_of_ble_eq_true rfl) (v_X8_setPacked X _ hst1 hg) (List.prefix_refl S) ?_
        refine r_iload dX11_pack_156 rfl ?_
        exact g_iret dX11_pack_158 rfl rfl
      · have e : pk0 w s hb pb g = false := (by simp [pk0, c54])
        refine r_bipush dX11_pack_57 bp_m2 ?_
        exact g_iret dX11_pack_59 (by first | rw [if_neg (by rw [e]; decide)] | (rw [if_neg (by simp [pk0, c42])])) (by first | rw [if_neg (by rw [e]; decide)] | (rw [if_neg (by simp [pk0, c42])]))

set_option maxHeartbeats 4000000 in
set_option maxRecDepth 100000 in
theorem v_X11_pack_f0 (X : mCx) (d : Nat) {S : mSh} {I : mI} {R : mR} {w : Nat → Int32} {N G f dr : Nat} {x : Int32} (hc : Cla S R f dr) (hf : Fam S I R f w N G) (hb1 : isP G x = false) : CC X (d + 2) M_X11_pack [.ref 1, .int x, .int (nI 0)] S (I, R) (some (.int (-1))) S (I, R) := by
  have hG8 := hf.G8
  refine CC.of2 (L := [.ref 1, .int x, .int (nI 0), .retAddr 0, .retAddr 0, .retAddr 0]) p_X11 (Nat.le_of_ble_eq_true rfl) rfl rfl (List.prefix_refl S) ?_
  refine r_aload_n dX11_pack_0 rfl ?_
  refine g_getR dX11_pack_1 f_X11_66 (Cla.sg (by assumption)) rfl (Cla.f9 (by assumption)) ?_
  refine r_iload_n dX11_pack_4 rfl ?_
  refine r_V1 dX11_pack_5 l_X11_128 k_X1_isGood i_X1_isGood (Fam.sg (by assumption)) ⟨_, rfl⟩ (Nat.le_of_ble_eq_true rfl) (v_X1_isGood X _ (by first | assumption | omega)) (List.prefix_refl S) ?_
  refine r_ifB_ne (tgt := 13) dX11_pack_8 (by decide) (fun c8 => absurd hb1 (by rw [c8]; decide)) (fun c8 => ?_)
  refine r_iconst dX11_pack_11 ic_m1 ?_
  exact g_iret dX11_pack_12 rfl rfl

def giB (s : Nat → Int32) (hb g j : Nat) : Bool := !decide (s (19 + g) = nI j) && (isHr hb (s (19 + g)) && hb.testBit j)
theorem i2c_n {k : Nat} (h : k < 128) : ((nI k).toUInt32 % 65536).toInt32 = nI k := by
  have : ∀ k, k < 128 → ((nI k).toUInt32 % 65536).toInt32 = nI k := by decide +kernel
  exact this k h
set_option maxHeartbeats 4000000 in
set_option maxRecDepth 100000 in
theorem v_X11_give_t (X : mCx) (d : Nat) {S : mSh} {I : mI} {R : mR} {w s : Nat → Int32} {N G g j hb pb f dr nx u : Nat} (hc : Cla S R f dr) (hf : Fam S I R f w N G) (hst : Std S I R 6 s N G hb pb) (hn : I 16 1 = nI nx) (hnx : nx < 8) (hh : I 16 2 = nI u) (hu : u ≤ 8) (hg : g < G) (hj : j < N) : CC X (d + 4) M_X11_give [.ref 1, .int (nI g), .int (nI j)] S (I, R) (some (.int (if giB s hb g j = true then s (19 + g) else -2))) S ((if giB s hb g j = true then sJ (sJ (puH I 16 8 nx u 6) 7 g (nI j)) 6 1 (nI (pbs pb g false)) else I), R) := by
  have hG8 := hst.G8
  have hN6 := hst.N6
  have h256 := hst.h256
  have p256 := hst.p256
  have hund := hc.und
  have hkep := hc.kep
  have hoat := hc.oat
  have hord := hc.ord
  have htxt := hc.txt
  have htwo := hc.two
  have hgif := hc.gif
  have htri := hc.tri
  have hnow := hc.now
  refine CC.of2 (L := [.ref 1, .int (nI g), .int (nI j), .retAddr 0]) p_X11 (Nat.le_of_ble_eq_true rfl) rfl rfl (List.prefix_refl S) ?_
  refine r_aload_n dX11_give_0 rfl ?_
  refine g_getR dX11_give_1 f_X11_66 (Cla.sg (by assumption)) rfl (Cla.f9 (by assumption)) ?_
  refine r_iload_n dX11_give_4 rfl ?_
  refine r_V1 dX11_give_5 l_X11_128 k_X1_isGood i_X1_isGood (Fam.sg (by assumption)) ⟨_, rfl⟩ (Nat.le_of_ble_eq_true rfl) (v_X1_isGood X _ (by first | assumption | omega)) (List.prefix_refl S) ?_
  refine r_ifB_eq (tgt := 22) dX11_give_8 (by decide) (fun c8 => absurd (isP_n hg (by omega)) (by rw [c8]; decide)) (fun c8 => ?_)
  refine r_aload_n dX11_give_11 rfl ?_
  refine g_getR dX11_give_12 f_X11_66 (Cla.sg (by assumption)) rfl (Cla.f9 (by assumption)) ?_
  refine r_iload_n dX11_give_15 rfl ?_
  refine r_V1 dX11_give_16 l_X11_108 k_X1_isPerson i_X1_isPerson (Fam.sg (by assumption)) ⟨_, rfl⟩ (Nat.le_of_ble_eq_true rfl) (v_X1_isPerson X _ (by first | assumption | omega)) (List.prefix_refl S) ?_
  refine r_ifB_ne (tgt := 24) dX11_give_19 (by decide) (fun c19 => ?_) (fun c19 => absurd (isP_n hj (by omega)) (by rw [c19]; decide))
  refine r_aload_n dX11_give_24 rfl ?_
  refine g_getR dX11_give_25 f_X11_26 (Cla.sg (by assumption)) rfl (Cla.f2 (by assumption)) ?_
  refine r_iload_n dX11_give_28 rfl ?_
  refine r_V1 dX11_give_29 l_X11_134 k_X8_ownerOf i_X8_ownerOf (Sto.sg (Cla.now (by assumption))) ⟨_, rfl⟩ (Nat.le_of_ble_eq_true rfl) (v_X8_ownerOf X _ (by first | assumption | omega) (by first | assumption | omega)) (List.prefix_refl S) ?_
  refine r_istore_n (L' := [_, _, _, _]) dX11_give_32 rfl rfl ?_
  refine r_iload_n dX11_give_33 rfl ?_
  refine r_iload_n dX11_give_34 rfl ?_
  refine r_icmp_eq (tgt := 60) dX11_give_35 (by decide) (fun c35 => ?_) (fun c35 => ?_)
  · have e : giB s hb g j = false := (by simp [giB, c35])
    refine r_bipush dX11_give_60 bp_m2 ?_
    exact g_iret dX11_give_62 (by rw [if_neg (by rw [e]; decide)]) (by rw [if_neg (by rw [e]; decide)])
  · skip
    refine r_aload_n dX11_give_38 rfl ?_
    refine g_getR dX11_give_39 f_X11_26 (Cla.sg (by assumption)) rfl (Cla.f2 (by assumption)) ?_
    refine r_iload_n dX11_give_42 rfl ?_
    refine r_V1 dX11_give_43 l_X11_122 k_X8_isHere i_X8_isHere (Sto.sg (Cla.now (by assumption))) ⟨_, rfl⟩ (Nat.le_of_ble_eq_true rfl) (v_X8_isHere_x X _ (by first | assumption | omega)) (List.prefix_refl S) ?_
    refine r_ifB_eq (tgt := 60) dX11_give_46 (by decide) (fun c46 => ?_) (fun c46 => ?_)
    · have e : giB s hb g j = false := (by simp [giB, c46])
      refine r_bipush dX11_give_60 bp_m2 ?_
      exact g_iret dX11_give_62 (by rw [if_neg (by rw [e]; decide)]) (by rw [if_neg (by rw [e]; decide)])
    · skip
      refine r_aload_n dX11_give_49 rfl ?_
      refine g_getR dX11_give_50 f_X11_26 (Cla.sg (by assumption)) rfl (Cla.f2 (by assumption)) ?_
      refine r_iload_n dX11_give_53 rfl ?_
      refine r_V1 dX11_give_54 l_X11_122 k_X8_isHere i_X8_isHere (Sto.sg (Cla.now (by assumption))) ⟨_, rfl⟩ (Nat.le_of_ble_eq_true rfl) (v_X8_isHere X _ (by first | assumption | omega) (by first | assumption | omega)) (List.prefix_refl S) ?_
      refine r_ifB_ne (tgt := 63) dX11_give_57 (by decide) (fun c57 => ?_) (fun c57 => ?_)
      · skip
        have e : giB s hb g j = true := by unfold giB; rw [c46, c57]; simp [c35]
        rw [if_pos e, if_pos e]
        refine r_aload_n dX11_give_63 rfl ?_
        refine g_getR dX11_give_64 f_X11_38 (Cla.sg (by assumption)) rfl (Cla.f4 (by assumption)) ?_
        refine r_aload_n dX11_give_67 rfl ?_
        refine g_getR dX11_give_68 f_X11_26 (Cla.sg (by assumption)) rfl (Cla.f2 (by assumption)) ?_
        refine r_V1 dX11_give_71 l_X11_166 k_X5_put i_X5_put (Pio.sg (Cla.und (by assumption))) ⟨_, rfl⟩ (Nat.le_of_ble_eq_true rfl) (v_X5_put X _ hund hst hn hnx hh hu (by omega)) (List.prefix_refl S) ?_
        have hf1 : Fam S (puH I 16 8 nx u 6) R f w N G := hf.fr (fun o h1 h2 => puH_fr hnx (by omega))
        have hst1 : Std S (puH I 16 8 nx u 6) R 6 s N G hb pb := hst.fr (fun o h1 h2 => puH_fr hnx (by omega))
        refine r_aload_n dX11_give_74 rfl ?_
        refine g_getR dX11_give_75 f_X11_26 (Cla.sg (by assumption)) rfl (Cla.f2 (by assumption)) ?_
        refine r_iload_n dX11_give_78 rfl ?_
        refine r_iload_n dX11_give_79 rfl ?_
        refine r_V2 dX11_give_80 l_X11_174 k_X8_handOver i_X8_handOver (Sto.sg (Cla.now (by assumption))) ⟨_, rfl⟩ (Nat.le_of_ble_eq_true rfl) (v_X8_handOver X _ hst1 hg) (List.prefix_refl S) ?_
        refine r_iload_n dX11_give_83 rfl ?_
        exact g_iret dX11_give_84 rfl rfl
      · have e : giB s hb g j = false := (by simp [giB, c57])
        refine r_bipush dX11_give_60 bp_m2 ?_
        exact g_iret dX11_give_62 (by rw [if_neg (by rw [e]; decide)]) (by rw [if_neg (by rw [e]; decide)])

set_option maxHeartbeats 4000000 in
set_option maxRecDepth 100000 in
theorem v_X11_give_f (X : mCx) (d : Nat) {S : mSh} {I : mI} {R : mR} {w : Nat → Int32} {N G f dr : Nat} {x y : Int32} (hc : Cla S R f dr) (hf : Fam S I R f w N G) (hb1 : isP G x = false ∨ isP N y = false) : CC X (d + 2) M_X11_give [.ref 1, .int x, .int y] S (I, R) (some (.int (-1))) S (I, R) := by
  have hG8 := hf.G8
  refine CC.of2 (L := [.ref 1, .int x, .int y, .retAddr 0]) p_X11 (Nat.le_of_ble_eq_true rfl) rfl rfl (List.prefix_refl S) ?_
  refine r_aload_n dX11_give_0 rfl ?_
  refine g_getR dX11_give_1 f_X11_66 (Cla.sg (by assumption)) rfl (Cla.f9 (by assumption)) ?_
  refine r_iload_n dX11_give_4 rfl ?_
  refine r_V1 dX11_give_5 l_X11_128 k_X1_isGood i_X1_isGood (Fam.sg (by assumption)) ⟨_, rfl⟩ (Nat.le_of_ble_eq_true rfl) (v_X1_isGood X _ (by first | assumption | omega)) (List.prefix_refl S) ?_
  refine r_ifB_eq (tgt := 22) dX11_give_8 (by decide) (fun c8 => ?_) (fun c8 => ?_)
  · skip
    refine r_iconst dX11_give_22 ic_m1 ?_
    exact g_iret dX11_give_23 rfl rfl
  · skip
    refine r_aload_n dX11_give_11 rfl ?_
    refine g_getR dX11_give_12 f_X11_66 (Cla.sg (by assumption)) rfl (Cla.f9 (by assumption)) ?_
    refine r_iload_n dX11_give_15 rfl ?_
    refine r_V1 dX11_give_16 l_X11_108 k_X1_isPerson i_X1_isPerson (Fam.sg (by assumption)) ⟨_, rfl⟩ (Nat.le_of_ble_eq_true rfl) (v_X1_isPerson X _ (by first | assumption | omega)) (List.prefix_refl S) ?_
    refine r_ifB_ne (tgt := 24) dX11_give_19 (by decide) (fun c19 => (by exfalso; rcases hb1 with q | q <;> first | exact absurd q (by rw [c19]; decide) | exact absurd q (by rw [c8]; decide))) (fun c19 => ?_)
    refine r_iconst dX11_give_22 ic_m1 ?_
    exact g_iret dX11_give_23 rfl rfl

set_option maxHeartbeats 4000000 in
set_option maxRecDepth 100000 in
theorem v_X11_leave_t (X : mCx) (d : Nat) {S : mSh} {I : mI} {R : mR} {w s : Nat → Int32} {N G i hb pb f dr nx u : Nat} (hc : Cla S R f dr) (hf : Fam S I R f w N G) (hst : Std S I R 6 s N G hb pb) (hn : I 16 1 = nI nx) (hnx : nx < 8) (hh : I 16 2 = nI u) (hu : u ≤ 8) (hi : i < N) : CC X (d + 6) M_X11_leave [.ref 1, .int (nI i)] S (I, R) (some (.int (if fOut w s N G hb i < nI 0 then -2 else fOut w s N G hb i))) S ((if fOut w s N G hb i < nI 0 then I else gOH (payH (puH I 16 8 nx u 6) 6 s i (fOut w s N G hb i)) 6 (payS s i (fOut w s N G hb i)) hb i (fOut w s N G hb i) G), R) := by
  have hG8 := hst.G8
  have hN6 := hst.N6
  have h256 := hst.h256
  have p256 := hst.p256
  have hund := hc.und
  have hkep := hc.kep
  have hoat := hc.oat
  have hord := hc.ord
  have htxt := hc.txt
  have htwo := hc.two
  have hgif := hc.gif
  have htri := hc.tri
  have hnow := hc.now
  refine CC.of2 (L := [.ref 1, .int (nI i), .retAddr 0]) p_X11 (Nat.le_of_ble_eq_true rfl) rfl rfl (List.prefix_refl S) ?_
  refine r_aload_n dX11_leave_0 rfl ?_
  refine g_getR dX11_leave_1 f_X11_66 (Cla.sg (by assumption)) rfl (Cla.f9 (by assumption)) ?_
  refine r_iload_n dX11_leave_4 rfl ?_
  refine r_V1 dX11_leave_5 l_X11_108 k_X1_isPerson i_X1_isPerson (Fam.sg (by assumption)) ⟨_, rfl⟩ (Nat.le_of_ble_eq_true rfl) (v_X1_isPerson X _ (by first | assumption | omega)) (List.prefix_refl S) ?_
  refine r_ifB_ne (tgt := 13) dX11_leave_8 (by decide) (fun c8 => ?_) (fun c8 => absurd (isP_n hi (by omega)) (by rw [c8]; decide))
  refine r_aload_n dX11_leave_13 rfl ?_
  refine g_getR dX11_leave_14 f_X11_66 (Cla.sg (by assumption)) rfl (Cla.f9 (by assumption)) ?_
  refine r_aload_n dX11_leave_17 rfl ?_
  refine g_getR dX11_leave_18 f_X11_26 (Cla.sg (by assumption)) rfl (Cla.f2 (by assumption)) ?_
  refine r_iload_n dX11_leave_21 rfl ?_
  refine r_S3 dX11_leave_22 l_X11_178 k_X2_feeToLeave s_X2_feeToLeave (Nat.le_of_ble_eq_true rfl) (v_X2_feeToLeave X _ (by first | assumption | omega) (by first | assumption | omega) (by first | assumption | omega)) (List.prefix_refl S) ?_
  refine r_istore_n (L' := [_, _, _]) dX11_leave_25 rfl rfl ?_
  refine r_iload_n dX11_leave_26 rfl ?_
  refine r_if_ge (tgt := 33) dX11_leave_27 (by decide) (fun c27 => ?_) (fun c27 => ?_)
  · have c27 : ¬ fOut w s N G hb i < nI 0 := Int32.not_lt.mpr c27; rw [if_neg c27, if_neg c27]
    refine r_aload_n dX11_leave_33 rfl ?_
    refine g_getR dX11_leave_34 f_X11_38 (Cla.sg (by assumption)) rfl (Cla.f4 (by assumption)) ?_
    refine r_aload_n dX11_leave_37 rfl ?_
    refine g_getR dX11_leave_38 f_X11_26 (Cla.sg (by assumption)) rfl (Cla.f2 (by assumption)) ?_
    refine r_V1 dX11_leave_41 l_X11_166 k_X5_put i_X5_put (Pio.sg (Cla.und (by assumption))) ⟨_, rfl⟩ (Nat.le_of_ble_eq_true rfl) (v_X5_put X _ hund hst hn hnx hh hu (by omega)) (List.prefix_refl S) ?_
    have hf1 : Fam S (puH I 16 8 nx u 6) R f w N G := hf.fr (fun o h1 h2 => puH_fr hnx (by omega))
    have hst1 : Std S (puH I 16 8 nx u 6) R 6 s N G hb pb := hst.fr (fun o h1 h2 => puH_fr hnx (by omega))
    refine r_aload_n dX11_leave_44 rfl ?_
    refine g_getR dX11_leave_45 f_X11_26 (Cla.sg (by assumption)) rfl (Cla.f2 (by assumption)) ?_
    refine r_iload_n dX11_leave_48 rfl ?_
    refine r_iload_n dX11_leave_49 rfl ?_
    refine r_S3 dX11_leave_50 l_X11_184 k_X2_depart s_X2_depart (Nat.le_of_ble_eq_true rfl) (v_X2_depart X _ hst1 hi) (List.prefix_refl S) ?_
    refine r_iload_n dX11_leave_53 rfl ?_
    exact g_iret dX11_leave_54 rfl rfl
  · have c27 : fOut w s N G hb i < nI 0 := Int32.not_le.mp c27; rw [if_pos c27, if_pos c27]
    refine r_bipush dX11_leave_30 bp_m2 ?_
    exact g_iret dX11_leave_32 rfl rfl

set_option maxHeartbeats 4000000 in
set_option maxRecDepth 100000 in
theorem v_X11_leave_f (X : mCx) (d : Nat) {S : mSh} {I : mI} {R : mR} {w : Nat → Int32} {N G f dr : Nat} {x : Int32} (hc : Cla S R f dr) (hf : Fam S I R f w N G) (hb1 : isP N x = false) : CC X (d + 2) M_X11_leave [.ref 1, .int x] S (I, R) (some (.int (-1))) S (I, R) := by
  have hN6 := hf.N6
  refine CC.of2 (L := [.ref 1, .int x, .retAddr 0]) p_X11 (Nat.le_of_ble_eq_true rfl) rfl rfl (List.prefix_refl S) ?_
  refine r_aload_n dX11_leave_0 rfl ?_
  refine g_getR dX11_leave_1 f_X11_66 (Cla.sg (by assumption)) rfl (Cla.f9 (by assumption)) ?_
  refine r_iload_n dX11_leave_4 rfl ?_
  refine r_V1 dX11_leave_5 l_X11_108 k_X1_isPerson i_X1_isPerson (Fam.sg (by assumption)) ⟨_, rfl⟩ (Nat.le_of_ble_eq_true rfl) (v_X1_isPerson X _ (by first | assumption | omega)) (List.prefix_refl S) ?_
  refine r_ifB_ne (tgt := 13) dX11_leave_8 (by decide) (fun c8 => absurd hb1 (by rw [c8]; decide)) (fun c8 => ?_)
  refine r_iconst dX11_leave_11 ic_m1 ?_
  exact g_iret dX11_leave_12 rfl rfl

set_option maxHeartbeats 4000000 in
set_option maxRecDepth 100000 in
theorem v_X11_comeBack_t (X : mCx) (d : Nat) {S : mSh} {I : mI} {R : mR} {w s : Nat → Int32} {N G i hb pb f dr nx u : Nat} (hc : Cla S R f dr) (hf : Fam S I R f w N G) (hst : Std S I R 6 s N G hb pb) (hn : I 16 1 = nI nx) (hnx : nx < 8) (hh : I 16 2 = nI u) (hu : u ≤ 8) (hi : i < N) : CC X (d + 5) M_X11_comeBack [.ref 1, .int (nI i)] S (I, R) (some (.int (if fBack w s hb i < nI 0 then -2 else fBack w s hb i))) S ((if fBack w s hb i < nI 0 then I else sJ (payH (puH I 16 8 nx u 6) 6 s i (fBack w s hb i)) 6 0 (nI (hb ||| 2 ^ i))), R) := by
  have hG8 := hst.G8
  have hN6 := hst.N6
  have h256 := hst.h256
  have p256 := hst.p256
  have hund := hc.und
  have hkep := hc.kep
  have hoat := hc.oat
  have hord := hc.ord
  have htxt := hc.txt
  have htwo := hc.two
  have hgif := hc.gif
  have htri := hc.tri
  have hnow := hc.now
  refine CC.of2 (L := [.ref 1, .int (nI i), .retAddr 0]) p_X11 (Nat.le_of_ble_eq_true rfl) rfl rfl (List.prefix_refl S) ?_
  refine r_aload_n dX11_comeBack_0 rfl ?_
  refine g_getR dX11_comeBack_1 f_X11_66 (Cla.sg (by assumption)) rfl (Cla.f9 (by assumption)) ?_
  refine r_iload_n dX11_comeBack_4 rfl ?_
  refine r_V1 dX11_comeBack_5 l_X11_108 k_X1_isPerson i_X1_isPerson (Fam.sg (by assumption)) ⟨_, rfl⟩ (Nat.le_of_ble_eq_true rfl) (v_X1_isPerson X _ (by first | assumption | omega)) (List.prefix_refl S) ?_
  refine r_ifB_ne (tgt := 13) dX11_comeBack_8 (by decide) (fun c8 => ?_) (fun c8 => absurd (isP_n hi (by omega)) (by rw [c8]; decide))
  refine r_aload_n dX11_comeBack_13 rfl ?_
  refine g_getR dX11_comeBack_14 f_X11_66 (Cla.sg (by assumption)) rfl (Cla.f9 (by assumption)) ?_
  refine r_aload_n dX11_comeBack_17 rfl ?_
  refine g_getR dX11_comeBack_18 f_X11_26 (Cla.sg (by assumption)) rfl (Cla.f2 (by assumption)) ?_
  refine r_iload_n dX11_comeBack_21 rfl ?_
  refine r_S3 dX11_comeBack_22 l_X11_201 k_X2_feeToReturn s_X2_feeToReturn (Nat.le_of_ble_eq_true rfl) (v_X2_feeToReturn X _ (by first | assumption | omega) (by first | assumption | omega) (by first | assumption | omega)) (List.prefix_refl S) ?_
  refine r_istore_n (L' := [_, _, _]) dX11_comeBack_25 rfl rfl ?_
  refine r_iload_n dX11_comeBack_26 rfl ?_
  refine r_if_ge (tgt := 33) dX11_comeBack_27 (by decide) (fun c27 => ?_) (fun c27 => ?_)
  · have c27 : ¬ fBack w s hb i < nI 0 := Int32.not_lt.mpr c27; rw [if_neg c27, if_neg c27]
    refine r_aload_n dX11_comeBack_33 rfl ?_
    refine g_getR dX11_comeBack_34 f_X11_38 (Cla.sg (by assumption)) rfl (Cla.f4 (by assumption)) ?_
    refine r_aload_n dX11_comeBack_37 rfl ?_
    refine g_getR dX11_comeBack_38 f_X11_26 (Cla.sg (by assumption)) rfl (Cla.f2 (by assumption)) ?_
    refine r_V1 dX11_comeBack_41 l_X11_166 k_X5_put i_X5_put (Pio.sg (Cla.und (by assumption))) ⟨_, rfl⟩ (Nat.le_of_ble_eq_true rfl) (v_X5_put X _ hund hst hn hnx hh hu (by omega)) (List.prefix_refl S) ?_
    have hf1 : Fam S (puH I 16 8 nx u 6) R f w N G := hf.fr (fun o h1 h2 => puH_fr hnx (by omega))
    have hst1 : Std S (puH I 16 8 nx u 6) R 6 s N G hb pb := hst.fr (fun o h1 h2 => puH_fr hnx (by omega))
    refine r_aload_n dX11_comeBack_44 rfl ?_
    refine g_getR dX11_comeBack_45 f_X11_26 (Cla.sg (by assumption)) rfl (Cla.f2 (by assumption)) ?_
    refine r_iload_n dX11_comeBack_48 rfl ?_
    refine r_iload_n dX11_comeBack_49 rfl ?_
    refine r_S3 dX11_comeBack_50 l_X11_204 k_X2_arrive s_X2_arrive (Nat.le_of_ble_eq_true rfl) (v_X2_arrive X _ hst1 hi) (List.prefix_refl S) ?_
    refine r_iload_n dX11_comeBack_53 rfl ?_
    exact g_iret dX11_comeBack_54 rfl rfl
  · have c27 : fBack w s hb i < nI 0 := Int32.not_le.mp c27; rw [if_pos c27, if_pos c27]
    refine r_bipush dX11_comeBack_30 bp_m2 ?_
    exact g_iret dX11_comeBack_32 rfl rfl

set_option maxHeartbeats 4000000 in
set_option maxRecDepth 100000 in
theorem v_X11_comeBack_f (X : mCx) (d : Nat) {S : mSh} {I : mI} {R : mR} {w : Nat → Int32} {N G f dr : Nat} {x : Int32} (hc : Cla S R f dr) (hf : Fam S I R f w N G) (hb1 : isP N x = false) : CC X (d + 2) M_X11_comeBack [.ref 1, .int x] S (I, R) (some (.int (-1))) S (I, R) := by
  have hN6 := hf.N6
  refine CC.of2 (L := [.ref 1, .int x, .retAddr 0]) p_X11 (Nat.le_of_ble_eq_true rfl) rfl rfl (List.prefix_refl S) ?_
  refine r_aload_n dX11_comeBack_0 rfl ?_
  refine g_getR dX11_comeBack_1 f_X11_66 (Cla.sg (by assumption)) rfl (Cla.f9 (by assumption)) ?_
  refine r_iload_n dX11_comeBack_4 rfl ?_
  refine r_V1 dX11_comeBack_5 l_X11_108 k_X1_isPerson i_X1_isPerson (Fam.sg (by assumption)) ⟨_, rfl⟩ (Nat.le_of_ble_eq_true rfl) (v_X1_isPerson X _ (by first | assumption | omega)) (List.prefix_refl S) ?_
  refine r_ifB_ne (tgt := 13) dX11_comeBack_8 (by decide) (fun c8 => absurd hb1 (by rw [c8]; decide)) (fun c8 => ?_)
  refine r_iconst dX11_comeBack_11 ic_m1 ?_
  exact g_iret dX11_comeBack_12 rfl rfl

def lbB (w s : Nat → Int32) (N G hb i j : Nat) : Bool := hb.testBit i && (hb.testBit j && (!decide (s (1 + i) < oweW w s N G hb i j) && (!decide (s (1 + j) < oweW w s N G hb j i) && !alone w N (clr (clr hb i) j))))
set_option maxHeartbeats 4000000 in
set_option maxRecDepth 100000 in
theorem v_X11_leaveBoth_t (X : mCx) (d : Nat) {S : mSh} {I : mI} {R : mR} {w s : Nat → Int32} {N G i j hb pb f dr nx u : Nat} (hc : Cla S R f dr) (hf : Fam S I R f w N G) (hst : Std S I R 6 s N G hb pb) (hn : I 16 1 = nI nx) (hnx : nx < 8) (hh : I 16 2 = nI u) (hu : u ≤ 8) (hi : i < N) (hj : j < N) (hij : i ≠ j) : CC X (d + 6) M_X11_leaveBoth [.ref 1, .int (nI i), .int (nI j)] S (I, R) (some (.int (if lbB w s N G hb i j = true then (oweW w s N G hb i j) + (oweW w s N G hb j i) else -2))) S ((if lbB w s N G hb i j = true then gOH (payH (gOH (payH (puH I 16 8 nx u 6) 6 s i (oweW w s N G hb i j)) 6 (payS s i (oweW w s N G hb i j)) hb i (oweW w s N G hb i j) G) 6 (sGo (payS s i (oweW w s N G hb i j)) G hb i (oweW w s N G hb i j)) j (oweW w s N G hb j i)) 6 (payS (sGo (payS s i (oweW w s N G hb i j)) G hb i (oweW w s N G hb i j)) j (oweW w s N G hb j i)) (clr hb i) j (oweW w s N G hb j i) G else I), R) := by
  have hG8 := hst.G8
  have hN6 := hst.N6
  have h256 := hst.h256
  have p256 := hst.p256
  have hund := hc.und
  have hkep := hc.kep
  have hoat := hc.oat
  have hord := hc.ord
  have htxt := hc.txt
  have htwo := hc.two
  have hgif := hc.gif
  have htri := hc.tri
  have hnow := hc.now
  have hcl := clr_le hb i
  have hcl2 := clr_le (clr hb i) j
  refine CC.of2 (L := [.ref 1, .int (nI i), .int (nI j), .retAddr 0, .retAddr 0, .retAddr 0]) p_X11 (Nat.le_of_ble_eq_true rfl) rfl rfl (List.prefix_refl S) ?_
  refine r_aload_n dX11_leaveBoth_0 rfl ?_
  refine r_iload_n dX11_leaveBoth_1 rfl ?_
  refine r_iload_n dX11_leaveBoth_2 rfl ?_
  refine r_V2 dX11_leaveBoth_3 l_X11_146 k_X11_isPair i_X11_isPair (Cla.sg (by assumption)) ⟨_, rfl⟩ (Nat.le_of_ble_eq_true rfl) (v_X11_isPair X _ (by first | assumption | omega) (by first | assumption | omega)) (List.prefix_refl S) ?_
  refine r_ifB_ne (tgt := 11) dX11_leaveBoth_6 (by decide) (fun c6 => ?_) (fun c6 => absurd (twoP_n hi hj (by omega) hij) (by rw [c6]; decide))
  refine r_aload_n dX11_leaveBoth_11 rfl ?_
  refine r_iload_n dX11_leaveBoth_12 rfl ?_
  refine r_iload_n dX11_leaveBoth_13 rfl ?_
  refine r_V2 dX11_leaveBoth_14 l_X11_188 k_X11_areHere i_X11_areHere (Cla.sg (by assumption)) ⟨_, rfl⟩ (Nat.le_of_ble_eq_true rfl) (v_X11_areHere X _ (by first | assumption | omega) (by first | assumption | omega) (by first | assumption | omega) (by first | assumption | omega)) (List.prefix_refl S) ?_
  refine r_ifB_ne (tgt := 23) dX11_leaveBoth_17 (by decide) (fun c17 => ?_) (fun c17 => ?_)
  · have c17 := Bool.and_eq_true_iff.mp c17
    refine r_aload_n dX11_leaveBoth_23 rfl ?_
    refine g_getR dX11_leaveBoth_24 f_X11_66 (Cla.sg (by assumption)) rfl (Cla.f9 (by assumption)) ?_
    refine r_aload_n dX11_leaveBoth_27 rfl ?_
    refine g_getR dX11_leaveBoth_28 f_X11_26 (Cla.sg (by assumption)) rfl (Cla.f2 (by assumption)) ?_
    refine r_iload_n dX11_leaveBoth_31 rfl ?_
    refine r_iload_n dX11_leaveBoth_32 rfl ?_
    refine r_S4 dX11_leaveBoth_33 l_X11_191 k_X0_owedWith s_X0_owedWith (Nat.le_of_ble_eq_true rfl) (v_X0_owedWith X _ (by first | assumption | omega) (by first | assumption | omega) (by first | assumption | omega) (by first | assumption | omega)) (List.prefix_refl S) ?_
    rw [show duty w i (gLeft w s G i + lLeft w N i hb - w (53 + (6 * i + j)) + w (53 + (6 * i + j)) / nI 2) = (oweW w s N G hb i j) from rfl]
    refine r_istore_n (L' := [_, _, _, _, _, _]) dX11_leaveBoth_36 rfl rfl ?_
    refine r_aload_n dX11_leaveBoth_37 rfl ?_
    refine g_getR dX11_leaveBoth_38 f_X11_66 (Cla.sg (by assumption)) rfl (Cla.f9 (by assumption)) ?_
    refine r_aload_n dX11_leaveBoth_41 rfl ?_
    refine g_getR dX11_leaveBoth_42 f_X11_26 (Cla.sg (by assumption)) rfl (Cla.f2 (by assumption)) ?_
    refine r_iload_n dX11_leaveBoth_45 rfl ?_
    refine r_iload_n dX11_leaveBoth_46 rfl ?_
    refine r_S4 dX11_leaveBoth_47 l_X11_191 k_X0_owedWith s_X0_owedWith (Nat.le_of_ble_eq_true rfl) (v_X0_owedWith X _ (by first | assumption | omega) (by first | assumption | omega) (by first | assumption | omega) (by first | assumption | omega)) (List.prefix_refl S) ?_
    rw [show duty w j (gLeft w s G j + lLeft w N j hb - w (53 + (6 * j + i)) + w (53 + (6 * j + i)) / nI 2) = (oweW w s N G hb j i) from rfl]
    refine r_istore (L' := [_, _, _, _, _, _]) dX11_leaveBoth_50 rfl rfl ?_
    refine r_aload_n dX11_leaveBoth_52 rfl ?_
    refine g_getR dX11_leaveBoth_53 f_X11_26 (Cla.sg (by assumption)) rfl (Cla.f2 (by assumption)) ?_
    refine g_getI dX11_leaveBoth_56 f_X11_195 (Sto.sg (Cla.now (by assumption))) rfl hst.here ?_
    refine r_iconst dX11_leaveBoth_59 ic_1 ?_
    refine r_iload_n dX11_leaveBoth_60 rfl ?_
    refine r_ishl dX11_leaveBoth_61 ?_
    refine g_top (shl1 (by omega)) ?_
    refine r_iconst dX11_leaveBoth_62 ic_m1 ?_
    refine r_ixor dX11_leaveBoth_63 ?_
    refine r_iand dX11_leaveBoth_64 ?_
    refine g_top (clr_eq (by omega) (by omega)) ?_
    refine r_iconst dX11_leaveBoth_65 ic_1 ?_
    refine r_iload_n dX11_leaveBoth_66 rfl ?_
    refine r_ishl dX11_leaveBoth_67 ?_
    refine g_top (shl1 (by omega)) ?_
    refine r_iconst dX11_leaveBoth_68 ic_m1 ?_
    refine r_ixor dX11_leaveBoth_69 ?_
    refine r_iand dX11_leaveBoth_70 ?_
    refine g_top (clr_eq (by omega) (by omega)) ?_
    refine r_istore (L' := [_, _, _, _, _, _]) dX11_leaveBoth_71 rfl rfl ?_
    refine r_iload_n dX11_leaveBoth_73 rfl ?_
    refine r_aload_n dX11_leaveBoth_74 rfl ?_
    refine g_getR dX11_leaveBoth_75 f_X11_26 (Cla.sg (by assumption)) rfl (Cla.f2 (by assumption)) ?_
    refine r_iload_n dX11_leaveBoth_78 rfl ?_
    refine r_V1 dX11_leaveBoth_79 l_X11_116 k_X8_coinsOf i_X8_coinsOf (Sto.sg (Cla.now (by assumption))) ⟨_, rfl⟩ (Nat.le_of_ble_eq_true rfl) (v_X8_coinsOf X _ (by first | assumption | omega) (by first | assumption | omega)) (List.prefix_refl S) ?_
    refine r_icmp_gt (tgt := 110) dX11_leaveBoth_82 (by decide) (fun c82 => ?_) (fun c82 => ?_)
    · have e : lbB w s N G hb i j = false := (by simp [lbB]; intro _ _ q; exact absurd c82 (Int32.not_lt.mpr q))
      refine r_bipush dX11_leaveBoth_110 bp_m2 ?_
      exact g_iret dX11_leaveBoth_112 (by rw [if_neg (by rw [e]; decide)]) (by rw [if_neg (by rw [e]; decide)])
    · skip
      refine r_iload dX11_leaveBoth_85 rfl ?_
      refine r_aload_n dX11_leaveBoth_87 rfl ?_
      refine g_getR dX11_leaveBoth_88 f_X11_26 (Cla.sg (by assumption)) rfl (Cla.f2 (by assumption)) ?_
      refine r_iload_n dX11_leaveBoth_91 rfl ?_
      refine r_V1 dX11_leaveBoth_92 l_X11_116 k_X8_coinsOf i_X8_coinsOf (Sto.sg (Cla.now (by assumption))) ⟨_, rfl⟩ (Nat.le_of_ble_eq_true rfl) (v_X8_coinsOf X _ (by first | assumption | omega) (by first | assumption | omega)) (List.prefix_refl S) ?_
      refine r_icmp_gt (tgt := 110) dX11_leaveBoth_95 (by decide) (fun c95 => ?_) (fun c95 => ?_)
      · have e : lbB w s N G hb i j = false := (by simp [lbB]; intro _ _ _ q; exact absurd c95 (Int32.not_lt.mpr q))
        refine r_bipush dX11_leaveBoth_110 bp_m2 ?_
        exact g_iret dX11_leaveBoth_112 (by rw [if_neg (by rw [e]; decide)]) (by rw [if_neg (by rw [e]; decide)])
      · skip
        refine r_aload_n dX11_leaveBoth_98 rfl ?_
        refine g_getR dX11_leaveBoth_99 f_X11_66 (Cla.sg (by assumption)) rfl (Cla.f9 (by assumption)) ?_
        refine r_iload dX11_leaveBoth_102 rfl ?_
        refine r_V1 dX11_leaveBoth_104 l_X11_198 k_X1_isLonelyGrandmother i_X1_isLonelyGrandmother (Fam.sg (by assumption)) ⟨_, rfl⟩ (Nat.le_of_ble_eq_true rfl) (v_X1_isLonelyGrandmother X _ (by first | assumption | omega) (by first | assumption | omega)) (List.prefix_refl S) ?_
        refine r_ifB_eq (tgt := 113) dX11_leaveBoth_107 (by decide) (fun c107 => ?_) (fun c107 => ?_)
        · skip
          have e : lbB w s N G hb i j = true := by unfold lbB; rw [c17.1, c17.2, decide_eq_false c82, decide_eq_false c95, c107]; rfl
          rw [if_pos e, if_pos e]
          refine r_aload_n dX11_leaveBoth_113 rfl ?_
          refine g_getR dX11_leaveBoth_114 f_X11_38 (Cla.sg (by assumption)) rfl (Cla.f4 (by assumption)) ?_
          refine r_aload_n dX11_leaveBoth_117 rfl ?_
          refine g_getR dX11_leaveBoth_118 f_X11_26 (Cla.sg (by assumption)) rfl (Cla.f2 (by assumption)) ?_
          refine r_V1 dX11_leaveBoth_121 l_X11_166 k_X5_put i_X5_put (Pio.sg (Cla.und (by assumption))) ⟨_, rfl⟩ (Nat.le_of_ble_eq_true rfl) (v_X5_put X _ hund hst hn hnx hh hu (by omega)) (List.prefix_refl S) ?_
          have hf1 : Fam S (puH I 16 8 nx u 6) R f w N G := hf.fr (fun o h1 h2 => puH_fr hnx (by omega))
          have hst1 : Std S (puH I 16 8 nx u 6) R 6 s N G hb pb := hst.fr (fun o h1 h2 => puH_fr hnx (by omega))
          refine r_aload_n dX11_leaveBoth_124 rfl ?_
          refine g_getR dX11_leaveBoth_125 f_X11_26 (Cla.sg (by assumption)) rfl (Cla.f2 (by assumption)) ?_
          refine r_iload_n dX11_leaveBoth_128 rfl ?_
          refine r_iload_n dX11_leaveBoth_129 rfl ?_
          refine r_S3 dX11_leaveBoth_130 l_X11_184 k_X2_depart s_X2_depart (Nat.le_of_ble_eq_true rfl) (v_X2_depart X _ hst1 hi) (List.prefix_refl S) ?_
          have hst2 := (hst1.pay (x := (oweW w s N G hb i j)) hi).out (x := (oweW w s N G hb i j)) hi
          refine r_aload_n dX11_leaveBoth_133 rfl ?_
          refine g_getR dX11_leaveBoth_134 f_X11_26 (Cla.sg (by assumption)) rfl (Cla.f2 (by assumption)) ?_
          refine r_iload_n dX11_leaveBoth_137 rfl ?_
          refine r_iload dX11_leaveBoth_138 rfl ?_
          refine r_S3 dX11_leaveBoth_140 l_X11_184 k_X2_depart s_X2_depart (Nat.le_of_ble_eq_true rfl) (v_X2_depart X _ hst2 hj) (List.prefix_refl S) ?_
          refine r_iload_n dX11_leaveBoth_143 rfl ?_
          refine r_iload dX11_leaveBoth_144 rfl ?_
          refine r_iadd dX11_leaveBoth_146 ?_
          exact g_iret dX11_leaveBoth_147 rfl rfl
        · have e : lbB w s N G hb i j = false := (by simp [lbB, c107])
          refine r_bipush dX11_leaveBoth_110 bp_m2 ?_
          exact g_iret dX11_leaveBoth_112 (by rw [if_neg (by rw [e]; decide)]) (by rw [if_neg (by rw [e]; decide)])
  · have e : lbB w s N G hb i j = false := (by unfold lbB; rw [← Bool.and_assoc, c17]; rfl)
    refine r_bipush dX11_leaveBoth_20 bp_m2 ?_
    exact g_iret dX11_leaveBoth_22 (by rw [if_neg (by rw [e]; decide)]) (by rw [if_neg (by rw [e]; decide)])

set_option maxHeartbeats 4000000 in
set_option maxRecDepth 100000 in
theorem v_X11_leaveBoth_f (X : mCx) (d : Nat) {S : mSh} {I : mI} {R : mR} {w : Nat → Int32} {N G f dr : Nat} {x y : Int32} (hc : Cla S R f dr) (hf : Fam S I R f w N G) (hb1 : twoP N x y = false) : CC X (d + 3) M_X11_leaveBoth [.ref 1, .int x, .int y] S (I, R) (some (.int (-1))) S (I, R) := by
  have hN6 := hf.N6
  refine CC.of2 (L := [.ref 1, .int x, .int y, .retAddr 0, .retAddr 0, .retAddr 0]) p_X11 (Nat.le_of_ble_eq_true rfl) rfl rfl (List.prefix_refl S) ?_
  refine r_aload_n dX11_leaveBoth_0 rfl ?_
  refine r_iload_n dX11_leaveBoth_1 rfl ?_
  refine r_iload_n dX11_leaveBoth_2 rfl ?_
  refine r_V2 dX11_leaveBoth_3 l_X11_146 k_X11_isPair i_X11_isPair (Cla.sg (by assumption)) ⟨_, rfl⟩ (Nat.le_of_ble_eq_true rfl) (v_X11_isPair X _ (by first | assumption | omega) (by first | assumption | omega)) (List.prefix_refl S) ?_
  refine r_ifB_ne (tgt := 11) dX11_leaveBoth_6 (by decide) (fun c6 => absurd hb1 (by rw [c6]; decide)) (fun c6 => ?_)
  refine r_iconst dX11_leaveBoth_9 ic_m1 ?_
  exact g_iret dX11_leaveBoth_10 rfl rfl

set_option maxHeartbeats 4000000 in
set_option maxRecDepth 100000 in
theorem v_X11_undo_0 (X : mCx) (d : Nat) {S : mSh} {I : mI} {R : mR} {f dr nx u : Nat} (hc : Cla S R f dr) (hn : I 16 1 = nI nx) (hnx : nx < 8) (hh : I 16 2 = nI u) (hu : u ≤ 8) (h0 : u = 0) : CC X (d + 3) M_X11_undo [.ref 1] S (I, R) (some (.int (-2))) S (I, R) := by
  have hund := hc.und
  have hkep := hc.kep
  have hnow := hc.now
  refine CC.of2 (L := [.ref 1]) p_X11 (Nat.le_of_ble_eq_true rfl) rfl rfl (List.prefix_refl S) ?_
  refine r_aload_n dX11_undo_0 rfl ?_
  refine g_getR dX11_undo_1 f_X11_38 (Cla.sg (by assumption)) rfl (Cla.f4 (by assumption)) ?_
  refine r_aload_n dX11_undo_4 rfl ?_
  refine g_getR dX11_undo_5 f_X11_26 (Cla.sg (by assumption)) rfl (Cla.f2 (by assumption)) ?_
  refine r_V1 dX11_undo_8 l_X11_207 k_X5_take i_X5_take (Pio.sg (Cla.und (by assumption))) ⟨_, rfl⟩ (Nat.le_of_ble_eq_true rfl) (v_X5_take0 X _ hund hn hnx hh hu h0) (List.prefix_refl S) ?_
  refine r_ifB_eq (tgt := 24) dX11_undo_11 (by decide) (fun c11 => ?_) (fun c11 => absurd c11 (by decide))
  refine r_bipush dX11_undo_24 bp_m2 ?_
  exact g_iret dX11_undo_26 rfl rfl

set_option maxHeartbeats 4000000 in
set_option maxRecDepth 100000 in
theorem v_X11_undo_t (X : mCx) (d : Nat) {S : mSh} {I : mI} {R : mR} {s : Nat → Int32} {N G hb pb f dr nx u : Nat} (hc : Cla S R f dr) (hn : I 16 1 = nI nx) (hnx : nx < 8) (hh : I 16 2 = nI u) (hu : u ≤ 8) (h1 : 1 ≤ u) (hst : Std S I R (18 + 5 * prv 8 nx) s N G hb pb) : CC X (d + 4) M_X11_undo [.ref 1] S (I, R) (some (.int (nI (u - 1)))) S (taH I 16 8 nx u 6, R) := by
  have hund := hc.und
  have hkep := hc.kep
  have hnow := hc.now
  refine CC.of2 (L := [.ref 1]) p_X11 (Nat.le_of_ble_eq_true rfl) rfl rfl (List.prefix_refl S) ?_
  refine r_aload_n dX11_undo_0 rfl ?_
  refine g_getR dX11_undo_1 f_X11_38 (Cla.sg (by assumption)) rfl (Cla.f4 (by assumption)) ?_
  refine r_aload_n dX11_undo_4 rfl ?_
  refine g_getR dX11_undo_5 f_X11_26 (Cla.sg (by assumption)) rfl (Cla.f2 (by assumption)) ?_
  refine r_V1 dX11_undo_8 l_X11_207 k_X5_take i_X5_take (Pio.sg (Cla.und (by assumption))) ⟨_, rfl⟩ (Nat.le_of_ble_eq_true rfl) (v_X5_take X _ hund hnow hn hnx hh hu h1 hst (by omega)) (List.prefix_refl S) ?_
  refine r_ifB_eq (tgt := 24) dX11_undo_11 (by decide) (fun c11 => absurd c11 (by decide)) (fun c11 => ?_)
  refine r_aload_n dX11_undo_14 rfl ?_
  refine g_getR dX11_undo_15 f_X11_38 (Cla.sg (by assumption)) rfl (Cla.f4 (by assumption)) ?_
  refine g_getI dX11_undo_18 f_X11_211 (Pio.sg (Cla.und (by assumption))) rfl (show taH I 16 8 nx u 6 16 2 = nI (u - 1) from sJ_eq _ _ _ _) ?_
  refine r_goto (tgt := 26) dX11_undo_21 (by decide) ?_
  exact g_iret dX11_undo_26 rfl rfl

set_option maxHeartbeats 4000000 in
set_option maxRecDepth 100000 in
theorem v_X11_keep_f (X : mCx) (d : Nat) {S : mSh} {I : mI} {R : mR} {f dr u : Nat} (hc : Cla S R f dr) (hh : I 58 2 = nI u) (hu : u = 2) : CC X (d + 1) M_X11_keep [.ref 1] S (I, R) (some (.int (-3))) S (I, R) := by
  have hund := hc.und
  have hkep := hc.kep
  have hnow := hc.now
  refine CC.of2 (L := [.ref 1]) p_X11 (Nat.le_of_ble_eq_true rfl) rfl rfl (List.prefix_refl S) ?_
  refine r_aload_n dX11_keep_0 rfl ?_
  refine g_getR dX11_keep_1 f_X11_42 (Cla.sg (by assumption)) rfl (Cla.f5 (by assumption)) ?_
  refine g_getI dX11_keep_4 f_X11_211 (Pio.sg (Cla.kep (by assumption))) rfl hh ?_
  refine r_iconst dX11_keep_7 ic_2 ?_
  refine n_icmp_lt (tgt := 14) dX11_keep_8 (by decide) (by omega) (by omega) (fun c8 => absurd c8 (by omega)) (fun c8 => ?_)
  refine r_bipush dX11_keep_11 bp_m3 ?_
  exact g_iret dX11_keep_13 rfl rfl

set_option maxHeartbeats 4000000 in
set_option maxRecDepth 100000 in
theorem v_X11_keep_t (X : mCx) (d : Nat) {S : mSh} {I : mI} {R : mR} {s : Nat → Int32} {N G hb pb f dr nx u : Nat} (hc : Cla S R f dr) (hn : I 58 1 = nI nx) (hnx : nx < 2) (hh : I 58 2 = nI u) (hu : u ≤ 2) (h1 : u < 2) (hst : Std S I R 6 s N G hb pb) : CC X (d + 4) M_X11_keep [.ref 1] S (I, R) (some (.int (nI (u + 1)))) S (puH I 58 2 nx u 6, R) := by
  have hund := hc.und
  have hkep := hc.kep
  have hnow := hc.now
  refine CC.of2 (L := [.ref 1]) p_X11 (Nat.le_of_ble_eq_true rfl) rfl rfl (List.prefix_refl S) ?_
  refine r_aload_n dX11_keep_0 rfl ?_
  refine g_getR dX11_keep_1 f_X11_42 (Cla.sg (by assumption)) rfl (Cla.f5 (by assumption)) ?_
  refine g_getI dX11_keep_4 f_X11_211 (Pio.sg (Cla.kep (by assumption))) rfl hh ?_
  refine r_iconst dX11_keep_7 ic_2 ?_
  refine n_icmp_lt (tgt := 14) dX11_keep_8 (by decide) (by omega) (by omega) (fun c8 => ?_) (fun c8 => absurd c8 (by omega))
  refine r_aload_n dX11_keep_14 rfl ?_
  refine g_getR dX11_keep_15 f_X11_42 (Cla.sg (by assumption)) rfl (Cla.f5 (by assumption)) ?_
  refine r_aload_n dX11_keep_18 rfl ?_
  refine g_getR dX11_keep_19 f_X11_26 (Cla.sg (by assumption)) rfl (Cla.f2 (by assumption)) ?_
  refine r_V1 dX11_keep_22 l_X11_166 k_X5_put i_X5_put (Pio.sg (Cla.kep (by assumption))) ⟨_, rfl⟩ (Nat.le_of_ble_eq_true rfl) (v_X5_put X _ hkep hst hn hnx hh hu (by omega)) (List.prefix_refl S) ?_
  refine r_aload_n dX11_keep_25 rfl ?_
  refine g_getR dX11_keep_26 f_X11_42 (Cla.sg (by assumption)) rfl (Cla.f5 (by assumption)) ?_
  refine g_getI dX11_keep_29 f_X11_211 (Pio.sg (Cla.kep (by assumption))) rfl (show puH I 58 2 nx u 6 58 2 = nI (u + 1) by unfold puH hld; rw [sJ_eq]; split <;> first | rfl | (rw [show u + 1 = 2 by omega])) ?_
  exact g_iret dX11_keep_32 rfl rfl

set_option maxHeartbeats 4000000 in
set_option maxRecDepth 100000 in
theorem v_X11_back_0 (X : mCx) (d : Nat) {S : mSh} {I : mI} {R : mR} {f dr nx u : Nat} (hc : Cla S R f dr) (hn : I 58 1 = nI nx) (hnx : nx < 2) (hh : I 58 2 = nI u) (hu : u ≤ 2) (h0 : u = 0) : CC X (d + 3) M_X11_back [.ref 1] S (I, R) (some (.int (-2))) S (I, R) := by
  have hund := hc.und
  have hkep := hc.kep
  have hnow := hc.now
  refine CC.of2 (L := [.ref 1]) p_X11 (Nat.le_of_ble_eq_true rfl) rfl rfl (List.prefix_refl S) ?_
  refine r_aload_n dX11_back_0 rfl ?_
  refine g_getR dX11_back_1 f_X11_42 (Cla.sg (by assumption)) rfl (Cla.f5 (by assumption)) ?_
  refine r_aload_n dX11_back_4 rfl ?_
  refine g_getR dX11_back_5 f_X11_26 (Cla.sg (by assumption)) rfl (Cla.f2 (by assumption)) ?_
  refine r_V1 dX11_back_8 l_X11_207 k_X5_take i_X5_take (Pio.sg (Cla.kep (by assumption))) ⟨_, rfl⟩ (Nat.le_of_ble_eq_true rfl) (v_X5_take0 X _ hkep hn hnx hh hu h0) (List.prefix_refl S) ?_
  refine r_ifB_ne (tgt := 17) dX11_back_11 (by decide) (fun c11 => absurd c11 (by decide)) (fun c11 => ?_)
  refine r_bipush dX11_back_14 bp_m2 ?_
  exact g_iret dX11_back_16 rfl rfl

set_option maxHeartbeats 4000000 in
set_option maxRecDepth 100000 in
theorem v_X11_back_t (X : mCx) (d : Nat) {S : mSh} {I : mI} {R : mR} {s : Nat → Int32} {N G hb pb f dr nx u : Nat} (hc : Cla S R f dr) (hn : I 58 1 = nI nx) (hnx : nx < 2) (hh : I 58 2 = nI u) (hu : u ≤ 2) (h1 : 1 ≤ u) (hst : Std S I R (60 + 5 * prv 2 nx) s N G hb pb) : CC X (d + 4) M_X11_back [.ref 1] S (I, R) (some (.int (nI (u - 1)))) S (sJ (taH I 58 2 nx u 6) 16 2 (nI 0), R) := by
  have hund := hc.und
  have hkep := hc.kep
  have hnow := hc.now
  refine CC.of2 (L := [.ref 1]) p_X11 (Nat.le_of_ble_eq_true rfl) rfl rfl (List.prefix_refl S) ?_
  refine r_aload_n dX11_back_0 rfl ?_
  refine g_getR dX11_back_1 f_X11_42 (Cla.sg (by assumption)) rfl (Cla.f5 (by assumption)) ?_
  refine r_aload_n dX11_back_4 rfl ?_
  refine g_getR dX11_back_5 f_X11_26 (Cla.sg (by assumption)) rfl (Cla.f2 (by assumption)) ?_
  refine r_V1 dX11_back_8 l_X11_207 k_X5_take i_X5_take (Pio.sg (Cla.kep (by assumption))) ⟨_, rfl⟩ (Nat.le_of_ble_eq_true rfl) (v_X5_take X _ hkep hnow hn hnx hh hu h1 hst (by omega)) (List.prefix_refl S) ?_
  refine r_ifB_ne (tgt := 17) dX11_back_11 (by decide) (fun c11 => ?_) (fun c11 => absurd c11 (by decide))
  refine r_aload_n dX11_back_17 rfl ?_
  refine g_getR dX11_back_18 f_X11_38 (Cla.sg (by assumption)) rfl (Cla.f4 (by assumption)) ?_
  refine r_V0 dX11_back_21 l_X11_106 k_X5_empty i_X5_empty (Pio.sg (Cla.und (by assumption))) ⟨_, rfl⟩ (Nat.le_of_ble_eq_true rfl) (v_X5_empty X _ hund) (List.prefix_refl S) ?_
  refine r_aload_n dX11_back_24 rfl ?_
  refine g_getR dX11_back_25 f_X11_42 (Cla.sg (by assumption)) rfl (Cla.f5 (by assumption)) ?_
  refine g_getI dX11_back_28 f_X11_211 (Pio.sg (Cla.kep (by assumption))) rfl ((congrFun (sJ_o (by omega)) _).trans (show taH I 58 2 nx u 6 58 2 = nI (u - 1) from sJ_eq _ _ _ _)) ?_
  exact g_iret dX11_back_31 rfl rfl

set_option maxHeartbeats 4000000 in
set_option maxRecDepth 100000 in
theorem v_X11_swear_t (X : mCx) (d : Nat) {S : mSh} {I : mI} {R : mR} {w s : Nat → Int32} {N G hb pb f dr m i : Nat} {y : Int32} (hc : Cla S R f dr) (hf : Fam S I R f w N G) (hst : Std S I R 6 s N G hb pb) (hm : I 70 2 = nI m) (h6 : m < 6) (hi : i < N) (hy : isS y = true) (hh : hb.testBit i = true) : CC X (d + 3) M_X11_swear [.ref 1, .int (nI i), .int y] S (I, R) (some (.int (nI (m + 1)))) S (sJ (sJ (sJ I 71 m (nI i)) 72 m y) 70 2 (nI (m + 1)), R) := by
  have hG8 := hst.G8
  have hN6 := hst.N6
  have h256 := hst.h256
  have p256 := hst.p256
  have hund := hc.und
  have hkep := hc.kep
  have hoat := hc.oat
  have hord := hc.ord
  have htxt := hc.txt
  have htwo := hc.two
  have hgif := hc.gif
  have htri := hc.tri
  have hnow := hc.now
  refine CC.of2 (L := [.ref 1, .int (nI i), .int y]) p_X11 (Nat.le_of_ble_eq_true rfl) rfl rfl (List.prefix_refl S) ?_
  refine r_aload_n dX11_swear_0 rfl ?_
  refine g_getR dX11_swear_1 f_X11_66 (Cla.sg (by assumption)) rfl (Cla.f9 (by assumption)) ?_
  refine r_iload_n dX11_swear_4 rfl ?_
  refine r_V1 dX11_swear_5 l_X11_108 k_X1_isPerson i_X1_isPerson (Fam.sg (by assumption)) ⟨_, rfl⟩ (Nat.le_of_ble_eq_true rfl) (v_X1_isPerson X _ (by first | assumption | omega)) (List.prefix_refl S) ?_
  refine r_ifB_eq (tgt := 18) dX11_swear_8 (by decide) (fun c8 => absurd (isP_n hi (by omega)) (by rw [c8]; decide)) (fun c8 => ?_)
  refine r_iload_n dX11_swear_11 rfl ?_
  refine r_S1 dX11_swear_12 l_X11_239 k_X11_isSum s_X11_isSum (Nat.le_of_ble_eq_true rfl) (v_X11_isSum X _ ) (List.prefix_refl S) ?_
  refine r_ifB_ne (tgt := 20) dX11_swear_15 (by decide) (fun c15 => ?_) (fun c15 => absurd hy (by rw [c15]; decide))
  refine r_aload_n dX11_swear_20 rfl ?_
  refine g_getR dX11_swear_21 f_X11_26 (Cla.sg (by assumption)) rfl (Cla.f2 (by assumption)) ?_
  refine r_iload_n dX11_swear_24 rfl ?_
  refine r_V1 dX11_swear_25 l_X11_122 k_X8_isHere i_X8_isHere (Sto.sg (Cla.now (by assumption))) ⟨_, rfl⟩ (Nat.le_of_ble_eq_true rfl) (v_X8_isHere X _ (by first | assumption | omega) (by first | assumption | omega)) (List.prefix_refl S) ?_
  refine r_ifB_ne (tgt := 34) dX11_swear_28 (by decide) (fun c28 => ?_) (fun c28 => absurd hh (by rw [c28]; decide))
  refine r_aload_n dX11_swear_34 rfl ?_
  refine g_getR dX11_swear_35 f_X11_48 (Cla.sg (by assumption)) rfl (Cla.f6 (by assumption)) ?_
  refine r_iload_n dX11_swear_38 rfl ?_
  refine r_iload_n dX11_swear_39 rfl ?_
  refine r_V2 dX11_swear_40 l_X11_242 k_X3_add i_X3_add (Oat.sg (Cla.oat (by assumption))) ⟨_, rfl⟩ (Nat.le_of_ble_eq_true rfl) (v_X3_add X _ (by first | assumption | omega) (by first | assumption | omega) (by first | assumption | omega)) (List.prefix_refl S) ?_
  refine r_ifB_eq (tgt := 56) dX11_swear_43 (by decide) (fun c43 => absurd c43 (by decide)) (fun c43 => ?_)
  refine r_aload_n dX11_swear_46 rfl ?_
  refine g_getR dX11_swear_47 f_X11_48 (Cla.sg (by assumption)) rfl (Cla.f6 (by assumption)) ?_
  refine g_getI dX11_swear_50 f_X11_244 (Oat.sg (Cla.oat (by assumption))) rfl (sJ_eq _ _ _ _) ?_
  refine r_goto (tgt := 58) dX11_swear_53 (by decide) ?_
  exact g_iret dX11_swear_58 rfl rfl

set_option maxHeartbeats 4000000 in
set_option maxRecDepth 100000 in
theorem v_X11_swear_6 (X : mCx) (d : Nat) {S : mSh} {I : mI} {R : mR} {w s : Nat → Int32} {N G hb pb f dr m i : Nat} {y : Int32} (hc : Cla S R f dr) (hf : Fam S I R f w N G) (hst : Std S I R 6 s N G hb pb) (hm : I 70 2 = nI m) (h6 : m = 6) (hi : i < N) (hy : isS y = true) (hh : hb.testBit i = true) : CC X (d + 2) M_X11_swear [.ref 1, .int (nI i), .int y] S (I, R) (some (.int (-3))) S (I, R) := by
  have hG8 := hst.G8
  have hN6 := hst.N6
  have h256 := hst.h256
  have p256 := hst.p256
  have hund := hc.und
  have hkep := hc.kep
  have hoat := hc.oat
  have hord := hc.ord
  have htxt := hc.txt
  have htwo := hc.two
  have hgif := hc.gif
  have htri := hc.tri
  have hnow := hc.now
  refine CC.of2 (L := [.ref 1, .int (nI i), .int y]) p_X11 (Nat.le_of_ble_eq_true rfl) rfl rfl (List.prefix_refl S) ?_
  refine r_aload_n dX11_swear_0 rfl ?_
  refine g_getR dX11_swear_1 f_X11_66 (Cla.sg (by assumption)) rfl (Cla.f9 (by assumption)) ?_
  refine r_iload_n dX11_swear_4 rfl ?_
  refine r_V1 dX11_swear_5 l_X11_108 k_X1_isPerson i_X1_isPerson (Fam.sg (by assumption)) ⟨_, rfl⟩ (Nat.le_of_ble_eq_true rfl) (v_X1_isPerson X _ (by first | assumption | omega)) (List.prefix_refl S) ?_
  refine r_ifB_eq (tgt := 18) dX11_swear_8 (by decide) (fun c8 => absurd (isP_n hi (by omega)) (by rw [c8]; decide)) (fun c8 => ?_)
  refine r_iload_n dX11_swear_11 rfl ?_
  refine r_S1 dX11_swear_12 l_X11_239 k_X11_isSum s_X11_isSum (Nat.le_of_ble_eq_true rfl) (v_X11_isSum X _ ) (List.prefix_refl S) ?_
  refine r_ifB_ne (tgt := 20) dX11_swear_15 (by decide) (fun c15 => ?_) (fun c15 => absurd hy (by rw [c15]; decide))
  refine r_aload_n dX11_swear_20 rfl ?_
  refine g_getR dX11_swear_21 f_X11_26 (Cla.sg (by assumption)) rfl (Cla.f2 (by assumption)) ?_
  refine r_iload_n dX11_swear_24 rfl ?_
  refine r_V1 dX11_swear_25 l_X11_122 k_X8_isHere i_X8_isHere (Sto.sg (Cla.now (by assumption))) ⟨_, rfl⟩ (Nat.le_of_ble_eq_true rfl) (v_X8_isHere X _ (by first | assumption | omega) (by first | assumption | omega)) (List.prefix_refl S) ?_
  refine r_ifB_ne (tgt := 34) dX11_swear_28 (by decide) (fun c28 => ?_) (fun c28 => absurd hh (by rw [c28]; decide))
  refine r_aload_n dX11_swear_34 rfl ?_
  refine g_getR dX11_swear_35 f_X11_48 (Cla.sg (by assumption)) rfl (Cla.f6 (by assumption)) ?_
  refine r_iload_n dX11_swear_38 rfl ?_
  refine r_iload_n dX11_swear_39 rfl ?_
  refine r_V2 dX11_swear_40 l_X11_242 k_X3_add i_X3_add (Oat.sg (Cla.oat (by assumption))) ⟨_, rfl⟩ (Nat.le_of_ble_eq_true rfl) (v_X3_add6 X _ (by first | assumption | omega) (by first | assumption | omega) (by first | assumption | omega)) (List.prefix_refl S) ?_
  refine r_ifB_eq (tgt := 56) dX11_swear_43 (by decide) (fun c43 => ?_) (fun c43 => absurd c43 (by decide))
  refine r_bipush dX11_swear_56 bp_m3 ?_
  exact g_iret dX11_swear_58 rfl rfl

set_option maxHeartbeats 4000000 in
set_option maxRecDepth 100000 in
theorem v_X11_swear_n (X : mCx) (d : Nat) {S : mSh} {I : mI} {R : mR} {w s : Nat → Int32} {N G hb pb f dr : Nat} {i : Nat} {y : Int32} (hc : Cla S R f dr) (hf : Fam S I R f w N G) (hst : Std S I R 6 s N G hb pb) (hi : i < N) (hy : isS y = true) (hh : hb.testBit i = false) : CC X (d + 2) M_X11_swear [.ref 1, .int (nI i), .int y] S (I, R) (some (.int (-2))) S (I, R) := by
  have hG8 := hst.G8
  have hN6 := hst.N6
  have h256 := hst.h256
  have p256 := hst.p256
  have hund := hc.und
  have hkep := hc.kep
  have hoat := hc.oat
  have hord := hc.ord
  have htxt := hc.txt
  have htwo := hc.two
  have hgif := hc.gif
  have htri := hc.tri
  have hnow := hc.now
  refine CC.of2 (L := [.ref 1, .int (nI i), .int y]) p_X11 (Nat.le_of_ble_eq_true rfl) rfl rfl (List.prefix_refl S) ?_
  refine r_aload_n dX11_swear_0 rfl ?_
  refine g_getR dX11_swear_1 f_X11_66 (Cla.sg (by assumption)) rfl (Cla.f9 (by assumption)) ?_
  refine r_iload_n dX11_swear_4 rfl ?_
  refine r_V1 dX11_swear_5 l_X11_108 k_X1_isPerson i_X1_isPerson (Fam.sg (by assumption)) ⟨_, rfl⟩ (Nat.le_of_ble_eq_true rfl) (v_X1_isPerson X _ (by first | assumption | omega)) (List.prefix_refl S) ?_
  refine r_ifB_eq (tgt := 18) dX11_swear_8 (by decide) (fun c8 => absurd (isP_n hi (by omega)) (by rw [c8]; decide)) (fun c8 => ?_)
  refine r_iload_n dX11_swear_11 rfl ?_
  refine r_S1 dX11_swear_12 l_X11_239 k_X11_isSum s_X11_isSum (Nat.le_of_ble_eq_true rfl) (v_X11_isSum X _ ) (List.prefix_refl S) ?_
  refine r_ifB_ne (tgt := 20) dX11_swear_15 (by decide) (fun c15 => ?_) (fun c15 => absurd hy (by rw [c15]; decide))
  refine r_aload_n dX11_swear_20 rfl ?_
  refine g_getR dX11_swear_21 f_X11_26 (Cla.sg (by assumption)) rfl (Cla.f2 (by assumption)) ?_
  refine r_iload_n dX11_swear_24 rfl ?_
  refine r_V1 dX11_swear_25 l_X11_122 k_X8_isHere i_X8_isHere (Sto.sg (Cla.now (by assumption))) ⟨_, rfl⟩ (Nat.le_of_ble_eq_true rfl) (v_X8_isHere X _ (by first | assumption | omega) (by first | assumption | omega)) (List.prefix_refl S) ?_
  refine r_ifB_ne (tgt := 34) dX11_swear_28 (by decide) (fun c28 => absurd hh (by rw [c28]; decide)) (fun c28 => ?_)
  refine r_bipush dX11_swear_31 bp_m2 ?_
  exact g_iret dX11_swear_33 rfl rfl

set_option maxHeartbeats 4000000 in
set_option maxRecDepth 100000 in
theorem v_X11_swear_f (X : mCx) (d : Nat) {S : mSh} {I : mI} {R : mR} {w : Nat → Int32} {N G f dr : Nat} {x y : Int32} (hc : Cla S R f dr) (hf : Fam S I R f w N G) (hb1 : isP N x = false ∨ isS y = false) : CC X (d + 2) M_X11_swear [.ref 1, .int x, .int y] S (I, R) (some (.int (-1))) S (I, R) := by
  have hN6 := hf.N6
  refine CC.of2 (L := [.ref 1, .int x, .int y]) p_X11 (Nat.le_of_ble_eq_true rfl) rfl rfl (List.prefix_refl S) ?_
  refine r_aload_n dX11_swear_0 rfl ?_
  refine g_getR dX11_swear_1 f_X11_66 (Cla.sg (by assumption)) rfl (Cla.f9 (by assumption)) ?_
  refine r_iload_n dX11_swear_4 rfl ?_
  refine r_V1 dX11_swear_5 l_X11_108 k_X1_isPerson i_X1_isPerson (Fam.sg (by assumption)) ⟨_, rfl⟩ (Nat.le_of_ble_eq_true rfl) (v_X1_isPerson X _ (by first | assumption | omega)) (List.prefix_refl S) ?_
  refine r_ifB_eq (tgt := 18) dX11_swear_8 (by decide) (fun c8 => ?_) (fun c8 => ?_)
  · skip
    refine r_iconst dX11_swear_18 ic_m1 ?_
    exact g_iret dX11_swear_19 rfl rfl
  · skip
    refine r_iload_n dX11_swear_11 rfl ?_
    refine r_S1 dX11_swear_12 l_X11_239 k_X11_isSum s_X11_isSum (Nat.le_of_ble_eq_true rfl) (v_X11_isSum X _ ) (List.prefix_refl S) ?_
    refine r_ifB_ne (tgt := 20) dX11_swear_15 (by decide) (fun c15 => (by exfalso; rcases hb1 with q | q <;> first | exact absurd q (by rw [c15]; decide) | exact absurd q (by rw [c8]; decide))) (fun c15 => ?_)
    refine r_iconst dX11_swear_18 ic_m1 ?_
    exact g_iret dX11_swear_19 rfl rfl

set_option maxHeartbeats 4000000 in
set_option maxRecDepth 100000 in
theorem v_X11_forget (X : mCx) (d : Nat) {S : mSh} {I : mI} {R : mR} {f dr m : Nat} (hc : Cla S R f dr) (hm : I 70 2 = nI m) : CC X (d + 2) M_X11_forget [.ref 1] S (I, R) (some (.int (nI m))) S (sJ I 70 2 (nI 0), R) := by
  have hoat := hc.oat
  refine CC.of2 (L := [.ref 1, .retAddr 0]) p_X11 (Nat.le_of_ble_eq_true rfl) rfl rfl (List.prefix_refl S) ?_
  refine r_aload_n dX11_forget_0 rfl ?_
  refine g_getR dX11_forget_1 f_X11_48 (Cla.sg (by assumption)) rfl (Cla.f6 (by assumption)) ?_
  refine g_getI dX11_forget_4 f_X11_244 (Oat.sg (Cla.oat (by assumption))) rfl hm ?_
  refine r_istore_n (L' := [_, _]) dX11_forget_7 rfl rfl ?_
  refine r_aload_n dX11_forget_8 rfl ?_
  refine g_getR dX11_forget_9 f_X11_48 (Cla.sg (by assumption)) rfl (Cla.f6 (by assumption)) ?_
  refine r_V0 dX11_forget_12 l_X11_107 k_X3_empty i_X3_empty (Oat.sg (Cla.oat (by assumption))) ⟨_, rfl⟩ (Nat.le_of_ble_eq_true rfl) (v_X3_empty X _ (by first | assumption | omega)) (List.prefix_refl S) ?_
  refine r_iload_n dX11_forget_15 rfl ?_
  exact g_iret dX11_forget_16 rfl rfl

set_option maxHeartbeats 4000000 in
set_option maxRecDepth 100000 in
theorem v_X11_wipe (X : mCx) (d : Nat) {S : mSh} {I : mI} {R : mR} {f dr n : Nat} (hc : Cla S R f dr) (hn : I 2 1 = nI n) : CC X (d + 2) M_X11_wipe [.ref 1] S (I, R) (some (.int (nI n))) S (sJ I 2 1 (nI 0), R) := by
  have htxt := hc.txt
  refine CC.of2 (L := [.ref 1, .retAddr 0]) p_X11 (Nat.le_of_ble_eq_true rfl) rfl rfl (List.prefix_refl S) ?_
  refine r_aload_n dX11_wipe_0 rfl ?_
  refine g_getR dX11_wipe_1 f_X11_10 (Cla.sg (by assumption)) rfl (Cla.f0 (by assumption)) ?_
  refine g_getI dX11_wipe_4 f_X11_100 (Txt.sg (Cla.txt (by assumption))) rfl hn ?_
  refine r_istore_n (L' := [_, _]) dX11_wipe_7 rfl rfl ?_
  refine r_aload_n dX11_wipe_8 rfl ?_
  refine g_getR dX11_wipe_9 f_X11_10 (Cla.sg (by assumption)) rfl (Cla.f0 (by assumption)) ?_
  refine r_V0 dX11_wipe_12 l_X11_97 k_X9_empty i_X9_empty (Txt.sg (Cla.txt (by assumption))) ⟨_, rfl⟩ (Nat.le_of_ble_eq_true rfl) (v_X9_empty X _ (by first | assumption | omega)) (List.prefix_refl S) ?_
  refine r_iload_n dX11_wipe_15 rfl ?_
  exact g_iret dX11_wipe_16 rfl rfl

set_option maxHeartbeats 4000000 in
set_option maxRecDepth 100000 in
theorem v_X11_write_t (X : mCx) (d : Nat) {S : mSh} {I : mI} {R : mR} {f dr n k : Nat} (hc : Cla S R f dr) (hn : I 2 1 = nI n) (h2 : n < 200) (hk : 32 ≤ k) (hk2 : k ≤ 126) : CC X (d + 2) M_X11_write [.ref 1, .int (nI k)] S (I, R) (some (.int (nI (n + 1)))) S (sJ (sJ I 3 n (nI k)) 2 1 (nI (n + 1)), R) := by
  have htxt := hc.txt
  refine CC.of2 (L := [.ref 1, .int (nI k)]) p_X11 (Nat.le_of_ble_eq_true rfl) rfl rfl (List.prefix_refl S) ?_
  refine r_iload_n dX11_write_0 rfl ?_
  refine r_bipush dX11_write_1 bp_32 ?_
  refine n_icmp_lt (tgt := 12) dX11_write_3 (by decide) (by omega) (by omega) (fun c3 => absurd c3 (by omega)) (fun c3 => ?_)
  refine r_iload_n dX11_write_6 rfl ?_
  refine r_bipush dX11_write_7 bp_126 ?_
  refine n_icmp_le (tgt := 14) dX11_write_9 (by decide) (by omega) (by omega) (fun c9 => ?_) (fun c9 => absurd c9 (by omega))
  refine r_aload_n dX11_write_14 rfl ?_
  refine g_getR dX11_write_15 f_X11_10 (Cla.sg (by assumption)) rfl (Cla.f0 (by assumption)) ?_
  refine r_iload_n dX11_write_18 rfl ?_
  refine r_i2c dX11_write_19 (i2c_n (by omega)) ?_
  refine r_V1 dX11_write_20 l_X11_85 k_X9_add i_X9_add (Txt.sg (Cla.txt (by assumption))) ⟨_, rfl⟩ (Nat.le_of_ble_eq_true rfl) (v_X9_add X _ (by first | assumption | omega) (by first | assumption | omega) (by first | assumption | omega) (by first | assumption | omega)) (List.prefix_refl S) ?_
  refine r_ifB_eq (tgt := 36) dX11_write_23 (by decide) (fun c23 => absurd c23 (by decide)) (fun c23 => ?_)
  refine r_aload_n dX11_write_26 rfl ?_
  refine g_getR dX11_write_27 f_X11_10 (Cla.sg (by assumption)) rfl (Cla.f0 (by assumption)) ?_
  refine g_getI dX11_write_30 f_X11_100 (Txt.sg (Cla.txt (by assumption))) rfl (sJ_eq _ _ _ _) ?_
  refine r_goto (tgt := 38) dX11_write_33 (by decide) ?_
  exact g_iret dX11_write_38 rfl rfl

set_option maxHeartbeats 4000000 in
set_option maxRecDepth 100000 in
theorem v_X11_write_F (X : mCx) (d : Nat) {S : mSh} {I : mI} {R : mR} {f dr n k : Nat} (hc : Cla S R f dr) (hn : I 2 1 = nI n) (h2 : n = 200) (hk : 32 ≤ k) (hk2 : k ≤ 126) : CC X (d + 2) M_X11_write [.ref 1, .int (nI k)] S (I, R) (some (.int (-3))) S (I, R) := by
  have htxt := hc.txt
  refine CC.of2 (L := [.ref 1, .int (nI k)]) p_X11 (Nat.le_of_ble_eq_true rfl) rfl rfl (List.prefix_refl S) ?_
  refine r_iload_n dX11_write_0 rfl ?_
  refine r_bipush dX11_write_1 bp_32 ?_
  refine n_icmp_lt (tgt := 12) dX11_write_3 (by decide) (by omega) (by omega) (fun c3 => absurd c3 (by omega)) (fun c3 => ?_)
  refine r_iload_n dX11_write_6 rfl ?_
  refine r_bipush dX11_write_7 bp_126 ?_
  refine n_icmp_le (tgt := 14) dX11_write_9 (by decide) (by omega) (by omega) (fun c9 => ?_) (fun c9 => absurd c9 (by omega))
  refine r_aload_n dX11_write_14 rfl ?_
  refine g_getR dX11_write_15 f_X11_10 (Cla.sg (by assumption)) rfl (Cla.f0 (by assumption)) ?_
  refine r_iload_n dX11_write_18 rfl ?_
  refine r_i2c dX11_write_19 (i2c_n (by omega)) ?_
  refine r_V1 dX11_write_20 l_X11_85 k_X9_add i_X9_add (Txt.sg (Cla.txt (by assumption))) ⟨_, rfl⟩ (Nat.le_of_ble_eq_true rfl) (v_X9_addF X _ (by first | assumption | omega) (by first | assumption | omega) (by first | assumption | omega)) (List.prefix_refl S) ?_
  refine r_ifB_eq (tgt := 36) dX11_write_23 (by decide) (fun c23 => ?_) (fun c23 => absurd c23 (by decide))
  refine r_bipush dX11_write_36 bp_m3 ?_
  exact g_iret dX11_write_38 rfl rfl

set_option maxHeartbeats 4000000 in
set_option maxRecDepth 100000 in
theorem v_X11_write_f (X : mCx) (d : Nat) {S : mSh} {I : mI} {R : mR} {f dr : Nat} {x : Int32} (hc : Cla S R f dr) (hx : x < nI 32 ∨ nI 126 < x) : CC X (d + 1) M_X11_write [.ref 1, .int x] S (I, R) (some (.int (-1))) S (I, R) := by
  refine CC.of2 (L := [.ref 1, .int x]) p_X11 (Nat.le_of_ble_eq_true rfl) rfl rfl (List.prefix_refl S) ?_
  refine r_iload_n dX11_write_0 rfl ?_
  refine r_bipush dX11_write_1 bp_32 ?_
  refine r_icmp_lt (tgt := 12) dX11_write_3 (by decide) (fun c3 => ?_) (fun c3 => ?_)
  · skip
    refine r_iconst dX11_write_12 ic_m1 ?_
    exact g_iret dX11_write_13 rfl rfl
  · skip
    refine r_iload_n dX11_write_6 rfl ?_
    refine r_bipush dX11_write_7 bp_126 ?_
    refine r_icmp_le (tgt := 14) dX11_write_9 (by decide) (fun c9 => (by exfalso; rcases hx with q | q; exact c3 q; exact absurd q (Int32.not_lt.mpr c9))) (fun c9 => ?_)
    refine r_iconst dX11_write_12 ic_m1 ?_
    exact g_iret dX11_write_13 rfl rfl

