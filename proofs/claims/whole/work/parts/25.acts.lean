/-! ===== the class: what changes something ===== -/
theorem puH_fr {I : mI} {z n nx u q o : Nat} (hnx : nx < n) (h : o < z ∨ z + 1 + 5 * n < o) : puH I z n nx u q o = I o := by
  unfold puH
  rw [sJ_o (by omega), sJ_o (by omega), cpH_fr (by omega)]
theorem taH_fr {I : mI} {z n nx u a o : Nat} (h1 : o ≠ z) (h : o < a ∨ a + 4 < o) : taH I z n nx u a o = I o := by
  unfold taH
  rw [sJ_o h1, sJ_o h1, cpH_fr h]
def ldP (w s : Nat → Int32) (G pb p : Nat) : Int32 := lodB w G (ownB s G (nI p) &&& pb)
/-- a good can be packed by its owner p -/
def pk1 (w s : Nat → Int32) (G hb pb g p : Nat) : Bool := isHr hb (s (19 + g)) && (!pb.testBit g && (!decide (w (21 + g) = nI 2) && !decide (w (15 + p) < ldP w s G pb p + w (45 + g))))
def pk0 (w s : Nat → Int32) (hb pb g : Nat) : Bool := isHr hb (s (19 + g)) && (pb.testBit g && !decide (w (21 + g) = nI 2))
set_option maxHeartbeats 4000000 in
set_option maxRecDepth 100000 in
theorem v_X11_pack_1 (X : mCx) (d : Nat) {S : mSh} {I : mI} {R : mR} {w s : Nat → Int32} {N G g hb pb f dr nx u : Nat} (hc : Cla S R f dr) (hf : Fam S I R f w N G) (hst : Std S I R 6 s N G hb pb) (hn : I 16 1 = nI nx) (hnx : nx < 8) (hh : I 16 2 = nI u) (hu : u ≤ 8) (hs : sOk s N G) (hg : g < G) : CC X (d + 4) M_X11_pack [.ref 1, .int (nI g), .int (nI 1)] S (I, R) (some (.int (if pk1 w s G hb pb g (s (19 + g)).toNatClampNeg = true then ldP w s G pb (s (19 + g)).toNatClampNeg + w (45 + g) else -2))) S ((if pk1 w s G hb pb g (s (19 + g)).toNatClampNeg = true then sJ (puH I 16 8 nx u 6) 6 1 (nI (pbs pb g true)) else I), R) := by
  have hG8 := hst.G8
  have hN6 := hst.N6
  have h256 := hst.h256
  have p256 := hst.p256
  have hund := hc.und
  have hkep := hc.kep
  have hoat := hc.oat
  have hord := hc.ord
  have htxt := hc.txt
  have htwo := hc.two
  have hgif := hc.gif
  have htri := hc.tri
  have hnow := hc.now
  refine CC.of2 (L := [.ref 1, .int (nI g), .int (nI 1), .retAddr 0, .retAddr 0, .retAddr 0]) p_X11 (Nat.le_of_ble_eq_true rfl) rfl rfl (List.prefix_refl S) ?_
  refine r_aload_n dX11_pack_0 rfl ?_
  refine g_getR dX11_pack_1 f_X11_66 (Cla.sg (by assumption)) rfl (Cla.f9 (by assumption)) ?_
  refine r_iload_n dX11_pack_4 rfl ?_
  refine r_V1 dX11_pack_5 l_X11_128 k_X1_isGood i_X1_isGood (Fam.sg (by assumption)) ⟨_, rfl⟩ (Nat.le_of_ble_eq_true rfl) (v_X1_isGood X _ (by first | assumption | omega)) (List.prefix_refl S) ?_
  refine r_ifB_ne (tgt := 13) dX11_pack_8 (by decide) (fun c8 => ?_) (fun c8 => absurd (isP_n hg (by omega)) (by rw [c8]; decide))
  refine r_aload_n dX11_pack_13 rfl ?_
  refine g_getR dX11_pack_14 f_X11_26 (Cla.sg (by assumption)) rfl (Cla.f2 (by assumption)) ?_
  refine r_iload_n dX11_pack_17 rfl ?_
  refine r_V1 dX11_pack_18 l_X11_134 k_X8_ownerOf i_X8_ownerOf (Sto.sg (Cla.now (by assumption))) ⟨_, rfl⟩ (Nat.le_of_ble_eq_true rfl) (v_X8_ownerOf X _ (by first | assumption | omega) (by first | assumption | omega)) (List.prefix_refl S) ?_
  refine r_istore_n (L' := [_, _, _, _, _, _]) dX11_pack_21 rfl rfl ?_
  refine r_aload_n dX11_pack_22 rfl ?_
  refine g_getR dX11_pack_23 f_X11_26 (Cla.sg (by assumption)) rfl (Cla.f2 (by assumption)) ?_
  refine r_iload_n dX11_pack_26 rfl ?_
  refine r_V1 dX11_pack_27 l_X11_122 k_X8_isHere i_X8_isHere (Sto.sg (Cla.now (by assumption))) ⟨_, rfl⟩ (Nat.le_of_ble_eq_true rfl) (v_X8_isHere_x X _ (by first | assumption | omega)) (List.prefix_refl S) ?_
  refine r_ifB_eq (tgt := 57) dX11_pack_30 (by decide) (fun c30 => ?_) (fun c30 => ?_)
  · have e : pk1 w s G hb pb g (s (19 + g)).toNatClampNeg = false := (by simp [pk1, c30])
    refine r_bipush dX11_pack_57 bp_m2 ?_
    exact g_iret dX11_pack_59 (by first | rw [if_neg (by rw [e]; decide)] | (rw [if_neg (by simp [pk1, c42])])) (by first | rw [if_neg (by rw [e]; decide)] | (rw [if_neg (by simp [pk1, c42])]))
  · obtain ⟨p, hp, ep, hbp⟩ := hs.own hg hN6 c30; have e1 : (s (19 + g)).toNatClampNeg = p := (by rw [ep, nI_clamp (by omega)]); rw [e1, ep]; have ho := ownB_256 s (nI p) hG8; have hld : ownB s G (nI p) &&& pb < 256 := Nat.lt_of_le_of_lt Nat.and_le_left ho
    refine r_aload_n dX11_pack_33 rfl ?_
    refine g_getR dX11_pack_34 f_X11_26 (Cla.sg (by assumption)) rfl (Cla.f2 (by assumption)) ?_
    refine r_iload_n dX11_pack_37 rfl ?_
    refine r_V1 dX11_pack_38 l_X11_143 k_X8_isPacked i_X8_isPacked (Sto.sg (Cla.now (by assumption))) ⟨_, rfl⟩ (Nat.le_of_ble_eq_true rfl) (v_X8_isPacked X _ (by first | assumption | omega) (by first | assumption | omega)) (List.prefix_refl S) ?_
    refine r_iload_n dX11_pack_41 rfl ?_
    refine r_icmp_eq (tgt := 57) dX11_pack_42 (by decide) (fun c42 => ?_) (fun c42 => ?_)
    · have c42 : pb.testBit g = true := bI_n1.mp c42
      refine r_bipush dX11_pack_57 bp_m2 ?_
      exact g_iret dX11_pack_59 (by first | rw [if_neg (by rw [e]; decide)] | (rw [if_neg (by simp [pk1, c42])])) (by first | rw [if_neg (by rw [e]; decide)] | (rw [if_neg (by simp [pk1, c42])]))
    · have c42 : pb.testBit g = false := (by have q := c42; rw [bI_n1] at q; simpa using q)
      refine r_aload_n dX11_pack_45 rfl ?_
      refine g_getR dX11_pack_46 f_X11_66 (Cla.sg (by assumption)) rfl (Cla.f9 (by assumption)) ?_
      refine r_iload_n dX11_pack_49 rfl ?_
      refine r_V1 dX11_pack_50 l_X11_131 k_X1_sortOf i_X1_sortOf (Fam.sg (by assumption)) ⟨_, rfl⟩ (Nat.le_of_ble_eq_true rfl) (v_X1_sortOf X _ (by first | assumption | omega) (by first | assumption | omega)) (List.prefix_refl S) ?_
      refine r_iconst dX11_pack_53 ic_2 ?_
      refine r_icmp_ne (tgt := 60) dX11_pack_54 (by decide) (fun c54 => ?_) (fun c54 => ?_)
      · skip
        refine r_aload_n dX11_pack_60 rfl ?_
        refine g_getR dX11_pack_61 f_X11_66 (Cla.sg (by assumption)) rfl (Cla.f9 (by assumption)) ?_
        refine r_aload_n dX11_pack_64 rfl ?_
        refine g_getR dX11_pack_65 f_X11_26 (Cla.sg (by assumption)) rfl (Cla.f2 (by assumption)) ?_
        refine r_iload_n dX11_pack_68 rfl ?_
        refine r_V1 dX11_pack_69 l_X11_154 k_X8_owned i_X8_owned (Sto.sg (Cla.now (by assumption))) ⟨_, rfl⟩ (Nat.le_of_ble_eq_true rfl) (v_X8_owned X _ (by first | assumption | omega)) (List.prefix_refl S) ?_
        refine r_aload_n dX11_pack_72 rfl ?_
        refine g_getR dX11_pack_73 f_X11_26 (Cla.sg (by assumption)) rfl (Cla.f2 (by assumption)) ?_
        refine g_getI dX11_pack_76 f_X11_157 (Sto.sg (Cla.now (by assumption))) rfl hst.packed ?_
        refine r_iand dX11_pack_79 ?_
        refine g_top (nI_and _ _) ?_
        refine r_S2 dX11_pack_80 l_X11_160 k_X0_load s_X0_load (Nat.le_of_ble_eq_true rfl) (v_X0_load X _ (by first | assumption | omega) (by first | assumption | omega)) (List.prefix_refl S) ?_
        refine r_istore (L' := [_, _, _, _, _, _]) dX11_pack_83 rfl rfl ?_
        refine r_iload_n dX11_pack_85 rfl ?_
        refine n_if_eq (tgt := 103) dX11_pack_86 (by decide) (by omega) (fun c86 => absurd c86 (by decide)) (fun c86 => ?_)
        refine r_iload dX11_pack_89 rfl ?_
        refine r_aload_n dX11_pack_91 rfl ?_
        refine g_getR dX11_pack_92 f_X11_66 (Cla.sg (by assumption)) rfl (Cla.f9 (by assumption)) ?_
        refine r_iload_n dX11_pack_95 rfl ?_
        refine r_V1 dX11_pack_96 l_X11_140 k_X1_heavyOf i_X1_heavyOf (Fam.sg (by assumption)) ⟨_, rfl⟩ (Nat.le_of_ble_eq_true rfl) (v_X1_heavyOf X _ (by first | assumption | omega) (by first | assumption | omega)) (List.prefix_refl S) ?_
        refine r_iadd dX11_pack_99 ?_
        refine r_goto (tgt := 114) dX11_pack_100 (by decide) ?_
        refine r_istore (L' := [_, _, _, _, _, _]) dX11_pack_114 rfl rfl ?_
        refine r_iload_n dX11_pack_116 rfl ?_
        refine n_if_eq (tgt := 136) dX11_pack_117 (by decide) (by omega) (fun c117 => absurd c117 (by decide)) (fun c117 => ?_)
        refine r_iload dX11_pack_120 rfl ?_
        refine r_aload_n dX11_pack_122 rfl ?_
        refine g_getR dX11_pack_123 f_X11_66 (Cla.sg (by assumption)) rfl (Cla.f9 (by assumption)) ?_
        refine r_iload_n dX11_pack_126 rfl ?_
        refine r_V1 dX11_pack_127 l_X11_119 k_X1_strengthOf i_X1_strengthOf (Fam.sg (by assumption)) ⟨_, rfl⟩ (Nat.le_of_ble_eq_true rfl) (v_X1_strengthOf X _ (by first | assumption | omega) (by first | assumption | omega)) (List.prefix_refl S) ?_
        refine r_icmp_le (tgt := 136) dX11_pack_130 (by decide) (fun c130 => ?_) (fun c130 => ?_)
        · skip
          have e : pk1 w s G hb pb g p = true := by unfold pk1 ldP; rw [c30, c42]; simp [c54]; exact c130
          rw [if_pos e, if_pos e]
          refine r_aload_n dX11_pack_136 rfl ?_
          refine g_getR dX11_pack_137 f_X11_38 (Cla.sg (by assumption)) rfl (Cla.f4 (by assumption)) ?_
          refine r_aload_n dX11_pack_140 rfl ?_
          refine g_getR dX11_pack_141 f_X11_26 (Cla.sg (by assumption)) rfl (Cla.f2 (by assumption)) ?_
          refine r_V1 dX11_pack_144 l_X11_166 k_X5_put i_X5_put (Pio.sg (Cla.und (by assumption))) ⟨_, rfl⟩ (Nat.le_of_ble_eq_true rfl) (v_X5_put X _ hund hst hn hnx hh hu (by omega)) (List.prefix_refl S) ?_
          have hf1 : Fam S (puH I 16 8 nx u 6) R f w N G := hf.fr (fun o h1 h2 => puH_fr hnx (by omega))
          have hst1 : Std S (puH I 16 8 nx u 6) R 6 s N G hb pb := hst.fr (fun o h1 h2 => puH_fr hnx (by omega))
          refine r_aload_n dX11_pack_147 rfl ?_
          refine g_getR dX11_pack_148 f_X11_26 (Cla.sg (by assumption)) rfl (Cla.f2 (by assumption)) ?_
          refine r_iload_n dX11_pack_151 rfl ?_
          refine r_iload_n dX11_pack_152 rfl ?_
          rw [show nI 1 = bI true from rfl]
          refine r_V2 dX11_pack_153 l_X11_170 k_X8_setPacked i_X8_setPacked (Sto.sg (Cla.now (by assumption))) ⟨_, rfl⟩ (Nat.le_of_ble_eq_true rfl) (v_X8_setPacked X _ hst1 hg) (List.prefix_refl S) ?_
          refine r_iload dX11_pack_156 rfl ?_
          exact g_iret dX11_pack_158 rfl rfl
        · have e : pk1 w s G hb pb g p = false := (by unfold pk1 ldP; simp; intro _ _ _; exact Int32.not_le.mp c130)
          refine r_bipush dX11_pack_133 bp_m2 ?_
          exact g_iret dX11_pack_135 (by rw [if_neg (by rw [e]; decide)]) (by rw [if_neg (by rw [e]; decide)])
      · have e : pk1 w s G hb pb g p = false := (by simp [pk1, c54])
        refine r_bipush dX11_pack_57 bp_m2 ?_
        exact g_iret dX11_pack_59 (by first | rw [if_neg (by rw [e]; decide)] | (rw [if_neg (by simp [pk1, c42])])) (by first | rw [if_neg (by rw [e]; decide)] | (rw [if_neg (by simp [pk1, c42])]))

set_option maxHeartbeats 4000000 in
set_option maxRecDepth 100000 in
theorem v_X11_pack_f1 (X : mCx) (d : Nat) {S : mSh} {I : mI} {R : mR} {w : Nat → Int32} {N G f dr : Nat} {x : Int32} (hc : Cla S R f dr) (hf : Fam S I R f w N G) (hb1 : isP G x = false) : CC X (d + 2) M_X11_pack [.ref 1, .int x, .int (nI 1)] S (I, R) (some (.int (-1))) S (I, R) := by
  have hG8 := hf.G8
  refine CC.of2 (L := [.ref 1, .int x, .int (nI 1), .retAddr 0, .retAddr 0, .retAddr 0]) p_X11 (Nat.le_of_ble_eq_true rfl) rfl rfl (List.prefix_refl S) ?_
  refine r_aload_n dX11_pack_0 rfl ?_
  refine g_getR dX11_pack_1 f_X11_66 (Cla.sg (by assumption)) rfl (Cla.f9 (by assumption)) ?_
  refine r_iload_n dX11_pack_4 rfl ?_
  refine r_V1 dX11_pack_5 l_X11_128 k_X1_isGood i_X1_isGood (Fam.sg (by assumption)) ⟨_, rfl⟩ (Nat.le_of_ble_eq_true rfl) (v_X1_isGood X _ (by first | assumption | omega)) (List.prefix_refl S) ?_
  refine r_ifB_ne (tgt := 13) dX11_pack_8 (by decide) (fun c8 => absurd hb1 (by rw [c8]; decide)) (fun c8 => ?_)
  refine r_iconst dX11_pack_11 ic_m1 ?_
  exact g_iret dX11_pack_12 rfl rfl

set_option maxHeartbeats 4000000 in
set_option maxRecDepth 100000 in
theorem v_X11_pack_0 (X : mCx) (d : Nat) {S : mSh} {I : mI} {R : mR} {w s : Nat → Int32} {N G g hb pb f dr nx u : Nat} (hc : Cla S R f dr) (hf : Fam S I R f w N G) (hst : Std S I R 6 s N G hb pb) (hn : I 16 1 = nI nx) (hnx : nx < 8) (hh : I 16 2 = nI u) (hu : u ≤ 8) (hs : sOk s N G) (hg : g < G) : CC X (d + 4) M_X11_pack [.ref 1, .int (nI g), .int (nI 0)] S (I, R) (some (.int (if pk0 w s hb pb g = true then ldP w s G pb (s (19 + g)).toNatClampNeg - w (45 + g) else -2))) S ((if pk0 w s hb pb g = true then sJ (puH I 16 8 nx u 6) 6 1 (nI (pbs pb g false)) else I), R) := by
  have hG8 := hst.G8
  have hN6 := hst.N6
  have h256 := hst.h256
  have p256 := hst.p256
  have hund := hc.und
  have hkep := hc.kep
  have hoat := hc.oat
  have hord := hc.ord
  have htxt := hc.txt
  have htwo := hc.two
  have hgif := hc.gif
  have htri := hc.tri
  have hnow := hc.now
  refine CC.of2 (L := [.ref 1, .int (nI g), .int (nI 0), .retAddr 0, .retAddr 0, .retAddr 0]) p_X11 (Nat.le_of_ble_eq_true rfl) rfl rfl (List.prefix_refl S) ?_
  refine r_aload_n dX11_pack_0 rfl ?_
  refine g_getR dX11_pack_1 f_X11_66 (Cla.sg (by assumption)) rfl (Cla.f9 (by assumption)) ?_
  refine r_iload_n dX11_pack_4 rfl ?_
  refine r_V1 dX11_pack_5 l_X11_128 k_X1_isGood i_X1_isGood (Fam.sg (by assumption)) ⟨_, rfl⟩ (Nat.le_of_ble_eq_true rfl) (v_X1_isGood X _ (by first | assumption | omega)) (List.prefix_refl S) ?_
  refine r_ifB_ne (tgt := 13) dX11_pack_8 (by decide) (fun c8 => ?_) (fun c8 => absurd (isP_n hg (by omega)) (by rw [c8]; decide))
  refine r_aload_n dX11_pack_13 rfl ?_
  refine g_getR dX11_pack_14 f_X11_26 (Cla.sg (by assumption)) rfl (Cla.f2 (by assumption)) ?_
  refine r_iload_n dX11_pack_17 rfl ?_
  refine r_V1 dX11_pack_18 l_X11_134 k_X8_ownerOf i_X8_ownerOf (Sto.sg (Cla.now (by assumption))) ⟨_, rfl⟩ (Nat.le_of_ble_eq_true rfl) (v_X8_ownerOf X _ (by first | assumption | omega) (by first | assumption | omega)) (List.prefix_refl S) ?_
  refine r_istore_n (L' := [_, _, _, _, _, _]) dX11_pack_21 rfl rfl ?_
  refine r_aload_n dX11_pack_22 rfl ?_
  refine g_getR dX11_pack_23 f_X11_26 (Cla.sg (by assumption)) rfl (Cla.f2 (by assumption)) ?_
  refine r_iload_n dX11_pack_26 rfl ?_
  refine r_V1 dX11_pack_27 l_X11_122 k_X8_isHere i_X8_isHere (Sto.sg (Cla.now (by assumption))) ⟨_, rfl⟩ (Nat.le_of_ble_eq_true rfl) (v_X8_isHere_x X _ (by first | assumption | omega)) (List.prefix_refl S) ?_
  refine r_ifB_eq (tgt := 57) dX11_pack_30 (by decide) (fun c30 => ?_) (fun c30 => ?_)
  · have e : pk0 w s hb pb g = false := (by simp [pk0, c30])
    refine r_bipush dX11_pack_57 bp_m2 ?_
    exact g_iret dX11_pack_59 (by first | rw [if_neg (by rw [e]; decide)] | (rw [if_neg (by simp [pk0, c42])])) (by first | rw [if_neg (by rw [e]; decide)] | (rw [if_neg (by simp [pk0, c42])]))
  · obtain ⟨p, hp, ep, hbp⟩ := hs.own hg hN6 c30; have e1 : (s (19 + g)).toNatClampNeg = p := (by rw [ep, nI_clamp (by omega)]); rw [e1, ep]; have ho := ownB_256 s (nI p) hG8; have hld : ownB s G (nI p) &&& pb < 256 := Nat.lt_of_le_of_lt Nat.and_le_left ho
    refine r_aload_n dX11_pack_33 rfl ?_
    refine g_getR dX11_pack_34 f_X11_26 (Cla.sg (by assumption)) rfl (Cla.f2 (by assumption)) ?_
    refine r_iload_n dX11_pack_37 rfl ?_
    refine r_V1 dX11_pack_38 l_X11_143 k_X8_isPacked i_X8_isPacked (Sto.sg (Cla.now (by assumption))) ⟨_, rfl⟩ (Nat.le_of_ble_eq_true rfl) (v_X8_isPacked X _ (by first | assumption | omega) (by first | assumption | omega)) (List.prefix_refl S) ?_
    refine r_iload_n dX11_pack_41 rfl ?_
    refine r_icmp_eq (tgt := 57) dX11_pack_42 (by decide) (fun c42 => ?_) (fun c42 => ?_)
    · have c42 : pb.testBit g = false := bI_n0.mp c42
      refine r_bipush dX11_pack_57 bp_m2 ?_
      exact g_iret dX11_pack_59 (by first | rw [if_neg (by rw [e]; decide)] | (rw [if_neg (by simp [pk0, c42])])) (by first | rw [if_neg (by rw [e]; decide)] | (rw [if_neg (by simp [pk0, c42])]))
    · have c42 : pb.testBit g = true := (by have q := c42; rw [bI_n0] at q; simpa using q)
      refine r_aload_n dX11_pack_45 rfl ?_
      refine g_getR dX11_pack_46 f_X11_66 (Cla.sg (by assumption)) rfl (Cla.f9 (by assumption)) ?_
      refine r_iload_n dX11_pack_49 rfl ?_
      refine r_V1 dX11_pack_50 l_X11_131 k_X1_sortOf i_X1_sortOf (Fam.sg (by assumption)) ⟨_, rfl⟩ (Nat.le_of_ble_eq_true rfl) (v_X1_sortOf X _ (by first | assumption | omega) (by first | assumption | omega)) (List.prefix_refl S) ?_
      refine r_iconst dX11_pack_53 ic_2 ?_
      refine r_icmp_ne (tgt := 60) dX11_pack_54 (by decide) (fun c54 => ?_) (fun c54 => ?_)
      · skip
        refine r_aload_n dX11_pack_60 rfl ?_
        refine g_getR dX11_pack_61 f_X11_66 (Cla.sg (by assumption)) rfl (Cla.f9 (by assumption)) ?_
        refine r_aload_n dX11_pack_64 rfl ?_
        refine g_getR dX11_pack_65 f_X11_26 (Cla.sg (by assumption)) rfl (Cla.f2 (by assumption)) ?_
        refine r_iload_n dX11_pack_68 rfl ?_
        refine r_V1 dX11_pack_69 l_X11_154 k_X8_owned i_X8_owned (Sto.sg (Cla.now (by assumption))) ⟨_, rfl⟩ (Nat.le_of_ble_eq_true rfl) (v_X8_owned X _ (by first | assumption | omega)) (List.prefix_refl S) ?_
        refine r_aload_n dX11_pack_72 rfl ?_
        refine g_getR dX11_pack_73 f_X11_26 (Cla.sg (by assumption)) rfl (Cla.f2 (by assumption)) ?_
        refine g_getI dX11_pack_76 f_X11_157 (Sto.sg (Cla.now (by assumption))) rfl hst.packed ?_
        refine r_iand dX11_pack_79 ?_
        refine g_top (nI_and _ _) ?_
        refine r_S2 dX11_pack_80 l_X11_160 k_X0_load s_X0_load (Nat.le_of_ble_eq_true rfl) (v_X0_load X _ (by first | assumption | omega) (by first | assumption | omega)) (List.prefix_refl S) ?_
        refine r_istore (L' := [_, _, _, _, _, _]) dX11_pack_83 rfl rfl ?_
        refine r_iload_n dX11_pack_85 rfl ?_
        refine n_if_eq (tgt := 103) dX11_pack_86 (by decide) (by omega) (fun c86 => ?_) (fun c86 => absurd rfl c86)
        refine r_iload dX11_pack_103 rfl ?_
        refine r_aload_n dX11_pack_105 rfl ?_
        refine g_getR dX11_pack_106 f_X11_66 (Cla.sg (by assumption)) rfl (Cla.f9 (by assumption)) ?_
        refine r_iload_n dX11_pack_109 rfl ?_
        refine r_V1 dX11_pack_110 l_X11_140 k_X1_heavyOf i_X1_heavyOf (Fam.sg (by assumption)) ⟨_, rfl⟩ (Nat.le_of_ble_eq_true rfl) (v_X1_heavyOf X _ (by first | assumption | omega) (by first | assumption | omega)) (List.prefix_refl S) ?_
        refine r_isub dX11_pack_113 ?_
        refine r_istore (L' := [_, _, _, _, _, _]) dX11_pack_114 rfl rfl ?_
        refine r_iload_n dX11_pack_116 rfl ?_
        refine n_if_eq (tgt := 136) dX11_pack_117 (by decide) (by omega) (fun c117 => ?_) (fun c117 => absurd rfl c117)
        have e : pk0 w s hb pb g = true := by unfold pk0; rw [c30, c42]; simp [c54]
        rw [if_pos e, if_pos e]
        refine r_aload_n dX11_pack_136 rfl ?_
        refine g_getR dX11_pack_137 f_X11_38 (Cla.sg (by assumption)) rfl (Cla.f4 (by assumption)) ?_
        refine r_aload_n dX11_pack_140 rfl ?_
        refine g_getR dX11_pack_141 f_X11_26 (Cla.sg (by assumption)) rfl (Cla.f2 (by assumption)) ?_
        refine r_V1 dX11_pack_144 l_X11_166 k_X5_put i_X5_put (Pio.sg (Cla.und (by assumption))) ⟨_, rfl⟩ (Nat.le_of_ble_eq_true rfl) (v_X5_put X _ hund hst hn hnx hh hu (by omega)) (List.prefix_refl S) ?_
        have hf1 : Fam S (puH I 16 8 nx u 6) R f w N G := hf.fr (fun o h1 h2 => puH_fr hnx (by omega))
        have hst1 : Std S (puH I 16 8 nx u 6) R 6 s N G hb pb := hst.fr (fun o h1 h2 => puH_fr hnx (by omega))
        refine r_aload_n dX11_pack_147 rfl ?_
        refine g_getR dX11_pack_148 f_X11_26 (Cla.sg (by assumption)) rfl (Cla.f2 (by assumption)) ?_
        refine r_iload_n dX11_pack_151 rfl ?_
        refine r_iload_n dX11_pack_152 rfl ?_
        rw [show nI 0 = bI false from rfl]
        refine r_V2 dX11_pack_153 l_X11_170 k_X8_setPacked i_X8_setPacked (Sto.sg (Cla.now (by assumption))) ⟨_, rfl⟩ (Nat.le_of_ble_eq_true rfl) (v_X8_setPacked X _ hst1 hg) (List.prefix_refl S) ?_
        refine r_iload dX11_pack_156 rfl ?_
        exact g_iret dX11_pack_158 rfl rfl
      · have e : pk0 w s hb pb g = false := (by simp [pk0, c54])
        refine r_bipush dX11_pack_57 bp_m2 ?_
        exact g_iret dX11_pack_59 (by first | rw [if_neg (by rw [e]; decide)] | (rw [if_neg (by simp [pk0, c42])])) (by first | rw [if_neg (by rw [e]; decide)] | (rw [if_neg (by simp [pk0, c42])]))

set_option maxHeartbeats 4000000 in
set_option maxRecDepth 100000 in
theorem v_X11_pack_f0 (X : mCx) (d : Nat) {S : mSh} {I : mI} {R : mR} {w : Nat → Int32} {N G f dr : Nat} {x : Int32} (hc : Cla S R f dr) (hf : Fam S I R f w N G) (hb1 : isP G x = false) : CC X (d + 2) M_X11_pack [.ref 1, .int x, .int (nI 0)] S (I, R) (some (.int (-1))) S (I, R) := by
  have hG8 := hf.G8
  refine CC.of2 (L := [.ref 1, .int x, .int (nI 0), .retAddr 0, .retAddr 0, .retAddr 0]) p_X11 (Nat.le_of_ble_eq_true rfl) rfl rfl (List.prefix_refl S) ?_
  refine r_aload_n dX11_pack_0 rfl ?_
  refine g_getR dX11_pack_1 f_X11_66 (Cla.sg (by assumption)) rfl (Cla.f9 (by assumption)) ?_
  refine r_iload_n dX11_pack_4 rfl ?_
  refine r_V1 dX11_pack_5 l_X11_128 k_X1_isGood i_X1_isGood (Fam.sg (by assumption)) ⟨_, rfl⟩ (Nat.le_of_ble_eq_true rfl) (v_X1_isGood X _ (by first | assumption | omega)) (List.prefix_refl S) ?_
  refine r_ifB_ne (tgt := 13) dX11_pack_8 (by decide) (fun c8 => absurd hb1 (by rw [c8]; decide)) (fun c8 => ?_)
  refine r_iconst dX11_pack_11 ic_m1 ?_
  exact g_iret dX11_pack_12 rfl rfl

