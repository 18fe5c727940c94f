/-! ===== the reference is made ===== -/
def hM (h : mHp) : mHp := sR (sN (sR (sN (sR (sN (sR (sN (sR (sN (sR (sN (sR (sN (sR (sN (sR (sN (sR (sN (sR (sN h 98) 97 0 98) 99) 97 1 99) 100) 97 5 100) 101) 97 6 101) 102) 97 7 102) 103) 97 10 103) 104) 97 11 104) 105) 97 12 105) 106) 97 13 106) 107) 97 14 107) 108) 97 15 108
theorem hM_lo {h : mHp} {o : Nat} (ho : o < 97) : (hM h).1 o = h.1 o ∧ (hM h).2 o = h.2 o := by
  unfold hM sR sN
  dsimp only
  constructor <;> funext j
  · repeat rw [if_neg (by omega)]
  · repeat rw [if_neg (by omega)]
set_option maxRecDepth 100000 in
theorem hM_mod (h : mHp) : Mod (Sg.take 108) (hM h).2 := by
  refine ⟨?_, ?_, ?_, ?_, ?_, ?_, ?_, ?_, ?_, ?_, ?_, ?_, ?_, ?_, ?_, ?_, ?_, ?_, ?_, ?_, ?_, ?_, ?_⟩ <;> rfl
theorem hM_97 {h : mHp} {b : Nat} (h0 : h.1 97 b = 0) : (hM h).1 97 b = 0 := by
  unfold hM sR sN
  dsimp only
  repeat rw [if_neg (by omega)]
  exact h0
set_option maxHeartbeats 4000000 in
set_option maxRecDepth 100000 in
theorem v_X12_mk (X : mCx) (d : Nat) {h h' : mHp} (K : JJ X M_X12_init (d + 4) 91 [.ref 97] [] (Sg.take 108) (hM h) none (Sg.take 108) h') : CC X (d + 4) M_X12_init [.ref 97] (Sg.take 97) h none (Sg.take 108) h' := by
  refine CC.of2 (L := [.ref 97]) p_X12 (Nat.le_of_ble_eq_true rfl) rfl trivial (t_p (by decide)) ?_
  refine r_aload_n dX12_init_0 rfl ?_
  refine r_objInit dX12_init_1 l_X12_1 oi_i oi_c (by decide) (Nat.le_of_ble_eq_true rfl) ?_
  refine r_aload_n dX12_init_4 rfl ?_
  refine r_sipush dX12_init_5 sp_178 ?_
  refine n_newa_i (k := 97) (n := 178) dX12_init_8 (by decide) rfl (by decide) (by decide) (by decide) (t_p (by decide)) ?_
  refine r_putF dX12_init_10 f_X12_7 (t_g (by decide) rfl) rfl rfl (fun C T z => (congrArg Prod.fst (Option.some.inj z)).symm) ?_
  refine r_aload_n dX12_init_13 rfl ?_
  refine r_sipush dX12_init_14 sp_420 ?_
  refine n_newa_i (k := 98) (n := 420) dX12_init_17 (by decide) rfl (by decide) (by decide) (by decide) (t_p (by decide)) ?_
  refine r_putF dX12_init_19 f_X12_13 (t_g (by decide) rfl) rfl rfl (fun C T z => (congrArg Prod.fst (Option.some.inj z)).symm) ?_
  refine r_aload_n dX12_init_22 rfl ?_
  refine r_bipush dX12_init_23 bp_6 ?_
  refine n_newa_i (k := 99) (n := 6) dX12_init_25 (by decide) rfl (by decide) (by decide) (by decide) (t_p (by decide)) ?_
  refine r_putF dX12_init_27 f_X12_16 (t_g (by decide) rfl) rfl rfl (fun C T z => (congrArg Prod.fst (Option.some.inj z)).symm) ?_
  refine r_aload_n dX12_init_30 rfl ?_
  refine r_bipush dX12_init_31 bp_6 ?_
  refine n_newa_i (k := 100) (n := 6) dX12_init_33 (by decide) rfl (by decide) (by decide) (by decide) (t_p (by decide)) ?_
  refine r_putF dX12_init_35 f_X12_19 (t_g (by decide) rfl) rfl rfl (fun C T z => (congrArg Prod.fst (Option.some.inj z)).symm) ?_
  refine r_aload_n dX12_init_38 rfl ?_
  refine r_sipush dX12_init_39 sp_200 ?_
  refine n_newa_i (k := 101) (n := 200) dX12_init_42 (by decide) rfl (by decide) (by decide) (by decide) (t_p (by decide)) ?_
  refine r_putF dX12_init_44 f_X12_22 (t_g (by decide) rfl) rfl rfl (fun C T z => (congrArg Prod.fst (Option.some.inj z)).symm) ?_
  refine r_aload_n dX12_init_47 rfl ?_
  refine r_iconst dX12_init_48 ic_4 ?_
  refine n_newa_i (k := 102) (n := 4) dX12_init_49 (by decide) rfl (by decide) (by decide) (by decide) (t_p (by decide)) ?_
  refine r_putF dX12_init_51 f_X12_25 (t_g (by decide) rfl) rfl rfl (fun C T z => (congrArg Prod.fst (Option.some.inj z)).symm) ?_
  refine r_aload_n dX12_init_54 rfl ?_
  refine r_bipush dX12_init_55 bp_64 ?_
  refine n_newa_i (k := 103) (n := 64) dX12_init_57 (by decide) rfl (by decide) (by decide) (by decide) (t_p (by decide)) ?_
  refine r_putF dX12_init_59 f_X12_28 (t_g (by decide) rfl) rfl rfl (fun C T z => (congrArg Prod.fst (Option.some.inj z)).symm) ?_
  refine r_aload_n dX12_init_62 rfl ?_
  refine r_bipush dX12_init_63 bp_64 ?_
  refine n_newa_i (k := 104) (n := 64) dX12_init_65 (by decide) rfl (by decide) (by decide) (by decide) (t_p (by decide)) ?_
  refine r_putF dX12_init_67 f_X12_31 (t_g (by decide) rfl) rfl rfl (fun C T z => (congrArg Prod.fst (Option.some.inj z)).symm) ?_
  refine r_aload_n dX12_init_70 rfl ?_
  refine r_iconst dX12_init_71 ic_5 ?_
  refine n_newa_i (k := 105) (n := 5) dX12_init_72 (by decide) rfl (by decide) (by decide) (by decide) (t_p (by decide)) ?_
  refine r_putF dX12_init_74 f_X12_34 (t_g (by decide) rfl) rfl rfl (fun C T z => (congrArg Prod.fst (Option.some.inj z)).symm) ?_
  refine r_aload_n dX12_init_77 rfl ?_
  refine r_iconst dX12_init_78 ic_5 ?_
  refine n_newa_i (k := 106) (n := 5) dX12_init_79 (by decide) rfl (by decide) (by decide) (by decide) (t_p (by decide)) ?_
  refine r_putF dX12_init_81 f_X12_37 (t_g (by decide) rfl) rfl rfl (fun C T z => (congrArg Prod.fst (Option.some.inj z)).symm) ?_
  refine r_aload_n dX12_init_84 rfl ?_
  refine r_iconst dX12_init_85 ic_5 ?_
  refine n_newa_i (k := 107) (n := 5) dX12_init_86 (by decide) rfl (by decide) (by decide) (by decide) (t_p (by decide)) ?_
  refine r_putF dX12_init_88 f_X12_40 (t_g (by decide) rfl) rfl rfl (fun C T z => (congrArg Prod.fst (Option.some.inj z)).symm) ?_
  exact K
set_option maxHeartbeats 4000000 in
set_option maxRecDepth 100000 in
theorem v_X12_end (X : mCx) (d : Nat) {S : mSh} {I : mI} {R : mR} (hm : Mod S R) : JJ X M_X12_init (d + 4) 91 [.ref 97] [] S (I, R) none S (coI (xW I wS18) wS18 5 6, R) := by
  refine r_aload_n dX12_init_91 rfl ?_
  refine r_V0 dX12_init_92 l_X12_43 k_X12_begins i_X12_begins (Mod.sg hm) ⟨_, rfl⟩ (Nat.le_of_ble_eq_true rfl) (v_X12_begins X _ hm) (List.prefix_refl _) ?_
  rw [show bgW = wS0 from rfl]
  refine r_aload_n dX12_init_95 rfl ?_
  refine r_iconst dX12_init_96 ic_0 ?_
  refine r_bipush dX12_init_97 bp_60 ?_
  refine r_bipush dX12_init_99 bp_9 ?_
  refine r_V3 dX12_init_101 l_X12_46 k_X12_persons i_X12_persons (Mod.sg hm) ⟨_, rfl⟩ (Nat.le_of_ble_eq_true rfl) (v_X12_persons_t X _ hm (MoX.mk I wS0) (N := 0) (G := 0) (by decide +kernel) (by decide +kernel) (by decide) (by decide) (by decide) (by decide) (by decide) (by decide)) (List.prefix_refl _) ?_
  rw [xW_2]
  refine JJ.to (h1 := (xW I wS1, R)) ?_ rfl rfl rfl
  refine r_pop dX12_init_104 rfl ?_
  refine r_aload_n dX12_init_105 rfl ?_
  refine r_iconst dX12_init_106 ic_1 ?_
  refine r_bipush dX12_init_107 bp_30 ?_
  refine r_iconst dX12_init_109 ic_4 ?_
  refine r_V3 dX12_init_110 l_X12_46 k_X12_persons i_X12_persons (Mod.sg hm) ⟨_, rfl⟩ (Nat.le_of_ble_eq_true rfl) (v_X12_persons_t X _ hm (MoX.mk I wS1) (N := 1) (G := 0) (by decide +kernel) (by decide +kernel) (by decide) (by decide) (by decide) (by decide) (by decide) (by decide)) (List.prefix_refl _) ?_
  rw [xW_2]
  refine JJ.to (h1 := (xW I wS2, R)) ?_ rfl rfl rfl
  refine r_pop dX12_init_113 rfl ?_
  refine r_aload_n dX12_init_114 rfl ?_
  refine r_iconst dX12_init_115 ic_3 ?_
  refine r_bipush dX12_init_116 bp_20 ?_
  refine r_iconst dX12_init_118 ic_2 ?_
  refine r_V3 dX12_init_119 l_X12_46 k_X12_persons i_X12_persons (Mod.sg hm) ⟨_, rfl⟩ (Nat.le_of_ble_eq_true rfl) (v_X12_persons_t X _ hm (MoX.mk I wS2) (N := 2) (G := 0) (by decide +kernel) (by decide +kernel) (by decide) (by decide) (by decide) (by decide) (by decide) (by decide)) (List.prefix_refl _) ?_
  rw [xW_2]
  refine JJ.to (h1 := (xW I wS3, R)) ?_ rfl rfl rfl
  refine r_pop dX12_init_122 rfl ?_
  refine r_aload_n dX12_init_123 rfl ?_
  refine r_iconst dX12_init_124 ic_4 ?_
  refine r_iconst dX12_init_125 ic_5 ?_
  refine r_iconst dX12_init_126 ic_3 ?_
  refine r_V3 dX12_init_127 l_X12_46 k_X12_persons i_X12_persons (Mod.sg hm) ⟨_, rfl⟩ (Nat.le_of_ble_eq_true rfl) (v_X12_persons_t X _ hm (MoX.mk I wS3) (N := 3) (G := 0) (by decide +kernel) (by decide +kernel) (by decide) (by decide) (by decide) (by decide) (by decide) (by decide)) (List.prefix_refl _) ?_
  rw [xW_2]
  refine JJ.to (h1 := (xW I wS4, R)) ?_ rfl rfl rfl
  refine r_pop dX12_init_130 rfl ?_
  refine r_aload_n dX12_init_131 rfl ?_
  refine r_iconst dX12_init_132 ic_2 ?_
  refine r_bipush dX12_init_133 bp_40 ?_
  refine r_bipush dX12_init_135 bp_6 ?_
  refine r_V3 dX12_init_137 l_X12_46 k_X12_persons i_X12_persons (Mod.sg hm) ⟨_, rfl⟩ (Nat.le_of_ble_eq_true rfl) (v_X12_persons_t X _ hm (MoX.mk I wS4) (N := 4) (G := 0) (by decide +kernel) (by decide +kernel) (by decide) (by decide) (by decide) (by decide) (by decide) (by decide)) (List.prefix_refl _) ?_
  rw [xW_2]
  refine JJ.to (h1 := (xW I wS5, R)) ?_ rfl rfl rfl
  refine r_pop dX12_init_140 rfl ?_
  refine r_aload_n dX12_init_141 rfl ?_
  refine r_iconst dX12_init_142 ic_0 ?_
  refine r_iconst dX12_init_143 ic_0 ?_
  refine r_bipush dX12_init_144 bp_20 ?_
  refine r_bipush dX12_init_146 bp_8 ?_
  refine r_V4 dX12_init_148 l_X12_50 k_X12_goods i_X12_goods (Mod.sg hm) ⟨_, rfl⟩ (Nat.le_of_ble_eq_true rfl) (v_X12_goods_t X _ hm (MoX.mk I wS5) (N := 5) (G := 0) (by decide +kernel) (by decide +kernel) (by decide) (by decide) (by decide) (by decide) (by decide) (by decide) (by decide)) (List.prefix_refl _) ?_
  rw [xW_2]
  refine JJ.to (h1 := (xW I wS6, R)) ?_ rfl rfl rfl
  refine r_pop dX12_init_151 rfl ?_
  refine r_aload_n dX12_init_152 rfl ?_
  refine r_iconst dX12_init_153 ic_1 ?_
  refine r_iconst dX12_init_154 ic_0 ?_
  refine r_bipush dX12_init_155 bp_9 ?_
  refine r_iconst dX12_init_157 ic_0 ?_
  refine r_V4 dX12_init_158 l_X12_50 k_X12_goods i_X12_goods (Mod.sg hm) ⟨_, rfl⟩ (Nat.le_of_ble_eq_true rfl) (v_X12_goods_t X _ hm (MoX.mk I wS6) (N := 5) (G := 1) (by decide +kernel) (by decide +kernel) (by decide) (by decide) (by decide) (by decide) (by decide) (by decide) (by decide)) (List.prefix_refl _) ?_
  rw [xW_2]
  refine JJ.to (h1 := (xW I wS7, R)) ?_ rfl rfl rfl
  refine r_pop dX12_init_161 rfl ?_
  refine r_aload_n dX12_init_162 rfl ?_
  refine r_iconst dX12_init_163 ic_2 ?_
  refine r_iconst dX12_init_164 ic_2 ?_
  refine r_bipush dX12_init_165 bp_12 ?_
  refine r_iconst dX12_init_167 ic_0 ?_
  refine r_V4 dX12_init_168 l_X12_50 k_X12_goods i_X12_goods (Mod.sg hm) ⟨_, rfl⟩ (Nat.le_of_ble_eq_true rfl) (v_X12_goods_t X _ hm (MoX.mk I wS7) (N := 5) (G := 2) (by decide +kernel) (by decide +kernel) (by decide) (by decide) (by decide) (by decide) (by decide) (by decide) (by decide)) (List.prefix_refl _) ?_
  rw [xW_2]
  refine JJ.to (h1 := (xW I wS8, R)) ?_ rfl rfl rfl
  refine r_pop dX12_init_171 rfl ?_
  refine r_aload_n dX12_init_172 rfl ?_
  refine r_iconst dX12_init_173 ic_0 ?_
  refine r_iconst dX12_init_174 ic_1 ?_
  refine r_bipush dX12_init_175 bp_7 ?_
  refine r_iconst dX12_init_177 ic_3 ?_
  refine r_V4 dX12_init_178 l_X12_50 k_X12_goods i_X12_goods (Mod.sg hm) ⟨_, rfl⟩ (Nat.le_of_ble_eq_true rfl) (v_X12_goods_t X _ hm (MoX.mk I wS8) (N := 5) (G := 3) (by decide +kernel) (by decide +kernel) (by decide) (by decide) (by decide) (by decide) (by decide) (by decide) (by decide)) (List.prefix_refl _) ?_
  rw [xW_2]
  refine JJ.to (h1 := (xW I wS9, R)) ?_ rfl rfl rfl
  refine r_pop dX12_init_181 rfl ?_
  refine r_aload_n dX12_init_182 rfl ?_
  refine r_iconst dX12_init_183 ic_3 ?_
  refine r_iconst dX12_init_184 ic_3 ?_
  refine r_bipush dX12_init_185 bp_40 ?_
  refine r_bipush dX12_init_187 bp_20 ?_
  refine r_V4 dX12_init_189 l_X12_50 k_X12_goods i_X12_goods (Mod.sg hm) ⟨_, rfl⟩ (Nat.le_of_ble_eq_true rfl) (v_X12_goods_t X _ hm (MoX.mk I wS9) (N := 5) (G := 4) (by decide +kernel) (by decide +kernel) (by decide) (by decide) (by decide) (by decide) (by decide) (by decide) (by decide)) (List.prefix_refl _) ?_
  rw [xW_2]
  refine JJ.to (h1 := (xW I wS10, R)) ?_ rfl rfl rfl
  refine r_pop dX12_init_192 rfl ?_
  refine r_aload_n dX12_init_193 rfl ?_
  refine r_iconst dX12_init_194 ic_0 ?_
  refine r_iconst dX12_init_195 ic_4 ?_
  refine r_bipush dX12_init_196 bp_15 ?_
  refine r_iconst dX12_init_198 ic_5 ?_
  refine r_V4 dX12_init_199 l_X12_50 k_X12_goods i_X12_goods (Mod.sg hm) ⟨_, rfl⟩ (Nat.le_of_ble_eq_true rfl) (v_X12_goods_t X _ hm (MoX.mk I wS10) (N := 5) (G := 5) (by decide +kernel) (by decide +kernel) (by decide) (by decide) (by decide) (by decide) (by decide) (by decide) (by decide)) (List.prefix_refl _) ?_
  rw [xW_2]
  refine JJ.to (h1 := (xW I wS11, R)) ?_ rfl rfl rfl
  refine r_pop dX12_init_202 rfl ?_
  refine r_aload_n dX12_init_203 rfl ?_
  refine r_iconst dX12_init_204 ic_0 ?_
  refine r_iconst dX12_init_205 ic_1 ?_
  refine r_bipush dX12_init_206 bp_8 ?_
  refine r_V3 dX12_init_208 l_X12_54 k_X12_loves i_X12_loves (Mod.sg hm) ⟨_, rfl⟩ (Nat.le_of_ble_eq_true rfl) (v_X12_loves_t X _ hm (MoX.mk I wS11) (N := 5) (G := 6) (by decide +kernel) (by decide +kernel) (by decide) (by decide) (by decide) (by decide) (by decide) (by decide)) (List.prefix_refl _) ?_
  rw [xW_2]
  refine JJ.to (h1 := (xW I wS12, R)) ?_ rfl rfl rfl
  refine r_pop dX12_init_211 rfl ?_
  refine r_aload_n dX12_init_212 rfl ?_
  refine r_iconst dX12_init_213 ic_1 ?_
  refine r_iconst dX12_init_214 ic_0 ?_
  refine r_bipush dX12_init_215 bp_6 ?_
  refine r_V3 dX12_init_217 l_X12_54 k_X12_loves i_X12_loves (Mod.sg hm) ⟨_, rfl⟩ (Nat.le_of_ble_eq_true rfl) (v_X12_loves_t X _ hm (MoX.mk I wS12) (N := 5) (G := 6) (by decide +kernel) (by decide +kernel) (by decide) (by decide) (by decide) (by decide) (by decide) (by decide)) (List.prefix_refl _) ?_
  rw [xW_2]
  refine JJ.to (h1 := (xW I wS13, R)) ?_ rfl rfl rfl
  refine r_pop dX12_init_220 rfl ?_
  refine r_aload_n dX12_init_221 rfl ?_
  refine r_iconst dX12_init_222 ic_2 ?_
  refine r_iconst dX12_init_223 ic_3 ?_
  refine r_bipush dX12_init_224 bp_10 ?_
  refine r_V3 dX12_init_226 l_X12_54 k_X12_loves i_X12_loves (Mod.sg hm) ⟨_, rfl⟩ (Nat.le_of_ble_eq_true rfl) (v_X12_loves_t X _ hm (MoX.mk I wS13) (N := 5) (G := 6) (by decide +kernel) (by decide +kernel) (by decide) (by decide) (by decide) (by decide) (by decide) (by decide)) (List.prefix_refl _) ?_
  rw [xW_2]
  refine JJ.to (h1 := (xW I wS14, R)) ?_ rfl rfl rfl
  refine r_pop dX12_init_229 rfl ?_
  refine r_aload_n dX12_init_230 rfl ?_
  refine r_iconst dX12_init_231 ic_3 ?_
  refine r_iconst dX12_init_232 ic_2 ?_
  refine r_bipush dX12_init_233 bp_9 ?_
  refine r_V3 dX12_init_235 l_X12_54 k_X12_loves i_X12_loves (Mod.sg hm) ⟨_, rfl⟩ (Nat.le_of_ble_eq_true rfl) (v_X12_loves_t X _ hm (MoX.mk I wS14) (N := 5) (G := 6) (by decide +kernel) (by decide +kernel) (by decide) (by decide) (by decide) (by decide) (by decide) (by decide)) (List.prefix_refl _) ?_
  rw [xW_2]
  refine JJ.to (h1 := (xW I wS15, R)) ?_ rfl rfl rfl
  refine r_pop dX12_init_238 rfl ?_
  refine r_aload_n dX12_init_239 rfl ?_
  refine r_iconst dX12_init_240 ic_4 ?_
  refine r_iconst dX12_init_241 ic_0 ?_
  refine r_iconst dX12_init_242 ic_5 ?_
  refine r_V3 dX12_init_243 l_X12_54 k_X12_loves i_X12_loves (Mod.sg hm) ⟨_, rfl⟩ (Nat.le_of_ble_eq_true rfl) (v_X12_loves_t X _ hm (MoX.mk I wS15) (N := 5) (G := 6) (by decide +kernel) (by decide +kernel) (by decide) (by decide) (by decide) (by decide) (by decide) (by decide)) (List.prefix_refl _) ?_
  rw [xW_2]
  refine JJ.to (h1 := (xW I wS16, R)) ?_ rfl rfl rfl
  refine r_pop dX12_init_246 rfl ?_
  refine r_aload_n dX12_init_247 rfl ?_
  refine r_iconst dX12_init_248 ic_0 ?_
  refine r_iconst dX12_init_249 ic_4 ?_
  refine r_iconst dX12_init_250 ic_5 ?_
  refine r_V3 dX12_init_251 l_X12_54 k_X12_loves i_X12_loves (Mod.sg hm) ⟨_, rfl⟩ (Nat.le_of_ble_eq_true rfl) (v_X12_loves_t X _ hm (MoX.mk I wS16) (N := 5) (G := 6) (by decide +kernel) (by decide +kernel) (by decide) (by decide) (by decide) (by decide) (by decide) (by decide)) (List.prefix_refl _) ?_
  rw [xW_2]
  refine JJ.to (h1 := (xW I wS17, R)) ?_ rfl rfl rfl
  refine r_pop dX12_init_254 rfl ?_
  refine r_aload_n dX12_init_255 rfl ?_
  refine g_getR dX12_init_256 f_X12_7 hm.sg rfl hm.r98 ?_
  refine r_bipush dX12_init_259 bp_91 ?_
  refine r_bipush dX12_init_261 bp_8 ?_
  refine g_iast dX12_init_263 hm.s98 rfl (by decide) (by decide) ?_
  rw [xW_j (k := 2) (by decide) (by decide)]
  refine JJ.to (h1 := (xW I wS18, R)) ?_ rfl rfl rfl
  refine r_aload_n dX12_init_264 rfl ?_
  refine r_V0 dX12_init_265 l_X12_57 k_X12_comes i_X12_comes (Mod.sg hm) ⟨_, rfl⟩ (Nat.le_of_ble_eq_true rfl) (v_X12_comes X _ hm (MoX.mk I wS18) (N := 5) (G := 6) (by decide +kernel) (by decide +kernel) (by decide) (by decide)) (List.prefix_refl _) ?_
  exact g_vret dX12_init_268 rfl rfl
