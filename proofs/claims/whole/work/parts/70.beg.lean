/-! ===== the class is made ===== -/
/-- the heap when n letters of the constant are written -/
def tI (I : mI) : Nat → mI
  | 0 => I
  | n + 1 => sJ (sJ (tI I n) 3 n (nI (tC n))) 2 1 (nI (n + 1))
theorem tI_o {I : mI} {o : Nat} (h2 : o ≠ 2) (h3 : o ≠ 3) : ∀ n, tI I n o = I o
  | 0 => rfl
  | n + 1 => by
    show sJ (sJ (tI I n) 3 n (nI (tC n))) 2 1 (nI (n + 1)) o = _
    rw [sJ_o h2, sJ_o h3]; exact tI_o h2 h3 n
theorem tI_n {I : mI} (h : I 2 1 = nI 0) : ∀ n, tI I n 2 1 = nI n
  | 0 => h
  | n + 1 => sJ_eq _ _ _ _
theorem tI_t {I : mI} {k : Nat} : ∀ n, k < n → tI I n 3 k = nI (tC k)
  | 0, h => absurd h (Nat.not_lt_zero _)
  | n + 1, h => by
    show sJ (sJ (tI I n) 3 n (nI (tC n))) 2 1 (nI (n + 1)) 3 k = _
    rw [sJ_o (by decide)]
    by_cases e : k = n
    · subst e; exact sJ_eq _ _ _ _
    · rw [sJ_ne (Or.inr e)]; exact tI_t n (by omega)
def tL0 : Nat := mTx.toList.length
theorem tL0_lt : tL0 < 200 := mTx_l
theorem t_TxP {I : mI} {R : mR} {S : mSh} (hz : Txt S R 2) (h : I 2 1 = nI 0) : TxP S (tI I tL0) R 2 tC tL0 := ⟨hz, tI_n h _, by have := tL0_lt; omega, fun k hk => ⟨tI_t _ hk, (tC_ok k hk).2.1⟩⟩
set_option maxHeartbeats 4000000 in
set_option maxRecDepth 100000 in
theorem v_X11_mk (X : mCx) (d : Nat) {h' : mHp} (K : JJ X M_X11_init (d + 6) 124 [.ref 1, .retAddr 0] [] (Sg.take 96) hZ11 none (Sg.take 96) h') : CC X (d + 6) M_X11_init [.ref 1] (Sg.take 1) hZ0 none (Sg.take 96) h' := by
  refine CC.of2 (L := [.ref 1, .retAddr 0]) p_X11 (Nat.le_of_ble_eq_true rfl) rfl trivial (t_p (by decide)) ?_
  refine r_aload_n dX11_init_0 rfl ?_
  refine r_objInit dX11_init_1 l_X11_1 oi_i oi_c (by decide) (Nat.le_of_ble_eq_true rfl) ?_
  refine r_aload_n dX11_init_4 rfl ?_
  refine n_new (k := 1) dX11_init_5 (by decide) rfl ⟨TX9, rfl, u_TX9⟩ cl_X11_7 in_6 it_6 (t_p (by decide)) ?_
  refine r_dup dX11_init_8 rfl ?_
  refine r_callIN [] dX11_init_9 n_X11_9 k_X9_init i_X9_init rfl rfl (by decide) rfl (Nat.le_of_ble_eq_true rfl) (v_X9_init X _ (k := 2) (by decide) (by decide) rfl rfl) (t_p (by decide)) ?_
  refine r_putF dX11_init_12 f_X11_10 (t_g (by decide) rfl) rfl rfl (fun C T z => (congrArg Prod.fst (Option.some.inj z)).symm) ?_
  refine r_aload_n dX11_init_15 rfl ?_
  refine n_new (k := 3) dX11_init_16 (by decide) rfl ⟨TX6, rfl, u_TX6⟩ cl_X11_16 in_4 it_4 (t_p (by decide)) ?_
  refine r_dup dX11_init_19 rfl ?_
  refine r_callIN [] dX11_init_20 n_X11_18 k_X6_init i_X6_init rfl rfl (by decide) rfl (Nat.le_of_ble_eq_true rfl) (v_X6_init X _ (k := 4) (by decide) (by decide) rfl rfl) (t_p (by decide)) ?_
  refine r_putF dX11_init_23 f_X11_19 (t_g (by decide) rfl) rfl rfl (fun C T z => (congrArg Prod.fst (Option.some.inj z)).symm) ?_
  refine r_aload_n dX11_init_26 rfl ?_
  refine n_new (k := 5) dX11_init_27 (by decide) rfl ⟨TX8, rfl, u_TX8⟩ cl_X11_23 in_5 it_5 (t_p (by decide)) ?_
  refine r_dup dX11_init_30 rfl ?_
  refine r_callIN [] dX11_init_31 n_X11_25 k_X8_init i_X8_init rfl rfl (by decide) rfl (Nat.le_of_ble_eq_true rfl) (v_X8_init X _ (k := 6) (by decide) (by decide) rfl rfl rfl rfl rfl) (t_p (by decide)) ?_
  refine r_putF dX11_init_34 f_X11_26 (t_g (by decide) rfl) rfl rfl (fun C T z => (congrArg Prod.fst (Option.some.inj z)).symm) ?_
  refine r_aload_n dX11_init_37 rfl ?_
  refine n_new (k := 10) dX11_init_38 (by decide) rfl ⟨TX8, rfl, u_TX8⟩ cl_X11_23 in_5 it_5 (t_p (by decide)) ?_
  refine r_dup dX11_init_41 rfl ?_
  refine r_callIN [] dX11_init_42 n_X11_25 k_X8_init i_X8_init rfl rfl (by decide) rfl (Nat.le_of_ble_eq_true rfl) (v_X8_init X _ (k := 11) (by decide) (by decide) rfl rfl rfl rfl rfl) (t_p (by decide)) ?_
  refine r_putF dX11_init_45 f_X11_30 (t_g (by decide) rfl) rfl rfl (fun C T z => (congrArg Prod.fst (Option.some.inj z)).symm) ?_
  refine r_aload_n dX11_init_48 rfl ?_
  refine n_new (k := 15) dX11_init_49 (by decide) rfl ⟨TX5, rfl, u_TX5⟩ cl_X11_33 in_3 it_3 (t_p (by decide)) ?_
  refine r_dup dX11_init_52 rfl ?_
  refine r_bipush dX11_init_53 bp_8 ?_
  refine r_callI [.int (nI 8)] dX11_init_55 l_X11_35 k_X5_init i_X5_init rfl rfl (by decide) rfl (Nat.le_of_ble_eq_true rfl) (v_X5_init X _ (k := 16) (n := 8) (by decide) (by decide) (by decide) (by decide) rfl rfl (by decide)) (t_p (by decide)) ?_
  refine r_putF dX11_init_58 f_X11_38 (t_g (by decide) rfl) rfl rfl (fun C T z => (congrArg Prod.fst (Option.some.inj z)).symm) ?_
  refine r_aload_n dX11_init_61 rfl ?_
  refine n_new (k := 57) dX11_init_62 (by decide) rfl ⟨TX5, rfl, u_TX5⟩ cl_X11_33 in_3 it_3 (t_p (by decide)) ?_
  refine r_dup dX11_init_65 rfl ?_
  refine r_iconst dX11_init_66 ic_2 ?_
  refine r_callI [.int (nI 2)] dX11_init_67 l_X11_35 k_X5_init i_X5_init rfl rfl (by decide) rfl (Nat.le_of_ble_eq_true rfl) (v_X5_init X _ (k := 58) (n := 2) (by decide) (by decide) (by decide) (by decide) rfl rfl (by decide)) (t_p (by decide)) ?_
  refine r_putF dX11_init_70 f_X11_42 (t_g (by decide) rfl) rfl rfl (fun C T z => (congrArg Prod.fst (Option.some.inj z)).symm) ?_
  refine r_aload_n dX11_init_73 rfl ?_
  refine n_new (k := 69) dX11_init_74 (by decide) rfl ⟨TX3, rfl, u_TX3⟩ cl_X11_45 in_1 it_1 (t_p (by decide)) ?_
  refine r_dup dX11_init_77 rfl ?_
  refine r_callIN [] dX11_init_78 n_X11_47 k_X3_init i_X3_init rfl rfl (by decide) rfl (Nat.le_of_ble_eq_true rfl) (v_X3_init X _ (k := 70) (by decide) (by decide) rfl rfl rfl) (t_p (by decide)) ?_
  refine r_putF dX11_init_81 f_X11_48 (t_g (by decide) rfl) rfl rfl (fun C T z => (congrArg Prod.fst (Option.some.inj z)).symm) ?_
  refine r_aload_n dX11_init_84 rfl ?_
  refine n_new (k := 72) dX11_init_85 (by decide) rfl ⟨TX4, rfl, u_TX4⟩ cl_X11_52 in_2 it_2 (t_p (by decide)) ?_
  refine r_dup dX11_init_88 rfl ?_
  refine r_callIN [] dX11_init_89 n_X11_54 k_X4_init i_X4_init rfl rfl (by decide) rfl (Nat.le_of_ble_eq_true rfl) (v_X4_init X _ (k := 73) (by decide) (by decide) rfl rfl rfl) (t_p (by decide)) ?_
  refine r_putF dX11_init_92 f_X11_55 (t_g (by decide) rfl) rfl rfl (fun C T z => (congrArg Prod.fst (Option.some.inj z)).symm) ?_
  refine r_aload_n dX11_init_95 rfl ?_
  refine r_iconst dX11_init_96 ic_5 ?_
  refine n_newa_i (k := 75) (n := 5) dX11_init_97 (by decide) rfl (by decide) (by decide) (by decide) (t_p (by decide)) ?_
  refine r_putF dX11_init_99 f_X11_59 (t_g (by decide) rfl) rfl rfl (fun C T z => (congrArg Prod.fst (Option.some.inj z)).symm) ?_
  refine r_aload_n dX11_init_102 rfl ?_
  refine n_new (k := 76) dX11_init_103 (by decide) rfl ⟨TX1, rfl, u_TX1⟩ cl_X11_63 in_0 it_0 (t_p (by decide)) ?_
  refine r_dup dX11_init_106 rfl ?_
  refine r_callIN [] dX11_init_107 n_X11_65 k_X1_init i_X1_init rfl rfl (by decide) rfl (Nat.le_of_ble_eq_true rfl) (v_X1_init X _ (k := 77) (by decide) (by decide) rfl rfl rfl rfl rfl rfl rfl rfl rfl rfl) (t_p (by decide)) ?_
  refine r_putR dX11_init_110 f_X11_66 (t_g (by decide) rfl) rfl ?_
  refine r_aload_n dX11_init_113 rfl ?_
  refine n_new (k := 86) dX11_init_114 (by decide) rfl ⟨TX1, rfl, u_TX1⟩ cl_X11_63 in_0 it_0 (t_p (by decide)) ?_
  refine r_dup dX11_init_117 rfl ?_
  refine r_callIN [] dX11_init_118 n_X11_65 k_X1_init i_X1_init rfl rfl (by decide) rfl (Nat.le_of_ble_eq_true rfl) (v_X1_init X _ (k := 87) (by decide) (by decide) rfl rfl rfl rfl rfl rfl rfl rfl rfl rfl) (t_p (by decide)) ?_
  refine r_putR dX11_init_121 f_X11_70 (t_g (by decide) rfl) rfl ?_
  exact K
set_option maxHeartbeats 4000000 in
set_option maxRecDepth 100000 in
theorem v_X11_tx (X : mCx) (d : Nat) {S : mSh} {I : mI} {R : mR} {h' : mHp} (hc : Cla S R 77 87) (h0 : I 2 1 = nI 0) (K : JJ X M_X11_init (d + 6) 155 [.ref 1, .int (nI tL0)] [] S (tI I tL0, R) none S h') : JJ X M_X11_init (d + 6) 124 [.ref 1, .retAddr 0] [] S (I, R) none S h' := by
  have hl := tL0_lt
  refine r_iconst dX11_init_124 ic_0 ?_
  refine r_istore_n (L' := [_, _]) dX11_init_125 rfl rfl ?_
  refine JJ.loop tL0 (fun k => [.ref 1, .int (nI k)]) (fun k => (tI I k, R)) (fun _ => True) rfl rfl trivial (fun _ => ?_) (fun k hk _ K2 => ?_)
  · refine r_iload_n dX11_init_126 rfl ?_
    refine r_ldcS dX11_init_127 rfl ?_
    refine r_VF0 dX11_init_129 l_X11_75 k_J0_length_8abf5 i_J0_length_8abf5 rfl (Nat.le_of_ble_eq_true rfl) (v_length X _) (List.prefix_refl S) ?_
    refine n_icmp_ge (tgt := 155) dX11_init_132 (by decide) (by omega) (by show tL0 < 2 ^ 31; omega) (fun _ => K) (fun c => absurd c (Nat.lt_irrefl _))
  · refine r_iload_n dX11_init_126 rfl ?_
    refine r_ldcS dX11_init_127 rfl ?_
    refine r_VF0 dX11_init_129 l_X11_75 k_J0_length_8abf5 i_J0_length_8abf5 rfl (Nat.le_of_ble_eq_true rfl) (v_length X _) (List.prefix_refl S) ?_
    refine n_icmp_ge (tgt := 155) dX11_init_132 (by decide) (by omega) (by show tL0 < 2 ^ 31; omega) (fun c => absurd hk (Nat.not_lt.mpr c)) (fun _ => ?_)
    refine r_aload_n dX11_init_135 rfl ?_
    refine g_getR dX11_init_136 f_X11_10 hc.sg rfl hc.f0 ?_
    refine r_ldcS dX11_init_139 rfl ?_
    refine r_iload_n dX11_init_141 rfl ?_
    refine r_VF1 dX11_init_142 l_X11_81 k_J0_charAt_5068e i_J0_charAt_5068e rfl (Nat.le_of_ble_eq_true rfl) (v_charAt X _ hk) (List.prefix_refl S) ?_
    refine r_V1 dX11_init_145 l_X11_85 k_X9_add i_X9_add (Txt.sg hc.txt) ⟨_, rfl⟩ (Nat.le_of_ble_eq_true rfl) (v_X9_add X _ hc.txt (tI_n h0 k) (tC_ok k hk).2.1 (by omega)) (List.prefix_refl S) ?_
    refine r_pop dX11_init_148 rfl ?_
    refine r_iinc (L' := [_, _]) dX11_init_149 rfl rfl (nI_inc _) rfl ?_
    refine r_goto (tgt := 126) dX11_init_152 (by decide) ?_
    exact K2 trivial
set_option maxHeartbeats 4000000 in
set_option maxRecDepth 100000 in
theorem v_X11_end (X : mCx) (d : Nat) {S : mSh} {I I1 : mI} {R : mR} {x v : Int32} {w : Nat → Int32} {N G : Nat} (hc : Cla S R 77 87) (hf : Fam S I1 R 77 w N G) (hC : ∀ d, CC X (d + 4) M_X6_firstFault [.ref 4, .ref 2, .ref 77] S (I, R) (some (.int x)) S (I1, R)) : JJ X M_X11_init (d + 6) 155 [.ref 1, .int v] [] S (I, R) none S (sJ (bgH I1 6 77 w N G) 2 1 (nI 0), R) := by
  refine r_aload_n dX11_init_155 rfl ?_
  refine g_getR dX11_init_156 f_X11_19 hc.sg rfl hc.f1 ?_
  refine r_aload_n dX11_init_159 rfl ?_
  refine g_getR dX11_init_160 f_X11_10 hc.sg rfl hc.f0 ?_
  refine r_aload_n dX11_init_163 rfl ?_
  refine g_getR dX11_init_164 f_X11_66 hc.sg rfl hc.f9 ?_
  refine r_V2 dX11_init_167 l_X11_89 k_X6_firstFault i_X6_firstFault (Rea.sg hc.rea) ⟨_, rfl⟩ (Nat.le_of_ble_eq_true rfl) (hC (d + 1)) (List.prefix_refl S) ?_
  refine r_pop dX11_init_170 rfl ?_
  refine r_aload_n dX11_init_171 rfl ?_
  refine g_getR dX11_init_172 f_X11_26 hc.sg rfl hc.f2 ?_
  refine r_aload_n dX11_init_175 rfl ?_
  refine g_getR dX11_init_176 f_X11_66 hc.sg rfl hc.f9 ?_
  refine r_V1 dX11_init_179 l_X11_93 k_X8_begin i_X8_begin (Sto.sg hc.now) ⟨_, rfl⟩ (Nat.le_of_ble_eq_true rfl) (v_X8_begin X _ hf hc.now (by decide)) (List.prefix_refl S) ?_
  refine r_aload_n dX11_init_182 rfl ?_
  refine g_getR dX11_init_183 f_X11_10 hc.sg rfl hc.f0 ?_
  refine r_V0 dX11_init_186 l_X11_97 k_X9_empty i_X9_empty (Txt.sg hc.txt) ⟨_, rfl⟩ (Nat.le_of_ble_eq_true rfl) (v_X9_empty X _ hc.txt) (List.prefix_refl S) ?_
  exact g_vret dX11_init_189 rfl rfl
