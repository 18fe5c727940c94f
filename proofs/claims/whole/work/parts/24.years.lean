/-! ===== the class: turns, years ===== -/
theorem v_X10_play4 (X : mCx) (d : Nat) {S : mSh} {I : mI} {R : mR} {w s : Nat → Int32} {N G hb f a q n m o pb : Nat} (hw : wOk w N G) (hq : mSg S q = some (20, 5)) (hs1 : q < a ∨ a + 4 < q) (hs2 : q < f ∨ f + 9 < q) (hs3 : a + 4 < f ∨ f + 9 < a) (hn : n ≤ 4) (hf : Fam S I R f w N G) (hst : Std S I R a s N G hb pb) (hm : m < N) (ho : o < N) : CC X (d + 9) M_X10_play [.ref f, .ref a, .ref q, .int (nI m), .int (nI o), .int (nI n)] S (I, R) (some (.int (nI (enc (plP w N G hb n s m o).1)))) S (sRw I q (gR w N G hb n s m o (I q)), R) := by
  have h := v_X10_play X (d + (4 - n)) hw hq hs1 hs2 hs3 n hn I s m o pb hf hst hm ho
  rw [show d + (4 - n) + n + 5 = d + 9 by omega] at h
  exact h
theorem gR_top {w : Nat → Int32} {N G hb n : Nat} (h : 1 ≤ n) (s : Nat → Int32) (m o : Nat) (r : Nat → Int32) : gR w N G hb n s m o r n = (plP w N G hb n s m o).2 := by
  obtain ⟨k, rfl⟩ : ∃ k, n = k + 1 := ⟨n - 1, by omega⟩
  rw [gR_s, up_eq]
/-- 1 to 4 -/
def is14 (x : Int32) : Bool := !decide (x < nI 1) && !decide (nI 4 < x)
theorem lt_tr {a b c : Int32} (h1 : a < b) (h2 : b ≤ c) : a < c := by
  rw [Int32.lt_iff_toInt_lt] at *
  rw [Int32.le_iff_toInt_le] at h2
  omega
theorem isR_t {x : Int32} {a b : Nat} (h1 : ¬ x < nI a) (h2 : ¬ nI b < x) (ha : a < 2 ^ 31) (hb : b < 2 ^ 31) : ∃ k, a ≤ k ∧ k ≤ b ∧ x = nI k := by
  have h0 : ¬ x < 0 := fun q => h1 (lt_tr q (by rw [← nI_0]; exact (nI_leI (by decide) ha).mpr (Nat.zero_le a)))
  obtain ⟨k, hk, rfl⟩ := nI_of h0
  rw [nI_ltI hk ha] at h1
  rw [nI_ltI hb hk] at h2
  exact ⟨k, by omega, by omega, rfl⟩
/-- 1 to 40 -/
def is40 (x : Int32) : Bool := !decide (x < nI 1) && !decide (nI 40 < x)
theorem is40_t {x : Int32} (h : is40 x = true) : ∃ k, 1 ≤ k ∧ k ≤ 40 ∧ x = nI k := by
  simp only [is40, Bool.and_eq_true, Bool.not_eq_true', decide_eq_false_iff_not] at h
  exact isR_t h.1 h.2 (by decide) (by decide)
theorem isP_9999 {x : Int32} (h1 : ¬ x < 0) (h2 : ¬ nI 9999 < x) : isP 10000 x = true := by
  obtain ⟨k, hk, rfl⟩ := nI_of h1
  rw [nI_ltI (by omega) hk] at h2
  exact isP_n (by omega) (by decide)
theorem is14_t {x : Int32} (h : is14 x = true) : ∃ k, 1 ≤ k ∧ k ≤ 4 ∧ x = nI k := by
  simp only [is14, Bool.and_eq_true, Bool.not_eq_true', decide_eq_false_iff_not] at h
  exact isR_t h.1 h.2 (by decide) (by decide)
set_option maxHeartbeats 4000000 in
set_option maxRecDepth 100000 in
theorem v_X11_byTurns_t (X : mCx) (d : Nat) {S : mSh} {I : mI} {R : mR} {w s : Nat → Int32} {N G hb pb f dr : Nat} {i j n : Nat} {y : Int32} (hc : Cla S R f dr) (hf : Fam S I R f w N G) (hst : Std S I R 6 s N G hb pb) (hw : wOk w N G) (hi : i < N) (hj : j < N) (hij : i ≠ j) (hn : 1 ≤ n) (hn4 : n ≤ 4) (hy : isA y = true) : CC X (d + 10) M_X11_byTurns [.ref 1, .int (nI i), .int (nI j), .int (nI n), .int y] S (I, R) (some (.int (if hb.testBit i = true ∧ hb.testBit j = true then (if y = nI 0 then nI (plP w N G hb n s i j).1.1 else (plP w N G hb n s i j).2) else -2))) S ((if hb.testBit i = true ∧ hb.testBit j = true then sRw (cpH I 6 11) 76 (gR w N G hb n s i j (I 76)) else I), R) := by
  have hG8 := hst.G8
  have hN6 := hst.N6
  have h256 := hst.h256
  have p256 := hst.p256
  have hund := hc.und
  have hkep := hc.kep
  have hoat := hc.oat
  have hord := hc.ord
  have htxt := hc.txt
  have htwo := hc.two
  have hgif := hc.gif
  have htri := hc.tri
  have hnow := hc.now
  refine CC.of2 (L := [.ref 1, .int (nI i), .int (nI j), .int (nI n), .int y, .retAddr 0]) p_X11 (Nat.le_of_ble_eq_true rfl) rfl rfl (List.prefix_refl S) ?_
  refine r_aload_n dX11_byTurns_0 rfl ?_
  refine r_iload_n dX11_byTurns_1 rfl ?_
  refine r_iload_n dX11_byTurns_2 rfl ?_
  refine r_V2 dX11_byTurns_3 l_X11_146 k_X11_isPair i_X11_isPair (Cla.sg (by assumption)) ⟨_, rfl⟩ (Nat.le_of_ble_eq_true rfl) (v_X11_isPair X _ (by first | assumption | omega) (by first | assumption | omega)) (List.prefix_refl S) ?_
  refine r_ifB_eq (tgt := 27) dX11_byTurns_6 (by decide) (fun c6 => absurd (twoP_n hi hj (by omega) hij) (by rw [c6]; decide)) (fun c6 => ?_)
  refine r_iload_n dX11_byTurns_9 rfl ?_
  refine r_iconst dX11_byTurns_10 ic_1 ?_
  refine n_icmp_lt (tgt := 27) dX11_byTurns_11 (by decide) (by omega) (by omega) (fun c11 => absurd c11 (by omega)) (fun c11 => ?_)
  refine r_iload_n dX11_byTurns_14 rfl ?_
  refine r_iconst dX11_byTurns_15 ic_4 ?_
  refine n_icmp_gt (tgt := 27) dX11_byTurns_16 (by decide) (by omega) (by omega) (fun c16 => absurd c16 (by omega)) (fun c16 => ?_)
  refine r_iload dX11_byTurns_19 rfl ?_
  refine r_S1 dX11_byTurns_21 l_X11_217 k_X11_isAsked s_X11_isAsked (Nat.le_of_ble_eq_true rfl) (v_X11_isAsked X _ ) (List.prefix_refl S) ?_
  refine r_ifB_ne (tgt := 29) dX11_byTurns_24 (by decide) (fun c24 => ?_) (fun c24 => absurd hy (by rw [c24]; decide))
  refine r_aload_n dX11_byTurns_29 rfl ?_
  refine r_iload_n dX11_byTurns_30 rfl ?_
  refine r_iload_n dX11_byTurns_31 rfl ?_
  refine r_V2 dX11_byTurns_32 l_X11_188 k_X11_areHere i_X11_areHere (Cla.sg (by assumption)) ⟨_, rfl⟩ (Nat.le_of_ble_eq_true rfl) (v_X11_areHere X _ (by first | assumption | omega) (by first | assumption | omega) (by first | assumption | omega) (by first | assumption | omega)) (List.prefix_refl S) ?_
  refine r_ifB_ne (tgt := 41) dX11_byTurns_35 (by decide) (fun c35 => ?_) (fun c35 => ?_)
  · have c35 := Bool.and_eq_true_iff.mp c35; rw [if_pos c35, if_pos c35]
    refine r_aload_n dX11_byTurns_41 rfl ?_
    refine g_getR dX11_byTurns_42 f_X11_30 (Cla.sg (by assumption)) rfl (Cla.f3 (by assumption)) ?_
    refine r_aload_n dX11_byTurns_45 rfl ?_
    refine g_getR dX11_byTurns_46 f_X11_26 (Cla.sg (by assumption)) rfl (Cla.f2 (by assumption)) ?_
    refine r_V1 dX11_byTurns_49 l_X11_272 k_X8_copy i_X8_copy (Sto.sg (Cla.tri (by assumption))) ⟨_, rfl⟩ (Nat.le_of_ble_eq_true rfl) (v_X8_copy X _ hst htri (by omega)) (List.prefix_refl S) ?_
    have h1 := hst.cp htri (by omega)
    have hf1 : Fam S (cpH I 6 11) R f w N G := hf.fr (fun o h1 h2 => cpH_fr (by omega))
    refine r_aload_n dX11_byTurns_52 rfl ?_
    refine g_getR dX11_byTurns_53 f_X11_66 (Cla.sg (by assumption)) rfl (Cla.f9 (by assumption)) ?_
    refine r_aload_n dX11_byTurns_56 rfl ?_
    refine g_getR dX11_byTurns_57 f_X11_30 (Cla.sg (by assumption)) rfl (Cla.f3 (by assumption)) ?_
    refine r_aload_n dX11_byTurns_60 rfl ?_
    refine g_getR dX11_byTurns_61 f_X11_59 (Cla.sg (by assumption)) rfl (Cla.f8 (by assumption)) ?_
    refine r_iload_n dX11_byTurns_64 rfl ?_
    refine r_iload_n dX11_byTurns_65 rfl ?_
    refine r_iload_n dX11_byTurns_66 rfl ?_
    have hb1 := plP_b (hb := hb) hw n s i j hi hj
    refine r_SN6 dX11_byTurns_67 n_X11_275 k_X10_play s_X10_play (Nat.le_of_ble_eq_true rfl) (v_X10_play4 X _ hw hgif (by omega) (by omega) (by omega) hn4 hf1 h1 hi hj) (List.prefix_refl S) ?_
    rw [show cpH I 6 11 76 = I 76 from cpH_fr (by omega)]
    refine r_istore (L' := [_, _, _, _, _, _]) dX11_byTurns_70 rfl rfl ?_
    refine r_iload dX11_byTurns_72 rfl ?_
    refine r_if_ne (tgt := 85) dX11_byTurns_74 (by decide) (fun c74 => ?_) (fun c74 => ?_)
    · have c74 : ¬ y = nI 0 := (by rw [nI_0]; exact c74); rw [if_neg c74]
      refine r_aload_n dX11_byTurns_85 rfl ?_
      refine g_getR dX11_byTurns_86 f_X11_59 (Cla.sg (by assumption)) rfl (Cla.f8 (by assumption)) ?_
      refine r_iload_n dX11_byTurns_89 rfl ?_
      refine r_S2 dX11_byTurns_90 l_X11_284 k_X7_get s_X7_get (Nat.le_of_ble_eq_true rfl) (v_X7_get X _ hgif (by omega) (by omega)) (List.prefix_refl S) ?_
      rw [sRw_q, gR_top hn]
      exact g_iret dX11_byTurns_93 rfl rfl
    · have c74 : y = nI 0 := (by rw [nI_0]; exact c74); rw [if_pos c74]
      refine r_iload dX11_byTurns_77 rfl ?_
      refine r_S1 dX11_byTurns_79 l_X11_281 k_X10_movers s_X10_movers (Nat.le_of_ble_eq_true rfl) (v_X10_movers X _ hb1.1 hb1.2) (List.prefix_refl S) ?_
      refine r_goto (tgt := 93) dX11_byTurns_82 (by decide) ?_
      exact g_iret dX11_byTurns_93 rfl rfl
  · rw [if_neg (fun q => absurd c35 (by rw [q.1, q.2]; decide)), if_neg (fun q => absurd c35 (by rw [q.1, q.2]; decide))]
    refine r_bipush dX11_byTurns_38 bp_m2 ?_
    exact g_iret dX11_byTurns_40 rfl rfl

set_option maxHeartbeats 4000000 in
set_option maxRecDepth 100000 in
theorem v_X11_byTurns_f (X : mCx) (d : Nat) {S : mSh} {I : mI} {R : mR} {w s : Nat → Int32} {N G hb pb f dr : Nat} {x y z v : Int32} (hc : Cla S R f dr) (hf : Fam S I R f w N G) (hst : Std S I R 6 s N G hb pb) (hb1 : twoP N x y = false ∨ is14 z = false ∨ isA v = false) : CC X (d + 3) M_X11_byTurns [.ref 1, .int x, .int y, .int z, .int v] S (I, R) (some (.int (-1))) S (I, R) := by
  have hG8 := hst.G8
  have hN6 := hst.N6
  have h256 := hst.h256
  have p256 := hst.p256
  have hund := hc.und
  have hkep := hc.kep
  have hoat := hc.oat
  have hord := hc.ord
  have htxt := hc.txt
  have htwo := hc.two
  have hgif := hc.gif
  have htri := hc.tri
  have hnow := hc.now
  refine CC.of2 (L := [.ref 1, .int x, .int y, .int z, .int v, .retAddr 0]) p_X11 (Nat.le_of_ble_eq_true rfl) rfl rfl (List.prefix_refl S) ?_
  refine r_aload_n dX11_byTurns_0 rfl ?_
  refine r_iload_n dX11_byTurns_1 rfl ?_
  refine r_iload_n dX11_byTurns_2 rfl ?_
  refine r_V2 dX11_byTurns_3 l_X11_146 k_X11_isPair i_X11_isPair (Cla.sg (by assumption)) ⟨_, rfl⟩ (Nat.le_of_ble_eq_true rfl) (v_X11_isPair X _ (by first | assumption | omega) (by first | assumption | omega)) (List.prefix_refl S) ?_
  refine r_ifB_eq (tgt := 27) dX11_byTurns_6 (by decide) (fun c6 => ?_) (fun c6 => ?_)
  · skip
    refine r_iconst dX11_byTurns_27 ic_m1 ?_
    exact g_iret dX11_byTurns_28 rfl rfl
  · skip
    refine r_iload_n dX11_byTurns_9 rfl ?_
    refine r_iconst dX11_byTurns_10 ic_1 ?_
    refine r_icmp_lt (tgt := 27) dX11_byTurns_11 (by decide) (fun c11 => ?_) (fun c11 => ?_)
    · skip
      refine r_iconst dX11_byTurns_27 ic_m1 ?_
      exact g_iret dX11_byTurns_28 rfl rfl
    · skip
      refine r_iload_n dX11_byTurns_14 rfl ?_
      refine r_iconst dX11_byTurns_15 ic_4 ?_
      refine r_icmp_gt (tgt := 27) dX11_byTurns_16 (by decide) (fun c16 => ?_) (fun c16 => ?_)
      · skip
        refine r_iconst dX11_byTurns_27 ic_m1 ?_
        exact g_iret dX11_byTurns_28 rfl rfl
      · skip
        refine r_iload dX11_byTurns_19 rfl ?_
        refine r_S1 dX11_byTurns_21 l_X11_217 k_X11_isAsked s_X11_isAsked (Nat.le_of_ble_eq_true rfl) (v_X11_isAsked X _ ) (List.prefix_refl S) ?_
        refine r_ifB_ne (tgt := 29) dX11_byTurns_24 (by decide) (fun c24 => (by exfalso; rcases hb1 with q | q | q <;> first | exact absurd q (by rw [c6]; decide) | exact absurd q (by rw [c24]; decide) | exact absurd q (by rw [show is14 z = true by simp only [is14, c11, c16, decide_false, Bool.not_false, Bool.and_self]]; decide))) (fun c24 => ?_)
        refine r_iconst dX11_byTurns_27 ic_m1 ?_
        exact g_iret dX11_byTurns_28 rfl rfl

theorem lN_sub2 {a b : Nat} (h : b ≤ a) : lN a - lN b = lN (a - b) := (Int64.ofNat_sub a b h).symm
theorem lN_I {n : Nat} (h : n < 2 ^ 63) : (lN n).toInt = (n : Int) := by
  exact lg_ofNat_toInt h
theorem lN_div {a b : Nat} (ha : a < 2 ^ 63) (hb : 0 < b) (hb2 : b < 2 ^ 31) : lN a / lN b = lN (a / b) := by
  have h3 : a / b ≤ a := Nat.div_le_self a b
  apply Int64.toInt_inj.mp
  rw [Int64.toInt_div_of_ne_right _ _ (fun e => by
    have h := congrArg Int64.toInt e
    rw [lN_I (by omega)] at h
    have e2 : (-1 : Int64).toInt = -1 := by decide
    rw [e2] at h
    omega), lN_I ha, lN_I (by omega), lN_I (by omega)]
  rfl
theorem lN_rem {a b : Nat} (ha : a < 2 ^ 63) (hb : 0 < b) (hb2 : b < 2 ^ 31) : lN a - lN a / lN b * lN b = lN (a % b) := by
  rw [lN_div ha hb hb2, lN_mul, lN_sub2 (Nat.div_mul_le_self a b)]
  congr 1
  have := Nat.div_add_mod a b
  have h2 := Nat.mul_comm b (a / b)
  omega
theorem lN_ne {b : Nat} (hb : 0 < b) (hb2 : b < 2 ^ 31) : ¬ lN b = 0 := by
  intro e
  have h := congrArg Int64.toInt e
  rw [lN_I (by omega)] at h
  have e2 : (0 : Int64).toInt = 0 := by decide
  rw [e2] at h
  omega
/-- the step's draw -/
def drN (N z k : Nat) : Nat := (7919 * z + 6151 * k + 1) * (7919 * z + 6151 * k + 1) % 65521 / 8 % N
theorem drN_lt {N z k : Nat} (h : 0 < N) : drN N z k < N := Nat.mod_lt _ h
theorem l7919 : (7919 : Int64) = lN 7919 := rfl
theorem l6151 : (6151 : Int64) = lN 6151 := rfl
theorem l65521 : (65521 : Int64) = lN 65521 := rfl
theorem l8 : (8 : Int64) = lN 8 := rfl
theorem l1 : (1 : Int64) = lN 1 := rfl
theorem dr_eq {z k : Nat} (hz : z ≤ 9999) (hk : k < 40) : ∀ x, x = lN (7919 * z + 6151 * k + 1) → (x * x - x * x / lN 65521 * lN 65521) / lN 8 = lN ((7919 * z + 6151 * k + 1) * (7919 * z + 6151 * k + 1) % 65521 / 8) := by
  intro x hx
  have h1 : 7919 * z + 6151 * k + 1 < 100000000 := by omega
  have h2 : (7919 * z + 6151 * k + 1) * (7919 * z + 6151 * k + 1) ≤ 100000000 * 100000000 := Nat.mul_le_mul (by omega) (by omega)
  have h3 : (7919 * z + 6151 * k + 1) * (7919 * z + 6151 * k + 1) % 65521 < 65521 := Nat.mod_lt _ (by decide)
  rw [hx, lN_mul, lN_rem (by omega) (by decide) (by decide), lN_div (by omega) (by decide) (by decide)]
theorem lN_I32 {a : Nat} (h : a < 2 ^ 31) : (lN a).toInt32 = nI a := by
  apply Int32.toInt_inj.mp
  rw [Int64.toInt_toInt32, lN_I (by omega), nI_toInt h]
  exact i_bm (by omega) (by omega)
set_option maxHeartbeats 4000000 in
set_option maxRecDepth 100000 in
theorem v_X11_drawn (X : mCx) (d : Nat) {S : mSh} {I : mI} {R : mR} {w : Nat → Int32} {N G f dr : Nat} {z k : Nat} (hc : Cla S R f dr) (hf : Fam S I R f w N G) (hN1 : 1 ≤ N) (hz : z ≤ 9999) (hk : k < 40) : CC X (d + 1) M_X11_drawn [.ref 1, .int (nI z), .int (nI k)] S (I, R) (some (.int (nI (drN N z k)))) S (I, R) := by
  have hN6 := hf.N6
  refine CC.of2 (L := [.ref 1, .int (nI z), .int (nI k), .retAddr 0, .retAddr 0, .retAddr 0, .retAddr 0]) p_X11 (Nat.le_of_ble_eq_true rfl) rfl rfl (List.prefix_refl S) ?_
  refine r_ldc2 dX11_drawn_0 c_X11_314 ?_
  refine r_iload_n dX11_drawn_3 rfl ?_
  refine r_i2l dX11_drawn_4 rfl ?_
  refine r_lmul dX11_drawn_5 ?_
  refine r_ldc2 dX11_drawn_6 c_X11_316 ?_
  refine r_iload_n dX11_drawn_9 rfl ?_
  refine r_i2l dX11_drawn_10 rfl ?_
  refine r_lmul dX11_drawn_11 ?_
  refine r_ladd dX11_drawn_12 ?_
  refine r_lconst (v := lN 1) dX11_drawn_13 rfl ?_
  refine r_ladd dX11_drawn_14 ?_
  refine r_lstore_n (L' := [_, _, _, _, _, _, _]) dX11_drawn_15 rfl rfl ?_
  refine r_lload_n dX11_drawn_16 rfl ?_
  refine r_lload_n dX11_drawn_17 rfl ?_
  refine r_lmul dX11_drawn_18 ?_
  refine r_ldc2 dX11_drawn_19 c_X11_318 ?_
  refine r_lrem dX11_drawn_22 (by decide) ?_
  refine r_ldc2 dX11_drawn_23 c_X11_320 ?_
  refine r_ldiv dX11_drawn_26 (by decide) ?_
  refine r_lstore (L' := [_, _, _, _, _, _, _]) dX11_drawn_27 rfl rfl ?_
  refine r_aload_n dX11_drawn_29 rfl ?_
  refine g_getR dX11_drawn_30 f_X11_66 (Cla.sg (by assumption)) rfl (Cla.f9 (by assumption)) ?_
  refine g_getI dX11_drawn_33 f_X11_103 (Fam.sg (by assumption)) rfl hf.hN ?_
  refine r_iconst dX11_drawn_36 ic_1 ?_
  refine n_icmp_ge (tgt := 44) dX11_drawn_37 (by decide) (by omega) (by omega) (fun c37 => ?_) (fun c37 => absurd c37 (by omega))
  refine r_lload dX11_drawn_44 rfl ?_
  refine r_aload_n dX11_drawn_46 rfl ?_
  refine g_getR dX11_drawn_47 f_X11_66 (Cla.sg (by assumption)) rfl (Cla.f9 (by assumption)) ?_
  refine g_getI dX11_drawn_50 f_X11_103 (Fam.sg (by assumption)) rfl hf.hN ?_
  refine r_i2l dX11_drawn_53 rfl ?_
  refine r_lrem dX11_drawn_54 (by rw [nI_l (by omega)]; exact lN_ne (by omega) (by omega)) ?_
  refine r_l2i dX11_drawn_55 rfl ?_
  exact g_iret dX11_drawn_56 (by have hm := Nat.mod_lt ((7919 * z + 6151 * k + 1) * (7919 * z + 6151 * k + 1)) (show 0 < 65521 by decide); have hl := drN_lt (z := z) (k := k) (show 0 < N by omega); rw [nI_l (show z < 2 ^ 31 by omega), nI_l (show k < 2 ^ 31 by omega), nI_l (show N < 2 ^ 31 by omega), l7919, l6151, l65521, l8, lN_mul, lN_mul, lN_add]; rw [dr_eq hz hk _ (lN_add _ 1), lN_rem (by omega) (by omega) (by omega), show (7919 * z + 6151 * k + 1) * (7919 * z + 6151 * k + 1) % 65521 / 8 % N = drN N z k from rfl, lN_I32 (show drN N z k < 2 ^ 31 by omega)]) rfl

/-- a year's first n steps: what was paid, the standing, who is here -/
def yrQ (w s : Nat → Int32) (N G hb z n : Nat) : Int32 × (Nat → Int32) × Nat := nFold n (fun k q => (q.1 + crR w q.2.1 N G q.2.2 (drN N z k), crS w q.2.1 N G q.2.2 (drN N z k), crB w q.2.1 N G q.2.2 (drN N z k))) (nI 0, s, hb)
theorem yrQ_s (w s : Nat → Int32) (N G hb z n : Nat) : yrQ w s N G hb z (n + 1) = ((yrQ w s N G hb z n).1 + crR w (yrQ w s N G hb z n).2.1 N G (yrQ w s N G hb z n).2.2 (drN N z n), crS w (yrQ w s N G hb z n).2.1 N G (yrQ w s N G hb z n).2.2 (drN N z n), crB w (yrQ w s N G hb z n).2.1 N G (yrQ w s N G hb z n).2.2 (drN N z n)) := rfl
def yrH (I : mI) (w s : Nat → Int32) (N G hb z n : Nat) : mI := nFold n (fun k J => crH J 11 w (yrQ w s N G hb z k).2.1 N G (yrQ w s N G hb z k).2.2 (drN N z k)) (cpH I 6 11)
theorem yrH_s (I : mI) (w s : Nat → Int32) (N G hb z n : Nat) : yrH I w s N G hb z (n + 1) = crH (yrH I w s N G hb z n) 11 w (yrQ w s N G hb z n).2.1 N G (yrQ w s N G hb z n).2.2 (drN N z n) := rfl
theorem yrH_fr {I : mI} {w s : Nat → Int32} {N G hb z o : Nat} (h : o < 11 ∨ 15 < o) : ∀ n, yrH I w s N G hb z n o = I o
  | 0 => cpH_fr (by omega)
  | n + 1 => by rw [yrH_s, crH_fr (by omega)]; exact yrH_fr h n
set_option maxHeartbeats 4000000 in
set_option maxRecDepth 100000 in
theorem v_X11_year_t (X : mCx) (d : Nat) {S : mSh} {I : mI} {R : mR} {w s : Nat → Int32} {N G hb pb f dr : Nat} {z n : Nat} {y : Int32} (hc : Cla S R f dr) (hf : Fam S I R f w N G) (hst : Std S I R 6 s N G hb pb) (hN1 : 1 ≤ N) (hz : z ≤ 9999) (hn1 : 1 ≤ n) (hn : n ≤ 40) (hy : isA y = true) : CC X (d + 7) M_X11_year [.ref 1, .int (nI z), .int (nI n), .int y] S (I, R) (some (.int (if y = nI 0 then nI N - nI (pop (yrQ w s N G hb z n).2.2) else (yrQ w s N G hb z n).1))) S (yrH I w s N G hb z n, R) := by
  have hG8 := hst.G8
  have hN6 := hst.N6
  have h256 := hst.h256
  have p256 := hst.p256
  have hund := hc.und
  have hkep := hc.kep
  have hoat := hc.oat
  have hord := hc.ord
  have htxt := hc.txt
  have htwo := hc.two
  have hgif := hc.gif
  have htri := hc.tri
  have hnow := hc.now
  refine CC.of2 (L := [.ref 1, .int (nI z), .int (nI n), .int y, .retAddr 0, .retAddr 0]) p_X11 (Nat.le_of_ble_eq_true rfl) rfl rfl (List.prefix_refl S) ?_
  refine r_iload_n dX11_year_0 rfl ?_
  refine n_if_lt (tgt := 29) dX11_year_1 (by decide) (by omega) (fun c1 => absurd c1 (Nat.not_lt_zero _)) (fun c1 => ?_)
  refine r_iload_n dX11_year_4 rfl ?_
  refine r_sipush dX11_year_5 sp_9999 ?_
  refine n_icmp_gt (tgt := 29) dX11_year_8 (by decide) (by omega) (by omega) (fun c8 => absurd c8 (by omega)) (fun c8 => ?_)
  refine r_iload_n dX11_year_11 rfl ?_
  refine r_iconst dX11_year_12 ic_1 ?_
  refine n_icmp_lt (tgt := 29) dX11_year_13 (by decide) (by omega) (by omega) (fun c13 => absurd c13 (by omega)) (fun c13 => ?_)
  refine r_iload_n dX11_year_16 rfl ?_
  refine r_bipush dX11_year_17 bp_40 ?_
  refine n_icmp_gt (tgt := 29) dX11_year_19 (by decide) (by omega) (by omega) (fun c19 => absurd c19 (by omega)) (fun c19 => ?_)
  refine r_iload_n dX11_year_22 rfl ?_
  refine r_S1 dX11_year_23 l_X11_217 k_X11_isAsked s_X11_isAsked (Nat.le_of_ble_eq_true rfl) (v_X11_isAsked X _ ) (List.prefix_refl S) ?_
  refine r_ifB_ne (tgt := 31) dX11_year_26 (by decide) (fun c26 => ?_) (fun c26 => absurd hy (by rw [c26]; decide))
  refine r_aload_n dX11_year_31 rfl ?_
  refine g_getR dX11_year_32 f_X11_30 (Cla.sg (by assumption)) rfl (Cla.f3 (by assumption)) ?_
  refine r_aload_n dX11_year_35 rfl ?_
  refine g_getR dX11_year_36 f_X11_26 (Cla.sg (by assumption)) rfl (Cla.f2 (by assumption)) ?_
  refine r_V1 dX11_year_39 l_X11_272 k_X8_copy i_X8_copy (Sto.sg (Cla.tri (by assumption))) ⟨_, rfl⟩ (Nat.le_of_ble_eq_true rfl) (v_X8_copy X _ hst htri (by omega)) (List.prefix_refl S) ?_
  refine r_iconst dX11_year_42 ic_0 ?_
  refine r_istore (L' := [_, _, _, _, _, _]) dX11_year_43 rfl rfl ?_
  refine r_iconst dX11_year_45 ic_0 ?_
  refine r_istore (L' := [_, _, _, _, _, _]) dX11_year_46 rfl rfl ?_
  refine JJ.loop n (fun j => [.ref 1, .int (nI z), .int (nI n), .int y, .int (yrQ w s N G hb z j).1, .int (nI j)]) (fun j => (yrH I w s N G hb z j, R)) (fun j => Std S (yrH I w s N G hb z j) R 11 (yrQ w s N G hb z j).2.1 N G (yrQ w s N G hb z j).2.2 pb) rfl rfl (hst.cp htri (by omega)) (fun hp => ?_) (fun j hj hp K => ?_)
  · have hf1 : Fam S (yrH I w s N G hb z n) R f w N G := hf.fr (fun o h1 h2 => yrH_fr (by omega) n)
    refine r_iload dX11_year_48 rfl ?_
    refine r_iload_n dX11_year_50 rfl ?_
    refine n_icmp_ge (tgt := 83) dX11_year_51 (by decide) (by omega) (by omega) (fun c51 => ?_) (fun c51 => absurd c51 (by omega))
    refine r_iload_n dX11_year_83 rfl ?_
    refine r_if_ne (tgt := 98) dX11_year_84 (by decide) (fun c84 => ?_) (fun c84 => ?_)
    · have c84 : ¬ y = nI 0 := (by rw [nI_0]; exact c84); rw [if_neg c84]
      refine r_iload dX11_year_98 rfl ?_
      exact g_iret dX11_year_100 rfl rfl
    · have c84 : y = nI 0 := (by rw [nI_0]; exact c84); rw [if_pos c84]
      refine r_aload_n dX11_year_87 rfl ?_
      refine r_aload_n dX11_year_88 rfl ?_
      refine g_getR dX11_year_89 f_X11_30 (Cla.sg (by assumption)) rfl (Cla.f3 (by assumption)) ?_
      refine r_V1 dX11_year_92 l_X11_304 k_X11_gone i_X11_gone (Cla.sg (by assumption)) ⟨_, rfl⟩ (Nat.le_of_ble_eq_true rfl) (v_X11_gone X _ hc hf1 hp) (List.prefix_refl S) ?_
      refine r_goto (tgt := 100) dX11_year_95 (by decide) ?_
      exact g_iret dX11_year_100 rfl rfl
  · have hf1 : Fam S (yrH I w s N G hb z j) R f w N G := hf.fr (fun o h1 h2 => yrH_fr (by omega) j); have hd1 := drN_lt (z := z) (k := j) (show 0 < N by omega)
    refine r_iload dX11_year_48 rfl ?_
    refine r_iload_n dX11_year_50 rfl ?_
    refine n_icmp_ge (tgt := 83) dX11_year_51 (by decide) (by omega) (by omega) (fun c51 => absurd c51 (by omega)) (fun c51 => ?_)
    refine r_iload dX11_year_54 rfl ?_
    refine r_aload_n dX11_year_56 rfl ?_
    refine g_getR dX11_year_57 f_X11_66 (Cla.sg (by assumption)) rfl (Cla.f9 (by assumption)) ?_
    refine r_aload_n dX11_year_60 rfl ?_
    refine g_getR dX11_year_61 f_X11_30 (Cla.sg (by assumption)) rfl (Cla.f3 (by assumption)) ?_
    refine r_aload_n dX11_year_64 rfl ?_
    refine r_iload_n dX11_year_65 rfl ?_
    refine r_iload dX11_year_66 rfl ?_
    refine r_V2 dX11_year_68 l_X11_298 k_X11_drawn i_X11_drawn (Cla.sg (by assumption)) ⟨_, rfl⟩ (Nat.le_of_ble_eq_true rfl) (v_X11_drawn X _ (by first | assumption | omega) (by first | assumption | omega) (by first | assumption | omega) (by first | assumption | omega) (by first | assumption | omega)) (List.prefix_refl S) ?_
    refine r_S3 dX11_year_71 l_X11_301 k_X2_cross s_X2_cross (Nat.le_of_ble_eq_true rfl) (v_X2_cross X _ hf1 hp hd1) (List.prefix_refl S) ?_
    refine r_iadd dX11_year_74 ?_
    refine r_istore (L' := [_, _, _, _, _, _]) dX11_year_75 rfl rfl ?_
    refine r_iinc (L' := [_, _, _, _, _, _]) dX11_year_77 rfl rfl (nI_inc _) rfl ?_
    refine r_goto (tgt := 48) dX11_year_80 (by decide) ?_
    exact JJ.to (K (by rw [yrH_s, yrQ_s]; exact hp.cr hd1)) (by rw [yrQ_s]) rfl (by rw [yrH_s])

set_option maxHeartbeats 4000000 in
set_option maxRecDepth 100000 in
theorem v_X11_year_f (X : mCx) (d : Nat) {S : mSh} {I : mI} {R : mR} {w s : Nat → Int32} {N G hb pb f dr : Nat} {x y v : Int32} (hc : Cla S R f dr) (hf : Fam S I R f w N G) (hst : Std S I R 6 s N G hb pb) (hb1 : isP 10000 x = false ∨ is40 y = false ∨ isA v = false) : CC X (d + 2) M_X11_year [.ref 1, .int x, .int y, .int v] S (I, R) (some (.int (-1))) S (I, R) := by
  have hG8 := hst.G8
  have hN6 := hst.N6
  have h256 := hst.h256
  have p256 := hst.p256
  have hund := hc.und
  have hkep := hc.kep
  have hoat := hc.oat
  have hord := hc.ord
  have htxt := hc.txt
  have htwo := hc.two
  have hgif := hc.gif
  have htri := hc.tri
  have hnow := hc.now
  refine CC.of2 (L := [.ref 1, .int x, .int y, .int v, .retAddr 0, .retAddr 0]) p_X11 (Nat.le_of_ble_eq_true rfl) rfl rfl (List.prefix_refl S) ?_
  refine r_iload_n dX11_year_0 rfl ?_
  refine r_if_lt (tgt := 29) dX11_year_1 (by decide) (fun c1 => ?_) (fun c1 => ?_)
  · skip
    refine r_iconst dX11_year_29 ic_m1 ?_
    exact g_iret dX11_year_30 rfl rfl
  · skip
    refine r_iload_n dX11_year_4 rfl ?_
    refine r_sipush dX11_year_5 sp_9999 ?_
    refine r_icmp_gt (tgt := 29) dX11_year_8 (by decide) (fun c8 => ?_) (fun c8 => ?_)
    · skip
      refine r_iconst dX11_year_29 ic_m1 ?_
      exact g_iret dX11_year_30 rfl rfl
    · skip
      refine r_iload_n dX11_year_11 rfl ?_
      refine r_iconst dX11_year_12 ic_1 ?_
      refine r_icmp_lt (tgt := 29) dX11_year_13 (by decide) (fun c13 => ?_) (fun c13 => ?_)
      · skip
        refine r_iconst dX11_year_29 ic_m1 ?_
        exact g_iret dX11_year_30 rfl rfl
      · skip
        refine r_iload_n dX11_year_16 rfl ?_
        refine r_bipush dX11_year_17 bp_40 ?_
        refine r_icmp_gt (tgt := 29) dX11_year_19 (by decide) (fun c19 => ?_) (fun c19 => ?_)
        · skip
          refine r_iconst dX11_year_29 ic_m1 ?_
          exact g_iret dX11_year_30 rfl rfl
        · skip
          refine r_iload_n dX11_year_22 rfl ?_
          refine r_S1 dX11_year_23 l_X11_217 k_X11_isAsked s_X11_isAsked (Nat.le_of_ble_eq_true rfl) (v_X11_isAsked X _ ) (List.prefix_refl S) ?_
          refine r_ifB_ne (tgt := 31) dX11_year_26 (by decide) (fun c26 => (by exfalso; rcases hb1 with q | q | q <;> first | exact absurd q (by rw [isP_9999 c1 c8]; decide) | exact absurd q (by rw [c26]; decide) | exact absurd q (by rw [show is40 y = true by simp only [is40, c13, c19, decide_false, Bool.not_false, Bool.and_self]]; decide))) (fun c26 => ?_)
          refine r_iconst dX11_year_29 ic_m1 ?_
          exact g_iret dX11_year_30 rfl rfl

