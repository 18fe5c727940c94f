/-! ===== the class: what changes a standing; the frontier ===== -/
def up (s : Nat → Int32) (k : Nat) (v : Int32) : Nat → Int32 := fun j => if j = k then v else s j
theorem up_eq (s : Nat → Int32) (k : Nat) (v : Int32) : up s k v k = v := by simp [up]
theorem up_ne {s : Nat → Int32} {k j : Nat} {v : Int32} (h : j ≠ k) : up s k v j = s j := by simp [up, h]
/-- bit i taken out -/
def clr (b i : Nat) : Nat := if b.testBit i then b - 2 ^ i else b
theorem clr_eq {b i : Nat} (hb : b < 256) (hi : i < 8) : nI b &&& (nI (2 ^ i) ^^^ (-1)) = nI (clr b i) := by
  have : ∀ b, b < 256 → ∀ i, i < 8 → nI b &&& (nI (2 ^ i) ^^^ (-1)) = nI (clr b i) := by decide +kernel
  exact this b hb i hi
theorem bI_nf : bI false = nI 0 := by decide
theorem clr_le (b i : Nat) : clr b i ≤ b := by unfold clr; split; exact Nat.sub_le _ _; exact Nat.le_refl _
theorem clr_bit {b i k : Nat} (hb : b < 256) (hi : i < 8) (hk : k < 8) : (clr b i).testBit k = (b.testBit k && !decide (k = i)) := by
  have : ∀ b, b < 256 → ∀ i, i < 8 → ∀ k, k < 8 → (clr b i).testBit k = (b.testBit k && !decide (k = i)) := by decide +kernel
  exact this b hb i hi k hk
theorem or_bit {b i k : Nat} (hb : b < 256) (hi : i < 8) (hk : k < 8) : (b ||| 2 ^ i).testBit k = (b.testBit k || decide (k = i)) := by
  have : ∀ b, b < 256 → ∀ i, i < 8 → ∀ k, k < 8 → (b ||| 2 ^ i).testBit k = (b.testBit k || decide (k = i)) := by decide +kernel
  exact this b hb i hi k hk
theorem or_lt {b i n : Nat} (hb : b < 2 ^ n) (hi : i < n) : b ||| 2 ^ i < 2 ^ n := Nat.or_lt_two_pow hb (Nat.pow_lt_pow_right (by decide) hi)
def pbs (pb g : Nat) (on : Bool) : Nat := if on = true then pb ||| 2 ^ g else clr pb g
theorem pbs_bit {b i k : Nat} {on : Bool} (hb : b < 256) (hi : i < 8) (hk : k < 8) : (pbs b i on).testBit k = if k = i then on else b.testBit k := by
  unfold pbs
  cases on
  · rw [if_neg (by decide), clr_bit hb hi hk]; by_cases h : k = i <;> simp [h]
  · rw [if_pos rfl, or_bit hb hi hk]; by_cases h : k = i <;> simp [h]
theorem pbs_lt {b i n : Nat} {on : Bool} (hb : b < 2 ^ n) (hi : i < n) : pbs b i on < 2 ^ n := by
  unfold pbs
  split
  · exact or_lt hb hi
  · exact Nat.lt_of_le_of_lt (clr_le b i) hb
section
variable {S : mSh} {I : mI} {R : mR} {a : Nat} {s : Nat → Int32} {N G hb pb : Nat}
theorem Std.set_own (q : Std S I R a s N G hb pb) {g : Nat} {v : Int32} (hg : g < G) : Std S (sJ I (a + 1) g v) R a (up s (19 + g) v) N G hb pb := by
  have e0 : sJ I (a + 1) g v a = I a := sJ_o (by omega)
  have e2 : sJ I (a + 1) g v (a + 2) = I (a + 2) := sJ_o (by omega)
  have e3 : sJ I (a + 1) g v (a + 3) = I (a + 3) := sJ_o (by omega)
  have e4 : sJ I (a + 1) g v (a + 4) = I (a + 4) := sJ_o (by omega)
  have hN := q.N6
  have hG := q.G8
  refine ⟨q.o, q.N6, q.G8, by rw [e0]; exact q.hG, q.hb2, by rw [e0]; exact q.here, by rw [up_ne (by omega)]; exact q.here0, q.pb2, by rw [e0]; exact q.packed, fun k hk => by rw [up_ne (by omega)]; exact q.pk k hk, fun k hk => ?_, fun i hi => by rw [e2, up_ne (by omega)]; exact q.coins i hi, fun i hi => by rw [e3, up_ne (by omega)]; exact q.paid i hi, fun i hi => by rw [e4, up_ne (by omega)]; exact q.last i hi⟩
  by_cases h : k = g
  · subst h; rw [sJ_eq, up_eq]
  · rw [sJ_ne (Or.inr h), up_ne (by omega)]; exact q.own k hk
theorem Std.set_pk (q : Std S I R a s N G hb pb) {g : Nat} {on : Bool} (hg : g < G) : Std S (sJ I a 1 (nI (pbs pb g on))) R a (up s (27 + g) (bI on)) N G hb (pbs pb g on) := by
  have e1 : sJ I a 1 (nI (pbs pb g on)) (a + 1) = I (a + 1) := sJ_o (by omega)
  have e2 : sJ I a 1 (nI (pbs pb g on)) (a + 2) = I (a + 2) := sJ_o (by omega)
  have e3 : sJ I a 1 (nI (pbs pb g on)) (a + 3) = I (a + 3) := sJ_o (by omega)
  have e4 : sJ I a 1 (nI (pbs pb g on)) (a + 4) = I (a + 4) := sJ_o (by omega)
  have hN := q.N6
  have hG := q.G8
  refine ⟨q.o, q.N6, q.G8, by rw [sJ_ne (by omega)]; exact q.hG, q.hb2, by rw [sJ_ne (by omega)]; exact q.here, by rw [up_ne (by omega)]; exact q.here0, pbs_lt q.pb2 hg, sJ_eq _ _ _ _, fun k hk => ?_, fun k hk => by rw [e1, up_ne (by omega)]; exact q.own k hk, fun i hi => by rw [e2, up_ne (by omega)]; exact q.coins i hi, fun i hi => by rw [e3, up_ne (by omega)]; exact q.paid i hi, fun i hi => by rw [e4, up_ne (by omega)]; exact q.last i hi⟩
  rw [pbs_bit q.p256 (by omega) (by omega)]
  by_cases h : k = g
  · subst h; rw [up_eq, if_pos rfl]
  · rw [up_ne (by omega), if_neg h]; exact q.pk k hk
theorem Std.set_here (q : Std S I R a s N G hb pb) {b : Nat} (hb : b < 2 ^ N) : Std S (sJ I a 0 (nI b)) R a (up s 0 (nI b)) N G b pb := by
  have e1 : sJ I a 0 (nI b) (a + 1) = I (a + 1) := sJ_o (by omega)
  have e2 : sJ I a 0 (nI b) (a + 2) = I (a + 2) := sJ_o (by omega)
  have e3 : sJ I a 0 (nI b) (a + 3) = I (a + 3) := sJ_o (by omega)
  have e4 : sJ I a 0 (nI b) (a + 4) = I (a + 4) := sJ_o (by omega)
  exact ⟨q.o, q.N6, q.G8, by rw [sJ_ne (by omega)]; exact q.hG, hb, sJ_eq _ _ _ _, up_eq _ _ _, q.pb2, by rw [sJ_ne (by omega)]; exact q.packed, fun k hk => by rw [up_ne (by omega)]; exact q.pk k hk, fun k hk => by rw [e1, up_ne (by omega)]; exact q.own k hk, fun i hi => by rw [e2, up_ne (by omega)]; exact q.coins i hi, fun i hi => by rw [e3, up_ne (by omega)]; exact q.paid i hi, fun i hi => by rw [e4, up_ne (by omega)]; exact q.last i hi⟩
theorem Std.set_coins (q : Std S I R a s N G hb pb) {i : Nat} {v : Int32} (hi : i < N) : Std S (sJ I (a + 2) i v) R a (up s (1 + i) v) N G hb pb := by
  have e0 : sJ I (a + 2) i v a = I a := sJ_o (by omega)
  have hN := q.N6
  have hG := q.G8
  refine ⟨q.o, q.N6, q.G8, by rw [e0]; exact q.hG, q.hb2, by rw [e0]; exact q.here, by rw [up_ne (by omega)]; exact q.here0, q.pb2, by rw [e0]; exact q.packed, fun k hk => by rw [up_ne (by omega)]; exact q.pk k hk, fun k hk => by rw [show sJ I (a + 2) i v (a + 1) = I (a + 1) from sJ_o (by omega), up_ne (by omega)]; exact q.own k hk, fun k hk => ?_, fun k hk => by rw [show sJ I (a + 2) i v (a + 3) = I (a + 3) from sJ_o (by omega), up_ne (by omega)]; exact q.paid k hk, fun k hk => by rw [show sJ I (a + 2) i v (a + 4) = I (a + 4) from sJ_o (by omega), up_ne (by omega)]; exact q.last k hk⟩
  by_cases h : k = i
  · subst h; rw [sJ_eq, up_eq]
  · rw [sJ_ne (Or.inr h), up_ne (by omega)]; exact q.coins k hk
theorem Std.set_paid (q : Std S I R a s N G hb pb) {i : Nat} {v : Int32} (hi : i < N) : Std S (sJ I (a + 3) i v) R a (up s (7 + i) v) N G hb pb := by
  have e0 : sJ I (a + 3) i v a = I a := sJ_o (by omega)
  have hN := q.N6
  have hG := q.G8
  refine ⟨q.o, q.N6, q.G8, by rw [e0]; exact q.hG, q.hb2, by rw [e0]; exact q.here, by rw [up_ne (by omega)]; exact q.here0, q.pb2, by rw [e0]; exact q.packed, fun k hk => by rw [up_ne (by omega)]; exact q.pk k hk, fun k hk => by rw [show sJ I (a + 3) i v (a + 1) = I (a + 1) from sJ_o (by omega), up_ne (by omega)]; exact q.own k hk, fun k hk => by rw [show sJ I (a + 3) i v (a + 2) = I (a + 2) from sJ_o (by omega), up_ne (by omega)]; exact q.coins k hk, fun k hk => ?_, fun k hk => by rw [show sJ I (a + 3) i v (a + 4) = I (a + 4) from sJ_o (by omega), up_ne (by omega)]; exact q.last k hk⟩
  by_cases h : k = i
  · subst h; rw [sJ_eq, up_eq]
  · rw [sJ_ne (Or.inr h), up_ne (by omega)]; exact q.paid k hk
theorem Std.set_last (q : Std S I R a s N G hb pb) {i : Nat} {v : Int32} (hi : i < N) : Std S (sJ I (a + 4) i v) R a (up s (13 + i) v) N G hb pb := by
  have e0 : sJ I (a + 4) i v a = I a := sJ_o (by omega)
  have hN := q.N6
  have hG := q.G8
  refine ⟨q.o, q.N6, q.G8, by rw [e0]; exact q.hG, q.hb2, by rw [e0]; exact q.here, by rw [up_ne (by omega)]; exact q.here0, q.pb2, by rw [e0]; exact q.packed, fun k hk => by rw [up_ne (by omega)]; exact q.pk k hk, fun k hk => by rw [show sJ I (a + 4) i v (a + 1) = I (a + 1) from sJ_o (by omega), up_ne (by omega)]; exact q.own k hk, fun k hk => by rw [show sJ I (a + 4) i v (a + 2) = I (a + 2) from sJ_o (by omega), up_ne (by omega)]; exact q.coins k hk, fun k hk => by rw [show sJ I (a + 4) i v (a + 3) = I (a + 3) from sJ_o (by omega), up_ne (by omega)]; exact q.paid k hk, fun k hk => ?_⟩
  by_cases h : k = i
  · subst h; rw [sJ_eq, up_eq]
  · rw [sJ_ne (Or.inr h), up_ne (by omega)]; exact q.last k hk
end
set_option maxHeartbeats 4000000 in
set_option maxRecDepth 100000 in
theorem v_X8_setPacked (X : mCx) (d : Nat) {S : mSh} {I : mI} {R : mR} {s : Nat → Int32} {N G hb pb : Nat} {a g : Nat} {on : Bool} (hst : Std S I R a s N G hb pb) (hg : g < G) : CC X (d + 1) M_X8_setPacked [.ref a, .int (nI g), .int (bI on)] S (I, R) (none) S (sJ I a 1 (nI (pbs pb g on)), R) := by
  have hG8 := hst.G8
  have hN6 := hst.N6
  have h256 := hst.h256
  have p256 := hst.p256
  refine CC.of2 (L := [.ref a, .int (nI g), .int (bI on)]) p_X8 (Nat.le_of_ble_eq_true rfl) rfl trivial (List.prefix_refl S) ?_
  refine r_aload_n dX8_setPacked_0 rfl ?_
  refine r_iload_n dX8_setPacked_1 rfl ?_
  refine r_ifB_eq (tgt := 16) dX8_setPacked_2 (by decide) (fun c2 => ?_) (fun c2 => ?_)
  · skip
    refine r_aload_n dX8_setPacked_16 rfl ?_
    refine g_getI dX8_setPacked_17 f_X8_15 (Std.sg (by assumption)) rfl hst.packed ?_
    refine r_iconst dX8_setPacked_20 ic_1 ?_
    refine r_iload_n dX8_setPacked_21 rfl ?_
    refine r_ishl dX8_setPacked_22 ?_
    refine g_top (shl1 (by omega)) ?_
    refine r_iconst dX8_setPacked_23 ic_m1 ?_
    refine r_ixor dX8_setPacked_24 ?_
    refine r_iand dX8_setPacked_25 ?_
    refine g_top (clr_eq (by omega) (by omega)) ?_
    refine g_putI dX8_setPacked_26 f_X8_15 (Std.sg (by assumption)) rfl ?_
    exact g_vret dX8_setPacked_29 rfl (by simp [pbs, *])
  · skip
    refine r_aload_n dX8_setPacked_5 rfl ?_
    refine g_getI dX8_setPacked_6 f_X8_15 (Std.sg (by assumption)) rfl hst.packed ?_
    refine r_iconst dX8_setPacked_9 ic_1 ?_
    refine r_iload_n dX8_setPacked_10 rfl ?_
    refine r_ishl dX8_setPacked_11 ?_
    refine g_top (shl1 (by omega)) ?_
    refine r_ior dX8_setPacked_12 ?_
    refine g_top (nI_or _ _) ?_
    refine r_goto (tgt := 26) dX8_setPacked_13 (by decide) ?_
    refine g_putI dX8_setPacked_26 f_X8_15 (Std.sg (by assumption)) rfl ?_
    exact g_vret dX8_setPacked_29 rfl (by simp [pbs, *])

set_option maxHeartbeats 4000000 in
set_option maxRecDepth 100000 in
theorem v_X8_handOver (X : mCx) (d : Nat) {S : mSh} {I : mI} {R : mR} {s : Nat → Int32} {N G hb pb : Nat} {a g : Nat} {x : Int32} (hst : Std S I R a s N G hb pb) (hg : g < G) : CC X (d + 2) M_X8_handOver [.ref a, .int (nI g), .int x] S (I, R) (none) S (sJ (sJ I (a + 1) g x) a 1 (nI (pbs pb g false)), R) := by
  have hG8 := hst.G8
  have hN6 := hst.N6
  have h256 := hst.h256
  have p256 := hst.p256
  refine CC.of2 (L := [.ref a, .int (nI g), .int x]) p_X8 (Nat.le_of_ble_eq_true rfl) rfl trivial (List.prefix_refl S) ?_
  refine r_aload_n dX8_handOver_0 rfl ?_
  refine g_getR dX8_handOver_1 f_X8_18 (Std.sg (by assumption)) rfl (Std.r2 (by assumption)) ?_
  refine r_iload_n dX8_handOver_4 rfl ?_
  refine r_iload_n dX8_handOver_5 rfl ?_
  refine r_S3 dX8_handOver_6 l_X8_44 k_X7_put s_X7_put (Nat.le_of_ble_eq_true rfl) (v_X7_put X _ (Std.s2 (by assumption)) (by omega) (by decide)) (List.prefix_refl S) ?_
  have h2 : Std S (sJ I (a + 1) g x) R a (up s (19 + g) x) N G hb pb := hst.set_own hg
  refine r_aload_n dX8_handOver_9 rfl ?_
  refine r_iload_n dX8_handOver_10 rfl ?_
  refine r_iconst dX8_handOver_11 ic_0 ?_
  rw [← bI_nf]
  refine r_V2 dX8_handOver_12 l_X8_68 k_X8_setPacked i_X8_setPacked (Std.sg (by assumption)) ⟨_, rfl⟩ (Nat.le_of_ble_eq_true rfl) (v_X8_setPacked X _ h2 (by omega)) (List.prefix_refl S) ?_
  exact g_vret dX8_handOver_15 rfl rfl

theorem Std.hand {S : mSh} {I : mI} {R : mR} {a : Nat} {s : Nat → Int32} {N G hb pb : Nat} (q : Std S I R a s N G hb pb) {g : Nat} {x : Int32} (hg : g < G) : Std S (sJ (sJ I (a + 1) g x) a 1 (nI (pbs pb g false))) R a (up (up s (19 + g) x) (27 + g) (nI 0)) N G hb (pbs pb g false) := (q.set_own hg).set_pk (on := false) hg
theorem hand_fr {I : mI} {a g o : Nat} {x v : Int32} (h : o < a ∨ a + 4 < o) : sJ (sJ I (a + 1) g x) a 1 v o = I o := by rw [sJ_o (by omega), sJ_o (by omega)]
set_option maxHeartbeats 4000000 in
set_option maxRecDepth 100000 in
theorem v_X8_pay (X : mCx) (d : Nat) {S : mSh} {I : mI} {R : mR} {s : Nat → Int32} {N G hb pb : Nat} {a i : Nat} {x : Int32} (hst : Std S I R a s N G hb pb) (hi : i < N) : CC X (d + 3) M_X8_pay [.ref a, .int (nI i), .int x] S (I, R) (none) S (sJ (sJ I (a + 2) i (s (1 + i) - x)) (a + 3) i (s (7 + i) + x), R) := by
  have hG8 := hst.G8
  have hN6 := hst.N6
  have h256 := hst.h256
  have p256 := hst.p256
  refine CC.of2 (L := [.ref a, .int (nI i), .int x]) p_X8 (Nat.le_of_ble_eq_true rfl) rfl trivial (List.prefix_refl S) ?_
  refine r_aload_n dX8_pay_0 rfl ?_
  refine g_getR dX8_pay_1 f_X8_22 (Std.sg (by assumption)) rfl (Std.r3 (by assumption)) ?_
  refine r_iload_n dX8_pay_4 rfl ?_
  refine r_aload_n dX8_pay_5 rfl ?_
  refine r_iload_n dX8_pay_6 rfl ?_
  refine r_V1 dX8_pay_7 l_X8_72 k_X8_coinsOf i_X8_coinsOf (Std.sg (by assumption)) ⟨_, rfl⟩ (Nat.le_of_ble_eq_true rfl) (v_X8_coinsOf X _ (by first | assumption | omega) (by first | assumption | omega)) (List.prefix_refl S) ?_
  refine r_iload_n dX8_pay_10 rfl ?_
  refine r_isub dX8_pay_11 ?_
  refine r_S3 dX8_pay_12 l_X8_44 k_X7_put s_X7_put (Nat.le_of_ble_eq_true rfl) (v_X7_put X _ (Std.s3 (by assumption)) (by omega) (by decide)) (List.prefix_refl S) ?_
  have h2 : Std S (sJ I (a + 2) i (s (1 + i) - x)) R a (up s (1 + i) (s (1 + i) - x)) N G hb pb := hst.set_coins hi
  refine r_aload_n dX8_pay_15 rfl ?_
  refine g_getR dX8_pay_16 f_X8_25 (Std.sg (by assumption)) rfl (Std.r4 (by assumption)) ?_
  refine r_iload_n dX8_pay_19 rfl ?_
  refine r_aload_n dX8_pay_20 rfl ?_
  refine r_iload_n dX8_pay_21 rfl ?_
  refine r_V1 dX8_pay_22 l_X8_75 k_X8_paidBy i_X8_paidBy (Std.sg (by assumption)) ⟨_, rfl⟩ (Nat.le_of_ble_eq_true rfl) (v_X8_paidBy X _ h2 hi) (List.prefix_refl S) ?_
  rw [up_ne (show 7 + i ≠ 1 + i by omega)]
  refine r_iload_n dX8_pay_25 rfl ?_
  refine r_iadd dX8_pay_26 ?_
  refine r_S3 dX8_pay_27 l_X8_44 k_X7_put s_X7_put (Nat.le_of_ble_eq_true rfl) (v_X7_put X _ (Std.s4 (by assumption)) (by omega) (by decide)) (List.prefix_refl S) ?_
  exact g_vret dX8_pay_30 rfl rfl

/-- who leaves: his goods that lie are nobody's -/
def sO (s : Nat → Int32) (i n : Nat) : Nat → Int32 := fun k => if 19 ≤ k ∧ k < 19 + n ∧ ly s (k - 19) i = true then -4 else s k
def lpO (I : mI) (a : Nat) (s : Nat → Int32) (i n : Nat) : mI := fun o b => if o = a + 1 ∧ b < n ∧ ly s b i = true then -4 else I o b
theorem lpO_0 (I : mI) (a : Nat) (s : Nat → Int32) (i : Nat) : lpO I a s i 0 = I := by funext o b; simp [lpO]
theorem sO_0 (s : Nat → Int32) (i : Nat) : sO s i 0 = s := by funext k; unfold sO; rw [if_neg (by omega)]
theorem sO_ly {s : Nat → Int32} {i n : Nat} (hn : n ≤ 8) : ly (sO s i n) n i = ly s n i := by
  unfold ly sO
  rw [if_neg (by omega), if_neg (by omega)]
theorem lpO_st {I : mI} {a : Nat} {s : Nat → Int32} {i j : Nat} (h : ly s j i = true) : sJ (lpO I a s i j) (a + 1) j (-4) = lpO I a s i (j + 1) := by
  funext o b
  unfold sJ lpO
  by_cases h1 : o = a + 1
  · subst h1
    by_cases h2 : b = j
    · subst h2; simp [h]
    · by_cases h3 : b < j
      · simp [h2, h3, show b < j + 1 by omega]
      · simp [h2, h3, show ¬ b < j + 1 by omega]
  · simp [h1]
theorem lpO_sf {I : mI} {a : Nat} {s : Nat → Int32} {i j : Nat} (h : ly s j i = false) : lpO I a s i j = lpO I a s i (j + 1) := by
  funext o b
  unfold lpO
  by_cases h2 : b = j
  · subst h2; simp [h]
  · by_cases h3 : b < j
    · simp [h3, show b < j + 1 by omega]
    · simp [h3, show ¬ b < j + 1 by omega]
theorem sO_st {s : Nat → Int32} {i j : Nat} (hj : j < 8) (h : ly s j i = true) : up (sO s i j) (19 + j) (-4) = sO s i (j + 1) := by
  funext k
  unfold up sO
  by_cases h2 : k = 19 + j
  · subst h2; simp [h]
  · by_cases h3 : k < 19 + j
    · simp [h2, h3, show k < 19 + (j + 1) by omega]
    · simp [h2, h3, show ¬ k < 19 + (j + 1) by omega]
theorem sO_sf {s : Nat → Int32} {i j : Nat} (h : ly s j i = false) : sO s i j = sO s i (j + 1) := by
  funext k
  unfold sO
  by_cases h2 : k = 19 + j
  · subst h2; simp [h]
  · by_cases h3 : k < 19 + j
    · simp [h3, show k < 19 + (j + 1) by omega]
    · simp [h3, show ¬ k < 19 + (j + 1) by omega]
theorem lpO_o {I : mI} {a : Nat} {s : Nat → Int32} {i n o : Nat} (h : o ≠ a + 1) : lpO I a s i n o = I o := by funext b; simp [lpO, h]
/-- the standing behind one's leaving -/
def sGo (s : Nat → Int32) (G hb i : Nat) (x : Int32) : Nat → Int32 := sO (up (up s 0 (nI (clr hb i))) (13 + i) x) i G
def gOH (I : mI) (a : Nat) (s : Nat → Int32) (hb i : Nat) (x : Int32) (n : Nat) : mI := lpO (sJ (sJ I a 0 (nI (clr hb i))) (a + 4) i x) a (up (up s 0 (nI (clr hb i))) (13 + i) x) i n
set_option maxHeartbeats 4000000 in
set_option maxRecDepth 100000 in
theorem v_X8_goOut (X : mCx) (d : Nat) {S : mSh} {I : mI} {R : mR} {s : Nat → Int32} {N G hb pb : Nat} {a i : Nat} {x : Int32} (hst : Std S I R a s N G hb pb) (hi : i < N) : CC X (d + 2) M_X8_goOut [.ref a, .int (nI i), .int x] S (I, R) (none) S (gOH I a s hb i x G, R) := by
  have hG8 := hst.G8
  have hN6 := hst.N6
  have h256 := hst.h256
  have p256 := hst.p256
  have hc := clr_le hb i
  have hb2 := hst.hb2
  refine CC.of2 (L := [.ref a, .int (nI i), .int x, .retAddr 0]) p_X8 (Nat.le_of_ble_eq_true rfl) rfl trivial (List.prefix_refl S) ?_
  refine r_aload_n dX8_goOut_0 rfl ?_
  refine r_dup dX8_goOut_1 rfl ?_
  refine g_getI dX8_goOut_2 f_X8_9 (Std.sg (by assumption)) rfl hst.here ?_
  refine r_iconst dX8_goOut_5 ic_1 ?_
  refine r_iload_n dX8_goOut_6 rfl ?_
  refine r_ishl dX8_goOut_7 ?_
  refine g_top (shl1 (by omega)) ?_
  refine r_iconst dX8_goOut_8 ic_m1 ?_
  refine r_ixor dX8_goOut_9 ?_
  refine r_iand dX8_goOut_10 ?_
  refine g_top (clr_eq (by omega) (by omega)) ?_
  refine g_putI dX8_goOut_11 f_X8_9 (Std.sg (by assumption)) rfl ?_
  have h2 := hst.set_here (b := clr hb i) (by omega)
  refine r_aload_n dX8_goOut_14 rfl ?_
  refine g_getR dX8_goOut_15 f_X8_28 (Std.sg (by assumption)) rfl (Std.r5 (by assumption)) ?_
  refine r_iload_n dX8_goOut_18 rfl ?_
  refine r_iload_n dX8_goOut_19 rfl ?_
  refine r_S3 dX8_goOut_20 l_X8_44 k_X7_put s_X7_put (Nat.le_of_ble_eq_true rfl) (v_X7_put X _ (Std.s5 (by assumption)) (by omega) (by decide)) (List.prefix_refl S) ?_
  have h3 : Std S (sJ (sJ I a 0 (nI (clr hb i))) (a + 4) i x) R a (up (up s 0 (nI (clr hb i))) (13 + i) x) N G (clr hb i) pb := h2.set_last hi
  refine r_iconst dX8_goOut_23 ic_0 ?_
  refine r_istore_n (L' := [_, _, _, _]) dX8_goOut_24 rfl rfl ?_
  refine JJ.loop G (fun j => [.ref a, .int (nI i), .int x, .int (nI j)]) (fun j => (gOH I a s hb i x j, R)) (fun j => Std S (gOH I a s hb i x j) R a (sO (up (up s 0 (nI (clr hb i))) (13 + i) x) i j) N G (clr hb i) pb) (by simp [nI_0, nSum, nFold]) (by unfold gOH; rw [lpO_0]) (by unfold gOH; rw [lpO_0, sO_0]; exact h3) (fun hp => ?_) (fun j hj hp K => ?_)
  · skip
    refine r_iload_n dX8_goOut_25 rfl ?_
    refine r_aload_n dX8_goOut_26 rfl ?_
    refine g_getI dX8_goOut_27 f_X8_31 (Std.sg (by assumption)) rfl hp.hG ?_
    refine n_icmp_ge (tgt := 58) dX8_goOut_30 (by decide) (by omega) (by omega) (fun c30 => ?_) (fun c30 => absurd c30 (by omega))
    exact g_vret dX8_goOut_58 rfl rfl
  · skip
    refine r_iload_n dX8_goOut_25 rfl ?_
    refine r_aload_n dX8_goOut_26 rfl ?_
    refine g_getI dX8_goOut_27 f_X8_31 (Std.sg (by assumption)) rfl hp.hG ?_
    refine n_icmp_ge (tgt := 58) dX8_goOut_30 (by decide) (by omega) (by omega) (fun c30 => absurd c30 (by omega)) (fun c30 => ?_)
    refine r_aload_n dX8_goOut_33 rfl ?_
    refine r_iload_n dX8_goOut_34 rfl ?_
    refine r_iload_n dX8_goOut_35 rfl ?_
    refine r_V2 dX8_goOut_36 l_X8_78 k_X8_lies i_X8_lies (Std.sg (by assumption)) ⟨_, rfl⟩ (Nat.le_of_ble_eq_true rfl) (v_X8_lies X _ hp (by omega)) (List.prefix_refl S) ?_
    rw [sO_ly (by omega)]
    refine r_ifB_eq (tgt := 52) dX8_goOut_39 (by decide) (fun c39 => ?_) (fun c39 => ?_)
    · skip
      refine r_iinc (L' := [_, _, _, _]) dX8_goOut_52 rfl rfl (nI_inc _) rfl ?_
      refine r_goto (tgt := 25) dX8_goOut_55 (by decide) ?_
      first | exact JJ.to (K (by unfold gOH; rw [← lpO_sf c39, ← sO_sf c39]; exact hp)) rfl rfl (by unfold gOH; rw [lpO_sf c39]) | exact JJ.to (K (by unfold gOH; rw [← lpO_st c39, ← sO_st (by omega) c39]; exact hp.set_own (by omega))) rfl rfl (by unfold gOH; rw [lpO_st c39])
    · skip
      refine r_aload_n dX8_goOut_42 rfl ?_
      refine g_getR dX8_goOut_43 f_X8_18 (Std.sg (by assumption)) rfl (Std.r2 (by assumption)) ?_
      refine r_iload_n dX8_goOut_46 rfl ?_
      refine r_bipush dX8_goOut_47 bp_m4 ?_
      refine r_S3 dX8_goOut_49 l_X8_44 k_X7_put s_X7_put (Nat.le_of_ble_eq_true rfl) (v_X7_put X _ (Std.s2 (by assumption)) (by omega) (by decide)) (List.prefix_refl S) ?_
      refine r_iinc (L' := [_, _, _, _]) dX8_goOut_52 rfl rfl (nI_inc _) rfl ?_
      refine r_goto (tgt := 25) dX8_goOut_55 (by decide) ?_
      first | exact JJ.to (K (by unfold gOH; rw [← lpO_sf c39, ← sO_sf c39]; exact hp)) rfl rfl (by unfold gOH; rw [lpO_sf c39]) | exact JJ.to (K (by unfold gOH; rw [← lpO_st c39, ← sO_st (by omega) c39]; exact hp.set_own (by omega))) rfl rfl (by unfold gOH; rw [lpO_st c39])

def payH (I : mI) (a : Nat) (s : Nat → Int32) (i : Nat) (x : Int32) : mI := sJ (sJ I (a + 2) i (s (1 + i) - x)) (a + 3) i (s (7 + i) + x)
def payS (s : Nat → Int32) (i : Nat) (x : Int32) : Nat → Int32 := up (up s (1 + i) (s (1 + i) - x)) (7 + i) (s (7 + i) + x)
section
variable {S : mSh} {I : mI} {R : mR} {a : Nat} {s : Nat → Int32} {N G hb pb i : Nat} {x : Int32}
theorem Std.pay (q : Std S I R a s N G hb pb) (hi : i < N) : Std S (payH I a s i x) R a (payS s i x) N G hb pb := (q.set_coins hi).set_paid hi
theorem payH_fr {o : Nat} (h : o < a ∨ a + 4 < o) : payH I a s i x o = I o := by unfold payH; rw [sJ_o (by omega), sJ_o (by omega)]
theorem gOH_fr {o n : Nat} (h : o < a ∨ a + 4 < o) : gOH I a s hb i x n o = I o := by unfold gOH; rw [lpO_o (by omega), sJ_o (by omega), sJ_o (by omega)]
theorem Std.out (q : Std S I R a s N G hb pb) (hi : i < N) : Std S (gOH I a s hb i x G) R a (sGo s G hb i x) N G (clr hb i) pb := by
  have h3 := (q.set_here (b := clr hb i) (Nat.lt_of_le_of_lt (clr_le hb i) q.hb2)).set_last (v := x) hi
  have key : ∀ n, n ≤ G → Std S (gOH I a s hb i x n) R a (sO (up (up s 0 (nI (clr hb i))) (13 + i) x) i n) N G (clr hb i) pb := by
    intro n
    induction n with
    | zero => intro _; unfold gOH; rw [lpO_0, sO_0]; exact h3
    | succ n ih =>
      intro hn
      have hG := q.G8
      have h4 := ih (by omega)
      cases hc : ly (up (up s 0 (nI (clr hb i))) (13 + i) x) n i
      · unfold gOH; rw [← lpO_sf hc, ← sO_sf hc]; exact h4
      · unfold gOH; rw [← lpO_st hc, ← sO_st (by omega) hc]; exact h4.set_own (by omega)
  exact key G (Nat.le_refl G)
end
/-- what one owes now, alone; what he pays to leave, to come back (-2: he can not) -/
def owe (w s : Nat → Int32) (N G hb i : Nat) : Int32 := duty w i (gLeft w s G i + lLeft w N i hb)
def fOut (w s : Nat → Int32) (N G hb i : Nat) : Int32 := if hb.testBit i = false ∨ alone w N (clr hb i) = true then -2 else if s (1 + i) < owe w s N G hb i then -2 else owe w s N G hb i
def feeB (w s : Nat → Int32) (i : Nat) : Int32 := if w (3 + i) = nI 2 then s (13 + i) else nI 0
def fBack (w s : Nat → Int32) (hb i : Nat) : Int32 := if hb.testBit i = true then -2 else if s (1 + i) < feeB w s i then -2 else feeB w s i
set_option maxHeartbeats 4000000 in
set_option maxRecDepth 100000 in
theorem v_X2_feeToLeave (X : mCx) (d : Nat) {S : mSh} {I : mI} {R : mR} {w s : Nat → Int32} {N G hb pb : Nat} {f a i : Nat} (hf : Fam S I R f w N G) (hst : Std S I R a s N G hb pb) (hi : i < N) : CC X (d + 5) M_X2_feeToLeave [.ref f, .ref a, .int (nI i)] S (I, R) (some (.int (fOut w s N G hb i))) S (I, R) := by
  have hG8 := hst.G8
  have hN6 := hst.N6
  have h256 := hst.h256
  have p256 := hst.p256
  have hc := clr_le hb i
  refine CC.of2 (L := [.ref f, .ref a, .int (nI i), .retAddr 0]) p_X2 (Nat.le_of_ble_eq_true rfl) rfl rfl (List.prefix_refl S) ?_
  refine r_aload_n dX2_feeToLeave_0 rfl ?_
  refine r_iload_n dX2_feeToLeave_1 rfl ?_
  refine r_V1 dX2_feeToLeave_2 l_X2_9 k_X8_isHere i_X8_isHere (Std.sg (by assumption)) ⟨_, rfl⟩ (Nat.le_of_ble_eq_true rfl) (v_X8_isHere X _ (by first | assumption | omega) (by first | assumption | omega)) (List.prefix_refl S) ?_
  refine r_ifB_eq (tgt := 25) dX2_feeToLeave_5 (by decide) (fun c5 => ?_) (fun c5 => ?_)
  · skip
    refine r_bipush dX2_feeToLeave_25 bp_m2 ?_
    exact g_iret dX2_feeToLeave_27 (by simp [fOut, owe, *]) rfl
  · skip
    refine r_aload_n dX2_feeToLeave_8 rfl ?_
    refine r_aload_n dX2_feeToLeave_9 rfl ?_
    refine g_getI dX2_feeToLeave_10 f_X2_15 (Std.sg (by assumption)) rfl hst.here ?_
    refine r_iconst dX2_feeToLeave_13 ic_1 ?_
    refine r_iload_n dX2_feeToLeave_14 rfl ?_
    refine r_ishl dX2_feeToLeave_15 ?_
    refine g_top (shl1 (by omega)) ?_
    refine r_iconst dX2_feeToLeave_16 ic_m1 ?_
    refine r_ixor dX2_feeToLeave_17 ?_
    refine r_iand dX2_feeToLeave_18 ?_
    refine g_top (clr_eq (by omega) (by omega)) ?_
    refine r_V1 dX2_feeToLeave_19 l_X2_19 k_X1_isLonelyGrandmother i_X1_isLonelyGrandmother (Fam.sg (by assumption)) ⟨_, rfl⟩ (Nat.le_of_ble_eq_true rfl) (v_X1_isLonelyGrandmother X _ (by first | assumption | omega) (by first | assumption | omega)) (List.prefix_refl S) ?_
    refine r_ifB_eq (tgt := 28) dX2_feeToLeave_22 (by decide) (fun c22 => ?_) (fun c22 => ?_)
    · skip
      refine r_aload_n dX2_feeToLeave_28 rfl ?_
      refine r_aload_n dX2_feeToLeave_29 rfl ?_
      refine r_iload_n dX2_feeToLeave_30 rfl ?_
      refine r_S3 dX2_feeToLeave_31 l_X2_24 k_X0_owed s_X0_owed (Nat.le_of_ble_eq_true rfl) (v_X0_owed X _ (by first | assumption | omega) (by first | assumption | omega) (by first | assumption | omega)) (List.prefix_refl S) ?_
      refine r_istore_n (L' := [_, _, _, _]) dX2_feeToLeave_34 rfl rfl ?_
      refine r_iload_n dX2_feeToLeave_35 rfl ?_
      refine r_aload_n dX2_feeToLeave_36 rfl ?_
      refine r_iload_n dX2_feeToLeave_37 rfl ?_
      refine r_V1 dX2_feeToLeave_38 l_X2_30 k_X8_coinsOf i_X8_coinsOf (Std.sg (by assumption)) ⟨_, rfl⟩ (Nat.le_of_ble_eq_true rfl) (v_X8_coinsOf X _ (by first | assumption | omega) (by first | assumption | omega)) (List.prefix_refl S) ?_
      refine r_icmp_gt (tgt := 48) dX2_feeToLeave_41 (by decide) (fun c41 => ?_) (fun c41 => ?_)
      · skip
        refine r_bipush dX2_feeToLeave_48 bp_m2 ?_
        exact g_iret dX2_feeToLeave_50 (by simp [fOut, owe, *]) rfl
      · skip
        refine r_iload_n dX2_feeToLeave_44 rfl ?_
        refine r_goto (tgt := 50) dX2_feeToLeave_45 (by decide) ?_
        exact g_iret dX2_feeToLeave_50 (by simp [fOut, owe, *]) rfl
    · skip
      refine r_bipush dX2_feeToLeave_25 bp_m2 ?_
      exact g_iret dX2_feeToLeave_27 (by simp [fOut, owe, *]) rfl

set_option maxHeartbeats 4000000 in
set_option maxRecDepth 100000 in
theorem v_X2_feeToReturn (X : mCx) (d : Nat) {S : mSh} {I : mI} {R : mR} {w s : Nat → Int32} {N G hb pb : Nat} {f a i : Nat} (hf : Fam S I R f w N G) (hst : Std S I R a s N G hb pb) (hi : i < N) : CC X (d + 3) M_X2_feeToReturn [.ref f, .ref a, .int (nI i)] S (I, R) (some (.int (fBack w s hb i))) S (I, R) := by
  have hG8 := hst.G8
  have hN6 := hst.N6
  have h256 := hst.h256
  have p256 := hst.p256
  refine CC.of2 (L := [.ref f, .ref a, .int (nI i), .retAddr 0]) p_X2 (Nat.le_of_ble_eq_true rfl) rfl rfl (List.prefix_refl S) ?_
  refine r_aload_n dX2_feeToReturn_0 rfl ?_
  refine r_iload_n dX2_feeToReturn_1 rfl ?_
  refine r_V1 dX2_feeToReturn_2 l_X2_9 k_X8_isHere i_X8_isHere (Std.sg (by assumption)) ⟨_, rfl⟩ (Nat.le_of_ble_eq_true rfl) (v_X8_isHere X _ (by first | assumption | omega) (by first | assumption | omega)) (List.prefix_refl S) ?_
  refine r_ifB_eq (tgt := 11) dX2_feeToReturn_5 (by decide) (fun c5 => ?_) (fun c5 => ?_)
  · skip
    refine r_aload_n dX2_feeToReturn_11 rfl ?_
    refine r_iload_n dX2_feeToReturn_12 rfl ?_
    refine r_V1 dX2_feeToReturn_13 l_X2_34 k_X1_kindOf i_X1_kindOf (Fam.sg (by assumption)) ⟨_, rfl⟩ (Nat.le_of_ble_eq_true rfl) (v_X1_kindOf X _ (by first | assumption | omega) (by first | assumption | omega)) (List.prefix_refl S) ?_
    refine r_iconst dX2_feeToReturn_16 ic_2 ?_
    refine r_icmp_ne (tgt := 28) dX2_feeToReturn_17 (by decide) (fun c17 => ?_) (fun c17 => ?_)
    · skip
      refine r_iconst dX2_feeToReturn_28 ic_0 ?_
      refine r_istore_n (L' := [_, _, _, _]) dX2_feeToReturn_29 rfl rfl ?_
      refine r_iload_n dX2_feeToReturn_30 rfl ?_
      refine r_aload_n dX2_feeToReturn_31 rfl ?_
      refine r_iload_n dX2_feeToReturn_32 rfl ?_
      refine r_V1 dX2_feeToReturn_33 l_X2_30 k_X8_coinsOf i_X8_coinsOf (Std.sg (by assumption)) ⟨_, rfl⟩ (Nat.le_of_ble_eq_true rfl) (v_X8_coinsOf X _ (by first | assumption | omega) (by first | assumption | omega)) (List.prefix_refl S) ?_
      refine r_icmp_gt (tgt := 43) dX2_feeToReturn_36 (by decide) (fun c36 => ?_) (fun c36 => ?_)
      · skip
        refine r_bipush dX2_feeToReturn_43 bp_m2 ?_
        exact g_iret dX2_feeToReturn_45 (by simp [fBack, feeB, *]) rfl
      · skip
        refine r_iload_n dX2_feeToReturn_39 rfl ?_
        refine r_goto (tgt := 45) dX2_feeToReturn_40 (by decide) ?_
        exact g_iret dX2_feeToReturn_45 (by simp [fBack, feeB, *]) rfl
    · skip
      refine r_aload_n dX2_feeToReturn_20 rfl ?_
      refine r_iload_n dX2_feeToReturn_21 rfl ?_
      refine r_V1 dX2_feeToReturn_22 l_X2_37 k_X8_paidLastBy i_X8_paidLastBy (Std.sg (by assumption)) ⟨_, rfl⟩ (Nat.le_of_ble_eq_true rfl) (v_X8_paidLastBy X _ (by first | assumption | omega) (by first | assumption | omega)) (List.prefix_refl S) ?_
      refine r_goto (tgt := 29) dX2_feeToReturn_25 (by decide) ?_
      refine r_istore_n (L' := [_, _, _, _]) dX2_feeToReturn_29 rfl rfl ?_
      refine r_iload_n dX2_feeToReturn_30 rfl ?_
      refine r_aload_n dX2_feeToReturn_31 rfl ?_
      refine r_iload_n dX2_feeToReturn_32 rfl ?_
      refine r_V1 dX2_feeToReturn_33 l_X2_30 k_X8_coinsOf i_X8_coinsOf (Std.sg (by assumption)) ⟨_, rfl⟩ (Nat.le_of_ble_eq_true rfl) (v_X8_coinsOf X _ (by first | assumption | omega) (by first | assumption | omega)) (List.prefix_refl S) ?_
      refine r_icmp_gt (tgt := 43) dX2_feeToReturn_36 (by decide) (fun c36 => ?_) (fun c36 => ?_)
      · skip
        refine r_bipush dX2_feeToReturn_43 bp_m2 ?_
        exact g_iret dX2_feeToReturn_45 (by simp [fBack, feeB, *]) rfl
      · skip
        refine r_iload_n dX2_feeToReturn_39 rfl ?_
        refine r_goto (tgt := 45) dX2_feeToReturn_40 (by decide) ?_
        exact g_iret dX2_feeToReturn_45 (by simp [fBack, feeB, *]) rfl
  · skip
    refine r_bipush dX2_feeToReturn_8 bp_m2 ?_
    exact g_iret dX2_feeToReturn_10 (by simp [fBack, feeB, *]) rfl

set_option maxHeartbeats 4000000 in
set_option maxRecDepth 100000 in
theorem v_X8_comeIn (X : mCx) (d : Nat) {S : mSh} {I : mI} {R : mR} {s : Nat → Int32} {N G hb pb : Nat} {a i : Nat} (hst : Std S I R a s N G hb pb) (hi : i < N) : CC X (d + 1) M_X8_comeIn [.ref a, .int (nI i)] S (I, R) (none) S (sJ I a 0 (nI (hb ||| 2 ^ i)), R) := by
  have hG8 := hst.G8
  have hN6 := hst.N6
  have h256 := hst.h256
  have p256 := hst.p256
  refine CC.of2 (L := [.ref a, .int (nI i)]) p_X8 (Nat.le_of_ble_eq_true rfl) rfl trivial (List.prefix_refl S) ?_
  refine r_aload_n dX8_comeIn_0 rfl ?_
  refine r_dup dX8_comeIn_1 rfl ?_
  refine g_getI dX8_comeIn_2 f_X8_9 (Std.sg (by assumption)) rfl hst.here ?_
  refine r_iconst dX8_comeIn_5 ic_1 ?_
  refine r_iload_n dX8_comeIn_6 rfl ?_
  refine r_ishl dX8_comeIn_7 ?_
  refine g_top (shl1 (by omega)) ?_
  refine r_ior dX8_comeIn_8 ?_
  refine g_top (nI_or _ _) ?_
  refine g_putI dX8_comeIn_9 f_X8_9 (Std.sg (by assumption)) rfl ?_
  exact g_vret dX8_comeIn_12 rfl rfl

set_option maxHeartbeats 4000000 in
set_option maxRecDepth 100000 in
theorem v_X2_depart (X : mCx) (d : Nat) {S : mSh} {I : mI} {R : mR} {s : Nat → Int32} {N G hb pb : Nat} {a i : Nat} {x : Int32} (hst : Std S I R a s N G hb pb) (hi : i < N) : CC X (d + 4) M_X2_depart [.ref a, .int (nI i), .int x] S (I, R) (none) S (gOH (payH I a s i x) a (payS s i x) hb i x G, R) := by
  have hG8 := hst.G8
  have hN6 := hst.N6
  have h256 := hst.h256
  have p256 := hst.p256
  refine CC.of2 (L := [.ref a, .int (nI i), .int x]) p_X2 (Nat.le_of_ble_eq_true rfl) rfl trivial (List.prefix_refl S) ?_
  refine r_aload_n dX2_depart_0 rfl ?_
  refine r_iload_n dX2_depart_1 rfl ?_
  refine r_iload_n dX2_depart_2 rfl ?_
  refine r_V2 dX2_depart_3 l_X2_40 k_X8_pay i_X8_pay (Std.sg (by assumption)) ⟨_, rfl⟩ (Nat.le_of_ble_eq_true rfl) (v_X8_pay X _ (by first | assumption | omega) (by first | assumption | omega)) (List.prefix_refl S) ?_
  have h2 : Std S (payH I a s i x) R a (payS s i x) N G hb pb := hst.pay hi
  refine r_aload_n dX2_depart_6 rfl ?_
  refine r_iload_n dX2_depart_7 rfl ?_
  refine r_iload_n dX2_depart_8 rfl ?_
  refine r_V2 dX2_depart_9 l_X2_44 k_X8_goOut i_X8_goOut (Std.sg (by assumption)) ⟨_, rfl⟩ (Nat.le_of_ble_eq_true rfl) (v_X8_goOut X _ h2 hi) (List.prefix_refl S) ?_
  exact g_vret dX2_depart_12 rfl rfl

set_option maxHeartbeats 4000000 in
set_option maxRecDepth 100000 in
theorem v_X2_arrive (X : mCx) (d : Nat) {S : mSh} {I : mI} {R : mR} {s : Nat → Int32} {N G hb pb : Nat} {a i : Nat} {x : Int32} (hst : Std S I R a s N G hb pb) (hi : i < N) : CC X (d + 4) M_X2_arrive [.ref a, .int (nI i), .int x] S (I, R) (none) S (sJ (payH I a s i x) a 0 (nI (hb ||| 2 ^ i)), R) := by
  have hG8 := hst.G8
  have hN6 := hst.N6
  have h256 := hst.h256
  have p256 := hst.p256
  refine CC.of2 (L := [.ref a, .int (nI i), .int x]) p_X2 (Nat.le_of_ble_eq_true rfl) rfl trivial (List.prefix_refl S) ?_
  refine r_aload_n dX2_arrive_0 rfl ?_
  refine r_iload_n dX2_arrive_1 rfl ?_
  refine r_iload_n dX2_arrive_2 rfl ?_
  refine r_V2 dX2_arrive_3 l_X2_40 k_X8_pay i_X8_pay (Std.sg (by assumption)) ⟨_, rfl⟩ (Nat.le_of_ble_eq_true rfl) (v_X8_pay X _ (by first | assumption | omega) (by first | assumption | omega)) (List.prefix_refl S) ?_
  have h2 : Std S (payH I a s i x) R a (payS s i x) N G hb pb := hst.pay hi
  refine r_aload_n dX2_arrive_6 rfl ?_
  refine r_iload_n dX2_arrive_7 rfl ?_
  refine r_V1 dX2_arrive_8 l_X2_47 k_X8_comeIn i_X8_comeIn (Std.sg (by assumption)) ⟨_, rfl⟩ (Nat.le_of_ble_eq_true rfl) (v_X8_comeIn X _ h2 hi) (List.prefix_refl S) ?_
  exact g_vret dX2_arrive_11 rfl rfl

def crFee (w s : Nat → Int32) (N G hb i : Nat) : Int32 := if hb.testBit i = true then fOut w s N G hb i else fBack w s hb i
/-- one step of a year -/
def crR (w s : Nat → Int32) (N G hb i : Nat) : Int32 := if crFee w s N G hb i < nI 0 then nI 0 else crFee w s N G hb i
def crS (w s : Nat → Int32) (N G hb i : Nat) : Nat → Int32 := if crFee w s N G hb i < nI 0 then s else if hb.testBit i = true then sGo (payS s i (crFee w s N G hb i)) G hb i (crFee w s N G hb i) else up (payS s i (crFee w s N G hb i)) 0 (nI (hb ||| 2 ^ i))
def crB (w s : Nat → Int32) (N G hb i : Nat) : Nat := if crFee w s N G hb i < nI 0 then hb else if hb.testBit i = true then clr hb i else hb ||| 2 ^ i
def crH (I : mI) (a : Nat) (w s : Nat → Int32) (N G hb i : Nat) : mI := if crFee w s N G hb i < nI 0 then I else if hb.testBit i = true then gOH (payH I a s i (crFee w s N G hb i)) a (payS s i (crFee w s N G hb i)) hb i (crFee w s N G hb i) G else sJ (payH I a s i (crFee w s N G hb i)) a 0 (nI (hb ||| 2 ^ i))
theorem Std.cr {S : mSh} {I : mI} {R : mR} {a : Nat} {w s : Nat → Int32} {N G hb pb i : Nat} (q : Std S I R a s N G hb pb) (hi : i < N) : Std S (crH I a w s N G hb i) R a (crS w s N G hb i) N G (crB w s N G hb i) pb := by
  unfold crH crS crB
  by_cases h1 : crFee w s N G hb i < nI 0
  · rw [if_pos h1, if_pos h1, if_pos h1]; exact q
  · rw [if_neg h1, if_neg h1, if_neg h1]
    by_cases h2 : hb.testBit i = true
    · rw [if_pos h2, if_pos h2, if_pos h2]; exact (q.pay hi).out hi
    · rw [if_neg h2, if_neg h2, if_neg h2]; exact (q.pay hi).set_here (or_lt q.hb2 hi)
theorem crH_fr {I : mI} {a : Nat} {w s : Nat → Int32} {N G hb i o : Nat} (h : o < a ∨ a + 4 < o) : crH I a w s N G hb i o = I o := by
  unfold crH
  split
  · rfl
  · split
    · rw [gOH_fr h, payH_fr h]
    · rw [sJ_o (by omega), payH_fr h]
set_option maxHeartbeats 4000000 in
set_option maxRecDepth 100000 in
theorem v_X2_cross (X : mCx) (d : Nat) {S : mSh} {I : mI} {R : mR} {w s : Nat → Int32} {N G hb pb : Nat} {f a i : Nat} (hf : Fam S I R f w N G) (hst : Std S I R a s N G hb pb) (hi : i < N) : CC X (d + 6) M_X2_cross [.ref f, .ref a, .int (nI i)] S (I, R) (some (.int (crR w s N G hb i))) S (crH I a w s N G hb i, R) := by
  have hG8 := hst.G8
  have hN6 := hst.N6
  have h256 := hst.h256
  have p256 := hst.p256
  refine CC.of2 (L := [.ref f, .ref a, .int (nI i), .retAddr 0, .retAddr 0]) p_X2 (Nat.le_of_ble_eq_true rfl) rfl rfl (List.prefix_refl S) ?_
  refine r_aload_n dX2_cross_0 rfl ?_
  refine r_iload_n dX2_cross_1 rfl ?_
  refine r_V1 dX2_cross_2 l_X2_9 k_X8_isHere i_X8_isHere (Std.sg (by assumption)) ⟨_, rfl⟩ (Nat.le_of_ble_eq_true rfl) (v_X8_isHere X _ (by first | assumption | omega) (by first | assumption | omega)) (List.prefix_refl S) ?_
  refine r_istore_n (L' := [_, _, _, _, _]) dX2_cross_5 rfl rfl ?_
  refine r_iload_n dX2_cross_6 rfl ?_
  refine r_ifB_eq (tgt := 19) dX2_cross_7 (by decide) (fun c7 => ?_) (fun c7 => ?_)
  · have ef : fBack w s hb i = crFee w s N G hb i := by simp [crFee, c7]
    refine r_aload_n dX2_cross_19 rfl ?_
    refine r_aload_n dX2_cross_20 rfl ?_
    refine r_iload_n dX2_cross_21 rfl ?_
    refine r_S3 dX2_cross_22 l_X2_56 k_X2_feeToReturn s_X2_feeToReturn (Nat.le_of_ble_eq_true rfl) (v_X2_feeToReturn X _ (by first | assumption | omega) (by first | assumption | omega) (by first | assumption | omega)) (List.prefix_refl S) ?_
    rw [ef]
    refine r_istore (L' := [_, _, _, _, _]) dX2_cross_25 rfl rfl ?_
    refine r_iload dX2_cross_27 rfl ?_
    refine r_if_ge (tgt := 34) dX2_cross_29 (by decide) (fun c29 => ?_) (fun c29 => ?_)
    · have c29 : ¬ crFee w s N G hb i < nI 0 := Int32.not_lt.mpr c29
      refine r_iload_n dX2_cross_34 rfl ?_
      refine r_ifB_eq (tgt := 48) dX2_cross_35 (by decide) (fun c35 => ?_) (fun c35 => absurd (c7.symm.trans c35) (by decide))
      refine r_aload_n dX2_cross_48 rfl ?_
      refine r_iload_n dX2_cross_49 rfl ?_
      refine r_iload dX2_cross_50 rfl ?_
      refine r_S3 dX2_cross_52 l_X2_63 k_X2_arrive s_X2_arrive (Nat.le_of_ble_eq_true rfl) (v_X2_arrive X _ (by first | assumption | omega) (by first | assumption | omega)) (List.prefix_refl S) ?_
      refine r_iload dX2_cross_55 rfl ?_
      exact g_iret dX2_cross_57 (by simp [crR, c29]) (by unfold crH; rw [if_neg c29]; first | rw [if_pos c35] | rw [if_neg (by rw [c35]; decide)])
    · have c29 : crFee w s N G hb i < nI 0 := Int32.not_le.mp c29
      refine r_iconst dX2_cross_32 ic_0 ?_
      exact g_iret dX2_cross_33 (by simp [crR, c29]) (by unfold crH; rw [if_pos c29])
  · have ef : fOut w s N G hb i = crFee w s N G hb i := by simp [crFee, c7]
    refine r_aload_n dX2_cross_10 rfl ?_
    refine r_aload_n dX2_cross_11 rfl ?_
    refine r_iload_n dX2_cross_12 rfl ?_
    refine r_S3 dX2_cross_13 l_X2_51 k_X2_feeToLeave s_X2_feeToLeave (Nat.le_of_ble_eq_true rfl) (v_X2_feeToLeave X _ (by first | assumption | omega) (by first | assumption | omega) (by first | assumption | omega)) (List.prefix_refl S) ?_
    refine r_goto (tgt := 25) dX2_cross_16 (by decide) ?_
    rw [ef]
    refine r_istore (L' := [_, _, _, _, _]) dX2_cross_25 rfl rfl ?_
    refine r_iload dX2_cross_27 rfl ?_
    refine r_if_ge (tgt := 34) dX2_cross_29 (by decide) (fun c29 => ?_) (fun c29 => ?_)
    · have c29 : ¬ crFee w s N G hb i < nI 0 := Int32.not_lt.mpr c29
      refine r_iload_n dX2_cross_34 rfl ?_
      refine r_ifB_eq (tgt := 48) dX2_cross_35 (by decide) (fun c35 => absurd (c7.symm.trans c35) (by decide)) (fun c35 => ?_)
      refine r_aload_n dX2_cross_38 rfl ?_
      refine r_iload_n dX2_cross_39 rfl ?_
      refine r_iload dX2_cross_40 rfl ?_
      refine r_S3 dX2_cross_42 l_X2_59 k_X2_depart s_X2_depart (Nat.le_of_ble_eq_true rfl) (v_X2_depart X _ (by first | assumption | omega) (by first | assumption | omega)) (List.prefix_refl S) ?_
      refine r_goto (tgt := 55) dX2_cross_45 (by decide) ?_
      refine r_iload dX2_cross_55 rfl ?_
      exact g_iret dX2_cross_57 (by simp [crR, c29]) (by unfold crH; rw [if_neg c29]; first | rw [if_pos c35] | rw [if_neg (by rw [c35]; decide)])
    · have c29 : crFee w s N G hb i < nI 0 := Int32.not_le.mp c29
      refine r_iconst dX2_cross_32 ic_0 ?_
      exact g_iret dX2_cross_33 (by simp [crR, c29]) (by unfold crH; rw [if_pos c29])

