/-! ===== the class itself: what it reads ===== -/
def Cla (S : mSh) (R : mR) (f dr : Nat) : Prop := (mSg S 1 = some (7, 11)) ∧ (R 1 0 = 2) ∧ (R 1 1 = 4) ∧ (R 1 2 = 6) ∧ (R 1 3 = 11) ∧ (R 1 4 = 16) ∧ (R 1 5 = 58) ∧ (R 1 6 = 70) ∧ (R 1 7 = 73) ∧ (R 1 8 = 76) ∧ (R 1 9 = f) ∧ (R 1 10 = dr) ∧ (Txt S R 2) ∧ (Rea S R 4) ∧ (Sto S R 6) ∧ (Sto S R 11) ∧ (Pio S R 16 8) ∧ (Pio S R 58 2) ∧ (Oat S R 70) ∧ (Ord S R 73) ∧ (mSg S 76 = some (20, 5)) ∧ ((f = 77 ∧ dr = 87) ∨ (f = 87 ∧ dr = 77))
theorem Cla.sg {S : mSh} {R : mR} {f dr : Nat} (q : Cla S R f dr) : mSg S 1 = some (7, 11) := q.1
theorem Cla.f0 {S : mSh} {R : mR} {f dr : Nat} (q : Cla S R f dr) : R 1 0 = 2 := q.2.1
theorem Cla.f1 {S : mSh} {R : mR} {f dr : Nat} (q : Cla S R f dr) : R 1 1 = 4 := q.2.2.1
theorem Cla.f2 {S : mSh} {R : mR} {f dr : Nat} (q : Cla S R f dr) : R 1 2 = 6 := q.2.2.2.1
theorem Cla.f3 {S : mSh} {R : mR} {f dr : Nat} (q : Cla S R f dr) : R 1 3 = 11 := q.2.2.2.2.1
theorem Cla.f4 {S : mSh} {R : mR} {f dr : Nat} (q : Cla S R f dr) : R 1 4 = 16 := q.2.2.2.2.2.1
theorem Cla.f5 {S : mSh} {R : mR} {f dr : Nat} (q : Cla S R f dr) : R 1 5 = 58 := q.2.2.2.2.2.2.1
theorem Cla.f6 {S : mSh} {R : mR} {f dr : Nat} (q : Cla S R f dr) : R 1 6 = 70 := q.2.2.2.2.2.2.2.1
theorem Cla.f7 {S : mSh} {R : mR} {f dr : Nat} (q : Cla S R f dr) : R 1 7 = 73 := q.2.2.2.2.2.2.2.2.1
theorem Cla.f8 {S : mSh} {R : mR} {f dr : Nat} (q : Cla S R f dr) : R 1 8 = 76 := q.2.2.2.2.2.2.2.2.2.1
theorem Cla.f9 {S : mSh} {R : mR} {f dr : Nat} (q : Cla S R f dr) : R 1 9 = f := q.2.2.2.2.2.2.2.2.2.2.1
theorem Cla.f10 {S : mSh} {R : mR} {f dr : Nat} (q : Cla S R f dr) : R 1 10 = dr := q.2.2.2.2.2.2.2.2.2.2.2.1
theorem Cla.txt {S : mSh} {R : mR} {f dr : Nat} (q : Cla S R f dr) : Txt S R 2 := q.2.2.2.2.2.2.2.2.2.2.2.2.1
theorem Cla.rea {S : mSh} {R : mR} {f dr : Nat} (q : Cla S R f dr) : Rea S R 4 := q.2.2.2.2.2.2.2.2.2.2.2.2.2.1
theorem Cla.now {S : mSh} {R : mR} {f dr : Nat} (q : Cla S R f dr) : Sto S R 6 := q.2.2.2.2.2.2.2.2.2.2.2.2.2.2.1
theorem Cla.tri {S : mSh} {R : mR} {f dr : Nat} (q : Cla S R f dr) : Sto S R 11 := q.2.2.2.2.2.2.2.2.2.2.2.2.2.2.2.1
theorem Cla.und {S : mSh} {R : mR} {f dr : Nat} (q : Cla S R f dr) : Pio S R 16 8 := q.2.2.2.2.2.2.2.2.2.2.2.2.2.2.2.2.1
theorem Cla.kep {S : mSh} {R : mR} {f dr : Nat} (q : Cla S R f dr) : Pio S R 58 2 := q.2.2.2.2.2.2.2.2.2.2.2.2.2.2.2.2.2.1
theorem Cla.oat {S : mSh} {R : mR} {f dr : Nat} (q : Cla S R f dr) : Oat S R 70 := q.2.2.2.2.2.2.2.2.2.2.2.2.2.2.2.2.2.2.1
theorem Cla.ord {S : mSh} {R : mR} {f dr : Nat} (q : Cla S R f dr) : Ord S R 73 := q.2.2.2.2.2.2.2.2.2.2.2.2.2.2.2.2.2.2.2.1
theorem Cla.gif {S : mSh} {R : mR} {f dr : Nat} (q : Cla S R f dr) : mSg S 76 = some (20, 5) := q.2.2.2.2.2.2.2.2.2.2.2.2.2.2.2.2.2.2.2.2.1
theorem Cla.two {S : mSh} {R : mR} {f dr : Nat} (q : Cla S R f dr) : (f = 77 ∧ dr = 87) ∨ (f = 87 ∧ dr = 77) := q.2.2.2.2.2.2.2.2.2.2.2.2.2.2.2.2.2.2.2.2.2
/-- a number that is asked of: v if it is told, else bad -/
def onP (n : Nat) (x : Int32) (F : Nat → Int32) (b : Int32) : Int32 := if isP n x = true then F x.toNatClampNeg else b
theorem onP_t {n k : Nat} {F : Nat → Int32} {b : Int32} (hk : k < n) (hn : n < 2 ^ 31) : onP n (nI k) F b = F k := by
  unfold onP
  rw [if_pos (isP_n hk hn), nI_clamp (by omega)]
theorem onP_f {n : Nat} {x : Int32} {F : Nat → Int32} {b : Int32} (h : isP n x = false) : onP n x F b = b := by
  unfold onP
  rw [if_neg (by rw [h]; decide)]
def twoP (n : Nat) (x y : Int32) : Bool := !decide (x = y) && isP n x && isP n y
theorem twoP_t {n : Nat} {x y : Int32} (h : twoP n x y = true) (hn : n < 2 ^ 31) : ∃ i j, i < n ∧ j < n ∧ i ≠ j ∧ x = nI i ∧ y = nI j := by
  simp only [twoP, Bool.and_eq_true, Bool.not_eq_true', decide_eq_false_iff_not] at h
  obtain ⟨i, hi, rfl⟩ := isP_t h.1.2 hn
  obtain ⟨j, hj, rfl⟩ := isP_t h.2 hn
  exact ⟨i, j, hi, hj, fun e => h.1.1 (by rw [e]), rfl, rfl⟩
theorem twoP_n {n i j : Nat} (hi : i < n) (hj : j < n) (hn : n < 2 ^ 31) (h : i ≠ j) : twoP n (nI i) (nI j) = true := by
  simp only [twoP, Bool.and_eq_true, Bool.not_eq_true', decide_eq_false_iff_not]
  exact ⟨⟨fun e => h ((nI_eq (by omega) (by omega)).mp e), isP_n hi hn⟩, isP_n hj hn⟩
def onPP (n : Nat) (x y : Int32) (F : Nat → Nat → Int32) (b : Int32) : Int32 := if twoP n x y = true then F x.toNatClampNeg y.toNatClampNeg else b
theorem onPP_t {n i j : Nat} {F : Nat → Nat → Int32} {b : Int32} (hi : i < n) (hj : j < n) (hn : n < 2 ^ 31) (h : i ≠ j) : onPP n (nI i) (nI j) F b = F i j := by
  unfold onPP
  rw [if_pos (twoP_n hi hj hn h), nI_clamp (by omega), nI_clamp (by omega)]
theorem onPP_f {n : Nat} {x y : Int32} {F : Nat → Nat → Int32} {b : Int32} (h : twoP n x y = false) : onPP n x y F b = b := by
  unfold onPP
  rw [if_neg (by rw [h]; decide)]
def isHr (hb : Nat) (x : Int32) : Bool := isP 6 x && hb.testBit x.toNatClampNeg
theorem isHr_n {hb k : Nat} (hk : k < 6) : isHr hb (nI k) = hb.testBit k := by
  unfold isHr
  rw [isP_n hk (by decide), nI_clamp (by omega), Bool.true_and]
theorem isHr_t {hb : Nat} {x : Int32} (h : isHr hb x = true) : ∃ k, k < 6 ∧ x = nI k ∧ hb.testBit k = true := by
  simp only [isHr, Bool.and_eq_true] at h
  obtain ⟨k, hk, rfl⟩ := isP_t h.1 (by decide)
  rw [nI_clamp (by omega)] at h
  exact ⟨k, hk, rfl, h.2⟩
def isA (x : Int32) : Bool := decide (x = nI 0) || decide (x = nI 1)
def isS (x : Int32) : Bool := !decide (x < 0) && !decide (nI 999 < x)
theorem m4_ne {b : Nat} (hb2 : b < 2 ^ 31) : nI b ≠ -4 := by
  intro e
  have h := congrArg Int32.toInt e
  rw [nI_toInt hb2] at h
  have e2 : (-4 : Int32).toInt = -4 := by decide
  rw [e2] at h
  omega
/-- a standing as it can be -/
def sOk (s : Nat → Int32) (N G : Nat) : Prop := (∀ g, g < G → s (19 + g) = -4 ∨ ∃ p, p < N ∧ s (19 + g) = nI p) ∧ (∀ i, i < N → ∃ k, k < 4096 ∧ s (13 + i) = nI k)
theorem sOk.own {s : Nat → Int32} {N G hb g : Nat} (h : sOk s N G) (hg : g < G) (hN : N ≤ 6) (hh : isHr hb (s (19 + g)) = true) : ∃ p, p < N ∧ s (19 + g) = nI p ∧ hb.testBit p = true := by
  obtain ⟨k, hk, e, hb2⟩ := isHr_t hh
  rcases h.1 g hg with h1 | ⟨p, hp, e2⟩
  · rw [h1] at e
    exact absurd e.symm (m4_ne (by omega))
  · rw [e2] at e
    have := (nI_eq (by omega) (by omega)).mp e
    subst this
    exact ⟨p, hp, e2, hb2⟩
set_option maxHeartbeats 4000000 in
set_option maxRecDepth 100000 in
theorem v_X8_isHere_x (X : mCx) (d : Nat) {S : mSh} {I : mI} {R : mR} {s : Nat → Int32} {N G hb pb : Nat} {a : Nat} {x : Int32} (hst : Std S I R a s N G hb pb)  : CC X (d + 1) M_X8_isHere [.ref a, .int x] S (I, R) (some (.int (bI (isHr hb x)))) S (I, R) := by
  refine CC.of2 (L := [.ref a, .int x]) p_X8 (Nat.le_of_ble_eq_true rfl) rfl (mRok_b _) (List.prefix_refl S) ?_
  refine r_iload_n dX8_isHere_0 rfl ?_
  refine r_if_lt (tgt := 26) dX8_isHere_1 (by decide) (fun c1 => ?_) (fun c1 => ?_)
  · have e : isHr hb x = false := (by simp [isHr, isP, c1])
    refine r_iconst dX8_isHere_26 ic_0 ?_
    exact g_iret dX8_isHere_27 (rB0 e) rfl
  · skip
    refine r_iload_n dX8_isHere_4 rfl ?_
    refine r_bipush dX8_isHere_5 bp_6 ?_
    refine r_icmp_ge (tgt := 26) dX8_isHere_7 (by decide) (fun c7 => ?_) (fun c7 => ?_)
    · have e : isHr hb x = false := (by simp [isHr, isP, c7])
      refine r_iconst dX8_isHere_26 ic_0 ?_
      exact g_iret dX8_isHere_27 (rB0 e) rfl
    · skip
      obtain ⟨k, hk, rfl⟩ := isP_t (n := 6) (x := x) (by simp only [isP]; simp [c1]; exact Int32.not_le.mp c7) (by decide)
      have h256 := hst.h256
      have e0 := isHr_n (hb := hb) hk
      refine r_aload_n dX8_isHere_10 rfl ?_
      refine g_getI dX8_isHere_11 f_X8_9 (Std.sg (by assumption)) rfl hst.here ?_
      refine r_iload_n dX8_isHere_14 rfl ?_
      refine r_ishr dX8_isHere_15 ?_
      refine r_iconst dX8_isHere_16 ic_1 ?_
      refine r_iand dX8_isHere_17 ?_
      refine g_top (bitv hst.h256 (by omega)) ?_
      refine r_iconst dX8_isHere_18 ic_1 ?_
      refine r_icmp_ne (tgt := 26) dX8_isHere_19 (by decide) (fun c19 => ?_) (fun c19 => ?_)
      · have e : isHr hb (nI k) = false := (by rw [e0]; simpa [bI_n1] using c19)
        refine r_iconst dX8_isHere_26 ic_0 ?_
        exact g_iret dX8_isHere_27 (rB0 e) rfl
      · have e : isHr hb (nI k) = true := e0.trans (bI_n1.mp c19)
        refine r_iconst dX8_isHere_22 ic_1 ?_
        refine r_goto (tgt := 27) dX8_isHere_23 (by decide) ?_
        exact g_iret dX8_isHere_27 (rB1 e) rfl

set_option maxHeartbeats 4000000 in
set_option maxRecDepth 100000 in
theorem v_X11_isPair (X : mCx) (d : Nat) {S : mSh} {I : mI} {R : mR} {w : Nat → Int32} {N G f dr : Nat} {x y : Int32} (hc : Cla S R f dr) (hf : Fam S I R f w N G)  : CC X (d + 2) M_X11_isPair [.ref 1, .int x, .int y] S (I, R) (some (.int (bI (twoP N x y)))) S (I, R) := by
  refine CC.of2 (L := [.ref 1, .int x, .int y]) p_X11 (Nat.le_of_ble_eq_true rfl) rfl (mRok_b _) (List.prefix_refl S) ?_
  refine r_iload_n dX11_isPair_0 rfl ?_
  refine r_iload_n dX11_isPair_1 rfl ?_
  refine r_icmp_eq (tgt := 31) dX11_isPair_2 (by decide) (fun c2 => ?_) (fun c2 => ?_)
  · skip
    refine r_iconst dX11_isPair_31 ic_0 ?_
    exact g_iret dX11_isPair_32 (rB0 (by simp [twoP, *])) rfl
  · skip
    refine r_aload_n dX11_isPair_5 rfl ?_
    refine g_getR dX11_isPair_6 f_X11_66 (Cla.sg (by assumption)) rfl (Cla.f9 (by assumption)) ?_
    refine r_iload_n dX11_isPair_9 rfl ?_
    refine r_V1 dX11_isPair_10 l_X11_108 k_X1_isPerson i_X1_isPerson (Fam.sg (by assumption)) ⟨_, rfl⟩ (Nat.le_of_ble_eq_true rfl) (v_X1_isPerson X _ (by first | assumption | omega)) (List.prefix_refl S) ?_
    refine r_ifB_eq (tgt := 31) dX11_isPair_13 (by decide) (fun c13 => ?_) (fun c13 => ?_)
    · skip
      refine r_iconst dX11_isPair_31 ic_0 ?_
      exact g_iret dX11_isPair_32 (rB0 (by simp [twoP, *])) rfl
    · skip
      refine r_aload_n dX11_isPair_16 rfl ?_
      refine g_getR dX11_isPair_17 f_X11_66 (Cla.sg (by assumption)) rfl (Cla.f9 (by assumption)) ?_
      refine r_iload_n dX11_isPair_20 rfl ?_
      refine r_V1 dX11_isPair_21 l_X11_108 k_X1_isPerson i_X1_isPerson (Fam.sg (by assumption)) ⟨_, rfl⟩ (Nat.le_of_ble_eq_true rfl) (v_X1_isPerson X _ (by first | assumption | omega)) (List.prefix_refl S) ?_
      refine r_ifB_eq (tgt := 31) dX11_isPair_24 (by decide) (fun c24 => ?_) (fun c24 => ?_)
      · skip
        refine r_iconst dX11_isPair_31 ic_0 ?_
        exact g_iret dX11_isPair_32 (rB0 (by simp [twoP, *])) rfl
      · skip
        refine r_iconst dX11_isPair_27 ic_1 ?_
        refine r_goto (tgt := 32) dX11_isPair_28 (by decide) ?_
        exact g_iret dX11_isPair_32 (rB1 (by simp [twoP, *])) rfl

set_option maxHeartbeats 4000000 in
set_option maxRecDepth 100000 in
theorem v_X11_areHere (X : mCx) (d : Nat) {S : mSh} {I : mI} {R : mR} {s : Nat → Int32} {N G hb pb f dr : Nat} {i j : Nat} (hc : Cla S R f dr) (hst : Std S I R 6 s N G hb pb) (hi : i < 6) (hj : j < 6) : CC X (d + 2) M_X11_areHere [.ref 1, .int (nI i), .int (nI j)] S (I, R) (some (.int (bI (hb.testBit i && hb.testBit j)))) S (I, R) := by
  refine CC.of2 (L := [.ref 1, .int (nI i), .int (nI j)]) p_X11 (Nat.le_of_ble_eq_true rfl) rfl (mRok_b _) (List.prefix_refl S) ?_
  refine r_aload_n dX11_areHere_0 rfl ?_
  refine g_getR dX11_areHere_1 f_X11_26 (Cla.sg (by assumption)) rfl (Cla.f2 (by assumption)) ?_
  refine r_iload_n dX11_areHere_4 rfl ?_
  refine r_V1 dX11_areHere_5 l_X11_122 k_X8_isHere i_X8_isHere (Sto.sg (Cla.now (by assumption))) ⟨_, rfl⟩ (Nat.le_of_ble_eq_true rfl) (v_X8_isHere X _ (by first | assumption | omega) (by first | assumption | omega)) (List.prefix_refl S) ?_
  refine r_ifB_eq (tgt := 26) dX11_areHere_8 (by decide) (fun c8 => ?_) (fun c8 => ?_)
  · skip
    refine r_iconst dX11_areHere_26 ic_0 ?_
    exact g_iret dX11_areHere_27 (rB0 (by simp [*])) rfl
  · skip
    refine r_aload_n dX11_areHere_11 rfl ?_
    refine g_getR dX11_areHere_12 f_X11_26 (Cla.sg (by assumption)) rfl (Cla.f2 (by assumption)) ?_
    refine r_iload_n dX11_areHere_15 rfl ?_
    refine r_V1 dX11_areHere_16 l_X11_122 k_X8_isHere i_X8_isHere (Sto.sg (Cla.now (by assumption))) ⟨_, rfl⟩ (Nat.le_of_ble_eq_true rfl) (v_X8_isHere X _ (by first | assumption | omega) (by first | assumption | omega)) (List.prefix_refl S) ?_
    refine r_ifB_eq (tgt := 26) dX11_areHere_19 (by decide) (fun c19 => ?_) (fun c19 => ?_)
    · skip
      refine r_iconst dX11_areHere_26 ic_0 ?_
      exact g_iret dX11_areHere_27 (rB0 (by simp [*])) rfl
    · skip
      refine r_iconst dX11_areHere_22 ic_1 ?_
      refine r_goto (tgt := 27) dX11_areHere_23 (by decide) ?_
      exact g_iret dX11_areHere_27 (rB1 (by simp [*])) rfl

set_option maxHeartbeats 4000000 in
set_option maxRecDepth 100000 in
theorem v_X11_isAsked (X : mCx) (d : Nat) {S : mSh} {I : mI} {R : mR} {x : Int32} : CC X (d + 1) M_X11_isAsked [.int x] S (I, R) (some (.int (bI (isA x)))) S (I, R) := by
  refine CC.of2 (L := [.int x]) p_X11 (Nat.le_of_ble_eq_true rfl) rfl (mRok_b _) (List.prefix_refl S) ?_
  refine r_iload_n dX11_isAsked_0 rfl ?_
  refine r_if_eq (tgt := 9) dX11_isAsked_1 (by decide) (fun c1 => ?_) (fun c1 => ?_)
  · skip
    refine r_iconst dX11_isAsked_9 ic_1 ?_
    refine r_goto (tgt := 14) dX11_isAsked_10 (by decide) ?_
    exact g_iret dX11_isAsked_14 (rB1 (by simp [isA, nI_0, *])) rfl
  · skip
    refine r_iload_n dX11_isAsked_4 rfl ?_
    refine r_iconst dX11_isAsked_5 ic_1 ?_
    refine r_icmp_ne (tgt := 13) dX11_isAsked_6 (by decide) (fun c6 => ?_) (fun c6 => ?_)
    · skip
      refine r_iconst dX11_isAsked_13 ic_0 ?_
      exact g_iret dX11_isAsked_14 (rB0 (by simp [isA, nI_0, *])) rfl
    · skip
      refine r_iconst dX11_isAsked_9 ic_1 ?_
      refine r_goto (tgt := 14) dX11_isAsked_10 (by decide) ?_
      exact g_iret dX11_isAsked_14 (rB1 (by simp [isA, nI_0, *])) rfl

set_option maxHeartbeats 4000000 in
set_option maxRecDepth 100000 in
theorem v_X11_isSum (X : mCx) (d : Nat) {S : mSh} {I : mI} {R : mR} {x : Int32} : CC X (d + 1) M_X11_isSum [.int x] S (I, R) (some (.int (bI (isS x)))) S (I, R) := by
  refine CC.of2 (L := [.int x]) p_X11 (Nat.le_of_ble_eq_true rfl) rfl (mRok_b _) (List.prefix_refl S) ?_
  refine r_iload_n dX11_isSum_0 rfl ?_
  refine r_if_lt (tgt := 15) dX11_isSum_1 (by decide) (fun c1 => ?_) (fun c1 => ?_)
  · skip
    refine r_iconst dX11_isSum_15 ic_0 ?_
    exact g_iret dX11_isSum_16 (rB0 (by simp [isS, *])) rfl
  · skip
    refine r_iload_n dX11_isSum_4 rfl ?_
    refine r_sipush dX11_isSum_5 sp_999 ?_
    refine r_icmp_gt (tgt := 15) dX11_isSum_8 (by decide) (fun c8 => ?_) (fun c8 => ?_)
    · skip
      refine r_iconst dX11_isSum_15 ic_0 ?_
      exact g_iret dX11_isSum_16 (rB0 (by simp [isS, *])) rfl
    · skip
      refine r_iconst dX11_isSum_11 ic_1 ?_
      refine r_goto (tgt := 16) dX11_isSum_12 (by decide) ?_
      exact g_iret dX11_isSum_16 (rB1 (by simp [isS, *])) rfl

