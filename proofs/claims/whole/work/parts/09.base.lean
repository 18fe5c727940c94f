/-! ===== rows over a heap (I, R); numbers as nI ===== -/
abbrev mI : Type := Nat → Nat → Int32
abbrev mR : Type := Nat → Nat → Nat
def sJ (I : mI) (o j : Nat) (v : Int32) : mI := fun a b => if a = o ∧ b = j then v else I a b
def sQ (R : mR) (o j v : Nat) : mR := fun a b => if a = o ∧ b = j then v else R a b
theorem sJ_eq (I : mI) (o j : Nat) (v : Int32) : sJ I o j v o j = v := by simp [sJ]
theorem sJ_ne {I : mI} {o j o1 j1 : Nat} {v : Int32} (h : o1 ≠ o ∨ j1 ≠ j) : sJ I o j v o1 j1 = I o1 j1 := by
  unfold sJ
  rw [if_neg]
  rintro ⟨rfl, rfl⟩
  rcases h with h | h <;> exact h rfl
theorem sJ_o {I : mI} {o j o1 : Nat} {v : Int32} (h : o1 ≠ o) : sJ I o j v o1 = I o1 := by funext b; exact sJ_ne (Or.inl h)
theorem sJ_same (I : mI) (o j : Nat) : sJ I o j (I o j) = I := by
  funext a b
  unfold sJ
  by_cases h : a = o ∧ b = j
  · obtain ⟨rfl, rfl⟩ := h; simp
  · rw [if_neg h]
def bI (b : Bool) : Int32 := if b = true then 1 else 0
theorem bI_t : bI true = 1 := rfl
theorem bI_f : bI false = 0 := rfl
theorem bI_0 {b : Bool} : bI b = 0 ↔ b = false := by cases b <;> decide
theorem bI_1 {b : Bool} : bI b = 1 ↔ b = true := by cases b <;> decide
theorem bI_ne0 {b : Bool} : ¬ bI b = 0 ↔ b = true := by cases b <;> decide
theorem bI_inj {a b : Bool} : bI a = bI b ↔ a = b := by cases a <;> cases b <;> decide
theorem bI_n {b : Bool} : bI b = nI (if b = true then 1 else 0) := by cases b <;> decide
theorem mRok_b (b : Bool) : mRok (some .boolean) (some (.int (bI b))) := by cases b <;> exact rfl
theorem mRok_i (x : Int32) : mRok (some .int) (some (.int x)) := rfl
theorem nI_mul (a b : Nat) : nI a * nI b = nI (a * b) := (Int32.ofNat_mul a b).symm
theorem nI_sub {a b : Nat} (h : b ≤ a) : nI a - nI b = nI (a - b) := (Int32.ofNat_sub a b h).symm
theorem nI_inc (j : Nat) : nI j + Int32.ofInt 1 = nI (j + 1) := nI_1 j
theorem nI_and (a b : Nat) : nI a &&& nI b = nI (a &&& b) := by
  apply Int32.toBitVec_inj.mp
  simp [nI, BitVec.ofNat_and]
theorem nI_or (a b : Nat) : nI a ||| nI b = nI (a ||| b) := by
  apply Int32.toBitVec_inj.mp
  simp [nI, BitVec.ofNat_or]
def nSum (n : Nat) (t : Nat → Int32) : Int32 := match n with
  | 0 => 0
  | n + 1 => nSum n t + t n
theorem nSum_congr {t u : Nat → Int32} : ∀ {n : Nat}, (∀ j, j < n → t j = u j) → nSum n t = nSum n u
  | 0, _ => rfl
  | n + 1, h => by
    unfold nSum
    rw [nSum_congr (n := n) (fun j hj => h j (by omega)), h n (by omega)]
def nFold {α : Type} (n : Nat) (f : Nat → α → α) (a : α) : α := match n with
  | 0 => a
  | n + 1 => f n (nFold n f a)
theorem nFold_congr {α : Type} {f g : Nat → α → α} {a : α} : ∀ {n : Nat}, (∀ j b, j < n → f j b = g j b) → nFold n f a = nFold n g a
  | 0, _ => rfl
  | n + 1, h => by
    unfold nFold
    rw [nFold_congr (n := n) (fun j b hj => h j b (by omega)), h n _ (by omega)]
theorem lp_in {b : Int32} {n k : Nat} (hb : b = nI n) (hk : k < n) (hn : n < 2 ^ 31) : ¬ b ≤ nI k := by rw [hb]; exact nI_ge hk hn
theorem lp_out {b : Int32} {n : Nat} (hb : b = nI n) : b ≤ nI n := by rw [hb]; exact Int32.le_refl _
theorem sw_out {x : Int32} (n : Nat) (hn : n < 2 ^ 31) (h : ∀ k, k ≤ n → x ≠ nI k) : x.toInt < 0 ∨ (n : Int) < x.toInt := by
  apply Decidable.byContradiction
  intro hc
  have h1 : 0 ≤ x.toInt ∧ x.toInt ≤ n := by omega
  refine h x.toInt.toNat (by omega) (Int32.toInt_inj.mp ?_)
  rw [nI_toInt (by omega)]
  omega
theorem sw_outR {x : Int32} (lo n : Nat) (hn : n < 2 ^ 31) (h : ∀ k, lo ≤ k → k ≤ n → x ≠ nI k) : x.toInt < (lo : Int) ∨ (n : Int) < x.toInt := by
  apply Decidable.byContradiction
  intro hc
  have h1 : (lo : Int) ≤ x.toInt ∧ x.toInt ≤ n := by omega
  refine h x.toInt.toNat (by omega) (by omega) (Int32.toInt_inj.mp ?_)
  rw [nI_toInt (by omega)]
  omega
theorem bI_n1 {b : Bool} : bI b = nI 1 ↔ b = true := by cases b <;> decide
theorem bI_n0 {b : Bool} : bI b = nI 0 ↔ b = false := by cases b <;> decide
theorem CC.of2 {X : mCx} {d : Nat} {M : mMe} {as L : List Value} {S S' : mSh} {h h' : mHp} {r : Option Value} (hp : plainName M.1.cls = true) (hn : (mEn as).length ≤ M.2.2.1) (hE : mEnt as M.2.2.1 = L) (hr : mRok M.2.2.2 r) (hS : S <+: S') (J : JJ X M d 0 L [] S h r S' h') : CC X d M as S h r S' h' := CC.of hp hn hr hS (by rw [hE]; exact J)
theorem p_X0 : plainName RX0 = true := by decide +kernel
theorem p_X1 : plainName RX1 = true := by decide +kernel
theorem p_X2 : plainName RX2 = true := by decide +kernel
theorem p_X3 : plainName RX3 = true := by decide +kernel
theorem p_X4 : plainName RX4 = true := by decide +kernel
theorem p_X5 : plainName RX5 = true := by decide +kernel
theorem p_X6 : plainName RX6 = true := by decide +kernel
theorem p_X7 : plainName RX7 = true := by decide +kernel
theorem p_X8 : plainName RX8 = true := by decide +kernel
theorem p_X9 : plainName RX9 = true := by decide +kernel
theorem p_X10 : plainName RX10 = true := by decide +kernel
theorem p_X11 : plainName RX11 = true := by decide +kernel
theorem p_X12 : plainName RX12 = true := by decide +kernel
theorem p_J6 : plainName RJ6 = true := by decide +kernel
theorem p_J0 : plainName RJ0 = true := by decide +kernel
theorem p_J1 : plainName RJ1 = true := by decide +kernel
theorem p_J2 : plainName RJ2 = true := by decide +kernel
theorem p_J3 : plainName RJ3 = true := by decide +kernel
theorem ic_m1 : Int32.ofInt (-1) = -1 := by decide
theorem ic_0 : Int32.ofInt (0) = nI 0 := by decide
theorem ic_1 : Int32.ofInt (1) = nI 1 := by decide
theorem ic_2 : Int32.ofInt (2) = nI 2 := by decide
theorem ic_3 : Int32.ofInt (3) = nI 3 := by decide
theorem ic_4 : Int32.ofInt (4) = nI 4 := by decide
theorem ic_5 : Int32.ofInt (5) = nI 5 := by decide
theorem bp_m5 : (Int8.ofInt (-5)).toInt32 = -5 := by decide
theorem bp_m4 : (Int8.ofInt (-4)).toInt32 = -4 := by decide
theorem bp_m3 : (Int8.ofInt (-3)).toInt32 = -3 := by decide
theorem bp_m2 : (Int8.ofInt (-2)).toInt32 = -2 := by decide
theorem bp_6 : (Int8.ofInt (6)).toInt32 = nI 6 := by decide
theorem bp_7 : (Int8.ofInt (7)).toInt32 = nI 7 := by decide
theorem bp_8 : (Int8.ofInt (8)).toInt32 = nI 8 := by decide
theorem bp_9 : (Int8.ofInt (9)).toInt32 = nI 9 := by decide
theorem bp_10 : (Int8.ofInt (10)).toInt32 = nI 10 := by decide
theorem bp_12 : (Int8.ofInt (12)).toInt32 = nI 12 := by decide
theorem bp_13 : (Int8.ofInt (13)).toInt32 = nI 13 := by decide
theorem bp_15 : (Int8.ofInt (15)).toInt32 = nI 15 := by decide
theorem bp_16 : (Int8.ofInt (16)).toInt32 = nI 16 := by decide
theorem bp_19 : (Int8.ofInt (19)).toInt32 = nI 19 := by decide
theorem bp_20 : (Int8.ofInt (20)).toInt32 = nI 20 := by decide
theorem bp_21 : (Int8.ofInt (21)).toInt32 = nI 21 := by decide
theorem bp_27 : (Int8.ofInt (27)).toInt32 = nI 27 := by decide
theorem bp_29 : (Int8.ofInt (29)).toInt32 = nI 29 := by decide
theorem bp_30 : (Int8.ofInt (30)).toInt32 = nI 30 := by decide
theorem bp_31 : (Int8.ofInt (31)).toInt32 = nI 31 := by decide
theorem bp_32 : (Int8.ofInt (32)).toInt32 = nI 32 := by decide
theorem bp_35 : (Int8.ofInt (35)).toInt32 = nI 35 := by decide
theorem bp_36 : (Int8.ofInt (36)).toInt32 = nI 36 := by decide
theorem bp_37 : (Int8.ofInt (37)).toInt32 = nI 37 := by decide
theorem bp_40 : (Int8.ofInt (40)).toInt32 = nI 40 := by decide
theorem bp_44 : (Int8.ofInt (44)).toInt32 = nI 44 := by decide
theorem bp_45 : (Int8.ofInt (45)).toInt32 = nI 45 := by decide
theorem bp_48 : (Int8.ofInt (48)).toInt32 = nI 48 := by decide
theorem bp_53 : (Int8.ofInt (53)).toInt32 = nI 53 := by decide
theorem bp_57 : (Int8.ofInt (57)).toInt32 = nI 57 := by decide
theorem bp_59 : (Int8.ofInt (59)).toInt32 = nI 59 := by decide
theorem bp_60 : (Int8.ofInt (60)).toInt32 = nI 60 := by decide
theorem bp_63 : (Int8.ofInt (63)).toInt32 = nI 63 := by decide
theorem bp_64 : (Int8.ofInt (64)).toInt32 = nI 64 := by decide
theorem bp_89 : (Int8.ofInt (89)).toInt32 = nI 89 := by decide
theorem bp_90 : (Int8.ofInt (90)).toInt32 = nI 90 := by decide
theorem bp_91 : (Int8.ofInt (91)).toInt32 = nI 91 := by decide
theorem bp_92 : (Int8.ofInt (92)).toInt32 = nI 92 := by decide
theorem bp_98 : (Int8.ofInt (98)).toInt32 = nI 98 := by decide
theorem bp_99 : (Int8.ofInt (99)).toInt32 = nI 99 := by decide
theorem bp_104 : (Int8.ofInt (104)).toInt32 = nI 104 := by decide
theorem bp_105 : (Int8.ofInt (105)).toInt32 = nI 105 := by decide
theorem bp_110 : (Int8.ofInt (110)).toInt32 = nI 110 := by decide
theorem bp_118 : (Int8.ofInt (118)).toInt32 = nI 118 := by decide
theorem bp_126 : (Int8.ofInt (126)).toInt32 = nI 126 := by decide
theorem sp_134 : (Int16.ofInt (134)).toInt32 = nI 134 := by decide
theorem sp_142 : (Int16.ofInt (142)).toInt32 = nI 142 := by decide
theorem sp_178 : (Int16.ofInt (178)).toInt32 = nI 178 := by decide
theorem sp_200 : (Int16.ofInt (200)).toInt32 = nI 200 := by decide
theorem sp_245 : (Int16.ofInt (245)).toInt32 = nI 245 := by decide
theorem sp_255 : (Int16.ofInt (255)).toInt32 = nI 255 := by decide
theorem sp_256 : (Int16.ofInt (256)).toInt32 = nI 256 := by decide
theorem sp_385 : (Int16.ofInt (385)).toInt32 = nI 385 := by decide
theorem sp_386 : (Int16.ofInt (386)).toInt32 = nI 386 := by decide
theorem sp_404 : (Int16.ofInt (404)).toInt32 = nI 404 := by decide
theorem sp_412 : (Int16.ofInt (412)).toInt32 = nI 412 := by decide
theorem sp_420 : (Int16.ofInt (420)).toInt32 = nI 420 := by decide
theorem sp_999 : (Int16.ofInt (999)).toInt32 = nI 999 := by decide
theorem sp_4096 : (Int16.ofInt (4096)).toInt32 = nI 4096 := by decide
theorem sp_9999 : (Int16.ofInt (9999)).toInt32 = nI 9999 := by decide
theorem nd_0_1 : ¬ nI 0 = nI 1 := by decide
theorem nd_0_2 : ¬ nI 0 = nI 2 := by decide
theorem nd_0_3 : ¬ nI 0 = nI 3 := by decide
theorem nd_0_4 : ¬ nI 0 = nI 4 := by decide
theorem nd_1_0 : ¬ nI 1 = nI 0 := by decide
theorem nd_1_2 : ¬ nI 1 = nI 2 := by decide
theorem nd_1_3 : ¬ nI 1 = nI 3 := by decide
theorem nd_1_4 : ¬ nI 1 = nI 4 := by decide
theorem nd_2_0 : ¬ nI 2 = nI 0 := by decide
theorem nd_2_1 : ¬ nI 2 = nI 1 := by decide
theorem nd_2_3 : ¬ nI 2 = nI 3 := by decide
theorem nd_2_4 : ¬ nI 2 = nI 4 := by decide
theorem nd_3_0 : ¬ nI 3 = nI 0 := by decide
theorem nd_3_1 : ¬ nI 3 = nI 1 := by decide
theorem nd_3_2 : ¬ nI 3 = nI 2 := by decide
theorem nd_3_4 : ¬ nI 3 = nI 4 := by decide
theorem nd_4_0 : ¬ nI 4 = nI 0 := by decide
theorem nd_4_1 : ¬ nI 4 = nI 1 := by decide
theorem nd_4_2 : ¬ nI 4 = nI 2 := by decide
theorem nd_4_3 : ¬ nI 4 = nI 3 := by decide
section
variable {X : mCx} {M : mMe} {d pc : Nat} {L st : List Value} {S S' : mSh} {I : mI} {R : mR} {h h' : mHp} {r : Option Value}
theorem JJ.to {L1 st1 : List Value} {h1 : mHp} (K : JJ X M d pc L1 st1 S h1 r S' h') (eL : L = L1) (es : st = st1) (eh : h = h1) : JJ X M d pc L st S h r S' h' := by
  subst eL; subst es; subst eh; exact K
/-- a loop that counts: from L 0 to L n, its heap h 0 to h n, with what holds on the way -/
theorem JJ.loop (n : Nat) (Lf : Nat → List Value) (hf : Nat → mHp) (P : Nat → Prop) (eL : L = Lf 0) (eh : h = hf 0) (h0 : P 0) (hend : P n → JJ X M d pc (Lf n) st S (hf n) r S' h') (hstep : ∀ j, j < n → P j → (P (j + 1) → JJ X M d pc (Lf (j + 1)) st S (hf (j + 1)) r S' h') → JJ X M d pc (Lf j) st S (hf j) r S' h') : JJ X M d pc L st S h r S' h' := by
  subst eL; subst eh
  have key : ∀ k, k ≤ n → P (n - k) → JJ X M d pc (Lf (n - k)) st S (hf (n - k)) r S' h' := by
    intro k
    induction k with
    | zero => intro _ hp; exact hend hp
    | succ k ih =>
      intro hk hp
      refine hstep (n - (k + 1)) (by omega) hp (fun hp1 => ?_)
      have e : n - (k + 1) + 1 = n - k := by omega
      rw [e] at hp1 ⊢
      exact ih (by omega) hp1
  have := key n (Nat.le_refl n)
  rw [Nat.sub_self] at this
  exact this h0
theorem r_ifB_eq {b : Bool} {off : Int} {tgt : Nat} (hd : decode M.2.1 pc = .ok (.ifCond .eq off, 3)) (ht : (pc : Int) + off = (tgt : Int)) (Kt : b = false → JJ X M d tgt L st S h r S' h') (Kf : b = true → JJ X M d (pc + 3) L st S h r S' h') : JJ X M d pc L (.int (bI b) :: st) S h r S' h' := r_if_eq hd ht (fun z => Kt (bI_0.mp z)) (fun z => Kf (bI_ne0.mp z))
theorem r_ifB_ne {b : Bool} {off : Int} {tgt : Nat} (hd : decode M.2.1 pc = .ok (.ifCond .ne off, 3)) (ht : (pc : Int) + off = (tgt : Int)) (Kt : b = true → JJ X M d tgt L st S h r S' h') (Kf : b = false → JJ X M d (pc + 3) L st S h r S' h') : JJ X M d pc L (.int (bI b) :: st) S h r S' h' := r_if_ne hd ht (fun z => Kt (bI_ne0.mp z)) (fun z => Kf (bI_0.mp z))
theorem g_iret {v : Int32} (hd : decode M.2.1 pc = .ok (.ireturn, 1)) (hr : r = some (.int v)) (hh : h = h') : JJ X M d pc L [.int v] S h r S h' := by
  subst hr; subst hh; exact r_ireturn hd
theorem g_vret (hd : decode M.2.1 pc = .ok (.return_, 1)) (hr : r = none) (hh : h = h') : JJ X M d pc L [] S h r S h' := by
  subst hr; subst hh; exact r_return hd
theorem g_aret {k : Nat} (hd : decode M.2.1 pc = .ok (.areturn, 1)) (hr : r = some (.ref k)) (hh : h = h') : JJ X M d pc L [.ref k] S h r S h' := by
  subst hr; subst hh; exact r_areturn hd
theorem g_getI {idx t n j o : Nat} {fin : Bool} {v : Int32} (hd : decode M.2.1 pc = .ok (.getfield idx, 3)) (hf : mFL M.1.cls idx t n j fin) (hs : mSg S o = some (t, n)) (hr : mRf t j = false) (hv : I o j = v) (K : JJ X M d (pc + 3) L (.int v :: st) S (I, R) r S' h') : JJ X M d pc L (.ref o :: st) S (I, R) r S' h' := by
  subst hv; exact r_getI hd hf hs hr K
theorem g_getR {idx t n j o q : Nat} {fin : Bool} (hd : decode M.2.1 pc = .ok (.getfield idx, 3)) (hf : mFL M.1.cls idx t n j fin) (hs : mSg S o = some (t, n)) (hr : mRf t j = true) (hv : R o j = q) (K : JJ X M d (pc + 3) L (.ref q :: st) S (I, R) r S' h') : JJ X M d pc L (.ref o :: st) S (I, R) r S' h' := by
  subst hv; exact r_getR hd hf hs hr K
theorem g_putI {idx t n j o : Nat} {x : Int32} (hd : decode M.2.1 pc = .ok (.putfield idx, 3)) (hf : mFL M.1.cls idx t n j false) (hs : mSg S o = some (t, n)) (hr : mRf t j = false) (K : JJ X M d (pc + 3) L st S (sJ I o j x, R) r S' h') : JJ X M d pc L (.int x :: .ref o :: st) S (I, R) r S' h' := r_putI hd hf hs hr K
theorem g_putR {idx t n j o x : Nat} (hd : decode M.2.1 pc = .ok (.putfield idx, 3)) (hf : mFL M.1.cls idx t n j false) (hs : mSg S o = some (t, n)) (hr : mRf t j = true) (K : JJ X M d (pc + 3) L st S (I, sQ R o j x) r S' h') : JJ X M d pc L (.ref x :: .ref o :: st) S (I, R) r S' h' := r_putR hd hf hs hr K
theorem g_iald {n o k : Nat} {i v : Int32} (hd : decode M.2.1 pc = .ok (.iaload, 1)) (hs : mSg S o = some (20, n)) (hi : i = nI k) (hk : k < n) (hn : n < 2 ^ 31) (hv : I o k = v) (K : JJ X M d (pc + 1) L (.int v :: st) S (I, R) r S' h') : JJ X M d pc L (.int i :: .ref o :: st) S (I, R) r S' h' := by
  subst hi; subst hv
  refine r_iald hd hs (nI_in hk hn) ?_
  rw [nI_clamp (by omega)]
  exact K
theorem g_cald {n o k : Nat} {i v : Int32} (hd : decode M.2.1 pc = .ok (.caload, 1)) (hs : mSg S o = some (21, n)) (hi : i = nI k) (hk : k < n) (hn : n < 2 ^ 31) (hv : I o k = v) (K : JJ X M d (pc + 1) L (.int v :: st) S (I, R) r S' h') : JJ X M d pc L (.int i :: .ref o :: st) S (I, R) r S' h' := by
  subst hi; subst hv
  refine r_cald hd hs (nI_in hk hn) ?_
  rw [nI_clamp (by omega)]
  exact K
theorem g_aald {n o k q : Nat} {i : Int32} (hd : decode M.2.1 pc = .ok (.aaload, 1)) (hs : mSg S o = some (22, n)) (hi : i = nI k) (hk : k < n) (hn : n < 2 ^ 31) (hv : R o k = q) (K : JJ X M d (pc + 1) L (.ref q :: st) S (I, R) r S' h') : JJ X M d pc L (.int i :: .ref o :: st) S (I, R) r S' h' := by
  subst hi; subst hv
  refine r_aald hd hs (nI_in hk hn) ?_
  rw [nI_clamp (by omega)]
  exact K
theorem g_iast {n o k : Nat} {i x : Int32} (hd : decode M.2.1 pc = .ok (.iastore, 1)) (hs : mSg S o = some (20, n)) (hi : i = nI k) (hk : k < n) (hn : n < 2 ^ 31) (K : JJ X M d (pc + 1) L st S (sJ I o k x, R) r S' h') : JJ X M d pc L (.int x :: .int i :: .ref o :: st) S (I, R) r S' h' := by
  subst hi
  refine r_iast hd hs (nI_in hk hn) ?_
  rw [nI_clamp (by omega)]
  exact K
theorem g_cast {n o k : Nat} {i x v : Int32} (hd : decode M.2.1 pc = .ok (.castore, 1)) (hs : mSg S o = some (21, n)) (hi : i = nI k) (hk : k < n) (hn : n < 2 ^ 31) (hv : vp_nar .char x = v) (K : JJ X M d (pc + 1) L st S (sJ I o k v, R) r S' h') : JJ X M d pc L (.int x :: .int i :: .ref o :: st) S (I, R) r S' h' := by
  subst hi; subst hv
  refine r_cast hd hs (nI_in hk hn) ?_
  rw [nI_clamp (by omega)]
  exact K
theorem n_iadd {a b : Nat} (hd : decode M.2.1 pc = .ok (.iadd, 1)) (K : JJ X M d (pc + 1) L (.int (nI (a + b)) :: st) S h r S' h') : JJ X M d pc L (.int (nI b) :: .int (nI a) :: st) S h r S' h' := r_iadd hd (by rw [nI_add]; exact K)
theorem n_imul {a b : Nat} (hd : decode M.2.1 pc = .ok (.imul, 1)) (K : JJ X M d (pc + 1) L (.int (nI (a * b)) :: st) S h r S' h') : JJ X M d pc L (.int (nI b) :: .int (nI a) :: st) S h r S' h' := r_imul hd (by rw [nI_mul]; exact K)
theorem n_isub {a b : Nat} (hd : decode M.2.1 pc = .ok (.isub, 1)) (hab : b ≤ a) (K : JJ X M d (pc + 1) L (.int (nI (a - b)) :: st) S h r S' h') : JJ X M d pc L (.int (nI b) :: .int (nI a) :: st) S h r S' h' := r_isub hd (by rw [nI_sub hab]; exact K)
theorem n_icmp_eq {a b : Nat} {off : Int} {tgt : Nat} (hd : decode M.2.1 pc = .ok (.if_icmp .eq off, 3)) (ht : (pc : Int) + off = (tgt : Int)) (ha : a < 2 ^ 31) (hb : b < 2 ^ 31) (Kt : a = b → JJ X M d tgt L st S h r S' h') (Kf : ¬ a = b → JJ X M d (pc + 3) L st S h r S' h') : JJ X M d pc L (.int (nI b) :: .int (nI a) :: st) S h r S' h' := r_icmp_eq hd ht (fun z => Kt ((nI_eq ha hb).mp z)) (fun z => Kf (fun q => z ((nI_eq ha hb).mpr q)))
theorem n_icmp_ne {a b : Nat} {off : Int} {tgt : Nat} (hd : decode M.2.1 pc = .ok (.if_icmp .ne off, 3)) (ht : (pc : Int) + off = (tgt : Int)) (ha : a < 2 ^ 31) (hb : b < 2 ^ 31) (Kt : ¬ a = b → JJ X M d tgt L st S h r S' h') (Kf : a = b → JJ X M d (pc + 3) L st S h r S' h') : JJ X M d pc L (.int (nI b) :: .int (nI a) :: st) S h r S' h' := r_icmp_ne hd ht (fun z => Kt (fun q => z ((nI_eq ha hb).mpr q))) (fun z => Kf ((nI_eq ha hb).mp z))
theorem n_icmp_lt {a b : Nat} {off : Int} {tgt : Nat} (hd : decode M.2.1 pc = .ok (.if_icmp .lt off, 3)) (ht : (pc : Int) + off = (tgt : Int)) (ha : a < 2 ^ 31) (hb : b < 2 ^ 31) (Kt : a < b → JJ X M d tgt L st S h r S' h') (Kf : b ≤ a → JJ X M d (pc + 3) L st S h r S' h') : JJ X M d pc L (.int (nI b) :: .int (nI a) :: st) S h r S' h' := r_icmp_lt hd ht (fun z => Kt ((nI_ltI ha hb).mp z)) (fun z => Kf (Nat.not_lt.mp (fun q => z ((nI_ltI ha hb).mpr q))))
theorem n_icmp_ge {a b : Nat} {off : Int} {tgt : Nat} (hd : decode M.2.1 pc = .ok (.if_icmp .ge off, 3)) (ht : (pc : Int) + off = (tgt : Int)) (ha : a < 2 ^ 31) (hb : b < 2 ^ 31) (Kt : b ≤ a → JJ X M d tgt L st S h r S' h') (Kf : a < b → JJ X M d (pc + 3) L st S h r S' h') : JJ X M d pc L (.int (nI b) :: .int (nI a) :: st) S h r S' h' := r_icmp_ge hd ht (fun z => Kt ((nI_leI hb ha).mp z)) (fun z => Kf (Nat.not_le.mp (fun q => z ((nI_leI hb ha).mpr q))))
theorem n_icmp_gt {a b : Nat} {off : Int} {tgt : Nat} (hd : decode M.2.1 pc = .ok (.if_icmp .gt off, 3)) (ht : (pc : Int) + off = (tgt : Int)) (ha : a < 2 ^ 31) (hb : b < 2 ^ 31) (Kt : b < a → JJ X M d tgt L st S h r S' h') (Kf : a ≤ b → JJ X M d (pc + 3) L st S h r S' h') : JJ X M d pc L (.int (nI b) :: .int (nI a) :: st) S h r S' h' := r_icmp_gt hd ht (fun z => Kt ((nI_ltI hb ha).mp z)) (fun z => Kf (Nat.not_lt.mp (fun q => z ((nI_ltI hb ha).mpr q))))
theorem n_icmp_le {a b : Nat} {off : Int} {tgt : Nat} (hd : decode M.2.1 pc = .ok (.if_icmp .le off, 3)) (ht : (pc : Int) + off = (tgt : Int)) (ha : a < 2 ^ 31) (hb : b < 2 ^ 31) (Kt : a ≤ b → JJ X M d tgt L st S h r S' h') (Kf : b < a → JJ X M d (pc + 3) L st S h r S' h') : JJ X M d pc L (.int (nI b) :: .int (nI a) :: st) S h r S' h' := r_icmp_le hd ht (fun z => Kt ((nI_leI ha hb).mp z)) (fun z => Kf (Nat.not_le.mp (fun q => z ((nI_leI ha hb).mpr q))))
theorem n_if_eq {a : Nat} {off : Int} {tgt : Nat} (hd : decode M.2.1 pc = .ok (.ifCond .eq off, 3)) (ht : (pc : Int) + off = (tgt : Int)) (ha : a < 2 ^ 31) (Kt : a = 0 → JJ X M d tgt L st S h r S' h') (Kf : ¬ a = 0 → JJ X M d (pc + 3) L st S h r S' h') : JJ X M d pc L (.int (nI a) :: st) S h r S' h' := r_if_eq hd ht (fun z => Kt ((nI_eq ha (b := 0) (by decide)).mp z)) (fun z => Kf (fun q => z ((nI_eq ha (b := 0) (by decide)).mpr q)))
theorem n_if_ne {a : Nat} {off : Int} {tgt : Nat} (hd : decode M.2.1 pc = .ok (.ifCond .ne off, 3)) (ht : (pc : Int) + off = (tgt : Int)) (ha : a < 2 ^ 31) (Kt : ¬ a = 0 → JJ X M d tgt L st S h r S' h') (Kf : a = 0 → JJ X M d (pc + 3) L st S h r S' h') : JJ X M d pc L (.int (nI a) :: st) S h r S' h' := r_if_ne hd ht (fun z => Kt (fun q => z ((nI_eq ha (b := 0) (by decide)).mpr q))) (fun z => Kf ((nI_eq ha (b := 0) (by decide)).mp z))
theorem n_if_gt {a : Nat} {off : Int} {tgt : Nat} (hd : decode M.2.1 pc = .ok (.ifCond .gt off, 3)) (ht : (pc : Int) + off = (tgt : Int)) (ha : a < 2 ^ 31) (Kt : 0 < a → JJ X M d tgt L st S h r S' h') (Kf : a ≤ 0 → JJ X M d (pc + 3) L st S h r S' h') : JJ X M d pc L (.int (nI a) :: st) S h r S' h' := r_if_gt hd ht (fun z => Kt ((nI_ltI (a := 0) (by decide) ha).mp z)) (fun z => Kf (Nat.not_lt.mp (fun q => z ((nI_ltI (a := 0) (by decide) ha).mpr q))))
theorem n_if_le {a : Nat} {off : Int} {tgt : Nat} (hd : decode M.2.1 pc = .ok (.ifCond .le off, 3)) (ht : (pc : Int) + off = (tgt : Int)) (ha : a < 2 ^ 31) (Kt : a ≤ 0 → JJ X M d tgt L st S h r S' h') (Kf : 0 < a → JJ X M d (pc + 3) L st S h r S' h') : JJ X M d pc L (.int (nI a) :: st) S h r S' h' := r_if_le hd ht (fun z => Kt ((nI_leI ha (b := 0) (by decide)).mp z)) (fun z => Kf (Nat.not_le.mp (fun q => z ((nI_leI ha (b := 0) (by decide)).mpr q))))
theorem n_if_lt {a : Nat} {off : Int} {tgt : Nat} (hd : decode M.2.1 pc = .ok (.ifCond .lt off, 3)) (ht : (pc : Int) + off = (tgt : Int)) (ha : a < 2 ^ 31) (Kt : a < 0 → JJ X M d tgt L st S h r S' h') (Kf : 0 ≤ a → JJ X M d (pc + 3) L st S h r S' h') : JJ X M d pc L (.int (nI a) :: st) S h r S' h' := r_if_lt hd ht (fun z => Kt ((nI_ltI ha (b := 0) (by decide)).mp z)) (fun z => Kf (Nat.not_lt.mp (fun q => z ((nI_ltI ha (b := 0) (by decide)).mpr q))))
theorem n_if_ge {a : Nat} {off : Int} {tgt : Nat} (hd : decode M.2.1 pc = .ok (.ifCond .ge off, 3)) (ht : (pc : Int) + off = (tgt : Int)) (ha : a < 2 ^ 31) (Kt : 0 ≤ a → JJ X M d tgt L st S h r S' h') (Kf : a < 0 → JJ X M d (pc + 3) L st S h r S' h') : JJ X M d pc L (.int (nI a) :: st) S h r S' h' := r_if_ge hd ht (fun z => Kt ((nI_leI (a := 0) (by decide) ha).mp z)) (fun z => Kf (Nat.not_le.mp (fun q => z ((nI_leI (a := 0) (by decide) ha).mpr q))))
theorem mc_max : Cond.code Lib.Math.max.name Lib.Math.max.code 2 (some .int) ∈ mWd := mWd_at 143 (by decide +kernel) rfl
theorem r_mmax {i : Nat} {x y : Int32} (hd : decode M.2.1 pc = .ok (.invokestatic i, 3)) (hl : Cond.methodLink M.1.cls i M_J9_max_7cf53.1 ∈ mWd) (hst : (st.map Value.category).sum ≤ 8) (K : JJ X M (d + 1) (pc + 3) L (.int (if x < y then y else x) :: st) S h r S' h') : JJ X M (d + 1) pc L (.int y :: .int x :: st) S h r S' h' := by
  intro hpre p e s m args below meth c R S0 Q F ret H locs cells slots ls hA hL
  have hts := F.2.2.2.2.2.1
  have hf1 := F.2.2.2.2.2.2.1
  have hf2 := F.2.2.2.2.2.2.2.1
  have b := mPre_len hA.2.2.2.1 hpre
  have g1 := F.2.2.2.2.2.2.2.2.1
  have g2 := F.2.2.2.2.2.2.2.2.2.1
  have g3 := hA.2.2.2.2.1
  have g4 := hA.2.2.2.2.2
  have hcat : ((st.map (mEnc X)).map fun v => v.category).sum ≤ 8 := by
    rw [List.map_map]
    have : (fun v => v.category) ∘ mEnc X = (fun v : Value => v.category) := by funext v; exact mEnc_cat X v
    rw [this]; exact hst
  exact va_mmax F.1 F.2.1 (F.2.2.1.trans hL.2.1.symm) F.2.2.2.1 (hts _ hl) (hts _ s_J9_max_7cf53) (hts (.initialized "java/lang/Math") k_J9_max_7cf53.2.1) (hts _ mc_max) (by omega) (by omega) (by omega) (by omega) hd (K hpre p e s m args below meth c R S0 Q F ret H locs cells slots ls hA hL)
theorem mc_min : Cond.code Lib.Math.min.name Lib.Math.min.code 2 (some .int) ∈ mWd := mWd_at 528 (by decide +kernel) rfl
theorem r_mmin {i : Nat} {x y : Int32} (hd : decode M.2.1 pc = .ok (.invokestatic i, 3)) (hl : Cond.methodLink M.1.cls i M_J9_min_7cf53.1 ∈ mWd) (hst : (st.map Value.category).sum ≤ 8) (K : JJ X M (d + 1) (pc + 3) L (.int (if y < x then y else x) :: st) S h r S' h') : JJ X M (d + 1) pc L (.int y :: .int x :: st) S h r S' h' := by
  intro hpre p e s m args below meth c R S0 Q F ret H locs cells slots ls hA hL
  have hts := F.2.2.2.2.2.1
  have hf1 := F.2.2.2.2.2.2.1
  have hf2 := F.2.2.2.2.2.2.2.1
  have b := mPre_len hA.2.2.2.1 hpre
  have g1 := F.2.2.2.2.2.2.2.2.1
  have g2 := F.2.2.2.2.2.2.2.2.2.1
  have g3 := hA.2.2.2.2.1
  have g4 := hA.2.2.2.2.2
  have hcat : ((st.map (mEnc X)).map fun v => v.category).sum ≤ 8 := by
    rw [List.map_map]
    have : (fun v => v.category) ∘ mEnc X = (fun v : Value => v.category) := by funext v; exact mEnc_cat X v
    rw [this]; exact hst
  exact va_mmin F.1 F.2.1 (F.2.2.1.trans hL.2.1.symm) F.2.2.2.1 (hts _ hl) (hts _ s_J9_min_7cf53) (hts (.initialized "java/lang/Math") k_J9_min_7cf53.2.1) (hts _ mc_min) (by omega) (by omega) (by omega) (by omega) hd (K hpre p e s m args below meth c R S0 Q F ret H locs cells slots ls hA hL)
end
