/-! ===== what is made: cells in their order ===== -/
/-- all cells, in the order in which they are made -/
def Sg : mSh := [(7, 11), (6, 2), (21, 200), (4, 1), (20, 4), (5, 7), (20, 8), (20, 6), (20, 6), (20, 6), (5, 7), (20, 8), (20, 6), (20, 6), (20, 6), (3, 3), (22, 8), (5, 7), (20, 8), (20, 6), (20, 6), (20, 6), (5, 7), (20, 8), (20, 6), (20, 6), (20, 6), (5, 7), (20, 8), (20, 6), (20, 6), (20, 6), (5, 7), (20, 8), (20, 6), (20, 6), (20, 6), (5, 7), (20, 8), (20, 6), (20, 6), (20, 6), (5, 7), (20, 8), (20, 6), (20, 6), (20, 6), (5, 7), (20, 8), (20, 6), (20, 6), (20, 6), (5, 7), (20, 8), (20, 6), (20, 6), (20, 6), (3, 3), (22, 2), (5, 7), (20, 8), (20, 6), (20, 6), (20, 6), (5, 7), (20, 8), (20, 6), (20, 6), (20, 6), (1, 3), (20, 6), (20, 6), (2, 2), (20, 64), (20, 64), (20, 5), (0, 12), (20, 6), (20, 6), (20, 6), (20, 36), (20, 8), (20, 8), (20, 8), (20, 8), (20, 8), (0, 12), (20, 6), (20, 6), (20, 6), (20, 36), (20, 8), (20, 8), (20, 8), (20, 8), (20, 8), (8, 17), (20, 178), (20, 420), (20, 6), (20, 6), (20, 200), (20, 4), (20, 64), (20, 64), (20, 5), (20, 5), (20, 5)]
theorem t_s {k : Nat} {q : Nat × Nat} (h : Sg[k]? = some q) : Sg.take k ++ [q] = Sg.take (k + 1) := by
  rw [List.take_succ, h]; rfl
theorem t_l {k : Nat} (h : k ≤ 108) : (Sg.take k).length = k := by
  rw [List.length_take]
  have : Sg.length = 108 := by decide
  omega
theorem t_g {k o : Nat} {q : Nat × Nat} (h : o ≤ k) (e : mSg Sg o = some q) : mSg (Sg.take k) o = some q := by
  cases o with
  | zero => exact e
  | succ o =>
    show (Sg.take k)[o]? = some q
    rw [List.getElem?_take_of_lt (by omega)]
    exact e
theorem t_p {j k : Nat} (h : j ≤ k) : Sg.take j <+: Sg.take k := by
  have e : Sg.take j = (Sg.take k).take j := by rw [List.take_take, Nat.min_eq_left h]
  rw [e]
  exact List.take_prefix _ _
theorem oi_i : Cond.instanceMethod Lib.objectInit ∈ mWd := mWd_at 73 (by decide +kernel) rfl
theorem oi_c : Cond.code Lib.objectInit ⟨#[0xb1]⟩ 1 none ∈ mWd := mWd_at 74 (by decide +kernel) rfl
theorem ac_i : Cond.arrayClass (newarray.typeOf .int) ∈ mWd := mWd_at 101 (by decide +kernel) rfl
theorem ac_c : Cond.arrayClass (newarray.typeOf .char) ∈ mWd := mWd_at 90 (by decide +kernel) rfl
section
variable {X : mCx} {M : mMe} {d pc : Nat} {L st : List Value} {S' : mSh} {h h' : mHp} {r : Option Value}
theorem n_new {k idx t n : Nat} {C : String} (hd : decode M.2.1 pc = .ok (.new idx, 3)) (hk : k ≤ 108) (hq : Sg[k]? = some (t, n)) (hc : ∃ T : u_T, vwCl[t]? = some (C, T, n) ∧ ∀ w ∈ u_ws C T n, w ∈ mWd) (hcl : Cond.classLink M.1.cls idx C ∈ mWd) (hinst : Cond.instantiable C n ∈ mWd) (hini : Cond.initialized C ∈ mWd) (hpre2 : Sg.take (k + 1) <+: S') (K : JJ X M d (pc + 3) L (.ref (k + 1) :: st) (Sg.take (k + 1)) (sN h (k + 1)) r S' h') : JJ X M d pc L st (Sg.take k) h r S' h' := by
  refine r_new hd hc hcl hinst hini (by rw [t_s hq]; exact hpre2) ?_
  rw [t_s hq, t_l hk]
  exact K
theorem n_newa_i {k n : Nat} {v : Int32} (hd : decode M.2.1 pc = .ok (.newarray .int, 2)) (hk : k ≤ 108) (hq : Sg[k]? = some (20, n)) (hn : ¬ v < 0) (hN : v.toNatClampNeg = n) (hb : n ≤ 100000) (hpre2 : Sg.take (k + 1) <+: S') (K : JJ X M d (pc + 2) L (.ref (k + 1) :: st) (Sg.take (k + 1)) (sN h (k + 1)) r S' h') : JJ X M d pc L (.int v :: st) (Sg.take k) h r S' h' := by
  refine r_newa_i hd ac_i hn hN hb (by rw [t_s hq]; exact hpre2) ?_
  rw [t_s hq, t_l hk]
  exact K
theorem n_newa_c {k n : Nat} {v : Int32} (hd : decode M.2.1 pc = .ok (.newarray .char, 2)) (hk : k ≤ 108) (hq : Sg[k]? = some (21, n)) (hn : ¬ v < 0) (hN : v.toNatClampNeg = n) (hb : n ≤ 100000) (hpre2 : Sg.take (k + 1) <+: S') (K : JJ X M d (pc + 2) L (.ref (k + 1) :: st) (Sg.take (k + 1)) (sN h (k + 1)) r S' h') : JJ X M d pc L (.int v :: st) (Sg.take k) h r S' h' := by
  refine r_newa_c hd ac_c hn hN hb (by rw [t_s hq]; exact hpre2) ?_
  rw [t_s hq, t_l hk]
  exact K
theorem n_newa_s {k n idx : Nat} {v : Int32} (hd : decode M.2.1 pc = .ok (.anewarray idx, 3)) (hw : Cond.classLink M.1.cls idx "DutyOnLeft$Standing" ∈ mWd) (hk : k ≤ 108) (hq : Sg[k]? = some (22, n)) (hn : ¬ v < 0) (hN : v.toNatClampNeg = n) (hb : n ≤ 100000) (hpre2 : Sg.take (k + 1) <+: S') (K : JJ X M d (pc + 3) L (.ref (k + 1) :: st) (Sg.take (k + 1)) (sN h (k + 1)) r S' h') : JJ X M d pc L (.int v :: st) (Sg.take k) h r S' h' := by
  refine r_newa_s hd hw hn hN hb (by rw [t_s hq]; exact hpre2) ?_
  rw [t_s hq, t_l hk]
  exact K
theorem JJ.loopS (n : Nat) (Lf : Nat → List Value) (Sf : Nat → mSh) (hf : Nat → mHp) (hend : JJ X M d pc (Lf n) st (Sf n) (hf n) r S' h') (hstep : ∀ j, j < n → JJ X M d pc (Lf (j + 1)) st (Sf (j + 1)) (hf (j + 1)) r S' h' → JJ X M d pc (Lf j) st (Sf j) (hf j) r S' h') : JJ X M d pc (Lf 0) st (Sf 0) (hf 0) r S' h' := by
  have key : ∀ k, k ≤ n → JJ X M d pc (Lf (n - k)) st (Sf (n - k)) (hf (n - k)) r S' h' := by
    intro k
    induction k with
    | zero => intro _; exact hend
    | succ k ih =>
      intro hk
      refine hstep (n - (k + 1)) (by omega) ?_
      have e : n - (k + 1) + 1 = n - k := by omega
      rw [e]
      exact ih (by omega)
  have := key n (Nat.le_refl n)
  rw [Nat.sub_self] at this
  exact this
theorem n_getR {S : mSh} {idx t n j o q : Nat} {fin : Bool} (hd : decode M.2.1 pc = .ok (.getfield idx, 3)) (hf : mFL M.1.cls idx t n j fin) (hs : mSg S o = some (t, n)) (hr : mRf t j = true) (hv : h.2 o j = q) (K : JJ X M d (pc + 3) L (.ref q :: st) S h r S' h') : JJ X M d pc L (.ref o :: st) S h r S' h' := by
  subst hv
  exact r_getR hd hf hs hr K
end
def hX8 (h : mHp) (k : Nat) : mHp := sI (sR (sN (sR (sN (sR (sN (sR (sN (sI (sI h k 0 (nI 0)) k 1 (nI 0)) (k + 0 + 1)) k 2 (k + 0 + 1)) (k + 1 + 1)) k 3 (k + 1 + 1)) (k + 2 + 1)) k 4 (k + 2 + 1)) (k + 3 + 1)) k 5 (k + 3 + 1)) k 6 (nI 0)
set_option maxHeartbeats 4000000 in
set_option maxRecDepth 100000 in
theorem v_X8_init (X : mCx) (d : Nat) {h : mHp} {k : Nat} (hk : 1 ≤ k) (hk2 : k + 4 ≤ 108) (h0 : mSg Sg k = some (5, 7)) (h1 : Sg[k + 0]? = some (20, 8)) (h2 : Sg[k + 1]? = some (20, 6)) (h3 : Sg[k + 2]? = some (20, 6)) (h4 : Sg[k + 3]? = some (20, 6)) : CC X (d + 2) M_X8_init [.ref k] (Sg.take k) h none (Sg.take (k + 4)) (hX8 h k) := by
  refine CC.of2 (L := [.ref k]) p_X8 (Nat.le_of_ble_eq_true rfl) rfl trivial (t_p (by omega)) ?_
  refine r_aload_n dX8_init_0 rfl ?_
  refine r_objInit dX8_init_1 l_X8_3 oi_i oi_c (by omega) (Nat.le_of_ble_eq_true rfl) ?_
  refine r_aload_n dX8_init_4 rfl ?_
  refine r_iconst dX8_init_5 ic_0 ?_
  refine r_putI dX8_init_6 f_X8_9 (t_g (by omega) h0) rfl ?_
  refine r_aload_n dX8_init_9 rfl ?_
  refine r_iconst dX8_init_10 ic_0 ?_
  refine r_putI dX8_init_11 f_X8_15 (t_g (by omega) h0) rfl ?_
  refine r_aload_n dX8_init_14 rfl ?_
  refine r_bipush dX8_init_15 bp_8 ?_
  refine n_newa_i (k := k + 0) (n := 8) dX8_init_17 (by omega) h1 (by decide) (by decide) (by decide) (t_p (by omega)) ?_
  refine r_putF dX8_init_19 f_X8_18 (t_g (by omega) h0) rfl rfl (fun C T z => (congrArg Prod.fst (Option.some.inj z)).symm) ?_
  refine r_aload_n dX8_init_22 rfl ?_
  refine r_bipush dX8_init_23 bp_6 ?_
  refine n_newa_i (k := k + 1) (n := 6) dX8_init_25 (by omega) h2 (by decide) (by decide) (by decide) (t_p (by omega)) ?_
  refine r_putF dX8_init_27 f_X8_22 (t_g (by omega) h0) rfl rfl (fun C T z => (congrArg Prod.fst (Option.some.inj z)).symm) ?_
  refine r_aload_n dX8_init_30 rfl ?_
  refine r_bipush dX8_init_31 bp_6 ?_
  refine n_newa_i (k := k + 2) (n := 6) dX8_init_33 (by omega) h3 (by decide) (by decide) (by decide) (t_p (by omega)) ?_
  refine r_putF dX8_init_35 f_X8_25 (t_g (by omega) h0) rfl rfl (fun C T z => (congrArg Prod.fst (Option.some.inj z)).symm) ?_
  refine r_aload_n dX8_init_38 rfl ?_
  refine r_bipush dX8_init_39 bp_6 ?_
  refine n_newa_i (k := k + 3) (n := 6) dX8_init_41 (by omega) h4 (by decide) (by decide) (by decide) (t_p (by omega)) ?_
  refine r_putF dX8_init_43 f_X8_28 (t_g (by omega) h0) rfl rfl (fun C T z => (congrArg Prod.fst (Option.some.inj z)).symm) ?_
  refine r_aload_n dX8_init_46 rfl ?_
  refine r_iconst dX8_init_47 ic_0 ?_
  refine r_putI dX8_init_48 f_X8_31 (t_g (by omega) h0) rfl ?_
  exact g_vret dX8_init_51 rfl rfl
def hX9 (h : mHp) (k : Nat) : mHp := sI (sR (sN h (k + 0 + 1)) k 0 (k + 0 + 1)) k 1 (nI 0)
set_option maxHeartbeats 4000000 in
set_option maxRecDepth 100000 in
theorem v_X9_init (X : mCx) (d : Nat) {h : mHp} {k : Nat} (hk : 1 ≤ k) (hk2 : k + 1 ≤ 108) (h0 : mSg Sg k = some (6, 2)) (h1 : Sg[k + 0]? = some (21, 200)) : CC X (d + 2) M_X9_init [.ref k] (Sg.take k) h none (Sg.take (k + 1)) (hX9 h k) := by
  refine CC.of2 (L := [.ref k]) p_X9 (Nat.le_of_ble_eq_true rfl) rfl trivial (t_p (by omega)) ?_
  refine r_aload_n dX9_init_0 rfl ?_
  refine r_objInit dX9_init_1 l_X9_3 oi_i oi_c (by omega) (Nat.le_of_ble_eq_true rfl) ?_
  refine r_aload_n dX9_init_4 rfl ?_
  refine r_sipush dX9_init_5 sp_200 ?_
  refine n_newa_c (k := k + 0) (n := 200) dX9_init_8 (by omega) h1 (by decide) (by decide) (by decide) (t_p (by omega)) ?_
  refine r_putF dX9_init_10 f_X9_9 (t_g (by omega) h0) rfl rfl (fun C T z => (congrArg Prod.fst (Option.some.inj z)).symm) ?_
  refine r_aload_n dX9_init_13 rfl ?_
  refine r_iconst dX9_init_14 ic_0 ?_
  refine r_putI dX9_init_15 f_X9_15 (t_g (by omega) h0) rfl ?_
  exact g_vret dX9_init_18 rfl rfl
def hX6 (h : mHp) (k : Nat) : mHp := sR (sN h (k + 0 + 1)) k 0 (k + 0 + 1)
set_option maxHeartbeats 4000000 in
set_option maxRecDepth 100000 in
theorem v_X6_init (X : mCx) (d : Nat) {h : mHp} {k : Nat} (hk : 1 ≤ k) (hk2 : k + 1 ≤ 108) (h0 : mSg Sg k = some (4, 1)) (h1 : Sg[k + 0]? = some (20, 4)) : CC X (d + 2) M_X6_init [.ref k] (Sg.take k) h none (Sg.take (k + 1)) (hX6 h k) := by
  refine CC.of2 (L := [.ref k]) p_X6 (Nat.le_of_ble_eq_true rfl) rfl trivial (t_p (by omega)) ?_
  refine r_aload_n dX6_init_0 rfl ?_
  refine r_objInit dX6_init_1 l_X6_3 oi_i oi_c (by omega) (Nat.le_of_ble_eq_true rfl) ?_
  refine r_aload_n dX6_init_4 rfl ?_
  refine r_iconst dX6_init_5 ic_4 ?_
  refine n_newa_i (k := k + 0) (n := 4) dX6_init_6 (by omega) h1 (by decide) (by decide) (by decide) (t_p (by omega)) ?_
  refine r_putF dX6_init_8 f_X6_9 (t_g (by omega) h0) rfl rfl (fun C T z => (congrArg Prod.fst (Option.some.inj z)).symm) ?_
  exact g_vret dX6_init_11 rfl rfl
def hX3 (h : mHp) (k : Nat) : mHp := sI (sR (sN (sR (sN h (k + 0 + 1)) k 0 (k + 0 + 1)) (k + 1 + 1)) k 1 (k + 1 + 1)) k 2 (nI 0)
set_option maxHeartbeats 4000000 in
set_option maxRecDepth 100000 in
theorem v_X3_init (X : mCx) (d : Nat) {h : mHp} {k : Nat} (hk : 1 ≤ k) (hk2 : k + 2 ≤ 108) (h0 : mSg Sg k = some (1, 3)) (h1 : Sg[k + 0]? = some (20, 6)) (h2 : Sg[k + 1]? = some (20, 6)) : CC X (d + 2) M_X3_init [.ref k] (Sg.take k) h none (Sg.take (k + 2)) (hX3 h k) := by
  refine CC.of2 (L := [.ref k]) p_X3 (Nat.le_of_ble_eq_true rfl) rfl trivial (t_p (by omega)) ?_
  refine r_aload_n dX3_init_0 rfl ?_
  refine r_objInit dX3_init_1 l_X3_3 oi_i oi_c (by omega) (Nat.le_of_ble_eq_true rfl) ?_
  refine r_aload_n dX3_init_4 rfl ?_
  refine r_bipush dX3_init_5 bp_6 ?_
  refine n_newa_i (k := k + 0) (n := 6) dX3_init_7 (by omega) h1 (by decide) (by decide) (by decide) (t_p (by omega)) ?_
  refine r_putF dX3_init_9 f_X3_9 (t_g (by omega) h0) rfl rfl (fun C T z => (congrArg Prod.fst (Option.some.inj z)).symm) ?_
  refine r_aload_n dX3_init_12 rfl ?_
  refine r_bipush dX3_init_13 bp_6 ?_
  refine n_newa_i (k := k + 1) (n := 6) dX3_init_15 (by omega) h2 (by decide) (by decide) (by decide) (t_p (by omega)) ?_
  refine r_putF dX3_init_17 f_X3_15 (t_g (by omega) h0) rfl rfl (fun C T z => (congrArg Prod.fst (Option.some.inj z)).symm) ?_
  refine r_aload_n dX3_init_20 rfl ?_
  refine r_iconst dX3_init_21 ic_0 ?_
  refine r_putI dX3_init_22 f_X3_18 (t_g (by omega) h0) rfl ?_
  exact g_vret dX3_init_25 rfl rfl
def hX4 (h : mHp) (k : Nat) : mHp := sR (sN (sR (sN h (k + 0 + 1)) k 0 (k + 0 + 1)) (k + 1 + 1)) k 1 (k + 1 + 1)
set_option maxHeartbeats 4000000 in
set_option maxRecDepth 100000 in
theorem v_X4_init (X : mCx) (d : Nat) {h : mHp} {k : Nat} (hk : 1 ≤ k) (hk2 : k + 2 ≤ 108) (h0 : mSg Sg k = some (2, 2)) (h1 : Sg[k + 0]? = some (20, 64)) (h2 : Sg[k + 1]? = some (20, 64)) : CC X (d + 2) M_X4_init [.ref k] (Sg.take k) h none (Sg.take (k + 2)) (hX4 h k) := by
  refine CC.of2 (L := [.ref k]) p_X4 (Nat.le_of_ble_eq_true rfl) rfl trivial (t_p (by omega)) ?_
  refine r_aload_n dX4_init_0 rfl ?_
  refine r_objInit dX4_init_1 l_X4_3 oi_i oi_c (by omega) (Nat.le_of_ble_eq_true rfl) ?_
  refine r_aload_n dX4_init_4 rfl ?_
  refine r_bipush dX4_init_5 bp_64 ?_
  refine n_newa_i (k := k + 0) (n := 64) dX4_init_7 (by omega) h1 (by decide) (by decide) (by decide) (t_p (by omega)) ?_
  refine r_putF dX4_init_9 f_X4_9 (t_g (by omega) h0) rfl rfl (fun C T z => (congrArg Prod.fst (Option.some.inj z)).symm) ?_
  refine r_aload_n dX4_init_12 rfl ?_
  refine r_bipush dX4_init_13 bp_64 ?_
  refine n_newa_i (k := k + 1) (n := 64) dX4_init_15 (by omega) h2 (by decide) (by decide) (by decide) (t_p (by omega)) ?_
  refine r_putF dX4_init_17 f_X4_15 (t_g (by omega) h0) rfl rfl (fun C T z => (congrArg Prod.fst (Option.some.inj z)).symm) ?_
  exact g_vret dX4_init_20 rfl rfl
def hX1 (h : mHp) (k : Nat) : mHp := sR (sN (sR (sN (sR (sN (sR (sN (sR (sN (sR (sN (sR (sN (sR (sN (sR (sN (sI (sI (sI h k 0 (nI 0)) k 1 (nI 0)) k 2 (nI 10)) (k + 0 + 1)) k 3 (k + 0 + 1)) (k + 1 + 1)) k 4 (k + 1 + 1)) (k + 2 + 1)) k 5 (k + 2 + 1)) (k + 3 + 1)) k 6 (k + 3 + 1)) (k + 4 + 1)) k 7 (k + 4 + 1)) (k + 5 + 1)) k 8 (k + 5 + 1)) (k + 6 + 1)) k 9 (k + 6 + 1)) (k + 7 + 1)) k 10 (k + 7 + 1)) (k + 8 + 1)) k 11 (k + 8 + 1)
set_option maxHeartbeats 4000000 in
set_option maxRecDepth 100000 in
theorem v_X1_init (X : mCx) (d : Nat) {h : mHp} {k : Nat} (hk : 1 ≤ k) (hk2 : k + 9 ≤ 108) (h0 : mSg Sg k = some (0, 12)) (h1 : Sg[k + 0]? = some (20, 6)) (h2 : Sg[k + 1]? = some (20, 6)) (h3 : Sg[k + 2]? = some (20, 6)) (h4 : Sg[k + 3]? = some (20, 36)) (h5 : Sg[k + 4]? = some (20, 8)) (h6 : Sg[k + 5]? = some (20, 8)) (h7 : Sg[k + 6]? = some (20, 8)) (h8 : Sg[k + 7]? = some (20, 8)) (h9 : Sg[k + 8]? = some (20, 8)) : CC X (d + 2) M_X1_init [.ref k] (Sg.take k) h none (Sg.take (k + 9)) (hX1 h k) := by
  refine CC.of2 (L := [.ref k]) p_X1 (Nat.le_of_ble_eq_true rfl) rfl trivial (t_p (by omega)) ?_
  refine r_aload_n dX1_init_0 rfl ?_
  refine r_objInit dX1_init_1 l_X1_3 oi_i oi_c (by omega) (Nat.le_of_ble_eq_true rfl) ?_
  refine r_aload_n dX1_init_4 rfl ?_
  refine r_iconst dX1_init_5 ic_0 ?_
  refine r_putI dX1_init_6 f_X1_9 (t_g (by omega) h0) rfl ?_
  refine r_aload_n dX1_init_9 rfl ?_
  refine r_iconst dX1_init_10 ic_0 ?_
  refine r_putI dX1_init_11 f_X1_15 (t_g (by omega) h0) rfl ?_
  refine r_aload_n dX1_init_14 rfl ?_
  refine r_bipush dX1_init_15 bp_10 ?_
  refine r_putI dX1_init_17 f_X1_18 (t_g (by omega) h0) rfl ?_
  refine r_aload_n dX1_init_20 rfl ?_
  refine r_bipush dX1_init_21 bp_6 ?_
  refine n_newa_i (k := k + 0) (n := 6) dX1_init_23 (by omega) h1 (by decide) (by decide) (by decide) (t_p (by omega)) ?_
  refine r_putF dX1_init_25 f_X1_21 (t_g (by omega) h0) rfl rfl (fun C T z => (congrArg Prod.fst (Option.some.inj z)).symm) ?_
  refine r_aload_n dX1_init_28 rfl ?_
  refine r_bipush dX1_init_29 bp_6 ?_
  refine n_newa_i (k := k + 1) (n := 6) dX1_init_31 (by omega) h2 (by decide) (by decide) (by decide) (t_p (by omega)) ?_
  refine r_putF dX1_init_33 f_X1_25 (t_g (by omega) h0) rfl rfl (fun C T z => (congrArg Prod.fst (Option.some.inj z)).symm) ?_
  refine r_aload_n dX1_init_36 rfl ?_
  refine r_bipush dX1_init_37 bp_6 ?_
  refine n_newa_i (k := k + 2) (n := 6) dX1_init_39 (by omega) h3 (by decide) (by decide) (by decide) (t_p (by omega)) ?_
  refine r_putF dX1_init_41 f_X1_28 (t_g (by omega) h0) rfl rfl (fun C T z => (congrArg Prod.fst (Option.some.inj z)).symm) ?_
  refine r_aload_n dX1_init_44 rfl ?_
  refine r_bipush dX1_init_45 bp_36 ?_
  refine n_newa_i (k := k + 3) (n := 36) dX1_init_47 (by omega) h4 (by decide) (by decide) (by decide) (t_p (by omega)) ?_
  refine r_putF dX1_init_49 f_X1_31 (t_g (by omega) h0) rfl rfl (fun C T z => (congrArg Prod.fst (Option.some.inj z)).symm) ?_
  refine r_aload_n dX1_init_52 rfl ?_
  refine r_bipush dX1_init_53 bp_8 ?_
  refine n_newa_i (k := k + 4) (n := 8) dX1_init_55 (by omega) h5 (by decide) (by decide) (by decide) (t_p (by omega)) ?_
  refine r_putF dX1_init_57 f_X1_34 (t_g (by omega) h0) rfl rfl (fun C T z => (congrArg Prod.fst (Option.some.inj z)).symm) ?_
  refine r_aload_n dX1_init_60 rfl ?_
  refine r_bipush dX1_init_61 bp_8 ?_
  refine n_newa_i (k := k + 5) (n := 8) dX1_init_63 (by omega) h6 (by decide) (by decide) (by decide) (t_p (by omega)) ?_
  refine r_putF dX1_init_65 f_X1_37 (t_g (by omega) h0) rfl rfl (fun C T z => (congrArg Prod.fst (Option.some.inj z)).symm) ?_
  refine r_aload_n dX1_init_68 rfl ?_
  refine r_bipush dX1_init_69 bp_8 ?_
  refine n_newa_i (k := k + 6) (n := 8) dX1_init_71 (by omega) h7 (by decide) (by decide) (by decide) (t_p (by omega)) ?_
  refine r_putF dX1_init_73 f_X1_40 (t_g (by omega) h0) rfl rfl (fun C T z => (congrArg Prod.fst (Option.some.inj z)).symm) ?_
  refine r_aload_n dX1_init_76 rfl ?_
  refine r_bipush dX1_init_77 bp_8 ?_
  refine n_newa_i (k := k + 7) (n := 8) dX1_init_79 (by omega) h8 (by decide) (by decide) (by decide) (t_p (by omega)) ?_
  refine r_putF dX1_init_81 f_X1_43 (t_g (by omega) h0) rfl rfl (fun C T z => (congrArg Prod.fst (Option.some.inj z)).symm) ?_
  refine r_aload_n dX1_init_84 rfl ?_
  refine r_bipush dX1_init_85 bp_8 ?_
  refine n_newa_i (k := k + 8) (n := 8) dX1_init_87 (by omega) h9 (by decide) (by decide) (by decide) (t_p (by omega)) ?_
  refine r_putF dX1_init_89 f_X1_46 (t_g (by omega) h0) rfl rfl (fun C T z => (congrArg Prod.fst (Option.some.inj z)).symm) ?_
  exact g_vret dX1_init_92 rfl rfl
