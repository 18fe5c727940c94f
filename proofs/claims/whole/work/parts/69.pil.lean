/-! ===== a pile is made ===== -/
theorem hX8_lo {h : mHp} {k o j : Nat} (ho : o < k) : (hX8 h k).2 o j = h.2 o j := by
  unfold hX8 sI sR sN
  dsimp only
  repeat rw [if_neg (by omega)]
def hP (h : mHp) (k : Nat) : Nat → mHp
  | 0 => sR (sN (sI (sI h k 1 (nI 0)) k 2 (nI 0)) (k + 1)) k 0 (k + 1)
  | j + 1 => sR (hX8 (sN (hP h k j) (k + 2 + 5 * j)) (k + 2 + 5 * j)) (k + 1) j (k + 2 + 5 * j)
theorem hP_row (h : mHp) (k : Nat) : ∀ j, (hP h k j).2 k 0 = k + 1
  | 0 => by
    show (if k = k ∧ 0 = 0 then k + 1 else _) = _
    rw [if_pos ⟨rfl, rfl⟩]
  | j + 1 => by
    show (if k = k + 1 ∧ 0 = j then _ else (hX8 (sN (hP h k j) (k + 2 + 5 * j)) (k + 2 + 5 * j)).2 k 0) = _
    rw [if_neg (by omega), hX8_lo (by omega)]
    show (if k = k + 2 + 5 * j then 0 else (hP h k j).2 k 0) = _
    rw [if_neg (by omega)]
    exact hP_row h k j
set_option maxHeartbeats 4000000 in
set_option maxRecDepth 100000 in
theorem v_X5_init (X : mCx) (d : Nat) {h : mHp} {k n : Nat} (hk : 1 ≤ k) (hk2 : k + 1 + 5 * n ≤ 108) (hn1 : 1 ≤ n) (hn8 : n ≤ 8) (h0 : mSg Sg k = some (3, 3)) (h1 : Sg[k]? = some (22, n)) (hS : ∀ j, j < n → Sg[k + 1 + 5 * j]? = some (5, 7) ∧ Sg[k + 2 + 5 * j + 0]? = some (20, 8) ∧ Sg[k + 2 + 5 * j + 1]? = some (20, 6) ∧ Sg[k + 2 + 5 * j + 2]? = some (20, 6) ∧ Sg[k + 2 + 5 * j + 3]? = some (20, 6) ∧ mSg Sg (k + 2 + 5 * j) = some (5, 7)) : CC X (d + 3) M_X5_init [.ref k, .int (nI n)] (Sg.take k) h none (Sg.take (k + 1 + 5 * n)) (hP h k n) := by
  have h22 : mSg Sg (k + 1) = some (22, n) := h1
  refine CC.of2 (L := [.ref k, .int (nI n), .retAddr 0]) p_X5 (Nat.le_of_ble_eq_true rfl) rfl trivial (t_p (by omega)) ?_
  refine r_aload_n dX5_init_0 rfl ?_
  refine r_objInit dX5_init_1 l_X5_1 oi_i oi_c (by omega) (Nat.le_of_ble_eq_true rfl) ?_
  refine r_aload_n dX5_init_4 rfl ?_
  refine r_iconst dX5_init_5 ic_0 ?_
  refine r_putI dX5_init_6 f_X5_7 (t_g (by omega) h0) rfl ?_
  refine r_aload_n dX5_init_9 rfl ?_
  refine r_iconst dX5_init_10 ic_0 ?_
  refine r_putI dX5_init_11 f_X5_13 (t_g (by omega) h0) rfl ?_
  refine r_aload_n dX5_init_14 rfl ?_
  refine r_iload_n dX5_init_15 rfl ?_
  refine r_iconst dX5_init_16 ic_1 ?_
  refine r_mmax dX5_init_17 l_X5_16 (Nat.le_of_ble_eq_true rfl) ?_
  refine g_top (y := nI n) (if_neg (fun z => by have := (nI_ltI (by omega) (by decide)).mp z; omega)) ?_
  refine n_newa_s (n := n) dX5_init_20 cl_X5_22 (by omega) h1 (nn_n (by omega)) (nI_clamp (by omega)) (by omega) (t_p (by omega)) ?_
  refine r_putF dX5_init_23 f_X5_24 (t_g (by omega) h0) rfl rfl (fun C T z => (congrArg Prod.fst (Option.some.inj z)).symm) ?_
  refine r_iconst dX5_init_26 ic_0 ?_
  refine r_istore_n (L' := [_, _, _]) dX5_init_27 rfl rfl ?_
  refine JJ.loopS n (fun j => [.ref k, .int (nI n), .int (nI j)]) (fun j => Sg.take (k + 1 + 5 * j)) (fun j => hP h k j) ?_ (fun j hj K => ?_)
  · refine r_iload_n dX5_init_28 rfl ?_
    refine r_aload_n dX5_init_29 rfl ?_
    refine n_getR dX5_init_30 f_X5_24 (t_g (by omega) h0) rfl (hP_row h k n) ?_
    refine r_alen_s dX5_init_33 (t_g (by omega) h22) (v := nI n) rfl ?_
    refine n_icmp_ge (tgt := 56) dX5_init_34 (by decide) (by omega) (by omega) (fun _ => ?_) (fun c => absurd c (by omega))
    exact g_vret dX5_init_56 rfl rfl
  · obtain ⟨s1, s2, s3, s4, s5, s6⟩ := hS j hj
    refine r_iload_n dX5_init_28 rfl ?_
    refine r_aload_n dX5_init_29 rfl ?_
    refine n_getR dX5_init_30 f_X5_24 (t_g (by omega) h0) rfl (hP_row h k j) ?_
    refine r_alen_s dX5_init_33 (t_g (by omega) h22) (v := nI n) rfl ?_
    refine n_icmp_ge (tgt := 56) dX5_init_34 (by decide) (by omega) (by omega) (fun c => absurd c (by omega)) (fun _ => ?_)
    refine r_aload_n dX5_init_37 rfl ?_
    refine n_getR dX5_init_38 f_X5_24 (t_g (by omega) h0) rfl (hP_row h k j) ?_
    refine r_iload_n dX5_init_41 rfl ?_
    refine n_new (k := k + 1 + 5 * j) dX5_init_42 (by omega) s1 ⟨TX8, rfl, u_TX8⟩ cl_X5_22 in_5 it_5 (t_p (by omega)) ?_
    rw [show k + 1 + 5 * j + 1 = k + 2 + 5 * j by omega]
    refine r_dup dX5_init_45 rfl ?_
    refine r_callIN [] dX5_init_46 n_X5_28 k_X8_init i_X8_init rfl rfl (by omega) rfl (Nat.le_of_ble_eq_true rfl) (v_X8_init X _ (by omega) (by omega) s6 s2 s3 s4 s5) (t_p (by omega)) ?_
    refine r_aast dX5_init_49 (n := n) (t_g (by omega) h22) (t_g (by omega) s6) (nI_in hj (by omega)) ?_
    rw [nI_clamp (by omega)]
    refine r_iinc (L' := [_, _, _]) dX5_init_50 rfl rfl (nI_inc _) rfl ?_
    refine r_goto (tgt := 28) dX5_init_53 (by decide) ?_
    rw [show k + 2 + 5 * j + 4 = k + 1 + 5 * (j + 1) by omega]
    exact K
/-! ===== the heap as the class has made it ===== -/
def hZ0 : mHp := sN (fun _ _ => 0, fun _ _ => 0) 1
def hZ1 : mHp := sR (hX9 (sN hZ0 2) 2) 1 0 2
def hZ2 : mHp := sR (hX6 (sN hZ1 4) 4) 1 1 4
def hZ3 : mHp := sR (hX8 (sN hZ2 6) 6) 1 2 6
def hZ4 : mHp := sR (hX8 (sN hZ3 11) 11) 1 3 11
def hZ5 : mHp := sR (hP (sN hZ4 16) 16 8) 1 4 16
def hZ6 : mHp := sR (hP (sN hZ5 58) 58 2) 1 5 58
def hZ7 : mHp := sR (hX3 (sN hZ6 70) 70) 1 6 70
def hZ8 : mHp := sR (hX4 (sN hZ7 73) 73) 1 7 73
def hZ9 : mHp := sR (sN hZ8 76) 1 8 76
def hZ10 : mHp := sR (hX1 (sN hZ9 77) 77) 1 9 77
def hZ11 : mHp := sR (hX1 (sN hZ10 87) 87) 1 10 87
set_option maxRecDepth 100000 in
theorem z_cla : Cla (Sg.take 96) hZ11.2 77 87 := by
  refine ⟨?_, ?_, ?_, ?_, ?_, ?_, ?_, ?_, ?_, ?_, ?_, ?_, ?_, ?_, ?_, ?_, ?_, ?_, ?_, ?_, ?_, ?_⟩
  any_goals decide +kernel
  any_goals (unfold Txt; decide +kernel)
  any_goals (unfold Rea; decide +kernel)
  any_goals (unfold Oat; decide +kernel)
  any_goals (unfold Ord; decide +kernel)
  any_goals (unfold Sto; decide +kernel)
  any_goals (refine ⟨?_, ?_, ?_, ?_, ?_, ?_⟩)
  any_goals decide +kernel
  any_goals (unfold Sto; decide +kernel)
set_option maxRecDepth 100000 in
theorem z_fam : FamD (Sg.take 96) hZ11.1 hZ11.2 77 bgW 0 0 := by
  refine ⟨⟨?_, ?_, ?_, ?_, ?_, ?_, ?_, ?_, ?_, ?_, ?_, ?_, ?_, ?_, ?_, ?_, ?_, ?_, ?_, ?_, ?_, ?_, ?_, ?_, ?_, ?_, ?_, ?_, ?_, ?_, ?_, ?_, ?_⟩, ?_⟩ <;> first | decide +kernel | exact fun i j h => absurd h (Nat.not_lt_zero _)
set_option maxRecDepth 100000 in
theorem z_dra : FamD (Sg.take 96) hZ11.1 hZ11.2 87 bgW 0 0 := by
  refine ⟨⟨?_, ?_, ?_, ?_, ?_, ?_, ?_, ?_, ?_, ?_, ?_, ?_, ?_, ?_, ?_, ?_, ?_, ?_, ?_, ?_, ?_, ?_, ?_, ?_, ?_, ?_, ?_, ?_, ?_, ?_, ?_, ?_, ?_⟩, ?_⟩ <;> first | decide +kernel | exact fun i j h => absurd h (Nat.not_lt_zero _)
set_option maxRecDepth 100000 in
theorem z_int : hZ11.1 2 1 = nI 0 ∧ hZ11.1 16 1 = nI 0 ∧ hZ11.1 16 2 = nI 0 ∧ hZ11.1 58 1 = nI 0 ∧ hZ11.1 58 2 = nI 0 ∧ hZ11.1 70 2 = nI 0 := by decide +kernel
