/-! ===== the class: piles, oaths, the text ===== -/
def Pio (S : mSh) (R : mR) (z n : Nat) : Prop := (mSg S z = some (3, 3)) ∧ (mSg S (z + 1) = some (22, n)) ∧ (R z 0 = z + 1) ∧ (∀ k, k < n → R (z + 1) k = z + 2 + 5 * k) ∧ (∀ k, k < n → Sto S R (z + 2 + 5 * k)) ∧ (1 ≤ n ∧ n ≤ 8)
theorem Pio.sg {S : mSh} {R : mR} {z n : Nat} (q : Pio S R z n) : mSg S z = some (3, 3) := q.1
theorem Pio.s0 {S : mSh} {R : mR} {z n : Nat} (q : Pio S R z n) : mSg S (z + 1) = some (22, n) := q.2.1
theorem Pio.r0 {S : mSh} {R : mR} {z n : Nat} (q : Pio S R z n) : R z 0 = z + 1 := q.2.2.1
theorem Pio.row {S : mSh} {R : mR} {z n : Nat} (q : Pio S R z n) : ∀ k, k < n → R (z + 1) k = z + 2 + 5 * k := q.2.2.2.1
theorem Pio.st {S : mSh} {R : mR} {z n : Nat} (q : Pio S R z n) : ∀ k, k < n → Sto S R (z + 2 + 5 * k) := q.2.2.2.2.1
theorem Pio.n9 {S : mSh} {R : mR} {z n : Nat} (q : Pio S R z n) : 1 ≤ n ∧ n ≤ 8 := q.2.2.2.2.2
def Oat (S : mSh) (R : mR) (z : Nat) : Prop := (mSg S z = some (1, 3)) ∧ (mSg S (z + 1) = some (20, 6)) ∧ (mSg S (z + 2) = some (20, 6)) ∧ (R z 0 = z + 1) ∧ (R z 1 = z + 2)
theorem Oat.sg {S : mSh} {R : mR} {z : Nat} (q : Oat S R z) : mSg S z = some (1, 3) := q.1
theorem Oat.s0 {S : mSh} {R : mR} {z : Nat} (q : Oat S R z) : mSg S (z + 1) = some (20, 6) := q.2.1
theorem Oat.s1 {S : mSh} {R : mR} {z : Nat} (q : Oat S R z) : mSg S (z + 2) = some (20, 6) := q.2.2.1
theorem Oat.r0 {S : mSh} {R : mR} {z : Nat} (q : Oat S R z) : R z 0 = z + 1 := q.2.2.2.1
theorem Oat.r1 {S : mSh} {R : mR} {z : Nat} (q : Oat S R z) : R z 1 = z + 2 := q.2.2.2.2
def Txt (S : mSh) (R : mR) (z : Nat) : Prop := (mSg S z = some (6, 2)) ∧ (mSg S (z + 1) = some (21, 200)) ∧ (R z 0 = z + 1)
theorem Txt.sg {S : mSh} {R : mR} {z : Nat} (q : Txt S R z) : mSg S z = some (6, 2) := q.1
theorem Txt.s0 {S : mSh} {R : mR} {z : Nat} (q : Txt S R z) : mSg S (z + 1) = some (21, 200) := q.2.1
theorem Txt.r0 {S : mSh} {R : mR} {z : Nat} (q : Txt S R z) : R z 0 = z + 1 := q.2.2
def Ord (S : mSh) (R : mR) (z : Nat) : Prop := (mSg S z = some (2, 2)) ∧ (mSg S (z + 1) = some (20, 64)) ∧ (mSg S (z + 2) = some (20, 64)) ∧ (R z 0 = z + 1) ∧ (R z 1 = z + 2)
theorem Ord.sg {S : mSh} {R : mR} {z : Nat} (q : Ord S R z) : mSg S z = some (2, 2) := q.1
theorem Ord.s0 {S : mSh} {R : mR} {z : Nat} (q : Ord S R z) : mSg S (z + 1) = some (20, 64) := q.2.1
theorem Ord.s1 {S : mSh} {R : mR} {z : Nat} (q : Ord S R z) : mSg S (z + 2) = some (20, 64) := q.2.2.1
theorem Ord.r0 {S : mSh} {R : mR} {z : Nat} (q : Ord S R z) : R z 0 = z + 1 := q.2.2.2.1
theorem Ord.r1 {S : mSh} {R : mR} {z : Nat} (q : Ord S R z) : R z 1 = z + 2 := q.2.2.2.2
def Rea (S : mSh) (R : mR) (z : Nat) : Prop := (mSg S z = some (4, 1)) ∧ (mSg S (z + 1) = some (20, 4)) ∧ (R z 0 = z + 1)
theorem Rea.sg {S : mSh} {R : mR} {z : Nat} (q : Rea S R z) : mSg S z = some (4, 1) := q.1
theorem Rea.s0 {S : mSh} {R : mR} {z : Nat} (q : Rea S R z) : mSg S (z + 1) = some (20, 4) := q.2.1
theorem Rea.r0 {S : mSh} {R : mR} {z : Nat} (q : Rea S R z) : R z 0 = z + 1 := q.2.2
theorem Pio.n8 {S : mSh} {R : mR} {z n : Nat} (q : Pio S R z n) : n ≤ 8 := q.n9.2
theorem Pio.n1 {S : mSh} {R : mR} {z n : Nat} (q : Pio S R z n) : 1 ≤ n := q.n9.1
set_option maxHeartbeats 4000000 in
set_option maxRecDepth 100000 in
theorem v_X5_row (X : mCx) (d : Nat) {S : mSh} {I : mI} {R : mR} {z n k : Nat} (hz : Pio S R z n) (hk : k < n) : CC X (d + 1) M_X5_row [.ref z, .int (nI k)] S (I, R) (some (.ref (z + 2 + 5 * k))) S (I, R) := by
  have hn := hz.n8
  refine CC.of2 (L := [.ref z, .int (nI k)]) p_X5 (Nat.le_of_ble_eq_true rfl) rfl trivial (List.prefix_refl S) ?_
  refine r_iload_n dX5_row_0 rfl ?_
  refine n_if_lt (tgt := 22) dX5_row_1 (by decide) (by omega) (fun c1 => absurd c1 (Nat.not_lt_zero _)) (fun c1 => ?_)
  refine r_iload_n dX5_row_4 rfl ?_
  refine r_aload_n dX5_row_5 rfl ?_
  refine g_getR dX5_row_6 f_X5_24 (Pio.sg (by assumption)) rfl (Pio.r0 (by assumption)) ?_
  refine r_alen_s dX5_row_9 (Pio.s0 (by assumption)) (v := nI n) rfl ?_
  refine n_icmp_ge (tgt := 22) dX5_row_10 (by decide) (by omega) (by omega) (fun c10 => absurd c10 (by omega)) (fun c10 => ?_)
  refine r_aload_n dX5_row_13 rfl ?_
  refine g_getR dX5_row_14 f_X5_24 (Pio.sg (by assumption)) rfl (Pio.r0 (by assumption)) ?_
  refine r_iload_n dX5_row_17 rfl ?_
  refine g_aald dX5_row_18 (Pio.s0 (by assumption)) rfl (by omega) (by omega) (hz.row k hk) ?_
  refine r_goto (tgt := 23) dX5_row_19 (by decide) ?_
  exact g_aret dX5_row_23 rfl rfl

set_option maxHeartbeats 4000000 in
set_option maxRecDepth 100000 in
theorem v_X5_empty (X : mCx) (d : Nat) {S : mSh} {I : mI} {R : mR} {z n : Nat} (hz : Pio S R z n)  : CC X (d + 1) M_X5_empty [.ref z] S (I, R) (none) S (sJ I z 2 (nI 0), R) := by
  refine CC.of2 (L := [.ref z]) p_X5 (Nat.le_of_ble_eq_true rfl) rfl trivial (List.prefix_refl S) ?_
  refine r_aload_n dX5_empty_0 rfl ?_
  refine r_iconst dX5_empty_1 ic_0 ?_
  refine g_putI dX5_empty_2 f_X5_13 (Pio.sg (by assumption)) rfl ?_
  exact g_vret dX5_empty_5 rfl rfl

def nxt (n nx : Nat) : Nat := if nx + 1 < n then nx + 1 else 0
def prv (n nx : Nat) : Nat := if 0 < nx then nx - 1 else n - 1
def hld (n hd : Nat) : Nat := if hd + 1 < n then hd + 1 else n
theorem hld_eq {n hd : Nat} (hn : n ≤ 8) (hh : hd ≤ n) : (if nI n < nI (hd + 1) then nI n else nI (hd + 1)) = nI (hld n hd) := by
  unfold hld
  by_cases h : hd + 1 < n
  · rw [if_pos h, if_neg (nI_nlt (by omega) (by omega))]
  · rw [if_neg h]
    by_cases h2 : n < hd + 1
    · rw [if_pos (nI_lt h2 (by omega))]
    · rw [if_neg (nI_nlt (by omega) (by omega)), show hd + 1 = n by omega]
/-- a pile behind a put, a take -/
def puH (I : mI) (z n nx hd q : Nat) : mI := sJ (sJ (cpH I q (z + 2 + 5 * nx)) z 1 (nI (nxt n nx))) z 2 (nI (hld n hd))
def taH (I : mI) (z n nx hd a : Nat) : mI := sJ (sJ (cpH I (z + 2 + 5 * prv n nx) a) z 1 (nI (prv n nx))) z 2 (nI (hd - 1))
set_option maxHeartbeats 4000000 in
set_option maxRecDepth 100000 in
theorem v_X5_put (X : mCx) (d : Nat) {S : mSh} {I : mI} {R : mR} {s : Nat → Int32} {N G hb pb z n nx hd q : Nat} (hz : Pio S R z n) (hst : Std S I R q s N G hb pb) (hn : I z 1 = nI nx) (hnx : nx < n) (hh : I z 2 = nI hd) (hhd : hd ≤ n) (hq : q + 4 < z ∨ z + 1 + 5 * n < q) : CC X (d + 3) M_X5_put [.ref z, .ref q] S (I, R) (none) S (puH I z n nx hd q, R) := by
  have hn8 := hz.n8
  have hn1 := hz.n1
  refine CC.of2 (L := [.ref z, .ref q, .retAddr 0]) p_X5 (Nat.le_of_ble_eq_true rfl) rfl trivial (List.prefix_refl S) ?_
  refine r_aload_n dX5_put_0 rfl ?_
  refine r_aload_n dX5_put_1 rfl ?_
  refine g_getI dX5_put_2 f_X5_7 (Pio.sg (by assumption)) rfl hn ?_
  refine r_V1 dX5_put_5 l_X5_29 k_X5_row i_X5_row (Pio.sg (by assumption)) ⟨_, rfl⟩ (Nat.le_of_ble_eq_true rfl) (v_X5_row X _ (by first | assumption | omega) (by first | assumption | omega)) (List.prefix_refl S) ?_
  refine r_astore_n (L' := [_, _, _]) dX5_put_8 rfl rfl ?_
  refine r_aload_n dX5_put_9 rfl ?_
  refine r_ifnonnull (tgt := 14) dX5_put_10 (by decide) (fun c10 => ?_) (fun c10 => absurd c10 (by omega))
  refine r_aload_n dX5_put_14 rfl ?_
  refine r_aload_n dX5_put_15 rfl ?_
  refine r_V1 dX5_put_16 l_X5_33 k_X8_copy i_X8_copy (Sto.sg (hz.st nx hnx)) ⟨_, rfl⟩ (Nat.le_of_ble_eq_true rfl) (v_X8_copy X _ hst (hz.st nx hnx) (by omega)) (List.prefix_refl S) ?_
  refine r_aload_n dX5_put_19 rfl ?_
  refine r_aload_n dX5_put_20 rfl ?_
  refine g_getI dX5_put_21 f_X5_7 (Pio.sg (by assumption)) rfl ((congrFun (cpH_fr (by omega)) _).trans hn) ?_
  refine r_iconst dX5_put_24 ic_1 ?_
  refine n_iadd dX5_put_25 ?_
  refine r_aload_n dX5_put_26 rfl ?_
  refine g_getR dX5_put_27 f_X5_24 (Pio.sg (by assumption)) rfl (Pio.r0 (by assumption)) ?_
  refine r_alen_s dX5_put_30 (Pio.s0 (by assumption)) (v := nI n) rfl ?_
  refine n_icmp_ge (tgt := 43) dX5_put_31 (by decide) (by omega) (by omega) (fun c31 => ?_) (fun c31 => ?_)
  · skip
    refine r_iconst dX5_put_43 ic_0 ?_
    refine g_putI dX5_put_44 f_X5_7 (Pio.sg (by assumption)) rfl ?_
    refine r_aload_n dX5_put_47 rfl ?_
    refine r_aload_n dX5_put_48 rfl ?_
    refine g_getI dX5_put_49 f_X5_13 (Pio.sg (by assumption)) rfl ((sJ_ne (by omega)).trans ((congrFun (cpH_fr (by omega)) _).trans hh)) ?_
    refine r_iconst dX5_put_52 ic_1 ?_
    refine n_iadd dX5_put_53 ?_
    refine r_aload_n dX5_put_54 rfl ?_
    refine g_getR dX5_put_55 f_X5_24 (Pio.sg (by assumption)) rfl (Pio.r0 (by assumption)) ?_
    refine r_alen_s dX5_put_58 (Pio.s0 (by assumption)) (v := nI n) rfl ?_
    refine r_mmin dX5_put_59 l_X5_37 (Nat.le_of_ble_eq_true rfl) ?_
    refine g_top (hld_eq hn8 hhd) ?_
    refine g_putI dX5_put_62 f_X5_13 (Pio.sg (by assumption)) rfl ?_
    exact g_vret dX5_put_65 rfl (by simp only [puH, nxt]; first | rw [if_pos c31] | rw [if_neg (by omega)])
  · skip
    refine r_aload_n dX5_put_34 rfl ?_
    refine g_getI dX5_put_35 f_X5_7 (Pio.sg (by assumption)) rfl ((congrFun (cpH_fr (by omega)) _).trans hn) ?_
    refine r_iconst dX5_put_38 ic_1 ?_
    refine n_iadd dX5_put_39 ?_
    refine r_goto (tgt := 44) dX5_put_40 (by decide) ?_
    refine g_putI dX5_put_44 f_X5_7 (Pio.sg (by assumption)) rfl ?_
    refine r_aload_n dX5_put_47 rfl ?_
    refine r_aload_n dX5_put_48 rfl ?_
    refine g_getI dX5_put_49 f_X5_13 (Pio.sg (by assumption)) rfl ((sJ_ne (by omega)).trans ((congrFun (cpH_fr (by omega)) _).trans hh)) ?_
    refine r_iconst dX5_put_52 ic_1 ?_
    refine n_iadd dX5_put_53 ?_
    refine r_aload_n dX5_put_54 rfl ?_
    refine g_getR dX5_put_55 f_X5_24 (Pio.sg (by assumption)) rfl (Pio.r0 (by assumption)) ?_
    refine r_alen_s dX5_put_58 (Pio.s0 (by assumption)) (v := nI n) rfl ?_
    refine r_mmin dX5_put_59 l_X5_37 (Nat.le_of_ble_eq_true rfl) ?_
    refine g_top (hld_eq hn8 hhd) ?_
    refine g_putI dX5_put_62 f_X5_13 (Pio.sg (by assumption)) rfl ?_
    exact g_vret dX5_put_65 rfl (by simp only [puH, nxt]; first | rw [if_pos c31] | rw [if_neg (by omega)])

theorem prv_lt {n nx : Nat} (h : nx < n) : prv n nx < n := by unfold prv; split <;> omega
set_option maxHeartbeats 4000000 in
set_option maxRecDepth 100000 in
theorem v_X5_take0 (X : mCx) (d : Nat) {S : mSh} {I : mI} {R : mR} {z n nx hd : Nat} {a : Nat} (hz : Pio S R z n) (hn : I z 1 = nI nx) (hnx : nx < n) (hh : I z 2 = nI hd) (hhd : hd ≤ n) (h0 : hd = 0) : CC X (d + 2) M_X5_take [.ref z, .ref a] S (I, R) (some (.int (bI false))) S (I, R) := by
  have hn8 := hz.n8
  have hn1 := hz.n1
  refine CC.of2 (L := [.ref z, .ref a, .retAddr 0, .retAddr 0]) p_X5 (Nat.le_of_ble_eq_true rfl) rfl (mRok_b _) (List.prefix_refl S) ?_
  refine r_aload_n dX5_take_0 rfl ?_
  refine g_getI dX5_take_1 f_X5_7 (Pio.sg (by assumption)) rfl hn ?_
  refine n_if_le (tgt := 16) dX5_take_4 (by decide) (by omega) (fun c4 => ?_) (fun c4 => ?_)
  · skip
    refine r_aload_n dX5_take_16 rfl ?_
    refine g_getR dX5_take_17 f_X5_24 (Pio.sg (by assumption)) rfl (Pio.r0 (by assumption)) ?_
    refine r_alen_s dX5_take_20 (Pio.s0 (by assumption)) (v := nI n) rfl ?_
    refine r_iconst dX5_take_21 ic_1 ?_
    refine n_isub dX5_take_22 (by omega) ?_
    rw [show n - 1 = prv n nx by unfold prv; rw [if_neg (by omega)]]
    have hpr := prv_lt hnx
    refine r_istore_n (L' := [_, _, _, _]) dX5_take_23 rfl rfl ?_
    refine r_aload_n dX5_take_24 rfl ?_
    refine r_iload_n dX5_take_25 rfl ?_
    refine r_V1 dX5_take_26 l_X5_29 k_X5_row i_X5_row (Pio.sg (by assumption)) ⟨_, rfl⟩ (Nat.le_of_ble_eq_true rfl) (v_X5_row X _ (by first | assumption | omega) (by first | assumption | omega)) (List.prefix_refl S) ?_
    refine r_astore_n (L' := [_, _, _, _]) dX5_take_29 rfl rfl ?_
    refine r_aload_n dX5_take_30 rfl ?_
    refine g_getI dX5_take_31 f_X5_13 (Pio.sg (by assumption)) rfl hh ?_
    refine r_iconst dX5_take_34 ic_1 ?_
    refine n_icmp_lt (tgt := 42) dX5_take_35 (by decide) (by omega) (by omega) (fun c35 => ?_) (fun c35 => absurd c35 (by omega))
    refine r_iconst dX5_take_42 ic_0 ?_
    exact g_iret dX5_take_43 (rB0 rfl) rfl
  · skip
    refine r_aload_n dX5_take_7 rfl ?_
    refine g_getI dX5_take_8 f_X5_7 (Pio.sg (by assumption)) rfl hn ?_
    refine r_iconst dX5_take_11 ic_1 ?_
    refine n_isub dX5_take_12 (by omega) ?_
    rw [show nx - 1 = prv n nx by unfold prv; rw [if_pos c4]]
    have hpr := prv_lt hnx
    refine r_goto (tgt := 23) dX5_take_13 (by decide) ?_
    refine r_istore_n (L' := [_, _, _, _]) dX5_take_23 rfl rfl ?_
    refine r_aload_n dX5_take_24 rfl ?_
    refine r_iload_n dX5_take_25 rfl ?_
    refine r_V1 dX5_take_26 l_X5_29 k_X5_row i_X5_row (Pio.sg (by assumption)) ⟨_, rfl⟩ (Nat.le_of_ble_eq_true rfl) (v_X5_row X _ (by first | assumption | omega) (by first | assumption | omega)) (List.prefix_refl S) ?_
    refine r_astore_n (L' := [_, _, _, _]) dX5_take_29 rfl rfl ?_
    refine r_aload_n dX5_take_30 rfl ?_
    refine g_getI dX5_take_31 f_X5_13 (Pio.sg (by assumption)) rfl hh ?_
    refine r_iconst dX5_take_34 ic_1 ?_
    refine n_icmp_lt (tgt := 42) dX5_take_35 (by decide) (by omega) (by omega) (fun c35 => ?_) (fun c35 => absurd c35 (by omega))
    refine r_iconst dX5_take_42 ic_0 ?_
    exact g_iret dX5_take_43 (rB0 rfl) rfl

set_option maxHeartbeats 4000000 in
set_option maxRecDepth 100000 in
theorem v_X5_take (X : mCx) (d : Nat) {S : mSh} {I : mI} {R : mR} {s : Nat → Int32} {N G hb pb z n nx hd a : Nat} (hz : Pio S R z n) (ho : Sto S R a) (hn : I z 1 = nI nx) (hnx : nx < n) (hh : I z 2 = nI hd) (hhd : hd ≤ n) (h1 : 1 ≤ hd) (hst : Std S I R (z + 2 + 5 * prv n nx) s N G hb pb) (hq : a + 4 < z ∨ z + 1 + 5 * n < a) : CC X (d + 3) M_X5_take [.ref z, .ref a] S (I, R) (some (.int (bI true))) S (taH I z n nx hd a, R) := by
  have hn8 := hz.n8
  have hn1 := hz.n1
  refine CC.of2 (L := [.ref z, .ref a, .retAddr 0, .retAddr 0]) p_X5 (Nat.le_of_ble_eq_true rfl) rfl (mRok_b _) (List.prefix_refl S) ?_
  refine r_aload_n dX5_take_0 rfl ?_
  refine g_getI dX5_take_1 f_X5_7 (Pio.sg (by assumption)) rfl hn ?_
  refine n_if_le (tgt := 16) dX5_take_4 (by decide) (by omega) (fun c4 => ?_) (fun c4 => ?_)
  · skip
    refine r_aload_n dX5_take_16 rfl ?_
    refine g_getR dX5_take_17 f_X5_24 (Pio.sg (by assumption)) rfl (Pio.r0 (by assumption)) ?_
    refine r_alen_s dX5_take_20 (Pio.s0 (by assumption)) (v := nI n) rfl ?_
    refine r_iconst dX5_take_21 ic_1 ?_
    refine n_isub dX5_take_22 (by omega) ?_
    rw [show n - 1 = prv n nx by unfold prv; rw [if_neg (by omega)]]
    have hpr := prv_lt hnx
    refine r_istore_n (L' := [_, _, _, _]) dX5_take_23 rfl rfl ?_
    refine r_aload_n dX5_take_24 rfl ?_
    refine r_iload_n dX5_take_25 rfl ?_
    refine r_V1 dX5_take_26 l_X5_29 k_X5_row i_X5_row (Pio.sg (by assumption)) ⟨_, rfl⟩ (Nat.le_of_ble_eq_true rfl) (v_X5_row X _ (by first | assumption | omega) (by first | assumption | omega)) (List.prefix_refl S) ?_
    refine r_astore_n (L' := [_, _, _, _]) dX5_take_29 rfl rfl ?_
    refine r_aload_n dX5_take_30 rfl ?_
    refine g_getI dX5_take_31 f_X5_13 (Pio.sg (by assumption)) rfl hh ?_
    refine r_iconst dX5_take_34 ic_1 ?_
    refine n_icmp_lt (tgt := 42) dX5_take_35 (by decide) (by omega) (by omega) (fun c35 => absurd c35 (by omega)) (fun c35 => ?_)
    refine r_aload_n dX5_take_38 rfl ?_
    refine r_ifnonnull (tgt := 44) dX5_take_39 (by decide) (fun c39 => ?_) (fun c39 => absurd c39 (by omega))
    refine r_aload_n dX5_take_44 rfl ?_
    refine r_aload_n dX5_take_45 rfl ?_
    refine r_V1 dX5_take_46 l_X5_33 k_X8_copy i_X8_copy (Sto.sg ho) ⟨_, rfl⟩ (Nat.le_of_ble_eq_true rfl) (v_X8_copy X _ hst ho (by omega)) (List.prefix_refl S) ?_
    refine r_aload_n dX5_take_49 rfl ?_
    refine r_iload_n dX5_take_50 rfl ?_
    refine g_putI dX5_take_51 f_X5_7 (Pio.sg (by assumption)) rfl ?_
    refine r_aload_n dX5_take_54 rfl ?_
    refine r_dup dX5_take_55 rfl ?_
    refine g_getI dX5_take_56 f_X5_13 (Pio.sg (by assumption)) rfl ((sJ_ne (by omega)).trans ((congrFun (cpH_fr (by omega)) _).trans hh)) ?_
    refine r_iconst dX5_take_59 ic_1 ?_
    refine n_isub dX5_take_60 (by omega) ?_
    refine g_putI dX5_take_61 f_X5_13 (Pio.sg (by assumption)) rfl ?_
    refine r_iconst dX5_take_64 ic_1 ?_
    exact g_iret dX5_take_65 (rB1 rfl) rfl
  · skip
    refine r_aload_n dX5_take_7 rfl ?_
    refine g_getI dX5_take_8 f_X5_7 (Pio.sg (by assumption)) rfl hn ?_
    refine r_iconst dX5_take_11 ic_1 ?_
    refine n_isub dX5_take_12 (by omega) ?_
    rw [show nx - 1 = prv n nx by unfold prv; rw [if_pos c4]]
    have hpr := prv_lt hnx
    refine r_goto (tgt := 23) dX5_take_13 (by decide) ?_
    refine r_istore_n (L' := [_, _, _, _]) dX5_take_23 rfl rfl ?_
    refine r_aload_n dX5_take_24 rfl ?_
    refine r_iload_n dX5_take_25 rfl ?_
    refine r_V1 dX5_take_26 l_X5_29 k_X5_row i_X5_row (Pio.sg (by assumption)) ⟨_, rfl⟩ (Nat.le_of_ble_eq_true rfl) (v_X5_row X _ (by first | assumption | omega) (by first | assumption | omega)) (List.prefix_refl S) ?_
    refine r_astore_n (L' := [_, _, _, _]) dX5_take_29 rfl rfl ?_
    refine r_aload_n dX5_take_30 rfl ?_
    refine g_getI dX5_take_31 f_X5_13 (Pio.sg (by assumption)) rfl hh ?_
    refine r_iconst dX5_take_34 ic_1 ?_
    refine n_icmp_lt (tgt := 42) dX5_take_35 (by decide) (by omega) (by omega) (fun c35 => absurd c35 (by omega)) (fun c35 => ?_)
    refine r_aload_n dX5_take_38 rfl ?_
    refine r_ifnonnull (tgt := 44) dX5_take_39 (by decide) (fun c39 => ?_) (fun c39 => absurd c39 (by omega))
    refine r_aload_n dX5_take_44 rfl ?_
    refine r_aload_n dX5_take_45 rfl ?_
    refine r_V1 dX5_take_46 l_X5_33 k_X8_copy i_X8_copy (Sto.sg ho) ⟨_, rfl⟩ (Nat.le_of_ble_eq_true rfl) (v_X8_copy X _ hst ho (by omega)) (List.prefix_refl S) ?_
    refine r_aload_n dX5_take_49 rfl ?_
    refine r_iload_n dX5_take_50 rfl ?_
    refine g_putI dX5_take_51 f_X5_7 (Pio.sg (by assumption)) rfl ?_
    refine r_aload_n dX5_take_54 rfl ?_
    refine r_dup dX5_take_55 rfl ?_
    refine g_getI dX5_take_56 f_X5_13 (Pio.sg (by assumption)) rfl ((sJ_ne (by omega)).trans ((congrFun (cpH_fr (by omega)) _).trans hh)) ?_
    refine r_iconst dX5_take_59 ic_1 ?_
    refine n_isub dX5_take_60 (by omega) ?_
    refine g_putI dX5_take_61 f_X5_13 (Pio.sg (by assumption)) rfl ?_
    refine r_iconst dX5_take_64 ic_1 ?_
    exact g_iret dX5_take_65 (rB1 rfl) rfl

set_option maxHeartbeats 4000000 in
set_option maxRecDepth 100000 in
theorem v_X3_add (X : mCx) (d : Nat) {S : mSh} {I : mI} {R : mR} {z m : Nat} (hz : Oat S R z) (hm : I z 2 = nI m) {x y : Int32} (h6 : m < 6) : CC X (d + 2) M_X3_add [.ref z, .int x, .int y] S (I, R) (some (.int (bI true))) S (sJ (sJ (sJ I (z + 1) m x) (z + 2) m y) z 2 (nI (m + 1)), R) := by
  refine CC.of2 (L := [.ref z, .int x, .int y]) p_X3 (Nat.le_of_ble_eq_true rfl) rfl (mRok_b _) (List.prefix_refl S) ?_
  refine r_aload_n dX3_add_0 rfl ?_
  refine g_getI dX3_add_1 f_X3_18 (Oat.sg (by assumption)) rfl hm ?_
  refine r_bipush dX3_add_4 bp_6 ?_
  refine n_icmp_lt (tgt := 11) dX3_add_6 (by decide) (by omega) (by omega) (fun c6 => ?_) (fun c6 => absurd c6 (by omega))
  refine r_aload_n dX3_add_11 rfl ?_
  refine g_getR dX3_add_12 f_X3_9 (Oat.sg (by assumption)) rfl (Oat.r0 (by assumption)) ?_
  refine r_aload_n dX3_add_15 rfl ?_
  refine g_getI dX3_add_16 f_X3_18 (Oat.sg (by assumption)) rfl hm ?_
  refine r_iload_n dX3_add_19 rfl ?_
  refine r_S3 dX3_add_20 l_X3_22 k_X7_put s_X7_put (Nat.le_of_ble_eq_true rfl) (v_X7_put X _ (Oat.s0 (by assumption)) (by omega) (by decide)) (List.prefix_refl S) ?_
  refine r_aload_n dX3_add_23 rfl ?_
  refine g_getR dX3_add_24 f_X3_15 (Oat.sg (by assumption)) rfl (Oat.r1 (by assumption)) ?_
  refine r_aload_n dX3_add_27 rfl ?_
  refine g_getI dX3_add_28 f_X3_18 (Oat.sg (by assumption)) rfl ((congrFun (sJ_o (by omega)) _).trans hm) ?_
  refine r_iload_n dX3_add_31 rfl ?_
  refine r_S3 dX3_add_32 l_X3_22 k_X7_put s_X7_put (Nat.le_of_ble_eq_true rfl) (v_X7_put X _ (Oat.s1 (by assumption)) (by omega) (by decide)) (List.prefix_refl S) ?_
  refine r_aload_n dX3_add_35 rfl ?_
  refine r_dup dX3_add_36 rfl ?_
  refine g_getI dX3_add_37 f_X3_18 (Oat.sg (by assumption)) rfl ((congrFun (sJ_o (by omega)) _).trans ((congrFun (sJ_o (by omega)) _).trans hm)) ?_
  refine r_iconst dX3_add_40 ic_1 ?_
  refine n_iadd dX3_add_41 ?_
  refine g_putI dX3_add_42 f_X3_18 (Oat.sg (by assumption)) rfl ?_
  refine r_iconst dX3_add_45 ic_1 ?_
  exact g_iret dX3_add_46 (rB1 rfl) rfl

set_option maxHeartbeats 4000000 in
set_option maxRecDepth 100000 in
theorem v_X3_add6 (X : mCx) (d : Nat) {S : mSh} {I : mI} {R : mR} {z m : Nat} (hz : Oat S R z) (hm : I z 2 = nI m) {x y : Int32} (h6 : m = 6) : CC X (d + 1) M_X3_add [.ref z, .int x, .int y] S (I, R) (some (.int (bI false))) S (I, R) := by
  refine CC.of2 (L := [.ref z, .int x, .int y]) p_X3 (Nat.le_of_ble_eq_true rfl) rfl (mRok_b _) (List.prefix_refl S) ?_
  refine r_aload_n dX3_add_0 rfl ?_
  refine g_getI dX3_add_1 f_X3_18 (Oat.sg (by assumption)) rfl hm ?_
  refine r_bipush dX3_add_4 bp_6 ?_
  refine n_icmp_lt (tgt := 11) dX3_add_6 (by decide) (by omega) (by omega) (fun c6 => absurd c6 (by omega)) (fun c6 => ?_)
  refine r_iconst dX3_add_9 ic_0 ?_
  exact g_iret dX3_add_10 (rB0 rfl) rfl

set_option maxHeartbeats 4000000 in
set_option maxRecDepth 100000 in
theorem v_X3_empty (X : mCx) (d : Nat) {S : mSh} {I : mI} {R : mR} {z : Nat} (hz : Oat S R z)  : CC X (d + 1) M_X3_empty [.ref z] S (I, R) (none) S (sJ I z 2 (nI 0), R) := by
  refine CC.of2 (L := [.ref z]) p_X3 (Nat.le_of_ble_eq_true rfl) rfl trivial (List.prefix_refl S) ?_
  refine r_aload_n dX3_empty_0 rfl ?_
  refine r_iconst dX3_empty_1 ic_0 ?_
  refine g_putI dX3_empty_2 f_X3_18 (Oat.sg (by assumption)) rfl ?_
  exact g_vret dX3_empty_5 rfl rfl

set_option maxHeartbeats 4000000 in
set_option maxRecDepth 100000 in
theorem v_X3_holds (X : mCx) (d : Nat) {S : mSh} {I : mI} {R : mR} {z m : Nat} (hz : Oat S R z) (hm : I z 2 = nI m) {x : Int32} : CC X (d + 1) M_X3_holds [.ref z, .int x] S (I, R) (some (.int (bI (isP m x)))) S (I, R) := by
  refine CC.of2 (L := [.ref z, .int x]) p_X3 (Nat.le_of_ble_eq_true rfl) rfl (mRok_b _) (List.prefix_refl S) ?_
  refine r_iload_n dX3_holds_0 rfl ?_
  refine r_if_lt (tgt := 16) dX3_holds_1 (by decide) (fun c1 => ?_) (fun c1 => ?_)
  · skip
    refine r_iconst dX3_holds_16 ic_0 ?_
    exact g_iret dX3_holds_17 (rB0 (by simp [isP, *])) rfl
  · skip
    refine r_iload_n dX3_holds_4 rfl ?_
    refine r_aload_n dX3_holds_5 rfl ?_
    refine g_getI dX3_holds_6 f_X3_18 (Oat.sg (by assumption)) rfl hm ?_
    refine r_icmp_ge (tgt := 16) dX3_holds_9 (by decide) (fun c9 => ?_) (fun c9 => ?_)
    · skip
      refine r_iconst dX3_holds_16 ic_0 ?_
      exact g_iret dX3_holds_17 (rB0 (by simp [isP, *])) rfl
    · skip
      refine r_iconst dX3_holds_12 ic_1 ?_
      refine r_goto (tgt := 17) dX3_holds_13 (by decide) ?_
      exact g_iret dX3_holds_17 (rB1 (by simp [isP, *])) rfl

set_option maxHeartbeats 4000000 in
set_option maxRecDepth 100000 in
theorem v_X3_swearer (X : mCx) (d : Nat) {S : mSh} {I : mI} {R : mR} {z k : Nat} (hz : Oat S R z) (hk : k < 6) : CC X (d + 2) M_X3_swearer [.ref z, .int (nI k)] S (I, R) (some (.int (I (z + 1) k))) S (I, R) := by
  refine CC.of2 (L := [.ref z, .int (nI k)]) p_X3 (Nat.le_of_ble_eq_true rfl) rfl rfl (List.prefix_refl S) ?_
  refine r_aload_n dX3_swearer_0 rfl ?_
  refine g_getR dX3_swearer_1 f_X3_9 (Oat.sg (by assumption)) rfl (Oat.r0 (by assumption)) ?_
  refine r_iload_n dX3_swearer_4 rfl ?_
  refine r_S2 dX3_swearer_5 l_X3_28 k_X7_get s_X7_get (Nat.le_of_ble_eq_true rfl) (v_X7_get X _ (Oat.s0 (by assumption)) (by omega) (by decide)) (List.prefix_refl S) ?_
  exact g_iret dX3_swearer_8 rfl rfl

set_option maxHeartbeats 4000000 in
set_option maxRecDepth 100000 in
theorem v_X3_sum (X : mCx) (d : Nat) {S : mSh} {I : mI} {R : mR} {z k : Nat} (hz : Oat S R z) (hk : k < 6) : CC X (d + 2) M_X3_sum [.ref z, .int (nI k)] S (I, R) (some (.int (I (z + 2) k))) S (I, R) := by
  refine CC.of2 (L := [.ref z, .int (nI k)]) p_X3 (Nat.le_of_ble_eq_true rfl) rfl rfl (List.prefix_refl S) ?_
  refine r_aload_n dX3_sum_0 rfl ?_
  refine g_getR dX3_sum_1 f_X3_15 (Oat.sg (by assumption)) rfl (Oat.r1 (by assumption)) ?_
  refine r_iload_n dX3_sum_4 rfl ?_
  refine r_S2 dX3_sum_5 l_X3_28 k_X7_get s_X7_get (Nat.le_of_ble_eq_true rfl) (v_X7_get X _ (Oat.s1 (by assumption)) (by omega) (by decide)) (List.prefix_refl S) ?_
  exact g_iret dX3_sum_8 rfl rfl

theorem mRok_c {k : Nat} (h : k < 128) : mRok (some .char) (some (.int (nI k))) := by
  have : ∀ k, k < 128 → narrow .char (.int (nI k)) = .int (nI k) := by decide +kernel
  exact this k h
theorem nar_char {k : Nat} (h : k < 128) : vp_nar .char (nI k) = nI k := by
  have : ∀ k, k < 128 → vp_nar .char (nI k) = nI k := by decide +kernel
  exact this k h
set_option maxHeartbeats 4000000 in
set_option maxRecDepth 100000 in
theorem v_X9_add (X : mCx) (d : Nat) {S : mSh} {I : mI} {R : mR} {z n : Nat} (hz : Txt S R z) (hn : I z 1 = nI n) {k : Nat} (hk : k < 128) (h2 : n < 200) : CC X (d + 1) M_X9_add [.ref z, .int (nI k)] S (I, R) (some (.int (bI true))) S (sJ (sJ I (z + 1) n (nI k)) z 1 (nI (n + 1)), R) := by
  refine CC.of2 (L := [.ref z, .int (nI k)]) p_X9 (Nat.le_of_ble_eq_true rfl) rfl (mRok_b _) (List.prefix_refl S) ?_
  refine r_aload_n dX9_add_0 rfl ?_
  refine g_getI dX9_add_1 f_X9_15 (Txt.sg (by assumption)) rfl hn ?_
  refine n_if_lt (tgt := 19) dX9_add_4 (by decide) (by omega) (fun c4 => absurd c4 (Nat.not_lt_zero _)) (fun c4 => ?_)
  refine r_aload_n dX9_add_7 rfl ?_
  refine g_getI dX9_add_8 f_X9_15 (Txt.sg (by assumption)) rfl hn ?_
  refine r_aload_n dX9_add_11 rfl ?_
  refine g_getR dX9_add_12 f_X9_9 (Txt.sg (by assumption)) rfl (Txt.r0 (by assumption)) ?_
  refine r_alen_c dX9_add_15 (Txt.s0 (by assumption)) (v := nI 200) rfl ?_
  refine n_icmp_lt (tgt := 21) dX9_add_16 (by decide) (by omega) (by omega) (fun c16 => ?_) (fun c16 => absurd c16 (by omega))
  refine r_aload_n dX9_add_21 rfl ?_
  refine g_getR dX9_add_22 f_X9_9 (Txt.sg (by assumption)) rfl (Txt.r0 (by assumption)) ?_
  refine r_aload_n dX9_add_25 rfl ?_
  refine g_getI dX9_add_26 f_X9_15 (Txt.sg (by assumption)) rfl hn ?_
  refine r_iload_n dX9_add_29 rfl ?_
  refine g_cast dX9_add_30 (Txt.s0 (by assumption)) rfl (by omega) (by omega) (nar_char hk) ?_
  refine r_aload_n dX9_add_31 rfl ?_
  refine r_dup dX9_add_32 rfl ?_
  refine g_getI dX9_add_33 f_X9_15 (Txt.sg (by assumption)) rfl ((congrFun (sJ_o (by omega)) _).trans hn) ?_
  refine r_iconst dX9_add_36 ic_1 ?_
  refine n_iadd dX9_add_37 ?_
  refine g_putI dX9_add_38 f_X9_15 (Txt.sg (by assumption)) rfl ?_
  refine r_iconst dX9_add_41 ic_1 ?_
  exact g_iret dX9_add_42 (rB1 rfl) rfl

set_option maxHeartbeats 4000000 in
set_option maxRecDepth 100000 in
theorem v_X9_addF (X : mCx) (d : Nat) {S : mSh} {I : mI} {R : mR} {z n : Nat} (hz : Txt S R z) (hn : I z 1 = nI n) {k : Nat} (h2 : n = 200) : CC X (d + 1) M_X9_add [.ref z, .int (nI k)] S (I, R) (some (.int (bI false))) S (I, R) := by
  refine CC.of2 (L := [.ref z, .int (nI k)]) p_X9 (Nat.le_of_ble_eq_true rfl) rfl (mRok_b _) (List.prefix_refl S) ?_
  refine r_aload_n dX9_add_0 rfl ?_
  refine g_getI dX9_add_1 f_X9_15 (Txt.sg (by assumption)) rfl hn ?_
  refine n_if_lt (tgt := 19) dX9_add_4 (by decide) (by omega) (fun c4 => absurd c4 (Nat.not_lt_zero _)) (fun c4 => ?_)
  refine r_aload_n dX9_add_7 rfl ?_
  refine g_getI dX9_add_8 f_X9_15 (Txt.sg (by assumption)) rfl hn ?_
  refine r_aload_n dX9_add_11 rfl ?_
  refine g_getR dX9_add_12 f_X9_9 (Txt.sg (by assumption)) rfl (Txt.r0 (by assumption)) ?_
  refine r_alen_c dX9_add_15 (Txt.s0 (by assumption)) (v := nI 200) rfl ?_
  refine n_icmp_lt (tgt := 21) dX9_add_16 (by decide) (by omega) (by omega) (fun c16 => absurd c16 (by omega)) (fun c16 => ?_)
  refine r_iconst dX9_add_19 ic_0 ?_
  exact g_iret dX9_add_20 (rB0 rfl) rfl

set_option maxHeartbeats 4000000 in
set_option maxRecDepth 100000 in
theorem v_X9_empty (X : mCx) (d : Nat) {S : mSh} {I : mI} {R : mR} {z : Nat} (hz : Txt S R z)  : CC X (d + 1) M_X9_empty [.ref z] S (I, R) (none) S (sJ I z 1 (nI 0), R) := by
  refine CC.of2 (L := [.ref z]) p_X9 (Nat.le_of_ble_eq_true rfl) rfl trivial (List.prefix_refl S) ?_
  refine r_aload_n dX9_empty_0 rfl ?_
  refine r_iconst dX9_empty_1 ic_0 ?_
  refine g_putI dX9_empty_2 f_X9_15 (Txt.sg (by assumption)) rfl ?_
  exact g_vret dX9_empty_5 rfl rfl

set_option maxHeartbeats 4000000 in
set_option maxRecDepth 100000 in
theorem v_X9_sign (X : mCx) (d : Nat) {S : mSh} {I : mI} {R : mR} {z n : Nat} (hz : Txt S R z) (hn : I z 1 = nI n) {k c : Nat} (h2 : n ≤ 200) (hk : k < n) (hc : I (z + 1) k = nI c) (hc2 : c < 128) : CC X (d + 1) M_X9_sign [.ref z, .int (nI k)] S (I, R) (some (.int (nI c))) S (I, R) := by
  refine CC.of2 (L := [.ref z, .int (nI k)]) p_X9 (Nat.le_of_ble_eq_true rfl) rfl (mRok_c hc2) (List.prefix_refl S) ?_
  refine r_iload_n dX9_sign_0 rfl ?_
  refine n_if_lt (tgt := 30) dX9_sign_1 (by decide) (by omega) (fun c1 => absurd c1 (Nat.not_lt_zero _)) (fun c1 => ?_)
  refine r_iload_n dX9_sign_4 rfl ?_
  refine r_aload_n dX9_sign_5 rfl ?_
  refine g_getI dX9_sign_6 f_X9_15 (Txt.sg (by assumption)) rfl hn ?_
  refine n_icmp_ge (tgt := 30) dX9_sign_9 (by decide) (by omega) (by omega) (fun c9 => absurd c9 (by omega)) (fun c9 => ?_)
  refine r_iload_n dX9_sign_12 rfl ?_
  refine r_aload_n dX9_sign_13 rfl ?_
  refine g_getR dX9_sign_14 f_X9_9 (Txt.sg (by assumption)) rfl (Txt.r0 (by assumption)) ?_
  refine r_alen_c dX9_sign_17 (Txt.s0 (by assumption)) (v := nI 200) rfl ?_
  refine n_icmp_ge (tgt := 30) dX9_sign_18 (by decide) (by omega) (by omega) (fun c18 => absurd c18 (by omega)) (fun c18 => ?_)
  refine r_aload_n dX9_sign_21 rfl ?_
  refine g_getR dX9_sign_22 f_X9_9 (Txt.sg (by assumption)) rfl (Txt.r0 (by assumption)) ?_
  refine r_iload_n dX9_sign_25 rfl ?_
  refine g_cald dX9_sign_26 (Txt.s0 (by assumption)) rfl (by omega) (by omega) hc ?_
  refine r_goto (tgt := 32) dX9_sign_27 (by decide) ?_
  exact g_iret dX9_sign_32 rfl rfl

set_option maxHeartbeats 4000000 in
set_option maxRecDepth 100000 in
theorem v_X9_signE (X : mCx) (d : Nat) {S : mSh} {I : mI} {R : mR} {z n : Nat} (hz : Txt S R z) (hn : I z 1 = nI n) {k : Nat} (h2 : n ≤ 200) (hk : n ≤ k) (hk2 : k < 2 ^ 31) : CC X (d + 1) M_X9_sign [.ref z, .int (nI k)] S (I, R) (some (.int (nI 32))) S (I, R) := by
  refine CC.of2 (L := [.ref z, .int (nI k)]) p_X9 (Nat.le_of_ble_eq_true rfl) rfl (mRok_c (k := 32) (by decide)) (List.prefix_refl S) ?_
  refine r_iload_n dX9_sign_0 rfl ?_
  refine n_if_lt (tgt := 30) dX9_sign_1 (by decide) (by omega) (fun c1 => absurd c1 (Nat.not_lt_zero _)) (fun c1 => ?_)
  refine r_iload_n dX9_sign_4 rfl ?_
  refine r_aload_n dX9_sign_5 rfl ?_
  refine g_getI dX9_sign_6 f_X9_15 (Txt.sg (by assumption)) rfl hn ?_
  refine n_icmp_ge (tgt := 30) dX9_sign_9 (by decide) (by omega) (by omega) (fun c9 => ?_) (fun c9 => absurd c9 (by omega))
  refine r_bipush dX9_sign_30 bp_32 ?_
  exact g_iret dX9_sign_32 rfl rfl

set_option maxHeartbeats 4000000 in
set_option maxRecDepth 100000 in
theorem v_X6_isFigure (X : mCx) (d : Nat) {S : mSh} {I : mI} {R : mR} {k : Nat} (hk : k < 128) : CC X (d + 1) M_X6_isFigure [.int (nI k)] S (I, R) (some (.int (bI (decide (48 ≤ k) && decide (k ≤ 57))))) S (I, R) := by
  refine CC.of2 (L := [.int (nI k)]) p_X6 (Nat.le_of_ble_eq_true rfl) rfl (mRok_b _) (List.prefix_refl S) ?_
  refine r_iload_n dX6_isFigure_0 rfl ?_
  refine r_bipush dX6_isFigure_1 bp_48 ?_
  refine n_icmp_lt (tgt := 16) dX6_isFigure_3 (by decide) (by omega) (by omega) (fun c3 => ?_) (fun c3 => ?_)
  · skip
    refine r_iconst dX6_isFigure_16 ic_0 ?_
    exact g_iret dX6_isFigure_17 (rB0 (by simp; omega)) rfl
  · skip
    refine r_iload_n dX6_isFigure_6 rfl ?_
    refine r_bipush dX6_isFigure_7 bp_57 ?_
    refine n_icmp_gt (tgt := 16) dX6_isFigure_9 (by decide) (by omega) (by omega) (fun c9 => ?_) (fun c9 => ?_)
    · skip
      refine r_iconst dX6_isFigure_16 ic_0 ?_
      exact g_iret dX6_isFigure_17 (rB0 (by simp; omega)) rfl
    · skip
      refine r_iconst dX6_isFigure_12 ic_1 ?_
      refine r_goto (tgt := 17) dX6_isFigure_13 (by decide) ?_
      exact g_iret dX6_isFigure_17 (rB1 (by simp; omega)) rfl

