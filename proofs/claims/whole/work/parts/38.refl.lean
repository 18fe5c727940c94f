/-! ===== the reference: a whole text ===== -/
theorem upK {q : Dr} {k : Nat} {v : Int32} (hk : DrK q) (h : 2 ≤ k) : DrK (up q.1 k v, q.2.1, q.2.2) := by
  refine ⟨?_, ?_, hk.2.2.1, hk.2.2.2⟩
  · show up q.1 k v 0 = nI q.2.1
    rw [up_ne (by omega)]
    exact hk.1
  · show up q.1 k v 1 = nI q.2.2
    rw [up_ne (by omega)]
    exact hk.2.1
theorem perK {q : Dr} {x y z : Nat} (g : q.2.1 < 6) (hk : DrK q) : DrK (perW q.1 q.2.1 x y z, q.2.1 + 1, q.2.2) := by
  refine ⟨?_, ?_, g, hk.2.2.2⟩
  · show perW q.1 q.2.1 x y z 0 = nI (q.2.1 + 1)
    unfold perW
    exact up_eq _ _ _
  show perW q.1 q.2.1 x y z 1 = nI q.2.2
  unfold perW
  rw [up_ne (by omega), up_ne (by omega), up_ne (by omega), up_ne (by omega)]
  exact hk.2.1
theorem gooK {q : Dr} {x y z e : Nat} (g : q.2.2 < 8) (hk : DrK q) : DrK (gooW q.1 q.2.2 x y z e, q.2.1, q.2.2 + 1) := by
  refine ⟨?_, ?_, hk.2.2.1, g⟩
  rotate_left
  · show gooW q.1 q.2.2 x y z e 1 = nI (q.2.2 + 1)
    unfold gooW
    exact up_eq _ _ _
  show gooW q.1 q.2.2 x y z e 0 = nI q.2.1
  unfold gooW
  rw [up_ne (by omega), up_ne (by omega), up_ne (by omega), up_ne (by omega), up_ne (by omega)]
  exact hk.1
theorem g_item112 (X : mCx) {S : mSh} {I I1 : mI} {R : mR} {tx : Nat → Nat} {n a : Nat} {q : Dr} (hm : Mod S R) (ht : MoT I tx n) (hq : I 97 9 = nI a) (ha : a < n) (hk : DrK q) (hc : sgn tx n a = 112) (ok : iOk tx n a)
    (hT : ∀ d, CC X (d + 2) M_X12_takesNumbers [.ref 97, .int (nI 3)] S (sJ I 97 9 (nI (a + 1)), R) (some (.int (bI true))) S (I1, R)) (h9 : I1 97 9 = nI (itE tx n a)) (hv : ∀ i, i < nof (sgn tx n a) → I1 103 i = nI (itV tx n a i)) (hx1 : MoX I1 q.1) :
    ∃ I2, (∀ d, CC X (d + 3) M_X12_takesItem [.ref 97] S (I, R) (some (.int (bI (tellQ (sgn tx n a) (itV tx n a) q).isSome))) S (I2, R)) ∧ frM I1 I2 ∧ ∀ q1, tellQ (sgn tx n a) (itV tx n a) q = some q1 → I2 97 9 = nI (itE tx n a) ∧ MoX I2 q1.1 ∧ DrK q1 := by
  by_cases g : q.2.1 < 6 ∧ itV tx n a 0 ≤ 4 ∧ itV tx n a 2 ≤ 20
  · have e : tellQ (sgn tx n a) (itV tx n a) q = some (perW q.1 q.2.1 (itV tx n a 0) (itV tx n a 1) (itV tx n a 2), q.2.1 + 1, q.2.2) := by rw [hc]; unfold tellQ; rw [if_pos rfl]; exact if_pos g
    rw [e]
    refine ⟨_, fun d => g_it112_t X d hm ht hq ha hc hT (hv 0 (by rw [hc]; decide)) (hv 1 (by rw [hc]; decide)) (hv 2 (by rw [hc]; decide)) (fun d => v_X12_persons_t X (d + 1) hm hx1 hk.1 hk.2.1 hk.2.2.1 hk.2.2.2 (itV_lt ok (by rw [hc]; decide)) (itV_lt ok (by rw [hc]; decide)) (itV_lt ok (by rw [hc]; decide)) g), frM.xw _ _, fun q1 h => ?_⟩
    cases Option.some.inj h
    exact ⟨by rw [xW_o (by decide)]; exact h9, MoX.mk _ _, perK g.1 hk⟩
  · have e : tellQ (sgn tx n a) (itV tx n a) q = none := by rw [hc]; unfold tellQ; rw [if_pos rfl]; exact if_neg g
    rw [e]
    exact ⟨_, fun d => g_it112_t X d hm ht hq ha hc hT (hv 0 (by rw [hc]; decide)) (hv 1 (by rw [hc]; decide)) (hv 2 (by rw [hc]; decide)) (fun d => v_X12_persons_f X (d + 1) hm hx1 hk.1 hk.2.1 hk.2.2.1 hk.2.2.2 (itV_lt ok (by rw [hc]; decide)) (itV_lt ok (by rw [hc]; decide)) (itV_lt ok (by rw [hc]; decide)) g), frM.rfl' _, fun q1 h => absurd h (by simp)⟩
theorem g_item103 (X : mCx) {S : mSh} {I I1 : mI} {R : mR} {tx : Nat → Nat} {n a : Nat} {q : Dr} (hm : Mod S R) (ht : MoT I tx n) (hq : I 97 9 = nI a) (ha : a < n) (hk : DrK q) (hc : sgn tx n a = 103) (ok : iOk tx n a)
    (hT : ∀ d, CC X (d + 2) M_X12_takesNumbers [.ref 97, .int (nI 4)] S (sJ I 97 9 (nI (a + 1)), R) (some (.int (bI true))) S (I1, R)) (h9 : I1 97 9 = nI (itE tx n a)) (hv : ∀ i, i < nof (sgn tx n a) → I1 103 i = nI (itV tx n a i)) (hx1 : MoX I1 q.1) :
    ∃ I2, (∀ d, CC X (d + 3) M_X12_takesItem [.ref 97] S (I, R) (some (.int (bI (tellQ (sgn tx n a) (itV tx n a) q).isSome))) S (I2, R)) ∧ frM I1 I2 ∧ ∀ q1, tellQ (sgn tx n a) (itV tx n a) q = some q1 → I2 97 9 = nI (itE tx n a) ∧ MoX I2 q1.1 ∧ DrK q1 := by
  by_cases g : q.2.2 < 8 ∧ itV tx n a 0 ≤ 3 ∧ itV tx n a 1 < q.2.1 ∧ 1 ≤ itV tx n a 2 ∧ itV tx n a 2 ≤ 40 ∧ itV tx n a 3 ≤ 20
  · have e : tellQ (sgn tx n a) (itV tx n a) q = some (gooW q.1 q.2.2 (itV tx n a 0) (itV tx n a 1) (itV tx n a 2) (itV tx n a 3), q.2.1, q.2.2 + 1) := by rw [hc]; unfold tellQ; rw [if_neg (by decide), if_pos rfl]; exact if_pos g
    rw [e]
    refine ⟨_, fun d => g_it103_t X d hm ht hq ha hc hT (hv 0 (by rw [hc]; decide)) (hv 1 (by rw [hc]; decide)) (hv 2 (by rw [hc]; decide)) (hv 3 (by rw [hc]; decide)) (fun d => v_X12_goods_t X (d + 0) hm hx1 hk.1 hk.2.1 hk.2.2.1 hk.2.2.2 (itV_lt ok (by rw [hc]; decide)) (itV_lt ok (by rw [hc]; decide)) (itV_lt ok (by rw [hc]; decide)) (itV_lt ok (by rw [hc]; decide)) g), frM.xw _ _, fun q1 h => ?_⟩
    cases Option.some.inj h
    exact ⟨by rw [xW_o (by decide)]; exact h9, MoX.mk _ _, gooK g.1 hk⟩
  · have e : tellQ (sgn tx n a) (itV tx n a) q = none := by rw [hc]; unfold tellQ; rw [if_neg (by decide), if_pos rfl]; exact if_neg g
    rw [e]
    exact ⟨_, fun d => g_it103_t X d hm ht hq ha hc hT (hv 0 (by rw [hc]; decide)) (hv 1 (by rw [hc]; decide)) (hv 2 (by rw [hc]; decide)) (hv 3 (by rw [hc]; decide)) (fun d => v_X12_goods_f X (d + 0) hm hx1 hk.1 hk.2.1 hk.2.2.1 hk.2.2.2 (itV_lt ok (by rw [hc]; decide)) (itV_lt ok (by rw [hc]; decide)) (itV_lt ok (by rw [hc]; decide)) (itV_lt ok (by rw [hc]; decide)) g), frM.rfl' _, fun q1 h => absurd h (by simp)⟩
theorem g_item118 (X : mCx) {S : mSh} {I I1 : mI} {R : mR} {tx : Nat → Nat} {n a : Nat} {q : Dr} (hm : Mod S R) (ht : MoT I tx n) (hq : I 97 9 = nI a) (ha : a < n) (hk : DrK q) (hc : sgn tx n a = 118) (ok : iOk tx n a)
    (hT : ∀ d, CC X (d + 2) M_X12_takesNumbers [.ref 97, .int (nI 3)] S (sJ I 97 9 (nI (a + 1)), R) (some (.int (bI true))) S (I1, R)) (h9 : I1 97 9 = nI (itE tx n a)) (hv : ∀ i, i < nof (sgn tx n a) → I1 103 i = nI (itV tx n a i)) (hx1 : MoX I1 q.1) :
    ∃ I2, (∀ d, CC X (d + 3) M_X12_takesItem [.ref 97] S (I, R) (some (.int (bI (tellQ (sgn tx n a) (itV tx n a) q).isSome))) S (I2, R)) ∧ frM I1 I2 ∧ ∀ q1, tellQ (sgn tx n a) (itV tx n a) q = some q1 → I2 97 9 = nI (itE tx n a) ∧ MoX I2 q1.1 ∧ DrK q1 := by
  by_cases g : itV tx n a 0 ≠ itV tx n a 1 ∧ itV tx n a 0 < q.2.1 ∧ itV tx n a 1 < q.2.1 ∧ itV tx n a 2 ≤ 20
  · have e : tellQ (sgn tx n a) (itV tx n a) q = some (up q.1 (53 + (6 * itV tx n a 0 + itV tx n a 1)) (nI (itV tx n a 2)), q.2.1, q.2.2) := by rw [hc]; unfold tellQ; rw [if_neg (by decide), if_neg (by decide), if_pos rfl]; exact if_pos g
    rw [e]
    refine ⟨_, fun d => g_it118_t X d hm ht hq ha hc hT (hv 0 (by rw [hc]; decide)) (hv 1 (by rw [hc]; decide)) (hv 2 (by rw [hc]; decide)) (fun d => v_X12_loves_t X (d + 1) hm hx1 hk.1 hk.2.1 hk.2.2.1 hk.2.2.2 (itV_lt ok (by rw [hc]; decide)) (itV_lt ok (by rw [hc]; decide)) (itV_lt ok (by rw [hc]; decide)) g), frM.xw _ _, fun q1 h => ?_⟩
    cases Option.some.inj h
    exact ⟨by rw [xW_o (by decide)]; exact h9, MoX.mk _ _, upK hk (by omega)⟩
  · have e : tellQ (sgn tx n a) (itV tx n a) q = none := by rw [hc]; unfold tellQ; rw [if_neg (by decide), if_neg (by decide), if_pos rfl]; exact if_neg g
    rw [e]
    exact ⟨_, fun d => g_it118_t X d hm ht hq ha hc hT (hv 0 (by rw [hc]; decide)) (hv 1 (by rw [hc]; decide)) (hv 2 (by rw [hc]; decide)) (fun d => v_X12_loves_f X (d + 1) hm hx1 hk.1 hk.2.1 hk.2.2.1 hk.2.2.2 (itV_lt ok (by rw [hc]; decide)) (itV_lt ok (by rw [hc]; decide)) (itV_lt ok (by rw [hc]; decide)) g), frM.rfl' _, fun q1 h => absurd h (by simp)⟩
theorem g_item116 (X : mCx) {S : mSh} {I I1 : mI} {R : mR} {tx : Nat → Nat} {n a : Nat} {q : Dr} (hm : Mod S R) (ht : MoT I tx n) (hq : I 97 9 = nI a) (ha : a < n) (hk : DrK q) (hc : sgn tx n a = 116) (ok : iOk tx n a)
    (hT : ∀ d, CC X (d + 2) M_X12_takesNumbers [.ref 97, .int (nI 1)] S (sJ I 97 9 (nI (a + 1)), R) (some (.int (bI true))) S (I1, R)) (h9 : I1 97 9 = nI (itE tx n a)) (hv : ∀ i, i < nof (sgn tx n a) → I1 103 i = nI (itV tx n a i)) (hx1 : MoX I1 q.1) :
    ∃ I2, (∀ d, CC X (d + 3) M_X12_takesItem [.ref 97] S (I, R) (some (.int (bI (tellQ (sgn tx n a) (itV tx n a) q).isSome))) S (I2, R)) ∧ frM I1 I2 ∧ ∀ q1, tellQ (sgn tx n a) (itV tx n a) q = some q1 → I2 97 9 = nI (itE tx n a) ∧ MoX I2 q1.1 ∧ DrK q1 := by
  by_cases g : 1 ≤ itV tx n a 0 ∧ itV tx n a 0 ≤ 20
  · have e : tellQ (sgn tx n a) (itV tx n a) q = some (up q.1 2 (nI (itV tx n a 0)), q.2.1, q.2.2) := by rw [hc]; unfold tellQ; rw [if_neg (by decide), if_neg (by decide), if_neg (by decide), if_pos rfl]; exact if_pos g
    rw [e]
    refine ⟨_, fun d => g_it116_t X d hm ht hq ha hc hT (hv 0 (by rw [hc]; decide)) (fun d => v_X12_tenths_t X (d + 0) hm hx1 (itV_lt ok (by rw [hc]; decide)) g), frM.xw _ _, fun q1 h => ?_⟩
    cases Option.some.inj h
    exact ⟨by rw [xW_o (by decide)]; exact h9, MoX.mk _ _, upK hk (by omega)⟩
  · have e : tellQ (sgn tx n a) (itV tx n a) q = none := by rw [hc]; unfold tellQ; rw [if_neg (by decide), if_neg (by decide), if_neg (by decide), if_pos rfl]; exact if_neg g
    rw [e]
    exact ⟨_, fun d => g_it116_t X d hm ht hq ha hc hT (hv 0 (by rw [hc]; decide)) (fun d => v_X12_tenths_f X (d + 0) hm hx1 (itV_lt ok (by rw [hc]; decide)) g), frM.rfl' _, fun q1 h => absurd h (by simp)⟩
theorem nof_cs {c : Nat} (h : nof c ≠ 0) : c = 112 ∨ c = 103 ∨ c = 118 ∨ c = 116 := by
  unfold nof at h
  by_cases h1 : c = 103
  · exact Or.inr (Or.inl h1)
  by_cases h2 : c = 112
  · exact Or.inl h2
  by_cases h3 : c = 116
  · exact Or.inr (Or.inr (Or.inr h3))
  by_cases h4 : c = 118
  · exact Or.inr (Or.inr (Or.inl h4))
  rw [if_neg h1, if_neg h2, if_neg h3, if_neg h4] at h
  exact absurd rfl h
theorem v_item (X : mCx) {S : mSh} {I : mI} {R : mR} {tx : Nat → Nat} {n a : Nat} {q : Dr} (hm : Mod S R) (ht : MoT I tx n) (hq : I 97 9 = nI a) (ha : a < n) (hk : DrK q) (hx : MoX I q.1) :
    ∃ I2, (∀ d, CC X (d + 3) M_X12_takesItem [.ref 97] S (I, R) (some (.int (bI (itQ tx n a q).isSome))) S (I2, R)) ∧ frM I I2 ∧ ∀ q1, itQ tx n a q = some q1 → I2 97 9 = nI (itE tx n a) ∧ MoX I2 q1.1 ∧ DrK q1 := by
  have hn := ht.2.1
  by_cases h0 : nof (sgn tx n a) = 0
  · have e : itQ tx n a q = none := by unfold itQ; rw [if_neg (fun z => by have := z.1; omega)]
    rw [e]
    exact ⟨_, fun d => g_it0 X d hm ht hq ha h0, frM.at I _, fun q1 h => absurd h (by simp)⟩
  have hc := nof_cs h0
  obtain ⟨I1, hT, f1, f98, f2⟩ := v_takes X (m := nof (sgn tx n a)) (p := a + 1) hm (nof_le _) (by omega) (sJ_eq I 97 9 (nI (a + 1))) (ht.frm (frM.at I _))
  have fr1 := (frM.at I (nI (a + 1))).tr f1
  cases hr : okR tx n (a + 1) (nof (sgn tx n a)) (nof (sgn tx n a)) 0 with
  | false =>
    have e : itQ tx n a q = none := by
      unfold itQ
      rw [if_neg (fun z => by
        have := (okR_iff tx n (a + 1) (nof (sgn tx n a)) (nof (sgn tx n a)) 0).mpr (fun i _ h2 => z.2 i (by omega))
        rw [hr] at this
        exact absurd this (by decide))]
    rw [e]
    rw [hr] at hT
    refine ⟨I1, fun d => ?_, fr1, fun q1 h => absurd h (by simp)⟩
    rcases hc with hc | hc | hc | hc
    · rw [hc] at hT; exact g_it112_f X d hm ht hq ha hc hT
    · rw [hc] at hT; exact g_it103_f X d hm ht hq ha hc hT
    · rw [hc] at hT; exact g_it118_f X d hm ht hq ha hc hT
    · rw [hc] at hT; exact g_it116_f X d hm ht hq ha hc hT
  | true =>
    have ok : iOk tx n a := ⟨by omega, fun k hk2 => (okR_iff tx n (a + 1) (nof (sgn tx n a)) (nof (sgn tx n a)) 0).mp hr k (by omega) (by omega)⟩
    have e : itQ tx n a q = tellQ (sgn tx n a) (itV tx n a) q := by unfold itQ; rw [if_pos ok]
    rw [e]
    rw [hr] at hT
    have hx1 : MoX I1 q.1 := (hx.fr (I1 := sJ I 97 9 (nI (a + 1))) (sJ_o (by decide))).fr f98
    have h9 := (f2 hr).1
    have hv := (f2 hr).2
    have fin : ∀ {P : mI → Prop}, (∃ I2, P I2 ∧ frM I1 I2 ∧ ∀ q1, tellQ (sgn tx n a) (itV tx n a) q = some q1 → I2 97 9 = nI (itE tx n a) ∧ MoX I2 q1.1 ∧ DrK q1) → ∃ I2, P I2 ∧ frM I I2 ∧ ∀ q1, tellQ (sgn tx n a) (itV tx n a) q = some q1 → I2 97 9 = nI (itE tx n a) ∧ MoX I2 q1.1 ∧ DrK q1 := fun ⟨I2, a1, a2, a3⟩ => ⟨I2, a1, fr1.tr a2, a3⟩
    have hT2 : ∀ m, nof (sgn tx n a) = m → ∀ d, CC X (d + 2) M_X12_takesNumbers [.ref 97, .int (nI m)] S (sJ I 97 9 (nI (a + 1)), R) (some (.int (bI true))) S (I1, R) := fun m h d => by rw [← h]; exact hT d
    rcases hc with hc | hc | hc | hc
    · exact fin (g_item112 X hm ht hq ha hk hc ok (hT2 3 (by rw [hc]; rfl)) h9 hv hx1)
    · exact fin (g_item103 X hm ht hq ha hk hc ok (hT2 4 (by rw [hc]; rfl)) h9 hv hx1)
    · exact fin (g_item118 X hm ht hq ha hk hc ok (hT2 3 (by rw [hc]; rfl)) h9 hv hx1)
    · exact fin (g_item116 X hm ht hq ha hk hc ok (hT2 1 (by rw [hc]; rfl)) h9 hv hx1)
set_option maxHeartbeats 4000000 in
set_option maxRecDepth 100000 in
theorem g_fo1 (X : mCx) (d : Nat) {S : mSh} {I : mI} {R : mR} {tx : Nat → Nat} {n a : Nat} (hm : Mod S R) (ht : MoT I tx n) (hq : I 97 9 = nI a) (ha2 : a < 1000) (ha : n ≤ a)  : JJ X M_X12_faultOf (d + 4) 9 [.ref 97, .retAddr 0] [] S (I, R) (some (.int (-4))) S (I, R) := by
  have hn := ht.2.1
  refine r_aload_n dX12_faultOf_9 rfl ?_
  refine g_getI dX12_faultOf_10 f_X12_85 (Mod.sg (by assumption)) rfl hq ?_
  refine r_aload_n dX12_faultOf_13 rfl ?_
  refine g_getI dX12_faultOf_14 f_X12_82 (Mod.sg (by assumption)) rfl ht.1 ?_
  refine n_icmp_ge (tgt := 37) dX12_faultOf_17 (by decide) (by omega) (by omega) (fun c17 => ?_) (fun c17 => absurd c17 (by omega))
  refine r_bipush dX12_faultOf_37 bp_m4 ?_
  exact g_iret dX12_faultOf_39 rfl rfl

set_option maxHeartbeats 4000000 in
set_option maxRecDepth 100000 in
theorem g_fo2 (X : mCx) (d : Nat) {S : mSh} {I : mI} {R : mR} {tx : Nat → Nat} {n a : Nat} (hm : Mod S R) {I1 : mI} (ht : MoT I tx n) (hq : I 97 9 = nI a) (ha2 : a < 1000) (ha : a < n) (hC : ∀ d, CC X (d + 3) M_X12_takesItem [.ref 97] S (I, R) (some (.int (bI false))) S (I1, R))  : JJ X M_X12_faultOf (d + 4) 9 [.ref 97, .retAddr 0] [] S (I, R) (some (.int (nI a))) S (I1, R) := by
  have hn := ht.2.1
  refine r_aload_n dX12_faultOf_9 rfl ?_
  refine g_getI dX12_faultOf_10 f_X12_85 (Mod.sg (by assumption)) rfl hq ?_
  refine r_aload_n dX12_faultOf_13 rfl ?_
  refine g_getI dX12_faultOf_14 f_X12_82 (Mod.sg (by assumption)) rfl ht.1 ?_
  refine n_icmp_ge (tgt := 37) dX12_faultOf_17 (by decide) (by omega) (by omega) (fun c17 => absurd c17 (by omega)) (fun c17 => ?_)
  refine r_aload_n dX12_faultOf_20 rfl ?_
  refine g_getI dX12_faultOf_21 f_X12_85 (Mod.sg (by assumption)) rfl hq ?_
  refine r_istore_n (L' := [_, _]) dX12_faultOf_24 rfl rfl ?_
  refine r_aload_n dX12_faultOf_25 rfl ?_
  refine r_V0 dX12_faultOf_26 l_X12_103 k_X12_takesItem i_X12_takesItem (Mod.sg (by assumption)) ⟨_, rfl⟩ (Nat.le_of_ble_eq_true rfl) (hC _) (List.prefix_refl S) ?_
  refine r_ifB_ne (tgt := 34) dX12_faultOf_29 (by decide) (fun c29 => absurd c29 (by decide)) (fun c29 => ?_)
  refine r_iload_n dX12_faultOf_32 rfl ?_
  exact g_iret dX12_faultOf_33 rfl rfl

set_option maxHeartbeats 4000000 in
set_option maxRecDepth 100000 in
theorem g_fo3 (X : mCx) (d : Nat) {S : mSh} {I : mI} {R : mR} {tx : Nat → Nat} {n a : Nat} (hm : Mod S R) {I1 I2 : mI} {r : Int32} (ht : MoT I tx n) (hq : I 97 9 = nI a) (ha2 : a < 1000) (ha : a < n) (hC : ∀ d, CC X (d + 3) M_X12_takesItem [.ref 97] S (I, R) (some (.int (bI true))) S (I1, R)) (K : JJ X M_X12_faultOf (d + 4) 9 [.ref 97, .retAddr 0] [] S (I1, R) (some (.int r)) S (I2, R)) : JJ X M_X12_faultOf (d + 4) 9 [.ref 97, .retAddr 0] [] S (I, R) (some (.int r)) S (I2, R) := by
  have hn := ht.2.1
  refine r_aload_n dX12_faultOf_9 rfl ?_
  refine g_getI dX12_faultOf_10 f_X12_85 (Mod.sg (by assumption)) rfl hq ?_
  refine r_aload_n dX12_faultOf_13 rfl ?_
  refine g_getI dX12_faultOf_14 f_X12_82 (Mod.sg (by assumption)) rfl ht.1 ?_
  refine n_icmp_ge (tgt := 37) dX12_faultOf_17 (by decide) (by omega) (by omega) (fun c17 => absurd c17 (by omega)) (fun c17 => ?_)
  refine r_aload_n dX12_faultOf_20 rfl ?_
  refine g_getI dX12_faultOf_21 f_X12_85 (Mod.sg (by assumption)) rfl hq ?_
  refine r_istore_n (L' := [_, _]) dX12_faultOf_24 rfl rfl ?_
  refine r_aload_n dX12_faultOf_25 rfl ?_
  refine r_V0 dX12_faultOf_26 l_X12_103 k_X12_takesItem i_X12_takesItem (Mod.sg (by assumption)) ⟨_, rfl⟩ (Nat.le_of_ble_eq_true rfl) (hC _) (List.prefix_refl S) ?_
  refine r_ifB_ne (tgt := 34) dX12_faultOf_29 (by decide) (fun c29 => ?_) (fun c29 => absurd c29 (by decide))
  exact r_goto (tgt := 9) dX12_faultOf_34 (by decide) (JJ.wk_at 1 K)

set_option maxHeartbeats 4000000 in
set_option maxRecDepth 100000 in
theorem g_fo0 (X : mCx) (d : Nat) {S : mSh} {I : mI} {R : mR} {I1 : mI} {r : Int32} (hm : Mod S R) (K : JJ X M_X12_faultOf (d + 4) 9 [.ref 97, .retAddr 0] [] S (sJ (xW I bgW) 97 9 (nI 0), R) (some (.int r)) S (I1, R)) : CC X (d + 4) M_X12_faultOf [.ref 97] S (I, R) (some (.int r)) S (I1, R) := by
  refine CC.of2 (L := [.ref 97, .retAddr 0]) p_X12 (Nat.le_of_ble_eq_true rfl) rfl rfl (List.prefix_refl S) ?_
  refine r_aload_n dX12_faultOf_0 rfl ?_
  refine r_V0 dX12_faultOf_1 l_X12_43 k_X12_begins i_X12_begins (Mod.sg (by assumption)) ⟨_, rfl⟩ (Nat.le_of_ble_eq_true rfl) (v_X12_begins X _ (by first | assumption | omega)) (List.prefix_refl S) ?_
  refine r_aload_n dX12_faultOf_4 rfl ?_
  refine r_iconst dX12_faultOf_5 ic_0 ?_
  refine g_putI dX12_faultOf_6 f_X12_85 (Mod.sg (by assumption)) rfl ?_
  exact K

theorem g_fo (X : mCx) {S : mSh} {R : mR} {tx : Nat → Nat} {n : Nat} (hm : Mod S R) : ∀ (k a : Nat) (I : mI) (q : Dr), n ≤ a + k → a < 500 → MoT I tx n → I 97 9 = nI a → DrK q → MoX I q.1 →
    ∃ I1, (∀ d, JJ X M_X12_faultOf (d + 4) 9 [.ref 97, .retAddr 0] [] S (I, R) (some (.int (ffQ tx n k a q).1)) S (I1, R)) ∧ frM I I1 ∧ ((ffQ tx n k a q).1 = -4 → MoX I1 (ffQ tx n k a q).2.1 ∧ DrK (ffQ tx n k a q).2)
  | 0, a, I, q, hk, ha, ht, hq, hd, hx => ⟨I, fun d => g_fo1 X d hm ht hq (by omega) (by omega), frM.rfl' I, fun _ => ⟨hx, hd⟩⟩
  | k + 1, a, I, q, hk, ha, ht, hq, hd, hx => by
    have hn := ht.2.1
    by_cases han : a < n
    case neg =>
      have e : ffQ tx n (k + 1) a q = (-4, q) := by rw [ffQ, if_neg han]
      rw [e]
      exact ⟨I, fun d => g_fo1 X d hm ht hq (by omega) (by omega), frM.rfl' I, fun _ => ⟨hx, hd⟩⟩
    obtain ⟨I1, hC, f1, f2⟩ := v_item X hm ht hq han hd hx
    cases hi : itQ tx n a q with
    | none =>
      have e : ffQ tx n (k + 1) a q = (nI a, q) := by rw [ffQ, if_pos han, hi]
      rw [e]
      rw [hi] at hC
      exact ⟨I1, fun d => g_fo2 X d hm ht hq (by omega) han hC, f1, fun h => absurd h (nI_ne4 (by omega))⟩
    | some q1 =>
      have e : ffQ tx n (k + 1) a q = ffQ tx n k (itE tx n a) q1 := by rw [ffQ, if_pos han, hi]
      rw [e]
      rw [hi] at hC
      have hg := itE_gt tx n a
      have hl := itE_le tx n a
      obtain ⟨h1, h2, h3⟩ := f2 q1 hi
      obtain ⟨I2, hJ, g1, g2⟩ := g_fo X hm k (itE tx n a) I1 q1 (by omega) (by omega) (ht.frm f1) h1 h3 h2
      exact ⟨I2, fun d => g_fo3 X d hm ht hq (by omega) han hC (hJ d), f1.tr g1, g2⟩
theorem v_faultOf (X : mCx) {S : mSh} {I : mI} {R : mR} {tx : Nat → Nat} {n : Nat} (hm : Mod S R) (ht : MoT I tx n) : ∃ I1, (∀ d, CC X (d + 4) M_X12_faultOf [.ref 97] S (I, R) (some (.int (ffQ tx n 200 0 q0).1)) S (I1, R)) ∧ frM I I1 ∧ ((ffQ tx n 200 0 q0).1 = -4 → MoX I1 (ffQ tx n 200 0 q0).2.1 ∧ DrK (ffQ tx n 200 0 q0).2) := by
  have hn := ht.2.1
  have fr := (frM.xw I bgW).tr (frM.at (xW I bgW) (nI 0))
  obtain ⟨I1, h1, h2, h3⟩ := g_fo X hm 200 0 (sJ (xW I bgW) 97 9 (nI 0)) q0 (by omega) (by decide) (ht.frm fr) (sJ_eq _ _ _ _) ⟨rfl, rfl, by decide, by decide⟩ ((MoX.mk I bgW).fr (sJ_o (by decide)))
  exact ⟨I1, fun d => g_fo0 X d hm (h1 d), fr.tr h2, h3⟩
