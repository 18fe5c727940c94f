/-! ===== the reference: items ===== -/
def frM (I I1 : mI) : Prop := (∀ o, o ≠ 97 → o ≠ 98 → o ≠ 103 → I1 o = I o) ∧ (∀ b, b ≠ 9 → I1 97 b = I 97 b) ∧ (∀ k, k < 89 → I1 98 k = I 98 k)
theorem frM.rfl' (I : mI) : frM I I := ⟨fun _ _ _ _ => rfl, fun _ _ => rfl, fun _ _ => rfl⟩
theorem frM.tr {I I1 I2 : mI} (a : frM I I1) (b : frM I1 I2) : frM I I2 := ⟨fun o h1 h2 h3 => (b.1 o h1 h2 h3).trans (a.1 o h1 h2 h3), fun k h => (b.2.1 k h).trans (a.2.1 k h), fun k h => (b.2.2 k h).trans (a.2.2 k h)⟩
theorem frM.at (I : mI) (v : Int32) : frM I (sJ I 97 9 v) := ⟨fun o h1 _ _ => sJ_o h1, fun b h => sJ_ne (Or.inr h), fun k _ => sJ_ne (Or.inl (by decide))⟩
theorem frM.nb (I : mI) (k : Nat) (v : Int32) : frM I (sJ I 103 k v) := ⟨fun o _ _ h => sJ_o h, fun b _ => sJ_ne (Or.inl (by decide)), fun k _ => sJ_ne (Or.inl (by decide))⟩
theorem frM.xw (I : mI) (w : Nat → Int32) : frM I (xW I w) := ⟨fun o _ h _ => xW_o h, fun b _ => by rw [xW_o (by decide)], fun k h => xW_lo h⟩
theorem MoT.frm {I I1 : mI} {tx : Nat → Nat} {n : Nat} (q : MoT I tx n) (h : frM I I1) : MoT I1 tx n := q.fr (h.2.1 8 (by decide)) (h.1 102 (by decide) (by decide) (by decide))
def okR (tx : Nat → Nat) (n p m : Nat) : Nat → Nat → Bool
  | 0, _ => true
  | j + 1, k => okS tx n p m k && okR tx n p m j (k + 1)
theorem okR_iff (tx : Nat → Nat) (n p m : Nat) : ∀ j k, okR tx n p m j k = true ↔ ∀ i, k ≤ i → i < k + j → okS tx n p m i = true
  | 0, k => ⟨fun _ i h1 h2 => absurd h2 (by omega), fun _ => rfl⟩
  | j + 1, k => by
    rw [okR, Bool.and_eq_true, okR_iff tx n p m j (k + 1)]
    constructor
    · rintro ⟨h1, h2⟩ i h3 h4
      by_cases h5 : i = k
      · subst h5; exact h1
      · exact h2 i (by omega) (by omega)
    · intro h
      exact ⟨h k (by omega) (by omega), fun i h1 h2 => h i (by omega) (by omega)⟩
theorem sep_iff {I : mI} {tx : Nat → Nat} {n k m e : Nat} (ht : MoT I tx n) (hk : k < m) : letM tx n e = (if k < m - 1 then nI 44 else nI 59) ↔ sgn tx n e = (if k = m - 1 then 59 else 44) := by
  by_cases h : k < m - 1
  · rw [if_pos h, if_neg (by omega)]
    exact let_eq ht (by decide) (by decide)
  · rw [if_neg h, if_pos (by omega)]
    exact let_eq ht (by decide) (by decide)
theorem g_tk (X : mCx) {S : mSh} {R : mR} {tx : Nat → Nat} {n m p : Nat} (hm : Mod S R) (hm4 : m ≤ 4) (hp : p ≤ 201) : ∀ (j k : Nat) (I : mI), k + j = m → I 97 9 = nI (atS tx n p k) → MoT I tx n →
    ∃ I1, (∀ d, JJ X M_X12_takesNumbers (d + 2) 2 [.ref 97, .int (nI m), .int (nI k), .retAddr 0, .retAddr 0] [] S (I, R) (some (.int (bI (okR tx n p m j k)))) S (I1, R)) ∧ frM I I1 ∧ I1 98 = I 98 ∧ (okR tx n p m j k = true → I1 97 9 = nI (atS tx n p m) ∧ ∀ i, k ≤ i → i < m → I1 103 i = nI (nmV tx n (atS tx n p i))) ∧ ∀ i, i < k → I1 103 i = I 103 i
  | 0, k, I, hk, hq, ht => ⟨I, fun d => g_nm5 X d hm hm4 (by omega), frM.rfl' I, rfl, fun _ => ⟨by rw [hq, show k = m by omega], fun i h1 h2 => absurd h2 (by omega)⟩, fun _ _ => rfl⟩
  | j + 1, k, I, hk, hq, ht => by
    have ha := atS_le tx n p k
    have hn := nmE_le tx n (atS tx n p k)
    cases hD : isD (sgn tx n (atS tx n p k)) with
    | false =>
      have e : okR tx n p m (j + 1) k = false := by rw [okR]; unfold okS; rw [hD]; rfl
      rw [e]
      exact ⟨I, fun d => g_nm4 X d hm hm4 (by omega) (g_nm2 X d hm ht hq (by omega) (by decide) (by decide) hm4 (by omega) hD (g_nm6 X d hm ht hq (by omega) (by decide) (by decide) hm4 (by omega) rfl)), frM.rfl' I, rfl, fun h => absurd h (by decide), fun _ _ => rfl⟩
    | true =>
      have hv := nmV_lt ht hD
      have ht2 : MoT (sJ I 97 9 (nI (nmE tx n (atS tx n p k)))) tx n := ht.frm (frM.at I _)
      by_cases hs : letM tx n (nmE tx n (atS tx n p k)) = (if k < m - 1 then nI 44 else nI 59)
      · have ok : okS tx n p m k = true := by
          unfold okS
          rw [hD, decide_eq_true ((sep_iff ht (by omega)).mp hs)]; rfl
        have e : okR tx n p m (j + 1) k = okR tx n p m j (k + 1) := by rw [okR, ok, Bool.true_and]
        rw [e]
        have fr : frM I (sJ (sJ (sJ I 97 9 (nI (nmE tx n (atS tx n p k)))) 97 9 (nI (nmE tx n (atS tx n p k) + 1))) 103 k (nI (nmV tx n (atS tx n p k)))) := ((frM.at I _).tr (frM.at _ _)).tr (frM.nb _ _ _)
        obtain ⟨I1, hJ, f1, f98, f2, f3⟩ := g_tk X hm hm4 hp j (k + 1) (sJ (sJ (sJ I 97 9 (nI (nmE tx n (atS tx n p k)))) 97 9 (nI (nmE tx n (atS tx n p k) + 1))) 103 k (nI (nmV tx n (atS tx n p k)))) (by omega) (by rw [sJ_ne (Or.inl (by decide)), sJ_eq, atS_s]) (ht.frm fr)
        refine ⟨I1, fun d => g_nm4 X d hm hm4 (by omega) (g_num X d hm ht hq (by omega) hm4 (by omega) hD (fun fg h1 h2 => g_nm8 X d hm ht2 (sJ_eq _ _ _ _) (by omega) hv h2 hm4 (by omega) h1 (by omega) hs (hJ d))), fr.tr f1, f98.trans ?_, fun ho => ⟨(f2 ho).1, fun i h1 h2 => ?_⟩, fun i hi => ?_⟩
        · rw [sJ_o (by decide), sJ_o (by decide), sJ_o (by decide)]
        · by_cases hik : i = k
          · subst hik
            rw [f3 i (by omega), sJ_eq]
          · exact (f2 ho).2 i (by omega) h2
        · rw [f3 i (by omega), sJ_ne (Or.inr (by omega)), sJ_o (by decide), sJ_o (by decide)]
      · have ok : okS tx n p m k = false := by
          unfold okS
          rw [hD, decide_eq_false (fun z => hs ((sep_iff ht (by omega)).mpr z))]; rfl
        have e : okR tx n p m (j + 1) k = false := by rw [okR, ok]; rfl
        rw [e]
        exact ⟨_, fun d => g_nm4 X d hm hm4 (by omega) (g_num X d hm ht hq (by omega) hm4 (by omega) hD (fun fg h1 h2 => g_nm7 X d hm ht2 (sJ_eq _ _ _ _) (by omega) hv h2 hm4 (by omega) h1 (by omega) hs)), frM.at I _, sJ_o (by decide), fun h => absurd h (by decide), fun i _ => by rw [sJ_o (by decide)]⟩
set_option maxHeartbeats 4000000 in
set_option maxRecDepth 100000 in
theorem g_tk0 (X : mCx) (d : Nat) {S : mSh} {I : mI} {R : mR} {m : Nat} {I1 : mI} {b : Bool} (K : JJ X M_X12_takesNumbers (d + 2) 2 [.ref 97, .int (nI m), .int (nI 0), .retAddr 0, .retAddr 0] [] S (I, R) (some (.int (bI b))) S (I1, R)) : CC X (d + 2) M_X12_takesNumbers [.ref 97, .int (nI m)] S (I, R) (some (.int (bI b))) S (I1, R) := by
  refine CC.of2 (L := [.ref 97, .int (nI m), .retAddr 0, .retAddr 0, .retAddr 0]) p_X12 (Nat.le_of_ble_eq_true rfl) rfl (mRok_b _) (List.prefix_refl S) ?_
  refine r_iconst dX12_takesNumbers_0 ic_0 ?_
  refine r_istore_n (L' := [_, _, _, _, _]) dX12_takesNumbers_1 rfl rfl ?_
  exact K

theorem v_takes (X : mCx) {S : mSh} {I : mI} {R : mR} {tx : Nat → Nat} {n m p : Nat} (hm : Mod S R) (hm4 : m ≤ 4) (hp : p ≤ 201) (hq : I 97 9 = nI p) (ht : MoT I tx n) : ∃ I1, (∀ d, CC X (d + 2) M_X12_takesNumbers [.ref 97, .int (nI m)] S (I, R) (some (.int (bI (okR tx n p m m 0)))) S (I1, R)) ∧ frM I I1 ∧ I1 98 = I 98 ∧ (okR tx n p m m 0 = true → I1 97 9 = nI (atS tx n p m) ∧ ∀ i, i < m → I1 103 i = nI (nmV tx n (atS tx n p i))) := by
  obtain ⟨I1, hJ, f1, f98, f2, _⟩ := g_tk X (tx := tx) (n := n) (m := m) (p := p) hm hm4 hp m 0 I (by omega) hq ht
  exact ⟨I1, fun d => g_tk0 X d (hJ d), f1, f98, fun ho => ⟨(f2 ho).1, fun i hi => (f2 ho).2 i (by omega) hi⟩⟩
set_option maxHeartbeats 4000000 in
set_option maxRecDepth 100000 in
theorem g_it112_f (X : mCx) (d : Nat) {S : mSh} {I : mI} {R : mR} {tx : Nat → Nat} {n a : Nat} {I1 : mI} (hm : Mod S R) (ht : MoT I tx n) (hq : I 97 9 = nI a) (ha : a < n) (hc : sgn tx n a = 112) (hT : ∀ d, CC X (d + 2) M_X12_takesNumbers [.ref 97, .int (nI 3)] S (sJ I 97 9 (nI (a + 1)), R) (some (.int (bI false))) S (I1, R))  : CC X (d + 3) M_X12_takesItem [.ref 97] S (I, R) (some (.int (bI false))) S (I1, R) := by
  have hn := ht.2.1
  have hsg := ht.sg a
  refine CC.of2 (L := [.ref 97, .retAddr 0]) p_X12 (Nat.le_of_ble_eq_true rfl) rfl (mRok_b _) (List.prefix_refl S) ?_
  refine r_aload_n dX12_takesItem_0 rfl ?_
  refine r_aload_n dX12_takesItem_1 rfl ?_
  refine g_getI dX12_takesItem_2 f_X12_85 (Mod.sg (by assumption)) rfl hq ?_
  refine r_V1 dX12_takesItem_5 l_X12_88 k_X12_letterAt i_X12_letterAt (Mod.sg (by assumption)) ⟨_, rfl⟩ (Nat.le_of_ble_eq_true rfl) (v_X12_letterAt_n X _ hm ht ha) (List.prefix_refl S) ?_
  rw [hc]
  refine r_istore_n (L' := [_, _]) dX12_takesItem_8 rfl rfl ?_
  refine r_aload_n dX12_takesItem_9 rfl ?_
  refine r_dup dX12_takesItem_10 rfl ?_
  refine g_getI dX12_takesItem_11 f_X12_85 (Mod.sg (by assumption)) rfl hq ?_
  refine r_iconst dX12_takesItem_14 ic_1 ?_
  refine n_iadd dX12_takesItem_15 ?_
  refine g_putI dX12_takesItem_16 f_X12_85 (Mod.sg (by assumption)) rfl ?_
  refine r_iload_n dX12_takesItem_19 rfl ?_
  refine r_lookup (tgt := 64) (off := 44) dX12_takesItem_20 (by decide) rfl (by decide) ?_
  refine r_aload_n dX12_takesItem_64 rfl ?_
  refine r_iconst dX12_takesItem_65 ic_3 ?_
  refine r_V1 dX12_takesItem_66 l_X12_96 k_X12_takesNumbers i_X12_takesNumbers (Mod.sg (by assumption)) ⟨_, rfl⟩ (Nat.le_of_ble_eq_true rfl) (hT _) (List.prefix_refl S) ?_
  refine r_ifB_eq (tgt := 101) dX12_takesItem_69 (by decide) (fun c69 => ?_) (fun c69 => absurd c69 (by decide))
  refine r_iconst dX12_takesItem_101 ic_0 ?_
  exact g_iret dX12_takesItem_102 (rB0 rfl) rfl

set_option maxHeartbeats 4000000 in
set_option maxRecDepth 100000 in
theorem g_it112_t (X : mCx) (d : Nat) {S : mSh} {I : mI} {R : mR} {tx : Nat → Nat} {n a : Nat} {I1 I2 : mI} {c : Bool} {v0 v1 v2 : Nat} (hm : Mod S R) (ht : MoT I tx n) (hq : I 97 9 = nI a) (ha : a < n) (hc : sgn tx n a = 112) (hT : ∀ d, CC X (d + 2) M_X12_takesNumbers [.ref 97, .int (nI 3)] S (sJ I 97 9 (nI (a + 1)), R) (some (.int (bI true))) S (I1, R)) (h0 : I1 103 0 = nI v0) (h1 : I1 103 1 = nI v1) (h2 : I1 103 2 = nI v2) (hP : ∀ d, CC X (d + 2) M_X12_persons [.ref 97, .int (nI v0), .int (nI v1), .int (nI v2)] S (I1, R) (some (.int (bI c))) S (I2, R))  : CC X (d + 3) M_X12_takesItem [.ref 97] S (I, R) (some (.int (bI c))) S (I2, R) := by
  have hn := ht.2.1
  have hsg := ht.sg a
  refine CC.of2 (L := [.ref 97, .retAddr 0]) p_X12 (Nat.le_of_ble_eq_true rfl) rfl (mRok_b _) (List.prefix_refl S) ?_
  refine r_aload_n dX12_takesItem_0 rfl ?_
  refine r_aload_n dX12_takesItem_1 rfl ?_
  refine g_getI dX12_takesItem_2 f_X12_85 (Mod.sg (by assumption)) rfl hq ?_
  refine r_V1 dX12_takesItem_5 l_X12_88 k_X12_letterAt i_X12_letterAt (Mod.sg (by assumption)) ⟨_, rfl⟩ (Nat.le_of_ble_eq_true rfl) (v_X12_letterAt_n X _ hm ht ha) (List.prefix_refl S) ?_
  rw [hc]
  refine r_istore_n (L' := [_, _]) dX12_takesItem_8 rfl rfl ?_
  refine r_aload_n dX12_takesItem_9 rfl ?_
  refine r_dup dX12_takesItem_10 rfl ?_
  refine g_getI dX12_takesItem_11 f_X12_85 (Mod.sg (by assumption)) rfl hq ?_
  refine r_iconst dX12_takesItem_14 ic_1 ?_
  refine n_iadd dX12_takesItem_15 ?_
  refine g_putI dX12_takesItem_16 f_X12_85 (Mod.sg (by assumption)) rfl ?_
  refine r_iload_n dX12_takesItem_19 rfl ?_
  refine r_lookup (tgt := 64) (off := 44) dX12_takesItem_20 (by decide) rfl (by decide) ?_
  refine r_aload_n dX12_takesItem_64 rfl ?_
  refine r_iconst dX12_takesItem_65 ic_3 ?_
  refine r_V1 dX12_takesItem_66 l_X12_96 k_X12_takesNumbers i_X12_takesNumbers (Mod.sg (by assumption)) ⟨_, rfl⟩ (Nat.le_of_ble_eq_true rfl) (hT _) (List.prefix_refl S) ?_
  refine r_ifB_eq (tgt := 101) dX12_takesItem_69 (by decide) (fun c69 => absurd c69 (by decide)) (fun c69 => ?_)
  refine r_aload_n dX12_takesItem_72 rfl ?_
  refine r_aload_n dX12_takesItem_73 rfl ?_
  refine g_getR dX12_takesItem_74 f_X12_25 (Mod.sg (by assumption)) rfl (Mod.r103 (by assumption)) ?_
  refine r_iconst dX12_takesItem_77 ic_0 ?_
  refine g_iald dX12_takesItem_78 (Mod.s103 (by assumption)) rfl (by decide) (by omega) h0 ?_
  refine r_aload_n dX12_takesItem_79 rfl ?_
  refine g_getR dX12_takesItem_80 f_X12_25 (Mod.sg (by assumption)) rfl (Mod.r103 (by assumption)) ?_
  refine r_iconst dX12_takesItem_83 ic_1 ?_
  refine g_iald dX12_takesItem_84 (Mod.s103 (by assumption)) rfl (by decide) (by omega) h1 ?_
  refine r_aload_n dX12_takesItem_85 rfl ?_
  refine g_getR dX12_takesItem_86 f_X12_25 (Mod.sg (by assumption)) rfl (Mod.r103 (by assumption)) ?_
  refine r_iconst dX12_takesItem_89 ic_2 ?_
  refine g_iald dX12_takesItem_90 (Mod.s103 (by assumption)) rfl (by decide) (by omega) h2 ?_
  refine r_V3 dX12_takesItem_91 l_X12_46 k_X12_persons i_X12_persons (Mod.sg (by assumption)) ⟨_, rfl⟩ (Nat.le_of_ble_eq_true rfl) (hP _) (List.prefix_refl S) ?_
  refine r_ifB_eq (tgt := 101) dX12_takesItem_94 (by decide) (fun c94 => ?_) (fun c94 => ?_)
  · skip
    refine r_iconst dX12_takesItem_101 ic_0 ?_
    exact g_iret dX12_takesItem_102 (rB0 c94) rfl
  · skip
    refine r_iconst dX12_takesItem_97 ic_1 ?_
    refine r_goto (tgt := 102) dX12_takesItem_98 (by decide) ?_
    exact g_iret dX12_takesItem_102 (rB1 c94) rfl

set_option maxHeartbeats 4000000 in
set_option maxRecDepth 100000 in
theorem g_it103_f (X : mCx) (d : Nat) {S : mSh} {I : mI} {R : mR} {tx : Nat → Nat} {n a : Nat} {I1 : mI} (hm : Mod S R) (ht : MoT I tx n) (hq : I 97 9 = nI a) (ha : a < n) (hc : sgn tx n a = 103) (hT : ∀ d, CC X (d + 2) M_X12_takesNumbers [.ref 97, .int (nI 4)] S (sJ I 97 9 (nI (a + 1)), R) (some (.int (bI false))) S (I1, R))  : CC X (d + 3) M_X12_takesItem [.ref 97] S (I, R) (some (.int (bI false))) S (I1, R) := by
  have hn := ht.2.1
  have hsg := ht.sg a
  refine CC.of2 (L := [.ref 97, .retAddr 0]) p_X12 (Nat.le_of_ble_eq_true rfl) rfl (mRok_b _) (List.prefix_refl S) ?_
  refine r_aload_n dX12_takesItem_0 rfl ?_
  refine r_aload_n dX12_takesItem_1 rfl ?_
  refine g_getI dX12_takesItem_2 f_X12_85 (Mod.sg (by assumption)) rfl hq ?_
  refine r_V1 dX12_takesItem_5 l_X12_88 k_X12_letterAt i_X12_letterAt (Mod.sg (by assumption)) ⟨_, rfl⟩ (Nat.le_of_ble_eq_true rfl) (v_X12_letterAt_n X _ hm ht ha) (List.prefix_refl S) ?_
  rw [hc]
  refine r_istore_n (L' := [_, _]) dX12_takesItem_8 rfl rfl ?_
  refine r_aload_n dX12_takesItem_9 rfl ?_
  refine r_dup dX12_takesItem_10 rfl ?_
  refine g_getI dX12_takesItem_11 f_X12_85 (Mod.sg (by assumption)) rfl hq ?_
  refine r_iconst dX12_takesItem_14 ic_1 ?_
  refine n_iadd dX12_takesItem_15 ?_
  refine g_putI dX12_takesItem_16 f_X12_85 (Mod.sg (by assumption)) rfl ?_
  refine r_iload_n dX12_takesItem_19 rfl ?_
  refine r_lookup (tgt := 103) (off := 83) dX12_takesItem_20 (by decide) rfl (by decide) ?_
  refine r_aload_n dX12_takesItem_103 rfl ?_
  refine r_iconst dX12_takesItem_104 ic_4 ?_
  refine r_V1 dX12_takesItem_105 l_X12_96 k_X12_takesNumbers i_X12_takesNumbers (Mod.sg (by assumption)) ⟨_, rfl⟩ (Nat.le_of_ble_eq_true rfl) (hT _) (List.prefix_refl S) ?_
  refine r_ifB_eq (tgt := 146) dX12_takesItem_108 (by decide) (fun c108 => ?_) (fun c108 => absurd c108 (by decide))
  refine r_iconst dX12_takesItem_146 ic_0 ?_
  exact g_iret dX12_takesItem_147 (rB0 rfl) rfl

set_option maxHeartbeats 4000000 in
set_option maxRecDepth 100000 in
theorem g_it103_t (X : mCx) (d : Nat) {S : mSh} {I : mI} {R : mR} {tx : Nat → Nat} {n a : Nat} {I1 I2 : mI} {c : Bool} {v0 v1 v2 v3 : Nat} (hm : Mod S R) (ht : MoT I tx n) (hq : I 97 9 = nI a) (ha : a < n) (hc : sgn tx n a = 103) (hT : ∀ d, CC X (d + 2) M_X12_takesNumbers [.ref 97, .int (nI 4)] S (sJ I 97 9 (nI (a + 1)), R) (some (.int (bI true))) S (I1, R)) (h0 : I1 103 0 = nI v0) (h1 : I1 103 1 = nI v1) (h2 : I1 103 2 = nI v2) (h3 : I1 103 3 = nI v3) (hP : ∀ d, CC X (d + 2) M_X12_goods [.ref 97, .int (nI v0), .int (nI v1), .int (nI v2), .int (nI v3)] S (I1, R) (some (.int (bI c))) S (I2, R))  : CC X (d + 3) M_X12_takesItem [.ref 97] S (I, R) (some (.int (bI c))) S (I2, R) := by
  have hn := ht.2.1
  have hsg := ht.sg a
  refine CC.of2 (L := [.ref 97, .retAddr 0]) p_X12 (Nat.le_of_ble_eq_true rfl) rfl (mRok_b _) (List.prefix_refl S) ?_
  refine r_aload_n dX12_takesItem_0 rfl ?_
  refine r_aload_n dX12_takesItem_1 rfl ?_
  refine g_getI dX12_takesItem_2 f_X12_85 (Mod.sg (by assumption)) rfl hq ?_
  refine r_V1 dX12_takesItem_5 l_X12_88 k_X12_letterAt i_X12_letterAt (Mod.sg (by assumption)) ⟨_, rfl⟩ (Nat.le_of_ble_eq_true rfl) (v_X12_letterAt_n X _ hm ht ha) (List.prefix_refl S) ?_
  rw [hc]
  refine r_istore_n (L' := [_, _]) dX12_takesItem_8 rfl rfl ?_
  refine r_aload_n dX12_takesItem_9 rfl ?_
  refine r_dup dX12_takesItem_10 rfl ?_
  refine g_getI dX12_takesItem_11 f_X12_85 (Mod.sg (by assumption)) rfl hq ?_
  refine r_iconst dX12_takesItem_14 ic_1 ?_
  refine n_iadd dX12_takesItem_15 ?_
  refine g_putI dX12_takesItem_16 f_X12_85 (Mod.sg (by assumption)) rfl ?_
  refine r_iload_n dX12_takesItem_19 rfl ?_
  refine r_lookup (tgt := 103) (off := 83) dX12_takesItem_20 (by decide) rfl (by decide) ?_
  refine r_aload_n dX12_takesItem_103 rfl ?_
  refine r_iconst dX12_takesItem_104 ic_4 ?_
  refine r_V1 dX12_takesItem_105 l_X12_96 k_X12_takesNumbers i_X12_takesNumbers (Mod.sg (by assumption)) ⟨_, rfl⟩ (Nat.le_of_ble_eq_true rfl) (hT _) (List.prefix_refl S) ?_
  refine r_ifB_eq (tgt := 146) dX12_takesItem_108 (by decide) (fun c108 => absurd c108 (by decide)) (fun c108 => ?_)
  refine r_aload_n dX12_takesItem_111 rfl ?_
  refine r_aload_n dX12_takesItem_112 rfl ?_
  refine g_getR dX12_takesItem_113 f_X12_25 (Mod.sg (by assumption)) rfl (Mod.r103 (by assumption)) ?_
  refine r_iconst dX12_takesItem_116 ic_0 ?_
  refine g_iald dX12_takesItem_117 (Mod.s103 (by assumption)) rfl (by decide) (by omega) h0 ?_
  refine r_aload_n dX12_takesItem_118 rfl ?_
  refine g_getR dX12_takesItem_119 f_X12_25 (Mod.sg (by assumption)) rfl (Mod.r103 (by assumption)) ?_
  refine r_iconst dX12_takesItem_122 ic_1 ?_
  refine g_iald dX12_takesItem_123 (Mod.s103 (by assumption)) rfl (by decide) (by omega) h1 ?_
  refine r_aload_n dX12_takesItem_124 rfl ?_
  refine g_getR dX12_takesItem_125 f_X12_25 (Mod.sg (by assumption)) rfl (Mod.r103 (by assumption)) ?_
  refine r_iconst dX12_takesItem_128 ic_2 ?_
  refine g_iald dX12_takesItem_129 (Mod.s103 (by assumption)) rfl (by decide) (by omega) h2 ?_
  refine r_aload_n dX12_takesItem_130 rfl ?_
  refine g_getR dX12_takesItem_131 f_X12_25 (Mod.sg (by assumption)) rfl (Mod.r103 (by assumption)) ?_
  refine r_iconst dX12_takesItem_134 ic_3 ?_
  refine g_iald dX12_takesItem_135 (Mod.s103 (by assumption)) rfl (by decide) (by omega) h3 ?_
  refine r_V4 dX12_takesItem_136 l_X12_50 k_X12_goods i_X12_goods (Mod.sg (by assumption)) ⟨_, rfl⟩ (Nat.le_of_ble_eq_true rfl) (hP _) (List.prefix_refl S) ?_
  refine r_ifB_eq (tgt := 146) dX12_takesItem_139 (by decide) (fun c139 => ?_) (fun c139 => ?_)
  · skip
    refine r_iconst dX12_takesItem_146 ic_0 ?_
    exact g_iret dX12_takesItem_147 (rB0 c139) rfl
  · skip
    refine r_iconst dX12_takesItem_142 ic_1 ?_
    refine r_goto (tgt := 147) dX12_takesItem_143 (by decide) ?_
    exact g_iret dX12_takesItem_147 (rB1 c139) rfl

set_option maxHeartbeats 4000000 in
set_option maxRecDepth 100000 in
theorem g_it118_f (X : mCx) (d : Nat) {S : mSh} {I : mI} {R : mR} {tx : Nat → Nat} {n a : Nat} {I1 : mI} (hm : Mod S R) (ht : MoT I tx n) (hq : I 97 9 = nI a) (ha : a < n) (hc : sgn tx n a = 118) (hT : ∀ d, CC X (d + 2) M_X12_takesNumbers [.ref 97, .int (nI 3)] S (sJ I 97 9 (nI (a + 1)), R) (some (.int (bI false))) S (I1, R))  : CC X (d + 3) M_X12_takesItem [.ref 97] S (I, R) (some (.int (bI false))) S (I1, R) := by
  have hn := ht.2.1
  have hsg := ht.sg a
  refine CC.of2 (L := [.ref 97, .retAddr 0]) p_X12 (Nat.le_of_ble_eq_true rfl) rfl (mRok_b _) (List.prefix_refl S) ?_
  refine r_aload_n dX12_takesItem_0 rfl ?_
  refine r_aload_n dX12_takesItem_1 rfl ?_
  refine g_getI dX12_takesItem_2 f_X12_85 (Mod.sg (by assumption)) rfl hq ?_
  refine r_V1 dX12_takesItem_5 l_X12_88 k_X12_letterAt i_X12_letterAt (Mod.sg (by assumption)) ⟨_, rfl⟩ (Nat.le_of_ble_eq_true rfl) (v_X12_letterAt_n X _ hm ht ha) (List.prefix_refl S) ?_
  rw [hc]
  refine r_istore_n (L' := [_, _]) dX12_takesItem_8 rfl rfl ?_
  refine r_aload_n dX12_takesItem_9 rfl ?_
  refine r_dup dX12_takesItem_10 rfl ?_
  refine g_getI dX12_takesItem_11 f_X12_85 (Mod.sg (by assumption)) rfl hq ?_
  refine r_iconst dX12_takesItem_14 ic_1 ?_
  refine n_iadd dX12_takesItem_15 ?_
  refine g_putI dX12_takesItem_16 f_X12_85 (Mod.sg (by assumption)) rfl ?_
  refine r_iload_n dX12_takesItem_19 rfl ?_
  refine r_lookup (tgt := 148) (off := 128) dX12_takesItem_20 (by decide) rfl (by decide) ?_
  refine r_aload_n dX12_takesItem_148 rfl ?_
  refine r_iconst dX12_takesItem_149 ic_3 ?_
  refine r_V1 dX12_takesItem_150 l_X12_96 k_X12_takesNumbers i_X12_takesNumbers (Mod.sg (by assumption)) ⟨_, rfl⟩ (Nat.le_of_ble_eq_true rfl) (hT _) (List.prefix_refl S) ?_
  refine r_ifB_eq (tgt := 185) dX12_takesItem_153 (by decide) (fun c153 => ?_) (fun c153 => absurd c153 (by decide))
  refine r_iconst dX12_takesItem_185 ic_0 ?_
  exact g_iret dX12_takesItem_186 (rB0 rfl) rfl

set_option maxHeartbeats 4000000 in
set_option maxRecDepth 100000 in
theorem g_it118_t (X : mCx) (d : Nat) {S : mSh} {I : mI} {R : mR} {tx : Nat → Nat} {n a : Nat} {I1 I2 : mI} {c : Bool} {v0 v1 v2 : Nat} (hm : Mod S R) (ht : MoT I tx n) (hq : I 97 9 = nI a) (ha : a < n) (hc : sgn tx n a = 118) (hT : ∀ d, CC X (d + 2) M_X12_takesNumbers [.ref 97, .int (nI 3)] S (sJ I 97 9 (nI (a + 1)), R) (some (.int (bI true))) S (I1, R)) (h0 : I1 103 0 = nI v0) (h1 : I1 103 1 = nI v1) (h2 : I1 103 2 = nI v2) (hP : ∀ d, CC X (d + 2) M_X12_loves [.ref 97, .int (nI v0), .int (nI v1), .int (nI v2)] S (I1, R) (some (.int (bI c))) S (I2, R))  : CC X (d + 3) M_X12_takesItem [.ref 97] S (I, R) (some (.int (bI c))) S (I2, R) := by
  have hn := ht.2.1
  have hsg := ht.sg a
  refine CC.of2 (L := [.ref 97, .retAddr 0]) p_X12 (Nat.le_of_ble_eq_true rfl) rfl (mRok_b _) (List.prefix_refl S) ?_
  refine r_aload_n dX12_takesItem_0 rfl ?_
  refine r_aload_n dX12_takesItem_1 rfl ?_
  refine g_getI dX12_takesItem_2 f_X12_85 (Mod.sg (by assumption)) rfl hq ?_
  refine r_V1 dX12_takesItem_5 l_X12_88 k_X12_letterAt i_X12_letterAt (Mod.sg (by assumption)) ⟨_, rfl⟩ (Nat.le_of_ble_eq_true rfl) (v_X12_letterAt_n X _ hm ht ha) (List.prefix_refl S) ?_
  rw [hc]
  refine r_istore_n (L' := [_, _]) dX12_takesItem_8 rfl rfl ?_
  refine r_aload_n dX12_takesItem_9 rfl ?_
  refine r_dup dX12_takesItem_10 rfl ?_
  refine g_getI dX12_takesItem_11 f_X12_85 (Mod.sg (by assumption)) rfl hq ?_
  refine r_iconst dX12_takesItem_14 ic_1 ?_
  refine n_iadd dX12_takesItem_15 ?_
  refine g_putI dX12_takesItem_16 f_X12_85 (Mod.sg (by assumption)) rfl ?_
  refine r_iload_n dX12_takesItem_19 rfl ?_
  refine r_lookup (tgt := 148) (off := 128) dX12_takesItem_20 (by decide) rfl (by decide) ?_
  refine r_aload_n dX12_takesItem_148 rfl ?_
  refine r_iconst dX12_takesItem_149 ic_3 ?_
  refine r_V1 dX12_takesItem_150 l_X12_96 k_X12_takesNumbers i_X12_takesNumbers (Mod.sg (by assumption)) ⟨_, rfl⟩ (Nat.le_of_ble_eq_true rfl) (hT _) (List.prefix_refl S) ?_
  refine r_ifB_eq (tgt := 185) dX12_takesItem_153 (by decide) (fun c153 => absurd c153 (by decide)) (fun c153 => ?_)
  refine r_aload_n dX12_takesItem_156 rfl ?_
  refine r_aload_n dX12_takesItem_157 rfl ?_
  refine g_getR dX12_takesItem_158 f_X12_25 (Mod.sg (by assumption)) rfl (Mod.r103 (by assumption)) ?_
  refine r_iconst dX12_takesItem_161 ic_0 ?_
  refine g_iald dX12_takesItem_162 (Mod.s103 (by assumption)) rfl (by decide) (by omega) h0 ?_
  refine r_aload_n dX12_takesItem_163 rfl ?_
  refine g_getR dX12_takesItem_164 f_X12_25 (Mod.sg (by assumption)) rfl (Mod.r103 (by assumption)) ?_
  refine r_iconst dX12_takesItem_167 ic_1 ?_
  refine g_iald dX12_takesItem_168 (Mod.s103 (by assumption)) rfl (by decide) (by omega) h1 ?_
  refine r_aload_n dX12_takesItem_169 rfl ?_
  refine g_getR dX12_takesItem_170 f_X12_25 (Mod.sg (by assumption)) rfl (Mod.r103 (by assumption)) ?_
  refine r_iconst dX12_takesItem_173 ic_2 ?_
  refine g_iald dX12_takesItem_174 (Mod.s103 (by assumption)) rfl (by decide) (by omega) h2 ?_
  refine r_V3 dX12_takesItem_175 l_X12_54 k_X12_loves i_X12_loves (Mod.sg (by assumption)) ⟨_, rfl⟩ (Nat.le_of_ble_eq_true rfl) (hP _) (List.prefix_refl S) ?_
  refine r_ifB_eq (tgt := 185) dX12_takesItem_178 (by decide) (fun c178 => ?_) (fun c178 => ?_)
  · skip
    refine r_iconst dX12_takesItem_185 ic_0 ?_
    exact g_iret dX12_takesItem_186 (rB0 c178) rfl
  · skip
    refine r_iconst dX12_takesItem_181 ic_1 ?_
    refine r_goto (tgt := 186) dX12_takesItem_182 (by decide) ?_
    exact g_iret dX12_takesItem_186 (rB1 c178) rfl

set_option maxHeartbeats 4000000 in
set_option maxRecDepth 100000 in
theorem g_it116_f (X : mCx) (d : Nat) {S : mSh} {I : mI} {R : mR} {tx : Nat → Nat} {n a : Nat} {I1 : mI} (hm : Mod S R) (ht : MoT I tx n) (hq : I 97 9 = nI a) (ha : a < n) (hc : sgn tx n a = 116) (hT : ∀ d, CC X (d + 2) M_X12_takesNumbers [.ref 97, .int (nI 1)] S (sJ I 97 9 (nI (a + 1)), R) (some (.int (bI false))) S (I1, R))  : CC X (d + 3) M_X12_takesItem [.ref 97] S (I, R) (some (.int (bI false))) S (I1, R) := by
  have hn := ht.2.1
  have hsg := ht.sg a
  refine CC.of2 (L := [.ref 97, .retAddr 0]) p_X12 (Nat.le_of_ble_eq_true rfl) rfl (mRok_b _) (List.prefix_refl S) ?_
  refine r_aload_n dX12_takesItem_0 rfl ?_
  refine r_aload_n dX12_takesItem_1 rfl ?_
  refine g_getI dX12_takesItem_2 f_X12_85 (Mod.sg (by assumption)) rfl hq ?_
  refine r_V1 dX12_takesItem_5 l_X12_88 k_X12_letterAt i_X12_letterAt (Mod.sg (by assumption)) ⟨_, rfl⟩ (Nat.le_of_ble_eq_true rfl) (v_X12_letterAt_n X _ hm ht ha) (List.prefix_refl S) ?_
  rw [hc]
  refine r_istore_n (L' := [_, _]) dX12_takesItem_8 rfl rfl ?_
  refine r_aload_n dX12_takesItem_9 rfl ?_
  refine r_dup dX12_takesItem_10 rfl ?_
  refine g_getI dX12_takesItem_11 f_X12_85 (Mod.sg (by assumption)) rfl hq ?_
  refine r_iconst dX12_takesItem_14 ic_1 ?_
  refine n_iadd dX12_takesItem_15 ?_
  refine g_putI dX12_takesItem_16 f_X12_85 (Mod.sg (by assumption)) rfl ?_
  refine r_iload_n dX12_takesItem_19 rfl ?_
  refine r_lookup (tgt := 187) (off := 167) dX12_takesItem_20 (by decide) rfl (by decide) ?_
  refine r_aload_n dX12_takesItem_187 rfl ?_
  refine r_iconst dX12_takesItem_188 ic_1 ?_
  refine r_V1 dX12_takesItem_189 l_X12_96 k_X12_takesNumbers i_X12_takesNumbers (Mod.sg (by assumption)) ⟨_, rfl⟩ (Nat.le_of_ble_eq_true rfl) (hT _) (List.prefix_refl S) ?_
  refine r_ifB_eq (tgt := 212) dX12_takesItem_192 (by decide) (fun c192 => ?_) (fun c192 => absurd c192 (by decide))
  refine r_iconst dX12_takesItem_212 ic_0 ?_
  exact g_iret dX12_takesItem_213 (rB0 rfl) rfl

set_option maxHeartbeats 4000000 in
set_option maxRecDepth 100000 in
theorem g_it116_t (X : mCx) (d : Nat) {S : mSh} {I : mI} {R : mR} {tx : Nat → Nat} {n a : Nat} {I1 I2 : mI} {c : Bool} {v0 : Nat} (hm : Mod S R) (ht : MoT I tx n) (hq : I 97 9 = nI a) (ha : a < n) (hc : sgn tx n a = 116) (hT : ∀ d, CC X (d + 2) M_X12_takesNumbers [.ref 97, .int (nI 1)] S (sJ I 97 9 (nI (a + 1)), R) (some (.int (bI true))) S (I1, R)) (h0 : I1 103 0 = nI v0) (hP : ∀ d, CC X (d + 2) M_X12_tenths [.ref 97, .int (nI v0)] S (I1, R) (some (.int (bI c))) S (I2, R))  : CC X (d + 3) M_X12_takesItem [.ref 97] S (I, R) (some (.int (bI c))) S (I2, R) := by
  have hn := ht.2.1
  have hsg := ht.sg a
  refine CC.of2 (L := [.ref 97, .retAddr 0]) p_X12 (Nat.le_of_ble_eq_true rfl) rfl (mRok_b _) (List.prefix_refl S) ?_
  refine r_aload_n dX12_takesItem_0 rfl ?_
  refine r_aload_n dX12_takesItem_1 rfl ?_
  refine g_getI dX12_takesItem_2 f_X12_85 (Mod.sg (by assumption)) rfl hq ?_
  refine r_V1 dX12_takesItem_5 l_X12_88 k_X12_letterAt i_X12_letterAt (Mod.sg (by assumption)) ⟨_, rfl⟩ (Nat.le_of_ble_eq_true rfl) (v_X12_letterAt_n X _ hm ht ha) (List.prefix_refl S) ?_
  rw [hc]
  refine r_istore_n (L' := [_, _]) dX12_takesItem_8 rfl rfl ?_
  refine r_aload_n dX12_takesItem_9 rfl ?_
  refine r_dup dX12_takesItem_10 rfl ?_
  refine g_getI dX12_takesItem_11 f_X12_85 (Mod.sg (by assumption)) rfl hq ?_
  refine r_iconst dX12_takesItem_14 ic_1 ?_
  refine n_iadd dX12_takesItem_15 ?_
  refine g_putI dX12_takesItem_16 f_X12_85 (Mod.sg (by assumption)) rfl ?_
  refine r_iload_n dX12_takesItem_19 rfl ?_
  refine r_lookup (tgt := 187) (off := 167) dX12_takesItem_20 (by decide) rfl (by decide) ?_
  refine r_aload_n dX12_takesItem_187 rfl ?_
  refine r_iconst dX12_takesItem_188 ic_1 ?_
  refine r_V1 dX12_takesItem_189 l_X12_96 k_X12_takesNumbers i_X12_takesNumbers (Mod.sg (by assumption)) ⟨_, rfl⟩ (Nat.le_of_ble_eq_true rfl) (hT _) (List.prefix_refl S) ?_
  refine r_ifB_eq (tgt := 212) dX12_takesItem_192 (by decide) (fun c192 => absurd c192 (by decide)) (fun c192 => ?_)
  refine r_aload_n dX12_takesItem_195 rfl ?_
  refine r_aload_n dX12_takesItem_196 rfl ?_
  refine g_getR dX12_takesItem_197 f_X12_25 (Mod.sg (by assumption)) rfl (Mod.r103 (by assumption)) ?_
  refine r_iconst dX12_takesItem_200 ic_0 ?_
  refine g_iald dX12_takesItem_201 (Mod.s103 (by assumption)) rfl (by decide) (by omega) h0 ?_
  refine r_V1 dX12_takesItem_202 l_X12_100 k_X12_tenths i_X12_tenths (Mod.sg (by assumption)) ⟨_, rfl⟩ (Nat.le_of_ble_eq_true rfl) (hP _) (List.prefix_refl S) ?_
  refine r_ifB_eq (tgt := 212) dX12_takesItem_205 (by decide) (fun c205 => ?_) (fun c205 => ?_)
  · skip
    refine r_iconst dX12_takesItem_212 ic_0 ?_
    exact g_iret dX12_takesItem_213 (rB0 c205) rfl
  · skip
    refine r_iconst dX12_takesItem_208 ic_1 ?_
    refine r_goto (tgt := 213) dX12_takesItem_209 (by decide) ?_
    exact g_iret dX12_takesItem_213 (rB1 c205) rfl

set_option maxHeartbeats 4000000 in
set_option maxRecDepth 100000 in
theorem g_it0 (X : mCx) (d : Nat) {S : mSh} {I : mI} {R : mR} {tx : Nat → Nat} {n a : Nat} (hm : Mod S R) (ht : MoT I tx n) (hq : I 97 9 = nI a) (ha : a < n) (hc : nof (sgn tx n a) = 0) : CC X (d + 3) M_X12_takesItem [.ref 97] S (I, R) (some (.int (bI false))) S (sJ I 97 9 (nI (a + 1)), R) := by
  have hn := ht.2.1
  have hsg := ht.sg a
  refine CC.of2 (L := [.ref 97, .retAddr 0]) p_X12 (Nat.le_of_ble_eq_true rfl) rfl (mRok_b _) (List.prefix_refl S) ?_
  refine r_aload_n dX12_takesItem_0 rfl ?_
  refine r_aload_n dX12_takesItem_1 rfl ?_
  refine g_getI dX12_takesItem_2 f_X12_85 (Mod.sg (by assumption)) rfl hq ?_
  refine r_V1 dX12_takesItem_5 l_X12_88 k_X12_letterAt i_X12_letterAt (Mod.sg (by assumption)) ⟨_, rfl⟩ (Nat.le_of_ble_eq_true rfl) (v_X12_letterAt_n X _ hm ht ha) (List.prefix_refl S) ?_
  refine r_istore_n (L' := [_, _]) dX12_takesItem_8 rfl rfl ?_
  refine r_aload_n dX12_takesItem_9 rfl ?_
  refine r_dup dX12_takesItem_10 rfl ?_
  refine g_getI dX12_takesItem_11 f_X12_85 (Mod.sg (by assumption)) rfl hq ?_
  refine r_iconst dX12_takesItem_14 ic_1 ?_
  refine n_iadd dX12_takesItem_15 ?_
  refine g_putI dX12_takesItem_16 f_X12_85 (Mod.sg (by assumption)) rfl ?_
  refine r_iload_n dX12_takesItem_19 rfl ?_
  by_cases k103 : sgn tx n a = 103
  · refine r_lookup (tgt := 103) (off := 83) dX12_takesItem_20 (by decide) (by rw [k103]; rfl) (by decide) ?_
    exfalso; rw [k103] at hc; exact absurd hc (by decide)
  by_cases k112 : sgn tx n a = 112
  · refine r_lookup (tgt := 64) (off := 44) dX12_takesItem_20 (by decide) (by rw [k112]; rfl) (by decide) ?_
    exfalso; rw [k112] at hc; exact absurd hc (by decide)
  by_cases k116 : sgn tx n a = 116
  · refine r_lookup (tgt := 187) (off := 167) dX12_takesItem_20 (by decide) (by rw [k116]; rfl) (by decide) ?_
    exfalso; rw [k116] at hc; exact absurd hc (by decide)
  by_cases k118 : sgn tx n a = 118
  · refine r_lookup (tgt := 148) (off := 128) dX12_takesItem_20 (by decide) (by rw [k118]; rfl) (by decide) ?_
    exfalso; rw [k118] at hc; exact absurd hc (by decide)
  refine r_lookup (tgt := 214) (off := 194) dX12_takesItem_20 (by decide) ((lv_osw (k := nI 103) (fun q => k103 ((nI_eq (by omega) (by decide)).mp q)) (by decide)).trans ((lv_osw (k := nI 112) (fun q => k112 ((nI_eq (by omega) (by decide)).mp q)) (by decide)).trans ((lv_osw (k := nI 116) (fun q => k116 ((nI_eq (by omega) (by decide)).mp q)) (by decide)).trans ((lv_osw (k := nI 118) (fun q => k118 ((nI_eq (by omega) (by decide)).mp q)) (by decide)).trans rfl)))) (by decide) ?_
  refine r_iconst dX12_takesItem_214 ic_0 ?_
  exact g_iret dX12_takesItem_215 (rB0 rfl) rfl

