/-! ===== the order alike ===== -/
set_option maxHeartbeats 4000000 in
set_option maxRecDepth 100000 in
theorem v_X11_order_n (X : mCx) (d : Nat) {S : mSh} {I : mI} {R : mR} {w s : Nat → Int32} {N G hb pb f dr : Nat} {k : Nat} (hc : Cla S R f dr) (hf : Fam S I R f w N G) (hst : Std S I R 6 s N G hb pb) (hk : k ≤ 6) (hn : (rkH I 73 w s N G hb 63) 74 hb = -4) : CC X (d + 7) M_X11_order [.ref 1, .int (nI k)] S (I, R) (some (.int (-4))) S (rkH I 73 w s N G hb 63, R) := by
  have hG8 := hst.G8
  have hN6 := hst.N6
  have h256 := hst.h256
  have p256 := hst.p256
  have hund := hc.und
  have hkep := hc.kep
  have hoat := hc.oat
  have hord := hc.ord
  have htxt := hc.txt
  have htwo := hc.two
  have hgif := hc.gif
  have htri := hc.tri
  have hnow := hc.now
  have hb2 := hst.hb2
  have h64 := p2_le (m := 6) hN6 hb2
  refine CC.of2 (L := [.ref 1, .int (nI k), .retAddr 0]) p_X11 (Nat.le_of_ble_eq_true rfl) rfl rfl (List.prefix_refl S) ?_
  refine r_iload_n dX11_order_0 rfl ?_
  refine n_if_lt (tgt := 10) dX11_order_1 (by decide) (by omega) (fun c1 => absurd c1 (Nat.not_lt_zero _)) (fun c1 => ?_)
  refine r_iload_n dX11_order_4 rfl ?_
  refine r_bipush dX11_order_5 bp_6 ?_
  refine n_icmp_le (tgt := 12) dX11_order_7 (by decide) (by omega) (by omega) (fun c7 => ?_) (fun c7 => absurd c7 (by omega))
  refine r_aload_n dX11_order_12 rfl ?_
  refine g_getR dX11_order_13 f_X11_55 (Cla.sg (by assumption)) rfl (Cla.f7 (by assumption)) ?_
  refine r_aload_n dX11_order_16 rfl ?_
  refine g_getR dX11_order_17 f_X11_66 (Cla.sg (by assumption)) rfl (Cla.f9 (by assumption)) ?_
  refine r_aload_n dX11_order_20 rfl ?_
  refine g_getR dX11_order_21 f_X11_26 (Cla.sg (by assumption)) rfl (Cla.f2 (by assumption)) ?_
  refine r_V2 dX11_order_24 l_X11_229 k_X4_reckon i_X4_reckon (Ord.sg (Cla.ord (by assumption))) ⟨_, rfl⟩ (Nat.le_of_ble_eq_true rfl) (v_X4_reckon X _ hord hf hst (by omega) (by omega)) (List.prefix_refl S) ?_
  have hf1 : Fam S (rkH I 73 w s N G hb 63) R f w N G := hf.fr (fun o h1 h2 => rkH_fr (by omega) 63)
  have hst1 : Std S (rkH I 73 w s N G hb 63) R 6 s N G hb pb := hst.fr (fun o h1 h2 => rkH_fr (by omega) 63)
  refine r_aload_n dX11_order_27 rfl ?_
  refine g_getR dX11_order_28 f_X11_55 (Cla.sg (by assumption)) rfl (Cla.f7 (by assumption)) ?_
  refine r_aload_n dX11_order_31 rfl ?_
  refine g_getR dX11_order_32 f_X11_26 (Cla.sg (by assumption)) rfl (Cla.f2 (by assumption)) ?_
  refine g_getI dX11_order_35 f_X11_195 (Sto.sg (Cla.now (by assumption))) rfl hst1.here ?_
  refine r_V1 dX11_order_38 l_X11_233 k_X4_least i_X4_least (Ord.sg (Cla.ord (by assumption))) ⟨_, rfl⟩ (Nat.le_of_ble_eq_true rfl) (v_X4_least X _ hord (by omega)) (List.prefix_refl S) ?_
  rw [hn]
  refine r_istore_n (L' := [_, _, _]) dX11_order_41 rfl rfl ?_
  refine r_iload_n dX11_order_42 rfl ?_
  refine n_if_eq (tgt := 52) dX11_order_43 (by decide) (by omega) (fun c43 => ?_) (fun c43 => ?_)
  · skip
    refine r_iload_n dX11_order_52 rfl ?_
    refine r_goto (tgt := 71) dX11_order_53 (by decide) ?_
    exact g_iret dX11_order_71 rfl rfl
  · skip
    refine r_iload_n dX11_order_46 rfl ?_
    refine r_bipush dX11_order_47 bp_m4 ?_
    refine r_icmp_ne (tgt := 56) dX11_order_49 (by decide) (fun c49 => absurd rfl c49) (fun c49 => ?_)
    refine r_iload_n dX11_order_52 rfl ?_
    refine r_goto (tgt := 71) dX11_order_53 (by decide) ?_
    exact g_iret dX11_order_71 rfl rfl

/-- the lowest of those for whom v is least -/
def bst (c : Nat → Prop) (v : Nat → Nat) (lo hi i : Nat) : Prop := (lo ≤ i ∧ i < hi) ∧ c i ∧ ∀ j, lo ≤ j → j < hi → c j → v i ≤ v j ∧ (j < i → v i < v j)
theorem bst_u {c : Nat → Prop} {v : Nat → Nat} {lo hi i j : Nat} (h : bst c v lo hi i) (k : bst c v lo hi j) : i = j := by
  obtain ⟨⟨a1, a2⟩, a3, a4⟩ := h
  obtain ⟨⟨b1, b2⟩, b3, b4⟩ := k
  have p1 := a4 j b1 b2 b3
  have p2 := b4 i a1 a2 a3
  rcases Nat.lt_trichotomy i j with z | z | z
  · have := p2.2 z; omega
  · exact z
  · have := p1.2 z; omega
theorem orF_b {w s : Nat → Int32} {N G b : Nat} {T : Nat → Int32} {c : Nat → Prop} {v : Nat → Nat} (h6 : N ≤ 6)
    (hc : ∀ i, i < N → (c i ↔ ¬ (clr b i = b ∨ alone w N (clr b i) = true ∨ T (clr b i) = -4)))
    (hv : ∀ i, i < N → c i → v i < 1000000 ∧ T (clr b i) + owe w s N G b i = nI (v i)) :
    ∀ n, n ≤ N → (orF w s N G T b n = (-4, -4) ∧ ∀ i, i < n → ¬ c i) ∨ ∃ i, bst c v 0 n i ∧ orF w s N G T b n = (nI (v i), nI i)
  | 0, _ => Or.inl ⟨rfl, fun i h => absurd h (Nat.not_lt_zero _)⟩
  | n + 1, hn => by
    have ih := orF_b h6 hc hv n (by omega)
    rw [orF_s]
    unfold orS
    by_cases cn : c n
    case neg =>
      rw [if_pos (Classical.byContradiction (fun z => cn ((hc n (by omega)).mpr z)))]
      rcases ih with ⟨e, h⟩ | ⟨i, h, e⟩
      · refine Or.inl ⟨e, fun i hi => ?_⟩
        rcases Nat.lt_succ_iff_lt_or_eq.mp hi with z | z
        · exact h i z
        · rw [z]; exact cn
      · refine Or.inr ⟨i, ⟨⟨h.1.1, Nat.lt_succ_of_lt h.1.2⟩, h.2.1, fun j j1 j2 j3 => ?_⟩, e⟩
        rcases Nat.lt_succ_iff_lt_or_eq.mp j2 with z | z
        · exact h.2.2 j j1 z j3
        · rw [z] at j3; exact absurd j3 cn
    rw [if_neg ((hc n (by omega)).mp cn)]
    obtain ⟨w1, w2⟩ := hv n (by omega) cn
    rw [w2]
    rcases ih with ⟨e, h⟩ | ⟨i, h, e⟩
    · rw [e, if_neg (fun z => z.1 rfl)]
      refine Or.inr ⟨n, ⟨⟨Nat.zero_le _, Nat.lt_succ_self _⟩, cn, fun j j1 j2 j3 => ?_⟩, rfl⟩
      rcases Nat.lt_succ_iff_lt_or_eq.mp j2 with z | z
      · exact absurd j3 (h j z)
      · rw [z]; exact ⟨Nat.le_refl _, fun q => absurd q (Nat.lt_irrefl _)⟩
    · obtain ⟨⟨a1, a2⟩, a3, a4⟩ := h
      have x1 := (hv i (by omega) a3).1
      rw [e]
      by_cases q : v i ≤ v n
      · rw [if_pos ⟨nI_ne4 (by omega), by rw [nI_leI (by omega) (by omega)]; exact q⟩]
        refine Or.inr ⟨i, ⟨⟨a1, Nat.lt_succ_of_lt a2⟩, a3, fun j j1 j2 j3 => ?_⟩, rfl⟩
        rcases Nat.lt_succ_iff_lt_or_eq.mp j2 with z | z
        · exact a4 j j1 z j3
        · rw [z]; exact ⟨q, fun y => absurd y (by omega)⟩
      · rw [if_neg (fun z => q (by have := z.2; rw [nI_leI (by omega) (by omega)] at this; exact this))]
        refine Or.inr ⟨n, ⟨⟨Nat.zero_le _, Nat.lt_succ_self _⟩, cn, fun j j1 j2 j3 => ?_⟩, rfl⟩
        rcases Nat.lt_succ_iff_lt_or_eq.mp j2 with z | z
        · have := (a4 j j1 z j3).1
          exact ⟨by omega, fun _ => by omega⟩
        · rw [z]; exact ⟨Nat.le_refl _, fun y => absurd y (Nat.lt_irrefl _)⟩
theorem omF_b {w s : Nat → Int32} {N G b : Nat} {T : Nat → Int32} {c : Nat → Prop} {v : Nat → Nat} (h6 : N ≤ 6) (hb0 : b ≠ 0)
    (hc : ∀ i, i < N → (c i ↔ omC w N T b i = true))
    (hv : ∀ i, i < N → c i → v i < 1000000 ∧ omP w s N G T b i = nI (v i)) :
    ∀ n, n ≤ N → (omF w s N G T b n = (FARI, -4) ∧ ∀ i, N - n ≤ i → i < N → ¬ c i) ∨ ∃ i, bst c v (N - n) N i ∧ omF w s N G T b n = (nI (v i), nI i)
  | 0, _ => Or.inl ⟨by unfold omF nFold; rw [if_neg hb0], fun i h k => absurd k (by omega)⟩
  | n + 1, hn => by
    have ih := omF_b (s := s) (G := G) h6 hb0 hc hv n (by omega)
    have em : N - n = N - (n + 1) + 1 := by omega
    rw [omF_s]
    by_cases cn : c (N - (n + 1))
    case neg =>
      rw [omS_f (by
        cases z : omC w N T b (N - (n + 1)) with
        | false => rfl
        | true => exact absurd ((hc _ (by omega)).mpr z) cn)]
      rcases ih with ⟨e, h⟩ | ⟨i, h, e⟩
      · refine Or.inl ⟨e, fun i hi h2 => ?_⟩
        rcases Nat.eq_or_lt_of_le hi with z | z
        · rw [← z]; exact cn
        · exact h i (by omega) h2
      · refine Or.inr ⟨i, ⟨⟨by have := h.1.1; omega, h.1.2⟩, h.2.1, fun j j1 j2 j3 => ?_⟩, e⟩
        rcases Nat.eq_or_lt_of_le j1 with z | z
        · rw [← z] at j3; exact absurd j3 cn
        · exact h.2.2 j (by omega) j2 j3
    rw [omS_t ((hc _ (by omega)).mp cn)]
    obtain ⟨w1, w2⟩ := hv _ (by omega) cn
    rw [w2]
    rcases ih with ⟨e, h⟩ | ⟨i, h, e⟩
    · rw [e]
      have l1 : nI (v (N - (n + 1))) < FARI := (nI_ltI (by omega) (by decide)).mpr w1
      rw [if_pos l1, if_pos (Int32.le_of_lt l1)]
      refine Or.inr ⟨_, ⟨⟨Nat.le_refl _, by omega⟩, cn, fun j j1 j2 j3 => ?_⟩, rfl⟩
      rcases Nat.eq_or_lt_of_le j1 with z | z
      · rw [← z]; exact ⟨Nat.le_refl _, fun q => absurd q (Nat.lt_irrefl _)⟩
      · exact absurd j3 (h j (by omega) j2)
    · obtain ⟨⟨a1, a2⟩, a3, a4⟩ := h
      have x1 := (hv i (by omega) a3).1
      rw [e]
      by_cases q : v (N - (n + 1)) ≤ v i
      · have l1 : nI (v (N - (n + 1))) ≤ nI (v i) := by rw [nI_leI (by omega) (by omega)]; exact q
        rw [if_pos l1]
        refine Or.inr ⟨N - (n + 1), ⟨⟨Nat.le_refl _, by omega⟩, cn, fun j j1 j2 j3 => ?_⟩, ?_⟩
        · rcases Nat.eq_or_lt_of_le j1 with z | z
          · rw [← z]; exact ⟨Nat.le_refl _, fun y => absurd y (Nat.lt_irrefl _)⟩
          · have := (a4 j (by omega) j2 j3).1
            exact ⟨by omega, fun y => absurd y (by omega)⟩
        · by_cases l2 : nI (v (N - (n + 1))) < nI (v i)
          · rw [if_pos l2]
          · rw [if_neg l2]
            have l3 : ¬ v (N - (n + 1)) < v i := fun z => l2 ((nI_ltI (by omega) (by omega)).mpr z)
            rw [show v i = v (N - (n + 1)) by omega]
      · have l1 : ¬ nI (v (N - (n + 1))) ≤ nI (v i) := by rw [nI_leI (by omega) (by omega)]; exact q
        have l2 : ¬ nI (v (N - (n + 1))) < nI (v i) := fun z => q (by have := (nI_ltI (by omega) (by omega)).mp z; omega)
        rw [if_neg l1, if_neg l2]
        refine Or.inr ⟨i, ⟨⟨by omega, a2⟩, a3, fun j j1 j2 j3 => ?_⟩, rfl⟩
        rcases Nat.eq_or_lt_of_le j1 with z | z
        · rw [← z]; exact ⟨by omega, fun _ => by omega⟩
        · exact a4 j (by omega) j2 j3
theorem rk_st {I : mI} {z : Nat} {w s : Nat → Int32} {N G hb k n : Nat} (hk : k ≤ n) : ∀ m, rkH I z w s N G hb (n + m) (z + 1) k = rkH I z w s N G hb n (z + 1) k ∧ rkH I z w s N G hb (n + m) (z + 2) k = rkH I z w s N G hb n (z + 2) k
  | 0 => ⟨rfl, rfl⟩
  | m + 1 => by
    rw [← Nat.add_assoc, rkH_s]
    split
    · rw [sJ_ne (Or.inl (by omega)), sJ_ne (Or.inr (by omega)), sJ_ne (Or.inr (by omega)), sJ_ne (Or.inl (by omega))]
      exact rk_st hk m
    · exact rk_st hk m
theorem orF_cg {w s : Nat → Int32} {N G b : Nat} {T U : Nat → Int32} (h : ∀ k, k < b → T k = U k) (n : Nat) : orF w s N G T b n = orF w s N G U b n := by
  unfold orF
  refine nFold_cg (fun i q _ => ?_)
  unfold orS
  by_cases e : clr b i = b
  · rw [if_pos (Or.inl e), if_pos (Or.inl e)]
  · rw [h (clr b i) (by have := clr_le b i; omega)]
theorem rk_0 (I : mI) (z : Nat) (w s : Nat → Int32) (N G hb : Nat) : rkH I z w s N G hb 63 (z + 1) 0 = nI 0 ∧ rkH I z w s N G hb 63 (z + 2) 0 = -4 := by
  have h := rk_st (I := I) (z := z) (w := w) (s := s) (N := N) (G := G) (hb := hb) (Nat.le_refl 0) 63
  rw [show (0 + 63) = 63 from rfl] at h
  rw [h.1, h.2]
  constructor
  · show sJ (sJ I (z + 1) 0 (nI 0)) (z + 2) 0 (-4) (z + 1) 0 = _
    rw [sJ_ne (Or.inl (by omega)), sJ_eq]
  · show sJ (sJ I (z + 1) 0 (nI 0)) (z + 2) 0 (-4) (z + 2) 0 = _
    rw [sJ_eq]
theorem rk_b {I : mI} {z : Nat} {w s : Nat → Int32} {N G hb b : Nat} (h0 : 0 < b) (h63 : b ≤ 63) (hd : dif b hb = 0) : rkH I z w s N G hb 63 (z + 1) b = (orF w s N G (rkH I z w s N G hb 63 (z + 1)) b N).1 ∧ rkH I z w s N G hb 63 (z + 2) b = (orF w s N G (rkH I z w s N G hb 63 (z + 1)) b N).2 := by
  obtain ⟨n, rfl⟩ : ∃ n, b = n + 1 := ⟨b - 1, by omega⟩
  have e : 63 = (n + 1) + (62 - n) := by omega
  have h := rk_st (I := I) (z := z) (w := w) (s := s) (N := N) (G := G) (hb := hb) (Nat.le_refl (n + 1)) (62 - n)
  rw [← e] at h
  have hc : orF w s N G (rkH I z w s N G hb 63 (z + 1)) (n + 1) N = orF w s N G (rkH I z w s N G hb n (z + 1)) (n + 1) N := orF_cg (fun k hk => by
    have h2 := rk_st (I := I) (z := z) (w := w) (s := s) (N := N) (G := G) (hb := hb) (n := n) (k := k) (by omega) (63 - n)
    rw [show n + (63 - n) = 63 by omega] at h2
    exact h2.1) N
  rw [h.1, h.2, hc, rkH_s, if_pos hd]
  refine ⟨?_, ?_⟩
  · rw [sJ_ne (Or.inl (by omega)), sJ_eq]
  · rw [sJ_eq]
theorem rM_st {I : mI} {w s : Nat → Int32} {N G k n : Nat} (hk : k < n) : ∀ m, rM I w s N G (n + m) 104 k = rM I w s N G n 104 k ∧ rM I w s N G (n + m) 105 k = rM I w s N G n 105 k
  | 0 => ⟨rfl, rfl⟩
  | m + 1 => by
    rw [← Nat.add_assoc, rM_s, HJ_ne (by omega), HJ_n5 (by omega)]
    exact rM_st hk m
theorem omF_cg {w s : Nat → Int32} {N G b : Nat} {T U : Nat → Int32} (h : ∀ k, k < b → T k = U k) (n : Nat) : omF w s N G T b n = omF w s N G U b n := by
  unfold omF
  refine nFold_cg (fun i q _ => ?_)
  cases e : b.testBit (N - (i + 1)) with
  | false => rw [omS_f (omC_2 e), omS_f (omC_2 e)]
  | true =>
    unfold omS omC omP
    rw [h (clr b (N - (i + 1))) (by have := clr_le b (N - (i + 1)); have := clr_ne e; omega)]
theorem rM_b {I : mI} {w s : Nat → Int32} {N G b : Nat} (h64 : b < 64) : rM I w s N G 64 104 b = (omF w s N G (rM I w s N G 64 104) b N).1 ∧ rM I w s N G 64 105 b = (omF w s N G (rM I w s N G 64 104) b N).2 := by
  have e : 64 = (b + 1) + (63 - b) := by omega
  have h := rM_st (I := I) (w := w) (s := s) (N := N) (G := G) (Nat.lt_succ_self b) (63 - b)
  rw [← e] at h
  have hc : omF w s N G (rM I w s N G 64 104) b N = omF w s N G (rM I w s N G b 104) b N := omF_cg (fun k hk => by
    have h2 := rM_st (I := I) (w := w) (s := s) (N := N) (G := G) (n := b) (k := k) (by omega) (64 - b)
    rw [show b + (64 - b) = 64 by omega] at h2
    exact h2.1) N
  rw [h.1, h.2, hc, rM_s, HJ_1, HJ_2]
  exact ⟨rfl, rfl⟩
theorem omF_w {w s : Nat → Int32} {N G b : Nat} {T : Nat → Int32} (h6 : N ≤ 6) : ∀ n, n ≤ N → (omF w s N G T b n).2 = -4 ∨ ∃ i, i < 6 ∧ (omF w s N G T b n).2 = nI i
  | 0, _ => Or.inl rfl
  | n + 1, hn => by
    have ih := omF_w (w := w) (s := s) (G := G) (b := b) (T := T) h6 n (by omega)
    rw [omF_s]
    unfold omS
    split
    · dsimp only
      split
      · exact Or.inr ⟨N - (n + 1), by omega, rfl⟩
      · exact ih
    · exact ih
