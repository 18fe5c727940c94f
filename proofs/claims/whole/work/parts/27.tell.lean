/-! ===== the class: a text is told to the draft ===== -/
def FamD (S : mSh) (I : mI) (R : mR) (f : Nat) (w : Nat → Int32) (N G : Nat) : Prop := Fam S I R f w N G ∧ ∀ k, k < 36 → I (f + 4) k = w (53 + k)
theorem FamD.fr {S : mSh} {I I1 : mI} {R : mR} {f : Nat} {w : Nat → Int32} {N G : Nat} (q : FamD S I R f w N G) (hi : ∀ o, f ≤ o → o ≤ f + 9 → I1 o = I o) : FamD S I1 R f w N G := by
  refine ⟨q.1.fr hi, ?_⟩
  rw [hi (f + 4) (by omega) (by omega)]; exact q.2
theorem fam_re {S : mSh} {I I1 : mI} {R : mR} {f : Nat} {w w1 : Nat → Int32} {N G N1 G1 : Nat} (q : Fam S I R f w N G) (n6 : N1 ≤ 6) (g8 : G1 ≤ 8) (a0 : I1 f 0 = nI N1) (a1 : I1 f 1 = nI G1) (a2 : I1 f 2 = w1 2) (a3 : ∀ i, i < N1 → I1 (f + 1) i = w1 (3 + i)) (a4 : ∀ i, i < N1 → I1 (f + 2) i = w1 (9 + i)) (a5 : ∀ i, i < N1 → I1 (f + 3) i = w1 (15 + i)) (a6 : ∀ k, k < 36 → I1 (f + 4) k = w1 (53 + k)) (a7 : ∀ g, g < G1 → I1 (f + 5) g = w1 (21 + g)) (a8 : ∀ g, g < G1 → I1 (f + 6) g = w1 (29 + g)) (a9 : ∀ g, g < G1 → I1 (f + 7) g = w1 (37 + g)) (a10 : ∀ g, g < G1 → I1 (f + 8) g = w1 (45 + g)) (a11 : ∀ g, g < G1 → I1 (f + 9) g = cnt w1 g) : FamD S I1 R f w1 N1 G1 :=
  ⟨⟨q.sg, q.s3, q.s4, q.s5, q.s6, q.s7, q.s8, q.s9, q.s10, q.s11, q.r3, q.r4, q.r5, q.r6, q.r7, q.r8, q.r9, q.r10, q.r11, n6, g8, a0, a1, a2, a3, a4, a5, fun i j hi hj => a6 (6 * i + j) (by omega), a7, a8, a9, a10, a11⟩, a6⟩
def bgW : Nat → Int32 := fun k => if k = 2 then nI 10 else nI 0
def bgF (I : mI) (f : Nat) : mI := fil (sJ (sJ (sJ I f 0 (nI 0)) f 1 (nI 0)) f 2 (nI 10)) (f + 4) 36 (nI 0)
theorem bgF_o {I : mI} {f o : Nat} (h : o < f ∨ f + 9 < o) : bgF I f o = I o := by
  unfold bgF
  rw [fil_o (by omega), sJ_o (by omega), sJ_o (by omega), sJ_o (by omega)]
theorem FamD.bg {S : mSh} {I : mI} {R : mR} {f : Nat} {w : Nat → Int32} {N G : Nat} (q : FamD S I R f w N G) : FamD S (bgF I f) R f bgW 0 0 := by
  have h0 : bgF I f f = fun b => if b = 2 then nI 10 else if b = 1 then nI 0 else if b = 0 then nI 0 else I f b := by
    unfold bgF
    rw [fil_o (by omega)]
    funext b
    simp [sJ]
  refine fam_re q.1 (by decide) (by decide) ?_ ?_ ?_ (fun i h => absurd h (Nat.not_lt_zero _)) (fun i h => absurd h (Nat.not_lt_zero _)) (fun i h => absurd h (Nat.not_lt_zero _)) (fun k hk => ?_) (fun i h => absurd h (Nat.not_lt_zero _)) (fun i h => absurd h (Nat.not_lt_zero _)) (fun i h => absurd h (Nat.not_lt_zero _)) (fun i h => absurd h (Nat.not_lt_zero _)) (fun i h => absurd h (Nat.not_lt_zero _))
  · rw [h0]; rfl
  · rw [h0]; rfl
  · rw [h0]; rfl
  · unfold bgF bgW
    rw [fil_q hk, if_neg (by omega)]
def perW (w : Nat → Int32) (N a b c : Nat) : Nat → Int32 := up (up (up (up w (3 + N) (nI a)) (9 + N) (nI b)) (15 + N) (nI c)) 0 (nI (N + 1))
def perI (I : mI) (f N a b c : Nat) : mI := sJ (sJ (sJ (sJ I (f + 1) N (nI a)) (f + 2) N (nI b)) (f + 3) N (nI c)) f 0 (nI (N + 1))
def gooW (w : Nat → Int32) (G a b c e : Nat) : Nat → Int32 := up (up (up (up (up w (21 + G) (nI a)) (29 + G) (nI b)) (37 + G) (nI c)) (45 + G) (nI e)) 1 (nI (G + 1))
def gooI (I : mI) (f G a b c e : Nat) : mI := sJ (sJ (sJ (sJ (sJ (sJ I (f + 5) G (nI a)) (f + 6) G (nI b)) (f + 7) G (nI c)) (f + 8) G (nI e)) (f + 9) G (cntv (nI a) (nI c))) f 1 (nI (G + 1))
theorem perI_o {I : mI} {f N a b c o : Nat} (h : o < f ∨ f + 9 < o) : perI I f N a b c o = I o := by
  unfold perI
  rw [sJ_o (by omega), sJ_o (by omega), sJ_o (by omega), sJ_o (by omega)]
theorem gooI_o {I : mI} {f G a b c e o : Nat} (h : o < f ∨ f + 9 < o) : gooI I f G a b c e o = I o := by
  unfold gooI
  rw [sJ_o (by omega), sJ_o (by omega), sJ_o (by omega), sJ_o (by omega), sJ_o (by omega), sJ_o (by omega)]
theorem FamD.per {S : mSh} {I : mI} {R : mR} {f : Nat} {w : Nat → Int32} {N G a b c : Nat} (q : FamD S I R f w N G) (h : N < 6) : FamD S (perI I f N a b c) R f (perW w N a b c) (N + 1) G := by
  have hG8 := q.1.G8
  refine fam_re q.1 (by omega) q.1.G8 ?_ ?_ ?_ (fun i hi => ?_) (fun i hi => ?_) (fun i hi => ?_) (fun k hk => ?_) (fun g hg => ?_) (fun g hg => ?_) (fun g hg => ?_) (fun g hg => ?_) (fun g hg => ?_) <;> simp only [perI, perW, sJ, up, cnt]
  · (repeat first | rw [if_neg (by omega)] | rw [if_pos (by omega)] | rw [if_pos ⟨trivial, by first | trivial | omega⟩])
  · (repeat first | rw [if_neg (by omega)] | rw [if_pos (by omega)] | rw [if_pos ⟨trivial, by first | trivial | omega⟩]); exact q.1.hG
  · (repeat first | rw [if_neg (by omega)] | rw [if_pos (by omega)] | rw [if_pos ⟨trivial, by first | trivial | omega⟩]); exact q.1.hT
  · rcases Nat.lt_succ_iff_lt_or_eq.mp hi with h1 | rfl
    · (repeat first | rw [if_neg (by omega)] | rw [if_pos (by omega)] | rw [if_pos ⟨trivial, by first | trivial | omega⟩]); exact (q.1.kind i (by omega))
    · (repeat first | rw [if_neg (by omega)] | rw [if_pos (by omega)] | rw [if_pos ⟨trivial, by first | trivial | omega⟩])
  · rcases Nat.lt_succ_iff_lt_or_eq.mp hi with h1 | rfl
    · (repeat first | rw [if_neg (by omega)] | rw [if_pos (by omega)] | rw [if_pos ⟨trivial, by first | trivial | omega⟩]); exact (q.1.purse i (by omega))
    · (repeat first | rw [if_neg (by omega)] | rw [if_pos (by omega)] | rw [if_pos ⟨trivial, by first | trivial | omega⟩])
  · rcases Nat.lt_succ_iff_lt_or_eq.mp hi with h1 | rfl
    · (repeat first | rw [if_neg (by omega)] | rw [if_pos (by omega)] | rw [if_pos ⟨trivial, by first | trivial | omega⟩]); exact (q.1.strength i (by omega))
    · (repeat first | rw [if_neg (by omega)] | rw [if_pos (by omega)] | rw [if_pos ⟨trivial, by first | trivial | omega⟩])
  · (repeat first | rw [if_neg (by omega)] | rw [if_pos (by omega)] | rw [if_pos ⟨trivial, by first | trivial | omega⟩]); exact (q.2 k hk)
  · (repeat first | rw [if_neg (by omega)] | rw [if_pos (by omega)] | rw [if_pos ⟨trivial, by first | trivial | omega⟩]); exact (q.1.sort g hg)
  · (repeat first | rw [if_neg (by omega)] | rw [if_pos (by omega)] | rw [if_pos ⟨trivial, by first | trivial | omega⟩]); exact (q.1.own g hg)
  · (repeat first | rw [if_neg (by omega)] | rw [if_pos (by omega)] | rw [if_pos ⟨trivial, by first | trivial | omega⟩]); exact (q.1.worth g hg)
  · (repeat first | rw [if_neg (by omega)] | rw [if_pos (by omega)] | rw [if_pos ⟨trivial, by first | trivial | omega⟩]); exact (q.1.heavy g hg)
  · (repeat first | rw [if_neg (by omega)] | rw [if_pos (by omega)] | rw [if_pos ⟨trivial, by first | trivial | omega⟩]); exact (q.1.cnt g hg)
theorem FamD.goo {S : mSh} {I : mI} {R : mR} {f : Nat} {w : Nat → Int32} {N G a b c e : Nat} (q : FamD S I R f w N G) (h : G < 8) : FamD S (gooI I f G a b c e) R f (gooW w G a b c e) N (G + 1) := by
  have hN6 := q.1.N6
  refine fam_re q.1 q.1.N6 (by omega) ?_ ?_ ?_ (fun i hi => ?_) (fun i hi => ?_) (fun i hi => ?_) (fun k hk => ?_) (fun g hg => ?_) (fun g hg => ?_) (fun g hg => ?_) (fun g hg => ?_) (fun g hg => ?_) <;> simp only [gooI, gooW, sJ, up, cnt]
  · (repeat first | rw [if_neg (by omega)] | rw [if_pos (by omega)] | rw [if_pos ⟨trivial, by first | trivial | omega⟩]); exact q.1.hN
  · (repeat first | rw [if_neg (by omega)] | rw [if_pos (by omega)] | rw [if_pos ⟨trivial, by first | trivial | omega⟩])
  · (repeat first | rw [if_neg (by omega)] | rw [if_pos (by omega)] | rw [if_pos ⟨trivial, by first | trivial | omega⟩]); exact q.1.hT
  · (repeat first | rw [if_neg (by omega)] | rw [if_pos (by omega)] | rw [if_pos ⟨trivial, by first | trivial | omega⟩]); exact (q.1.kind i (by omega))
  · (repeat first | rw [if_neg (by omega)] | rw [if_pos (by omega)] | rw [if_pos ⟨trivial, by first | trivial | omega⟩]); exact (q.1.purse i (by omega))
  · (repeat first | rw [if_neg (by omega)] | rw [if_pos (by omega)] | rw [if_pos ⟨trivial, by first | trivial | omega⟩]); exact (q.1.strength i (by omega))
  · (repeat first | rw [if_neg (by omega)] | rw [if_pos (by omega)] | rw [if_pos ⟨trivial, by first | trivial | omega⟩]); exact (q.2 k hk)
  · rcases Nat.lt_succ_iff_lt_or_eq.mp hg with h1 | rfl
    · (repeat first | rw [if_neg (by omega)] | rw [if_pos (by omega)] | rw [if_pos ⟨trivial, by first | trivial | omega⟩]); exact (q.1.sort g (by omega))
    · (repeat first | rw [if_neg (by omega)] | rw [if_pos (by omega)] | rw [if_pos ⟨trivial, by first | trivial | omega⟩])
  · rcases Nat.lt_succ_iff_lt_or_eq.mp hg with h1 | rfl
    · (repeat first | rw [if_neg (by omega)] | rw [if_pos (by omega)] | rw [if_pos ⟨trivial, by first | trivial | omega⟩]); exact (q.1.own g (by omega))
    · (repeat first | rw [if_neg (by omega)] | rw [if_pos (by omega)] | rw [if_pos ⟨trivial, by first | trivial | omega⟩])
  · rcases Nat.lt_succ_iff_lt_or_eq.mp hg with h1 | rfl
    · (repeat first | rw [if_neg (by omega)] | rw [if_pos (by omega)] | rw [if_pos ⟨trivial, by first | trivial | omega⟩]); exact (q.1.worth g (by omega))
    · (repeat first | rw [if_neg (by omega)] | rw [if_pos (by omega)] | rw [if_pos ⟨trivial, by first | trivial | omega⟩])
  · rcases Nat.lt_succ_iff_lt_or_eq.mp hg with h1 | rfl
    · (repeat first | rw [if_neg (by omega)] | rw [if_pos (by omega)] | rw [if_pos ⟨trivial, by first | trivial | omega⟩]); exact (q.1.heavy g (by omega))
    · (repeat first | rw [if_neg (by omega)] | rw [if_pos (by omega)] | rw [if_pos ⟨trivial, by first | trivial | omega⟩])
  · rcases Nat.lt_succ_iff_lt_or_eq.mp hg with h1 | rfl
    · (repeat first | rw [if_neg (by omega)] | rw [if_pos (by omega)] | rw [if_pos ⟨trivial, by first | trivial | omega⟩]); exact (q.1.cnt g (by omega))
    · (repeat first | rw [if_neg (by omega)] | rw [if_pos (by omega)] | rw [if_pos ⟨trivial, by first | trivial | omega⟩])
theorem FamD.lov {S : mSh} {I : mI} {R : mR} {f : Nat} {w : Nat → Int32} {N G k0 : Nat} {v : Int32} (q : FamD S I R f w N G) (h : k0 < 36) : FamD S (sJ I (f + 4) k0 v) R f (up w (53 + k0) v) N G := by
  have hN6 := q.1.N6
  have hG8 := q.1.G8
  refine fam_re q.1 q.1.N6 q.1.G8 ?_ ?_ ?_ (fun i hi => ?_) (fun i hi => ?_) (fun i hi => ?_) (fun k hk => ?_) (fun g hg => ?_) (fun g hg => ?_) (fun g hg => ?_) (fun g hg => ?_) (fun g hg => ?_) <;> simp only [sJ, up, cnt]
  · (repeat first | rw [if_neg (by omega)] | rw [if_pos (by omega)] | rw [if_pos ⟨trivial, by first | trivial | omega⟩]); exact q.1.hN
  · (repeat first | rw [if_neg (by omega)] | rw [if_pos (by omega)] | rw [if_pos ⟨trivial, by first | trivial | omega⟩]); exact q.1.hG
  · (repeat first | rw [if_neg (by omega)] | rw [if_pos (by omega)] | rw [if_pos ⟨trivial, by first | trivial | omega⟩]); exact q.1.hT
  · (repeat first | rw [if_neg (by omega)] | rw [if_pos (by omega)] | rw [if_pos ⟨trivial, by first | trivial | omega⟩]); exact (q.1.kind i (by omega))
  · (repeat first | rw [if_neg (by omega)] | rw [if_pos (by omega)] | rw [if_pos ⟨trivial, by first | trivial | omega⟩]); exact (q.1.purse i (by omega))
  · (repeat first | rw [if_neg (by omega)] | rw [if_pos (by omega)] | rw [if_pos ⟨trivial, by first | trivial | omega⟩]); exact (q.1.strength i (by omega))
  · by_cases h1 : k = k0
    · subst h1; (repeat first | rw [if_neg (by omega)] | rw [if_pos (by omega)] | rw [if_pos ⟨trivial, by first | trivial | omega⟩])
    · (repeat first | rw [if_neg (by omega)] | rw [if_pos (by omega)] | rw [if_pos ⟨trivial, by first | trivial | omega⟩]); exact (q.2 k hk)
  · (repeat first | rw [if_neg (by omega)] | rw [if_pos (by omega)] | rw [if_pos ⟨trivial, by first | trivial | omega⟩]); exact (q.1.sort g (by omega))
  · (repeat first | rw [if_neg (by omega)] | rw [if_pos (by omega)] | rw [if_pos ⟨trivial, by first | trivial | omega⟩]); exact (q.1.own g (by omega))
  · (repeat first | rw [if_neg (by omega)] | rw [if_pos (by omega)] | rw [if_pos ⟨trivial, by first | trivial | omega⟩]); exact (q.1.worth g (by omega))
  · (repeat first | rw [if_neg (by omega)] | rw [if_pos (by omega)] | rw [if_pos ⟨trivial, by first | trivial | omega⟩]); exact (q.1.heavy g (by omega))
  · (repeat first | rw [if_neg (by omega)] | rw [if_pos (by omega)] | rw [if_pos ⟨trivial, by first | trivial | omega⟩]); exact (q.1.cnt g (by omega))
theorem FamD.ten {S : mSh} {I : mI} {R : mR} {f : Nat} {w : Nat → Int32} {N G : Nat} {v : Int32} (q : FamD S I R f w N G) : FamD S (sJ I f 2 v) R f (up w 2 v) N G := by
  have hN6 := q.1.N6
  have hG8 := q.1.G8
  refine fam_re q.1 q.1.N6 q.1.G8 ?_ ?_ ?_ (fun i hi => ?_) (fun i hi => ?_) (fun i hi => ?_) (fun k hk => ?_) (fun g hg => ?_) (fun g hg => ?_) (fun g hg => ?_) (fun g hg => ?_) (fun g hg => ?_) <;> simp only [sJ, up, cnt]
  · (repeat first | rw [if_neg (by omega)] | rw [if_pos (by omega)] | rw [if_pos ⟨trivial, by first | trivial | omega⟩]); exact q.1.hN
  · (repeat first | rw [if_neg (by omega)] | rw [if_pos (by omega)] | rw [if_pos ⟨trivial, by first | trivial | omega⟩]); exact q.1.hG
  · simp
  · (repeat first | rw [if_neg (by omega)] | rw [if_pos (by omega)] | rw [if_pos ⟨trivial, by first | trivial | omega⟩]); exact (q.1.kind i (by omega))
  · (repeat first | rw [if_neg (by omega)] | rw [if_pos (by omega)] | rw [if_pos ⟨trivial, by first | trivial | omega⟩]); exact (q.1.purse i (by omega))
  · (repeat first | rw [if_neg (by omega)] | rw [if_pos (by omega)] | rw [if_pos ⟨trivial, by first | trivial | omega⟩]); exact (q.1.strength i (by omega))
  · (repeat first | rw [if_neg (by omega)] | rw [if_pos (by omega)] | rw [if_pos ⟨trivial, by first | trivial | omega⟩]); exact (q.2 k hk)
  · (repeat first | rw [if_neg (by omega)] | rw [if_pos (by omega)] | rw [if_pos ⟨trivial, by first | trivial | omega⟩]); exact (q.1.sort g (by omega))
  · (repeat first | rw [if_neg (by omega)] | rw [if_pos (by omega)] | rw [if_pos ⟨trivial, by first | trivial | omega⟩]); exact (q.1.own g (by omega))
  · (repeat first | rw [if_neg (by omega)] | rw [if_pos (by omega)] | rw [if_pos ⟨trivial, by first | trivial | omega⟩]); exact (q.1.worth g (by omega))
  · (repeat first | rw [if_neg (by omega)] | rw [if_pos (by omega)] | rw [if_pos ⟨trivial, by first | trivial | omega⟩]); exact (q.1.heavy g (by omega))
  · (repeat first | rw [if_neg (by omega)] | rw [if_pos (by omega)] | rw [if_pos ⟨trivial, by first | trivial | omega⟩]); exact (q.1.cnt g (by omega))
set_option maxHeartbeats 4000000 in
set_option maxRecDepth 100000 in
theorem v_X1_empty (X : mCx) (d : Nat) {S : mSh} {I : mI} {R : mR} {w : Nat → Int32} {f N G : Nat} (hf : Fam S I R f w N G)  : CC X (d + 2) M_X1_empty [.ref f] S (I, R) (none) S (bgF I f, R) := by
  refine CC.of2 (L := [.ref f]) p_X1 (Nat.le_of_ble_eq_true rfl) rfl trivial (List.prefix_refl S) ?_
  refine r_aload_n dX1_empty_0 rfl ?_
  refine r_iconst dX1_empty_1 ic_0 ?_
  refine g_putI dX1_empty_2 f_X1_9 (Fam.sg (by assumption)) rfl ?_
  refine r_aload_n dX1_empty_5 rfl ?_
  refine r_iconst dX1_empty_6 ic_0 ?_
  refine g_putI dX1_empty_7 f_X1_15 (Fam.sg (by assumption)) rfl ?_
  refine r_aload_n dX1_empty_10 rfl ?_
  refine r_bipush dX1_empty_11 bp_10 ?_
  refine g_putI dX1_empty_13 f_X1_18 (Fam.sg (by assumption)) rfl ?_
  refine r_aload_n dX1_empty_16 rfl ?_
  refine g_getR dX1_empty_17 f_X1_31 (Fam.sg (by assumption)) rfl (Fam.r6 (by assumption)) ?_
  refine r_iconst dX1_empty_20 ic_0 ?_
  refine r_S2 dX1_empty_21 l_X1_49 k_X7_fill s_X7_fill (Nat.le_of_ble_eq_true rfl) (v_X7_fill X _ hf.s6 (by decide)) (List.prefix_refl S) ?_
  exact g_vret dX1_empty_24 rfl rfl

set_option maxHeartbeats 4000000 in
set_option maxRecDepth 100000 in
theorem v_X1_counted (X : mCx) (d : Nat) {S : mSh} {I : mI} {R : mR} {a : Nat} {y : Int32} : CC X (d + 1) M_X1_counted [.int (nI a), .int y] S (I, R) (some (.int (cntv (nI a) y))) S (I, R) := by
  refine CC.of2 (L := [.int (nI a), .int y]) p_X1 (Nat.le_of_ble_eq_true rfl) rfl rfl (List.prefix_refl S) ?_
  refine r_iload_n dX1_counted_0 rfl ?_
  by_cases k1 : nI a = nI 1
  · refine g_top k1 ?_
    refine r_tableIn (tgt := 28) dX1_counted_1 (by decide) (by decide) (off := 27) rfl (by decide) ?_
    refine r_iload_n dX1_counted_28 rfl ?_
    refine r_ineg dX1_counted_29 ?_
    exact g_iret dX1_counted_30 (by unfold cntv; rw [if_pos k1]) rfl
  by_cases k2 : nI a = nI 2
  · refine g_top k2 ?_
    refine r_tableIn (tgt := 31) dX1_counted_1 (by decide) (by decide) (off := 30) rfl (by decide) ?_
    refine r_iconst dX1_counted_31 ic_3 ?_
    refine r_iload_n dX1_counted_32 rfl ?_
    refine r_imul dX1_counted_33 ?_
    exact g_iret dX1_counted_34 (by unfold cntv; rw [if_neg k1, if_pos k2]) rfl
  by_cases k3 : nI a = nI 3
  · refine g_top k3 ?_
    refine r_tableIn (tgt := 35) dX1_counted_1 (by decide) (by decide) (off := 34) rfl (by decide) ?_
    refine r_iload_n dX1_counted_35 rfl ?_
    refine r_iconst dX1_counted_36 ic_2 ?_
    refine r_idiv dX1_counted_37 (by decide) ?_
    exact g_iret dX1_counted_38 (by unfold cntv; rw [if_neg k1, if_neg k2, if_pos k3]) rfl
  refine r_tableOut (tgt := 39) dX1_counted_1 (sw_outR 1 3 (by decide) (fun k h1 h2 e => by rcases (show k = 1 ∨ k = 2 ∨ k = 3 by omega) with rfl | rfl | rfl <;> first | exact k1 e | exact k2 e | exact k3 e)) (by decide) ?_
  refine r_iload_n dX1_counted_39 rfl ?_
  exact g_iret dX1_counted_40 (by unfold cntv; rw [if_neg k1, if_neg k2, if_neg k3]) rfl

set_option maxHeartbeats 4000000 in
set_option maxRecDepth 100000 in
theorem v_X1_addPerson_t (X : mCx) (d : Nat) {S : mSh} {I : mI} {R : mR} {w : Nat → Int32} {f N G a b c : Nat} (hf : Fam S I R f w N G) (ha : a < 100) (hb : b < 100) (hc : c < 100) (h : N < 6 ∧ a ≤ 4 ∧ c ≤ 20) : CC X (d + 2) M_X1_addPerson [.ref f, .int (nI a), .int (nI b), .int (nI c)] S (I, R) (some (.int (bI true))) S (perI I f N a b c, R) := by
  have hN6 := hf.N6
  refine CC.of2 (L := [.ref f, .int (nI a), .int (nI b), .int (nI c)]) p_X1 (Nat.le_of_ble_eq_true rfl) rfl (mRok_b _) (List.prefix_refl S) ?_
  refine r_aload_n dX1_addPerson_0 rfl ?_
  refine g_getI dX1_addPerson_1 f_X1_9 (Fam.sg (by assumption)) rfl (show _ = nI N by first | exact hf.hN | (simp only [sJ]; (repeat rw [if_neg (by omega)]); exact hf.hN)) ?_
  refine r_bipush dX1_addPerson_4 bp_6 ?_
  refine n_icmp_ge (tgt := 20) dX1_addPerson_6 (by decide) (by omega) (by omega) (fun c6 => absurd c6 (by omega)) (fun c6 => ?_)
  refine r_iload_n dX1_addPerson_9 rfl ?_
  refine r_iconst dX1_addPerson_10 ic_4 ?_
  refine n_icmp_gt (tgt := 20) dX1_addPerson_11 (by decide) (by omega) (by omega) (fun c11 => absurd c11 (by omega)) (fun c11 => ?_)
  refine r_iload_n dX1_addPerson_14 rfl ?_
  refine r_bipush dX1_addPerson_15 bp_20 ?_
  refine n_icmp_le (tgt := 22) dX1_addPerson_17 (by decide) (by omega) (by omega) (fun c17 => ?_) (fun c17 => absurd c17 (by omega))
  refine r_aload_n dX1_addPerson_22 rfl ?_
  refine g_getR dX1_addPerson_23 f_X1_21 (Fam.sg (by assumption)) rfl (Fam.r3 (by assumption)) ?_
  refine r_aload_n dX1_addPerson_26 rfl ?_
  refine g_getI dX1_addPerson_27 f_X1_9 (Fam.sg (by assumption)) rfl (show _ = nI N by first | exact hf.hN | (simp only [sJ]; (repeat rw [if_neg (by omega)]); exact hf.hN)) ?_
  refine r_iload_n dX1_addPerson_30 rfl ?_
  refine r_S3 dX1_addPerson_31 l_X1_55 k_X7_put s_X7_put (Nat.le_of_ble_eq_true rfl) (v_X7_put X _ (Fam.s3 (by assumption)) (by omega) (by decide)) (List.prefix_refl S) ?_
  refine r_aload_n dX1_addPerson_34 rfl ?_
  refine g_getR dX1_addPerson_35 f_X1_25 (Fam.sg (by assumption)) rfl (Fam.r4 (by assumption)) ?_
  refine r_aload_n dX1_addPerson_38 rfl ?_
  refine g_getI dX1_addPerson_39 f_X1_9 (Fam.sg (by assumption)) rfl (show _ = nI N by first | exact hf.hN | (simp only [sJ]; (repeat rw [if_neg (by omega)]); exact hf.hN)) ?_
  refine r_iload_n dX1_addPerson_42 rfl ?_
  refine r_S3 dX1_addPerson_43 l_X1_55 k_X7_put s_X7_put (Nat.le_of_ble_eq_true rfl) (v_X7_put X _ (Fam.s4 (by assumption)) (by omega) (by decide)) (List.prefix_refl S) ?_
  refine r_aload_n dX1_addPerson_46 rfl ?_
  refine g_getR dX1_addPerson_47 f_X1_28 (Fam.sg (by assumption)) rfl (Fam.r5 (by assumption)) ?_
  refine r_aload_n dX1_addPerson_50 rfl ?_
  refine g_getI dX1_addPerson_51 f_X1_9 (Fam.sg (by assumption)) rfl (show _ = nI N by first | exact hf.hN | (simp only [sJ]; (repeat rw [if_neg (by omega)]); exact hf.hN)) ?_
  refine r_iload_n dX1_addPerson_54 rfl ?_
  refine r_S3 dX1_addPerson_55 l_X1_55 k_X7_put s_X7_put (Nat.le_of_ble_eq_true rfl) (v_X7_put X _ (Fam.s5 (by assumption)) (by omega) (by decide)) (List.prefix_refl S) ?_
  refine r_aload_n dX1_addPerson_58 rfl ?_
  refine r_dup dX1_addPerson_59 rfl ?_
  refine g_getI dX1_addPerson_60 f_X1_9 (Fam.sg (by assumption)) rfl (show _ = nI N by first | exact hf.hN | (simp only [sJ]; (repeat rw [if_neg (by omega)]); exact hf.hN)) ?_
  refine r_iconst dX1_addPerson_63 ic_1 ?_
  refine n_iadd dX1_addPerson_64 ?_
  refine g_putI dX1_addPerson_65 f_X1_9 (Fam.sg (by assumption)) rfl ?_
  refine r_iconst dX1_addPerson_68 ic_1 ?_
  exact g_iret dX1_addPerson_69 (rB1 rfl) rfl

set_option maxHeartbeats 4000000 in
set_option maxRecDepth 100000 in
theorem v_X1_addPerson_f (X : mCx) (d : Nat) {S : mSh} {I : mI} {R : mR} {w : Nat → Int32} {f N G a b c : Nat} (hf : Fam S I R f w N G) (ha : a < 100) (hb : b < 100) (hc : c < 100) (h : ¬ (N < 6 ∧ a ≤ 4 ∧ c ≤ 20)) : CC X (d + 1) M_X1_addPerson [.ref f, .int (nI a), .int (nI b), .int (nI c)] S (I, R) (some (.int (bI false))) S (I, R) := by
  have hN6 := hf.N6
  refine CC.of2 (L := [.ref f, .int (nI a), .int (nI b), .int (nI c)]) p_X1 (Nat.le_of_ble_eq_true rfl) rfl (mRok_b _) (List.prefix_refl S) ?_
  refine r_aload_n dX1_addPerson_0 rfl ?_
  refine g_getI dX1_addPerson_1 f_X1_9 (Fam.sg (by assumption)) rfl (show _ = nI N by first | exact hf.hN | (simp only [sJ]; (repeat rw [if_neg (by omega)]); exact hf.hN)) ?_
  refine r_bipush dX1_addPerson_4 bp_6 ?_
  refine n_icmp_ge (tgt := 20) dX1_addPerson_6 (by decide) (by omega) (by omega) (fun c6 => ?_) (fun c6 => ?_)
  · skip
    refine r_iconst dX1_addPerson_20 ic_0 ?_
    exact g_iret dX1_addPerson_21 (rB0 rfl) rfl
  · skip
    refine r_iload_n dX1_addPerson_9 rfl ?_
    refine r_iconst dX1_addPerson_10 ic_4 ?_
    refine n_icmp_gt (tgt := 20) dX1_addPerson_11 (by decide) (by omega) (by omega) (fun c11 => ?_) (fun c11 => ?_)
    · skip
      refine r_iconst dX1_addPerson_20 ic_0 ?_
      exact g_iret dX1_addPerson_21 (rB0 rfl) rfl
    · skip
      refine r_iload_n dX1_addPerson_14 rfl ?_
      refine r_bipush dX1_addPerson_15 bp_20 ?_
      refine n_icmp_le (tgt := 22) dX1_addPerson_17 (by decide) (by omega) (by omega) (fun c17 => ?_) (fun c17 => ?_)
      · skip
        exfalso; omega
      · skip
        refine r_iconst dX1_addPerson_20 ic_0 ?_
        exact g_iret dX1_addPerson_21 (rB0 rfl) rfl

set_option maxHeartbeats 4000000 in
set_option maxRecDepth 100000 in
theorem v_X1_addGood_t (X : mCx) (d : Nat) {S : mSh} {I : mI} {R : mR} {w : Nat → Int32} {f N G a b c e : Nat} (hf : Fam S I R f w N G) (ha : a < 100) (hb : b < 100) (hc : c < 100) (he : e < 100) (h : G < 8 ∧ a ≤ 3 ∧ b < N ∧ 1 ≤ c ∧ c ≤ 40 ∧ e ≤ 20) : CC X (d + 2) M_X1_addGood [.ref f, .int (nI a), .int (nI b), .int (nI c), .int (nI e)] S (I, R) (some (.int (bI true))) S (gooI I f G a b c e, R) := by
  have hN6 := hf.N6
  have hG8 := hf.G8
  refine CC.of2 (L := [.ref f, .int (nI a), .int (nI b), .int (nI c), .int (nI e), .retAddr 0]) p_X1 (Nat.le_of_ble_eq_true rfl) rfl (mRok_b _) (List.prefix_refl S) ?_
  refine r_iload_n dX1_addGood_0 rfl ?_
  refine r_iconst dX1_addGood_1 ic_1 ?_
  refine n_icmp_lt (tgt := 22) dX1_addGood_2 (by decide) (by omega) (by omega) (fun c2 => absurd c2 (by omega)) (fun c2 => ?_)
  refine r_iload_n dX1_addGood_5 rfl ?_
  refine r_bipush dX1_addGood_6 bp_40 ?_
  refine n_icmp_gt (tgt := 22) dX1_addGood_8 (by decide) (by omega) (by omega) (fun c8 => absurd c8 (by omega)) (fun c8 => ?_)
  refine r_iload dX1_addGood_11 rfl ?_
  refine r_bipush dX1_addGood_13 bp_20 ?_
  refine n_icmp_gt (tgt := 22) dX1_addGood_15 (by decide) (by omega) (by omega) (fun c15 => absurd c15 (by omega)) (fun c15 => ?_)
  refine r_iconst dX1_addGood_18 ic_1 ?_
  refine r_goto (tgt := 23) dX1_addGood_19 (by decide) ?_
  refine r_istore (L' := [_, _, _, _, _, _]) dX1_addGood_23 rfl rfl ?_
  refine r_aload_n dX1_addGood_25 rfl ?_
  refine g_getI dX1_addGood_26 f_X1_15 (Fam.sg (by assumption)) rfl (show _ = nI G by first | exact hf.hG | (simp only [sJ]; (repeat rw [if_neg (by omega)]); exact hf.hG)) ?_
  refine r_bipush dX1_addGood_29 bp_8 ?_
  refine n_icmp_ge (tgt := 52) dX1_addGood_31 (by decide) (by omega) (by omega) (fun c31 => absurd c31 (by omega)) (fun c31 => ?_)
  refine r_iload_n dX1_addGood_34 rfl ?_
  refine r_iconst dX1_addGood_35 ic_3 ?_
  refine n_icmp_gt (tgt := 52) dX1_addGood_36 (by decide) (by omega) (by omega) (fun c36 => absurd c36 (by omega)) (fun c36 => ?_)
  refine r_aload_n dX1_addGood_39 rfl ?_
  refine r_iload_n dX1_addGood_40 rfl ?_
  refine r_V1 dX1_addGood_41 l_X1_59 k_X1_isPerson i_X1_isPerson (Fam.sg (by assumption)) ⟨_, rfl⟩ (Nat.le_of_ble_eq_true rfl) (v_X1_isPerson X _ (by first | assumption | omega)) (List.prefix_refl S) ?_
  refine r_ifB_eq (tgt := 52) dX1_addGood_44 (by decide) (fun c44 => absurd (isP_n h.2.2.1 (by omega)) (by rw [c44]; decide)) (fun c44 => ?_)
  refine r_iload dX1_addGood_47 rfl ?_
  refine n_if_ne (tgt := 54) dX1_addGood_49 (by decide) (by omega) (fun c49 => ?_) (fun c49 => absurd c49 (by decide))
  refine r_aload_n dX1_addGood_54 rfl ?_
  refine g_getR dX1_addGood_55 f_X1_34 (Fam.sg (by assumption)) rfl (Fam.r7 (by assumption)) ?_
  refine r_aload_n dX1_addGood_58 rfl ?_
  refine g_getI dX1_addGood_59 f_X1_15 (Fam.sg (by assumption)) rfl (show _ = nI G by first | exact hf.hG | (simp only [sJ]; (repeat rw [if_neg (by omega)]); exact hf.hG)) ?_
  refine r_iload_n dX1_addGood_62 rfl ?_
  refine r_S3 dX1_addGood_63 l_X1_55 k_X7_put s_X7_put (Nat.le_of_ble_eq_true rfl) (v_X7_put X _ (Fam.s7 (by assumption)) (by omega) (by decide)) (List.prefix_refl S) ?_
  refine r_aload_n dX1_addGood_66 rfl ?_
  refine g_getR dX1_addGood_67 f_X1_37 (Fam.sg (by assumption)) rfl (Fam.r8 (by assumption)) ?_
  refine r_aload_n dX1_addGood_70 rfl ?_
  refine g_getI dX1_addGood_71 f_X1_15 (Fam.sg (by assumption)) rfl (show _ = nI G by first | exact hf.hG | (simp only [sJ]; (repeat rw [if_neg (by omega)]); exact hf.hG)) ?_
  refine r_iload_n dX1_addGood_74 rfl ?_
  refine r_S3 dX1_addGood_75 l_X1_55 k_X7_put s_X7_put (Nat.le_of_ble_eq_true rfl) (v_X7_put X _ (Fam.s8 (by assumption)) (by omega) (by decide)) (List.prefix_refl S) ?_
  refine r_aload_n dX1_addGood_78 rfl ?_
  refine g_getR dX1_addGood_79 f_X1_40 (Fam.sg (by assumption)) rfl (Fam.r9 (by assumption)) ?_
  refine r_aload_n dX1_addGood_82 rfl ?_
  refine g_getI dX1_addGood_83 f_X1_15 (Fam.sg (by assumption)) rfl (show _ = nI G by first | exact hf.hG | (simp only [sJ]; (repeat rw [if_neg (by omega)]); exact hf.hG)) ?_
  refine r_iload_n dX1_addGood_86 rfl ?_
  refine r_S3 dX1_addGood_87 l_X1_55 k_X7_put s_X7_put (Nat.le_of_ble_eq_true rfl) (v_X7_put X _ (Fam.s9 (by assumption)) (by omega) (by decide)) (List.prefix_refl S) ?_
  refine r_aload_n dX1_addGood_90 rfl ?_
  refine g_getR dX1_addGood_91 f_X1_43 (Fam.sg (by assumption)) rfl (Fam.r10 (by assumption)) ?_
  refine r_aload_n dX1_addGood_94 rfl ?_
  refine g_getI dX1_addGood_95 f_X1_15 (Fam.sg (by assumption)) rfl (show _ = nI G by first | exact hf.hG | (simp only [sJ]; (repeat rw [if_neg (by omega)]); exact hf.hG)) ?_
  refine r_iload dX1_addGood_98 rfl ?_
  refine r_S3 dX1_addGood_100 l_X1_55 k_X7_put s_X7_put (Nat.le_of_ble_eq_true rfl) (v_X7_put X _ (Fam.s10 (by assumption)) (by omega) (by decide)) (List.prefix_refl S) ?_
  refine r_aload_n dX1_addGood_103 rfl ?_
  refine g_getR dX1_addGood_104 f_X1_46 (Fam.sg (by assumption)) rfl (Fam.r11 (by assumption)) ?_
  refine r_aload_n dX1_addGood_107 rfl ?_
  refine g_getI dX1_addGood_108 f_X1_15 (Fam.sg (by assumption)) rfl (show _ = nI G by first | exact hf.hG | (simp only [sJ]; (repeat rw [if_neg (by omega)]); exact hf.hG)) ?_
  refine r_iload_n dX1_addGood_111 rfl ?_
  refine r_iload_n dX1_addGood_112 rfl ?_
  refine r_S2 dX1_addGood_113 l_X1_63 k_X1_counted s_X1_counted (Nat.le_of_ble_eq_true rfl) (v_X1_counted X _ ) (List.prefix_refl S) ?_
  refine r_S3 dX1_addGood_116 l_X1_55 k_X7_put s_X7_put (Nat.le_of_ble_eq_true rfl) (v_X7_put X _ (Fam.s11 (by assumption)) (by omega) (by decide)) (List.prefix_refl S) ?_
  refine r_aload_n dX1_addGood_119 rfl ?_
  refine r_dup dX1_addGood_120 rfl ?_
  refine g_getI dX1_addGood_121 f_X1_15 (Fam.sg (by assumption)) rfl (show _ = nI G by first | exact hf.hG | (simp only [sJ]; (repeat rw [if_neg (by omega)]); exact hf.hG)) ?_
  refine r_iconst dX1_addGood_124 ic_1 ?_
  refine n_iadd dX1_addGood_125 ?_
  refine g_putI dX1_addGood_126 f_X1_15 (Fam.sg (by assumption)) rfl ?_
  refine r_iconst dX1_addGood_129 ic_1 ?_
  exact g_iret dX1_addGood_130 (rB1 rfl) rfl

set_option maxHeartbeats 4000000 in
set_option maxRecDepth 100000 in
theorem v_X1_addGood_f (X : mCx) (d : Nat) {S : mSh} {I : mI} {R : mR} {w : Nat → Int32} {f N G a b c e : Nat} (hf : Fam S I R f w N G) (ha : a < 100) (hb : b < 100) (hc : c < 100) (he : e < 100) (h : ¬ (G < 8 ∧ a ≤ 3 ∧ b < N ∧ 1 ≤ c ∧ c ≤ 40 ∧ e ≤ 20)) : CC X (d + 2) M_X1_addGood [.ref f, .int (nI a), .int (nI b), .int (nI c), .int (nI e)] S (I, R) (some (.int (bI false))) S (I, R) := by
  have hN6 := hf.N6
  have hG8 := hf.G8
  refine CC.of2 (L := [.ref f, .int (nI a), .int (nI b), .int (nI c), .int (nI e), .retAddr 0]) p_X1 (Nat.le_of_ble_eq_true rfl) rfl (mRok_b _) (List.prefix_refl S) ?_
  refine r_iload_n dX1_addGood_0 rfl ?_
  refine r_iconst dX1_addGood_1 ic_1 ?_
  refine n_icmp_lt (tgt := 22) dX1_addGood_2 (by decide) (by omega) (by omega) (fun c2 => ?_) (fun c2 => ?_)
  · skip
    refine r_iconst dX1_addGood_22 ic_0 ?_
    refine r_istore (L' := [_, _, _, _, _, _]) dX1_addGood_23 rfl rfl ?_
    refine r_aload_n dX1_addGood_25 rfl ?_
    refine g_getI dX1_addGood_26 f_X1_15 (Fam.sg (by assumption)) rfl (show _ = nI G by first | exact hf.hG | (simp only [sJ]; (repeat rw [if_neg (by omega)]); exact hf.hG)) ?_
    refine r_bipush dX1_addGood_29 bp_8 ?_
    refine n_icmp_ge (tgt := 52) dX1_addGood_31 (by decide) (by omega) (by omega) (fun c31 => ?_) (fun c31 => ?_)
    · skip
      refine r_iconst dX1_addGood_52 ic_0 ?_
      exact g_iret dX1_addGood_53 (rB0 rfl) rfl
    · skip
      refine r_iload_n dX1_addGood_34 rfl ?_
      refine r_iconst dX1_addGood_35 ic_3 ?_
      refine n_icmp_gt (tgt := 52) dX1_addGood_36 (by decide) (by omega) (by omega) (fun c36 => ?_) (fun c36 => ?_)
      · skip
        refine r_iconst dX1_addGood_52 ic_0 ?_
        exact g_iret dX1_addGood_53 (rB0 rfl) rfl
      · skip
        refine r_aload_n dX1_addGood_39 rfl ?_
        refine r_iload_n dX1_addGood_40 rfl ?_
        refine r_V1 dX1_addGood_41 l_X1_59 k_X1_isPerson i_X1_isPerson (Fam.sg (by assumption)) ⟨_, rfl⟩ (Nat.le_of_ble_eq_true rfl) (v_X1_isPerson X _ (by first | assumption | omega)) (List.prefix_refl S) ?_
        refine r_ifB_eq (tgt := 52) dX1_addGood_44 (by decide) (fun c44 => ?_) (fun c44 => ?_)
        · skip
          refine r_iconst dX1_addGood_52 ic_0 ?_
          exact g_iret dX1_addGood_53 (rB0 rfl) rfl
        · skip
          refine r_iload dX1_addGood_47 rfl ?_
          refine n_if_ne (tgt := 54) dX1_addGood_49 (by decide) (by omega) (fun c49 => absurd rfl c49) (fun c49 => ?_)
          refine r_iconst dX1_addGood_52 ic_0 ?_
          exact g_iret dX1_addGood_53 (rB0 rfl) rfl
  · skip
    refine r_iload_n dX1_addGood_5 rfl ?_
    refine r_bipush dX1_addGood_6 bp_40 ?_
    refine n_icmp_gt (tgt := 22) dX1_addGood_8 (by decide) (by omega) (by omega) (fun c8 => ?_) (fun c8 => ?_)
    · skip
      refine r_iconst dX1_addGood_22 ic_0 ?_
      refine r_istore (L' := [_, _, _, _, _, _]) dX1_addGood_23 rfl rfl ?_
      refine r_aload_n dX1_addGood_25 rfl ?_
      refine g_getI dX1_addGood_26 f_X1_15 (Fam.sg (by assumption)) rfl (show _ = nI G by first | exact hf.hG | (simp only [sJ]; (repeat rw [if_neg (by omega)]); exact hf.hG)) ?_
      refine r_bipush dX1_addGood_29 bp_8 ?_
      refine n_icmp_ge (tgt := 52) dX1_addGood_31 (by decide) (by omega) (by omega) (fun c31 => ?_) (fun c31 => ?_)
      · skip
        refine r_iconst dX1_addGood_52 ic_0 ?_
        exact g_iret dX1_addGood_53 (rB0 rfl) rfl
      · skip
        refine r_iload_n dX1_addGood_34 rfl ?_
        refine r_iconst dX1_addGood_35 ic_3 ?_
        refine n_icmp_gt (tgt := 52) dX1_addGood_36 (by decide) (by omega) (by omega) (fun c36 => ?_) (fun c36 => ?_)
        · skip
          refine r_iconst dX1_addGood_52 ic_0 ?_
          exact g_iret dX1_addGood_53 (rB0 rfl) rfl
        · skip
          refine r_aload_n dX1_addGood_39 rfl ?_
          refine r_iload_n dX1_addGood_40 rfl ?_
          refine r_V1 dX1_addGood_41 l_X1_59 k_X1_isPerson i_X1_isPerson (Fam.sg (by assumption)) ⟨_, rfl⟩ (Nat.le_of_ble_eq_true rfl) (v_X1_isPerson X _ (by first | assumption | omega)) (List.prefix_refl S) ?_
          refine r_ifB_eq (tgt := 52) dX1_addGood_44 (by decide) (fun c44 => ?_) (fun c44 => ?_)
          · skip
            refine r_iconst dX1_addGood_52 ic_0 ?_
            exact g_iret dX1_addGood_53 (rB0 rfl) rfl
          · skip
            refine r_iload dX1_addGood_47 rfl ?_
            refine n_if_ne (tgt := 54) dX1_addGood_49 (by decide) (by omega) (fun c49 => absurd rfl c49) (fun c49 => ?_)
            refine r_iconst dX1_addGood_52 ic_0 ?_
            exact g_iret dX1_addGood_53 (rB0 rfl) rfl
    · skip
      refine r_iload dX1_addGood_11 rfl ?_
      refine r_bipush dX1_addGood_13 bp_20 ?_
      refine n_icmp_gt (tgt := 22) dX1_addGood_15 (by decide) (by omega) (by omega) (fun c15 => ?_) (fun c15 => ?_)
      · skip
        refine r_iconst dX1_addGood_22 ic_0 ?_
        refine r_istore (L' := [_, _, _, _, _, _]) dX1_addGood_23 rfl rfl ?_
        refine r_aload_n dX1_addGood_25 rfl ?_
        refine g_getI dX1_addGood_26 f_X1_15 (Fam.sg (by assumption)) rfl (show _ = nI G by first | exact hf.hG | (simp only [sJ]; (repeat rw [if_neg (by omega)]); exact hf.hG)) ?_
        refine r_bipush dX1_addGood_29 bp_8 ?_
        refine n_icmp_ge (tgt := 52) dX1_addGood_31 (by decide) (by omega) (by omega) (fun c31 => ?_) (fun c31 => ?_)
        · skip
          refine r_iconst dX1_addGood_52 ic_0 ?_
          exact g_iret dX1_addGood_53 (rB0 rfl) rfl
        · skip
          refine r_iload_n dX1_addGood_34 rfl ?_
          refine r_iconst dX1_addGood_35 ic_3 ?_
          refine n_icmp_gt (tgt := 52) dX1_addGood_36 (by decide) (by omega) (by omega) (fun c36 => ?_) (fun c36 => ?_)
          · skip
            refine r_iconst dX1_addGood_52 ic_0 ?_
            exact g_iret dX1_addGood_53 (rB0 rfl) rfl
          · skip
            refine r_aload_n dX1_addGood_39 rfl ?_
            refine r_iload_n dX1_addGood_40 rfl ?_
            refine r_V1 dX1_addGood_41 l_X1_59 k_X1_isPerson i_X1_isPerson (Fam.sg (by assumption)) ⟨_, rfl⟩ (Nat.le_of_ble_eq_true rfl) (v_X1_isPerson X _ (by first | assumption | omega)) (List.prefix_refl S) ?_
            refine r_ifB_eq (tgt := 52) dX1_addGood_44 (by decide) (fun c44 => ?_) (fun c44 => ?_)
            · skip
              refine r_iconst dX1_addGood_52 ic_0 ?_
              exact g_iret dX1_addGood_53 (rB0 rfl) rfl
            · skip
              refine r_iload dX1_addGood_47 rfl ?_
              refine n_if_ne (tgt := 54) dX1_addGood_49 (by decide) (by omega) (fun c49 => absurd rfl c49) (fun c49 => ?_)
              refine r_iconst dX1_addGood_52 ic_0 ?_
              exact g_iret dX1_addGood_53 (rB0 rfl) rfl
      · skip
        refine r_iconst dX1_addGood_18 ic_1 ?_
        refine r_goto (tgt := 23) dX1_addGood_19 (by decide) ?_
        refine r_istore (L' := [_, _, _, _, _, _]) dX1_addGood_23 rfl rfl ?_
        refine r_aload_n dX1_addGood_25 rfl ?_
        refine g_getI dX1_addGood_26 f_X1_15 (Fam.sg (by assumption)) rfl (show _ = nI G by first | exact hf.hG | (simp only [sJ]; (repeat rw [if_neg (by omega)]); exact hf.hG)) ?_
        refine r_bipush dX1_addGood_29 bp_8 ?_
        refine n_icmp_ge (tgt := 52) dX1_addGood_31 (by decide) (by omega) (by omega) (fun c31 => ?_) (fun c31 => ?_)
        · skip
          refine r_iconst dX1_addGood_52 ic_0 ?_
          exact g_iret dX1_addGood_53 (rB0 rfl) rfl
        · skip
          refine r_iload_n dX1_addGood_34 rfl ?_
          refine r_iconst dX1_addGood_35 ic_3 ?_
          refine n_icmp_gt (tgt := 52) dX1_addGood_36 (by decide) (by omega) (by omega) (fun c36 => ?_) (fun c36 => ?_)
          · skip
            refine r_iconst dX1_addGood_52 ic_0 ?_
            exact g_iret dX1_addGood_53 (rB0 rfl) rfl
          · skip
            refine r_aload_n dX1_addGood_39 rfl ?_
            refine r_iload_n dX1_addGood_40 rfl ?_
            refine r_V1 dX1_addGood_41 l_X1_59 k_X1_isPerson i_X1_isPerson (Fam.sg (by assumption)) ⟨_, rfl⟩ (Nat.le_of_ble_eq_true rfl) (v_X1_isPerson X _ (by first | assumption | omega)) (List.prefix_refl S) ?_
            refine r_ifB_eq (tgt := 52) dX1_addGood_44 (by decide) (fun c44 => ?_) (fun c44 => ?_)
            · skip
              refine r_iconst dX1_addGood_52 ic_0 ?_
              exact g_iret dX1_addGood_53 (rB0 rfl) rfl
            · skip
              refine r_iload dX1_addGood_47 rfl ?_
              refine n_if_ne (tgt := 54) dX1_addGood_49 (by decide) (by omega) (fun c49 => ?_) (fun c49 => absurd c49 (by decide))
              exfalso; obtain ⟨k, hk, e0⟩ := isP_t c44 (by omega); have e1 := (nI_eq (by omega) (by omega)).mp e0; omega

set_option maxHeartbeats 4000000 in
set_option maxRecDepth 100000 in
theorem v_X1_setLove_t (X : mCx) (d : Nat) {S : mSh} {I : mI} {R : mR} {w : Nat → Int32} {f N G a b c : Nat} (hf : Fam S I R f w N G) (ha : a < 100) (hb : b < 100) (hc : c < 100) (h : a ≠ b ∧ a < N ∧ b < N ∧ c ≤ 20) : CC X (d + 2) M_X1_setLove [.ref f, .int (nI a), .int (nI b), .int (nI c)] S (I, R) (some (.int (bI true))) S (sJ I (f + 4) (6 * a + b) (nI c), R) := by
  have hN6 := hf.N6
  refine CC.of2 (L := [.ref f, .int (nI a), .int (nI b), .int (nI c)]) p_X1 (Nat.le_of_ble_eq_true rfl) rfl (mRok_b _) (List.prefix_refl S) ?_
  refine r_iload_n dX1_setLove_0 rfl ?_
  refine r_iload_n dX1_setLove_1 rfl ?_
  refine n_icmp_eq (tgt := 27) dX1_setLove_2 (by decide) (by omega) (by omega) (fun c2 => absurd c2 (by omega)) (fun c2 => ?_)
  refine r_aload_n dX1_setLove_5 rfl ?_
  refine r_iload_n dX1_setLove_6 rfl ?_
  refine r_V1 dX1_setLove_7 l_X1_59 k_X1_isPerson i_X1_isPerson (Fam.sg (by assumption)) ⟨_, rfl⟩ (Nat.le_of_ble_eq_true rfl) (v_X1_isPerson X _ (by first | assumption | omega)) (List.prefix_refl S) ?_
  refine r_ifB_eq (tgt := 27) dX1_setLove_10 (by decide) (fun c10 => absurd (isP_n h.2.1 (by omega)) (by rw [c10]; decide)) (fun c10 => ?_)
  refine r_aload_n dX1_setLove_13 rfl ?_
  refine r_iload_n dX1_setLove_14 rfl ?_
  refine r_V1 dX1_setLove_15 l_X1_59 k_X1_isPerson i_X1_isPerson (Fam.sg (by assumption)) ⟨_, rfl⟩ (Nat.le_of_ble_eq_true rfl) (v_X1_isPerson X _ (by first | assumption | omega)) (List.prefix_refl S) ?_
  refine r_ifB_eq (tgt := 27) dX1_setLove_18 (by decide) (fun c18 => absurd (isP_n h.2.2.1 (by omega)) (by rw [c18]; decide)) (fun c18 => ?_)
  refine r_iload_n dX1_setLove_21 rfl ?_
  refine r_bipush dX1_setLove_22 bp_20 ?_
  refine n_icmp_le (tgt := 29) dX1_setLove_24 (by decide) (by omega) (by omega) (fun c24 => ?_) (fun c24 => absurd c24 (by omega))
  refine r_aload_n dX1_setLove_29 rfl ?_
  refine g_getR dX1_setLove_30 f_X1_31 (Fam.sg (by assumption)) rfl (Fam.r6 (by assumption)) ?_
  refine r_bipush dX1_setLove_33 bp_6 ?_
  refine r_iload_n dX1_setLove_35 rfl ?_
  refine n_imul dX1_setLove_36 ?_
  refine r_iload_n dX1_setLove_37 rfl ?_
  refine n_iadd dX1_setLove_38 ?_
  refine r_iload_n dX1_setLove_39 rfl ?_
  refine r_S3 dX1_setLove_40 l_X1_55 k_X7_put s_X7_put (Nat.le_of_ble_eq_true rfl) (v_X7_put X _ (Fam.s6 (by assumption)) (by omega) (by decide)) (List.prefix_refl S) ?_
  refine r_iconst dX1_setLove_43 ic_1 ?_
  exact g_iret dX1_setLove_44 (rB1 rfl) rfl

set_option maxHeartbeats 4000000 in
set_option maxRecDepth 100000 in
theorem v_X1_setLove_f (X : mCx) (d : Nat) {S : mSh} {I : mI} {R : mR} {w : Nat → Int32} {f N G a b c : Nat} (hf : Fam S I R f w N G) (ha : a < 100) (hb : b < 100) (hc : c < 100) (h : ¬ (a ≠ b ∧ a < N ∧ b < N ∧ c ≤ 20)) : CC X (d + 2) M_X1_setLove [.ref f, .int (nI a), .int (nI b), .int (nI c)] S (I, R) (some (.int (bI false))) S (I, R) := by
  have hN6 := hf.N6
  refine CC.of2 (L := [.ref f, .int (nI a), .int (nI b), .int (nI c)]) p_X1 (Nat.le_of_ble_eq_true rfl) rfl (mRok_b _) (List.prefix_refl S) ?_
  refine r_iload_n dX1_setLove_0 rfl ?_
  refine r_iload_n dX1_setLove_1 rfl ?_
  refine n_icmp_eq (tgt := 27) dX1_setLove_2 (by decide) (by omega) (by omega) (fun c2 => ?_) (fun c2 => ?_)
  · skip
    refine r_iconst dX1_setLove_27 ic_0 ?_
    exact g_iret dX1_setLove_28 (rB0 rfl) rfl
  · skip
    refine r_aload_n dX1_setLove_5 rfl ?_
    refine r_iload_n dX1_setLove_6 rfl ?_
    refine r_V1 dX1_setLove_7 l_X1_59 k_X1_isPerson i_X1_isPerson (Fam.sg (by assumption)) ⟨_, rfl⟩ (Nat.le_of_ble_eq_true rfl) (v_X1_isPerson X _ (by first | assumption | omega)) (List.prefix_refl S) ?_
    refine r_ifB_eq (tgt := 27) dX1_setLove_10 (by decide) (fun c10 => ?_) (fun c10 => ?_)
    · skip
      refine r_iconst dX1_setLove_27 ic_0 ?_
      exact g_iret dX1_setLove_28 (rB0 rfl) rfl
    · skip
      refine r_aload_n dX1_setLove_13 rfl ?_
      refine r_iload_n dX1_setLove_14 rfl ?_
      refine r_V1 dX1_setLove_15 l_X1_59 k_X1_isPerson i_X1_isPerson (Fam.sg (by assumption)) ⟨_, rfl⟩ (Nat.le_of_ble_eq_true rfl) (v_X1_isPerson X _ (by first | assumption | omega)) (List.prefix_refl S) ?_
      refine r_ifB_eq (tgt := 27) dX1_setLove_18 (by decide) (fun c18 => ?_) (fun c18 => ?_)
      · skip
        refine r_iconst dX1_setLove_27 ic_0 ?_
        exact g_iret dX1_setLove_28 (rB0 rfl) rfl
      · skip
        refine r_iload_n dX1_setLove_21 rfl ?_
        refine r_bipush dX1_setLove_22 bp_20 ?_
        refine n_icmp_le (tgt := 29) dX1_setLove_24 (by decide) (by omega) (by omega) (fun c24 => ?_) (fun c24 => ?_)
        · skip
          exfalso; obtain ⟨k, hk, e0⟩ := isP_t c10 (by omega); have e1 := (nI_eq (by omega) (by omega)).mp e0; obtain ⟨k2, hk2, e2⟩ := isP_t c18 (by omega); have e3 := (nI_eq (by omega) (by omega)).mp e2; omega
        · skip
          refine r_iconst dX1_setLove_27 ic_0 ?_
          exact g_iret dX1_setLove_28 (rB0 rfl) rfl

set_option maxHeartbeats 4000000 in
set_option maxRecDepth 100000 in
theorem v_X1_setTenths_t (X : mCx) (d : Nat) {S : mSh} {I : mI} {R : mR} {w : Nat → Int32} {f N G a : Nat} (hf : Fam S I R f w N G) (ha : a < 100) (h : 1 ≤ a ∧ a ≤ 20) : CC X (d + 1) M_X1_setTenths [.ref f, .int (nI a)] S (I, R) (some (.int (bI true))) S (sJ I f 2 (nI a), R) := by
  refine CC.of2 (L := [.ref f, .int (nI a)]) p_X1 (Nat.le_of_ble_eq_true rfl) rfl (mRok_b _) (List.prefix_refl S) ?_
  refine r_iload_n dX1_setTenths_0 rfl ?_
  refine r_iconst dX1_setTenths_1 ic_1 ?_
  refine n_icmp_lt (tgt := 11) dX1_setTenths_2 (by decide) (by omega) (by omega) (fun c2 => absurd c2 (by omega)) (fun c2 => ?_)
  refine r_iload_n dX1_setTenths_5 rfl ?_
  refine r_bipush dX1_setTenths_6 bp_20 ?_
  refine n_icmp_le (tgt := 13) dX1_setTenths_8 (by decide) (by omega) (by omega) (fun c8 => ?_) (fun c8 => absurd c8 (by omega))
  refine r_aload_n dX1_setTenths_13 rfl ?_
  refine r_iload_n dX1_setTenths_14 rfl ?_
  refine g_putI dX1_setTenths_15 f_X1_18 (Fam.sg (by assumption)) rfl ?_
  refine r_iconst dX1_setTenths_18 ic_1 ?_
  exact g_iret dX1_setTenths_19 (rB1 rfl) rfl

set_option maxHeartbeats 4000000 in
set_option maxRecDepth 100000 in
theorem v_X1_setTenths_f (X : mCx) (d : Nat) {S : mSh} {I : mI} {R : mR} {w : Nat → Int32} {f N G a : Nat} (hf : Fam S I R f w N G) (ha : a < 100) (h : ¬ (1 ≤ a ∧ a ≤ 20)) : CC X (d + 1) M_X1_setTenths [.ref f, .int (nI a)] S (I, R) (some (.int (bI false))) S (I, R) := by
  refine CC.of2 (L := [.ref f, .int (nI a)]) p_X1 (Nat.le_of_ble_eq_true rfl) rfl (mRok_b _) (List.prefix_refl S) ?_
  refine r_iload_n dX1_setTenths_0 rfl ?_
  refine r_iconst dX1_setTenths_1 ic_1 ?_
  refine n_icmp_lt (tgt := 11) dX1_setTenths_2 (by decide) (by omega) (by omega) (fun c2 => ?_) (fun c2 => ?_)
  · skip
    refine r_iconst dX1_setTenths_11 ic_0 ?_
    exact g_iret dX1_setTenths_12 (rB0 rfl) rfl
  · skip
    refine r_iload_n dX1_setTenths_5 rfl ?_
    refine r_bipush dX1_setTenths_6 bp_20 ?_
    refine n_icmp_le (tgt := 13) dX1_setTenths_8 (by decide) (by omega) (by omega) (fun c8 => ?_) (fun c8 => ?_)
    · skip
      exfalso; omega
    · skip
      refine r_iconst dX1_setTenths_11 ic_0 ?_
      exact g_iret dX1_setTenths_12 (rB0 rfl) rfl

