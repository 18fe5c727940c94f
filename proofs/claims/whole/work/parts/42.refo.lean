/-! ===== the reference: order ===== -/
def HJ (J : mI) (b : Nat) (q : Int32 × Int32) : mI := sJ (sJ J 104 b q.1) 105 b q.2
theorem HJ_1 (J : mI) (b : Nat) (q : Int32 × Int32) : HJ J b q 104 b = q.1 := by
  unfold HJ
  rw [sJ_ne (Or.inl (by decide)), sJ_eq]
theorem HJ_2 (J : mI) (b : Nat) (q : Int32 × Int32) : HJ J b q 105 b = q.2 := sJ_eq _ _ _ _
theorem HJ_ne {J : mI} {b k : Nat} {q : Int32 × Int32} (h : k ≠ b) : HJ J b q 104 k = J 104 k := by
  unfold HJ
  rw [sJ_ne (Or.inl (by decide)), sJ_ne (Or.inr h)]
theorem HJ_n5 {J : mI} {b k : Nat} {q : Int32 × Int32} (h : k ≠ b) : HJ J b q 105 k = J 105 k := by
  unfold HJ
  rw [sJ_ne (Or.inr h), sJ_ne (Or.inl (by decide))]
theorem HJ_o {J : mI} {b o : Nat} {q : Int32 × Int32} (h4 : o ≠ 104) (h5 : o ≠ 105) : HJ J b q o = J o := by
  unfold HJ
  rw [sJ_o h5, sJ_o h4]
theorem HJ_s2 (J : mI) (b : Nat) (q : Int32 × Int32) (x : Int32) : sJ (HJ J b q) 105 b x = HJ J b (q.1, x) := by
  unfold HJ
  rw [sJ_2]
theorem HJ_s1 (J : mI) (b : Nat) (q : Int32 × Int32) (y : Int32) : sJ (HJ J b q) 104 b y = HJ J b (y, q.2) := by
  funext o k
  unfold HJ sJ
  by_cases h1 : o = 104 ∧ k = b
  · rw [if_pos h1, if_neg (by omega), if_pos h1]
  · rw [if_neg h1, if_neg h1, if_neg h1]
def omP (w s : Nat → Int32) (N G : Nat) (T : Nat → Int32) (b i : Nat) : Int32 := owe w s N G b i + T (clr b i)
def omC (w : Nat → Int32) (N : Nat) (T : Nat → Int32) (b i : Nat) : Bool := b.testBit i && (!alone w N (clr b i) && !decide (T (clr b i) = FARI))
def omS (w s : Nat → Int32) (N G : Nat) (T : Nat → Int32) (b i : Nat) (q : Int32 × Int32) : Int32 × Int32 := if omC w N T b i = true then (if omP w s N G T b i < q.1 then omP w s N G T b i else q.1, if omP w s N G T b i ≤ q.1 then nI i else q.2) else q
theorem omC_1 {w : Nat → Int32} {N b i : Nat} {T : Nat → Int32} (h1 : b.testBit i = true) (h2 : alone w N (clr b i) = false) (h3 : ¬ T (clr b i) = FARI) : omC w N T b i = true := by unfold omC; rw [h1, h2, decide_eq_false h3]; rfl
theorem omC_2 {w : Nat → Int32} {N b i : Nat} {T : Nat → Int32} (h1 : b.testBit i = false) : omC w N T b i = false := by unfold omC; rw [h1]; rfl
theorem omC_3 {w : Nat → Int32} {N b i : Nat} {T : Nat → Int32} (h2 : alone w N (clr b i) = true) : omC w N T b i = false := by unfold omC; rw [h2]; exact Bool.and_false _
theorem omC_4 {w : Nat → Int32} {N b i : Nat} {T : Nat → Int32} (h3 : T (clr b i) = FARI) : omC w N T b i = false := by unfold omC; rw [decide_eq_true h3]; simp
theorem omS_t {w s : Nat → Int32} {N G b i : Nat} {T : Nat → Int32} {q : Int32 × Int32} (h : omC w N T b i = true) : omS w s N G T b i q = (if omP w s N G T b i < q.1 then omP w s N G T b i else q.1, if omP w s N G T b i ≤ q.1 then nI i else q.2) := if_pos h
theorem omS_f {w s : Nat → Int32} {N G b i : Nat} {T : Nat → Int32} {q : Int32 × Int32} (h : omC w N T b i = false) : omS w s N G T b i q = q := if_neg (by rw [h]; decide)
def omF (w s : Nat → Int32) (N G : Nat) (T : Nat → Int32) (b n : Nat) : Int32 × Int32 := nFold n (fun j q => omS w s N G T b (N - (j + 1)) q) (if b = 0 then nI 0 else FARI, -4)
theorem omF_s (w s : Nat → Int32) (N G : Nat) (T : Nat → Int32) (b n : Nat) : omF w s N G T b (n + 1) = omS w s N G T b (N - (n + 1)) (omF w s N G T b n) := rfl
def rM (I : mI) (w s : Nat → Int32) (N G n : Nat) : mI := nFold n (fun b J => HJ J b (omF w s N G (J 104) b N)) I
theorem rM_s (I : mI) (w s : Nat → Int32) (N G n : Nat) : rM I w s N G (n + 1) = HJ (rM I w s N G n) n (omF w s N G (rM I w s N G n 104) n N) := rfl
theorem rM_o {I : mI} {w s : Nat → Int32} {N G o : Nat} (h4 : o ≠ 104) (h5 : o ≠ 105) : ∀ n, rM I w s N G n o = I o
  | 0 => rfl
  | n + 1 => by rw [rM_s, HJ_o h4 h5]; exact rM_o h4 h5 n
theorem clr_ne {b i : Nat} (h : b.testBit i = true) : clr b i ≠ b := by
  have h1 := Nat.ge_two_pow_of_testBit h
  have h2 : 0 < 2 ^ i := Nat.two_pow_pos i
  unfold clr
  rw [if_pos h]
  omega
def dnN (N j : Nat) : Int32 := nI N - nI (j + 1)
theorem dnN_n {N j : Nat} (h : j < N) : dnN N j = nI (N - (j + 1)) := nI_sub h
theorem dnN_lt {N : Nat} (h : N ≤ 6) : dnN N N < 0 := by
  have : ∀ N, N ≤ 6 → dnN N N < 0 := by decide +kernel
  exact this N h
theorem dnN_s {N j : Nat} (h : N ≤ 6) (hj : j < N) : nI (N - (j + 1)) + Int32.ofInt (-1) = dnN N (j + 1) := by
  have : ∀ N, N ≤ 6 → ∀ j, j < N → nI (N - (j + 1)) + Int32.ofInt (-1) = dnN N (j + 1) := by decide +kernel
  exact this N h j hj
set_option maxHeartbeats 4000000 in
set_option maxRecDepth 100000 in
theorem v_X12_findOrder (X : mCx) (d : Nat) {S : mSh} {I : mI} {R : mR} {w s : Nat → Int32} {N G hb : Nat} (hm : Mod S R) (hw : MoW I w N G) (hd : MoD I 0 s hb)  : CC X (d + 3) M_X12_findOrder [.ref 97] S (I, R) (none) S (rM I w s N G 64, R) := by
  have hN6 := hw.N6
  have hG8 := hw.G8
  have h256 := hd.b256
  refine CC.of2 (L := [.ref 97, .retAddr 0, .retAddr 0, .retAddr 0, .retAddr 0]) p_X12 (Nat.le_of_ble_eq_true rfl) rfl trivial (List.prefix_refl S) ?_
  refine r_iconst dX12_findOrder_0 ic_0 ?_
  refine r_istore_n (L' := [_, _, _, _, _]) dX12_findOrder_1 rfl rfl ?_
  refine JJ.loop 64 (fun b => [.ref 97, .int (nI b), .retAddr 0, .retAddr 0, .retAddr 0]) (fun b => (rM I w s N G b, R)) (fun b => True) rfl rfl trivial (fun hp => ?_) (fun b hb64 hp K => ?_)
  · skip
    refine r_iload_n dX12_findOrder_2 rfl ?_
    refine r_bipush dX12_findOrder_3 bp_64 ?_
    refine n_icmp_ge (tgt := 178) dX12_findOrder_5 (by decide) (by omega) (by omega) (fun c5 => ?_) (fun c5 => (by exfalso; omega))
    exact g_vret dX12_findOrder_178 rfl rfl
  · have hw0 : MoW (rM I w s N G b) w N G := hw.fr (rM_o (by decide) (by decide) b)
    refine r_iload_n dX12_findOrder_2 rfl ?_
    refine r_bipush dX12_findOrder_3 bp_64 ?_
    refine n_icmp_ge (tgt := 178) dX12_findOrder_5 (by decide) (by omega) (by omega) (fun c5 => absurd c5 (by omega)) (fun c5 => ?_)
    refine r_aload_n dX12_findOrder_8 rfl ?_
    refine g_getR dX12_findOrder_9 f_X12_28 (Mod.sg (by assumption)) rfl (Mod.r104 (by assumption)) ?_
    refine r_iload_n dX12_findOrder_12 rfl ?_
    refine r_iload_n dX12_findOrder_13 rfl ?_
    refine n_if_ne (tgt := 21) dX12_findOrder_14 (by decide) (by omega) (fun c14 => ?_) (fun c14 => ?_)
    · skip
      refine r_ldc dX12_findOrder_21 c_X12_176 ?_
      refine g_top (show _ = (if b = 0 then nI 0 else FARI) by first | (rw [if_pos c14]; done) | (rw [if_neg c14]; rfl)) ?_
      refine g_iast dX12_findOrder_23 (Mod.s104 (by assumption)) rfl (by omega) (by omega) ?_
      refine r_aload_n dX12_findOrder_24 rfl ?_
      refine g_getR dX12_findOrder_25 f_X12_31 (Mod.sg (by assumption)) rfl (Mod.r105 (by assumption)) ?_
      refine r_iload_n dX12_findOrder_28 rfl ?_
      refine r_bipush dX12_findOrder_29 bp_m4 ?_
      refine g_iast dX12_findOrder_31 (Mod.s105 (by assumption)) rfl (by omega) (by omega) ?_
      refine JJ.to (h1 := (HJ (rM I w s N G b) b (omF w s N G (rM I w s N G b 104) b 0), R)) ?_ rfl rfl rfl
      have hw2 : MoW (HJ (rM I w s N G b) b (omF w s N G (rM I w s N G b 104) b 0)) w N G := hw.fr ((HJ_o (by decide) (by decide)).trans (rM_o (by decide) (by decide) b)); have hd2 : MoD (HJ (rM I w s N G b) b (omF w s N G (rM I w s N G b 104) b 0)) 0 s hb := hd.fr ((HJ_o (by decide) (by decide)).trans (rM_o (by decide) (by decide) b))
      refine r_aload_n dX12_findOrder_32 rfl ?_
      refine g_getR dX12_findOrder_33 f_X12_7 (Mod.sg (by assumption)) rfl (Mod.r98 (by assumption)) ?_
      refine r_iconst dX12_findOrder_36 ic_0 ?_
      refine g_iald dX12_findOrder_37 (Mod.s98 (by assumption)) rfl (by omega) (by omega) hw2.n0 ?_
      refine r_iconst dX12_findOrder_38 ic_1 ?_
      refine r_isub dX12_findOrder_39 ?_
      refine r_istore_n (L' := [_, _, _, _, _]) dX12_findOrder_40 rfl rfl ?_
      refine JJ.loop N (fun j => [.ref 97, .int (nI b), .int (dnN N j), .retAddr 0, .retAddr 0]) (fun j => ((HJ (rM I w s N G b) b (omF w s N G (rM I w s N G b 104) b j)), R)) (fun j => True) rfl rfl trivial (fun hp => ?_) (fun j hj hp K => ?_)
      · skip
        refine r_iload_n dX12_findOrder_41 rfl ?_
        refine r_if_lt (tgt := 172) dX12_findOrder_42 (by decide) (fun c42 => ?_) (fun c42 => absurd (dnN_lt hN6) c42)
        refine r_iinc (L' := [_, _, _, _, _]) dX12_findOrder_172 rfl rfl (nI_inc _) rfl ?_
        refine r_goto (tgt := 2) dX12_findOrder_175 (by decide) ?_
        exact JJ.wk_at 2 (JJ.to (K trivial) rfl rfl rfl)
      · rw [dnN_n hj]; have hw2 : MoW (HJ (rM I w s N G b) b (omF w s N G (rM I w s N G b 104) b j)) w N G := hw.fr ((HJ_o (by decide) (by decide)).trans (rM_o (by decide) (by decide) b)); have hd2 : MoD (HJ (rM I w s N G b) b (omF w s N G (rM I w s N G b 104) b j)) 0 s hb := hd.fr ((HJ_o (by decide) (by decide)).trans (rM_o (by decide) (by decide) b)); have hcl := clr_le b (N - (j + 1))
        refine r_iload_n dX12_findOrder_41 rfl ?_
        refine n_if_lt (tgt := 172) dX12_findOrder_42 (by decide) (by omega) (fun c42 => absurd c42 (Nat.not_lt_zero _)) (fun c42 => ?_)
        refine r_iload_n dX12_findOrder_45 rfl ?_
        refine r_iconst dX12_findOrder_46 ic_1 ?_
        refine r_iload_n dX12_findOrder_47 rfl ?_
        refine r_ishl dX12_findOrder_48 ?_
        refine g_top (shl1 (by omega)) ?_
        refine r_iconst dX12_findOrder_49 ic_m1 ?_
        refine r_ixor dX12_findOrder_50 ?_
        refine r_iand dX12_findOrder_51 ?_
        refine g_top (clr_eq (by omega) (by omega)) ?_
        refine r_istore_n (L' := [_, _, _, _, _]) dX12_findOrder_52 rfl rfl ?_
        refine r_iload_n dX12_findOrder_53 rfl ?_
        refine r_iload_n dX12_findOrder_54 rfl ?_
        refine r_S2 dX12_findOrder_55 l_X12_114 k_X12_has s_X12_has (Nat.le_of_ble_eq_true rfl) (v_X12_has X _ (by omega) (by omega)) (List.prefix_refl S) ?_
        refine r_ifB_eq (tgt := 166) dX12_findOrder_58 (by decide) (fun c58 => ?_) (fun c58 => ?_)
        · skip
          refine r_iinc (L' := [_, _, _, _, _]) dX12_findOrder_166 rfl rfl rfl rfl ?_
          refine r_goto (tgt := 41) dX12_findOrder_169 (by decide) ?_
          first | (have e := omF_s w s N G (rM I w s N G b 104) b j; have cc := omC_1 (w := w) (N := N) (T := (rM I w s N G b 104)) c58 c66 c77; rw [omS_t cc] at e; exact JJ.wk_at 3 (JJ.wk_at 4 (JJ.to (K trivial) (by rw [dnN_s hN6 hj]; rfl) rfl (by rw [e])))) | (have e := omF_s w s N G (rM I w s N G b 104) b j; have cc := omC_2 (w := w) (N := N) (T := (rM I w s N G b 104)) c58; rw [omS_f cc] at e; exact JJ.wk_at 3 (JJ.wk_at 4 (JJ.to (K trivial) (by rw [dnN_s hN6 hj]; rfl) rfl (by rw [e])))) | (have e := omF_s w s N G (rM I w s N G b 104) b j; have cc := omC_3 (w := w) (N := N) (T := (rM I w s N G b 104)) c66; rw [omS_f cc] at e; exact JJ.wk_at 3 (JJ.wk_at 4 (JJ.to (K trivial) (by rw [dnN_s hN6 hj]; rfl) rfl (by rw [e])))) | (have e := omF_s w s N G (rM I w s N G b 104) b j; have cc := omC_4 (w := w) (N := N) (T := (rM I w s N G b 104)) c77; rw [omS_f cc] at e; exact JJ.wk_at 3 (JJ.wk_at 4 (JJ.to (K trivial) (by rw [dnN_s hN6 hj]; rfl) rfl (by rw [e]))))
        · skip
          refine r_aload_n dX12_findOrder_61 rfl ?_
          refine r_iload_n dX12_findOrder_62 rfl ?_
          refine r_V1 dX12_findOrder_63 l_X12_160 k_X12_isAlone i_X12_isAlone (Mod.sg (by assumption)) ⟨_, rfl⟩ (Nat.le_of_ble_eq_true rfl) (v_X12_isAlone X _ hm hw2 (by omega)) (List.prefix_refl S) ?_
          refine r_ifB_ne (tgt := 166) dX12_findOrder_66 (by decide) (fun c66 => ?_) (fun c66 => ?_)
          · skip
            refine r_iinc (L' := [_, _, _, _, _]) dX12_findOrder_166 rfl rfl rfl rfl ?_
            refine r_goto (tgt := 41) dX12_findOrder_169 (by decide) ?_
            first | (have e := omF_s w s N G (rM I w s N G b 104) b j; have cc := omC_1 (w := w) (N := N) (T := (rM I w s N G b 104)) c58 c66 c77; rw [omS_t cc] at e; exact JJ.wk_at 3 (JJ.wk_at 4 (JJ.to (K trivial) (by rw [dnN_s hN6 hj]; rfl) rfl (by rw [e])))) | (have e := omF_s w s N G (rM I w s N G b 104) b j; have cc := omC_2 (w := w) (N := N) (T := (rM I w s N G b 104)) c58; rw [omS_f cc] at e; exact JJ.wk_at 3 (JJ.wk_at 4 (JJ.to (K trivial) (by rw [dnN_s hN6 hj]; rfl) rfl (by rw [e])))) | (have e := omF_s w s N G (rM I w s N G b 104) b j; have cc := omC_3 (w := w) (N := N) (T := (rM I w s N G b 104)) c66; rw [omS_f cc] at e; exact JJ.wk_at 3 (JJ.wk_at 4 (JJ.to (K trivial) (by rw [dnN_s hN6 hj]; rfl) rfl (by rw [e])))) | (have e := omF_s w s N G (rM I w s N G b 104) b j; have cc := omC_4 (w := w) (N := N) (T := (rM I w s N G b 104)) c77; rw [omS_f cc] at e; exact JJ.wk_at 3 (JJ.wk_at 4 (JJ.to (K trivial) (by rw [dnN_s hN6 hj]; rfl) rfl (by rw [e]))))
          · skip
            refine r_aload_n dX12_findOrder_69 rfl ?_
            refine g_getR dX12_findOrder_70 f_X12_28 (Mod.sg (by assumption)) rfl (Mod.r104 (by assumption)) ?_
            refine r_iload_n dX12_findOrder_73 rfl ?_
            refine g_iald dX12_findOrder_74 (Mod.s104 (by assumption)) rfl (by omega) (by omega) ((HJ_ne (clr_ne c58))) ?_
            refine r_ldc dX12_findOrder_75 c_X12_176 ?_
            refine r_icmp_eq (tgt := 166) dX12_findOrder_77 (by decide) (fun c77 => ?_) (fun c77 => ?_)
            · skip
              refine r_iinc (L' := [_, _, _, _, _]) dX12_findOrder_166 rfl rfl rfl rfl ?_
              refine r_goto (tgt := 41) dX12_findOrder_169 (by decide) ?_
              first | (have e := omF_s w s N G (rM I w s N G b 104) b j; have cc := omC_1 (w := w) (N := N) (T := (rM I w s N G b 104)) c58 c66 c77; rw [omS_t cc] at e; exact JJ.wk_at 3 (JJ.wk_at 4 (JJ.to (K trivial) (by rw [dnN_s hN6 hj]; rfl) rfl (by rw [e])))) | (have e := omF_s w s N G (rM I w s N G b 104) b j; have cc := omC_2 (w := w) (N := N) (T := (rM I w s N G b 104)) c58; rw [omS_f cc] at e; exact JJ.wk_at 3 (JJ.wk_at 4 (JJ.to (K trivial) (by rw [dnN_s hN6 hj]; rfl) rfl (by rw [e])))) | (have e := omF_s w s N G (rM I w s N G b 104) b j; have cc := omC_3 (w := w) (N := N) (T := (rM I w s N G b 104)) c66; rw [omS_f cc] at e; exact JJ.wk_at 3 (JJ.wk_at 4 (JJ.to (K trivial) (by rw [dnN_s hN6 hj]; rfl) rfl (by rw [e])))) | (have e := omF_s w s N G (rM I w s N G b 104) b j; have cc := omC_4 (w := w) (N := N) (T := (rM I w s N G b 104)) c77; rw [omS_f cc] at e; exact JJ.wk_at 3 (JJ.wk_at 4 (JJ.to (K trivial) (by rw [dnN_s hN6 hj]; rfl) rfl (by rw [e]))))
            · skip
              refine r_aload_n dX12_findOrder_80 rfl ?_
              refine r_iload_n dX12_findOrder_81 rfl ?_
              refine r_aload_n dX12_findOrder_82 rfl ?_
              refine r_iconst dX12_findOrder_83 ic_0 ?_
              refine r_iload_n dX12_findOrder_84 rfl ?_
              refine r_bipush dX12_findOrder_85 bp_m4 ?_
              refine r_V3 dX12_findOrder_87 l_X12_130 k_X12_leftBy i_X12_leftBy (Mod.sg (by assumption)) ⟨_, rfl⟩ (Nat.le_of_ble_eq_true rfl) (v_X12_leftBy X _ hm hw2 hd2) (List.prefix_refl S) ?_
              rw [gLw_n hG8]
              refine r_aload_n dX12_findOrder_90 rfl ?_
              refine r_iload_n dX12_findOrder_91 rfl ?_
              refine r_iload_n dX12_findOrder_92 rfl ?_
              refine r_bipush dX12_findOrder_93 bp_m4 ?_
              refine r_V3 dX12_findOrder_95 l_X12_134 k_X12_lovedBy i_X12_lovedBy (Mod.sg (by assumption)) ⟨_, rfl⟩ (Nat.le_of_ble_eq_true rfl) (v_X12_lovedBy X _ hm hw2 (by omega) (by omega)) (List.prefix_refl S) ?_
              rw [lLw_n hN6]
              refine r_iadd dX12_findOrder_98 ?_
              refine r_V2 dX12_findOrder_99 l_X12_137 k_X12_dutyOf i_X12_dutyOf (Mod.sg (by assumption)) ⟨_, rfl⟩ (Nat.le_of_ble_eq_true rfl) (v_X12_dutyOf X _ hm hw2 (by omega)) (List.prefix_refl S) ?_
              refine r_aload_n dX12_findOrder_102 rfl ?_
              refine g_getR dX12_findOrder_103 f_X12_28 (Mod.sg (by assumption)) rfl (Mod.r104 (by assumption)) ?_
              refine r_iload_n dX12_findOrder_106 rfl ?_
              refine g_iald dX12_findOrder_107 (Mod.s104 (by assumption)) rfl (by omega) (by omega) ((HJ_ne (clr_ne c58))) ?_
              refine r_iadd dX12_findOrder_108 ?_
              refine r_istore (L' := [_, _, _, _, _]) dX12_findOrder_109 rfl rfl ?_
              refine r_aload_n dX12_findOrder_111 rfl ?_
              refine g_getR dX12_findOrder_112 f_X12_31 (Mod.sg (by assumption)) rfl (Mod.r105 (by assumption)) ?_
              refine r_iload_n dX12_findOrder_115 rfl ?_
              refine r_iload dX12_findOrder_116 rfl ?_
              refine r_aload_n dX12_findOrder_118 rfl ?_
              refine g_getR dX12_findOrder_119 f_X12_28 (Mod.sg (by assumption)) rfl (Mod.r104 (by assumption)) ?_
              refine r_iload_n dX12_findOrder_122 rfl ?_
              refine g_iald dX12_findOrder_123 (Mod.s104 (by assumption)) rfl (by omega) (by omega) (HJ_1 _ _ _) ?_
              refine r_icmp_gt (tgt := 131) dX12_findOrder_124 (by decide) (fun c124 => ?_) (fun c124 => ?_)
              · have c124 : ¬ (omP w s N G (rM I w s N G b 104) b (N - (j + 1))) ≤ (omF w s N G (rM I w s N G b 104) b j).1 := Int32.not_le.mpr c124
                refine r_aload_n dX12_findOrder_131 rfl ?_
                refine g_getR dX12_findOrder_132 f_X12_31 (Mod.sg (by assumption)) rfl (Mod.r105 (by assumption)) ?_
                refine r_iload_n dX12_findOrder_135 rfl ?_
                refine g_iald dX12_findOrder_136 (Mod.s105 (by assumption)) rfl (by omega) (by omega) (HJ_2 _ _ _) ?_
                refine g_top (show _ = (if (omP w s N G (rM I w s N G b 104) b (N - (j + 1))) ≤ (omF w s N G (rM I w s N G b 104) b j).1 then nI (N - (j + 1)) else (omF w s N G (rM I w s N G b 104) b j).2) by first | (rw [if_pos c124]; done) | (rw [if_neg c124]; done)) ?_
                refine g_iast dX12_findOrder_137 (Mod.s105 (by assumption)) rfl (by omega) (by omega) ?_
                refine JJ.to (h1 := (HJ (rM I w s N G b) b ((omF w s N G (rM I w s N G b 104) b j).1, (if (omP w s N G (rM I w s N G b 104) b (N - (j + 1))) ≤ (omF w s N G (rM I w s N G b 104) b j).1 then nI (N - (j + 1)) else (omF w s N G (rM I w s N G b 104) b j).2)), R)) ?_ rfl rfl (by rw [HJ_s2])
                refine r_aload_n dX12_findOrder_138 rfl ?_
                refine g_getR dX12_findOrder_139 f_X12_28 (Mod.sg (by assumption)) rfl (Mod.r104 (by assumption)) ?_
                refine r_iload_n dX12_findOrder_142 rfl ?_
                refine r_iload dX12_findOrder_143 rfl ?_
                refine r_aload_n dX12_findOrder_145 rfl ?_
                refine g_getR dX12_findOrder_146 f_X12_28 (Mod.sg (by assumption)) rfl (Mod.r104 (by assumption)) ?_
                refine r_iload_n dX12_findOrder_149 rfl ?_
                refine g_iald dX12_findOrder_150 (Mod.s104 (by assumption)) rfl (by omega) (by omega) (HJ_1 _ _ _) ?_
                refine r_icmp_ge (tgt := 159) dX12_findOrder_151 (by decide) (fun c151 => ?_) (fun c151 => ?_)
                · have c151 : ¬ (omP w s N G (rM I w s N G b 104) b (N - (j + 1))) < (omF w s N G (rM I w s N G b 104) b j).1 := Int32.not_lt.mpr c151
                  refine r_aload_n dX12_findOrder_159 rfl ?_
                  refine g_getR dX12_findOrder_160 f_X12_28 (Mod.sg (by assumption)) rfl (Mod.r104 (by assumption)) ?_
                  refine r_iload_n dX12_findOrder_163 rfl ?_
                  refine g_iald dX12_findOrder_164 (Mod.s104 (by assumption)) rfl (by omega) (by omega) (HJ_1 _ _ _) ?_
                  refine g_top (show _ = (if (omP w s N G (rM I w s N G b 104) b (N - (j + 1))) < (omF w s N G (rM I w s N G b 104) b j).1 then (omP w s N G (rM I w s N G b 104) b (N - (j + 1))) else (omF w s N G (rM I w s N G b 104) b j).1) by first | (rw [if_pos c151]; done) | (rw [if_pos c151]; rfl) | (rw [if_neg c151]; done)) ?_
                  refine g_iast dX12_findOrder_165 (Mod.s104 (by assumption)) rfl (by omega) (by omega) ?_
                  refine JJ.to (h1 := (HJ (rM I w s N G b) b ((if (omP w s N G (rM I w s N G b 104) b (N - (j + 1))) < (omF w s N G (rM I w s N G b 104) b j).1 then (omP w s N G (rM I w s N G b 104) b (N - (j + 1))) else (omF w s N G (rM I w s N G b 104) b j).1), (if (omP w s N G (rM I w s N G b 104) b (N - (j + 1))) ≤ (omF w s N G (rM I w s N G b 104) b j).1 then nI (N - (j + 1)) else (omF w s N G (rM I w s N G b 104) b j).2)), R)) ?_ rfl rfl (by rw [HJ_s1])
                  refine r_iinc (L' := [_, _, _, _, _]) dX12_findOrder_166 rfl rfl rfl rfl ?_
                  refine r_goto (tgt := 41) dX12_findOrder_169 (by decide) ?_
                  first | (have e := omF_s w s N G (rM I w s N G b 104) b j; have cc := omC_1 (w := w) (N := N) (T := (rM I w s N G b 104)) c58 c66 c77; rw [omS_t cc] at e; exact JJ.wk_at 3 (JJ.wk_at 4 (JJ.to (K trivial) (by rw [dnN_s hN6 hj]; rfl) rfl (by rw [e])))) | (have e := omF_s w s N G (rM I w s N G b 104) b j; have cc := omC_2 (w := w) (N := N) (T := (rM I w s N G b 104)) c58; rw [omS_f cc] at e; exact JJ.wk_at 3 (JJ.wk_at 4 (JJ.to (K trivial) (by rw [dnN_s hN6 hj]; rfl) rfl (by rw [e])))) | (have e := omF_s w s N G (rM I w s N G b 104) b j; have cc := omC_3 (w := w) (N := N) (T := (rM I w s N G b 104)) c66; rw [omS_f cc] at e; exact JJ.wk_at 3 (JJ.wk_at 4 (JJ.to (K trivial) (by rw [dnN_s hN6 hj]; rfl) rfl (by rw [e])))) | (have e := omF_s w s N G (rM I w s N G b 104) b j; have cc := omC_4 (w := w) (N := N) (T := (rM I w s N G b 104)) c77; rw [omS_f cc] at e; exact JJ.wk_at 3 (JJ.wk_at 4 (JJ.to (K trivial) (by rw [dnN_s hN6 hj]; rfl) rfl (by rw [e]))))
                · have c151 : (omP w s N G (rM I w s N G b 104) b (N - (j + 1))) < (omF w s N G (rM I w s N G b 104) b j).1 := Int32.not_le.mp c151
                  refine r_iload dX12_findOrder_154 rfl ?_
                  refine r_goto (tgt := 165) dX12_findOrder_156 (by decide) ?_
                  refine g_top (show _ = (if (omP w s N G (rM I w s N G b 104) b (N - (j + 1))) < (omF w s N G (rM I w s N G b 104) b j).1 then (omP w s N G (rM I w s N G b 104) b (N - (j + 1))) else (omF w s N G (rM I w s N G b 104) b j).1) by first | (rw [if_pos c151]; done) | (rw [if_pos c151]; rfl) | (rw [if_neg c151]; done)) ?_
                  refine g_iast dX12_findOrder_165 (Mod.s104 (by assumption)) rfl (by omega) (by omega) ?_
                  refine JJ.to (h1 := (HJ (rM I w s N G b) b ((if (omP w s N G (rM I w s N G b 104) b (N - (j + 1))) < (omF w s N G (rM I w s N G b 104) b j).1 then (omP w s N G (rM I w s N G b 104) b (N - (j + 1))) else (omF w s N G (rM I w s N G b 104) b j).1), (if (omP w s N G (rM I w s N G b 104) b (N - (j + 1))) ≤ (omF w s N G (rM I w s N G b 104) b j).1 then nI (N - (j + 1)) else (omF w s N G (rM I w s N G b 104) b j).2)), R)) ?_ rfl rfl (by rw [HJ_s1])
                  refine r_iinc (L' := [_, _, _, _, _]) dX12_findOrder_166 rfl rfl rfl rfl ?_
                  refine r_goto (tgt := 41) dX12_findOrder_169 (by decide) ?_
                  first | (have e := omF_s w s N G (rM I w s N G b 104) b j; have cc := omC_1 (w := w) (N := N) (T := (rM I w s N G b 104)) c58 c66 c77; rw [omS_t cc] at e; exact JJ.wk_at 3 (JJ.wk_at 4 (JJ.to (K trivial) (by rw [dnN_s hN6 hj]; rfl) rfl (by rw [e])))) | (have e := omF_s w s N G (rM I w s N G b 104) b j; have cc := omC_2 (w := w) (N := N) (T := (rM I w s N G b 104)) c58; rw [omS_f cc] at e; exact JJ.wk_at 3 (JJ.wk_at 4 (JJ.to (K trivial) (by rw [dnN_s hN6 hj]; rfl) rfl (by rw [e])))) | (have e := omF_s w s N G (rM I w s N G b 104) b j; have cc := omC_3 (w := w) (N := N) (T := (rM I w s N G b 104)) c66; rw [omS_f cc] at e; exact JJ.wk_at 3 (JJ.wk_at 4 (JJ.to (K trivial) (by rw [dnN_s hN6 hj]; rfl) rfl (by rw [e])))) | (have e := omF_s w s N G (rM I w s N G b 104) b j; have cc := omC_4 (w := w) (N := N) (T := (rM I w s N G b 104)) c77; rw [omS_f cc] at e; exact JJ.wk_at 3 (JJ.wk_at 4 (JJ.to (K trivial) (by rw [dnN_s hN6 hj]; rfl) rfl (by rw [e]))))
              · have c124 : (omP w s N G (rM I w s N G b 104) b (N - (j + 1))) ≤ (omF w s N G (rM I w s N G b 104) b j).1 := Int32.not_lt.mp c124
                refine r_iload_n dX12_findOrder_127 rfl ?_
                refine r_goto (tgt := 137) dX12_findOrder_128 (by decide) ?_
                refine g_top (show _ = (if (omP w s N G (rM I w s N G b 104) b (N - (j + 1))) ≤ (omF w s N G (rM I w s N G b 104) b j).1 then nI (N - (j + 1)) else (omF w s N G (rM I w s N G b 104) b j).2) by first | (rw [if_pos c124]; done) | (rw [if_neg c124]; done)) ?_
                refine g_iast dX12_findOrder_137 (Mod.s105 (by assumption)) rfl (by omega) (by omega) ?_
                refine JJ.to (h1 := (HJ (rM I w s N G b) b ((omF w s N G (rM I w s N G b 104) b j).1, (if (omP w s N G (rM I w s N G b 104) b (N - (j + 1))) ≤ (omF w s N G (rM I w s N G b 104) b j).1 then nI (N - (j + 1)) else (omF w s N G (rM I w s N G b 104) b j).2)), R)) ?_ rfl rfl (by rw [HJ_s2])
                refine r_aload_n dX12_findOrder_138 rfl ?_
                refine g_getR dX12_findOrder_139 f_X12_28 (Mod.sg (by assumption)) rfl (Mod.r104 (by assumption)) ?_
                refine r_iload_n dX12_findOrder_142 rfl ?_
                refine r_iload dX12_findOrder_143 rfl ?_
                refine r_aload_n dX12_findOrder_145 rfl ?_
                refine g_getR dX12_findOrder_146 f_X12_28 (Mod.sg (by assumption)) rfl (Mod.r104 (by assumption)) ?_
                refine r_iload_n dX12_findOrder_149 rfl ?_
                refine g_iald dX12_findOrder_150 (Mod.s104 (by assumption)) rfl (by omega) (by omega) (HJ_1 _ _ _) ?_
                refine r_icmp_ge (tgt := 159) dX12_findOrder_151 (by decide) (fun c151 => ?_) (fun c151 => ?_)
                · have c151 : ¬ (omP w s N G (rM I w s N G b 104) b (N - (j + 1))) < (omF w s N G (rM I w s N G b 104) b j).1 := Int32.not_lt.mpr c151
                  refine r_aload_n dX12_findOrder_159 rfl ?_
                  refine g_getR dX12_findOrder_160 f_X12_28 (Mod.sg (by assumption)) rfl (Mod.r104 (by assumption)) ?_
                  refine r_iload_n dX12_findOrder_163 rfl ?_
                  refine g_iald dX12_findOrder_164 (Mod.s104 (by assumption)) rfl (by omega) (by omega) (HJ_1 _ _ _) ?_
                  refine g_top (show _ = (if (omP w s N G (rM I w s N G b 104) b (N - (j + 1))) < (omF w s N G (rM I w s N G b 104) b j).1 then (omP w s N G (rM I w s N G b 104) b (N - (j + 1))) else (omF w s N G (rM I w s N G b 104) b j).1) by first | (rw [if_pos c151]; done) | (rw [if_pos c151]; rfl) | (rw [if_neg c151]; done)) ?_
                  refine g_iast dX12_findOrder_165 (Mod.s104 (by assumption)) rfl (by omega) (by omega) ?_
                  refine JJ.to (h1 := (HJ (rM I w s N G b) b ((if (omP w s N G (rM I w s N G b 104) b (N - (j + 1))) < (omF w s N G (rM I w s N G b 104) b j).1 then (omP w s N G (rM I w s N G b 104) b (N - (j + 1))) else (omF w s N G (rM I w s N G b 104) b j).1), (if (omP w s N G (rM I w s N G b 104) b (N - (j + 1))) ≤ (omF w s N G (rM I w s N G b 104) b j).1 then nI (N - (j + 1)) else (omF w s N G (rM I w s N G b 104) b j).2)), R)) ?_ rfl rfl (by rw [HJ_s1])
                  refine r_iinc (L' := [_, _, _, _, _]) dX12_findOrder_166 rfl rfl rfl rfl ?_
                  refine r_goto (tgt := 41) dX12_findOrder_169 (by decide) ?_
                  first | (have e := omF_s w s N G (rM I w s N G b 104) b j; have cc := omC_1 (w := w) (N := N) (T := (rM I w s N G b 104)) c58 c66 c77; rw [omS_t cc] at e; exact JJ.wk_at 3 (JJ.wk_at 4 (JJ.to (K trivial) (by rw [dnN_s hN6 hj]; rfl) rfl (by rw [e])))) | (have e := omF_s w s N G (rM I w s N G b 104) b j; have cc := omC_2 (w := w) (N := N) (T := (rM I w s N G b 104)) c58; rw [omS_f cc] at e; exact JJ.wk_at 3 (JJ.wk_at 4 (JJ.to (K trivial) (by rw [dnN_s hN6 hj]; rfl) rfl (by rw [e])))) | (have e := omF_s w s N G (rM I w s N G b 104) b j; have cc := omC_3 (w := w) (N := N) (T := (rM I w s N G b 104)) c66; rw [omS_f cc] at e; exact JJ.wk_at 3 (JJ.wk_at 4 (JJ.to (K trivial) (by rw [dnN_s hN6 hj]; rfl) rfl (by rw [e])))) | (have e := omF_s w s N G (rM I w s N G b 104) b j; have cc := omC_4 (w := w) (N := N) (T := (rM I w s N G b 104)) c77; rw [omS_f cc] at e; exact JJ.wk_at 3 (JJ.wk_at 4 (JJ.to (K trivial) (by rw [dnN_s hN6 hj]; rfl) rfl (by rw [e]))))
                · have c151 : (omP w s N G (rM I w s N G b 104) b (N - (j + 1))) < (omF w s N G (rM I w s N G b 104) b j).1 := Int32.not_le.mp c151
                  refine r_iload dX12_findOrder_154 rfl ?_
                  refine r_goto (tgt := 165) dX12_findOrder_156 (by decide) ?_
                  refine g_top (show _ = (if (omP w s N G (rM I w s N G b 104) b (N - (j + 1))) < (omF w s N G (rM I w s N G b 104) b j).1 then (omP w s N G (rM I w s N G b 104) b (N - (j + 1))) else (omF w s N G (rM I w s N G b 104) b j).1) by first | (rw [if_pos c151]; done) | (rw [if_pos c151]; rfl) | (rw [if_neg c151]; done)) ?_
                  refine g_iast dX12_findOrder_165 (Mod.s104 (by assumption)) rfl (by omega) (by omega) ?_
                  refine JJ.to (h1 := (HJ (rM I w s N G b) b ((if (omP w s N G (rM I w s N G b 104) b (N - (j + 1))) < (omF w s N G (rM I w s N G b 104) b j).1 then (omP w s N G (rM I w s N G b 104) b (N - (j + 1))) else (omF w s N G (rM I w s N G b 104) b j).1), (if (omP w s N G (rM I w s N G b 104) b (N - (j + 1))) ≤ (omF w s N G (rM I w s N G b 104) b j).1 then nI (N - (j + 1)) else (omF w s N G (rM I w s N G b 104) b j).2)), R)) ?_ rfl rfl (by rw [HJ_s1])
                  refine r_iinc (L' := [_, _, _, _, _]) dX12_findOrder_166 rfl rfl rfl rfl ?_
                  refine r_goto (tgt := 41) dX12_findOrder_169 (by decide) ?_
                  first | (have e := omF_s w s N G (rM I w s N G b 104) b j; have cc := omC_1 (w := w) (N := N) (T := (rM I w s N G b 104)) c58 c66 c77; rw [omS_t cc] at e; exact JJ.wk_at 3 (JJ.wk_at 4 (JJ.to (K trivial) (by rw [dnN_s hN6 hj]; rfl) rfl (by rw [e])))) | (have e := omF_s w s N G (rM I w s N G b 104) b j; have cc := omC_2 (w := w) (N := N) (T := (rM I w s N G b 104)) c58; rw [omS_f cc] at e; exact JJ.wk_at 3 (JJ.wk_at 4 (JJ.to (K trivial) (by rw [dnN_s hN6 hj]; rfl) rfl (by rw [e])))) | (have e := omF_s w s N G (rM I w s N G b 104) b j; have cc := omC_3 (w := w) (N := N) (T := (rM I w s N G b 104)) c66; rw [omS_f cc] at e; exact JJ.wk_at 3 (JJ.wk_at 4 (JJ.to (K trivial) (by rw [dnN_s hN6 hj]; rfl) rfl (by rw [e])))) | (have e := omF_s w s N G (rM I w s N G b 104) b j; have cc := omC_4 (w := w) (N := N) (T := (rM I w s N G b 104)) c77; rw [omS_f cc] at e; exact JJ.wk_at 3 (JJ.wk_at 4 (JJ.to (K trivial) (by rw [dnN_s hN6 hj]; rfl) rfl (by rw [e]))))
    · skip
      refine r_iconst dX12_findOrder_17 ic_0 ?_
      refine r_goto (tgt := 23) dX12_findOrder_18 (by decide) ?_
      refine g_top (show _ = (if b = 0 then nI 0 else FARI) by first | (rw [if_pos c14]; done) | (rw [if_neg c14]; rfl)) ?_
      refine g_iast dX12_findOrder_23 (Mod.s104 (by assumption)) rfl (by omega) (by omega) ?_
      refine r_aload_n dX12_findOrder_24 rfl ?_
      refine g_getR dX12_findOrder_25 f_X12_31 (Mod.sg (by assumption)) rfl (Mod.r105 (by assumption)) ?_
      refine r_iload_n dX12_findOrder_28 rfl ?_
      refine r_bipush dX12_findOrder_29 bp_m4 ?_
      refine g_iast dX12_findOrder_31 (Mod.s105 (by assumption)) rfl (by omega) (by omega) ?_
      refine JJ.to (h1 := (HJ (rM I w s N G b) b (omF w s N G (rM I w s N G b 104) b 0), R)) ?_ rfl rfl rfl
      have hw2 : MoW (HJ (rM I w s N G b) b (omF w s N G (rM I w s N G b 104) b 0)) w N G := hw.fr ((HJ_o (by decide) (by decide)).trans (rM_o (by decide) (by decide) b)); have hd2 : MoD (HJ (rM I w s N G b) b (omF w s N G (rM I w s N G b 104) b 0)) 0 s hb := hd.fr ((HJ_o (by decide) (by decide)).trans (rM_o (by decide) (by decide) b))
      refine r_aload_n dX12_findOrder_32 rfl ?_
      refine g_getR dX12_findOrder_33 f_X12_7 (Mod.sg (by assumption)) rfl (Mod.r98 (by assumption)) ?_
      refine r_iconst dX12_findOrder_36 ic_0 ?_
      refine g_iald dX12_findOrder_37 (Mod.s98 (by assumption)) rfl (by omega) (by omega) hw2.n0 ?_
      refine r_iconst dX12_findOrder_38 ic_1 ?_
      refine r_isub dX12_findOrder_39 ?_
      refine r_istore_n (L' := [_, _, _, _, _]) dX12_findOrder_40 rfl rfl ?_
      refine JJ.loop N (fun j => [.ref 97, .int (nI b), .int (dnN N j), .retAddr 0, .retAddr 0]) (fun j => ((HJ (rM I w s N G b) b (omF w s N G (rM I w s N G b 104) b j)), R)) (fun j => True) rfl rfl trivial (fun hp => ?_) (fun j hj hp K => ?_)
      · skip
        refine r_iload_n dX12_findOrder_41 rfl ?_
        refine r_if_lt (tgt := 172) dX12_findOrder_42 (by decide) (fun c42 => ?_) (fun c42 => absurd (dnN_lt hN6) c42)
        refine r_iinc (L' := [_, _, _, _, _]) dX12_findOrder_172 rfl rfl (nI_inc _) rfl ?_
        refine r_goto (tgt := 2) dX12_findOrder_175 (by decide) ?_
        exact JJ.wk_at 2 (JJ.to (K trivial) rfl rfl rfl)
      · rw [dnN_n hj]; have hw2 : MoW (HJ (rM I w s N G b) b (omF w s N G (rM I w s N G b 104) b j)) w N G := hw.fr ((HJ_o (by decide) (by decide)).trans (rM_o (by decide) (by decide) b)); have hd2 : MoD (HJ (rM I w s N G b) b (omF w s N G (rM I w s N G b 104) b j)) 0 s hb := hd.fr ((HJ_o (by decide) (by decide)).trans (rM_o (by decide) (by decide) b)); have hcl := clr_le b (N - (j + 1))
        refine r_iload_n dX12_findOrder_41 rfl ?_
        refine n_if_lt (tgt := 172) dX12_findOrder_42 (by decide) (by omega) (fun c42 => absurd c42 (Nat.not_lt_zero _)) (fun c42 => ?_)
        refine r_iload_n dX12_findOrder_45 rfl ?_
        refine r_iconst dX12_findOrder_46 ic_1 ?_
        refine r_iload_n dX12_findOrder_47 rfl ?_
        refine r_ishl dX12_findOrder_48 ?_
        refine g_top (shl1 (by omega)) ?_
        refine r_iconst dX12_findOrder_49 ic_m1 ?_
        refine r_ixor dX12_findOrder_50 ?_
        refine r_iand dX12_findOrder_51 ?_
        refine g_top (clr_eq (by omega) (by omega)) ?_
        refine r_istore_n (L' := [_, _, _, _, _]) dX12_findOrder_52 rfl rfl ?_
        refine r_iload_n dX12_findOrder_53 rfl ?_
        refine r_iload_n dX12_findOrder_54 rfl ?_
        refine r_S2 dX12_findOrder_55 l_X12_114 k_X12_has s_X12_has (Nat.le_of_ble_eq_true rfl) (v_X12_has X _ (by omega) (by omega)) (List.prefix_refl S) ?_
        refine r_ifB_eq (tgt := 166) dX12_findOrder_58 (by decide) (fun c58 => ?_) (fun c58 => ?_)
        · skip
          refine r_iinc (L' := [_, _, _, _, _]) dX12_findOrder_166 rfl rfl rfl rfl ?_
          refine r_goto (tgt := 41) dX12_findOrder_169 (by decide) ?_
          first | (have e := omF_s w s N G (rM I w s N G b 104) b j; have cc := omC_1 (w := w) (N := N) (T := (rM I w s N G b 104)) c58 c66 c77; rw [omS_t cc] at e; exact JJ.wk_at 3 (JJ.wk_at 4 (JJ.to (K trivial) (by rw [dnN_s hN6 hj]; rfl) rfl (by rw [e])))) | (have e := omF_s w s N G (rM I w s N G b 104) b j; have cc := omC_2 (w := w) (N := N) (T := (rM I w s N G b 104)) c58; rw [omS_f cc] at e; exact JJ.wk_at 3 (JJ.wk_at 4 (JJ.to (K trivial) (by rw [dnN_s hN6 hj]; rfl) rfl (by rw [e])))) | (have e := omF_s w s N G (rM I w s N G b 104) b j; have cc := omC_3 (w := w) (N := N) (T := (rM I w s N G b 104)) c66; rw [omS_f cc] at e; exact JJ.wk_at 3 (JJ.wk_at 4 (JJ.to (K trivial) (by rw [dnN_s hN6 hj]; rfl) rfl (by rw [e])))) | (have e := omF_s w s N G (rM I w s N G b 104) b j; have cc := omC_4 (w := w) (N := N) (T := (rM I w s N G b 104)) c77; rw [omS_f cc] at e; exact JJ.wk_at 3 (JJ.wk_at 4 (JJ.to (K trivial) (by rw [dnN_s hN6 hj]; rfl) rfl (by rw [e]))))
        · skip
          refine r_aload_n dX12_findOrder_61 rfl ?_
          refine r_iload_n dX12_findOrder_62 rfl ?_
          refine r_V1 dX12_findOrder_63 l_X12_160 k_X12_isAlone i_X12_isAlone (Mod.sg (by assumption)) ⟨_, rfl⟩ (Nat.le_of_ble_eq_true rfl) (v_X12_isAlone X _ hm hw2 (by omega)) (List.prefix_refl S) ?_
          refine r_ifB_ne (tgt := 166) dX12_findOrder_66 (by decide) (fun c66 => ?_) (fun c66 => ?_)
          · skip
            refine r_iinc (L' := [_, _, _, _, _]) dX12_findOrder_166 rfl rfl rfl rfl ?_
            refine r_goto (tgt := 41) dX12_findOrder_169 (by decide) ?_
            first | (have e := omF_s w s N G (rM I w s N G b 104) b j; have cc := omC_1 (w := w) (N := N) (T := (rM I w s N G b 104)) c58 c66 c77; rw [omS_t cc] at e; exact JJ.wk_at 3 (JJ.wk_at 4 (JJ.to (K trivial) (by rw [dnN_s hN6 hj]; rfl) rfl (by rw [e])))) | (have e := omF_s w s N G (rM I w s N G b 104) b j; have cc := omC_2 (w := w) (N := N) (T := (rM I w s N G b 104)) c58; rw [omS_f cc] at e; exact JJ.wk_at 3 (JJ.wk_at 4 (JJ.to (K trivial) (by rw [dnN_s hN6 hj]; rfl) rfl (by rw [e])))) | (have e := omF_s w s N G (rM I w s N G b 104) b j; have cc := omC_3 (w := w) (N := N) (T := (rM I w s N G b 104)) c66; rw [omS_f cc] at e; exact JJ.wk_at 3 (JJ.wk_at 4 (JJ.to (K trivial) (by rw [dnN_s hN6 hj]; rfl) rfl (by rw [e])))) | (have e := omF_s w s N G (rM I w s N G b 104) b j; have cc := omC_4 (w := w) (N := N) (T := (rM I w s N G b 104)) c77; rw [omS_f cc] at e; exact JJ.wk_at 3 (JJ.wk_at 4 (JJ.to (K trivial) (by rw [dnN_s hN6 hj]; rfl) rfl (by rw [e]))))
          · skip
            refine r_aload_n dX12_findOrder_69 rfl ?_
            refine g_getR dX12_findOrder_70 f_X12_28 (Mod.sg (by assumption)) rfl (Mod.r104 (by assumption)) ?_
            refine r_iload_n dX12_findOrder_73 rfl ?_
            refine g_iald dX12_findOrder_74 (Mod.s104 (by assumption)) rfl (by omega) (by omega) ((HJ_ne (clr_ne c58))) ?_
            refine r_ldc dX12_findOrder_75 c_X12_176 ?_
            refine r_icmp_eq (tgt := 166) dX12_findOrder_77 (by decide) (fun c77 => ?_) (fun c77 => ?_)
            · skip
              refine r_iinc (L' := [_, _, _, _, _]) dX12_findOrder_166 rfl rfl rfl rfl ?_
              refine r_goto (tgt := 41) dX12_findOrder_169 (by decide) ?_
              first | (have e := omF_s w s N G (rM I w s N G b 104) b j; have cc := omC_1 (w := w) (N := N) (T := (rM I w s N G b 104)) c58 c66 c77; rw [omS_t cc] at e; exact JJ.wk_at 3 (JJ.wk_at 4 (JJ.to (K trivial) (by rw [dnN_s hN6 hj]; rfl) rfl (by rw [e])))) | (have e := omF_s w s N G (rM I w s N G b 104) b j; have cc := omC_2 (w := w) (N := N) (T := (rM I w s N G b 104)) c58; rw [omS_f cc] at e; exact JJ.wk_at 3 (JJ.wk_at 4 (JJ.to (K trivial) (by rw [dnN_s hN6 hj]; rfl) rfl (by rw [e])))) | (have e := omF_s w s N G (rM I w s N G b 104) b j; have cc := omC_3 (w := w) (N := N) (T := (rM I w s N G b 104)) c66; rw [omS_f cc] at e; exact JJ.wk_at 3 (JJ.wk_at 4 (JJ.to (K trivial) (by rw [dnN_s hN6 hj]; rfl) rfl (by rw [e])))) | (have e := omF_s w s N G (rM I w s N G b 104) b j; have cc := omC_4 (w := w) (N := N) (T := (rM I w s N G b 104)) c77; rw [omS_f cc] at e; exact JJ.wk_at 3 (JJ.wk_at 4 (JJ.to (K trivial) (by rw [dnN_s hN6 hj]; rfl) rfl (by rw [e]))))
            · skip
              refine r_aload_n dX12_findOrder_80 rfl ?_
              refine r_iload_n dX12_findOrder_81 rfl ?_
              refine r_aload_n dX12_findOrder_82 rfl ?_
              refine r_iconst dX12_findOrder_83 ic_0 ?_
              refine r_iload_n dX12_findOrder_84 rfl ?_
              refine r_bipush dX12_findOrder_85 bp_m4 ?_
              refine r_V3 dX12_findOrder_87 l_X12_130 k_X12_leftBy i_X12_leftBy (Mod.sg (by assumption)) ⟨_, rfl⟩ (Nat.le_of_ble_eq_true rfl) (v_X12_leftBy X _ hm hw2 hd2) (List.prefix_refl S) ?_
              rw [gLw_n hG8]
              refine r_aload_n dX12_findOrder_90 rfl ?_
              refine r_iload_n dX12_findOrder_91 rfl ?_
              refine r_iload_n dX12_findOrder_92 rfl ?_
              refine r_bipush dX12_findOrder_93 bp_m4 ?_
              refine r_V3 dX12_findOrder_95 l_X12_134 k_X12_lovedBy i_X12_lovedBy (Mod.sg (by assumption)) ⟨_, rfl⟩ (Nat.le_of_ble_eq_true rfl) (v_X12_lovedBy X _ hm hw2 (by omega) (by omega)) (List.prefix_refl S) ?_
              rw [lLw_n hN6]
              refine r_iadd dX12_findOrder_98 ?_
              refine r_V2 dX12_findOrder_99 l_X12_137 k_X12_dutyOf i_X12_dutyOf (Mod.sg (by assumption)) ⟨_, rfl⟩ (Nat.le_of_ble_eq_true rfl) (v_X12_dutyOf X _ hm hw2 (by omega)) (List.prefix_refl S) ?_
              refine r_aload_n dX12_findOrder_102 rfl ?_
              refine g_getR dX12_findOrder_103 f_X12_28 (Mod.sg (by assumption)) rfl (Mod.r104 (by assumption)) ?_
              refine r_iload_n dX12_findOrder_106 rfl ?_
              refine g_iald dX12_findOrder_107 (Mod.s104 (by assumption)) rfl (by omega) (by omega) ((HJ_ne (clr_ne c58))) ?_
              refine r_iadd dX12_findOrder_108 ?_
              refine r_istore (L' := [_, _, _, _, _]) dX12_findOrder_109 rfl rfl ?_
              refine r_aload_n dX12_findOrder_111 rfl ?_
              refine g_getR dX12_findOrder_112 f_X12_31 (Mod.sg (by assumption)) rfl (Mod.r105 (by assumption)) ?_
              refine r_iload_n dX12_findOrder_115 rfl ?_
              refine r_iload dX12_findOrder_116 rfl ?_
              refine r_aload_n dX12_findOrder_118 rfl ?_
              refine g_getR dX12_findOrder_119 f_X12_28 (Mod.sg (by assumption)) rfl (Mod.r104 (by assumption)) ?_
              refine r_iload_n dX12_findOrder_122 rfl ?_
              refine g_iald dX12_findOrder_123 (Mod.s104 (by assumption)) rfl (by omega) (by omega) (HJ_1 _ _ _) ?_
              refine r_icmp_gt (tgt := 131) dX12_findOrder_124 (by decide) (fun c124 => ?_) (fun c124 => ?_)
              · have c124 : ¬ (omP w s N G (rM I w s N G b 104) b (N - (j + 1))) ≤ (omF w s N G (rM I w s N G b 104) b j).1 := Int32.not_le.mpr c124
                refine r_aload_n dX12_findOrder_131 rfl ?_
                refine g_getR dX12_findOrder_132 f_X12_31 (Mod.sg (by assumption)) rfl (Mod.r105 (by assumption)) ?_
                refine r_iload_n dX12_findOrder_135 rfl ?_
                refine g_iald dX12_findOrder_136 (Mod.s105 (by assumption)) rfl (by omega) (by omega) (HJ_2 _ _ _) ?_
                refine g_top (show _ = (if (omP w s N G (rM I w s N G b 104) b (N - (j + 1))) ≤ (omF w s N G (rM I w s N G b 104) b j).1 then nI (N - (j + 1)) else (omF w s N G (rM I w s N G b 104) b j).2) by first | (rw [if_pos c124]; done) | (rw [if_neg c124]; done)) ?_
                refine g_iast dX12_findOrder_137 (Mod.s105 (by assumption)) rfl (by omega) (by omega) ?_
                refine JJ.to (h1 := (HJ (rM I w s N G b) b ((omF w s N G (rM I w s N G b 104) b j).1, (if (omP w s N G (rM I w s N G b 104) b (N - (j + 1))) ≤ (omF w s N G (rM I w s N G b 104) b j).1 then nI (N - (j + 1)) else (omF w s N G (rM I w s N G b 104) b j).2)), R)) ?_ rfl rfl (by rw [HJ_s2])
                refine r_aload_n dX12_findOrder_138 rfl ?_
                refine g_getR dX12_findOrder_139 f_X12_28 (Mod.sg (by assumption)) rfl (Mod.r104 (by assumption)) ?_
                refine r_iload_n dX12_findOrder_142 rfl ?_
                refine r_iload dX12_findOrder_143 rfl ?_
                refine r_aload_n dX12_findOrder_145 rfl ?_
                refine g_getR dX12_findOrder_146 f_X12_28 (Mod.sg (by assumption)) rfl (Mod.r104 (by assumption)) ?_
                refine r_iload_n dX12_findOrder_149 rfl ?_
                refine g_iald dX12_findOrder_150 (Mod.s104 (by assumption)) rfl (by omega) (by omega) (HJ_1 _ _ _) ?_
                refine r_icmp_ge (tgt := 159) dX12_findOrder_151 (by decide) (fun c151 => ?_) (fun c151 => ?_)
                · have c151 : ¬ (omP w s N G (rM I w s N G b 104) b (N - (j + 1))) < (omF w s N G (rM I w s N G b 104) b j).1 := Int32.not_lt.mpr c151
                  refine r_aload_n dX12_findOrder_159 rfl ?_
                  refine g_getR dX12_findOrder_160 f_X12_28 (Mod.sg (by assumption)) rfl (Mod.r104 (by assumption)) ?_
                  refine r_iload_n dX12_findOrder_163 rfl ?_
                  refine g_iald dX12_findOrder_164 (Mod.s104 (by assumption)) rfl (by omega) (by omega) (HJ_1 _ _ _) ?_
                  refine g_top (show _ = (if (omP w s N G (rM I w s N G b 104) b (N - (j + 1))) < (omF w s N G (rM I w s N G b 104) b j).1 then (omP w s N G (rM I w s N G b 104) b (N - (j + 1))) else (omF w s N G (rM I w s N G b 104) b j).1) by first | (rw [if_pos c151]; done) | (rw [if_pos c151]; rfl) | (rw [if_neg c151]; done)) ?_
                  refine g_iast dX12_findOrder_165 (Mod.s104 (by assumption)) rfl (by omega) (by omega) ?_
                  refine JJ.to (h1 := (HJ (rM I w s N G b) b ((if (omP w s N G (rM I w s N G b 104) b (N - (j + 1))) < (omF w s N G (rM I w s N G b 104) b j).1 then (omP w s N G (rM I w s N G b 104) b (N - (j + 1))) else (omF w s N G (rM I w s N G b 104) b j).1), (if (omP w s N G (rM I w s N G b 104) b (N - (j + 1))) ≤ (omF w s N G (rM I w s N G b 104) b j).1 then nI (N - (j + 1)) else (omF w s N G (rM I w s N G b 104) b j).2)), R)) ?_ rfl rfl (by rw [HJ_s1])
                  refine r_iinc (L' := [_, _, _, _, _]) dX12_findOrder_166 rfl rfl rfl rfl ?_
                  refine r_goto (tgt := 41) dX12_findOrder_169 (by decide) ?_
                  first | (have e := omF_s w s N G (rM I w s N G b 104) b j; have cc := omC_1 (w := w) (N := N) (T := (rM I w s N G b 104)) c58 c66 c77; rw [omS_t cc] at e; exact JJ.wk_at 3 (JJ.wk_at 4 (JJ.to (K trivial) (by rw [dnN_s hN6 hj]; rfl) rfl (by rw [e])))) | (have e := omF_s w s N G (rM I w s N G b 104) b j; have cc := omC_2 (w := w) (N := N) (T := (rM I w s N G b 104)) c58; rw [omS_f cc] at e; exact JJ.wk_at 3 (JJ.wk_at 4 (JJ.to (K trivial) (by rw [dnN_s hN6 hj]; rfl) rfl (by rw [e])))) | (have e := omF_s w s N G (rM I w s N G b 104) b j; have cc := omC_3 (w := w) (N := N) (T := (rM I w s N G b 104)) c66; rw [omS_f cc] at e; exact JJ.wk_at 3 (JJ.wk_at 4 (JJ.to (K trivial) (by rw [dnN_s hN6 hj]; rfl) rfl (by rw [e])))) | (have e := omF_s w s N G (rM I w s N G b 104) b j; have cc := omC_4 (w := w) (N := N) (T := (rM I w s N G b 104)) c77; rw [omS_f cc] at e; exact JJ.wk_at 3 (JJ.wk_at 4 (JJ.to (K trivial) (by rw [dnN_s hN6 hj]; rfl) rfl (by rw [e]))))
                · have c151 : (omP w s N G (rM I w s N G b 104) b (N - (j + 1))) < (omF w s N G (rM I w s N G b 104) b j).1 := Int32.not_le.mp c151
                  refine r_iload dX12_findOrder_154 rfl ?_
                  refine r_goto (tgt := 165) dX12_findOrder_156 (by decide) ?_
                  refine g_top (show _ = (if (omP w s N G (rM I w s N G b 104) b (N - (j + 1))) < (omF w s N G (rM I w s N G b 104) b j).1 then (omP w s N G (rM I w s N G b 104) b (N - (j + 1))) else (omF w s N G (rM I w s N G b 104) b j).1) by first | (rw [if_pos c151]; done) | (rw [if_pos c151]; rfl) | (rw [if_neg c151]; done)) ?_
                  refine g_iast dX12_findOrder_165 (Mod.s104 (by assumption)) rfl (by omega) (by omega) ?_
                  refine JJ.to (h1 := (HJ (rM I w s N G b) b ((if (omP w s N G (rM I w s N G b 104) b (N - (j + 1))) < (omF w s N G (rM I w s N G b 104) b j).1 then (omP w s N G (rM I w s N G b 104) b (N - (j + 1))) else (omF w s N G (rM I w s N G b 104) b j).1), (if (omP w s N G (rM I w s N G b 104) b (N - (j + 1))) ≤ (omF w s N G (rM I w s N G b 104) b j).1 then nI (N - (j + 1)) else (omF w s N G (rM I w s N G b 104) b j).2)), R)) ?_ rfl rfl (by rw [HJ_s1])
                  refine r_iinc (L' := [_, _, _, _, _]) dX12_findOrder_166 rfl rfl rfl rfl ?_
                  refine r_goto (tgt := 41) dX12_findOrder_169 (by decide) ?_
                  first | (have e := omF_s w s N G (rM I w s N G b 104) b j; have cc := omC_1 (w := w) (N := N) (T := (rM I w s N G b 104)) c58 c66 c77; rw [omS_t cc] at e; exact JJ.wk_at 3 (JJ.wk_at 4 (JJ.to (K trivial) (by rw [dnN_s hN6 hj]; rfl) rfl (by rw [e])))) | (have e := omF_s w s N G (rM I w s N G b 104) b j; have cc := omC_2 (w := w) (N := N) (T := (rM I w s N G b 104)) c58; rw [omS_f cc] at e; exact JJ.wk_at 3 (JJ.wk_at 4 (JJ.to (K trivial) (by rw [dnN_s hN6 hj]; rfl) rfl (by rw [e])))) | (have e := omF_s w s N G (rM I w s N G b 104) b j; have cc := omC_3 (w := w) (N := N) (T := (rM I w s N G b 104)) c66; rw [omS_f cc] at e; exact JJ.wk_at 3 (JJ.wk_at 4 (JJ.to (K trivial) (by rw [dnN_s hN6 hj]; rfl) rfl (by rw [e])))) | (have e := omF_s w s N G (rM I w s N G b 104) b j; have cc := omC_4 (w := w) (N := N) (T := (rM I w s N G b 104)) c77; rw [omS_f cc] at e; exact JJ.wk_at 3 (JJ.wk_at 4 (JJ.to (K trivial) (by rw [dnN_s hN6 hj]; rfl) rfl (by rw [e]))))
              · have c124 : (omP w s N G (rM I w s N G b 104) b (N - (j + 1))) ≤ (omF w s N G (rM I w s N G b 104) b j).1 := Int32.not_lt.mp c124
                refine r_iload_n dX12_findOrder_127 rfl ?_
                refine r_goto (tgt := 137) dX12_findOrder_128 (by decide) ?_
                refine g_top (show _ = (if (omP w s N G (rM I w s N G b 104) b (N - (j + 1))) ≤ (omF w s N G (rM I w s N G b 104) b j).1 then nI (N - (j + 1)) else (omF w s N G (rM I w s N G b 104) b j).2) by first | (rw [if_pos c124]; done) | (rw [if_neg c124]; done)) ?_
                refine g_iast dX12_findOrder_137 (Mod.s105 (by assumption)) rfl (by omega) (by omega) ?_
                refine JJ.to (h1 := (HJ (rM I w s N G b) b ((omF w s N G (rM I w s N G b 104) b j).1, (if (omP w s N G (rM I w s N G b 104) b (N - (j + 1))) ≤ (omF w s N G (rM I w s N G b 104) b j).1 then nI (N - (j + 1)) else (omF w s N G (rM I w s N G b 104) b j).2)), R)) ?_ rfl rfl (by rw [HJ_s2])
                refine r_aload_n dX12_findOrder_138 rfl ?_
                refine g_getR dX12_findOrder_139 f_X12_28 (Mod.sg (by assumption)) rfl (Mod.r104 (by assumption)) ?_
                refine r_iload_n dX12_findOrder_142 rfl ?_
                refine r_iload dX12_findOrder_143 rfl ?_
                refine r_aload_n dX12_findOrder_145 rfl ?_
                refine g_getR dX12_findOrder_146 f_X12_28 (Mod.sg (by assumption)) rfl (Mod.r104 (by assumption)) ?_
                refine r_iload_n dX12_findOrder_149 rfl ?_
                refine g_iald dX12_findOrder_150 (Mod.s104 (by assumption)) rfl (by omega) (by omega) (HJ_1 _ _ _) ?_
                refine r_icmp_ge (tgt := 159) dX12_findOrder_151 (by decide) (fun c151 => ?_) (fun c151 => ?_)
                · have c151 : ¬ (omP w s N G (rM I w s N G b 104) b (N - (j + 1))) < (omF w s N G (rM I w s N G b 104) b j).1 := Int32.not_lt.mpr c151
                  refine r_aload_n dX12_findOrder_159 rfl ?_
                  refine g_getR dX12_findOrder_160 f_X12_28 (Mod.sg (by assumption)) rfl (Mod.r104 (by assumption)) ?_
                  refine r_iload_n dX12_findOrder_163 rfl ?_
                  refine g_iald dX12_findOrder_164 (Mod.s104 (by assumption)) rfl (by omega) (by omega) (HJ_1 _ _ _) ?_
                  refine g_top (show _ = (if (omP w s N G (rM I w s N G b 104) b (N - (j + 1))) < (omF w s N G (rM I w s N G b 104) b j).1 then (omP w s N G (rM I w s N G b 104) b (N - (j + 1))) else (omF w s N G (rM I w s N G b 104) b j).1) by first | (rw [if_pos c151]; done) | (rw [if_pos c151]; rfl) | (rw [if_neg c151]; done)) ?_
                  refine g_iast dX12_findOrder_165 (Mod.s104 (by assumption)) rfl (by omega) (by omega) ?_
                  refine JJ.to (h1 := (HJ (rM I w s N G b) b ((if (omP w s N G (rM I w s N G b 104) b (N - (j + 1))) < (omF w s N G (rM I w s N G b 104) b j).1 then (omP w s N G (rM I w s N G b 104) b (N - (j + 1))) else (omF w s N G (rM I w s N G b 104) b j).1), (if (omP w s N G (rM I w s N G b 104) b (N - (j + 1))) ≤ (omF w s N G (rM I w s N G b 104) b j).1 then nI (N - (j + 1)) else (omF w s N G (rM I w s N G b 104) b j).2)), R)) ?_ rfl rfl (by rw [HJ_s1])
                  refine r_iinc (L' := [_, _, _, _, _]) dX12_findOrder_166 rfl rfl rfl rfl ?_
                  refine r_goto (tgt := 41) dX12_findOrder_169 (by decide) ?_
                  first | (have e := omF_s w s N G (rM I w s N G b 104) b j; have cc := omC_1 (w := w) (N := N) (T := (rM I w s N G b 104)) c58 c66 c77; rw [omS_t cc] at e; exact JJ.wk_at 3 (JJ.wk_at 4 (JJ.to (K trivial) (by rw [dnN_s hN6 hj]; rfl) rfl (by rw [e])))) | (have e := omF_s w s N G (rM I w s N G b 104) b j; have cc := omC_2 (w := w) (N := N) (T := (rM I w s N G b 104)) c58; rw [omS_f cc] at e; exact JJ.wk_at 3 (JJ.wk_at 4 (JJ.to (K trivial) (by rw [dnN_s hN6 hj]; rfl) rfl (by rw [e])))) | (have e := omF_s w s N G (rM I w s N G b 104) b j; have cc := omC_3 (w := w) (N := N) (T := (rM I w s N G b 104)) c66; rw [omS_f cc] at e; exact JJ.wk_at 3 (JJ.wk_at 4 (JJ.to (K trivial) (by rw [dnN_s hN6 hj]; rfl) rfl (by rw [e])))) | (have e := omF_s w s N G (rM I w s N G b 104) b j; have cc := omC_4 (w := w) (N := N) (T := (rM I w s N G b 104)) c77; rw [omS_f cc] at e; exact JJ.wk_at 3 (JJ.wk_at 4 (JJ.to (K trivial) (by rw [dnN_s hN6 hj]; rfl) rfl (by rw [e]))))
                · have c151 : (omP w s N G (rM I w s N G b 104) b (N - (j + 1))) < (omF w s N G (rM I w s N G b 104) b j).1 := Int32.not_le.mp c151
                  refine r_iload dX12_findOrder_154 rfl ?_
                  refine r_goto (tgt := 165) dX12_findOrder_156 (by decide) ?_
                  refine g_top (show _ = (if (omP w s N G (rM I w s N G b 104) b (N - (j + 1))) < (omF w s N G (rM I w s N G b 104) b j).1 then (omP w s N G (rM I w s N G b 104) b (N - (j + 1))) else (omF w s N G (rM I w s N G b 104) b j).1) by first | (rw [if_pos c151]; done) | (rw [if_pos c151]; rfl) | (rw [if_neg c151]; done)) ?_
                  refine g_iast dX12_findOrder_165 (Mod.s104 (by assumption)) rfl (by omega) (by omega) ?_
                  refine JJ.to (h1 := (HJ (rM I w s N G b) b ((if (omP w s N G (rM I w s N G b 104) b (N - (j + 1))) < (omF w s N G (rM I w s N G b 104) b j).1 then (omP w s N G (rM I w s N G b 104) b (N - (j + 1))) else (omF w s N G (rM I w s N G b 104) b j).1), (if (omP w s N G (rM I w s N G b 104) b (N - (j + 1))) ≤ (omF w s N G (rM I w s N G b 104) b j).1 then nI (N - (j + 1)) else (omF w s N G (rM I w s N G b 104) b j).2)), R)) ?_ rfl rfl (by rw [HJ_s1])
                  refine r_iinc (L' := [_, _, _, _, _]) dX12_findOrder_166 rfl rfl rfl rfl ?_
                  refine r_goto (tgt := 41) dX12_findOrder_169 (by decide) ?_
                  first | (have e := omF_s w s N G (rM I w s N G b 104) b j; have cc := omC_1 (w := w) (N := N) (T := (rM I w s N G b 104)) c58 c66 c77; rw [omS_t cc] at e; exact JJ.wk_at 3 (JJ.wk_at 4 (JJ.to (K trivial) (by rw [dnN_s hN6 hj]; rfl) rfl (by rw [e])))) | (have e := omF_s w s N G (rM I w s N G b 104) b j; have cc := omC_2 (w := w) (N := N) (T := (rM I w s N G b 104)) c58; rw [omS_f cc] at e; exact JJ.wk_at 3 (JJ.wk_at 4 (JJ.to (K trivial) (by rw [dnN_s hN6 hj]; rfl) rfl (by rw [e])))) | (have e := omF_s w s N G (rM I w s N G b 104) b j; have cc := omC_3 (w := w) (N := N) (T := (rM I w s N G b 104)) c66; rw [omS_f cc] at e; exact JJ.wk_at 3 (JJ.wk_at 4 (JJ.to (K trivial) (by rw [dnN_s hN6 hj]; rfl) rfl (by rw [e])))) | (have e := omF_s w s N G (rM I w s N G b 104) b j; have cc := omC_4 (w := w) (N := N) (T := (rM I w s N G b 104)) c77; rw [omS_f cc] at e; exact JJ.wk_at 3 (JJ.wk_at 4 (JJ.to (K trivial) (by rw [dnN_s hN6 hj]; rfl) rfl (by rw [e]))))

theorem is6_in {k : Nat} (hk : k < 100) : (!decide ((nI k).toInt64 < lN 0) && !decide (lN 6 < (nI k).toInt64)) = decide (k ≤ 6) := by rw [in_n (by omega) (by decide) (by decide)]; simp
/-- the leaving one by one: those here, the last who left -/
def lvO (F : Nat → Int32) (b n : Nat) : Nat × Int32 := nFold n (fun _ q => if F q.1 = -4 then (q.1, -4) else (clr q.1 (F q.1).toNatClampNeg, F q.1)) (b, -4)
theorem lvO_s (F : Nat → Int32) (b n : Nat) : lvO F b (n + 1) = if F (lvO F b n).1 = -4 then ((lvO F b n).1, -4) else (clr (lvO F b n).1 (F (lvO F b n).1).toNatClampNeg, F (lvO F b n).1) := rfl
theorem lvO_le (F : Nat → Int32) (b : Nat) : ∀ n, (lvO F b n).1 ≤ b
  | 0 => Nat.le_refl _
  | n + 1 => by
    rw [lvO_s]
    have h := lvO_le F b n
    split
    · exact h
    · exact Nat.le_trans (clr_le _ _) h
set_option maxHeartbeats 4000000 in
set_option maxRecDepth 100000 in
theorem v_X12_order_0 (X : mCx) (d : Nat) {S : mSh} {I : mI} {R : mR} {w s : Nat → Int32} {N G hb : Nat} (hm : Mod S R) (hw : MoW I w N G) (hd : MoD I 0 s hb) (hb6 : hb < 64) : CC X (d + 4) M_X12_order [.ref 97, .int (nI 0)] S (I, R) (some (.int (if rM I w s N G 64 104 hb = FARI then -4 else rM I w s N G 64 104 hb))) S (rM I w s N G 64, R) := by
  have hN6 := hw.N6
  have hG8 := hw.G8
  have h256 := hd.b256
  refine CC.of2 (L := [.ref 97, .int (nI 0), .retAddr 0, .retAddr 0, .retAddr 0]) p_X12 (Nat.le_of_ble_eq_true rfl) rfl rfl (List.prefix_refl S) ?_
  refine r_iload_n dX12_order_0 rfl ?_
  refine r_i2l dX12_order_1 rfl ?_
  refine r_lconst (v := lN 0) dX12_order_2 rfl ?_
  refine r_ldc2 dX12_order_3 c_X12_177 ?_
  refine r_S3 dX12_order_6 l_X12_62 k_X12_in s_X12_in (Nat.le_of_ble_eq_true rfl) (v_X12_in X _ ) (List.prefix_refl S) ?_
  refine g_top (congrArg bI (is6_in (k := 0) (by decide))) ?_
  refine r_ifB_ne (tgt := 14) dX12_order_9 (by decide) (fun c9 => ?_) (fun c9 => absurd c9 (by decide))
  refine r_aload_n dX12_order_14 rfl ?_
  refine r_V0 dX12_order_15 l_X12_179 k_X12_findOrder i_X12_findOrder (Mod.sg (by assumption)) ⟨_, rfl⟩ (Nat.le_of_ble_eq_true rfl) (v_X12_findOrder X _ hm hw hd) (List.prefix_refl S) ?_
  have hd2 : MoD (rM I w s N G 64) 0 s hb := hd.fr (rM_o (by decide) (by decide) 64)
  refine r_aload_n dX12_order_18 rfl ?_
  refine g_getR dX12_order_19 f_X12_13 (Mod.sg (by assumption)) rfl (Mod.r99 (by assumption)) ?_
  refine r_iconst dX12_order_22 ic_0 ?_
  refine g_iald dX12_order_23 (Mod.s99 (by assumption)) rfl (by omega) (by omega) (hd2.h0 rfl) ?_
  refine r_istore_n (L' := [_, _, _, _, _]) dX12_order_24 rfl rfl ?_
  refine r_iload_n dX12_order_25 rfl ?_
  refine n_if_ne (tgt := 52) dX12_order_26 (by decide) (by omega) (fun c26 => absurd rfl c26) (fun c26 => ?_)
  refine r_aload_n dX12_order_29 rfl ?_
  refine g_getR dX12_order_30 f_X12_28 (Mod.sg (by assumption)) rfl (Mod.r104 (by assumption)) ?_
  refine r_iload_n dX12_order_33 rfl ?_
  refine g_iald dX12_order_34 (Mod.s104 (by assumption)) rfl (by omega) (by omega) rfl ?_
  refine r_ldc dX12_order_35 c_X12_176 ?_
  refine r_icmp_ne (tgt := 45) dX12_order_37 (by decide) (fun c37 => ?_) (fun c37 => ?_)
  · have c37 : ¬ rM I w s N G 64 104 hb = FARI := c37
    refine r_aload_n dX12_order_45 rfl ?_
    refine g_getR dX12_order_46 f_X12_28 (Mod.sg (by assumption)) rfl (Mod.r104 (by assumption)) ?_
    refine r_iload_n dX12_order_49 rfl ?_
    refine g_iald dX12_order_50 (Mod.s104 (by assumption)) rfl (by omega) (by omega) rfl ?_
    exact g_iret dX12_order_51 (by first | (rw [if_neg c37]; done) | (rw [if_pos (Classical.byContradiction (fun z => c37 z))]; done) | (rw [if_pos c37]; done)) rfl
  · have c37 : rM I w s N G 64 104 hb = FARI := c37
    refine r_bipush dX12_order_40 bp_m4 ?_
    refine r_goto (tgt := 51) dX12_order_42 (by decide) ?_
    exact g_iret dX12_order_51 (by first | (rw [if_neg c37]; done) | (rw [if_pos (Classical.byContradiction (fun z => c37 z))]; done) | (rw [if_pos c37]; done)) rfl

set_option maxHeartbeats 4000000 in
set_option maxRecDepth 100000 in
theorem g_or1 (X : mCx) (d : Nat) {S : mSh} {I : mI} {R : mR} {k b n : Nat} {x : Int32} {r : Option Value} {h : mHp} (hm : Mod S R) (hb : b < 64) (hk : k ≤ 6) (hn : n < k) (e : I 105 b = -4) (K : JJ X M_X12_order (d + 4) 58 [.ref 97, .int (nI k), .int (nI b), .int (-4), .int (nI (n + 1))] [] S (I, R) r S h) : JJ X M_X12_order (d + 4) 58 [.ref 97, .int (nI k), .int (nI b), .int x, .int (nI n)] [] S (I, R) (r) S h := by
  refine r_iload dX12_order_58 rfl ?_
  refine r_iload_n dX12_order_60 rfl ?_
  refine n_icmp_ge (tgt := 95) dX12_order_61 (by decide) (by omega) (by omega) (fun c61 => absurd c61 (by omega)) (fun c61 => ?_)
  refine r_aload_n dX12_order_64 rfl ?_
  refine g_getR dX12_order_65 f_X12_31 (Mod.sg (by assumption)) rfl (Mod.r105 (by assumption)) ?_
  refine r_iload_n dX12_order_68 rfl ?_
  refine g_iald dX12_order_69 (Mod.s105 (by assumption)) rfl (by omega) (by omega) e ?_
  refine r_istore_n (L' := [_, _, _, _, _]) dX12_order_70 rfl rfl ?_
  refine r_iload_n dX12_order_71 rfl ?_
  refine r_iload_n dX12_order_72 rfl ?_
  refine r_bipush dX12_order_73 bp_m4 ?_
  refine r_icmp_ne (tgt := 82) dX12_order_75 (by decide) (fun c75 => absurd rfl c75) (fun c75 => ?_)
  refine r_iload_n dX12_order_78 rfl ?_
  refine r_goto (tgt := 87) dX12_order_79 (by decide) ?_
  refine r_iand dX12_order_87 ?_
  refine g_top (nI_and _ _) ?_
  refine r_istore_n (L' := [_, _, _, _, _]) dX12_order_88 rfl rfl ?_
  refine r_iinc (L' := [_, _, _, _, _]) dX12_order_89 rfl rfl (nI_inc _) rfl ?_
  (try rw [Nat.and_self]); exact r_goto (tgt := 58) dX12_order_92 (by decide) K

set_option maxHeartbeats 4000000 in
set_option maxRecDepth 100000 in
theorem g_or2 (X : mCx) (d : Nat) {S : mSh} {I : mI} {R : mR} {k b n : Nat} {x : Int32} {r : Option Value} {h : mHp} (hm : Mod S R) {i : Nat} (hb : b < 64) (hk : k ≤ 6) (hn : n < k) (hi : i < 6) (e : I 105 b = nI i) (K : JJ X M_X12_order (d + 4) 58 [.ref 97, .int (nI k), .int (nI (clr b i)), .int (nI i), .int (nI (n + 1))] [] S (I, R) r S h) : JJ X M_X12_order (d + 4) 58 [.ref 97, .int (nI k), .int (nI b), .int x, .int (nI n)] [] S (I, R) (r) S h := by
  refine r_iload dX12_order_58 rfl ?_
  refine r_iload_n dX12_order_60 rfl ?_
  refine n_icmp_ge (tgt := 95) dX12_order_61 (by decide) (by omega) (by omega) (fun c61 => absurd c61 (by omega)) (fun c61 => ?_)
  refine r_aload_n dX12_order_64 rfl ?_
  refine g_getR dX12_order_65 f_X12_31 (Mod.sg (by assumption)) rfl (Mod.r105 (by assumption)) ?_
  refine r_iload_n dX12_order_68 rfl ?_
  refine g_iald dX12_order_69 (Mod.s105 (by assumption)) rfl (by omega) (by omega) e ?_
  refine r_istore_n (L' := [_, _, _, _, _]) dX12_order_70 rfl rfl ?_
  refine r_iload_n dX12_order_71 rfl ?_
  refine r_iload_n dX12_order_72 rfl ?_
  refine r_bipush dX12_order_73 bp_m4 ?_
  refine r_icmp_ne (tgt := 82) dX12_order_75 (by decide) (fun c75 => ?_) (fun c75 => absurd c75 (nI_ne4 (by omega)))
  refine r_iconst dX12_order_82 ic_1 ?_
  refine r_iload_n dX12_order_83 rfl ?_
  refine r_ishl dX12_order_84 ?_
  refine g_top (shl1 (by omega)) ?_
  refine r_iconst dX12_order_85 ic_m1 ?_
  refine r_ixor dX12_order_86 ?_
  refine r_iand dX12_order_87 ?_
  refine g_top (clr_eq (by omega) (by omega)) ?_
  refine r_istore_n (L' := [_, _, _, _, _]) dX12_order_88 rfl rfl ?_
  refine r_iinc (L' := [_, _, _, _, _]) dX12_order_89 rfl rfl (nI_inc _) rfl ?_
  (try rw [Nat.and_self]); exact r_goto (tgt := 58) dX12_order_92 (by decide) K

set_option maxHeartbeats 4000000 in
set_option maxRecDepth 100000 in
theorem g_or3 (X : mCx) (d : Nat) {S : mSh} {I : mI} {R : mR} {k b n : Nat} {x : Int32} (hm : Mod S R) (hk : k ≤ 6) (hn : n = k)  : JJ X M_X12_order (d + 4) 58 [.ref 97, .int (nI k), .int (nI b), .int x, .int (nI n)] [] S (I, R) (some (.int x)) S (I, R) := by
  refine r_iload dX12_order_58 rfl ?_
  refine r_iload_n dX12_order_60 rfl ?_
  refine n_icmp_ge (tgt := 95) dX12_order_61 (by decide) (by omega) (by omega) (fun c61 => ?_) (fun c61 => absurd c61 (by omega))
  refine r_iload_n dX12_order_95 rfl ?_
  exact g_iret dX12_order_96 rfl rfl

set_option maxHeartbeats 4000000 in
set_option maxRecDepth 100000 in
theorem g_or0 (X : mCx) (d : Nat) {S : mSh} {I : mI} {R : mR} {w s : Nat → Int32} {N G hb k : Nat} {r : Int32} (hm : Mod S R) (hw : MoW I w N G) (hd : MoD I 0 s hb) (hk1 : 1 ≤ k) (hk : k ≤ 6) (K : JJ X M_X12_order (d + 4) 58 [.ref 97, .int (nI k), .int (nI hb), .int (-4), .int (nI 0)] [] S (rM I w s N G 64, R) (some (.int r)) S (rM I w s N G 64, R)) : CC X (d + 4) M_X12_order [.ref 97, .int (nI k)] S (I, R) (some (.int r)) S (rM I w s N G 64, R) := by
  have hN6 := hw.N6
  have hG8 := hw.G8
  have h256 := hd.b256
  refine CC.of2 (L := [.ref 97, .int (nI k), .retAddr 0, .retAddr 0, .retAddr 0]) p_X12 (Nat.le_of_ble_eq_true rfl) rfl rfl (List.prefix_refl S) ?_
  refine r_iload_n dX12_order_0 rfl ?_
  refine r_i2l dX12_order_1 rfl ?_
  refine r_lconst (v := lN 0) dX12_order_2 rfl ?_
  refine r_ldc2 dX12_order_3 c_X12_177 ?_
  refine r_S3 dX12_order_6 l_X12_62 k_X12_in s_X12_in (Nat.le_of_ble_eq_true rfl) (v_X12_in X _ ) (List.prefix_refl S) ?_
  refine g_top (congrArg bI (is6_in (k := k) (by omega))) ?_
  refine r_ifB_ne (tgt := 14) dX12_order_9 (by decide) (fun c9 => ?_) (fun c9 => absurd (show decide (k ≤ 6) = true by simp [hk]) (by rw [c9]; decide))
  refine r_aload_n dX12_order_14 rfl ?_
  refine r_V0 dX12_order_15 l_X12_179 k_X12_findOrder i_X12_findOrder (Mod.sg (by assumption)) ⟨_, rfl⟩ (Nat.le_of_ble_eq_true rfl) (v_X12_findOrder X _ hm hw hd) (List.prefix_refl S) ?_
  have hd2 : MoD (rM I w s N G 64) 0 s hb := hd.fr (rM_o (by decide) (by decide) 64)
  refine r_aload_n dX12_order_18 rfl ?_
  refine g_getR dX12_order_19 f_X12_13 (Mod.sg (by assumption)) rfl (Mod.r99 (by assumption)) ?_
  refine r_iconst dX12_order_22 ic_0 ?_
  refine g_iald dX12_order_23 (Mod.s99 (by assumption)) rfl (by omega) (by omega) (hd2.h0 rfl) ?_
  refine r_istore_n (L' := [_, _, _, _, _]) dX12_order_24 rfl rfl ?_
  refine r_iload_n dX12_order_25 rfl ?_
  refine n_if_ne (tgt := 52) dX12_order_26 (by decide) (by omega) (fun c26 => ?_) (fun c26 => absurd c26 (by omega))
  refine r_bipush dX12_order_52 bp_m4 ?_
  refine r_istore_n (L' := [_, _, _, _, _]) dX12_order_54 rfl rfl ?_
  refine r_iconst dX12_order_55 ic_0 ?_
  refine r_istore (L' := [_, _, _, _, _]) dX12_order_56 rfl rfl ?_
  exact K

theorem v_X12_order_t (X : mCx) (d : Nat) {S : mSh} {I : mI} {R : mR} {w s : Nat → Int32} {N G hb k : Nat} (hm : Mod S R) (hw : MoW I w N G) (hd : MoD I 0 s hb) (hb6 : hb < 64) (hk1 : 1 ≤ k) (hk : k ≤ 6) (hF : ∀ b, b < 64 → rM I w s N G 64 105 b = -4 ∨ ∃ i, i < 6 ∧ rM I w s N G 64 105 b = nI i) : CC X (d + 4) M_X12_order [.ref 97, .int (nI k)] S (I, R) (some (.int (lvO (rM I w s N G 64 105) hb k).2)) S (rM I w s N G 64, R) := by
  refine g_or0 X d hm hw hd hk1 hk ?_
  have main : ∀ j n, n + j = k → JJ X M_X12_order (d + 4) 58 [.ref 97, .int (nI k), .int (nI (lvO (rM I w s N G 64 105) hb n).1), .int (lvO (rM I w s N G 64 105) hb n).2, .int (nI n)] [] S (rM I w s N G 64, R) (some (.int (lvO (rM I w s N G 64 105) hb k).2)) S (rM I w s N G 64, R) := by
    intro j
    induction j with
    | zero =>
      intro n hn
      rw [show k = n by omega]
      rw [show k = n by omega] at hk
      exact g_or3 X d hm hk rfl
    | succ j ih =>
      intro n hn
      have hl := lvO_le (rM I w s N G 64 105) hb n
      have K := ih (n + 1) (by omega)
      rcases hF (lvO (rM I w s N G 64 105) hb n).1 (by omega) with e | ⟨i, hi, e⟩
      · rw [lvO_s, if_pos e] at K
        exact g_or1 X d hm (by omega) hk (by omega) e K
      · rw [lvO_s, if_neg (by rw [e]; exact nI_ne4 (by omega)), e, nI_clamp (by omega)] at K
        exact g_or2 X d hm (by omega) hk (by omega) hi e K
  exact main k 0 (by omega)
set_option maxHeartbeats 4000000 in
set_option maxRecDepth 100000 in
theorem v_X12_order_f (X : mCx) (d : Nat) {S : mSh} {I : mI} {R : mR} {x : Int32} (hm : Mod S R) (hx : (!decide (x.toInt64 < lN 0) && !decide (lN 6 < x.toInt64)) = false) : CC X (d + 2) M_X12_order [.ref 97, .int x] S (I, R) (some (.int (-1))) S (I, R) := by
  refine CC.of2 (L := [.ref 97, .int x, .retAddr 0, .retAddr 0, .retAddr 0]) p_X12 (Nat.le_of_ble_eq_true rfl) rfl rfl (List.prefix_refl S) ?_
  refine r_iload_n dX12_order_0 rfl ?_
  refine r_i2l dX12_order_1 rfl ?_
  refine r_lconst (v := lN 0) dX12_order_2 rfl ?_
  refine r_ldc2 dX12_order_3 c_X12_177 ?_
  refine r_S3 dX12_order_6 l_X12_62 k_X12_in s_X12_in (Nat.le_of_ble_eq_true rfl) (v_X12_in X _ ) (List.prefix_refl S) ?_
  refine r_ifB_ne (tgt := 14) dX12_order_9 (by decide) (fun c9 => absurd (c9.symm.trans hx) (by decide)) (fun c9 => ?_)
  refine r_iconst dX12_order_12 ic_m1 ?_
  exact g_iret dX12_order_13 rfl rfl

