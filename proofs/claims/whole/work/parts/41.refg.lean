/-! ===== the reference: giving ===== -/
def FARI : Int32 := nI 1000000
def gmQ (w s : Nat → Int32) (N G hb g n : Nat) : Int32 × Int32 := nFold n (fun j q => if (hb.testBit j && !decide (nI j = s (19 + g))) = true then (if gvS w s N G hb g j N < q.2 then nI j else q.1, if gvS w s N G hb g j N < q.2 then gvS w s N G hb g j N else q.2) else q) (-4, FARI)
theorem gmQ_s (w s : Nat → Int32) (N G hb g n : Nat) : gmQ w s N G hb g (n + 1) = if (hb.testBit n && !decide (nI n = s (19 + g))) = true then (if gvS w s N G hb g n N < (gmQ w s N G hb g n).2 then nI n else (gmQ w s N G hb g n).1, if gvS w s N G hb g n N < (gmQ w s N G hb g n).2 then gvS w s N G hb g n N else (gmQ w s N G hb g n).2) else gmQ w s N G hb g n := rfl
def gmH (I : mI) (s : Nat → Int32) (hb g n : Nat) : mI := nFold n (fun j J => if (hb.testBit j && !decide (nI j = s (19 + g))) = true then dW J 385 (hnd s g j) else J) I
theorem gmH_s (I : mI) (s : Nat → Int32) (hb g n : Nat) : gmH I s hb g (n + 1) = if (hb.testBit n && !decide (nI n = s (19 + g))) = true then dW (gmH I s hb g n) 385 (hnd s g n) else gmH I s hb g n := rfl
theorem gmH_o {I : mI} {s : Nat → Int32} {hb g o : Nat} (h : o ≠ 99) : ∀ n, gmH I s hb g n o = I o
  | 0 => rfl
  | n + 1 => by
    rw [gmH_s]
    split
    · rw [dW_o h]; exact gmH_o h n
    · exact gmH_o h n
theorem gmH_d {I : mI} {s t : Nat → Int32} {hb g h0 h1 : Nat} (hd : MoD I h1 t h0) (hh : h1 + 35 ≤ 385) : ∀ n, MoD (gmH I s hb g n) h1 t h0
  | 0 => hd
  | n + 1 => by
    rw [gmH_s]
    split
    · exact (gmH_d hd hh n).ot (by omega)
    · exact gmH_d hd hh n
set_option maxHeartbeats 4000000 in
set_option maxRecDepth 100000 in
theorem v_X12_giving_t (X : mCx) (d : Nat) {S : mSh} {I : mI} {R : mR} {w s : Nat → Int32} {N G hb g q : Nat} {y : Int32} (hm : Mod S R) (hw : MoW I w N G) (hd : MoD I 0 s hb) (hg : g < G) (hq : q < N) (eo : s (19 + g) = nI q) (hy : isA y = true) : CC X (d + 4) M_X12_giving [.ref 97, .int (nI g), .int y] S (I, R) (some (.int (if hb.testBit q = true then (if (gmQ w s N G hb g N).1 = -4 ∨ y = nI 0 then (gmQ w s N G hb g N).1 else (gmQ w s N G hb g N).2) else -2))) S ((if hb.testBit q = true then gmH I s hb g N else I), R) := by
  have hN6 := hw.N6
  have hG8 := hw.G8
  have h256 := hd.b256
  refine CC.of2 (L := [.ref 97, .int (nI g), .int y, .retAddr 0, .retAddr 0, .retAddr 0, .retAddr 0, .retAddr 0]) p_X12 (Nat.le_of_ble_eq_true rfl) rfl rfl (List.prefix_refl S) ?_
  refine r_aload_n dX12_giving_0 rfl ?_
  refine r_iload_n dX12_giving_1 rfl ?_
  refine r_V1 dX12_giving_2 l_X12_121 k_X12_isGood i_X12_isGood (Mod.sg (by assumption)) ⟨_, rfl⟩ (Nat.le_of_ble_eq_true rfl) (v_X12_isGood X _ (by first | assumption | omega) (by first | assumption | omega)) (List.prefix_refl S) ?_
  refine r_ifB_eq (tgt := 18) dX12_giving_5 (by decide) (fun c5 => absurd (isP_n hg (by omega)) (by rw [c5]; decide)) (fun c5 => ?_)
  refine r_iload_n dX12_giving_8 rfl ?_
  refine r_i2l dX12_giving_9 rfl ?_
  refine r_lconst (v := lN 0) dX12_giving_10 rfl ?_
  refine r_lconst (v := lN 1) dX12_giving_11 rfl ?_
  refine r_S3 dX12_giving_12 l_X12_62 k_X12_in s_X12_in (Nat.le_of_ble_eq_true rfl) (v_X12_in X _ ) (List.prefix_refl S) ?_
  refine g_top (congrArg bI isA_in) ?_
  refine r_ifB_ne (tgt := 20) dX12_giving_15 (by decide) (fun c15 => ?_) (fun c15 => absurd hy (by rw [c15]; decide))
  refine r_aload_n dX12_giving_20 rfl ?_
  refine r_iload_n dX12_giving_21 rfl ?_
  refine r_V1 dX12_giving_22 l_X12_151 k_X12_isOurs i_X12_isOurs (Mod.sg (by assumption)) ⟨_, rfl⟩ (Nat.le_of_ble_eq_true rfl) (v_X12_isOurs_p X _ hm hd (by omega) (by omega) eo) (List.prefix_refl S) ?_
  refine r_ifB_ne (tgt := 31) dX12_giving_25 (by decide) (fun c25 => ?_) (fun c25 => ?_)
  · skip
    rw [if_pos c25, if_pos c25]
    refine r_bipush dX12_giving_31 bp_m4 ?_
    refine r_istore_n (L' := [_, _, _, _, _, _, _, _]) dX12_giving_33 rfl rfl ?_
    refine r_ldc dX12_giving_34 c_X12_176 ?_
    refine r_istore (L' := [_, _, _, _, _, _, _, _]) dX12_giving_36 rfl rfl ?_
    refine r_iconst dX12_giving_38 ic_0 ?_
    refine r_istore (L' := [_, _, _, _, _, _, _, _]) dX12_giving_39 rfl rfl ?_
    refine JJ.loop N (fun j => [.ref 97, .int (nI g), .int y, .int (gmQ w s N G hb g j).1, .int (gmQ w s N G hb g j).2, .int (nI j), .retAddr 0, .retAddr 0]) (fun j => (gmH I s hb g j, R)) (fun j => True) rfl rfl trivial (fun hp => ?_) (fun j hj hp K => ?_)
    · have hw := hw.fr (I1 := gmH I s hb g N) (gmH_o (by decide) N)
      refine r_iload dX12_giving_41 rfl ?_
      refine r_aload_n dX12_giving_43 rfl ?_
      refine g_getR dX12_giving_44 f_X12_7 (Mod.sg (by assumption)) rfl (Mod.r98 (by assumption)) ?_
      refine r_iconst dX12_giving_47 ic_0 ?_
      refine g_iald dX12_giving_48 (Mod.s98 (by assumption)) rfl (by omega) (by omega) hw.n0 ?_
      refine n_icmp_ge (tgt := 194) dX12_giving_49 (by decide) (by omega) (by omega) (fun c49 => ?_) (fun c49 => absurd c49 (by omega))
      refine r_iload_n dX12_giving_194 rfl ?_
      refine r_bipush dX12_giving_195 bp_m4 ?_
      refine r_icmp_eq (tgt := 204) dX12_giving_197 (by decide) (fun c197 => ?_) (fun c197 => ?_)
      · skip
        refine r_iload_n dX12_giving_204 rfl ?_
        refine r_goto (tgt := 210) dX12_giving_205 (by decide) ?_
        exact g_iret dX12_giving_210 (by first | rw [if_pos (Or.inl c197)] | rw [if_pos (Or.inr (by rw [nI_0]; exact c201))] | rw [if_neg (fun z => z.elim c197 (fun z => c201 (by rw [← nI_0]; exact z)))]) rfl
      · skip
        refine r_iload_n dX12_giving_200 rfl ?_
        refine r_if_ne (tgt := 208) dX12_giving_201 (by decide) (fun c201 => ?_) (fun c201 => ?_)
        · skip
          refine r_iload dX12_giving_208 rfl ?_
          exact g_iret dX12_giving_210 (by first | rw [if_pos (Or.inl c197)] | rw [if_pos (Or.inr (by rw [nI_0]; exact c201))] | rw [if_neg (fun z => z.elim c197 (fun z => c201 (by rw [← nI_0]; exact z)))]) rfl
        · skip
          refine r_iload_n dX12_giving_204 rfl ?_
          refine r_goto (tgt := 210) dX12_giving_205 (by decide) ?_
          exact g_iret dX12_giving_210 (by first | rw [if_pos (Or.inl c197)] | rw [if_pos (Or.inr (by rw [nI_0]; exact c201))] | rw [if_neg (fun z => z.elim c197 (fun z => c201 (by rw [← nI_0]; exact z)))]) rfl
    · have hw := hw.fr (I1 := (gmH I s hb g j)) (gmH_o (by decide) j); have hd := gmH_d (s := s) (hb := hb) (g := g) hd (by decide) j
      refine r_iload dX12_giving_41 rfl ?_
      refine r_aload_n dX12_giving_43 rfl ?_
      refine g_getR dX12_giving_44 f_X12_7 (Mod.sg (by assumption)) rfl (Mod.r98 (by assumption)) ?_
      refine r_iconst dX12_giving_47 ic_0 ?_
      refine g_iald dX12_giving_48 (Mod.s98 (by assumption)) rfl (by omega) (by omega) hw.n0 ?_
      refine n_icmp_ge (tgt := 194) dX12_giving_49 (by decide) (by omega) (by omega) (fun c49 => absurd c49 (by omega)) (fun c49 => ?_)
      refine r_aload_n dX12_giving_52 rfl ?_
      refine r_iload dX12_giving_53 rfl ?_
      refine r_V1 dX12_giving_55 l_X12_118 k_X12_isHere i_X12_isHere (Mod.sg (by assumption)) ⟨_, rfl⟩ (Nat.le_of_ble_eq_true rfl) (v_X12_isHere X _ (by first | assumption | omega) (by first | assumption | omega) (by first | assumption | omega)) (List.prefix_refl S) ?_
      refine r_ifB_eq (tgt := 188) dX12_giving_58 (by decide) (fun c58 => ?_) (fun c58 => ?_)
      · skip
        refine r_iinc (L' := [_, _, _, _, _, _, _, _]) dX12_giving_188 rfl rfl (nI_inc _) rfl ?_
        refine r_goto (tgt := 41) dX12_giving_191 (by decide) ?_
        first | (have e := gmQ_s w s N G hb g j; rw [if_pos (show (hb.testBit j && !decide (nI j = s (19 + g))) = true by rw [c58, decide_eq_false c72]; rfl)] at e; have e2 := gmH_s I s hb g j; rw [if_pos (show (hb.testBit j && !decide (nI j = s (19 + g))) = true by rw [c58, decide_eq_false c72]; rfl)] at e2; exact JJ.wk_at 6 (JJ.wk_at 7 (JJ.to (K trivial) (by rw [e]; dsimp only; first | (rw [if_pos c162, if_pos c176]; rfl) | (rw [if_neg c162, if_neg c176]; rfl) | exact absurd c162 c176 | exact absurd c176 c162) rfl (by rw [e2])))) | (have ef : (hb.testBit j && !decide (nI j = s (19 + g))) = false := (by rw [c58]; rfl); have e := gmQ_s w s N G hb g j; rw [if_neg (by rw [ef]; decide)] at e; have e2 := gmH_s I s hb g j; rw [if_neg (by rw [ef]; decide)] at e2; exact JJ.to (K trivial) (by rw [e]) rfl (by rw [e2])) | (have ef : (hb.testBit j && !decide (nI j = s (19 + g))) = false := (by rw [c58, decide_eq_true c72]; rfl); have e := gmQ_s w s N G hb g j; rw [if_neg (by rw [ef]; decide)] at e; have e2 := gmH_s I s hb g j; rw [if_neg (by rw [ef]; decide)] at e2; exact JJ.to (K trivial) (by rw [e]) rfl (by rw [e2]))
      · skip
        refine r_iload dX12_giving_61 rfl ?_
        refine r_aload_n dX12_giving_63 rfl ?_
        refine g_getR dX12_giving_64 f_X12_13 (Mod.sg (by assumption)) rfl (Mod.r99 (by assumption)) ?_
        refine r_bipush dX12_giving_67 bp_19 ?_
        refine r_iload_n dX12_giving_69 rfl ?_
        refine n_iadd dX12_giving_70 ?_
        refine g_iald dX12_giving_71 (Mod.s99 (by assumption)) rfl (by omega) (by omega) (hd.at (k := 19 + g) (by omega) (by omega)) ?_
        refine r_icmp_eq (tgt := 188) dX12_giving_72 (by decide) (fun c72 => ?_) (fun c72 => ?_)
        · skip
          refine r_iinc (L' := [_, _, _, _, _, _, _, _]) dX12_giving_188 rfl rfl (nI_inc _) rfl ?_
          refine r_goto (tgt := 41) dX12_giving_191 (by decide) ?_
          first | (have e := gmQ_s w s N G hb g j; rw [if_pos (show (hb.testBit j && !decide (nI j = s (19 + g))) = true by rw [c58, decide_eq_false c72]; rfl)] at e; have e2 := gmH_s I s hb g j; rw [if_pos (show (hb.testBit j && !decide (nI j = s (19 + g))) = true by rw [c58, decide_eq_false c72]; rfl)] at e2; exact JJ.wk_at 6 (JJ.wk_at 7 (JJ.to (K trivial) (by rw [e]; dsimp only; first | (rw [if_pos c162, if_pos c176]; rfl) | (rw [if_neg c162, if_neg c176]; rfl) | exact absurd c162 c176 | exact absurd c176 c162) rfl (by rw [e2])))) | (have ef : (hb.testBit j && !decide (nI j = s (19 + g))) = false := (by rw [c58]; rfl); have e := gmQ_s w s N G hb g j; rw [if_neg (by rw [ef]; decide)] at e; have e2 := gmH_s I s hb g j; rw [if_neg (by rw [ef]; decide)] at e2; exact JJ.to (K trivial) (by rw [e]) rfl (by rw [e2])) | (have ef : (hb.testBit j && !decide (nI j = s (19 + g))) = false := (by rw [c58, decide_eq_true c72]; rfl); have e := gmQ_s w s N G hb g j; rw [if_neg (by rw [ef]; decide)] at e; have e2 := gmH_s I s hb g j; rw [if_neg (by rw [ef]; decide)] at e2; exact JJ.to (K trivial) (by rw [e]) rfl (by rw [e2]))
        · skip
          refine r_aload_n dX12_giving_75 rfl ?_
          refine r_iconst dX12_giving_76 ic_0 ?_
          refine r_sipush dX12_giving_77 sp_385 ?_
          refine r_V2 dX12_giving_80 l_X12_147 k_X12_copy i_X12_copy (Mod.sg (by assumption)) ⟨_, rfl⟩ (Nat.le_of_ble_eq_true rfl) (v_X12_copy X _ hm hd (by omega) (by omega)) (List.prefix_refl S) ?_
          refine r_aload_n dX12_giving_83 rfl ?_
          refine g_getR dX12_giving_84 f_X12_13 (Mod.sg (by assumption)) rfl (Mod.r99 (by assumption)) ?_
          refine r_sipush dX12_giving_87 sp_404 ?_
          refine r_iload_n dX12_giving_90 rfl ?_
          refine n_iadd dX12_giving_91 ?_
          refine r_iload dX12_giving_92 rfl ?_
          refine g_iast dX12_giving_94 (Mod.s99 (by assumption)) rfl (by omega) (by omega) ?_
          refine JJ.to (h1 := (dW (gmH I s hb g j) 385 (up s (19 + g) (nI j)), R)) ?_ rfl rfl (by rw [dW_j (k := 19 + g) (by omega) (by omega)])
          refine r_aload_n dX12_giving_95 rfl ?_
          refine g_getR dX12_giving_96 f_X12_13 (Mod.sg (by assumption)) rfl (Mod.r99 (by assumption)) ?_
          refine r_sipush dX12_giving_99 sp_412 ?_
          refine r_iload_n dX12_giving_102 rfl ?_
          refine n_iadd dX12_giving_103 ?_
          refine r_iconst dX12_giving_104 ic_0 ?_
          refine g_iast dX12_giving_105 (Mod.s99 (by assumption)) rfl (by omega) (by omega) ?_
          refine JJ.to (h1 := ((dW (gmH I s hb g j) 385 (hnd s g j)), R)) ?_ rfl rfl (by rw [dW_j (k := 27 + g) (by omega) (by omega)]; rfl)
          have hw2 : MoW (dW (gmH I s hb g j) 385 (hnd s g j)) w N G := hw.dW
          have hd2 : MoD (dW (gmH I s hb g j) 385 (hnd s g j)) 0 s hb := hd.ot (by omega)
          have hd3 : MoD (dW (gmH I s hb g j) 385 (hnd s g j)) 385 (hnd s g j) hb := MoD.mk (by unfold hnd; rw [up_ne (by omega), up_ne (by omega)]; exact hd.2.1) h256 (by decide)
          refine r_iconst dX12_giving_106 ic_0 ?_
          refine r_istore (L' := [_, _, _, _, _, _, _, _]) dX12_giving_107 rfl rfl ?_
          refine r_iconst dX12_giving_109 ic_0 ?_
          refine r_istore (L' := [_, _, _, _, _, _, _, _]) dX12_giving_110 rfl rfl ?_
          refine JJ.loop N (fun k => [.ref 97, .int (nI g), .int y, .int (gmQ w s N G hb g j).1, .int (gmQ w s N G hb g j).2, .int (nI j), .int (gvS w s N G hb g j k), .int (nI k)]) (fun k => ((dW (gmH I s hb g j) 385 (hnd s g j)), R)) (fun k => True) (by simp [nI_0, gvS, nSum]) rfl trivial (fun hp => ?_) (fun k hk hp K => ?_)
          · skip
            refine r_iload dX12_giving_112 rfl ?_
            refine r_aload_n dX12_giving_114 rfl ?_
            refine g_getR dX12_giving_115 f_X12_7 (Mod.sg (by assumption)) rfl (Mod.r98 (by assumption)) ?_
            refine r_iconst dX12_giving_118 ic_0 ?_
            refine g_iald dX12_giving_119 (Mod.s98 (by assumption)) rfl (by omega) (by omega) hw.n0 ?_
            refine n_icmp_ge (tgt := 158) dX12_giving_120 (by decide) (by omega) (by omega) (fun c120 => ?_) (fun c120 => absurd c120 (by omega))
            refine r_iload dX12_giving_158 rfl ?_
            refine r_iload dX12_giving_160 rfl ?_
            refine r_icmp_ge (tgt := 170) dX12_giving_162 (by decide) (fun c162 => ?_) (fun c162 => ?_)
            · have c162 : ¬ gvS w s N G hb g j N < (gmQ w s N G hb g j).2 := Int32.not_lt.mpr c162
              refine r_iload_n dX12_giving_170 rfl ?_
              refine r_istore_n (L' := [_, _, _, _, _, _, _, _]) dX12_giving_171 rfl rfl ?_
              refine r_iload dX12_giving_172 rfl ?_
              refine r_iload dX12_giving_174 rfl ?_
              refine r_icmp_ge (tgt := 184) dX12_giving_176 (by decide) (fun c176 => ?_) (fun c176 => ?_)
              · have c176 : ¬ gvS w s N G hb g j N < (gmQ w s N G hb g j).2 := Int32.not_lt.mpr c176
                refine r_iload dX12_giving_184 rfl ?_
                refine r_istore (L' := [_, _, _, _, _, _, _, _]) dX12_giving_186 rfl rfl ?_
                refine r_iinc (L' := [_, _, _, _, _, _, _, _]) dX12_giving_188 rfl rfl (nI_inc _) rfl ?_
                refine r_goto (tgt := 41) dX12_giving_191 (by decide) ?_
                first | (have e := gmQ_s w s N G hb g j; rw [if_pos (show (hb.testBit j && !decide (nI j = s (19 + g))) = true by rw [c58, decide_eq_false c72]; rfl)] at e; have e2 := gmH_s I s hb g j; rw [if_pos (show (hb.testBit j && !decide (nI j = s (19 + g))) = true by rw [c58, decide_eq_false c72]; rfl)] at e2; exact JJ.wk_at 6 (JJ.wk_at 7 (JJ.to (K trivial) (by rw [e]; dsimp only; first | (rw [if_pos c162, if_pos c176]; rfl) | (rw [if_neg c162, if_neg c176]; rfl) | exact absurd c162 c176 | exact absurd c176 c162) rfl (by rw [e2])))) | (have ef : (hb.testBit j && !decide (nI j = s (19 + g))) = false := (by rw [c58]; rfl); have e := gmQ_s w s N G hb g j; rw [if_neg (by rw [ef]; decide)] at e; have e2 := gmH_s I s hb g j; rw [if_neg (by rw [ef]; decide)] at e2; exact JJ.to (K trivial) (by rw [e]) rfl (by rw [e2])) | (have ef : (hb.testBit j && !decide (nI j = s (19 + g))) = false := (by rw [c58, decide_eq_true c72]; rfl); have e := gmQ_s w s N G hb g j; rw [if_neg (by rw [ef]; decide)] at e; have e2 := gmH_s I s hb g j; rw [if_neg (by rw [ef]; decide)] at e2; exact JJ.to (K trivial) (by rw [e]) rfl (by rw [e2]))
              · have c176 : gvS w s N G hb g j N < (gmQ w s N G hb g j).2 := Int32.not_le.mp c176
                refine r_iload dX12_giving_179 rfl ?_
                refine r_goto (tgt := 186) dX12_giving_181 (by decide) ?_
                refine r_istore (L' := [_, _, _, _, _, _, _, _]) dX12_giving_186 rfl rfl ?_
                refine r_iinc (L' := [_, _, _, _, _, _, _, _]) dX12_giving_188 rfl rfl (nI_inc _) rfl ?_
                refine r_goto (tgt := 41) dX12_giving_191 (by decide) ?_
                first | (have e := gmQ_s w s N G hb g j; rw [if_pos (show (hb.testBit j && !decide (nI j = s (19 + g))) = true by rw [c58, decide_eq_false c72]; rfl)] at e; have e2 := gmH_s I s hb g j; rw [if_pos (show (hb.testBit j && !decide (nI j = s (19 + g))) = true by rw [c58, decide_eq_false c72]; rfl)] at e2; exact JJ.wk_at 6 (JJ.wk_at 7 (JJ.to (K trivial) (by rw [e]; dsimp only; first | (rw [if_pos c162, if_pos c176]; rfl) | (rw [if_neg c162, if_neg c176]; rfl) | exact absurd c162 c176 | exact absurd c176 c162) rfl (by rw [e2])))) | (have ef : (hb.testBit j && !decide (nI j = s (19 + g))) = false := (by rw [c58]; rfl); have e := gmQ_s w s N G hb g j; rw [if_neg (by rw [ef]; decide)] at e; have e2 := gmH_s I s hb g j; rw [if_neg (by rw [ef]; decide)] at e2; exact JJ.to (K trivial) (by rw [e]) rfl (by rw [e2])) | (have ef : (hb.testBit j && !decide (nI j = s (19 + g))) = false := (by rw [c58, decide_eq_true c72]; rfl); have e := gmQ_s w s N G hb g j; rw [if_neg (by rw [ef]; decide)] at e; have e2 := gmH_s I s hb g j; rw [if_neg (by rw [ef]; decide)] at e2; exact JJ.to (K trivial) (by rw [e]) rfl (by rw [e2]))
            · have c162 : gvS w s N G hb g j N < (gmQ w s N G hb g j).2 := Int32.not_le.mp c162
              refine r_iload dX12_giving_165 rfl ?_
              refine r_goto (tgt := 171) dX12_giving_167 (by decide) ?_
              refine r_istore_n (L' := [_, _, _, _, _, _, _, _]) dX12_giving_171 rfl rfl ?_
              refine r_iload dX12_giving_172 rfl ?_
              refine r_iload dX12_giving_174 rfl ?_
              refine r_icmp_ge (tgt := 184) dX12_giving_176 (by decide) (fun c176 => ?_) (fun c176 => ?_)
              · have c176 : ¬ gvS w s N G hb g j N < (gmQ w s N G hb g j).2 := Int32.not_lt.mpr c176
                refine r_iload dX12_giving_184 rfl ?_
                refine r_istore (L' := [_, _, _, _, _, _, _, _]) dX12_giving_186 rfl rfl ?_
                refine r_iinc (L' := [_, _, _, _, _, _, _, _]) dX12_giving_188 rfl rfl (nI_inc _) rfl ?_
                refine r_goto (tgt := 41) dX12_giving_191 (by decide) ?_
                first | (have e := gmQ_s w s N G hb g j; rw [if_pos (show (hb.testBit j && !decide (nI j = s (19 + g))) = true by rw [c58, decide_eq_false c72]; rfl)] at e; have e2 := gmH_s I s hb g j; rw [if_pos (show (hb.testBit j && !decide (nI j = s (19 + g))) = true by rw [c58, decide_eq_false c72]; rfl)] at e2; exact JJ.wk_at 6 (JJ.wk_at 7 (JJ.to (K trivial) (by rw [e]; dsimp only; first | (rw [if_pos c162, if_pos c176]; rfl) | (rw [if_neg c162, if_neg c176]; rfl) | exact absurd c162 c176 | exact absurd c176 c162) rfl (by rw [e2])))) | (have ef : (hb.testBit j && !decide (nI j = s (19 + g))) = false := (by rw [c58]; rfl); have e := gmQ_s w s N G hb g j; rw [if_neg (by rw [ef]; decide)] at e; have e2 := gmH_s I s hb g j; rw [if_neg (by rw [ef]; decide)] at e2; exact JJ.to (K trivial) (by rw [e]) rfl (by rw [e2])) | (have ef : (hb.testBit j && !decide (nI j = s (19 + g))) = false := (by rw [c58, decide_eq_true c72]; rfl); have e := gmQ_s w s N G hb g j; rw [if_neg (by rw [ef]; decide)] at e; have e2 := gmH_s I s hb g j; rw [if_neg (by rw [ef]; decide)] at e2; exact JJ.to (K trivial) (by rw [e]) rfl (by rw [e2]))
              · have c176 : gvS w s N G hb g j N < (gmQ w s N G hb g j).2 := Int32.not_le.mp c176
                refine r_iload dX12_giving_179 rfl ?_
                refine r_goto (tgt := 186) dX12_giving_181 (by decide) ?_
                refine r_istore (L' := [_, _, _, _, _, _, _, _]) dX12_giving_186 rfl rfl ?_
                refine r_iinc (L' := [_, _, _, _, _, _, _, _]) dX12_giving_188 rfl rfl (nI_inc _) rfl ?_
                refine r_goto (tgt := 41) dX12_giving_191 (by decide) ?_
                first | (have e := gmQ_s w s N G hb g j; rw [if_pos (show (hb.testBit j && !decide (nI j = s (19 + g))) = true by rw [c58, decide_eq_false c72]; rfl)] at e; have e2 := gmH_s I s hb g j; rw [if_pos (show (hb.testBit j && !decide (nI j = s (19 + g))) = true by rw [c58, decide_eq_false c72]; rfl)] at e2; exact JJ.wk_at 6 (JJ.wk_at 7 (JJ.to (K trivial) (by rw [e]; dsimp only; first | (rw [if_pos c162, if_pos c176]; rfl) | (rw [if_neg c162, if_neg c176]; rfl) | exact absurd c162 c176 | exact absurd c176 c162) rfl (by rw [e2])))) | (have ef : (hb.testBit j && !decide (nI j = s (19 + g))) = false := (by rw [c58]; rfl); have e := gmQ_s w s N G hb g j; rw [if_neg (by rw [ef]; decide)] at e; have e2 := gmH_s I s hb g j; rw [if_neg (by rw [ef]; decide)] at e2; exact JJ.to (K trivial) (by rw [e]) rfl (by rw [e2])) | (have ef : (hb.testBit j && !decide (nI j = s (19 + g))) = false := (by rw [c58, decide_eq_true c72]; rfl); have e := gmQ_s w s N G hb g j; rw [if_neg (by rw [ef]; decide)] at e; have e2 := gmH_s I s hb g j; rw [if_neg (by rw [ef]; decide)] at e2; exact JJ.to (K trivial) (by rw [e]) rfl (by rw [e2]))
          · skip
            refine r_iload dX12_giving_112 rfl ?_
            refine r_aload_n dX12_giving_114 rfl ?_
            refine g_getR dX12_giving_115 f_X12_7 (Mod.sg (by assumption)) rfl (Mod.r98 (by assumption)) ?_
            refine r_iconst dX12_giving_118 ic_0 ?_
            refine g_iald dX12_giving_119 (Mod.s98 (by assumption)) rfl (by omega) (by omega) hw.n0 ?_
            refine n_icmp_ge (tgt := 158) dX12_giving_120 (by decide) (by omega) (by omega) (fun c120 => absurd c120 (by omega)) (fun c120 => ?_)
            refine r_iload dX12_giving_123 rfl ?_
            refine r_aload_n dX12_giving_125 rfl ?_
            refine r_iload dX12_giving_126 rfl ?_
            refine r_V1 dX12_giving_128 l_X12_118 k_X12_isHere i_X12_isHere (Mod.sg (by assumption)) ⟨_, rfl⟩ (Nat.le_of_ble_eq_true rfl) (v_X12_isHere X _ hm hd2 (by omega)) (List.prefix_refl S) ?_
            refine r_ifB_eq (tgt := 148) dX12_giving_131 (by decide) (fun c131 => ?_) (fun c131 => ?_)
            · skip
              refine r_iconst dX12_giving_148 ic_0 ?_
              refine r_iadd dX12_giving_149 ?_
              refine r_istore (L' := [_, _, _, _, _, _, _, _]) dX12_giving_150 rfl rfl ?_
              refine r_iinc (L' := [_, _, _, _, _, _, _, _]) dX12_giving_152 rfl rfl (nI_inc _) rfl ?_
              refine r_goto (tgt := 112) dX12_giving_155 (by decide) ?_
              exact JJ.to (K trivial) (by simp [gvS, nSum, nI_0, *]) rfl rfl
            · skip
              refine r_aload_n dX12_giving_134 rfl ?_
              refine r_sipush dX12_giving_135 sp_385 ?_
              refine r_iload dX12_giving_138 rfl ?_
              refine r_bipush dX12_giving_140 bp_m4 ?_
              refine r_V3 dX12_giving_142 l_X12_141 k_X12_owesIn i_X12_owesIn (Mod.sg (by assumption)) ⟨_, rfl⟩ (Nat.le_of_ble_eq_true rfl) (v_X12_owesIn X _ hm hw2 hd3 (by omega)) (List.prefix_refl S) ?_
              rw [lLw_n hN6]
              rw [show duty w k (gLeft w (hnd s g j) G k + lLeft w N k hb) = owe w (hnd s g j) N G hb k from rfl]
              refine r_goto (tgt := 149) dX12_giving_145 (by decide) ?_
              refine r_iadd dX12_giving_149 ?_
              refine r_istore (L' := [_, _, _, _, _, _, _, _]) dX12_giving_150 rfl rfl ?_
              refine r_iinc (L' := [_, _, _, _, _, _, _, _]) dX12_giving_152 rfl rfl (nI_inc _) rfl ?_
              refine r_goto (tgt := 112) dX12_giving_155 (by decide) ?_
              exact JJ.to (K trivial) (by simp [gvS, nSum, nI_0, *]) rfl rfl
  · skip
    refine r_bipush dX12_giving_28 bp_m2 ?_
    exact g_iret dX12_giving_30 (by rw [if_neg (by rw [c25]; decide)]) (by rw [if_neg (by rw [c25]; decide)])

set_option maxHeartbeats 4000000 in
set_option maxRecDepth 100000 in
theorem v_X12_giving_n (X : mCx) (d : Nat) {S : mSh} {I : mI} {R : mR} {w s : Nat → Int32} {N G hb g : Nat} {y : Int32} (hm : Mod S R) (hw : MoW I w N G) (hd : MoD I 0 s hb) (hg : g < G) (eo : s (19 + g) = -4) (hy : isA y = true) : CC X (d + 3) M_X12_giving [.ref 97, .int (nI g), .int y] S (I, R) (some (.int (-2))) S (I, R) := by
  have hN6 := hw.N6
  have hG8 := hw.G8
  have h256 := hd.b256
  refine CC.of2 (L := [.ref 97, .int (nI g), .int y, .retAddr 0, .retAddr 0, .retAddr 0, .retAddr 0, .retAddr 0]) p_X12 (Nat.le_of_ble_eq_true rfl) rfl rfl (List.prefix_refl S) ?_
  refine r_aload_n dX12_giving_0 rfl ?_
  refine r_iload_n dX12_giving_1 rfl ?_
  refine r_V1 dX12_giving_2 l_X12_121 k_X12_isGood i_X12_isGood (Mod.sg (by assumption)) ⟨_, rfl⟩ (Nat.le_of_ble_eq_true rfl) (v_X12_isGood X _ (by first | assumption | omega) (by first | assumption | omega)) (List.prefix_refl S) ?_
  refine r_ifB_eq (tgt := 18) dX12_giving_5 (by decide) (fun c5 => absurd (isP_n hg (by omega)) (by rw [c5]; decide)) (fun c5 => ?_)
  refine r_iload_n dX12_giving_8 rfl ?_
  refine r_i2l dX12_giving_9 rfl ?_
  refine r_lconst (v := lN 0) dX12_giving_10 rfl ?_
  refine r_lconst (v := lN 1) dX12_giving_11 rfl ?_
  refine r_S3 dX12_giving_12 l_X12_62 k_X12_in s_X12_in (Nat.le_of_ble_eq_true rfl) (v_X12_in X _ ) (List.prefix_refl S) ?_
  refine g_top (congrArg bI isA_in) ?_
  refine r_ifB_ne (tgt := 20) dX12_giving_15 (by decide) (fun c15 => ?_) (fun c15 => absurd hy (by rw [c15]; decide))
  refine r_aload_n dX12_giving_20 rfl ?_
  refine r_iload_n dX12_giving_21 rfl ?_
  refine r_V1 dX12_giving_22 l_X12_151 k_X12_isOurs i_X12_isOurs (Mod.sg (by assumption)) ⟨_, rfl⟩ (Nat.le_of_ble_eq_true rfl) (v_X12_isOurs_n X _ hm hd (by omega) eo) (List.prefix_refl S) ?_
  refine r_ifB_ne (tgt := 31) dX12_giving_25 (by decide) (fun c25 => absurd c25 (by decide)) (fun c25 => ?_)
  refine r_bipush dX12_giving_28 bp_m2 ?_
  exact g_iret dX12_giving_30 rfl rfl

set_option maxHeartbeats 4000000 in
set_option maxRecDepth 100000 in
theorem v_X12_giving_f (X : mCx) (d : Nat) {S : mSh} {I : mI} {R : mR} {w : Nat → Int32} {N G : Nat} {x y : Int32} (hm : Mod S R) (hw : MoW I w N G) (hb1 : isP G x = false ∨ isA y = false) : CC X (d + 3) M_X12_giving [.ref 97, .int x, .int y] S (I, R) (some (.int (-1))) S (I, R) := by
  have hN6 := hw.N6
  have hG8 := hw.G8
  refine CC.of2 (L := [.ref 97, .int x, .int y, .retAddr 0, .retAddr 0, .retAddr 0, .retAddr 0, .retAddr 0]) p_X12 (Nat.le_of_ble_eq_true rfl) rfl rfl (List.prefix_refl S) ?_
  refine r_aload_n dX12_giving_0 rfl ?_
  refine r_iload_n dX12_giving_1 rfl ?_
  refine r_V1 dX12_giving_2 l_X12_121 k_X12_isGood i_X12_isGood (Mod.sg (by assumption)) ⟨_, rfl⟩ (Nat.le_of_ble_eq_true rfl) (v_X12_isGood X _ (by first | assumption | omega) (by first | assumption | omega)) (List.prefix_refl S) ?_
  refine r_ifB_eq (tgt := 18) dX12_giving_5 (by decide) (fun c5 => ?_) (fun c5 => ?_)
  · skip
    refine r_iconst dX12_giving_18 ic_m1 ?_
    exact g_iret dX12_giving_19 rfl rfl
  · skip
    refine r_iload_n dX12_giving_8 rfl ?_
    refine r_i2l dX12_giving_9 rfl ?_
    refine r_lconst (v := lN 0) dX12_giving_10 rfl ?_
    refine r_lconst (v := lN 1) dX12_giving_11 rfl ?_
    refine r_S3 dX12_giving_12 l_X12_62 k_X12_in s_X12_in (Nat.le_of_ble_eq_true rfl) (v_X12_in X _ ) (List.prefix_refl S) ?_
    refine g_top (congrArg bI isA_in) ?_
    refine r_ifB_ne (tgt := 20) dX12_giving_15 (by decide) (fun c15 => (by exfalso; rcases hb1 with q | q <;> first | exact absurd q (by rw [c15]; decide) | exact absurd q (by rw [c5]; decide))) (fun c15 => ?_)
    refine r_iconst dX12_giving_18 ic_m1 ?_
    exact g_iret dX12_giving_19 rfl rfl

