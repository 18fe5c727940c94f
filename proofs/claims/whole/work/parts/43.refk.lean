/-! ===== the reference: packing ===== -/
theorem nI_1' : nI 1 = 1 := rfl
theorem lod_s (w : Nat → Int32) (n b : Nat) : lodB w (n + 1) b = lodB w n b + (if b.testBit n = true then w (45 + n) else 0) := rfl
def pkS (w s : Nat → Int32) (i b : Nat) (x : Int32) (n : Nat) : Int32 := x + nSum n (fun g => if s (19 + g) = nI i ∧ b.testBit g = false then cnt w g else 0)
theorem pkS_s (w s : Nat → Int32) (i b : Nat) (x : Int32) (n : Nat) : pkS w s i b x (n + 1) = pkS w s i b x n + (if s (19 + n) = nI i ∧ b.testBit n = false then cnt w n else 0) := by
  unfold pkS
  rw [nSum, Int32.add_assoc]
theorem pkS_0 (w s : Nat → Int32) (i b : Nat) (x : Int32) : pkS w s i b x 0 = x := Int32.add_zero x
def mayM (w s : Nat → Int32) (i b : Nat) : Nat → Bool
  | 0 => true
  | n + 1 => mayM w s i b n && (!b.testBit n || (decide (s (19 + n) = nI i) && !decide (w (21 + n) = nI 2)))
theorem may_s (w s : Nat → Int32) (i b n : Nat) : mayM w s i b (n + 1) = (mayM w s i b n && (!b.testBit n || (decide (s (19 + n) = nI i) && !decide (w (21 + n) = nI 2)))) := rfl
def pmO (w s : Nat → Int32) (N G hb i b : Nat) : Int32 := duty w i (pkS w s i b (lLeft w N i hb) G)
def pmC (w s : Nat → Int32) (N G hb i b : Nat) (l : Int32) : Bool := mayM w s i b G && (!decide (w (15 + i) < lodB w G b) && decide (pmO w s N G hb i b < l))
theorem pmC_1 {w s : Nat → Int32} {N G hb i b : Nat} {l : Int32} (h1 : mayM w s i b G = true) (h2 : ¬ w (15 + i) < lodB w G b) (h3 : pmO w s N G hb i b < l) : pmC w s N G hb i b l = true := by unfold pmC; rw [h1, decide_eq_false h2, decide_eq_true h3]; rfl
theorem pmC_2 {w s : Nat → Int32} {N G hb i b : Nat} {l : Int32} (h1 : mayM w s i b G = false) : pmC w s N G hb i b l = false := by unfold pmC; rw [h1]; rfl
theorem pmC_3 {w s : Nat → Int32} {N G hb i b : Nat} {l : Int32} (h2 : w (15 + i) < lodB w G b) : pmC w s N G hb i b l = false := by unfold pmC; rw [decide_eq_true h2]; exact Bool.and_false _
theorem pmC_4 {w s : Nat → Int32} {N G hb i b : Nat} {l : Int32} (h3 : ¬ pmO w s N G hb i b < l) : pmC w s N G hb i b l = false := by unfold pmC; rw [decide_eq_false h3]; simp
def pmQ (w s : Nat → Int32) (N G hb i n : Nat) : Nat × Int32 := nFold n (fun b q => if pmC w s N G hb i b q.2 = true then (b, pmO w s N G hb i b) else q) (0, FARI)
theorem pmQ_t {w s : Nat → Int32} {N G hb i n : Nat} (h : pmC w s N G hb i n (pmQ w s N G hb i n).2 = true) : pmQ w s N G hb i (n + 1) = (n, pmO w s N G hb i n) := if_pos h
theorem pmQ_f {w s : Nat → Int32} {N G hb i n : Nat} (h : pmC w s N G hb i n (pmQ w s N G hb i n).2 = false) : pmQ w s N G hb i (n + 1) = pmQ w s N G hb i n := if_neg (by show ¬ pmC w s N G hb i n (pmQ w s N G hb i n).2 = true; rw [h]; decide)
theorem pmQ_le (w s : Nat → Int32) (N G hb i : Nat) : ∀ n, (pmQ w s N G hb i n).1 ≤ n
  | 0 => Nat.le_refl _
  | n + 1 => by
    have h := pmQ_le w s N G hb i n
    cases hc : pmC w s N G hb i n (pmQ w s N G hb i n).2 with
    | true => rw [pmQ_t hc]; exact Nat.le_succ n
    | false => rw [pmQ_f hc]; omega
set_option maxHeartbeats 4000000 in
set_option maxRecDepth 100000 in
theorem v_X12_packing_t (X : mCx) (d : Nat) {S : mSh} {I : mI} {R : mR} {w s : Nat → Int32} {N G hb i : Nat} {y : Int32} (hm : Mod S R) (hw : MoW I w N G) (hd : MoD I 0 s hb) (hi : i < N) (hy : isA y = true) : CC X (d + 3) M_X12_packing [.ref 97, .int (nI i), .int y] S (I, R) (some (.int (if hb.testBit i = true then (if y = nI 0 then nI (pmQ w s N G hb i (2 ^ G)).1 else (pmQ w s N G hb i (2 ^ G)).2) else -2))) S (I, R) := by
  have hN6 := hw.N6
  have hG8 := hw.G8
  have h256 := hd.b256
  have hp2 : 2 ^ G ≤ 256 := Nat.pow_le_pow_right (n := 2) (by decide) hG8
  refine CC.of2 (L := [.ref 97, .int (nI i), .int y, .retAddr 0, .retAddr 0, .retAddr 0, .retAddr 0, .retAddr 0, .retAddr 0, .retAddr 0, .retAddr 0, .retAddr 0, .retAddr 0]) p_X12 (Nat.le_of_ble_eq_true rfl) rfl rfl (List.prefix_refl S) ?_
  refine r_aload_n dX12_packing_0 rfl ?_
  refine r_iload_n dX12_packing_1 rfl ?_
  refine r_V1 dX12_packing_2 l_X12_111 k_X12_isPerson i_X12_isPerson (Mod.sg (by assumption)) ⟨_, rfl⟩ (Nat.le_of_ble_eq_true rfl) (v_X12_isPerson X _ (by first | assumption | omega) (by first | assumption | omega)) (List.prefix_refl S) ?_
  refine r_ifB_eq (tgt := 18) dX12_packing_5 (by decide) (fun c5 => absurd (isP_n hi (by omega)) (by rw [c5]; decide)) (fun c5 => ?_)
  refine r_iload_n dX12_packing_8 rfl ?_
  refine r_i2l dX12_packing_9 rfl ?_
  refine r_lconst (v := lN 0) dX12_packing_10 rfl ?_
  refine r_lconst (v := lN 1) dX12_packing_11 rfl ?_
  refine r_S3 dX12_packing_12 l_X12_62 k_X12_in s_X12_in (Nat.le_of_ble_eq_true rfl) (v_X12_in X _ ) (List.prefix_refl S) ?_
  refine g_top (congrArg bI isA_in) ?_
  refine r_ifB_ne (tgt := 20) dX12_packing_15 (by decide) (fun c15 => ?_) (fun c15 => absurd hy (by rw [c15]; decide))
  refine r_aload_n dX12_packing_20 rfl ?_
  refine r_iload_n dX12_packing_21 rfl ?_
  refine r_V1 dX12_packing_22 l_X12_118 k_X12_isHere i_X12_isHere (Mod.sg (by assumption)) ⟨_, rfl⟩ (Nat.le_of_ble_eq_true rfl) (v_X12_isHere X _ (by first | assumption | omega) (by first | assumption | omega) (by first | assumption | omega)) (List.prefix_refl S) ?_
  refine r_ifB_ne (tgt := 31) dX12_packing_25 (by decide) (fun c25 => ?_) (fun c25 => ?_)
  · skip
    rw [if_pos c25]
    refine r_aload_n dX12_packing_31 rfl ?_
    refine r_aload_n dX12_packing_32 rfl ?_
    refine g_getR dX12_packing_33 f_X12_13 (Mod.sg (by assumption)) rfl (Mod.r99 (by assumption)) ?_
    refine r_iconst dX12_packing_36 ic_0 ?_
    refine g_iald dX12_packing_37 (Mod.s99 (by assumption)) rfl (by omega) (by omega) (hd.h0 (by omega)) ?_
    refine r_iload_n dX12_packing_38 rfl ?_
    refine r_bipush dX12_packing_39 bp_m4 ?_
    refine r_V3 dX12_packing_41 l_X12_134 k_X12_lovedBy i_X12_lovedBy (Mod.sg (by assumption)) ⟨_, rfl⟩ (Nat.le_of_ble_eq_true rfl) (v_X12_lovedBy X _ (by first | assumption | omega) (by first | assumption | omega) (by first | assumption | omega) (by first | assumption | omega)) (List.prefix_refl S) ?_
    rw [lLw_n hN6]
    refine r_istore_n (L' := [_, _, _, _, _, _, _, _, _, _, _, _, _]) dX12_packing_44 rfl rfl ?_
    refine r_iconst dX12_packing_45 ic_0 ?_
    refine r_istore (L' := [_, _, _, _, _, _, _, _, _, _, _, _, _]) dX12_packing_46 rfl rfl ?_
    refine r_ldc dX12_packing_48 c_X12_176 ?_
    refine r_istore (L' := [_, _, _, _, _, _, _, _, _, _, _, _, _]) dX12_packing_50 rfl rfl ?_
    refine r_iconst dX12_packing_52 ic_0 ?_
    refine r_istore (L' := [_, _, _, _, _, _, _, _, _, _, _, _, _]) dX12_packing_53 rfl rfl ?_
    refine JJ.loop (2 ^ G) (fun b => [.ref 97, .int (nI i), .int y, .int (lLeft w N i hb), .int (nI (pmQ w s N G hb i b).1), .int (pmQ w s N G hb i b).2, .int (nI b), .retAddr 0, .retAddr 0, .retAddr 0, .retAddr 0, .retAddr 0, .retAddr 0]) (fun b => (I, R)) (fun b => True) rfl rfl trivial (fun hp => ?_) (fun b hbG hp K => ?_)
    · skip
      refine r_iload dX12_packing_55 rfl ?_
      refine r_iconst dX12_packing_57 ic_1 ?_
      refine r_aload_n dX12_packing_58 rfl ?_
      refine g_getR dX12_packing_59 f_X12_7 (Mod.sg (by assumption)) rfl (Mod.r98 (by assumption)) ?_
      refine r_iconst dX12_packing_62 ic_1 ?_
      refine g_iald dX12_packing_63 (Mod.s98 (by assumption)) rfl (by omega) (by omega) hw.n1 ?_
      refine r_ishl dX12_packing_64 ?_
      refine g_top (shl1 (by omega)) ?_
      refine n_icmp_ge (tgt := 288) dX12_packing_65 (by decide) (by omega) (by omega) (fun c65 => ?_) (fun c65 => absurd c65 (by omega))
      refine r_iload_n dX12_packing_288 rfl ?_
      refine r_if_ne (tgt := 297) dX12_packing_289 (by decide) (fun c289 => ?_) (fun c289 => ?_)
      · skip
        refine r_iload dX12_packing_297 rfl ?_
        exact g_iret dX12_packing_299 (by first | rw [if_pos (by rw [nI_0]; exact c289)] | rw [if_neg (by rw [nI_0]; exact c289)]) rfl
      · skip
        refine r_iload dX12_packing_292 rfl ?_
        refine r_goto (tgt := 299) dX12_packing_294 (by decide) ?_
        exact g_iret dX12_packing_299 (by first | rw [if_pos (by rw [nI_0]; exact c289)] | rw [if_neg (by rw [nI_0]; exact c289)]) rfl
    · skip
      refine r_iload dX12_packing_55 rfl ?_
      refine r_iconst dX12_packing_57 ic_1 ?_
      refine r_aload_n dX12_packing_58 rfl ?_
      refine g_getR dX12_packing_59 f_X12_7 (Mod.sg (by assumption)) rfl (Mod.r98 (by assumption)) ?_
      refine r_iconst dX12_packing_62 ic_1 ?_
      refine g_iald dX12_packing_63 (Mod.s98 (by assumption)) rfl (by omega) (by omega) hw.n1 ?_
      refine r_ishl dX12_packing_64 ?_
      refine g_top (shl1 (by omega)) ?_
      refine n_icmp_ge (tgt := 288) dX12_packing_65 (by decide) (by omega) (by omega) (fun c65 => absurd c65 (by omega)) (fun c65 => ?_)
      refine r_iconst dX12_packing_68 ic_0 ?_
      refine r_istore (L' := [_, _, _, _, _, _, _, _, _, _, _, _, _]) dX12_packing_69 rfl rfl ?_
      refine r_iload_n dX12_packing_71 rfl ?_
      refine r_istore (L' := [_, _, _, _, _, _, _, _, _, _, _, _, _]) dX12_packing_72 rfl rfl ?_
      refine r_iconst dX12_packing_74 ic_1 ?_
      refine r_istore (L' := [_, _, _, _, _, _, _, _, _, _, _, _, _]) dX12_packing_75 rfl rfl ?_
      refine r_iconst dX12_packing_77 ic_0 ?_
      refine r_istore (L' := [_, _, _, _, _, _, _, _, _, _, _, _, _]) dX12_packing_78 rfl rfl ?_
      refine JJ.loop G (fun j => [.ref 97, .int (nI i), .int y, .int (lLeft w N i hb), .int (nI (pmQ w s N G hb i b).1), .int (pmQ w s N G hb i b).2, .int (nI b), .int (lodB w j b), .int (pkS w s i b (lLeft w N i hb) j), .int (bI (mayM w s i b j)), .int (nI j), .retAddr 0, .retAddr 0]) (fun j => (I, R)) (fun j => True) (by rw [pkS_0]; rfl) rfl trivial (fun hp => ?_) (fun j hj hp K => ?_)
      · skip
        refine r_iload dX12_packing_80 rfl ?_
        refine r_aload_n dX12_packing_82 rfl ?_
        refine g_getR dX12_packing_83 f_X12_7 (Mod.sg (by assumption)) rfl (Mod.r98 (by assumption)) ?_
        refine r_iconst dX12_packing_86 ic_1 ?_
        refine g_iald dX12_packing_87 (Mod.s98 (by assumption)) rfl (by omega) (by omega) hw.n1 ?_
        refine n_icmp_ge (tgt := 212) dX12_packing_88 (by decide) (by omega) (by omega) (fun c88 => ?_) (fun c88 => absurd c88 (by omega))
        refine r_aload_n dX12_packing_212 rfl ?_
        refine r_iload_n dX12_packing_213 rfl ?_
        refine r_iload dX12_packing_214 rfl ?_
        refine r_V2 dX12_packing_216 l_X12_137 k_X12_dutyOf i_X12_dutyOf (Mod.sg (by assumption)) ⟨_, rfl⟩ (Nat.le_of_ble_eq_true rfl) (v_X12_dutyOf X _ (by first | assumption | omega) (by first | assumption | omega) (by first | assumption | omega)) (List.prefix_refl S) ?_
        refine r_istore (L' := [_, _, _, _, _, _, _, _, _, _, _, _, _]) dX12_packing_219 rfl rfl ?_
        refine r_iload dX12_packing_221 rfl ?_
        refine r_ifB_eq (tgt := 251) dX12_packing_223 (by decide) (fun c223 => ?_) (fun c223 => ?_)
        · skip
          refine r_iconst dX12_packing_251 ic_0 ?_
          refine r_istore (L' := [_, _, _, _, _, _, _, _, _, _, _, _, _]) dX12_packing_252 rfl rfl ?_
          refine r_iload dX12_packing_254 rfl ?_
          refine n_if_eq (tgt := 264) dX12_packing_256 (by decide) (by omega) (fun c256 => ?_) (fun c256 => absurd rfl c256)
          refine r_iload dX12_packing_264 rfl ?_
          refine r_istore (L' := [_, _, _, _, _, _, _, _, _, _, _, _, _]) dX12_packing_266 rfl rfl ?_
          refine r_iload dX12_packing_268 rfl ?_
          refine n_if_eq (tgt := 278) dX12_packing_270 (by decide) (by omega) (fun c270 => ?_) (fun c270 => absurd rfl c270)
          refine r_iload dX12_packing_278 rfl ?_
          refine r_istore (L' := [_, _, _, _, _, _, _, _, _, _, _, _, _]) dX12_packing_280 rfl rfl ?_
          refine r_iinc (L' := [_, _, _, _, _, _, _, _, _, _, _, _, _]) dX12_packing_282 rfl rfl (nI_inc _) rfl ?_
          refine r_goto (tgt := 55) dX12_packing_285 (by decide) ?_
          first | (have cc := pmC_1 (w := w) (s := s) (N := N) (hb := hb) (i := i) (b := b) (l := (pmQ w s N G hb i b).2) c223 c237 c244; have e := pmQ_t cc; exact JJ.wk_at 7 (JJ.wk_at 8 (JJ.wk_at 9 (JJ.wk_at 10 (JJ.wk_at 11 (JJ.wk_at 12 (JJ.to (K trivial) (by rw [e]; rfl) rfl rfl))))))) | (have cc := pmC_2 (w := w) (s := s) (N := N) (hb := hb) (i := i) (b := b) (l := (pmQ w s N G hb i b).2) c223; have e := pmQ_f cc; exact JJ.wk_at 7 (JJ.wk_at 8 (JJ.wk_at 9 (JJ.wk_at 10 (JJ.wk_at 11 (JJ.wk_at 12 (JJ.to (K trivial) (by rw [e]; rfl) rfl rfl))))))) | (have cc := pmC_3 (w := w) (s := s) (N := N) (hb := hb) (i := i) (b := b) (l := (pmQ w s N G hb i b).2) c237; have e := pmQ_f cc; exact JJ.wk_at 7 (JJ.wk_at 8 (JJ.wk_at 9 (JJ.wk_at 10 (JJ.wk_at 11 (JJ.wk_at 12 (JJ.to (K trivial) (by rw [e]; rfl) rfl rfl))))))) | (have cc := pmC_4 (w := w) (s := s) (N := N) (hb := hb) (i := i) (b := b) (l := (pmQ w s N G hb i b).2) c244; have e := pmQ_f cc; exact JJ.wk_at 7 (JJ.wk_at 8 (JJ.wk_at 9 (JJ.wk_at 10 (JJ.wk_at 11 (JJ.wk_at 12 (JJ.to (K trivial) (by rw [e]; rfl) rfl rfl)))))))
        · skip
          refine r_iload dX12_packing_226 rfl ?_
          refine r_aload_n dX12_packing_228 rfl ?_
          refine g_getR dX12_packing_229 f_X12_7 (Mod.sg (by assumption)) rfl (Mod.r98 (by assumption)) ?_
          refine r_bipush dX12_packing_232 bp_15 ?_
          refine r_iload_n dX12_packing_234 rfl ?_
          refine n_iadd dX12_packing_235 ?_
          refine g_iald dX12_packing_236 (Mod.s98 (by assumption)) rfl (by omega) (by omega) (hw.at (by omega)) ?_
          refine r_icmp_gt (tgt := 251) dX12_packing_237 (by decide) (fun c237 => ?_) (fun c237 => ?_)
          · have c237 : w (15 + i) < lodB w G b := c237
            refine r_iconst dX12_packing_251 ic_0 ?_
            refine r_istore (L' := [_, _, _, _, _, _, _, _, _, _, _, _, _]) dX12_packing_252 rfl rfl ?_
            refine r_iload dX12_packing_254 rfl ?_
            refine n_if_eq (tgt := 264) dX12_packing_256 (by decide) (by omega) (fun c256 => ?_) (fun c256 => absurd rfl c256)
            refine r_iload dX12_packing_264 rfl ?_
            refine r_istore (L' := [_, _, _, _, _, _, _, _, _, _, _, _, _]) dX12_packing_266 rfl rfl ?_
            refine r_iload dX12_packing_268 rfl ?_
            refine n_if_eq (tgt := 278) dX12_packing_270 (by decide) (by omega) (fun c270 => ?_) (fun c270 => absurd rfl c270)
            refine r_iload dX12_packing_278 rfl ?_
            refine r_istore (L' := [_, _, _, _, _, _, _, _, _, _, _, _, _]) dX12_packing_280 rfl rfl ?_
            refine r_iinc (L' := [_, _, _, _, _, _, _, _, _, _, _, _, _]) dX12_packing_282 rfl rfl (nI_inc _) rfl ?_
            refine r_goto (tgt := 55) dX12_packing_285 (by decide) ?_
            first | (have cc := pmC_1 (w := w) (s := s) (N := N) (hb := hb) (i := i) (b := b) (l := (pmQ w s N G hb i b).2) c223 c237 c244; have e := pmQ_t cc; exact JJ.wk_at 7 (JJ.wk_at 8 (JJ.wk_at 9 (JJ.wk_at 10 (JJ.wk_at 11 (JJ.wk_at 12 (JJ.to (K trivial) (by rw [e]; rfl) rfl rfl))))))) | (have cc := pmC_2 (w := w) (s := s) (N := N) (hb := hb) (i := i) (b := b) (l := (pmQ w s N G hb i b).2) c223; have e := pmQ_f cc; exact JJ.wk_at 7 (JJ.wk_at 8 (JJ.wk_at 9 (JJ.wk_at 10 (JJ.wk_at 11 (JJ.wk_at 12 (JJ.to (K trivial) (by rw [e]; rfl) rfl rfl))))))) | (have cc := pmC_3 (w := w) (s := s) (N := N) (hb := hb) (i := i) (b := b) (l := (pmQ w s N G hb i b).2) c237; have e := pmQ_f cc; exact JJ.wk_at 7 (JJ.wk_at 8 (JJ.wk_at 9 (JJ.wk_at 10 (JJ.wk_at 11 (JJ.wk_at 12 (JJ.to (K trivial) (by rw [e]; rfl) rfl rfl))))))) | (have cc := pmC_4 (w := w) (s := s) (N := N) (hb := hb) (i := i) (b := b) (l := (pmQ w s N G hb i b).2) c244; have e := pmQ_f cc; exact JJ.wk_at 7 (JJ.wk_at 8 (JJ.wk_at 9 (JJ.wk_at 10 (JJ.wk_at 11 (JJ.wk_at 12 (JJ.to (K trivial) (by rw [e]; rfl) rfl rfl)))))))
          · have c237 : ¬ w (15 + i) < lodB w G b := c237
            refine r_iload dX12_packing_240 rfl ?_
            refine r_iload dX12_packing_242 rfl ?_
            refine r_icmp_ge (tgt := 251) dX12_packing_244 (by decide) (fun c244 => ?_) (fun c244 => ?_)
            · have c244 : ¬ pmO w s N G hb i b < (pmQ w s N G hb i b).2 := Int32.not_lt.mpr c244
              refine r_iconst dX12_packing_251 ic_0 ?_
              refine r_istore (L' := [_, _, _, _, _, _, _, _, _, _, _, _, _]) dX12_packing_252 rfl rfl ?_
              refine r_iload dX12_packing_254 rfl ?_
              refine n_if_eq (tgt := 264) dX12_packing_256 (by decide) (by omega) (fun c256 => ?_) (fun c256 => absurd rfl c256)
              refine r_iload dX12_packing_264 rfl ?_
              refine r_istore (L' := [_, _, _, _, _, _, _, _, _, _, _, _, _]) dX12_packing_266 rfl rfl ?_
              refine r_iload dX12_packing_268 rfl ?_
              refine n_if_eq (tgt := 278) dX12_packing_270 (by decide) (by omega) (fun c270 => ?_) (fun c270 => absurd rfl c270)
              refine r_iload dX12_packing_278 rfl ?_
              refine r_istore (L' := [_, _, _, _, _, _, _, _, _, _, _, _, _]) dX12_packing_280 rfl rfl ?_
              refine r_iinc (L' := [_, _, _, _, _, _, _, _, _, _, _, _, _]) dX12_packing_282 rfl rfl (nI_inc _) rfl ?_
              refine r_goto (tgt := 55) dX12_packing_285 (by decide) ?_
              first | (have cc := pmC_1 (w := w) (s := s) (N := N) (hb := hb) (i := i) (b := b) (l := (pmQ w s N G hb i b).2) c223 c237 c244; have e := pmQ_t cc; exact JJ.wk_at 7 (JJ.wk_at 8 (JJ.wk_at 9 (JJ.wk_at 10 (JJ.wk_at 11 (JJ.wk_at 12 (JJ.to (K trivial) (by rw [e]; rfl) rfl rfl))))))) | (have cc := pmC_2 (w := w) (s := s) (N := N) (hb := hb) (i := i) (b := b) (l := (pmQ w s N G hb i b).2) c223; have e := pmQ_f cc; exact JJ.wk_at 7 (JJ.wk_at 8 (JJ.wk_at 9 (JJ.wk_at 10 (JJ.wk_at 11 (JJ.wk_at 12 (JJ.to (K trivial) (by rw [e]; rfl) rfl rfl))))))) | (have cc := pmC_3 (w := w) (s := s) (N := N) (hb := hb) (i := i) (b := b) (l := (pmQ w s N G hb i b).2) c237; have e := pmQ_f cc; exact JJ.wk_at 7 (JJ.wk_at 8 (JJ.wk_at 9 (JJ.wk_at 10 (JJ.wk_at 11 (JJ.wk_at 12 (JJ.to (K trivial) (by rw [e]; rfl) rfl rfl))))))) | (have cc := pmC_4 (w := w) (s := s) (N := N) (hb := hb) (i := i) (b := b) (l := (pmQ w s N G hb i b).2) c244; have e := pmQ_f cc; exact JJ.wk_at 7 (JJ.wk_at 8 (JJ.wk_at 9 (JJ.wk_at 10 (JJ.wk_at 11 (JJ.wk_at 12 (JJ.to (K trivial) (by rw [e]; rfl) rfl rfl)))))))
            · have c244 : pmO w s N G hb i b < (pmQ w s N G hb i b).2 := Int32.not_le.mp c244
              refine r_iconst dX12_packing_247 ic_1 ?_
              refine r_goto (tgt := 252) dX12_packing_248 (by decide) ?_
              refine r_istore (L' := [_, _, _, _, _, _, _, _, _, _, _, _, _]) dX12_packing_252 rfl rfl ?_
              refine r_iload dX12_packing_254 rfl ?_
              refine n_if_eq (tgt := 264) dX12_packing_256 (by decide) (by omega) (fun c256 => absurd c256 (by decide)) (fun c256 => ?_)
              refine r_iload dX12_packing_259 rfl ?_
              refine r_goto (tgt := 266) dX12_packing_261 (by decide) ?_
              refine r_istore (L' := [_, _, _, _, _, _, _, _, _, _, _, _, _]) dX12_packing_266 rfl rfl ?_
              refine r_iload dX12_packing_268 rfl ?_
              refine n_if_eq (tgt := 278) dX12_packing_270 (by decide) (by omega) (fun c270 => absurd c270 (by decide)) (fun c270 => ?_)
              refine r_iload dX12_packing_273 rfl ?_
              refine r_goto (tgt := 280) dX12_packing_275 (by decide) ?_
              refine r_istore (L' := [_, _, _, _, _, _, _, _, _, _, _, _, _]) dX12_packing_280 rfl rfl ?_
              refine r_iinc (L' := [_, _, _, _, _, _, _, _, _, _, _, _, _]) dX12_packing_282 rfl rfl (nI_inc _) rfl ?_
              refine r_goto (tgt := 55) dX12_packing_285 (by decide) ?_
              first | (have cc := pmC_1 (w := w) (s := s) (N := N) (hb := hb) (i := i) (b := b) (l := (pmQ w s N G hb i b).2) c223 c237 c244; have e := pmQ_t cc; exact JJ.wk_at 7 (JJ.wk_at 8 (JJ.wk_at 9 (JJ.wk_at 10 (JJ.wk_at 11 (JJ.wk_at 12 (JJ.to (K trivial) (by rw [e]; rfl) rfl rfl))))))) | (have cc := pmC_2 (w := w) (s := s) (N := N) (hb := hb) (i := i) (b := b) (l := (pmQ w s N G hb i b).2) c223; have e := pmQ_f cc; exact JJ.wk_at 7 (JJ.wk_at 8 (JJ.wk_at 9 (JJ.wk_at 10 (JJ.wk_at 11 (JJ.wk_at 12 (JJ.to (K trivial) (by rw [e]; rfl) rfl rfl))))))) | (have cc := pmC_3 (w := w) (s := s) (N := N) (hb := hb) (i := i) (b := b) (l := (pmQ w s N G hb i b).2) c237; have e := pmQ_f cc; exact JJ.wk_at 7 (JJ.wk_at 8 (JJ.wk_at 9 (JJ.wk_at 10 (JJ.wk_at 11 (JJ.wk_at 12 (JJ.to (K trivial) (by rw [e]; rfl) rfl rfl))))))) | (have cc := pmC_4 (w := w) (s := s) (N := N) (hb := hb) (i := i) (b := b) (l := (pmQ w s N G hb i b).2) c244; have e := pmQ_f cc; exact JJ.wk_at 7 (JJ.wk_at 8 (JJ.wk_at 9 (JJ.wk_at 10 (JJ.wk_at 11 (JJ.wk_at 12 (JJ.to (K trivial) (by rw [e]; rfl) rfl rfl)))))))
      · skip
        refine r_iload dX12_packing_80 rfl ?_
        refine r_aload_n dX12_packing_82 rfl ?_
        refine g_getR dX12_packing_83 f_X12_7 (Mod.sg (by assumption)) rfl (Mod.r98 (by assumption)) ?_
        refine r_iconst dX12_packing_86 ic_1 ?_
        refine g_iald dX12_packing_87 (Mod.s98 (by assumption)) rfl (by omega) (by omega) hw.n1 ?_
        refine n_icmp_ge (tgt := 212) dX12_packing_88 (by decide) (by omega) (by omega) (fun c88 => absurd c88 (by omega)) (fun c88 => ?_)
        refine r_aload_n dX12_packing_91 rfl ?_
        refine g_getR dX12_packing_92 f_X12_13 (Mod.sg (by assumption)) rfl (Mod.r99 (by assumption)) ?_
        refine r_bipush dX12_packing_95 bp_19 ?_
        refine r_iload dX12_packing_97 rfl ?_
        refine n_iadd dX12_packing_99 ?_
        refine g_iald dX12_packing_100 (Mod.s99 (by assumption)) rfl (by omega) (by omega) (hd.at (k := 19 + j) (by omega) (by omega)) ?_
        refine r_iload_n dX12_packing_101 rfl ?_
        refine r_icmp_ne (tgt := 109) dX12_packing_102 (by decide) (fun c102 => ?_) (fun c102 => ?_)
        · skip
          refine r_iconst dX12_packing_109 ic_0 ?_
          refine r_istore (L' := [_, _, _, _, _, _, _, _, _, _, _, _, _]) dX12_packing_110 rfl rfl ?_
          refine r_iload dX12_packing_112 rfl ?_
          refine r_iload dX12_packing_114 rfl ?_
          refine r_S2 dX12_packing_116 l_X12_114 k_X12_has s_X12_has (Nat.le_of_ble_eq_true rfl) (v_X12_has X _ (by first | assumption | omega) (by first | assumption | omega)) (List.prefix_refl S) ?_
          refine r_istore (L' := [_, _, _, _, _, _, _, _, _, _, _, _, _]) dX12_packing_119 rfl rfl ?_
          refine r_iload dX12_packing_121 rfl ?_
          refine r_ifB_eq (tgt := 154) dX12_packing_123 (by decide) (fun c123 => ?_) (fun c123 => ?_)
          · skip
            refine r_iconst dX12_packing_154 ic_0 ?_
            refine r_istore (L' := [_, _, _, _, _, _, _, _, _, _, _, _, _]) dX12_packing_155 rfl rfl ?_
            refine r_iload dX12_packing_157 rfl ?_
            refine r_iload dX12_packing_159 rfl ?_
            refine r_ifB_eq (tgt := 177) dX12_packing_161 (by decide) (fun c161 => ?_) (fun c161 => ?_)
            · skip
              refine r_iconst dX12_packing_177 ic_0 ?_
              refine r_iadd dX12_packing_178 ?_
              refine r_istore (L' := [_, _, _, _, _, _, _, _, _, _, _, _, _]) dX12_packing_179 rfl rfl ?_
              refine r_iload dX12_packing_181 rfl ?_
              refine r_iload dX12_packing_183 rfl ?_
              refine n_if_eq (tgt := 202) dX12_packing_185 (by decide) (by omega) (fun c185 => ?_) (fun c185 => absurd rfl c185)
              refine r_iconst dX12_packing_202 ic_0 ?_
              refine r_iadd dX12_packing_203 ?_
              refine r_istore (L' := [_, _, _, _, _, _, _, _, _, _, _, _, _]) dX12_packing_204 rfl rfl ?_
              refine r_iinc (L' := [_, _, _, _, _, _, _, _, _, _, _, _, _]) dX12_packing_206 rfl rfl (nI_inc _) rfl ?_
              refine r_goto (tgt := 80) dX12_packing_209 (by decide) ?_
              refine JJ.wk_at 11 (JJ.wk_at 12 (JJ.to (K trivial) ?_ rfl rfl)); rw [lod_s, pkS_s, may_s]; simp [nI_0, nI_1', bI_t, bI_f, *]
            · skip
              refine r_aload_n dX12_packing_164 rfl ?_
              refine g_getR dX12_packing_165 f_X12_7 (Mod.sg (by assumption)) rfl (Mod.r98 (by assumption)) ?_
              refine r_bipush dX12_packing_168 bp_45 ?_
              refine r_iload dX12_packing_170 rfl ?_
              refine n_iadd dX12_packing_172 ?_
              refine g_iald dX12_packing_173 (Mod.s98 (by assumption)) rfl (by omega) (by omega) (hw.at (by omega)) ?_
              refine r_goto (tgt := 178) dX12_packing_174 (by decide) ?_
              refine r_iadd dX12_packing_178 ?_
              refine r_istore (L' := [_, _, _, _, _, _, _, _, _, _, _, _, _]) dX12_packing_179 rfl rfl ?_
              refine r_iload dX12_packing_181 rfl ?_
              refine r_iload dX12_packing_183 rfl ?_
              refine n_if_eq (tgt := 202) dX12_packing_185 (by decide) (by omega) (fun c185 => ?_) (fun c185 => absurd rfl c185)
              refine r_iconst dX12_packing_202 ic_0 ?_
              refine r_iadd dX12_packing_203 ?_
              refine r_istore (L' := [_, _, _, _, _, _, _, _, _, _, _, _, _]) dX12_packing_204 rfl rfl ?_
              refine r_iinc (L' := [_, _, _, _, _, _, _, _, _, _, _, _, _]) dX12_packing_206 rfl rfl (nI_inc _) rfl ?_
              refine r_goto (tgt := 80) dX12_packing_209 (by decide) ?_
              refine JJ.wk_at 11 (JJ.wk_at 12 (JJ.to (K trivial) ?_ rfl rfl)); rw [lod_s, pkS_s, may_s]; simp [nI_0, nI_1', bI_t, bI_f, *]
          · skip
            refine r_iload dX12_packing_126 rfl ?_
            refine r_ifB_eq (tgt := 150) dX12_packing_128 (by decide) (fun c128 => ?_) (fun c128 => ?_)
            · skip
              refine r_iconst dX12_packing_150 ic_1 ?_
              refine r_goto (tgt := 155) dX12_packing_151 (by decide) ?_
              refine r_istore (L' := [_, _, _, _, _, _, _, _, _, _, _, _, _]) dX12_packing_155 rfl rfl ?_
              refine r_iload dX12_packing_157 rfl ?_
              refine r_iload dX12_packing_159 rfl ?_
              refine r_ifB_eq (tgt := 177) dX12_packing_161 (by decide) (fun c161 => ?_) (fun c161 => absurd (c128.symm.trans c161) (by decide))
              refine r_iconst dX12_packing_177 ic_0 ?_
              refine r_iadd dX12_packing_178 ?_
              refine r_istore (L' := [_, _, _, _, _, _, _, _, _, _, _, _, _]) dX12_packing_179 rfl rfl ?_
              refine r_iload dX12_packing_181 rfl ?_
              refine r_iload dX12_packing_183 rfl ?_
              refine n_if_eq (tgt := 202) dX12_packing_185 (by decide) (by omega) (fun c185 => ?_) (fun c185 => absurd rfl c185)
              refine r_iconst dX12_packing_202 ic_0 ?_
              refine r_iadd dX12_packing_203 ?_
              refine r_istore (L' := [_, _, _, _, _, _, _, _, _, _, _, _, _]) dX12_packing_204 rfl rfl ?_
              refine r_iinc (L' := [_, _, _, _, _, _, _, _, _, _, _, _, _]) dX12_packing_206 rfl rfl (nI_inc _) rfl ?_
              refine r_goto (tgt := 80) dX12_packing_209 (by decide) ?_
              refine JJ.wk_at 11 (JJ.wk_at 12 (JJ.to (K trivial) ?_ rfl rfl)); rw [lod_s, pkS_s, may_s]; simp [nI_0, nI_1', bI_t, bI_f, *]
            · skip
              refine r_iload dX12_packing_131 rfl ?_
              refine n_if_eq (tgt := 154) dX12_packing_133 (by decide) (by omega) (fun c133 => ?_) (fun c133 => absurd rfl c133)
              refine r_iconst dX12_packing_154 ic_0 ?_
              refine r_istore (L' := [_, _, _, _, _, _, _, _, _, _, _, _, _]) dX12_packing_155 rfl rfl ?_
              refine r_iload dX12_packing_157 rfl ?_
              refine r_iload dX12_packing_159 rfl ?_
              refine r_ifB_eq (tgt := 177) dX12_packing_161 (by decide) (fun c161 => absurd (c128.symm.trans c161) (by decide)) (fun c161 => ?_)
              refine r_aload_n dX12_packing_164 rfl ?_
              refine g_getR dX12_packing_165 f_X12_7 (Mod.sg (by assumption)) rfl (Mod.r98 (by assumption)) ?_
              refine r_bipush dX12_packing_168 bp_45 ?_
              refine r_iload dX12_packing_170 rfl ?_
              refine n_iadd dX12_packing_172 ?_
              refine g_iald dX12_packing_173 (Mod.s98 (by assumption)) rfl (by omega) (by omega) (hw.at (by omega)) ?_
              refine r_goto (tgt := 178) dX12_packing_174 (by decide) ?_
              refine r_iadd dX12_packing_178 ?_
              refine r_istore (L' := [_, _, _, _, _, _, _, _, _, _, _, _, _]) dX12_packing_179 rfl rfl ?_
              refine r_iload dX12_packing_181 rfl ?_
              refine r_iload dX12_packing_183 rfl ?_
              refine n_if_eq (tgt := 202) dX12_packing_185 (by decide) (by omega) (fun c185 => ?_) (fun c185 => absurd rfl c185)
              refine r_iconst dX12_packing_202 ic_0 ?_
              refine r_iadd dX12_packing_203 ?_
              refine r_istore (L' := [_, _, _, _, _, _, _, _, _, _, _, _, _]) dX12_packing_204 rfl rfl ?_
              refine r_iinc (L' := [_, _, _, _, _, _, _, _, _, _, _, _, _]) dX12_packing_206 rfl rfl (nI_inc _) rfl ?_
              refine r_goto (tgt := 80) dX12_packing_209 (by decide) ?_
              refine JJ.wk_at 11 (JJ.wk_at 12 (JJ.to (K trivial) ?_ rfl rfl)); rw [lod_s, pkS_s, may_s]; simp [nI_0, nI_1', bI_t, bI_f, *]
        · skip
          refine r_iconst dX12_packing_105 ic_1 ?_
          refine r_goto (tgt := 110) dX12_packing_106 (by decide) ?_
          refine r_istore (L' := [_, _, _, _, _, _, _, _, _, _, _, _, _]) dX12_packing_110 rfl rfl ?_
          refine r_iload dX12_packing_112 rfl ?_
          refine r_iload dX12_packing_114 rfl ?_
          refine r_S2 dX12_packing_116 l_X12_114 k_X12_has s_X12_has (Nat.le_of_ble_eq_true rfl) (v_X12_has X _ (by first | assumption | omega) (by first | assumption | omega)) (List.prefix_refl S) ?_
          refine r_istore (L' := [_, _, _, _, _, _, _, _, _, _, _, _, _]) dX12_packing_119 rfl rfl ?_
          refine r_iload dX12_packing_121 rfl ?_
          refine r_ifB_eq (tgt := 154) dX12_packing_123 (by decide) (fun c123 => ?_) (fun c123 => ?_)
          · skip
            refine r_iconst dX12_packing_154 ic_0 ?_
            refine r_istore (L' := [_, _, _, _, _, _, _, _, _, _, _, _, _]) dX12_packing_155 rfl rfl ?_
            refine r_iload dX12_packing_157 rfl ?_
            refine r_iload dX12_packing_159 rfl ?_
            refine r_ifB_eq (tgt := 177) dX12_packing_161 (by decide) (fun c161 => ?_) (fun c161 => ?_)
            · skip
              refine r_iconst dX12_packing_177 ic_0 ?_
              refine r_iadd dX12_packing_178 ?_
              refine r_istore (L' := [_, _, _, _, _, _, _, _, _, _, _, _, _]) dX12_packing_179 rfl rfl ?_
              refine r_iload dX12_packing_181 rfl ?_
              refine r_iload dX12_packing_183 rfl ?_
              refine n_if_eq (tgt := 202) dX12_packing_185 (by decide) (by omega) (fun c185 => absurd c185 (by decide)) (fun c185 => ?_)
              refine r_iload dX12_packing_188 rfl ?_
              refine r_ifB_ne (tgt := 202) dX12_packing_190 (by decide) (fun c190 => absurd (c161.symm.trans c190) (by decide)) (fun c190 => ?_)
              refine r_aload_n dX12_packing_193 rfl ?_
              refine r_iload dX12_packing_194 rfl ?_
              refine r_V1 dX12_packing_196 l_X12_127 k_X12_counts i_X12_counts (Mod.sg (by assumption)) ⟨_, rfl⟩ (Nat.le_of_ble_eq_true rfl) (v_X12_counts X _ (by first | assumption | omega) (by first | assumption | omega) (by first | assumption | omega)) (List.prefix_refl S) ?_
              refine r_goto (tgt := 203) dX12_packing_199 (by decide) ?_
              refine r_iadd dX12_packing_203 ?_
              refine r_istore (L' := [_, _, _, _, _, _, _, _, _, _, _, _, _]) dX12_packing_204 rfl rfl ?_
              refine r_iinc (L' := [_, _, _, _, _, _, _, _, _, _, _, _, _]) dX12_packing_206 rfl rfl (nI_inc _) rfl ?_
              refine r_goto (tgt := 80) dX12_packing_209 (by decide) ?_
              refine JJ.wk_at 11 (JJ.wk_at 12 (JJ.to (K trivial) ?_ rfl rfl)); rw [lod_s, pkS_s, may_s]; simp [nI_0, nI_1', bI_t, bI_f, *]
            · skip
              refine r_aload_n dX12_packing_164 rfl ?_
              refine g_getR dX12_packing_165 f_X12_7 (Mod.sg (by assumption)) rfl (Mod.r98 (by assumption)) ?_
              refine r_bipush dX12_packing_168 bp_45 ?_
              refine r_iload dX12_packing_170 rfl ?_
              refine n_iadd dX12_packing_172 ?_
              refine g_iald dX12_packing_173 (Mod.s98 (by assumption)) rfl (by omega) (by omega) (hw.at (by omega)) ?_
              refine r_goto (tgt := 178) dX12_packing_174 (by decide) ?_
              refine r_iadd dX12_packing_178 ?_
              refine r_istore (L' := [_, _, _, _, _, _, _, _, _, _, _, _, _]) dX12_packing_179 rfl rfl ?_
              refine r_iload dX12_packing_181 rfl ?_
              refine r_iload dX12_packing_183 rfl ?_
              refine n_if_eq (tgt := 202) dX12_packing_185 (by decide) (by omega) (fun c185 => absurd c185 (by decide)) (fun c185 => ?_)
              refine r_iload dX12_packing_188 rfl ?_
              refine r_ifB_ne (tgt := 202) dX12_packing_190 (by decide) (fun c190 => ?_) (fun c190 => absurd (c161.symm.trans c190) (by decide))
              refine r_iconst dX12_packing_202 ic_0 ?_
              refine r_iadd dX12_packing_203 ?_
              refine r_istore (L' := [_, _, _, _, _, _, _, _, _, _, _, _, _]) dX12_packing_204 rfl rfl ?_
              refine r_iinc (L' := [_, _, _, _, _, _, _, _, _, _, _, _, _]) dX12_packing_206 rfl rfl (nI_inc _) rfl ?_
              refine r_goto (tgt := 80) dX12_packing_209 (by decide) ?_
              refine JJ.wk_at 11 (JJ.wk_at 12 (JJ.to (K trivial) ?_ rfl rfl)); rw [lod_s, pkS_s, may_s]; simp [nI_0, nI_1', bI_t, bI_f, *]
          · skip
            refine r_iload dX12_packing_126 rfl ?_
            refine r_ifB_eq (tgt := 150) dX12_packing_128 (by decide) (fun c128 => ?_) (fun c128 => ?_)
            · skip
              refine r_iconst dX12_packing_150 ic_1 ?_
              refine r_goto (tgt := 155) dX12_packing_151 (by decide) ?_
              refine r_istore (L' := [_, _, _, _, _, _, _, _, _, _, _, _, _]) dX12_packing_155 rfl rfl ?_
              refine r_iload dX12_packing_157 rfl ?_
              refine r_iload dX12_packing_159 rfl ?_
              refine r_ifB_eq (tgt := 177) dX12_packing_161 (by decide) (fun c161 => ?_) (fun c161 => absurd (c128.symm.trans c161) (by decide))
              refine r_iconst dX12_packing_177 ic_0 ?_
              refine r_iadd dX12_packing_178 ?_
              refine r_istore (L' := [_, _, _, _, _, _, _, _, _, _, _, _, _]) dX12_packing_179 rfl rfl ?_
              refine r_iload dX12_packing_181 rfl ?_
              refine r_iload dX12_packing_183 rfl ?_
              refine n_if_eq (tgt := 202) dX12_packing_185 (by decide) (by omega) (fun c185 => absurd c185 (by decide)) (fun c185 => ?_)
              refine r_iload dX12_packing_188 rfl ?_
              refine r_ifB_ne (tgt := 202) dX12_packing_190 (by decide) (fun c190 => absurd (c128.symm.trans c190) (by decide)) (fun c190 => ?_)
              refine r_aload_n dX12_packing_193 rfl ?_
              refine r_iload dX12_packing_194 rfl ?_
              refine r_V1 dX12_packing_196 l_X12_127 k_X12_counts i_X12_counts (Mod.sg (by assumption)) ⟨_, rfl⟩ (Nat.le_of_ble_eq_true rfl) (v_X12_counts X _ (by first | assumption | omega) (by first | assumption | omega) (by first | assumption | omega)) (List.prefix_refl S) ?_
              refine r_goto (tgt := 203) dX12_packing_199 (by decide) ?_
              refine r_iadd dX12_packing_203 ?_
              refine r_istore (L' := [_, _, _, _, _, _, _, _, _, _, _, _, _]) dX12_packing_204 rfl rfl ?_
              refine r_iinc (L' := [_, _, _, _, _, _, _, _, _, _, _, _, _]) dX12_packing_206 rfl rfl (nI_inc _) rfl ?_
              refine r_goto (tgt := 80) dX12_packing_209 (by decide) ?_
              refine JJ.wk_at 11 (JJ.wk_at 12 (JJ.to (K trivial) ?_ rfl rfl)); rw [lod_s, pkS_s, may_s]; simp [nI_0, nI_1', bI_t, bI_f, *]
            · skip
              refine r_iload dX12_packing_131 rfl ?_
              refine n_if_eq (tgt := 154) dX12_packing_133 (by decide) (by omega) (fun c133 => absurd c133 (by decide)) (fun c133 => ?_)
              refine r_aload_n dX12_packing_136 rfl ?_
              refine g_getR dX12_packing_137 f_X12_7 (Mod.sg (by assumption)) rfl (Mod.r98 (by assumption)) ?_
              refine r_bipush dX12_packing_140 bp_21 ?_
              refine r_iload dX12_packing_142 rfl ?_
              refine n_iadd dX12_packing_144 ?_
              refine g_iald dX12_packing_145 (Mod.s98 (by assumption)) rfl (by omega) (by omega) (hw.at (by omega)) ?_
              refine r_iconst dX12_packing_146 ic_2 ?_
              refine r_icmp_eq (tgt := 154) dX12_packing_147 (by decide) (fun c147 => ?_) (fun c147 => ?_)
              · skip
                refine r_iconst dX12_packing_154 ic_0 ?_
                refine r_istore (L' := [_, _, _, _, _, _, _, _, _, _, _, _, _]) dX12_packing_155 rfl rfl ?_
                refine r_iload dX12_packing_157 rfl ?_
                refine r_iload dX12_packing_159 rfl ?_
                refine r_ifB_eq (tgt := 177) dX12_packing_161 (by decide) (fun c161 => absurd (c128.symm.trans c161) (by decide)) (fun c161 => ?_)
                refine r_aload_n dX12_packing_164 rfl ?_
                refine g_getR dX12_packing_165 f_X12_7 (Mod.sg (by assumption)) rfl (Mod.r98 (by assumption)) ?_
                refine r_bipush dX12_packing_168 bp_45 ?_
                refine r_iload dX12_packing_170 rfl ?_
                refine n_iadd dX12_packing_172 ?_
                refine g_iald dX12_packing_173 (Mod.s98 (by assumption)) rfl (by omega) (by omega) (hw.at (by omega)) ?_
                refine r_goto (tgt := 178) dX12_packing_174 (by decide) ?_
                refine r_iadd dX12_packing_178 ?_
                refine r_istore (L' := [_, _, _, _, _, _, _, _, _, _, _, _, _]) dX12_packing_179 rfl rfl ?_
                refine r_iload dX12_packing_181 rfl ?_
                refine r_iload dX12_packing_183 rfl ?_
                refine n_if_eq (tgt := 202) dX12_packing_185 (by decide) (by omega) (fun c185 => absurd c185 (by decide)) (fun c185 => ?_)
                refine r_iload dX12_packing_188 rfl ?_
                refine r_ifB_ne (tgt := 202) dX12_packing_190 (by decide) (fun c190 => ?_) (fun c190 => absurd (c128.symm.trans c190) (by decide))
                refine r_iconst dX12_packing_202 ic_0 ?_
                refine r_iadd dX12_packing_203 ?_
                refine r_istore (L' := [_, _, _, _, _, _, _, _, _, _, _, _, _]) dX12_packing_204 rfl rfl ?_
                refine r_iinc (L' := [_, _, _, _, _, _, _, _, _, _, _, _, _]) dX12_packing_206 rfl rfl (nI_inc _) rfl ?_
                refine r_goto (tgt := 80) dX12_packing_209 (by decide) ?_
                refine JJ.wk_at 11 (JJ.wk_at 12 (JJ.to (K trivial) ?_ rfl rfl)); rw [lod_s, pkS_s, may_s]; simp [nI_0, nI_1', bI_t, bI_f, *]
              · skip
                refine r_iconst dX12_packing_150 ic_1 ?_
                refine r_goto (tgt := 155) dX12_packing_151 (by decide) ?_
                refine r_istore (L' := [_, _, _, _, _, _, _, _, _, _, _, _, _]) dX12_packing_155 rfl rfl ?_
                refine r_iload dX12_packing_157 rfl ?_
                refine r_iload dX12_packing_159 rfl ?_
                refine r_ifB_eq (tgt := 177) dX12_packing_161 (by decide) (fun c161 => absurd (c128.symm.trans c161) (by decide)) (fun c161 => ?_)
                refine r_aload_n dX12_packing_164 rfl ?_
                refine g_getR dX12_packing_165 f_X12_7 (Mod.sg (by assumption)) rfl (Mod.r98 (by assumption)) ?_
                refine r_bipush dX12_packing_168 bp_45 ?_
                refine r_iload dX12_packing_170 rfl ?_
                refine n_iadd dX12_packing_172 ?_
                refine g_iald dX12_packing_173 (Mod.s98 (by assumption)) rfl (by omega) (by omega) (hw.at (by omega)) ?_
                refine r_goto (tgt := 178) dX12_packing_174 (by decide) ?_
                refine r_iadd dX12_packing_178 ?_
                refine r_istore (L' := [_, _, _, _, _, _, _, _, _, _, _, _, _]) dX12_packing_179 rfl rfl ?_
                refine r_iload dX12_packing_181 rfl ?_
                refine r_iload dX12_packing_183 rfl ?_
                refine n_if_eq (tgt := 202) dX12_packing_185 (by decide) (by omega) (fun c185 => absurd c185 (by decide)) (fun c185 => ?_)
                refine r_iload dX12_packing_188 rfl ?_
                refine r_ifB_ne (tgt := 202) dX12_packing_190 (by decide) (fun c190 => ?_) (fun c190 => absurd (c128.symm.trans c190) (by decide))
                refine r_iconst dX12_packing_202 ic_0 ?_
                refine r_iadd dX12_packing_203 ?_
                refine r_istore (L' := [_, _, _, _, _, _, _, _, _, _, _, _, _]) dX12_packing_204 rfl rfl ?_
                refine r_iinc (L' := [_, _, _, _, _, _, _, _, _, _, _, _, _]) dX12_packing_206 rfl rfl (nI_inc _) rfl ?_
                refine r_goto (tgt := 80) dX12_packing_209 (by decide) ?_
                refine JJ.wk_at 11 (JJ.wk_at 12 (JJ.to (K trivial) ?_ rfl rfl)); rw [lod_s, pkS_s, may_s]; simp [nI_0, nI_1', bI_t, bI_f, *]
  · skip
    refine r_bipush dX12_packing_28 bp_m2 ?_
    exact g_iret dX12_packing_30 (by rw [if_neg (by rw [c25]; decide)]) rfl

set_option maxHeartbeats 4000000 in
set_option maxRecDepth 100000 in
theorem v_X12_packing_f (X : mCx) (d : Nat) {S : mSh} {I : mI} {R : mR} {w : Nat → Int32} {N G : Nat} {x y : Int32} (hm : Mod S R) (hw : MoW I w N G) (hb1 : isP N x = false ∨ isA y = false) : CC X (d + 3) M_X12_packing [.ref 97, .int x, .int y] S (I, R) (some (.int (-1))) S (I, R) := by
  have hN6 := hw.N6
  have hG8 := hw.G8
  refine CC.of2 (L := [.ref 97, .int x, .int y, .retAddr 0, .retAddr 0, .retAddr 0, .retAddr 0, .retAddr 0, .retAddr 0, .retAddr 0, .retAddr 0, .retAddr 0, .retAddr 0]) p_X12 (Nat.le_of_ble_eq_true rfl) rfl rfl (List.prefix_refl S) ?_
  refine r_aload_n dX12_packing_0 rfl ?_
  refine r_iload_n dX12_packing_1 rfl ?_
  refine r_V1 dX12_packing_2 l_X12_111 k_X12_isPerson i_X12_isPerson (Mod.sg (by assumption)) ⟨_, rfl⟩ (Nat.le_of_ble_eq_true rfl) (v_X12_isPerson X _ (by first | assumption | omega) (by first | assumption | omega)) (List.prefix_refl S) ?_
  refine r_ifB_eq (tgt := 18) dX12_packing_5 (by decide) (fun c5 => ?_) (fun c5 => ?_)
  · skip
    refine r_iconst dX12_packing_18 ic_m1 ?_
    exact g_iret dX12_packing_19 rfl rfl
  · skip
    refine r_iload_n dX12_packing_8 rfl ?_
    refine r_i2l dX12_packing_9 rfl ?_
    refine r_lconst (v := lN 0) dX12_packing_10 rfl ?_
    refine r_lconst (v := lN 1) dX12_packing_11 rfl ?_
    refine r_S3 dX12_packing_12 l_X12_62 k_X12_in s_X12_in (Nat.le_of_ble_eq_true rfl) (v_X12_in X _ ) (List.prefix_refl S) ?_
    refine g_top (congrArg bI isA_in) ?_
    refine r_ifB_ne (tgt := 20) dX12_packing_15 (by decide) (fun c15 => (by exfalso; rcases hb1 with q | q <;> first | exact absurd q (by rw [c15]; decide) | exact absurd q (by rw [c5]; decide))) (fun c15 => ?_)
    refine r_iconst dX12_packing_18 ic_m1 ?_
    exact g_iret dX12_packing_19 rfl rfl

