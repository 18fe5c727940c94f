/-! ===== the class: two who give by turns ===== -/
def ow (w s : Nat → Int32) (N G hb i : Nat) : Nat := (owe w s N G hb i).toInt.toNat
theorem owe_ow {w s : Nat → Int32} {N G hb i : Nat} (h : wOk w N G) (hi : i < N) : owe w s N G hb i = nI (ow w s N G hb i) ∧ ow w s N G hb i < 4096 := by
  obtain ⟨k, hk, e⟩ := owe_n (s := s) (hb := hb) h hi
  have e2 : ow w s N G hb i = k := by unfold ow; rw [e, nI_toInt (by omega)]; omega
  rw [e2]; exact ⟨e, hk⟩
/-- a good given away -/
def hnd (s : Nat → Int32) (g x : Nat) : Nat → Int32 := up (up s (19 + g) (nI x)) (27 + g) (nI 0)
/-- what the two owe at the end (who has the turn first), what he gives now -/
def plP (w : Nat → Int32) (N G hb : Nat) : Nat → (Nat → Int32) → Nat → Nat → (Nat × Nat) × Int32
  | 0, s, m, o => ((ow w s N G hb m, ow w s N G hb o), -4)
  | n + 1, s, m, o => nFold G (fun g q => if ly s g m = true ∧ (plP w N G hb n (hnd s g o) o m).1.2 < q.1.1 then (((plP w N G hb n (hnd s g o) o m).1.2, (plP w N G hb n (hnd s g o) o m).1.1), nI g) else q) (((plP w N G hb n s o m).1.2, (plP w N G hb n s o m).1.1), -4)
def plQ (w : Nat → Int32) (N G hb n : Nat) (s : Nat → Int32) (m o j : Nat) : (Nat × Nat) × Int32 := nFold j (fun g q => if ly s g m = true ∧ (plP w N G hb n (hnd s g o) o m).1.2 < q.1.1 then (((plP w N G hb n (hnd s g o) o m).1.2, (plP w N G hb n (hnd s g o) o m).1.1), nI g) else q) (((plP w N G hb n s o m).1.2, (plP w N G hb n s o m).1.1), -4)
theorem plQ_s (w : Nat → Int32) (N G hb n : Nat) (s : Nat → Int32) (m o j : Nat) : plQ w N G hb n s m o (j + 1) = if ly s j m = true ∧ (plP w N G hb n (hnd s j o) o m).1.2 < (plQ w N G hb n s m o j).1.1 then (((plP w N G hb n (hnd s j o) o m).1.2, (plP w N G hb n (hnd s j o) o m).1.1), nI j) else plQ w N G hb n s m o j := rfl
theorem plP_s (w : Nat → Int32) (N G hb n : Nat) (s : Nat → Int32) (m o : Nat) : plP w N G hb (n + 1) s m o = plQ w N G hb n s m o G := rfl
/-- the row of gifts behind it -/
def gR (w : Nat → Int32) (N G hb : Nat) : Nat → (Nat → Int32) → Nat → Nat → (Nat → Int32) → (Nat → Int32)
  | 0, _, _, _, r => r
  | n + 1, s, m, o, r => up (nFold G (fun g r => if ly s g m = true then gR w N G hb n (hnd s g o) o m r else r) (gR w N G hb n s o m r)) (n + 1) (plP w N G hb (n + 1) s m o).2
def gQ (w : Nat → Int32) (N G hb n : Nat) (s : Nat → Int32) (m o : Nat) (r : Nat → Int32) (j : Nat) : Nat → Int32 := nFold j (fun g r => if ly s g m = true then gR w N G hb n (hnd s g o) o m r else r) (gR w N G hb n s o m r)
theorem gQ_s (w : Nat → Int32) (N G hb n : Nat) (s : Nat → Int32) (m o : Nat) (r : Nat → Int32) (j : Nat) : gQ w N G hb n s m o r (j + 1) = if ly s j m = true then gR w N G hb n (hnd s j o) o m (gQ w N G hb n s m o r j) else gQ w N G hb n s m o r j := rfl
theorem gR_s (w : Nat → Int32) (N G hb n : Nat) (s : Nat → Int32) (m o : Nat) (r : Nat → Int32) : gR w N G hb (n + 1) s m o r = up (gQ w N G hb n s m o r G) (n + 1) (plP w N G hb (n + 1) s m o).2 := rfl
def sRw (I : mI) (q : Nat) (r : Nat → Int32) : mI := fun x b => if x = q then r b else I x b
theorem sRw_o {I : mI} {q x : Nat} {r : Nat → Int32} (h : x ≠ q) : sRw I q r x = I x := by funext b; simp [sRw, h]
theorem sRw_q (I : mI) (q : Nat) (r : Nat → Int32) : sRw I q r q = r := by funext b; simp [sRw]
theorem sRw_0 (I : mI) (q : Nat) : sRw I q (I q) = I := by funext x b; unfold sRw; split <;> simp [*]
theorem sRw_j (I : mI) (q k : Nat) (r : Nat → Int32) (v : Int32) : sJ (sRw I q r) q k v = sRw I q (up r k v) := by
  funext x b
  unfold sJ sRw up
  by_cases h : x = q
  · subst h; by_cases h2 : b = k <;> simp [h2]
  · simp [h]
theorem sRw_2 (I : mI) (q : Nat) (r r1 : Nat → Int32) : sRw (sRw I q r) q r1 = sRw I q r1 := by funext x b; unfold sRw; split <;> rfl
def enc (p : Nat × Nat) : Nat := p.1 * 4096 + p.2
theorem enc_div {p : Nat × Nat} (h : p.2 < 4096) : enc p / 4096 = p.1 := by unfold enc; omega
theorem enc_mod {p : Nat × Nat} (h : p.2 < 4096) : enc p - enc p / 4096 * 4096 = p.2 := by unfold enc; omega
theorem enc_lt {p : Nat × Nat} (h1 : p.1 < 4096) (h : p.2 < 4096) : enc p < 2 ^ 31 := by unfold enc; omega
theorem plP_b {w : Nat → Int32} {N G hb : Nat} (h : wOk w N G) : ∀ (n : Nat) (s : Nat → Int32) (m o : Nat), m < N → o < N → (plP w N G hb n s m o).1.1 < 4096 ∧ (plP w N G hb n s m o).1.2 < 4096
  | 0, s, m, o, hm, ho => ⟨(owe_ow h hm).2, (owe_ow h ho).2⟩
  | n + 1, s, m, o, hm, ho => by
    rw [plP_s]
    have key : ∀ j, (plQ w N G hb n s m o j).1.1 < 4096 ∧ (plQ w N G hb n s m o j).1.2 < 4096 := by
      intro j
      induction j with
      | zero =>
        have := plP_b (hb := hb) h n s o m ho hm
        exact ⟨this.2, this.1⟩
      | succ j ih =>
        rw [plQ_s]
        split
        · have := plP_b (hb := hb) h n (hnd s j o) o m ho hm
          exact ⟨this.2, this.1⟩
        · exact ih
    exact key G
theorem plQ_b {w : Nat → Int32} {N G hb : Nat} (h : wOk w N G) {n : Nat} {s : Nat → Int32} {m o : Nat} (hm : m < N) (ho : o < N) : ∀ j, (plQ w N G hb n s m o j).1.1 < 4096 ∧ (plQ w N G hb n s m o j).1.2 < 4096
  | 0 => by
    have := plP_b (hb := hb) h n s o m ho hm
    exact ⟨this.2, this.1⟩
  | j + 1 => by
    rw [plQ_s]
    split
    · have := plP_b (hb := hb) h n (hnd s j o) o m ho hm
      exact ⟨this.2, this.1⟩
    · exact plQ_b h hm ho j
/-- a good given, and given back -/
theorem hand_back {S : mSh} {I : mI} {R : mR} {a : Nat} {s : Nat → Int32} {N G hb pb : Nat} (hst : Std S I R a s N G hb pb) {g m o q : Nat} (hg : g < G) (hl : ly s g m = true) (hq : q < a ∨ a + 4 < q) (r r2 : Nat → Int32) :
    sJ (sJ (sRw (sJ (sJ (sRw I q r) (a + 1) g (nI o)) a 1 (nI (pbs pb g false))) q r2) (a + 1) g (nI m)) a 1 (nI (pbs (pbs pb g false) g false)) = sRw I q r2 := by
  have hG := hst.G8
  simp only [ly, Bool.and_eq_true, decide_eq_true_eq] at hl
  have h0 := hst.pk g hg
  rw [hl.2] at h0
  have hb0 : pb.testBit g = false := bI_0.mp h0.symm
  have e1 : pbs pb g false = pb := by unfold pbs clr; rw [if_neg (by decide), hb0]; rfl
  rw [e1, e1]
  funext x b
  unfold sJ sRw
  by_cases c0 : x = a
  · subst c0
    by_cases c1 : b = 1
    · subst c1; rw [if_pos ⟨rfl, rfl⟩, if_neg (by omega), hst.packed]
    · simp [c1, show ¬ x = q by omega]
  · by_cases c2 : x = a + 1
    · subst c2
      by_cases c3 : b = g
      · subst c3; rw [if_neg (by omega), if_pos ⟨rfl, rfl⟩, if_neg (by omega), hst.own b hg, hl.1]
      · simp [c3, show ¬ a + 1 = q by omega]
    · by_cases c4 : x = q
      · simp [c0, c2, c4, show ¬ q = a by omega, show ¬ q = a + 1 by omega]
      · simp [c0, c2, c4]
set_option maxHeartbeats 4000000 in
set_option maxRecDepth 100000 in
theorem v_X10_swapped (X : mCx) (d : Nat) {S : mSh} {I : mI} {R : mR} {q : Nat × Nat} (hp1 : q.1 < 4096) (hp2 : q.2 < 4096) : CC X (d + 1) M_X10_swapped [.int (nI (enc q))] S (I, R) (some (.int (nI (enc (q.2, q.1))))) S (I, R) := by
  refine CC.of2 (L := [.int (nI (enc q))]) p_X10 (Nat.le_of_ble_eq_true rfl) rfl rfl (List.prefix_refl S) ?_
  refine r_iload_n dX10_swapped_0 rfl ?_
  refine r_sipush dX10_swapped_1 sp_4096 ?_
  refine r_irem dX10_swapped_4 (by decide) ?_
  refine r_sipush dX10_swapped_5 sp_4096 ?_
  refine r_imul dX10_swapped_8 ?_
  refine r_iload_n dX10_swapped_9 rfl ?_
  refine r_sipush dX10_swapped_10 sp_4096 ?_
  refine r_idiv dX10_swapped_13 (by decide) ?_
  refine r_iadd dX10_swapped_14 ?_
  exact g_iret dX10_swapped_15 (by have h1 := enc_lt hp1 hp2; rw [nI_div h1 (by decide) (by decide), nI_mul, nI_sub (Nat.div_mul_le_self _ _), nI_mul, nI_add, enc_mod hp2, enc_div hp2]; rfl) rfl

set_option maxHeartbeats 4000000 in
set_option maxRecDepth 100000 in
theorem v_X10_movers (X : mCx) (d : Nat) {S : mSh} {I : mI} {R : mR} {q : Nat × Nat} (hp1 : q.1 < 4096) (hp2 : q.2 < 4096) : CC X (d + 1) M_X10_movers [.int (nI (enc q))] S (I, R) (some (.int (nI q.1))) S (I, R) := by
  refine CC.of2 (L := [.int (nI (enc q))]) p_X10 (Nat.le_of_ble_eq_true rfl) rfl rfl (List.prefix_refl S) ?_
  refine r_iload_n dX10_movers_0 rfl ?_
  refine r_sipush dX10_movers_1 sp_4096 ?_
  refine r_idiv dX10_movers_4 (by decide) ?_
  exact g_iret dX10_movers_5 (by rw [nI_div (enc_lt hp1 hp2) (by decide) (by decide), enc_div hp2]) rfl

set_option maxHeartbeats 4000000 in
set_option maxRecDepth 100000 in
theorem v_X10_play_0 (X : mCx) (d : Nat) {S : mSh} {I : mI} {R : mR} {w s : Nat → Int32} {N G hb pb f a q m o : Nat} (hw : wOk w N G) (hf : Fam S I R f w N G) (hst : Std S I R a s N G hb pb) (hm : m < N) (ho : o < N) (hq : mSg S q = some (20, 5))  : CC X (d + 5) M_X10_play [.ref f, .ref a, .ref q, .int (nI m), .int (nI o), .int (nI 0)] S (I, R) (some (.int (nI (enc (plP w N G hb 0 s m o).1)))) S (I, R) := by
  have hG8 := hst.G8
  have hN6 := hst.N6
  have h256 := hst.h256
  have p256 := hst.p256
  refine CC.of2 (L := [.ref f, .ref a, .ref q, .int (nI m), .int (nI o), .int (nI 0), .retAddr 0, .retAddr 0, .retAddr 0, .retAddr 0]) p_X10 (Nat.le_of_ble_eq_true rfl) rfl rfl (List.prefix_refl S) ?_
  refine r_iload dX10_play_0 rfl ?_
  refine n_if_gt (tgt := 24) dX10_play_2 (by decide) (by omega) (fun c2 => absurd c2 (by omega)) (fun c2 => ?_)
  refine r_aload_n dX10_play_5 rfl ?_
  refine r_aload_n dX10_play_6 rfl ?_
  refine r_iload_n dX10_play_7 rfl ?_
  refine r_S3 dX10_play_8 l_X10_9 k_X0_owed s_X0_owed (Nat.le_of_ble_eq_true rfl) (v_X0_owed X _ (by first | assumption | omega) (by first | assumption | omega) (by first | assumption | omega)) (List.prefix_refl S) ?_
  rw [show duty w m (gLeft w s G m + lLeft w N m hb) = nI (ow w s N G hb m) from (owe_ow hw hm).1]
  refine r_sipush dX10_play_11 sp_4096 ?_
  refine n_imul dX10_play_14 ?_
  refine r_aload_n dX10_play_15 rfl ?_
  refine r_aload_n dX10_play_16 rfl ?_
  refine r_iload dX10_play_17 rfl ?_
  refine r_S3 dX10_play_19 l_X10_9 k_X0_owed s_X0_owed (Nat.le_of_ble_eq_true rfl) (v_X0_owed X _ (by first | assumption | omega) (by first | assumption | omega) (by first | assumption | omega)) (List.prefix_refl S) ?_
  rw [show duty w o (gLeft w s G o + lLeft w N o hb) = nI (ow w s N G hb o) from (owe_ow hw ho).1]
  refine n_iadd dX10_play_22 ?_
  exact g_iret dX10_play_23 rfl rfl

set_option maxHeartbeats 4000000 in
set_option maxRecDepth 100000 in
theorem v_X10_play_s (X : mCx) (d : Nat) {S : mSh} {I : mI} {R : mR} {n : Nat} {w s : Nat → Int32} {N G hb pb f a q m o : Nat} (hw : wOk w N G) (hf : Fam S I R f w N G) (hst : Std S I R a s N G hb pb) (hm : m < N) (ho : o < N) (hq : mSg S q = some (20, 5)) (hn : n ≤ 3) (hs1 : q < a ∨ a + 4 < q) (hs2 : q < f ∨ f + 9 < q) (hs3 : a + 4 < f ∨ f + 9 < a) (ih : ∀ (I1 : mI) (s1 : Nat → Int32) (m1 o1 pb1 : Nat), Fam S I1 R f w N G → Std S I1 R a s1 N G hb pb1 → m1 < N → o1 < N → CC X (d + 5) M_X10_play [.ref f, .ref a, .ref q, .int (nI m1), .int (nI o1), .int (nI n)] S (I1, R) (some (.int (nI (enc (plP w N G hb n s1 m1 o1).1)))) S (sRw I1 q (gR w N G hb n s1 m1 o1 (I1 q)), R))  : CC X (d + 6) M_X10_play [.ref f, .ref a, .ref q, .int (nI m), .int (nI o), .int (nI (n + 1))] S (I, R) (some (.int (nI (enc (plP w N G hb (n + 1) s m o).1)))) S (sRw I q (gR w N G hb (n + 1) s m o (I q)), R) := by
  have hG8 := hst.G8
  have hN6 := hst.N6
  have h256 := hst.h256
  have p256 := hst.p256
  have hb1 := plP_b (hb := hb) hw n s o m ho hm
  refine CC.of2 (L := [.ref f, .ref a, .ref q, .int (nI m), .int (nI o), .int (nI (n + 1)), .retAddr 0, .retAddr 0, .retAddr 0, .retAddr 0]) p_X10 (Nat.le_of_ble_eq_true rfl) rfl rfl (List.prefix_refl S) ?_
  refine r_iload dX10_play_0 rfl ?_
  refine n_if_gt (tgt := 24) dX10_play_2 (by decide) (by omega) (fun c2 => ?_) (fun c2 => absurd c2 (by omega))
  refine r_aload_n dX10_play_24 rfl ?_
  refine r_aload_n dX10_play_25 rfl ?_
  refine r_aload_n dX10_play_26 rfl ?_
  refine r_iload dX10_play_27 rfl ?_
  refine r_iload_n dX10_play_29 rfl ?_
  refine r_iload dX10_play_30 rfl ?_
  refine r_iconst dX10_play_32 ic_1 ?_
  refine n_isub dX10_play_33 (by omega) ?_
  rw [Nat.add_sub_cancel]
  refine r_S6 dX10_play_34 l_X10_17 k_X10_play s_X10_play (Nat.le_of_ble_eq_true rfl) (ih I s o m pb hf hst ho hm) (List.prefix_refl S) ?_
  refine r_S1 dX10_play_37 l_X10_21 k_X10_swapped s_X10_swapped (Nat.le_of_ble_eq_true rfl) (v_X10_swapped X _ hb1.1 hb1.2) (List.prefix_refl S) ?_
  refine r_istore (L' := [_, _, _, _, _, _, _, _, _, _]) dX10_play_40 rfl rfl ?_
  refine r_bipush dX10_play_42 bp_m4 ?_
  refine r_istore (L' := [_, _, _, _, _, _, _, _, _, _]) dX10_play_44 rfl rfl ?_
  refine r_iconst dX10_play_46 ic_0 ?_
  refine r_istore (L' := [_, _, _, _, _, _, _, _, _, _]) dX10_play_47 rfl rfl ?_
  refine JJ.loop G (fun j => [.ref f, .ref a, .ref q, .int (nI m), .int (nI o), .int (nI (n + 1)), .int (nI (enc (plQ w N G hb n s m o j).1)), .int (plQ w N G hb n s m o j).2, .int (nI j), .retAddr 0]) (fun j => (sRw I q (gQ w N G hb n s m o (I q) j), R)) (fun j => True) rfl rfl trivial (fun hp => ?_) (fun j hj hp K => ?_)
  · have hf1 : Fam S (sRw I q (gQ w N G hb n s m o (I q) G)) R f w N G := hf.fr (fun x h1 h2 => sRw_o (by omega)); have hb2 := plQ_b (hb := hb) hw (n := n) (s := s) hm ho G
    refine r_iload dX10_play_49 rfl ?_
    refine r_aload_n dX10_play_51 rfl ?_
    refine g_getI dX10_play_52 f_X10_25 (Fam.sg (by assumption)) rfl hf1.hG ?_
    refine n_icmp_ge (tgt := 128) dX10_play_55 (by decide) (by omega) (by omega) (fun c55 => ?_) (fun c55 => absurd c55 (by omega))
    refine r_aload_n dX10_play_128 rfl ?_
    refine r_iload dX10_play_129 rfl ?_
    refine r_iload dX10_play_131 rfl ?_
    refine r_S3 dX10_play_133 l_X10_44 k_X7_put s_X7_put (Nat.le_of_ble_eq_true rfl) (v_X7_put X _ hq (by omega) (by decide)) (List.prefix_refl S) ?_
    refine r_iload dX10_play_136 rfl ?_
    exact g_iret dX10_play_138 rfl (by rw [sRw_j]; rfl)
  · have hf1 : Fam S (sRw I q (gQ w N G hb n s m o (I q) j)) R f w N G := hf.fr (fun x h1 h2 => sRw_o (by omega)); have hst1 : Std S (sRw I q (gQ w N G hb n s m o (I q) j)) R a s N G hb pb := hst.fr (fun x h1 h2 => sRw_o (by omega)); have hb2 := plQ_b (hb := hb) hw (n := n) (s := s) hm ho j; have hb3 := plP_b (hb := hb) hw n (hnd s j o) o m ho hm
    refine r_iload dX10_play_49 rfl ?_
    refine r_aload_n dX10_play_51 rfl ?_
    refine g_getI dX10_play_52 f_X10_25 (Fam.sg (by assumption)) rfl hf1.hG ?_
    refine n_icmp_ge (tgt := 128) dX10_play_55 (by decide) (by omega) (by omega) (fun c55 => absurd c55 (by omega)) (fun c55 => ?_)
    refine r_aload_n dX10_play_58 rfl ?_
    refine r_iload dX10_play_59 rfl ?_
    refine r_iload_n dX10_play_61 rfl ?_
    refine r_V2 dX10_play_62 l_X10_31 k_X8_lies i_X8_lies (Std.sg (by assumption)) ⟨_, rfl⟩ (Nat.le_of_ble_eq_true rfl) (v_X8_lies X _ hst1 hj) (List.prefix_refl S) ?_
    refine r_ifB_eq (tgt := 122) dX10_play_65 (by decide) (fun c65 => ?_) (fun c65 => ?_)
    · skip
      refine r_iinc (L' := [_, _, _, _, _, _, _, _, _, _]) dX10_play_122 rfl rfl (nI_inc _) rfl ?_
      refine r_goto (tgt := 49) dX10_play_125 (by decide) ?_
      first | exact JJ.wk_at 9 (JJ.to (K trivial) (by rw [plQ_s, if_pos (And.intro c65 c111)]; rfl) rfl (by rw [gQ_s, if_pos c65])) | exact JJ.wk_at 9 (JJ.to (K trivial) (by rw [plQ_s, if_neg (fun z => c111 z.2)]; rfl) rfl (by rw [gQ_s, if_pos c65])) | exact JJ.wk_at 9 (JJ.to (K trivial) (by rw [plQ_s, if_neg (fun z => absurd (c65.symm.trans z.1) (by decide))]; rfl) rfl (by rw [gQ_s, if_neg (fun z => absurd (c65.symm.trans z) (by decide))]))
    · skip
      refine r_aload_n dX10_play_68 rfl ?_
      refine r_iload dX10_play_69 rfl ?_
      refine r_iload dX10_play_71 rfl ?_
      refine r_V2 dX10_play_73 l_X10_37 k_X8_handOver i_X8_handOver (Std.sg (by assumption)) ⟨_, rfl⟩ (Nat.le_of_ble_eq_true rfl) (v_X8_handOver X _ hst1 hj) (List.prefix_refl S) ?_
      have hst2 : Std S (sJ (sJ (sRw I q (gQ w N G hb n s m o (I q) j)) (a + 1) j (nI o)) a 1 (nI (pbs pb j false))) R a (hnd s j o) N G hb (pbs pb j false) := hst1.hand hj
      have hf2 : Fam S (sJ (sJ (sRw I q (gQ w N G hb n s m o (I q) j)) (a + 1) j (nI o)) a 1 (nI (pbs pb j false))) R f w N G := hf1.fr (fun x h1 h2 => hand_fr (by omega))
      refine r_aload_n dX10_play_76 rfl ?_
      refine r_aload_n dX10_play_77 rfl ?_
      refine r_aload_n dX10_play_78 rfl ?_
      refine r_iload dX10_play_79 rfl ?_
      refine r_iload_n dX10_play_81 rfl ?_
      refine r_iload dX10_play_82 rfl ?_
      refine r_iconst dX10_play_84 ic_1 ?_
      refine n_isub dX10_play_85 (by omega) ?_
      rw [Nat.add_sub_cancel]
      refine r_S6 dX10_play_86 l_X10_17 k_X10_play s_X10_play (Nat.le_of_ble_eq_true rfl) (ih _ (hnd s j o) o m _ hf2 hst2 ho hm) (List.prefix_refl S) ?_
      rw [show (sJ (sJ (sRw I q (gQ w N G hb n s m o (I q) j)) (a + 1) j (nI o)) a 1 (nI (pbs pb j false))) q = gQ w N G hb n s m o (I q) j by rw [hand_fr (by omega), sRw_q]]
      have hst3 : Std S (sRw (sJ (sJ (sRw I q (gQ w N G hb n s m o (I q) j)) (a + 1) j (nI o)) a 1 (nI (pbs pb j false))) q (gR w N G hb n (hnd s j o) o m (gQ w N G hb n s m o (I q) j))) R a (hnd s j o) N G hb (pbs pb j false) := hst2.fr (fun x h1 h2 => sRw_o (by omega))
      refine r_S1 dX10_play_89 l_X10_21 k_X10_swapped s_X10_swapped (Nat.le_of_ble_eq_true rfl) (v_X10_swapped X _ hb3.1 hb3.2) (List.prefix_refl S) ?_
      refine r_istore (L' := [_, _, _, _, _, _, _, _, _, _]) dX10_play_92 rfl rfl ?_
      refine r_aload_n dX10_play_94 rfl ?_
      refine r_iload dX10_play_95 rfl ?_
      refine r_iload_n dX10_play_97 rfl ?_
      refine r_V2 dX10_play_98 l_X10_37 k_X8_handOver i_X8_handOver (Std.sg (by assumption)) ⟨_, rfl⟩ (Nat.le_of_ble_eq_true rfl) (v_X8_handOver X _ hst3 hj) (List.prefix_refl S) ?_
      rw [hand_back hst hj c65 hs1]
      refine r_iload dX10_play_101 rfl ?_
      refine r_S1 dX10_play_103 l_X10_41 k_X10_movers s_X10_movers (Nat.le_of_ble_eq_true rfl) (v_X10_movers X _ hb3.2 hb3.1) (List.prefix_refl S) ?_
      refine r_iload dX10_play_106 rfl ?_
      refine r_S1 dX10_play_108 l_X10_41 k_X10_movers s_X10_movers (Nat.le_of_ble_eq_true rfl) (v_X10_movers X _ hb2.1 hb2.2) (List.prefix_refl S) ?_
      refine n_icmp_ge (tgt := 122) dX10_play_111 (by decide) (by omega) (by omega) (fun c111 => ?_) (fun c111 => ?_)
      · have c111 : ¬ (plP w N G hb n (hnd s j o) o m).1.2 < (plQ w N G hb n s m o j).1.1 := Nat.not_lt.mpr c111
        refine r_iinc (L' := [_, _, _, _, _, _, _, _, _, _]) dX10_play_122 rfl rfl (nI_inc _) rfl ?_
        refine r_goto (tgt := 49) dX10_play_125 (by decide) ?_
        first | exact JJ.wk_at 9 (JJ.to (K trivial) (by rw [plQ_s, if_pos (And.intro c65 c111)]; rfl) rfl (by rw [gQ_s, if_pos c65])) | exact JJ.wk_at 9 (JJ.to (K trivial) (by rw [plQ_s, if_neg (fun z => c111 z.2)]; rfl) rfl (by rw [gQ_s, if_pos c65])) | exact JJ.wk_at 9 (JJ.to (K trivial) (by rw [plQ_s, if_neg (fun z => absurd (c65.symm.trans z.1) (by decide))]; rfl) rfl (by rw [gQ_s, if_neg (fun z => absurd (c65.symm.trans z) (by decide))]))
      · have c111 : (plP w N G hb n (hnd s j o) o m).1.2 < (plQ w N G hb n s m o j).1.1 := c111
        refine r_iload dX10_play_114 rfl ?_
        refine r_istore (L' := [_, _, _, _, _, _, _, _, _, _]) dX10_play_116 rfl rfl ?_
        refine r_iload dX10_play_118 rfl ?_
        refine r_istore (L' := [_, _, _, _, _, _, _, _, _, _]) dX10_play_120 rfl rfl ?_
        refine r_iinc (L' := [_, _, _, _, _, _, _, _, _, _]) dX10_play_122 rfl rfl (nI_inc _) rfl ?_
        refine r_goto (tgt := 49) dX10_play_125 (by decide) ?_
        first | exact JJ.wk_at 9 (JJ.to (K trivial) (by rw [plQ_s, if_pos (And.intro c65 c111)]; rfl) rfl (by rw [gQ_s, if_pos c65])) | exact JJ.wk_at 9 (JJ.to (K trivial) (by rw [plQ_s, if_neg (fun z => c111 z.2)]; rfl) rfl (by rw [gQ_s, if_pos c65])) | exact JJ.wk_at 9 (JJ.to (K trivial) (by rw [plQ_s, if_neg (fun z => absurd (c65.symm.trans z.1) (by decide))]; rfl) rfl (by rw [gQ_s, if_neg (fun z => absurd (c65.symm.trans z) (by decide))]))

theorem v_X10_play (X : mCx) (d : Nat) {S : mSh} {R : mR} {w : Nat → Int32} {N G hb f a q : Nat} (hw : wOk w N G) (hq : mSg S q = some (20, 5)) (hs1 : q < a ∨ a + 4 < q) (hs2 : q < f ∨ f + 9 < q) (hs3 : a + 4 < f ∨ f + 9 < a) : ∀ (n : Nat), n ≤ 4 → ∀ (I : mI) (s : Nat → Int32) (m o pb : Nat), Fam S I R f w N G → Std S I R a s N G hb pb → m < N → o < N → CC X (d + n + 5) M_X10_play [.ref f, .ref a, .ref q, .int (nI m), .int (nI o), .int (nI n)] S (I, R) (some (.int (nI (enc (plP w N G hb n s m o).1)))) S (sRw I q (gR w N G hb n s m o (I q)), R)
  | 0, _, I, s, m, o, pb, hf, hst, hm, ho => by
    show CC X _ _ _ _ _ _ _ (sRw I q (I q), R)
    rw [sRw_0]
    exact v_X10_play_0 X d hw hf hst hm ho hq
  | n + 1, hn, I, s, m, o, pb, hf, hst, hm, ho => v_X10_play_s X (d + n) hw hf hst hm ho hq (by omega) hs1 hs2 hs3 (fun I1 s1 m1 o1 pb1 q1 q2 q3 q4 => v_X10_play X d hw hq hs1 hs2 hs3 n (by omega) I1 s1 m1 o1 pb1 q1 q2 q3 q4)
