/-! ===== the reference: chairs ===== -/
theorem v_X12_isOurs_x (X : mCx) (d : Nat) {S : mSh} {I : mI} {R : mR} {s : Nat → Int32} {hb g : Nat} (hm : Mod S R) (hd : MoD I 0 s hb) (hg : g < 8) (ho : s (19 + g) = -4 ∨ ∃ q, q < 6 ∧ s (19 + g) = nI q) : CC X (d + 3) M_X12_isOurs [.ref 97, .int (nI g)] S (I, R) (some (.int (bI (isHr hb (s (19 + g)))))) S (I, R) := by
  rcases ho with e | ⟨q, hq, e⟩
  · rw [e, show isHr hb (-4) = false from rfl]
    exact v_X12_isOurs_n X (d + 2) hm hd hg e
  · rw [e, isHr_n hq]
    exact v_X12_isOurs_p X (d + 0) hm hd hg hq e
def chM (w s : Nat → Int32) (hb t g : Nat) : Bool := isHr hb (s (19 + g)) && (!t.testBit g && !decide (cnt w g ≤ 0))
theorem chM_1 {w s : Nat → Int32} {hb t g : Nat} (h1 : isHr hb (s (19 + g)) = true) (h2 : t.testBit g = false) (h3 : ¬ cnt w g ≤ 0) : chM w s hb t g = true := by unfold chM; rw [h1, h2, decide_eq_false h3]; rfl
theorem chM_2 {w s : Nat → Int32} {hb t g : Nat} (h : chM w s hb t g = true) : isHr hb (s (19 + g)) = true ∧ t.testBit g = false ∧ ¬ cnt w g ≤ 0 := by
  simpa [chM] using h
def chBo (w s : Nat → Int32) (hb t n : Nat) : Nat := nFold n (fun g b => if chM w s hb t g = true ∧ (b = 0 ∨ cnt w (b - 1) < cnt w g) then g + 1 else b) 0
theorem chBo_s (w s : Nat → Int32) (hb t n : Nat) : chBo w s hb t (n + 1) = if chM w s hb t n = true ∧ (chBo w s hb t n = 0 ∨ cnt w (chBo w s hb t n - 1) < cnt w n) then n + 1 else chBo w s hb t n := rfl
theorem chBo_le (w s : Nat → Int32) (hb t : Nat) : ∀ n, chBo w s hb t n ≤ n ∧ (chBo w s hb t n ≠ 0 → t.testBit (chBo w s hb t n - 1) = false)
  | 0 => ⟨Nat.le_refl _, fun h => absurd rfl h⟩
  | n + 1 => by
    have h := chBo_le w s hb t n
    rw [chBo_s]
    split
    case isTrue g => exact ⟨Nat.le_refl _, fun _ => (chM_2 g.1).2.1⟩
    case isFalse => exact ⟨by omega, h.2⟩
def vB (b : Nat) : Int32 := if b = 0 then -4 else nI (b - 1)
def chL (w s : Nat → Int32) (G hb : Nat) (k : Int32) : Nat → Nat → Int32 → Int32
  | 0, _, _ => -5
  | f + 1, t, x => if x < k then (if chBo w s hb t G = 0 then -4 else chL w s G hb k f (t ||| 2 ^ (chBo w s hb t G - 1)) (x + cnt w (chBo w s hb t G - 1))) else nI (pop t)
def nz (t : Nat) : Nat := nFold 8 (fun g n => if t.testBit g = true then n else n + 1) 0
theorem nz_lt {t b : Nat} (ht : t < 256) (hb : b < 8) (h : t.testBit b = false) : nz (t ||| 2 ^ b) < nz t := by
  have : ∀ t, t < 256 → ∀ b, b < 8 → t.testBit b = false → nz (t ||| 2 ^ b) < nz t := by decide +kernel
  exact this t ht b hb h
set_option maxHeartbeats 4000000 in
set_option maxRecDepth 100000 in
theorem g_ch1 (X : mCx) (d : Nat) {S : mSh} {I : mI} {R : mR} {w s : Nat → Int32} {N G hb t g : Nat} {k x : Int32} {r : Option Value} {h : mHp} {v : Int32} (hm : Mod S R) (hw : MoW I w N G) (hd : MoD I 0 s hb) (ho : ∀ g, g < G → s (19 + g) = -4 ∨ ∃ q, q < 6 ∧ s (19 + g) = nI q) (ht : t < 256) (hg : g < G) (hM : chM w s hb t g = false) (K : JJ X M_X12_chairs (d + 4) 30 [.ref 97, .int k, .int (nI t), .int x, .int v, .int (nI (g + 1)), .retAddr 0] [] S (I, R) r S h) : JJ X M_X12_chairs (d + 4) 30 [.ref 97, .int k, .int (nI t), .int x, .int v, .int (nI g), .retAddr 0] [] S (I, R) (r) S h := by
  have hN6 := hw.N6
  have hG8 := hw.G8
  refine r_iload dX12_chairs_30 rfl ?_
  refine r_aload_n dX12_chairs_32 rfl ?_
  refine g_getR dX12_chairs_33 f_X12_7 (Mod.sg (by assumption)) rfl (Mod.r98 (by assumption)) ?_
  refine r_iconst dX12_chairs_36 ic_1 ?_
  refine g_iald dX12_chairs_37 (Mod.s98 (by assumption)) rfl (by omega) (by omega) hw.n1 ?_
  refine n_icmp_ge (tgt := 117) dX12_chairs_38 (by decide) (by omega) (by omega) (fun c38 => absurd c38 (by omega)) (fun c38 => ?_)
  refine r_aload_n dX12_chairs_41 rfl ?_
  refine r_iload dX12_chairs_42 rfl ?_
  refine r_V1 dX12_chairs_44 l_X12_151 k_X12_isOurs i_X12_isOurs (Mod.sg (by assumption)) ⟨_, rfl⟩ (Nat.le_of_ble_eq_true rfl) (v_X12_isOurs_x X _ hm hd (by omega) (ho g hg)) (List.prefix_refl S) ?_
  refine r_ifB_eq (tgt := 72) dX12_chairs_47 (by decide) (fun c47 => ?_) (fun c47 => ?_)
  · skip
    refine r_iconst dX12_chairs_72 ic_0 ?_
    refine r_istore (L' := [_, _, _, _, _, _, _]) dX12_chairs_73 rfl rfl ?_
    refine r_iload dX12_chairs_75 rfl ?_
    refine n_if_eq (tgt := 107) dX12_chairs_77 (by decide) (by omega) (fun c77 => ?_) (fun c77 => absurd rfl c77)
    refine r_iload dX12_chairs_107 rfl ?_
    refine r_istore (L' := [_, _, _, _, _, _, _]) dX12_chairs_109 rfl rfl ?_
    refine r_iinc (L' := [_, _, _, _, _, _, _]) dX12_chairs_111 rfl rfl (nI_inc _) rfl ?_
    exact r_goto (tgt := 30) dX12_chairs_114 (by decide) (JJ.wk_at 6 K)
  · skip
    refine r_iload_n dX12_chairs_50 rfl ?_
    refine r_iload dX12_chairs_51 rfl ?_
    refine r_S2 dX12_chairs_53 l_X12_114 k_X12_has s_X12_has (Nat.le_of_ble_eq_true rfl) (v_X12_has X _ (by first | assumption | omega) (by first | assumption | omega)) (List.prefix_refl S) ?_
    refine r_ifB_ne (tgt := 72) dX12_chairs_56 (by decide) (fun c56 => ?_) (fun c56 => ?_)
    · skip
      refine r_iconst dX12_chairs_72 ic_0 ?_
      refine r_istore (L' := [_, _, _, _, _, _, _]) dX12_chairs_73 rfl rfl ?_
      refine r_iload dX12_chairs_75 rfl ?_
      refine n_if_eq (tgt := 107) dX12_chairs_77 (by decide) (by omega) (fun c77 => ?_) (fun c77 => absurd rfl c77)
      refine r_iload dX12_chairs_107 rfl ?_
      refine r_istore (L' := [_, _, _, _, _, _, _]) dX12_chairs_109 rfl rfl ?_
      refine r_iinc (L' := [_, _, _, _, _, _, _]) dX12_chairs_111 rfl rfl (nI_inc _) rfl ?_
      exact r_goto (tgt := 30) dX12_chairs_114 (by decide) (JJ.wk_at 6 K)
    · skip
      refine r_aload_n dX12_chairs_59 rfl ?_
      refine r_iload dX12_chairs_60 rfl ?_
      refine r_V1 dX12_chairs_62 l_X12_127 k_X12_counts i_X12_counts (Mod.sg (by assumption)) ⟨_, rfl⟩ (Nat.le_of_ble_eq_true rfl) (v_X12_counts X _ hm hw hg) (List.prefix_refl S) ?_
      refine r_if_le (tgt := 72) dX12_chairs_65 (by decide) (fun c65 => ?_) (fun c65 => ?_)
      · skip
        refine r_iconst dX12_chairs_72 ic_0 ?_
        refine r_istore (L' := [_, _, _, _, _, _, _]) dX12_chairs_73 rfl rfl ?_
        refine r_iload dX12_chairs_75 rfl ?_
        refine n_if_eq (tgt := 107) dX12_chairs_77 (by decide) (by omega) (fun c77 => ?_) (fun c77 => absurd rfl c77)
        refine r_iload dX12_chairs_107 rfl ?_
        refine r_istore (L' := [_, _, _, _, _, _, _]) dX12_chairs_109 rfl rfl ?_
        refine r_iinc (L' := [_, _, _, _, _, _, _]) dX12_chairs_111 rfl rfl (nI_inc _) rfl ?_
        exact r_goto (tgt := 30) dX12_chairs_114 (by decide) (JJ.wk_at 6 K)
      · skip
        exact absurd (chM_1 c47 c56 c65) (by rw [hM]; decide)

set_option maxHeartbeats 4000000 in
set_option maxRecDepth 100000 in
theorem g_ch2 (X : mCx) (d : Nat) {S : mSh} {I : mI} {R : mR} {w s : Nat → Int32} {N G hb t g : Nat} {k x : Int32} {r : Option Value} {h : mHp} (hm : Mod S R) (hw : MoW I w N G) (hd : MoD I 0 s hb) (ho : ∀ g, g < G → s (19 + g) = -4 ∨ ∃ q, q < 6 ∧ s (19 + g) = nI q) (ht : t < 256) (hg : g < G) (hM : chM w s hb t g = true) (K : JJ X M_X12_chairs (d + 4) 30 [.ref 97, .int k, .int (nI t), .int x, .int (nI g), .int (nI (g + 1)), .retAddr 0] [] S (I, R) r S h) : JJ X M_X12_chairs (d + 4) 30 [.ref 97, .int k, .int (nI t), .int x, .int (-4), .int (nI g), .retAddr 0] [] S (I, R) (r) S h := by
  have hN6 := hw.N6
  have hG8 := hw.G8
  refine r_iload dX12_chairs_30 rfl ?_
  refine r_aload_n dX12_chairs_32 rfl ?_
  refine g_getR dX12_chairs_33 f_X12_7 (Mod.sg (by assumption)) rfl (Mod.r98 (by assumption)) ?_
  refine r_iconst dX12_chairs_36 ic_1 ?_
  refine g_iald dX12_chairs_37 (Mod.s98 (by assumption)) rfl (by omega) (by omega) hw.n1 ?_
  refine n_icmp_ge (tgt := 117) dX12_chairs_38 (by decide) (by omega) (by omega) (fun c38 => absurd c38 (by omega)) (fun c38 => ?_)
  refine r_aload_n dX12_chairs_41 rfl ?_
  refine r_iload dX12_chairs_42 rfl ?_
  refine r_V1 dX12_chairs_44 l_X12_151 k_X12_isOurs i_X12_isOurs (Mod.sg (by assumption)) ⟨_, rfl⟩ (Nat.le_of_ble_eq_true rfl) (v_X12_isOurs_x X _ hm hd (by omega) (ho g hg)) (List.prefix_refl S) ?_
  refine r_ifB_eq (tgt := 72) dX12_chairs_47 (by decide) (fun c47 => absurd (chM_2 hM).1 (by rw [c47]; decide)) (fun c47 => ?_)
  refine r_iload_n dX12_chairs_50 rfl ?_
  refine r_iload dX12_chairs_51 rfl ?_
  refine r_S2 dX12_chairs_53 l_X12_114 k_X12_has s_X12_has (Nat.le_of_ble_eq_true rfl) (v_X12_has X _ (by first | assumption | omega) (by first | assumption | omega)) (List.prefix_refl S) ?_
  refine r_ifB_ne (tgt := 72) dX12_chairs_56 (by decide) (fun c56 => absurd (chM_2 hM).2.1 (by rw [c56]; decide)) (fun c56 => ?_)
  refine r_aload_n dX12_chairs_59 rfl ?_
  refine r_iload dX12_chairs_60 rfl ?_
  refine r_V1 dX12_chairs_62 l_X12_127 k_X12_counts i_X12_counts (Mod.sg (by assumption)) ⟨_, rfl⟩ (Nat.le_of_ble_eq_true rfl) (v_X12_counts X _ hm hw hg) (List.prefix_refl S) ?_
  refine r_if_le (tgt := 72) dX12_chairs_65 (by decide) (fun c65 => absurd c65 (chM_2 hM).2.2) (fun c65 => ?_)
  refine r_iconst dX12_chairs_68 ic_1 ?_
  refine r_goto (tgt := 73) dX12_chairs_69 (by decide) ?_
  refine r_istore (L' := [_, _, _, _, _, _, _]) dX12_chairs_73 rfl rfl ?_
  refine r_iload dX12_chairs_75 rfl ?_
  refine n_if_eq (tgt := 107) dX12_chairs_77 (by decide) (by omega) (fun c77 => absurd c77 (by decide)) (fun c77 => ?_)
  refine r_iload dX12_chairs_80 rfl ?_
  refine r_bipush dX12_chairs_82 bp_m4 ?_
  refine r_icmp_eq (tgt := 102) dX12_chairs_84 (by decide) (fun c84 => ?_) (fun c84 => absurd rfl c84)
  refine r_iload dX12_chairs_102 rfl ?_
  refine r_goto (tgt := 109) dX12_chairs_104 (by decide) ?_
  refine r_istore (L' := [_, _, _, _, _, _, _]) dX12_chairs_109 rfl rfl ?_
  refine r_iinc (L' := [_, _, _, _, _, _, _]) dX12_chairs_111 rfl rfl (nI_inc _) rfl ?_
  exact r_goto (tgt := 30) dX12_chairs_114 (by decide) (JJ.wk_at 6 K)

set_option maxHeartbeats 4000000 in
set_option maxRecDepth 100000 in
theorem g_ch3 (X : mCx) (d : Nat) {S : mSh} {I : mI} {R : mR} {w s : Nat → Int32} {N G hb t g : Nat} {k x : Int32} {r : Option Value} {h : mHp} {b : Nat} (hm : Mod S R) (hw : MoW I w N G) (hd : MoD I 0 s hb) (ho : ∀ g, g < G → s (19 + g) = -4 ∨ ∃ q, q < 6 ∧ s (19 + g) = nI q) (ht : t < 256) (hg : g < G) (hbG : b < G) (hM : chM w s hb t g = true) (hc : cnt w b < cnt w g) (K : JJ X M_X12_chairs (d + 4) 30 [.ref 97, .int k, .int (nI t), .int x, .int (nI g), .int (nI (g + 1)), .retAddr 0] [] S (I, R) r S h) : JJ X M_X12_chairs (d + 4) 30 [.ref 97, .int k, .int (nI t), .int x, .int (nI b), .int (nI g), .retAddr 0] [] S (I, R) (r) S h := by
  have hN6 := hw.N6
  have hG8 := hw.G8
  refine r_iload dX12_chairs_30 rfl ?_
  refine r_aload_n dX12_chairs_32 rfl ?_
  refine g_getR dX12_chairs_33 f_X12_7 (Mod.sg (by assumption)) rfl (Mod.r98 (by assumption)) ?_
  refine r_iconst dX12_chairs_36 ic_1 ?_
  refine g_iald dX12_chairs_37 (Mod.s98 (by assumption)) rfl (by omega) (by omega) hw.n1 ?_
  refine n_icmp_ge (tgt := 117) dX12_chairs_38 (by decide) (by omega) (by omega) (fun c38 => absurd c38 (by omega)) (fun c38 => ?_)
  refine r_aload_n dX12_chairs_41 rfl ?_
  refine r_iload dX12_chairs_42 rfl ?_
  refine r_V1 dX12_chairs_44 l_X12_151 k_X12_isOurs i_X12_isOurs (Mod.sg (by assumption)) ⟨_, rfl⟩ (Nat.le_of_ble_eq_true rfl) (v_X12_isOurs_x X _ hm hd (by omega) (ho g hg)) (List.prefix_refl S) ?_
  refine r_ifB_eq (tgt := 72) dX12_chairs_47 (by decide) (fun c47 => absurd (chM_2 hM).1 (by rw [c47]; decide)) (fun c47 => ?_)
  refine r_iload_n dX12_chairs_50 rfl ?_
  refine r_iload dX12_chairs_51 rfl ?_
  refine r_S2 dX12_chairs_53 l_X12_114 k_X12_has s_X12_has (Nat.le_of_ble_eq_true rfl) (v_X12_has X _ (by first | assumption | omega) (by first | assumption | omega)) (List.prefix_refl S) ?_
  refine r_ifB_ne (tgt := 72) dX12_chairs_56 (by decide) (fun c56 => absurd (chM_2 hM).2.1 (by rw [c56]; decide)) (fun c56 => ?_)
  refine r_aload_n dX12_chairs_59 rfl ?_
  refine r_iload dX12_chairs_60 rfl ?_
  refine r_V1 dX12_chairs_62 l_X12_127 k_X12_counts i_X12_counts (Mod.sg (by assumption)) ⟨_, rfl⟩ (Nat.le_of_ble_eq_true rfl) (v_X12_counts X _ hm hw hg) (List.prefix_refl S) ?_
  refine r_if_le (tgt := 72) dX12_chairs_65 (by decide) (fun c65 => absurd c65 (chM_2 hM).2.2) (fun c65 => ?_)
  refine r_iconst dX12_chairs_68 ic_1 ?_
  refine r_goto (tgt := 73) dX12_chairs_69 (by decide) ?_
  refine r_istore (L' := [_, _, _, _, _, _, _]) dX12_chairs_73 rfl rfl ?_
  refine r_iload dX12_chairs_75 rfl ?_
  refine n_if_eq (tgt := 107) dX12_chairs_77 (by decide) (by omega) (fun c77 => absurd c77 (by decide)) (fun c77 => ?_)
  refine r_iload dX12_chairs_80 rfl ?_
  refine r_bipush dX12_chairs_82 bp_m4 ?_
  refine r_icmp_eq (tgt := 102) dX12_chairs_84 (by decide) (fun c84 => absurd c84 (nI_ne4 (by omega))) (fun c84 => ?_)
  refine r_aload_n dX12_chairs_87 rfl ?_
  refine r_iload dX12_chairs_88 rfl ?_
  refine r_V1 dX12_chairs_90 l_X12_127 k_X12_counts i_X12_counts (Mod.sg (by assumption)) ⟨_, rfl⟩ (Nat.le_of_ble_eq_true rfl) (v_X12_counts X _ hm hw hg) (List.prefix_refl S) ?_
  refine r_aload_n dX12_chairs_93 rfl ?_
  refine r_iload dX12_chairs_94 rfl ?_
  refine r_V1 dX12_chairs_96 l_X12_127 k_X12_counts i_X12_counts (Mod.sg (by assumption)) ⟨_, rfl⟩ (Nat.le_of_ble_eq_true rfl) (v_X12_counts X _ hm hw hbG) (List.prefix_refl S) ?_
  refine r_icmp_le (tgt := 107) dX12_chairs_99 (by decide) (fun c99 => absurd hc (Int32.not_lt.mpr c99)) (fun c99 => ?_)
  refine r_iload dX12_chairs_102 rfl ?_
  refine r_goto (tgt := 109) dX12_chairs_104 (by decide) ?_
  refine r_istore (L' := [_, _, _, _, _, _, _]) dX12_chairs_109 rfl rfl ?_
  refine r_iinc (L' := [_, _, _, _, _, _, _]) dX12_chairs_111 rfl rfl (nI_inc _) rfl ?_
  exact r_goto (tgt := 30) dX12_chairs_114 (by decide) (JJ.wk_at 6 K)

set_option maxHeartbeats 4000000 in
set_option maxRecDepth 100000 in
theorem g_ch4 (X : mCx) (d : Nat) {S : mSh} {I : mI} {R : mR} {w s : Nat → Int32} {N G hb t g : Nat} {k x : Int32} {r : Option Value} {h : mHp} {b : Nat} (hm : Mod S R) (hw : MoW I w N G) (hd : MoD I 0 s hb) (ho : ∀ g, g < G → s (19 + g) = -4 ∨ ∃ q, q < 6 ∧ s (19 + g) = nI q) (ht : t < 256) (hg : g < G) (hbG : b < G) (hM : chM w s hb t g = true) (hc : ¬ cnt w b < cnt w g) (K : JJ X M_X12_chairs (d + 4) 30 [.ref 97, .int k, .int (nI t), .int x, .int (nI b), .int (nI (g + 1)), .retAddr 0] [] S (I, R) r S h) : JJ X M_X12_chairs (d + 4) 30 [.ref 97, .int k, .int (nI t), .int x, .int (nI b), .int (nI g), .retAddr 0] [] S (I, R) (r) S h := by
  have hN6 := hw.N6
  have hG8 := hw.G8
  refine r_iload dX12_chairs_30 rfl ?_
  refine r_aload_n dX12_chairs_32 rfl ?_
  refine g_getR dX12_chairs_33 f_X12_7 (Mod.sg (by assumption)) rfl (Mod.r98 (by assumption)) ?_
  refine r_iconst dX12_chairs_36 ic_1 ?_
  refine g_iald dX12_chairs_37 (Mod.s98 (by assumption)) rfl (by omega) (by omega) hw.n1 ?_
  refine n_icmp_ge (tgt := 117) dX12_chairs_38 (by decide) (by omega) (by omega) (fun c38 => absurd c38 (by omega)) (fun c38 => ?_)
  refine r_aload_n dX12_chairs_41 rfl ?_
  refine r_iload dX12_chairs_42 rfl ?_
  refine r_V1 dX12_chairs_44 l_X12_151 k_X12_isOurs i_X12_isOurs (Mod.sg (by assumption)) ⟨_, rfl⟩ (Nat.le_of_ble_eq_true rfl) (v_X12_isOurs_x X _ hm hd (by omega) (ho g hg)) (List.prefix_refl S) ?_
  refine r_ifB_eq (tgt := 72) dX12_chairs_47 (by decide) (fun c47 => absurd (chM_2 hM).1 (by rw [c47]; decide)) (fun c47 => ?_)
  refine r_iload_n dX12_chairs_50 rfl ?_
  refine r_iload dX12_chairs_51 rfl ?_
  refine r_S2 dX12_chairs_53 l_X12_114 k_X12_has s_X12_has (Nat.le_of_ble_eq_true rfl) (v_X12_has X _ (by first | assumption | omega) (by first | assumption | omega)) (List.prefix_refl S) ?_
  refine r_ifB_ne (tgt := 72) dX12_chairs_56 (by decide) (fun c56 => absurd (chM_2 hM).2.1 (by rw [c56]; decide)) (fun c56 => ?_)
  refine r_aload_n dX12_chairs_59 rfl ?_
  refine r_iload dX12_chairs_60 rfl ?_
  refine r_V1 dX12_chairs_62 l_X12_127 k_X12_counts i_X12_counts (Mod.sg (by assumption)) ⟨_, rfl⟩ (Nat.le_of_ble_eq_true rfl) (v_X12_counts X _ hm hw hg) (List.prefix_refl S) ?_
  refine r_if_le (tgt := 72) dX12_chairs_65 (by decide) (fun c65 => absurd c65 (chM_2 hM).2.2) (fun c65 => ?_)
  refine r_iconst dX12_chairs_68 ic_1 ?_
  refine r_goto (tgt := 73) dX12_chairs_69 (by decide) ?_
  refine r_istore (L' := [_, _, _, _, _, _, _]) dX12_chairs_73 rfl rfl ?_
  refine r_iload dX12_chairs_75 rfl ?_
  refine n_if_eq (tgt := 107) dX12_chairs_77 (by decide) (by omega) (fun c77 => absurd c77 (by decide)) (fun c77 => ?_)
  refine r_iload dX12_chairs_80 rfl ?_
  refine r_bipush dX12_chairs_82 bp_m4 ?_
  refine r_icmp_eq (tgt := 102) dX12_chairs_84 (by decide) (fun c84 => absurd c84 (nI_ne4 (by omega))) (fun c84 => ?_)
  refine r_aload_n dX12_chairs_87 rfl ?_
  refine r_iload dX12_chairs_88 rfl ?_
  refine r_V1 dX12_chairs_90 l_X12_127 k_X12_counts i_X12_counts (Mod.sg (by assumption)) ⟨_, rfl⟩ (Nat.le_of_ble_eq_true rfl) (v_X12_counts X _ hm hw hg) (List.prefix_refl S) ?_
  refine r_aload_n dX12_chairs_93 rfl ?_
  refine r_iload dX12_chairs_94 rfl ?_
  refine r_V1 dX12_chairs_96 l_X12_127 k_X12_counts i_X12_counts (Mod.sg (by assumption)) ⟨_, rfl⟩ (Nat.le_of_ble_eq_true rfl) (v_X12_counts X _ hm hw hbG) (List.prefix_refl S) ?_
  refine r_icmp_le (tgt := 107) dX12_chairs_99 (by decide) (fun c99 => ?_) (fun c99 => absurd (Int32.not_le.mp c99) hc)
  refine r_iload dX12_chairs_107 rfl ?_
  refine r_istore (L' := [_, _, _, _, _, _, _]) dX12_chairs_109 rfl rfl ?_
  refine r_iinc (L' := [_, _, _, _, _, _, _]) dX12_chairs_111 rfl rfl (nI_inc _) rfl ?_
  exact r_goto (tgt := 30) dX12_chairs_114 (by decide) (JJ.wk_at 6 K)

set_option maxHeartbeats 4000000 in
set_option maxRecDepth 100000 in
theorem g_ch5 (X : mCx) (d : Nat) {S : mSh} {I : mI} {R : mR} {w s : Nat → Int32} {N G hb t g : Nat} {k x : Int32} (hm : Mod S R) (hw : MoW I w N G) (hd : MoD I 0 s hb) (ht : t < 256) (hg : g = G)  : JJ X M_X12_chairs (d + 4) 30 [.ref 97, .int k, .int (nI t), .int x, .int (-4), .int (nI g), .retAddr 0] [] S (I, R) (some (.int (-4))) S (I, R) := by
  have hN6 := hw.N6
  have hG8 := hw.G8
  refine r_iload dX12_chairs_30 rfl ?_
  refine r_aload_n dX12_chairs_32 rfl ?_
  refine g_getR dX12_chairs_33 f_X12_7 (Mod.sg (by assumption)) rfl (Mod.r98 (by assumption)) ?_
  refine r_iconst dX12_chairs_36 ic_1 ?_
  refine g_iald dX12_chairs_37 (Mod.s98 (by assumption)) rfl (by omega) (by omega) hw.n1 ?_
  refine n_icmp_ge (tgt := 117) dX12_chairs_38 (by decide) (by omega) (by omega) (fun c38 => ?_) (fun c38 => absurd c38 (by omega))
  refine r_iload dX12_chairs_117 rfl ?_
  refine r_bipush dX12_chairs_119 bp_m4 ?_
  refine r_icmp_ne (tgt := 127) dX12_chairs_121 (by decide) (fun c121 => absurd rfl c121) (fun c121 => ?_)
  refine r_bipush dX12_chairs_124 bp_m4 ?_
  exact g_iret dX12_chairs_126 rfl rfl

set_option maxHeartbeats 4000000 in
set_option maxRecDepth 100000 in
theorem g_ch6 (X : mCx) (d : Nat) {S : mSh} {I : mI} {R : mR} {w s : Nat → Int32} {N G hb t g : Nat} {k x : Int32} {r : Option Value} {h : mHp} {b : Nat} (hm : Mod S R) (hw : MoW I w N G) (hd : MoD I 0 s hb) (ht : t < 256) (hg : g = G) (hbG : b < G) (K : JJ X M_X12_chairs (d + 4) 18 [.ref 97, .int k, .int (nI (t ||| 2 ^ b)), .int (x + cnt w b), .retAddr 0, .retAddr 0, .retAddr 0] [] S (I, R) r S h) : JJ X M_X12_chairs (d + 4) 30 [.ref 97, .int k, .int (nI t), .int x, .int (nI b), .int (nI g), .retAddr 0] [] S (I, R) (r) S h := by
  have hN6 := hw.N6
  have hG8 := hw.G8
  refine r_iload dX12_chairs_30 rfl ?_
  refine r_aload_n dX12_chairs_32 rfl ?_
  refine g_getR dX12_chairs_33 f_X12_7 (Mod.sg (by assumption)) rfl (Mod.r98 (by assumption)) ?_
  refine r_iconst dX12_chairs_36 ic_1 ?_
  refine g_iald dX12_chairs_37 (Mod.s98 (by assumption)) rfl (by omega) (by omega) hw.n1 ?_
  refine n_icmp_ge (tgt := 117) dX12_chairs_38 (by decide) (by omega) (by omega) (fun c38 => ?_) (fun c38 => absurd c38 (by omega))
  refine r_iload dX12_chairs_117 rfl ?_
  refine r_bipush dX12_chairs_119 bp_m4 ?_
  refine r_icmp_ne (tgt := 127) dX12_chairs_121 (by decide) (fun c121 => ?_) (fun c121 => absurd c121 (nI_ne4 (by omega)))
  refine r_iload_n dX12_chairs_127 rfl ?_
  refine r_iconst dX12_chairs_128 ic_1 ?_
  refine r_iload dX12_chairs_129 rfl ?_
  refine r_ishl dX12_chairs_131 ?_
  refine g_top (shl1 (by omega)) ?_
  refine r_ior dX12_chairs_132 ?_
  refine g_top (nI_or _ _) ?_
  refine r_istore_n (L' := [_, _, _, _, _, _, _]) dX12_chairs_133 rfl rfl ?_
  refine r_iload_n dX12_chairs_134 rfl ?_
  refine r_aload_n dX12_chairs_135 rfl ?_
  refine r_iload dX12_chairs_136 rfl ?_
  refine r_V1 dX12_chairs_138 l_X12_127 k_X12_counts i_X12_counts (Mod.sg (by assumption)) ⟨_, rfl⟩ (Nat.le_of_ble_eq_true rfl) (v_X12_counts X _ hm hw hbG) (List.prefix_refl S) ?_
  refine r_iadd dX12_chairs_141 ?_
  refine r_istore_n (L' := [_, _, _, _, _, _, _]) dX12_chairs_142 rfl rfl ?_
  exact r_goto (tgt := 18) dX12_chairs_143 (by decide) (JJ.wk_at 4 (JJ.wk_at 5 K))

set_option maxHeartbeats 4000000 in
set_option maxRecDepth 100000 in
theorem g_ch7 (X : mCx) (d : Nat) {S : mSh} {I : mI} {R : mR} {t : Nat} {k x : Int32} (hm : Mod S R) (ht : t < 256) (hx : ¬ x < k)  : JJ X M_X12_chairs (d + 4) 18 [.ref 97, .int k, .int (nI t), .int x, .retAddr 0, .retAddr 0, .retAddr 0] [] S (I, R) (some (.int (nI (pop t)))) S (I, R) := by
  refine r_iload_n dX12_chairs_18 rfl ?_
  refine r_iload_n dX12_chairs_19 rfl ?_
  refine r_icmp_ge (tgt := 146) dX12_chairs_20 (by decide) (fun c20 => ?_) (fun c20 => absurd (Int32.not_le.mp c20) hx)
  refine r_iload_n dX12_chairs_146 rfl ?_
  refine r_S1 dX12_chairs_147 l_X12_205 k_X12_ones s_X12_ones (Nat.le_of_ble_eq_true rfl) (v_X12_ones X _ (by first | assumption | omega)) (List.prefix_refl S) ?_
  exact g_iret dX12_chairs_150 rfl rfl

set_option maxHeartbeats 4000000 in
set_option maxRecDepth 100000 in
theorem g_ch8 (X : mCx) (d : Nat) {S : mSh} {I : mI} {R : mR} {t : Nat} {k x : Int32} {r : Option Value} {h : mHp} (hm : Mod S R) (hx : x < k) (K : JJ X M_X12_chairs (d + 4) 30 [.ref 97, .int k, .int (nI t), .int x, .int (-4), .int (nI 0), .retAddr 0] [] S (I, R) r S h) : JJ X M_X12_chairs (d + 4) 18 [.ref 97, .int k, .int (nI t), .int x, .retAddr 0, .retAddr 0, .retAddr 0] [] S (I, R) (r) S h := by
  refine r_iload_n dX12_chairs_18 rfl ?_
  refine r_iload_n dX12_chairs_19 rfl ?_
  refine r_icmp_ge (tgt := 146) dX12_chairs_20 (by decide) (fun c20 => absurd hx (Int32.not_lt.mpr c20)) (fun c20 => ?_)
  refine r_bipush dX12_chairs_23 bp_m4 ?_
  refine r_istore (L' := [_, _, _, _, _, _, _]) dX12_chairs_25 rfl rfl ?_
  refine r_iconst dX12_chairs_27 ic_0 ?_
  refine r_istore (L' := [_, _, _, _, _, _, _]) dX12_chairs_28 rfl rfl ?_
  exact K

set_option maxHeartbeats 4000000 in
set_option maxRecDepth 100000 in
theorem g_ch0 (X : mCx) (d : Nat) {S : mSh} {I : mI} {R : mR} {k : Int32} {r : Int32} (hm : Mod S R) (hy : isS k = true) (K : JJ X M_X12_chairs (d + 4) 18 [.ref 97, .int k, .int (nI 0), .int (nI 0), .retAddr 0, .retAddr 0, .retAddr 0] [] S (I, R) (some (.int r)) S (I, R)) : CC X (d + 4) M_X12_chairs [.ref 97, .int k] S (I, R) (some (.int r)) S (I, R) := by
  refine CC.of2 (L := [.ref 97, .int k, .retAddr 0, .retAddr 0, .retAddr 0, .retAddr 0, .retAddr 0]) p_X12 (Nat.le_of_ble_eq_true rfl) rfl rfl (List.prefix_refl S) ?_
  refine r_iload_n dX12_chairs_0 rfl ?_
  refine r_i2l dX12_chairs_1 rfl ?_
  refine r_lconst (v := lN 0) dX12_chairs_2 rfl ?_
  refine r_ldc2 dX12_chairs_3 c_X12_182 ?_
  refine r_S3 dX12_chairs_6 l_X12_62 k_X12_in s_X12_in (Nat.le_of_ble_eq_true rfl) (v_X12_in X _ ) (List.prefix_refl S) ?_
  refine g_top (congrArg bI isS_in) ?_
  refine r_ifB_ne (tgt := 14) dX12_chairs_9 (by decide) (fun c9 => ?_) (fun c9 => absurd hy (by rw [c9]; decide))
  refine r_iconst dX12_chairs_14 ic_0 ?_
  refine r_istore_n (L' := [_, _, _, _, _, _, _]) dX12_chairs_15 rfl rfl ?_
  refine r_iconst dX12_chairs_16 ic_0 ?_
  refine r_istore_n (L' := [_, _, _, _, _, _, _]) dX12_chairs_17 rfl rfl ?_
  exact K

set_option maxHeartbeats 4000000 in
set_option maxRecDepth 100000 in
theorem v_X12_chairs_f (X : mCx) (d : Nat) {S : mSh} {I : mI} {R : mR} {k : Int32} (hm : Mod S R) (hy : isS k = false) : CC X (d + 2) M_X12_chairs [.ref 97, .int k] S (I, R) (some (.int (-1))) S (I, R) := by
  refine CC.of2 (L := [.ref 97, .int k, .retAddr 0, .retAddr 0, .retAddr 0, .retAddr 0, .retAddr 0]) p_X12 (Nat.le_of_ble_eq_true rfl) rfl rfl (List.prefix_refl S) ?_
  refine r_iload_n dX12_chairs_0 rfl ?_
  refine r_i2l dX12_chairs_1 rfl ?_
  refine r_lconst (v := lN 0) dX12_chairs_2 rfl ?_
  refine r_ldc2 dX12_chairs_3 c_X12_182 ?_
  refine r_S3 dX12_chairs_6 l_X12_62 k_X12_in s_X12_in (Nat.le_of_ble_eq_true rfl) (v_X12_in X _ ) (List.prefix_refl S) ?_
  refine g_top (congrArg bI isS_in) ?_
  refine r_ifB_ne (tgt := 14) dX12_chairs_9 (by decide) (fun c9 => absurd hy (by rw [c9]; decide)) (fun c9 => ?_)
  refine r_iconst dX12_chairs_12 ic_m1 ?_
  exact g_iret dX12_chairs_13 rfl rfl

theorem g_chI (X : mCx) (d : Nat) {S : mSh} {I : mI} {R : mR} {w s : Nat → Int32} {N G hb t : Nat} {k x : Int32} {r : Option Value} {h : mHp} (hm : Mod S R) (hw : MoW I w N G) (hd : MoD I 0 s hb) (ho : ∀ g, g < G → s (19 + g) = -4 ∨ ∃ q, q < 6 ∧ s (19 + g) = nI q) (ht : t < 256)
    (K : JJ X M_X12_chairs (d + 4) 30 [.ref 97, .int k, .int (nI t), .int x, .int (vB (chBo w s hb t G)), .int (nI G), .retAddr 0] [] S (I, R) r S h) : ∀ j g, g + j = G → JJ X M_X12_chairs (d + 4) 30 [.ref 97, .int k, .int (nI t), .int x, .int (vB (chBo w s hb t g)), .int (nI g), .retAddr 0] [] S (I, R) r S h := by
  intro j
  induction j with
  | zero =>
    intro g hg
    rw [show g = G by omega]
    exact K
  | succ j ih =>
    intro g hg
    have K1 := ih (g + 1) (by omega)
    have hl := chBo_le w s hb t g
    rw [chBo_s] at K1
    cases hM : chM w s hb t g with
    | false =>
      rw [if_neg (fun z => by rw [hM] at z; exact absurd z.1 (by decide))] at K1
      exact g_ch1 X d hm hw hd ho ht (by omega) hM K1
    | true =>
      by_cases hb0 : chBo w s hb t g = 0
      · rw [if_pos ⟨hM, Or.inl hb0⟩, show vB (g + 1) = nI g from rfl] at K1
        rw [hb0, show vB 0 = -4 from rfl]
        exact g_ch2 X d hm hw hd ho ht (by omega) hM K1
      · have ev : vB (chBo w s hb t g) = nI (chBo w s hb t g - 1) := if_neg hb0
        by_cases hc : cnt w (chBo w s hb t g - 1) < cnt w g
        · rw [if_pos ⟨hM, Or.inr hc⟩, show vB (g + 1) = nI g from rfl] at K1
          rw [ev]
          exact g_ch3 X d hm hw hd ho ht (by omega) (by omega) hM hc K1
        · rw [if_neg (fun z => z.2.elim hb0 hc), ev] at K1
          rw [ev]
          exact g_ch4 X d hm hw hd ho ht (by omega) (by omega) hM hc K1
theorem g_chO (X : mCx) (d : Nat) {S : mSh} {I : mI} {R : mR} {w s : Nat → Int32} {N G hb : Nat} {k : Int32} (hm : Mod S R) (hw : MoW I w N G) (hd : MoD I 0 s hb) (ho : ∀ g, g < G → s (19 + g) = -4 ∨ ∃ q, q < 6 ∧ s (19 + g) = nI q) : ∀ (f t : Nat) (x : Int32), t < 256 → nz t < f → JJ X M_X12_chairs (d + 4) 18 [.ref 97, .int k, .int (nI t), .int x, .retAddr 0, .retAddr 0, .retAddr 0] [] S (I, R) (some (.int (chL w s G hb k f t x))) S (I, R)
  | 0, t, x, ht, hf => absurd hf (Nat.not_lt_zero _)
  | f + 1, t, x, ht, hf => by
    have hG8 := hw.G8
    unfold chL
    by_cases hx : x < k
    case neg => rw [if_neg hx]; exact g_ch7 X d hm ht hx
    rw [if_pos hx]
    have hl := chBo_le w s hb t G
    refine g_ch8 X d hm hx ?_
    refine g_chI X d hm hw hd ho ht ?_ G 0 (by omega)
    by_cases hb0 : chBo w s hb t G = 0
    · rw [if_pos hb0, hb0, show vB 0 = -4 from rfl]
      exact g_ch5 X d hm hw hd ht rfl
    · rw [if_neg hb0, show vB (chBo w s hb t G) = nI (chBo w s hb t G - 1) from if_neg hb0]
      have hn := nz_lt ht (show chBo w s hb t G - 1 < 8 by omega) (hl.2 hb0)
      exact g_ch6 X d hm hw hd ht rfl (by omega) (g_chO X d hm hw hd ho f _ _ (or_256 ht (by omega)) (by omega))
theorem v_X12_chairs_t (X : mCx) (d : Nat) {S : mSh} {I : mI} {R : mR} {w s : Nat → Int32} {N G hb : Nat} {k : Int32} (hm : Mod S R) (hw : MoW I w N G) (hd : MoD I 0 s hb) (ho : ∀ g, g < G → s (19 + g) = -4 ∨ ∃ q, q < 6 ∧ s (19 + g) = nI q) (hy : isS k = true) : CC X (d + 4) M_X12_chairs [.ref 97, .int k] S (I, R) (some (.int (chL w s G hb k 9 0 (nI 0)))) S (I, R) :=
  g_ch0 X d hm hy (g_chO X d hm hw hd ho 9 0 (nI 0) (by decide) (by decide))
