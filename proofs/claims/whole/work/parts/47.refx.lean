/-! ===== the reference: turns, one gift tried ===== -/
def frT (D : Nat) (I I1 : mI) : Prop := (∀ o, o ≠ 97 → o ≠ 106 → o ≠ 107 → o ≠ 108 → I1 o = I o) ∧ (∀ b, b ≠ 16 → I1 97 b = I 97 b) ∧ (∀ k, k < D → I1 106 k = I 106 k ∧ I1 107 k = I 107 k ∧ I1 108 k = I 108 k) ∧ (0 < D → I1 97 16 = I 97 16)
theorem frT.rfl' (D : Nat) (I : mI) : frT D I I := ⟨fun _ _ _ _ _ => rfl, fun _ _ => rfl, fun _ _ => ⟨rfl, rfl, rfl⟩, fun _ => rfl⟩
theorem frT.tr {D : Nat} {I I1 I2 : mI} (a : frT D I I1) (b : frT D I1 I2) : frT D I I2 := ⟨fun o h1 h2 h3 h4 => (b.1 o h1 h2 h3 h4).trans (a.1 o h1 h2 h3 h4), fun k h => (b.2.1 k h).trans (a.2.1 k h), fun k h => ⟨(b.2.2.1 k h).1.trans (a.2.2.1 k h).1, (b.2.2.1 k h).2.1.trans (a.2.2.1 k h).2.1, (b.2.2.1 k h).2.2.trans (a.2.2.1 k h).2.2⟩, fun h => (b.2.2.2 h).trans (a.2.2.2 h)⟩
theorem whoT_o (D i j : Nat) : i + j - whoT D i j = whoT (D + 1) i j := by
  unfold whoT
  by_cases h : D % 2 = 0
  · rw [if_pos h, if_neg (by omega)]; omega
  · rw [if_neg h, if_pos (by omega)]; omega
def lessT (H : mI) (D : Nat) (a b : Int32) : Prop := if D % 2 = 0 then a < H 107 D else b < H 108 D
theorem lessT_d (H : mI) (D : Nat) (a b : Int32) : lessT H D a b ∨ ¬ lessT H D a b := Classical.em _
theorem opI_o {I : mI} {D o : Nat} (h1 : o ≠ 106) (h2 : o ≠ 107) (h3 : o ≠ 108) : opI I D o = I o := by
  unfold opI
  rw [sJ_o h3, sJ_o h2, sJ_o h1]
theorem opI_6 {I : mI} {D k : Nat} (h : k ≠ D) : opI I D 106 k = I 106 k := by
  unfold opI
  rw [sJ_ne (Or.inl (by decide)), sJ_ne (Or.inl (by decide)), sJ_ne (Or.inr h)]
theorem opI_7 {I : mI} {D k : Nat} (h : k ≠ D) : opI I D 107 k = I 107 k := by
  unfold opI
  rw [sJ_ne (Or.inl (by decide)), sJ_ne (Or.inr h), sJ_ne (Or.inl (by decide))]
theorem opI_8 {I : mI} {D k : Nat} (h : k ≠ D) : opI I D 108 k = I 108 k := by
  unfold opI
  rw [sJ_ne (Or.inr h), sJ_ne (Or.inl (by decide)), sJ_ne (Or.inl (by decide))]
theorem opI_q (I : mI) (D : Nat) : opI I D 106 D = -5 ∧ opI I D 107 D = FARI ∧ opI I D 108 D = FARI := by
  unfold opI
  refine ⟨?_, ?_, sJ_eq _ _ _ _⟩
  · rw [sJ_ne (Or.inl (by decide)), sJ_ne (Or.inl (by decide)), sJ_eq]
  · rw [sJ_ne (Or.inl (by decide)), sJ_eq]
/-- a step back after a gift x was tried -/
theorem g_ftB (X : mCx) {S : mSh} {I J2 : mI} {R : mR} {i j n D : Nat} {a b x : Int32} (hm : Mod S R) (hi : i < 6) (hj : j < 6) (hn : n ≤ 4) (hD : D ≤ n) (h106 : I 106 D = x) (hG : ∀ d, CC X (d + 1) M_X12_gives [.ref 97, .int x, .int (nI (whoT D i j))] S (I, R) none S (J2, R)) (h2 : J2 106 = I 106) (hDn : D < n) :
    ∃ H1, H1 106 D = x ∧ (lessT J2 D a b → H1 = ofI J2 D a b) ∧ (¬ lessT J2 D a b → H1 = J2) ∧ ∀ d r h, JJ X M_X12_findTurns (d + 4) 22 [.ref 97, .int (nI i), .int (nI j), .int (nI n), .int (nI D), .retAddr 0, .retAddr 0, .retAddr 0, .retAddr 0] [] S (H1, R) r S h → JJ X M_X12_findTurns (d + 4) 163 [.ref 97, .int (nI i), .int (nI j), .int (nI n), .int (nI (D + 1)), .retAddr 0, .retAddr 0, .int a, .int b] [] S (I, R) r S h := by
  have e2 : J2 106 D = x := by rw [h2]; exact h106
  by_cases hl : lessT J2 D a b
  · refine ⟨ofI J2 D a b, ?_, fun _ => rfl, fun q => absurd hl q, fun d r h K => g_ft4 X d hm hi hj hn hD h106 hG (fun d => v_X12_offers_t X d hm (by omega) hl) K⟩
    unfold ofI
    rw [sJ_ne (Or.inl (by decide)), sJ_ne (Or.inl (by decide)), sJ_ne (Or.inl (by decide))]
    exact e2
  · exact ⟨J2, e2, fun q => absurd q hl, fun _ => rfl, fun d r h K => g_ft4 X d hm hi hj hn hD h106 hG (fun d => v_X12_offers_f X d hm (by omega) hl) K⟩
theorem ofI_f {J : mI} {D : Nat} {a b x : Int32} (h6 : J 106 D = x) : frT D J (ofI J D a b) ∧ ofI J D a b 107 D = a ∧ ofI J D a b 108 D = b ∧ (D = 0 → ofI J D a b 97 16 = x) := by
  unfold ofI
  refine ⟨⟨fun o h1 h2 h3 h4 => ?_, fun k h => ?_, fun k h => ⟨?_, ?_, ?_⟩, fun h => ?_⟩, ?_, ?_, fun h => ?_⟩
  · rw [sJ_o h1, sJ_o h4, sJ_o h3]
  · rw [sJ_ne (Or.inr h), sJ_ne (Or.inl (by decide)), sJ_ne (Or.inl (by decide))]
  · rw [sJ_ne (Or.inl (by decide)), sJ_ne (Or.inl (by decide)), sJ_ne (Or.inl (by decide))]
  · rw [sJ_ne (Or.inl (by decide)), sJ_ne (Or.inl (by decide)), sJ_ne (Or.inr (by omega))]
  · rw [sJ_ne (Or.inl (by decide)), sJ_ne (Or.inr (by omega)), sJ_ne (Or.inl (by decide))]
  · rw [sJ_eq, if_neg (by omega)]
  · rw [sJ_ne (Or.inl (by decide)), sJ_ne (Or.inl (by decide)), sJ_eq]
  · rw [sJ_ne (Or.inl (by decide)), sJ_eq]
  · subst h
    rw [sJ_eq, if_pos rfl, h6]
theorem g_ftT (X : mCx) {S : mSh} {H : mI} {R : mR} {i j n D hb N G : Nat} {w s s' : Nat → Int32} {a b c x : Int32} (hm : Mod S R) (hi : i < 6) (hj : j < 6) (hn : n ≤ 4) (hDn : D < n) (hw : MoW H w N G) (hd : MoD H 385 s hb) (h6 : H 106 D = c) (hx : ¬ x = FARI) (hN : ∀ d, CC X (d + 1) M_X12_nextGift [.ref 97, .int (nI (whoT D i j)), .int c] S (H, R) (some (.int x)) S (H, R))
    (hc : (x = -4 ∧ s' = s) ∨ ∃ g, g < 8 ∧ x = nI g ∧ s' = up s (19 + g) (nI (whoT (D + 1) i j)) ∧ s (19 + g) = nI (whoT D i j))
    (IH : ∀ J, MoW J w N G → MoD J 385 s' hb → J 106 (D + 1) = -5 → J 107 (D + 1) = FARI → J 108 (D + 1) = FARI → ∃ J1, frT (D + 1) J J1 ∧ ∀ d r h, JJ X M_X12_findTurns (d + 4) 163 [.ref 97, .int (nI i), .int (nI j), .int (nI n), .int (nI (D + 1)), .retAddr 0, .retAddr 0, .int a, .int b] [] S (J1, R) r S h → JJ X M_X12_findTurns (d + 4) 22 [.ref 97, .int (nI i), .int (nI j), .int (nI n), .int (nI (D + 1)), .retAddr 0, .retAddr 0, .retAddr 0, .retAddr 0] [] S (J, R) r S h) :
    ∃ H1, frT D H H1 ∧ H1 106 D = x ∧ (lessT H D a b → H1 107 D = a ∧ H1 108 D = b ∧ (D = 0 → H1 97 16 = x)) ∧ (¬ lessT H D a b → H1 107 D = H 107 D ∧ H1 108 D = H 108 D ∧ H1 97 16 = H 97 16) ∧ ∀ d r h, JJ X M_X12_findTurns (d + 4) 22 [.ref 97, .int (nI i), .int (nI j), .int (nI n), .int (nI D), .retAddr 0, .retAddr 0, .retAddr 0, .retAddr 0] [] S (H1, R) r S h → JJ X M_X12_findTurns (d + 4) 22 [.ref 97, .int (nI i), .int (nI j), .int (nI n), .int (nI D), .retAddr 0, .retAddr 0, .retAddr 0, .retAddr 0] [] S (H, R) r S h := by
  have hd0 : MoD (sJ H 106 D x) 385 s hb := hd.fr (sJ_o (by decide))
  have step : ∃ I2, (∀ d, CC X (d + 1) M_X12_gives [.ref 97, .int x, .int (nI (whoT (D + 1) i j))] S (sJ H 106 D x, R) none S (I2, R)) ∧ MoD I2 385 s' hb ∧ (∀ o, o ≠ 99 → I2 o = sJ H 106 D x o) ∧ ∀ J1 : mI, J1 99 = I2 99 → ∃ J2, (∀ d, CC X (d + 1) M_X12_gives [.ref 97, .int x, .int (nI (whoT D i j))] S (J1, R) none S (J2, R)) ∧ J2 99 = H 99 ∧ ∀ o, o ≠ 99 → J2 o = J1 o := by
    rcases hc with ⟨rfl, rfl⟩ | ⟨g, hg, rfl, rfl, hs⟩
    · exact ⟨_, fun d => v_X12_gives_n X d hm, hd0, fun o _ => rfl, fun J1 h1 => ⟨J1, fun d => v_X12_gives_n X d hm, h1.trans (sJ_o (by decide)), fun o _ => rfl⟩⟩
    · have hmd : MoD (dW (sJ H 106 D (nI g)) 385 (up s (19 + g) (nI (whoT (D + 1) i j)))) 385 (up s (19 + g) (nI (whoT (D + 1) i j))) hb := MoD.mk (by rw [up_ne (by omega)]; exact hd.2.1) hd.2.2.1 (by decide)
      refine ⟨_, fun d => v_X12_gives_t X d hm hd0 hg, hmd, fun o ho => dW_o ho, fun J1 h1 => ⟨_, fun d => v_X12_gives_t X d hm (hmd.fr h1) hg, ?_, fun o ho => dW_o ho⟩⟩
      have es : up (up s (19 + g) (nI (whoT (D + 1) i j))) (19 + g) (nI (whoT D i j)) = s := by
        funext b
        unfold up
        split
        case isTrue q => rw [q, hs]
        case isFalse => rfl
      rw [es]
      funext b
      by_cases hb1 : 385 ≤ b ∧ b < 420
      · obtain ⟨k, rfl⟩ : ∃ k, b = 385 + k := ⟨b - 385, by omega⟩
        rw [dW_q _ _ (by omega), hd.1 k (by omega)]
      · rw [dW_n (by omega), h1, dW_n (by omega), sJ_o (by decide)]
  obtain ⟨I2, hG, hd2, f2, back⟩ := step
  have hw2 : MoW I2 w N G := hw.fr (by rw [f2 98 (by decide), sJ_o (by decide)])
  obtain ⟨q6, q7, q8⟩ := opI_q I2 (D + 1)
  obtain ⟨J1, fJ, KJ⟩ := IH (opI I2 (D + 1)) (hw2.fr (opI_o (by decide) (by decide) (by decide))) (hd2.fr (opI_o (by decide) (by decide) (by decide))) q6 q7 q8
  obtain ⟨J2, hB, b99, bo⟩ := back J1 ((fJ.1 99 (by decide) (by decide) (by decide) (by decide)).trans (opI_o (by decide) (by decide) (by decide)))
  have g6 : ∀ k, k ≤ D → J1 106 k = sJ H 106 D x 106 k := fun k hk => by rw [(fJ.2.2.1 k (by omega)).1, opI_6 (by omega), f2 106 (by decide)]
  have g7 : ∀ k, k ≤ D → J1 107 k = H 107 k := fun k hk => by rw [(fJ.2.2.1 k (by omega)).2.1, opI_7 (by omega), f2 107 (by decide), sJ_o (by decide)]
  have g8 : ∀ k, k ≤ D → J1 108 k = H 108 k := fun k hk => by rw [(fJ.2.2.1 k (by omega)).2.2, opI_8 (by omega), f2 108 (by decide), sJ_o (by decide)]
  have g97 : ∀ b, J1 97 b = H 97 b := fun b => by
    by_cases hb : b = 16
    · subst hb
      rw [fJ.2.2.2 (by omega), opI_o (by decide) (by decide) (by decide), f2 97 (by decide), sJ_o (by decide)]
    · rw [fJ.2.1 b hb, opI_o (by decide) (by decide) (by decide), f2 97 (by decide), sJ_o (by decide)]
  obtain ⟨H1, h16, hl1, hl2, KH⟩ := g_ftB X (a := a) (b := b) hm hi hj hn (by omega) (by rw [g6 D (Nat.le_refl _), sJ_eq]) hB (bo 106 (by decide)) hDn
  have fr2 : frT D H J2 := by
    refine ⟨fun o h1 h2 h3 h4 => ?_, fun b hb => ?_, fun k hk => ⟨?_, ?_, ?_⟩, fun _ => ?_⟩
    · by_cases h9 : o = 99
      · subst h9; exact b99
      · rw [bo o h9, fJ.1 o h1 h2 h3 h4, opI_o h2 h3 h4, f2 o h9, sJ_o h2]
    · rw [bo 97 (by decide), g97]
    · rw [bo 106 (by decide), g6 k (by omega), sJ_ne (Or.inr (by omega))]
    · rw [bo 107 (by decide), g7 k (by omega)]
    · rw [bo 108 (by decide), g8 k (by omega)]
    · rw [bo 97 (by decide), g97]
  have e7 : J2 107 D = H 107 D := by rw [bo 107 (by decide), g7 D (Nat.le_refl _)]
  have e8 : J2 108 D = H 108 D := by rw [bo 108 (by decide), g8 D (Nat.le_refl _)]
  have el : lessT J2 D a b ↔ lessT H D a b := by unfold lessT; rw [e7, e8]
  have e6 : J2 106 D = x := by rw [bo 106 (by decide), g6 D (Nat.le_refl _), sJ_eq]
  have ew := whoT_o D i j
  have run : ∀ d r h, JJ X M_X12_findTurns (d + 4) 22 [.ref 97, .int (nI i), .int (nI j), .int (nI n), .int (nI D), .retAddr 0, .retAddr 0, .retAddr 0, .retAddr 0] [] S (H1, R) r S h → JJ X M_X12_findTurns (d + 4) 22 [.ref 97, .int (nI i), .int (nI j), .int (nI n), .int (nI D), .retAddr 0, .retAddr 0, .retAddr 0, .retAddr 0] [] S (H, R) r S h := fun d r h K => g_ft1 X d hm hi hj hn (by omega) hDn h6 hx hN (by rw [ew]; exact hG) (KJ d r h (KH d r h K))
  by_cases hl : lessT H D a b
  · obtain ⟨o1, o2, o3, o4⟩ := ofI_f (a := a) (b := b) e6
    have eH := hl1 (el.mpr hl)
    refine ⟨H1, ?_, h16, fun _ => ?_, fun q => absurd hl q, run⟩
    · rw [eH]; exact fr2.tr o1
    · rw [eH]; exact ⟨o2, o3, o4⟩
  · have eH := hl2 (fun z => hl (el.mp z))
    refine ⟨H1, ?_, h16, fun q => absurd q hl, fun _ => ?_, run⟩
    · rw [eH]; exact fr2
    · rw [eH]; exact ⟨e7, e8, by rw [bo 97 (by decide), g97]⟩
