/-! ===== both are made alike ===== -/
set_option maxRecDepth 100000 in
theorem z_cla8 : Cla (Sg.take 108) hZ11.2 77 87 := by
  refine ⟨?_, ?_, ?_, ?_, ?_, ?_, ?_, ?_, ?_, ?_, ?_, ?_, ?_, ?_, ?_, ?_, ?_, ?_, ?_, ?_, ?_, ?_⟩
  any_goals decide +kernel
  any_goals (unfold Txt; decide +kernel)
  any_goals (unfold Rea; decide +kernel)
  any_goals (unfold Oat; decide +kernel)
  any_goals (unfold Ord; decide +kernel)
  any_goals (unfold Sto; decide +kernel)
  any_goals (refine ⟨?_, ?_, ?_, ?_, ?_, ?_⟩)
  any_goals decide +kernel
  any_goals (unfold Sto; decide +kernel)
theorem t_up {o : Nat} {q : Nat × Nat} (h : mSg (Sg.take 96) o = some q) : mSg (Sg.take 108) o = some q := by
  cases o with
  | zero => exact h
  | succ o =>
    have hl := mSt_lt (S := Sg.take 96) (o := o) h
    have h2 : (Sg.take 96)[o]? = some q := h
    rw [List.length_take] at hl
    rw [List.getElem?_take_of_lt (by omega)] at h2
    show (Sg.take 108)[o]? = some q
    rw [List.getElem?_take_of_lt (by omega)]
    exact h2
theorem FamD.up {I : mI} {R : mR} {f : Nat} {w : Nat → Int32} {N G : Nat} (q : FamD (Sg.take 96) I R f w N G) : FamD (Sg.take 108) I R f w N G := by
  obtain ⟨⟨a0, a1, a2, a3, a4, a5, a6, a7, a8, a9, r⟩, l⟩ := q
  exact ⟨⟨t_up a0, t_up a1, t_up a2, t_up a3, t_up a4, t_up a5, t_up a6, t_up a7, t_up a8, t_up a9, r⟩, l⟩
theorem Cla.rr {S : mSh} {R R1 : mR} {f dr : Nat} (q : Cla S R f dr) (h : ∀ o, o < 97 → R1 o = R o) : Cla S R1 f dr := by
  refine ⟨q.sg, ?_, ?_, ?_, ?_, ?_, ?_, ?_, ?_, ?_, ?_, ?_, q.txt.rq (h 2 (by decide)), q.rea.rq (h 4 (by decide)), q.now.rq (h 6 (by decide)), q.tri.rq (h 11 (by decide)), ?_, ?_, q.oat.rq (h 70 (by decide)), q.ord.rq (h 73 (by decide)), q.gif, q.two⟩
  any_goals rw [h 1 (by decide)]
  · exact q.f0
  · exact q.f1
  · exact q.f2
  · exact q.f3
  · exact q.f4
  · exact q.f5
  · exact q.f6
  · exact q.f7
  · exact q.f8
  · exact q.f9
  · exact q.f10
  · obtain ⟨h1, h2, h3, h4, h5, h6⟩ := q.und
    exact ⟨h1, h2, by rw [h 16 (by decide)]; exact h3, fun k hk => by rw [h 17 (by decide)]; exact h4 k hk, fun k hk => (h5 k hk).rq (h _ (by omega)), h6⟩
  · obtain ⟨h1, h2, h3, h4, h5, h6⟩ := q.kep
    exact ⟨h1, h2, by rw [h 58 (by decide)]; exact h3, fun k hk => by rw [h 59 (by decide)]; exact h4 k hk, fun k hk => (h5 k hk).rq (h _ (by omega)), h6⟩
theorem sN_lo {h : mHp} {o : Nat} (ho : o ≠ 97) : (sN h 97).1 o = h.1 o ∧ (sN h 97).2 o = h.2 o := by
  unfold sN
  dsimp only
  constructor <;> funext j <;> rw [if_neg ho]
theorem sN_97 (h : mHp) (b : Nat) : (sN h 97).1 97 b = 0 := by
  unfold sN
  dsimp only
  rw [if_pos rfl]
theorem wS_ok : wOk wS18 5 6 := by
  have h := wO.read tC tL0
  rw [ff_all] at h
  exact wO.ok h (by decide)
set_option maxHeartbeats 4000000 in
set_option maxRecDepth 100000 in
theorem start_ok (X : mCx) : ∃ IA RA IB RB, (∀ d, CC X (d + 8) M_X11_init [.ref 1] (Sg.take 1) hZ0 none (Sg.take 96) (IA, RA)) ∧ (∀ d, CC X (d + 8) M_X12_init [.ref 97] (Sg.take 97) (sN (IA, RA) 97) none (Sg.take 108) (IB, RB)) ∧ RR (Sg.take 108) IB RB := by
  obtain ⟨I1, r1, r2, r3⟩ := v_firstFault X (S := Sg.take 96) (I := tI hZ11.1 tL0) (R := hZ11.2) (y := 4) (z := 2) (f := 77) (n := tL0) (tx := tC) z_cla.rea (z_fam.fr (fun o a b => tI_o (by omega) (by omega) _)) (t_TxP z_cla.txt z_int.1) (by decide) (by decide) (by decide)
  rw [ff_all] at r1 r2
  dsimp only at r1 r2
  obtain ⟨i2, i16, i17, i58, i59, i70⟩ := z_int
  generalize hA : sJ (bgH I1 6 77 wS18 5 6) 2 1 (nI 0) = IA
  have hlo : ∀ o, o < 97 → (hM (sN (IA, hZ11.2) 97)).1 o = IA o ∧ (hM (sN (IA, hZ11.2) 97)).2 o = hZ11.2 o := fun o ho => by
    rw [(hM_lo ho).1, (hM_lo ho).2]
    exact sN_lo (by omega)
  have hB : ∀ o, o < 97 → coI (xW (hM (sN (IA, hZ11.2) 97)).1 wS18) wS18 5 6 o = IA o := fun o ho => by
    unfold coI
    rw [sJ_o (by omega), sJ_o (by omega), sJ_o (by omega), dW_o (by omega), wW_o (by omega), xW_o (by omega)]
    exact (hlo o ho).1
  have hR : ∀ o, o < 97 → (hM (sN (IA, hZ11.2) 97)).2 o = hZ11.2 o := fun o ho => (hlo o ho).2
  have hI : ∀ o, o ≠ 2 → (o < 6 ∨ 10 < o) → IA o = I1 o := fun o h1 h2 => by rw [← hA, sJ_o h1, bgH_fr (by omega)]
  have h1 : ∀ o, o ≠ 2 → o ≠ 3 → o ≠ 5 → (o < 77 ∨ 86 < o) → I1 o = hZ11.1 o := fun o a1 a2 a3 a4 => by rw [r3 o a3 (by omega), tI_o a1 a2]
  obtain ⟨ok1, ok2⟩ := sBeg_ok wS_ok
  refine ⟨IA, hZ11.2, coI (xW (hM (sN (IA, hZ11.2) 97)).1 wS18) wS18 5 6, (hM (sN (IA, hZ11.2) 97)).2, fun d => by
      rw [← hA]
      exact v_X11_mk X (d + 2) (v_X11_tx X (d + 2) z_cla i2 (v_X11_end X (d + 2) z_cla r2.1 r1)), fun d => v_X12_mk X (d + 4) (v_X12_end X (d + 4) (hM_mod _)), 77, 87, wS18, 5, 6, 0, 0, 0, 0, 0, fun _ => 0, fun _ => 0, tC, 0, ⟨z_cla8.rr hR, ((r2.up).rq (hR 77 (by decide))).fr (fun o a b => ?_), ⟨bgW, 0, 0, ((z_dra.up).rq (hR 87 (by decide))).fr (fun o a b => ?_)⟩, hM_mod _, ⟨fun k hk => ?_, by decide +kernel, by decide +kernel, by decide, by decide⟩, wS_ok⟩, ⟨sBeg wS18 5 6, 2 ^ 5 - 1, 0, (Std.rq (R := hZ11.2) ⟨z_cla8.now, (Std.beg (a := 6) r2.1 z_cla.now (by decide)).2⟩ (hR 6 (by decide))).fr (fun o a b => ?_), ⟨fun k hk => ?_, rfl, by decide, by decide⟩, ok1, ok2⟩, ⟨⟨?_, by decide, ?_, by decide, ?_⟩, fun k hk => absurd hk (Nat.not_lt_zero _)⟩, ⟨⟨?_, by decide, ?_, by decide, ?_⟩, fun k hk => absurd hk (Nat.not_lt_zero _)⟩, ⟨?_, fun k hk => absurd hk (Nat.not_lt_zero _), ?_, by decide, fun k hk => absurd hk (Nat.not_lt_zero _)⟩, ⟨⟨z_cla8.txt.rq (hR 2 (by decide)), ?_, by decide, fun k hk => absurd hk (Nat.not_lt_zero _)⟩, ⟨?_, by decide, fun k hk => absurd hk (Nat.not_lt_zero _)⟩⟩⟩
  · rw [hB o (by omega), hI o (by omega) (by omega)]
  · rw [hB o (by omega), hI o (by omega) (by omega), h1 o (by omega) (by omega) (by omega) (by omega)]
  · unfold coI
    rw [sJ_o (by decide), sJ_o (by decide), sJ_o (by decide), dW_o (by decide), wW_q _ _ hk]
  · rw [hB o (by omega), ← hA, sJ_o (by omega)]
  · unfold coI
    rw [sJ_o (by decide), sJ_o (by decide), sJ_o (by decide), dW_q _ _ hk]
  · rw [hB 16 (by decide), hI 16 (by decide) (by decide), h1 16 (by decide) (by decide) (by decide) (by decide)]; exact i16
  · rw [hB 16 (by decide), hI 16 (by decide) (by decide), h1 16 (by decide) (by decide) (by decide) (by decide)]; exact i17
  · unfold coI
    rw [sJ97 (by decide), sJ97 (by decide), sJ_eq]
  · rw [hB 58 (by decide), hI 58 (by decide) (by decide), h1 58 (by decide) (by decide) (by decide) (by decide)]; exact i58
  · rw [hB 58 (by decide), hI 58 (by decide) (by decide), h1 58 (by decide) (by decide) (by decide) (by decide)]; exact i59
  · unfold coI
    rw [sJ97 (by decide), sJ_eq]
  · rw [hB 70 (by decide), hI 70 (by decide) (by decide), h1 70 (by decide) (by decide) (by decide) (by decide)]; exact i70
  · unfold coI
    rw [sJ_eq]
  · rw [hB 2 (by decide), ← hA, sJ_eq]
  · unfold coI
    rw [sJ97 (by decide), sJ97 (by decide), sJ97 (by decide), dW_o (by decide), wW_o (by decide), xW_o (by decide)]
    exact hM_97 (sN_97 _ _)
