/-! ===== giving alike ===== -/
theorem nSum_n {t : Nat → Int32} : ∀ {n : Nat}, (∀ j, j < n → ∃ k, k < 4096 ∧ t j = nI k) → ∃ k, k ≤ n * 4095 ∧ nSum n t = nI k
  | 0, _ => ⟨0, by omega, rfl⟩
  | n + 1, h => by
    obtain ⟨k, h1, h2⟩ := nSum_n (n := n) (fun j hj => h j (by omega))
    obtain ⟨m, h3, h4⟩ := h n (by omega)
    refine ⟨k + m, by omega, ?_⟩
    unfold nSum
    rw [h2, h4, nI_add]
theorem gvS_n {w s : Nat → Int32} {N G hb g j : Nat} (hk : wOk w N G) : ∃ k, k < 30000 ∧ gvS w s N G hb g j N = nI k := by
  have h6 : N ≤ 6 := hk.1.2.2.2.1
  obtain ⟨k, h1, h2⟩ := nSum_n (n := N) (t := fun i => if hb.testBit i = true then owe w (hnd s g j) N G hb i else 0) (fun i hi => by
    by_cases c : hb.testBit i = true
    · obtain ⟨k, a, b⟩ := owe_n (s := hnd s g j) (hb := hb) hk hi
      exact ⟨k, a, (if_pos c).trans b⟩
    · exact ⟨0, by decide, (if_neg c).trans rfl⟩)
  exact ⟨k, by omega, h2⟩
theorem gv_eq {w s : Nat → Int32} {N G hb g : Nat} (hk : wOk w N G) : ∀ n, n ≤ N → (gmQ w s N G hb g n).1 = (gvQ w s N G hb g n).1 ∧ ((gvQ w s N G hb g n).1 = -4 → (gmQ w s N G hb g n).2 = FARI ∧ (gvQ w s N G hb g n).2 = -4) ∧ (¬ (gvQ w s N G hb g n).1 = -4 → (gmQ w s N G hb g n).2 = (gvQ w s N G hb g n).2)
  | 0, _ => ⟨rfl, fun _ => ⟨rfl, rfl⟩, fun h => absurd rfl h⟩
  | n + 1, hn => by
    have h6 : N ≤ 6 := hk.1.2.2.2.1
    obtain ⟨e1, e2, e3⟩ := gv_eq hk n (by omega)
    obtain ⟨k, hk1, hk2⟩ := gvS_n (s := s) (hb := hb) (g := g) (j := n) hk
    have es : gvQ w s N G hb g (n + 1) = if ¬ nI n = s (19 + g) ∧ hb.testBit n = true ∧ ((gvQ w s N G hb g n).1 = -4 ∨ ¬ (gvQ w s N G hb g n).2 ≤ gvS w s N G hb g n N) then (nI n, gvS w s N G hb g n N) else gvQ w s N G hb g n := rfl
    rw [es, gmQ_s]
    by_cases c1 : hb.testBit n = true ∧ ¬ nI n = s (19 + g)
    case neg =>
      rw [if_neg (show ¬ (hb.testBit n && !decide (nI n = s (19 + g))) = true from fun z => c1 (by simpa using z)), if_neg (fun z => c1 ⟨z.2.1, z.1⟩)]
      exact ⟨e1, e2, e3⟩
    rw [if_pos (show (hb.testBit n && !decide (nI n = s (19 + g))) = true by rw [c1.1, decide_eq_false c1.2]; rfl)]
    have hn4 : ¬ nI n = (-4 : Int32) := nI_ne4 (by omega)
    by_cases c2 : (gvQ w s N G hb g n).1 = -4
    · have hl : gvS w s N G hb g n N < (gmQ w s N G hb g n).2 := by
        rw [(e2 c2).1, hk2]
        exact (nI_ltI (by omega) (by decide)).mpr (by omega)
      rw [if_pos hl, if_pos hl, if_pos ⟨c1.2, c1.1, Or.inl c2⟩]
      exact ⟨rfl, fun h => absurd h hn4, fun _ => rfl⟩
    · rw [e3 c2]
      by_cases c3 : gvS w s N G hb g n N < (gvQ w s N G hb g n).2
      · rw [if_pos c3, if_pos c3, if_pos ⟨c1.2, c1.1, Or.inr (Int32.not_le.mpr c3)⟩]
        exact ⟨rfl, fun h => absurd h hn4, fun _ => rfl⟩
      · rw [if_neg c3, if_neg c3, if_neg (fun z => z.2.2.elim c2 (fun q => c3 (Int32.not_le.mp q)))]
        exact ⟨e1, fun h => absurd h c2, fun _ => rfl⟩
