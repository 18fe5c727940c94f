/-! ===== a call of each that only looks ===== -/
theorem so_owes (X : mCx) {S : mSh} (x : Int32) : SO X S M_X11_owes M_X12_owes [.int x] := SO.pure (by
  intro I R f dr w N G s hb pb u v m ps vs tx n hc hf hm hw hk hst hd hs hu hv he ht
  have hG8 := hst.G8
  have hN6 := hst.N6
  exact ⟨_, fun d => v_X11_owes X (d + 7) hc hf hst, fun d => v_X12_owes X (d + 7) hm hw hd⟩)
theorem so_owesWith (X : mCx) {S : mSh} (x y : Int32) : SO X S M_X11_owesWith M_X12_owesWith [.int x, .int y] := SO.pure (by
  intro I R f dr w N G s hb pb u v m ps vs tx n hc hf hm hw hk hst hd hs hu hv he ht
  have hG8 := hst.G8
  have hN6 := hst.N6
  exact ⟨_, fun d => v_X11_owesWith X (d + 6) hc hf hst, fun d => v_X12_owesWith X (d + 8) hm hw hd⟩)
theorem so_person (X : mCx) {S : mSh} (x y : Int32) : SO X S M_X11_person M_X12_person [.int x, .int y] := SO.pure (by
  intro I R f dr w N G s hb pb u v m ps vs tx n hc hf hm hw hk hst hd hs hu hv he ht
  have hG8 := hst.G8
  have hN6 := hst.N6
  exact ⟨_, fun d => v_X11_person X (d + 9) hc hf hst, fun d => v_X12_person X (d + 9) hm hw hd⟩)
theorem so_good (X : mCx) {S : mSh} (x y : Int32) : SO X S M_X11_good M_X12_good [.int x, .int y] := SO.pure (by
  intro I R f dr w N G s hb pb u v m ps vs tx n hc hf hm hw hk hst hd hs hu hv he ht
  have hG8 := hst.G8
  have hN6 := hst.N6
  exact ⟨_, fun d => v_X11_good X (d + 9) hc hf hst, fun d => v_X12_good X (d + 9) hm hw hd⟩)
theorem so_love (X : mCx) {S : mSh} (x y : Int32) : SO X S M_X11_love M_X12_love [.int x, .int y] := SO.pure (by
  intro I R f dr w N G s hb pb u v m ps vs tx n hc hf hm hw hk hst hd hs hu hv he ht
  have hG8 := hst.G8
  have hN6 := hst.N6
  exact ⟨_, fun d => v_X11_love X (d + 9) hc hf, fun d => v_X12_love X (d + 8) hm hw⟩)
theorem so_stuck (X : mCx) {S : mSh} : SO X S M_X11_stuck M_X12_stuck [] := SO.pure (by
  intro I R f dr w N G s hb pb u v m ps vs tx n hc hf hm hw hk hst hd hs hu hv he ht
  have hG8 := hst.G8
  have hN6 := hst.N6
  exact ⟨_, fun d => v_X11_stuck X (d + 6) hc hf hst, fun d => by rw [stuck_eq hk]; exact v_X12_stuck X (d + 7) hm hw hd⟩)
theorem so_isFalse (X : mCx) {S : mSh} (x : Int32) : SO X S M_X11_isFalse M_X12_isFalse [.int x] := SO.pure (by
  intro I R f dr w N G s hb pb u v m ps vs tx n hc hf hm hw hk hst hd hs hu hv he ht
  have hG8 := hst.G8
  have hN6 := hst.N6
  exact ⟨_, fun d => v_X11_isFalse X (d + 7) hc hf hst he.1 he.2.2.2.1 he.2.1, fun d => v_X12_isFalse X (d + 7) hm hw hd he.2.2⟩)
theorem so_packing (X : mCx) {S : mSh} (x y : Int32) : SO X S M_X11_packing M_X12_packing [.int x, .int y] := SO.pure (by
  intro I R f dr w N G s hb pb u v m ps vs tx n hc hf hm hw hk hst hd hs hu hv he ht
  have hG8 := hst.G8
  have hN6 := hst.N6
  refine ⟨_, fun d => v_X11_packing X (d + 6) hc hf hst, fun d => ?_⟩
  cases hA : isA y with
  | false => rw [if_neg (by decide)]; exact v_X12_packing_f X (d + 9) hm hw (Or.inr hA)
  | true =>
    rw [if_pos rfl]
    cases hP : isP N x with
    | false => rw [onP_f hP]; exact v_X12_packing_f X (d + 9) hm hw (Or.inl hP)
    | true =>
      obtain ⟨i, hi, rfl⟩ := isP_t hP (by omega)
      obtain ⟨e1, e2⟩ := packing_eq (s := s) (hb := hb) hk hi
      rw [onP_t hi (by omega), e2, e1]
      exact v_X12_packing_t X (d + 9) hm hw hd hi hA)
theorem so_loved (X : mCx) {S : mSh} (x y z : Int32) : SO X S M_X11_loved M_X12_loved [.int x, .int y, .int z] := SO.pure (by
  intro I R f dr w N G s hb pb u v m ps vs tx n hc hf hm hw hk hst hd hs hu hv he ht
  have hG8 := hst.G8
  have hN6 := hst.N6
  have h6 := he.2.2.2.1
  by_cases h : isP m x = false ∨ (∃ k, k < m ∧ x = nI k ∧ twoP N (nI (ps k)) y = false) ∨ isA z = false
  · exact ⟨_, fun d => v_X11_loved_f X (d + 9) hc hf hst he.1 h6 he.2.1 h, fun d => v_X12_loved_f X (d + 8) hm hw hd he.2.2 h⟩
  · have hx : isP m x = true := by
      cases e : isP m x with
      | true => rfl
      | false => exact absurd (Or.inl e) h
    have hz : isA z = true := by
      cases e : isA z with
      | true => rfl
      | false => exact absurd (Or.inr (Or.inr e)) h
    obtain ⟨k, hk1, rfl⟩ := isP_t hx (by omega)
    have h2 : twoP N (nI (ps k)) y = true := by
      cases e : twoP N (nI (ps k)) y with
      | true => rfl
      | false => exact absurd (Or.inr (Or.inl ⟨k, hk1, rfl, e⟩)) h
    obtain ⟨i, j, hi, hj, hij, e1, rfl⟩ := twoP_t h2 (by omega)
    have hps := (he.2.1 k hk1).2.1
    have e2 : ps k = i := (nI_eq (by omega) (by omega)).mp e1
    subst e2
    refine ⟨_, fun d => v_X11_loved_t X (d + 7) hc hf hst he.1 h6 he.2.1 hk1 hj hij hz, fun d => ?_⟩
    have e := v_X12_loved_t X (d + 8) hm hw hd he.2.2 hk1 hj hij hz
    rw [← lv_eq] at e
    by_cases c : hb.testBit (ps k) = true ∧ hb.testBit j = true
    · rw [if_pos c]
      rw [if_pos (by rw [c.1, c.2]; rfl)] at e
      exact e
    · rw [if_neg c]
      rw [if_neg (fun q => c (by rw [Bool.and_eq_true] at q; exact q))] at e
      exact e)
theorem so_count (X : mCx) {S : mSh} (x : Int32) : SO X S M_X11_count M_X12_count [.int x] := SO.pure (by
  intro I R f dr w N G s hb pb u v m ps vs tx n hc hf hm hw hk hst hd hs hu hv he ht
  have hG8 := hst.G8
  have hN6 := hst.N6
  refine ⟨_, fun d => v_X11_count X (d + 8) hc hf hst he.1 hu.1 hv.1 ht.1, fun d => ?_⟩
  have e := v_X12_count X (d + 10) (y := x) hm hw hd he.2.2.1 hu.2 hv.2 ht.2.1
  unfold aCnM at e
  rw [pkN_eq hG8 hst.pb2 hst.pk, noN_eq hG8] at e
  exact e)
theorem so_chairs (X : mCx) {S : mSh} (x : Int32) : SO X S M_X11_chairs M_X12_chairs [.int x] := SO.pure (by
  intro I R f dr w N G s hb pb u v m ps vs tx n hc hf hm hw hk hst hd hs hu hv he ht
  have hG8 := hst.G8
  have hN6 := hst.N6
  refine ⟨_, fun d => v_X11_chairs X (d + 8) hc hf hst, fun d => ?_⟩
  cases hA : isS x with
  | false => rw [if_neg (by decide)]; exact v_X12_chairs_f X (d + 10) hm hA
  | true =>
    rw [if_pos rfl, ch_eq hk hs]
    refine v_X12_chairs_t X (d + 8) hm hw hd (fun g hg => ?_) hA
    rcases hs.1 g hg with e | ⟨q, hq, e⟩
    · exact Or.inl e
    · exact Or.inr ⟨q, by omega, e⟩)
