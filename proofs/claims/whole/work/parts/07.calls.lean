/-! ===== the rows of calls ===== -/
def mK2 (M2 : mMe) (n : Nat) : Prop := Cond.code M2.1 M2.2.1 M2.2.2.1 M2.2.2.2 ∈ mWd ∧ Cond.initialized M2.1.cls ∈ mWd ∧ (M2.1.cls ≠ "java/lang/invoke/MethodHandle" ∧ M2.1.cls ≠ "java/lang/invoke/VarHandle" ∧ (parseMethodDescriptor M2.1.desc).map (fun d => d.parameters.length) = some n) ∧ M2.2.2.1 ≤ 45
def mKI (M2 : mMe) : Prop := Cond.instanceMethod M2.1 ∈ mWd ∧ Cond.selects M2.1.cls M2.1 M2.1 ∈ mWd
section
variable {X : mCx} {M : mMe} {d pc : Nat} {L st : List Value} {S S' : mSh} {h h' : mHp} {r : Option Value}
theorem m_go {p : Program} {e : Env} {s : State} {m : MethodId} {args : Array Value} {below : List Frame} {meth : Method} {c : Code} {R : Room} {S0 S1 : mSh} {h1 : mHp} {r1 : Option Value} {Q : State → Prop} {H : Heap} {locs : List Loc} {cells slots : Nat} {ls : Array Slot} {st0 rest0 : List Value} {a : Array Value}
    (hr : va_Run p (xL X) e R s m args below meth c H locs cells slots (S1.length - S.length) (mSl S1 - mSl S) (F0 m pc ls st0) rest0 (mQc X r1 S1 h1 a) (fun q => xB X ≤ q)) (hA : mAt X S h S0 s H locs cells slots) (hS1 : S <+: S1)
    (kk : ∀ (H1 : Heap) (locs1 : List Loc), mAt X S1 h1 S0 s H1 locs1 (S1.length - S0.length) (mSl S1 - mSl S0) → W p (xL X) e R s m args below meth c H1 locs1 (S1.length - S0.length) (mSl S1 - mSl S0) Q (F0 m (pc + 3) ls ((r1.map (mEnc X)).toList ++ rest0))) : W p (xL X) e R s m args below meth c H locs cells slots Q (F0 m pc ls st0) := by
  intro T hT XX
  obtain ⟨v, st₀, t, T', Lc, h0, X', hL, e1, e2, ⟨hv, hU, hz, hk⟩, st⟩ := hr T hT XX
  have hv' : v = r1.map (mEnc X) := Outcome.returned.inj hv
  subst hv'
  obtain ⟨a1, a2, a3, a4, a5, a6⟩ := hA
  rw [h0] at hz hk
  have b := mPre_len a4 hS1
  have ec : cells + (S1.length - S.length) = S1.length - S0.length := by omega
  have es : slots + (mSl S1 - mSl S) = mSl S1 - mSl S0 := by omega
  rw [ec, es] at X'
  obtain ⟨t2, g1, g2⟩ := kk T'.heap (locs ++ Lc) ⟨by rw [e1]; exact hU.1, by rw [e1]; exact hU.2.1, ⟨Nat.le_trans a3.1 (by rw [e1]; exact hz), fun q h1 h2 => by rw [e1, hk q (Nat.lt_of_lt_of_le h1 a3.1) h2]; exact a3.2.1 q h1 h2, fun q hq => by
      rcases List.mem_append.mp hq with h | h
      · exact a3.2.2 q h
      · exact hL q h⟩, a4.trans hS1, rfl, rfl⟩ T' rfl X'
  exact ⟨t2, st t2 g1, g2⟩
theorem mPc_blind (as : List Value) : FrameBlind (mPc X as S h) := fun a U g mk q => ⟨q.1, q.2.calling g mk a⟩
theorem mU_at {M : mMe} {S0 S1 : mSh} {p : Program} {s : State} {m : MethodId} {args : Array Value} {meth : Method} {c : Code} {R : Room} {H : Heap} {locs : List Loc} {cells slots : Nat} (F : mFix X M d S0 S1 p s m args meth c R) (hA : mAt X S h S0 s H locs cells slots) {U : State} (hU : U.heap = H) (hW : s.WarmedH U.vm) : mU X S h U := by
  obtain ⟨a1, a2, a3, -⟩ := hA
  refine ⟨by rw [hU]; exact a1, by rw [hU]; exact a2, F.2.2.2.2.2.2.2.2.2.2.2.1.moved hW.alike, ?_⟩
  rw [hU]
  exact F.2.2.2.2.2.2.2.2.2.2.2.2.next hW a3.2.1
theorem r_callV {idx n : Nat} {M2 : mMe} {rest : List Value} {S1 : mSh} {h1 : mHp} {r1 : Option Value} (as : List Value) {o t nt : Nat} (hd : decode M.2.1 pc = .ok (.invokevirtual idx, 3)) (hl : Cond.methodLink M.1.cls idx M2.1 ∈ mWd) (h2 : mK2 M2 n) (hI : mKI M2) (ho : mSg S o = some (t, nt)) (hc : ∃ T, vwCl[t]? = some (M2.1.cls, T, nt)) (hn : as.length = n) (hst : (rest.map Value.category).sum ≤ 8) (hC : CC X d M2 (.ref o :: as) S h r1 S1 h1) (hpre2 : S1 <+: S') (K : JJ X M (d + 1) (pc + 3) L (r1.toList ++ rest) S1 h1 r S' h') : JJ X M (d + 1) pc L (as.reverse ++ .ref o :: rest) S h r S' h' := by
  intro hpre p e s m args below meth c R S0 Q F ret H locs cells slots ls hA hL
  obtain ⟨hS1, hM⟩ := hC
  have b := mPre_len hA.2.2.2.1 hS1
  have b2 := mPre_len (hA.2.2.2.1.trans hS1) hpre2
  have g1 := F.2.2.2.2.2.2.2.2.1
  have g2 := F.2.2.2.2.2.2.2.2.2.1
  have g3 := hA.2.2.2.2.1
  have g4 := hA.2.2.2.2.2
  have hts := F.2.2.2.2.2.1
  have hf1 := F.2.2.2.2.2.2.1
  have hf2 := F.2.2.2.2.2.2.2.1
  have hcat : ((rest.map (mEnc X)).map fun v => v.category).sum ≤ 8 := by
    rw [List.map_map]
    have : (fun v => v.category) ∘ mEnc X = (fun v : Value => v.category) := by funext v; exact mEnc_cat X v
    rw [this]; exact hst
  cases o with
  | zero => cases ho
  | succ o =>
  obtain ⟨T, hcl⟩ := hc
  have he : (mW X S h)[o]? = some (xB X + o, .inr (t, mFs X t nt (o + 1) h)) := by rw [mW_get (mSt_lt (S := S) ho), mCell_obj ho (mCls hcl).1]
  have hrun := va_runV (l := xL X) (e := e) (below := below) (meth := meth) (H := H) (locs := locs) (cells := cells) (slots := slots) (As := as.map (mEnc X)) (b := xB X + o) (rest := rest.map (mEnc X)) (g := F0 m pc ls ((as.reverse ++ .ref (o + 1) :: rest).map (mEnc X))) ⟨F.1, F.2.1, F.2.2.1, F.2.2.2.1, hts⟩ hM ⟨(callB_of n hts (mWs_good h2.1) rfl rfl rfl (hts _ h2.2.1) (hts _ hl) h2.2.2.1 ⟨hf1, by show 8 + (M2.2.2.1 + 11) + 64 * d ≤ R.locals; have := h2.2.2.2; omega⟩), hts _ hI.1, hts _ hI.2⟩ ⟨mPc_blind _, va_recv F.2.2.2.2.2.2.2.2.2.2.2.1 hA.2.1 hcl he, fun U hU hW => ⟨rfl, mU_at F hA hU hW⟩⟩ rfl (by rw [List.length_map]; exact hn) hL.2.1 (by rw [List.map_append, List.map_reverse]; rfl) (lv_room hcat) hd ⟨by omega, by omega⟩
  refine m_go hrun hA hS1 (fun H1 locs1 hA1 => ?_)
  have := K hpre2 p e s m args below meth c R S0 Q F ret H1 locs1 _ _ ls hA1 hL
  rw [List.map_append] at this
  cases r1 <;> exact this
theorem r_callS {idx n : Nat} {M2 : mMe} {rest : List Value} {S1 : mSh} {h1 : mHp} {r1 : Option Value} (as : List Value) (hd : decode M.2.1 pc = .ok (.invokestatic idx, 3)) (hl : Cond.methodLink M.1.cls idx M2.1 ∈ mWd) (h2 : mK2 M2 n) (hI : Cond.static M2.1 ∈ mWd) (hn : as.length = n) (hst : (rest.map Value.category).sum ≤ 8) (hC : CC X d M2 as S h r1 S1 h1) (hpre2 : S1 <+: S') (K : JJ X M (d + 1) (pc + 3) L (r1.toList ++ rest) S1 h1 r S' h') : JJ X M (d + 1) pc L (as.reverse ++ rest) S h r S' h' := by
  intro hpre p e s m args below meth c R S0 Q F ret H locs cells slots ls hA hL
  obtain ⟨hS1, hM⟩ := hC
  have b := mPre_len hA.2.2.2.1 hS1
  have b2 := mPre_len (hA.2.2.2.1.trans hS1) hpre2
  have g1 := F.2.2.2.2.2.2.2.2.1
  have g2 := F.2.2.2.2.2.2.2.2.2.1
  have g3 := hA.2.2.2.2.1
  have g4 := hA.2.2.2.2.2
  have hts := F.2.2.2.2.2.1
  have hf1 := F.2.2.2.2.2.2.1
  have hf2 := F.2.2.2.2.2.2.2.1
  have hcat : ((rest.map (mEnc X)).map fun v => v.category).sum ≤ 8 := by
    rw [List.map_map]
    have : (fun v => v.category) ∘ mEnc X = (fun v : Value => v.category) := by funext v; exact mEnc_cat X v
    rw [this]; exact hst
  have hrun := va_runS (l := xL X) (e := e) (below := below) (meth := meth) (H := H) (locs := locs) (cells := cells) (slots := slots) (As := as.map (mEnc X)) (rest := rest.map (mEnc X)) (g := F0 m pc ls ((as.reverse ++ rest).map (mEnc X))) ⟨F.1, F.2.1, F.2.2.1, F.2.2.2.1, hts⟩ hM ⟨(callB_of n hts (mWs_good h2.1) rfl rfl rfl (hts _ h2.2.1) (hts _ hl) h2.2.2.1 ⟨hf1, by show 8 + (M2.2.2.1 + 11) + 64 * d ≤ R.locals; have := h2.2.2.2; omega⟩), hts _ hI⟩ ⟨mPc_blind _, fun U hU hW => ⟨rfl, mU_at F hA hU hW⟩⟩ rfl (by rw [List.length_map]; exact hn) hL.2.1 (by rw [List.map_append, List.map_reverse]) (lv_room hcat) hd ⟨by omega, by omega⟩
  refine m_go hrun hA hS1 (fun H1 locs1 hA1 => ?_)
  have := K hpre2 p e s m args below meth c R S0 Q F ret H1 locs1 _ _ ls hA1 hL
  rw [List.map_append] at this
  cases r1 <;> exact this
theorem r_callSN {idx n : Nat} {M2 : mMe} {rest : List Value} {S1 : mSh} {h1 : mHp} {r1 : Option Value} (as : List Value) (hd : decode M.2.1 pc = .ok (.invokestatic idx, 3)) (hl : (M.1.cls, idx, M2.1, "DutyOnLeft") ∈ mNest) (h2 : mK2 M2 n) (hI : Cond.static M2.1 ∈ mWd) (hn : as.length = n) (hst : (rest.map Value.category).sum ≤ 8) (hC : CC X d M2 as S h r1 S1 h1) (hpre2 : S1 <+: S') (K : JJ X M (d + 1) (pc + 3) L (r1.toList ++ rest) S1 h1 r S' h') : JJ X M (d + 1) pc L (as.reverse ++ rest) S h r S' h' := by
  intro hpre p e s m args below meth c R S0 Q F ret H locs cells slots ls hA hL
  obtain ⟨hS1, hM⟩ := hC
  have b := mPre_len hA.2.2.2.1 hS1
  have b2 := mPre_len (hA.2.2.2.1.trans hS1) hpre2
  have g1 := F.2.2.2.2.2.2.2.2.1
  have g2 := F.2.2.2.2.2.2.2.2.2.1
  have g3 := hA.2.2.2.2.1
  have g4 := hA.2.2.2.2.2
  have hts := F.2.2.2.2.2.1
  have hf1 := F.2.2.2.2.2.2.1
  have hf2 := F.2.2.2.2.2.2.2.1
  have hcat : ((rest.map (mEnc X)).map fun v => v.category).sum ≤ 8 := by
    rw [List.map_map]
    have : (fun v => v.category) ∘ mEnc X = (fun v : Value => v.category) := by funext v; exact mEnc_cat X v
    rw [this]; exact hst
  have hrun := va_runSN (l := xL X) (e := e) (below := below) (meth := meth) (H := H) (locs := locs) (cells := cells) (slots := slots) (As := as.map (mEnc X)) (rest := rest.map (mEnc X)) (g := F0 m pc ls ((as.reverse ++ rest).map (mEnc X))) ⟨F.1, F.2.1, F.2.2.1, F.2.2.2.1, hts⟩ hM ⟨(va_cnB (host := "DutyOnLeft") n hts (mWs_good h2.1) rfl rfl rfl (F.2.2.2.2.2.2.2.2.2.2.2.2.2.2.2.2.2.2.2 _ hl) (hts _ h2.2.1) h2.2.2.1 ⟨hf1, by show 8 + (M2.2.2.1 + 11) + 64 * d ≤ R.locals; have := h2.2.2.2; omega⟩), hts _ hI, trivial⟩ ⟨mPc_blind _, fun U hU hW => ⟨rfl, mU_at F hA hU hW⟩⟩ rfl (by rw [List.length_map]; exact hn) hL.2.1 (by rw [List.map_append, List.map_reverse]) (lv_room hcat) hd ⟨by omega, by omega⟩
  refine m_go hrun hA hS1 (fun H1 locs1 hA1 => ?_)
  have := K hpre2 p e s m args below meth c R S0 Q F ret H1 locs1 _ _ ls hA1 hL
  rw [List.map_append] at this
  cases r1 <;> exact this
theorem r_callI {idx n : Nat} {M2 : mMe} {rest : List Value} {S1 : mSh} {h1 : mHp} {r1 : Option Value} (as : List Value) {o : Nat} (hd : decode M.2.1 pc = .ok (.invokespecial idx, 3)) (hl : Cond.methodLink M.1.cls idx M2.1 ∈ mWd) (h2 : mK2 M2 n) (hI : Cond.instanceMethod M2.1 ∈ mWd) (hret : M2.2.2.2 = none) (hin : M2.1.name = "<init>") (ho : o ≠ 0) (hn : as.length = n) (hst : (rest.map Value.category).sum ≤ 8) (hC : CC X d M2 (.ref o :: as) S h r1 S1 h1) (hpre2 : S1 <+: S') (K : JJ X M (d + 1) (pc + 3) L (r1.toList ++ rest) S1 h1 r S' h') : JJ X M (d + 1) pc L (as.reverse ++ .ref o :: rest) S h r S' h' := by
  intro hpre p e s m args below meth c R S0 Q F ret H locs cells slots ls hA hL
  obtain ⟨hS1, hM⟩ := hC
  have b := mPre_len hA.2.2.2.1 hS1
  have b2 := mPre_len (hA.2.2.2.1.trans hS1) hpre2
  have g1 := F.2.2.2.2.2.2.2.2.1
  have g2 := F.2.2.2.2.2.2.2.2.2.1
  have g3 := hA.2.2.2.2.1
  have g4 := hA.2.2.2.2.2
  have hts := F.2.2.2.2.2.1
  have hf1 := F.2.2.2.2.2.2.1
  have hf2 := F.2.2.2.2.2.2.2.1
  have hcat : ((rest.map (mEnc X)).map fun v => v.category).sum ≤ 8 := by
    rw [List.map_map]
    have : (fun v => v.category) ∘ mEnc X = (fun v : Value => v.category) := by funext v; exact mEnc_cat X v
    rw [this]; exact hst
  cases o with
  | zero => exact absurd rfl ho
  | succ o =>
  have hrun := va_runI (l := xL X) (e := e) (below := below) (meth := meth) (H := H) (locs := locs) (cells := cells) (slots := slots) (As := as.map (mEnc X)) (b := xB X + o) (rest := rest.map (mEnc X)) (g := F0 m pc ls ((as.reverse ++ .ref (o + 1) :: rest).map (mEnc X))) ⟨F.1, F.2.1, F.2.2.1, F.2.2.2.1, hts⟩ hM ⟨(callB_of n hts (mWs_good h2.1) (by unfold mWs; rw [hret]) rfl rfl (hts _ h2.2.1) (hts _ hl) h2.2.2.1 ⟨hf1, by show 8 + (M2.2.2.1 + 11) + 64 * d ≤ R.locals; have := h2.2.2.2; omega⟩), hin, hts _ hI⟩ ⟨mPc_blind _, fun U hU hW => ⟨rfl, mU_at F hA hU hW⟩⟩ rfl (by rw [List.length_map]; exact hn) hL.2.1 (by rw [List.map_append, List.map_reverse]; rfl) (lv_room hcat) hd ⟨by omega, by omega⟩
  refine m_go hrun hA hS1 (fun H1 locs1 hA1 => ?_)
  have := K hpre2 p e s m args below meth c R S0 Q F ret H1 locs1 _ _ ls hA1 hL
  rw [List.map_append] at this
  cases r1 <;> exact this
theorem r_callIN {idx n : Nat} {M2 : mMe} {rest : List Value} {S1 : mSh} {h1 : mHp} {r1 : Option Value} (as : List Value) {o : Nat} (hd : decode M.2.1 pc = .ok (.invokespecial idx, 3)) (hl : (M.1.cls, idx, M2.1, "DutyOnLeft") ∈ mNest) (h2 : mK2 M2 n) (hI : Cond.instanceMethod M2.1 ∈ mWd) (hret : M2.2.2.2 = none) (hin : M2.1.name = "<init>") (ho : o ≠ 0) (hn : as.length = n) (hst : (rest.map Value.category).sum ≤ 8) (hC : CC X d M2 (.ref o :: as) S h r1 S1 h1) (hpre2 : S1 <+: S') (K : JJ X M (d + 1) (pc + 3) L (r1.toList ++ rest) S1 h1 r S' h') : JJ X M (d + 1) pc L (as.reverse ++ .ref o :: rest) S h r S' h' := by
  intro hpre p e s m args below meth c R S0 Q F ret H locs cells slots ls hA hL
  obtain ⟨hS1, hM⟩ := hC
  have b := mPre_len hA.2.2.2.1 hS1
  have b2 := mPre_len (hA.2.2.2.1.trans hS1) hpre2
  have g1 := F.2.2.2.2.2.2.2.2.1
  have g2 := F.2.2.2.2.2.2.2.2.2.1
  have g3 := hA.2.2.2.2.1
  have g4 := hA.2.2.2.2.2
  have hts := F.2.2.2.2.2.1
  have hf1 := F.2.2.2.2.2.2.1
  have hf2 := F.2.2.2.2.2.2.2.1
  have hcat : ((rest.map (mEnc X)).map fun v => v.category).sum ≤ 8 := by
    rw [List.map_map]
    have : (fun v => v.category) ∘ mEnc X = (fun v : Value => v.category) := by funext v; exact mEnc_cat X v
    rw [this]; exact hst
  cases o with
  | zero => exact absurd rfl ho
  | succ o =>
  have hrun := va_runIN (l := xL X) (e := e) (below := below) (meth := meth) (H := H) (locs := locs) (cells := cells) (slots := slots) (As := as.map (mEnc X)) (b := xB X + o) (rest := rest.map (mEnc X)) (g := F0 m pc ls ((as.reverse ++ .ref (o + 1) :: rest).map (mEnc X))) ⟨F.1, F.2.1, F.2.2.1, F.2.2.2.1, hts⟩ hM ⟨(va_cnB (host := "DutyOnLeft") n hts (mWs_good h2.1) (by unfold mWs; rw [hret]) rfl rfl (F.2.2.2.2.2.2.2.2.2.2.2.2.2.2.2.2.2.2.2 _ hl) (hts _ h2.2.1) h2.2.2.1 ⟨hf1, by show 8 + (M2.2.2.1 + 11) + 64 * d ≤ R.locals; have := h2.2.2.2; omega⟩), hin, hts _ hI⟩ ⟨mPc_blind _, fun U hU hW => ⟨rfl, mU_at F hA hU hW⟩⟩ rfl (by rw [List.length_map]; exact hn) hL.2.1 (by rw [List.map_append, List.map_reverse]; rfl) (lv_room hcat) hd ⟨by omega, by omega⟩
  refine m_go hrun hA hS1 (fun H1 locs1 hA1 => ?_)
  have := K hpre2 p e s m args below meth c R S0 Q F ret H1 locs1 _ _ ls hA1 hL
  rw [List.map_append] at this
  cases r1 <;> exact this
theorem r_objInit {idx o : Nat} (hd : decode M.2.1 pc = .ok (.invokespecial idx, 3)) (hl : Cond.methodLink M.1.cls idx Lib.objectInit ∈ mWd) (hi : Cond.instanceMethod Lib.objectInit ∈ mWd) (hc : Cond.code Lib.objectInit ⟨#[0xb1]⟩ 1 none ∈ mWd) (ho : o ≠ 0) (hst : (st.map Value.category).sum ≤ 8) (K : JJ X M (d + 1) (pc + 3) L st S h r S' h') : JJ X M (d + 1) pc L (.ref o :: st) S h r S' h' := by
  intro hpre p e s m args below meth c R S0 Q F ret H locs cells slots ls hA hL
  have hts := F.2.2.2.2.2.1
  have hf1 := F.2.2.2.2.2.2.1
  have hf2 := F.2.2.2.2.2.2.2.1
  have hcat : ((st.map (mEnc X)).map fun v => v.category).sum ≤ 8 := by
    rw [List.map_map]
    have : (fun v => v.category) ∘ mEnc X = (fun v : Value => v.category) := by funext v; exact mEnc_cat X v
    rw [this]; exact hst
  cases o with
  | zero => exact absurd rfl ho
  | succ o =>
    have h8 := lv_room (m := m) (pc := pc) (ls := ls) (rest := (mVr X (o + 1)) :: st.map (mEnc X)) hcat
    exact W.objInit F.1 F.2.1 F.2.2.2.1 (hts _ hl) (hts _ hi) (hts _ hc) (g := F0 m pc ls ((.ref (o + 1) :: st).map (mEnc X))) rfl (hL.2.1.trans F.2.2.1.symm) rfl hd (by omega) (Nat.le_trans (Nat.add_le_add_right h8 12) (by omega)) (K hpre p e s m args below meth c R S0 Q F ret H locs cells slots ls hA hL)
theorem r_V0 {idx o t nt : Nat} {M2 : mMe} {rest : List Value} {S1 : mSh} {h1 : mHp} {r1 : Option Value} (hd : decode M.2.1 pc = .ok (.invokevirtual idx, 3)) (hl : Cond.methodLink M.1.cls idx M2.1 ∈ mWd) (h2 : mK2 M2 0) (hI : mKI M2) (ho : mSg S o = some (t, nt)) (hc : ∃ T, vwCl[t]? = some (M2.1.cls, T, nt)) (hst : (rest.map Value.category).sum ≤ 8) (hC : CC X d M2 (.ref o :: []) S h r1 S1 h1) (hpre2 : S1 <+: S') (K : JJ X M (d + 1) (pc + 3) L (r1.toList ++ rest) S1 h1 r S' h') : JJ X M (d + 1) pc L (.ref o :: rest) S h r S' h' := r_callV [] hd hl h2 hI ho hc rfl hst hC hpre2 K
theorem r_S0 {idx : Nat} {M2 : mMe} {rest : List Value} {S1 : mSh} {h1 : mHp} {r1 : Option Value} (hd : decode M.2.1 pc = .ok (.invokestatic idx, 3)) (hl : Cond.methodLink M.1.cls idx M2.1 ∈ mWd) (h2 : mK2 M2 0) (hI : Cond.static M2.1 ∈ mWd) (hst : (rest.map Value.category).sum ≤ 8) (hC : CC X d M2 [] S h r1 S1 h1) (hpre2 : S1 <+: S') (K : JJ X M (d + 1) (pc + 3) L (r1.toList ++ rest) S1 h1 r S' h') : JJ X M (d + 1) pc L (rest) S h r S' h' := r_callS [] hd hl h2 hI rfl hst hC hpre2 K
theorem r_SN0 {idx : Nat} {M2 : mMe} {rest : List Value} {S1 : mSh} {h1 : mHp} {r1 : Option Value} (hd : decode M.2.1 pc = .ok (.invokestatic idx, 3)) (hl : (M.1.cls, idx, M2.1, "DutyOnLeft") ∈ mNest) (h2 : mK2 M2 0) (hI : Cond.static M2.1 ∈ mWd) (hst : (rest.map Value.category).sum ≤ 8) (hC : CC X d M2 [] S h r1 S1 h1) (hpre2 : S1 <+: S') (K : JJ X M (d + 1) (pc + 3) L (r1.toList ++ rest) S1 h1 r S' h') : JJ X M (d + 1) pc L (rest) S h r S' h' := r_callSN [] hd hl h2 hI rfl hst hC hpre2 K
theorem r_V1 {idx o t nt : Nat} {M2 : mMe} {v0 : Value} {rest : List Value} {S1 : mSh} {h1 : mHp} {r1 : Option Value} (hd : decode M.2.1 pc = .ok (.invokevirtual idx, 3)) (hl : Cond.methodLink M.1.cls idx M2.1 ∈ mWd) (h2 : mK2 M2 1) (hI : mKI M2) (ho : mSg S o = some (t, nt)) (hc : ∃ T, vwCl[t]? = some (M2.1.cls, T, nt)) (hst : (rest.map Value.category).sum ≤ 8) (hC : CC X d M2 (.ref o :: [v0]) S h r1 S1 h1) (hpre2 : S1 <+: S') (K : JJ X M (d + 1) (pc + 3) L (r1.toList ++ rest) S1 h1 r S' h') : JJ X M (d + 1) pc L (v0 :: .ref o :: rest) S h r S' h' := r_callV [v0] hd hl h2 hI ho hc rfl hst hC hpre2 K
theorem r_S1 {idx : Nat} {M2 : mMe} {v0 : Value} {rest : List Value} {S1 : mSh} {h1 : mHp} {r1 : Option Value} (hd : decode M.2.1 pc = .ok (.invokestatic idx, 3)) (hl : Cond.methodLink M.1.cls idx M2.1 ∈ mWd) (h2 : mK2 M2 1) (hI : Cond.static M2.1 ∈ mWd) (hst : (rest.map Value.category).sum ≤ 8) (hC : CC X d M2 [v0] S h r1 S1 h1) (hpre2 : S1 <+: S') (K : JJ X M (d + 1) (pc + 3) L (r1.toList ++ rest) S1 h1 r S' h') : JJ X M (d + 1) pc L (v0 :: rest) S h r S' h' := r_callS [v0] hd hl h2 hI rfl hst hC hpre2 K
theorem r_SN1 {idx : Nat} {M2 : mMe} {v0 : Value} {rest : List Value} {S1 : mSh} {h1 : mHp} {r1 : Option Value} (hd : decode M.2.1 pc = .ok (.invokestatic idx, 3)) (hl : (M.1.cls, idx, M2.1, "DutyOnLeft") ∈ mNest) (h2 : mK2 M2 1) (hI : Cond.static M2.1 ∈ mWd) (hst : (rest.map Value.category).sum ≤ 8) (hC : CC X d M2 [v0] S h r1 S1 h1) (hpre2 : S1 <+: S') (K : JJ X M (d + 1) (pc + 3) L (r1.toList ++ rest) S1 h1 r S' h') : JJ X M (d + 1) pc L (v0 :: rest) S h r S' h' := r_callSN [v0] hd hl h2 hI rfl hst hC hpre2 K
theorem r_V2 {idx o t nt : Nat} {M2 : mMe} {v0 v1 : Value} {rest : List Value} {S1 : mSh} {h1 : mHp} {r1 : Option Value} (hd : decode M.2.1 pc = .ok (.invokevirtual idx, 3)) (hl : Cond.methodLink M.1.cls idx M2.1 ∈ mWd) (h2 : mK2 M2 2) (hI : mKI M2) (ho : mSg S o = some (t, nt)) (hc : ∃ T, vwCl[t]? = some (M2.1.cls, T, nt)) (hst : (rest.map Value.category).sum ≤ 8) (hC : CC X d M2 (.ref o :: [v0, v1]) S h r1 S1 h1) (hpre2 : S1 <+: S') (K : JJ X M (d + 1) (pc + 3) L (r1.toList ++ rest) S1 h1 r S' h') : JJ X M (d + 1) pc L (v1 :: v0 :: .ref o :: rest) S h r S' h' := r_callV [v0, v1] hd hl h2 hI ho hc rfl hst hC hpre2 K
theorem r_S2 {idx : Nat} {M2 : mMe} {v0 v1 : Value} {rest : List Value} {S1 : mSh} {h1 : mHp} {r1 : Option Value} (hd : decode M.2.1 pc = .ok (.invokestatic idx, 3)) (hl : Cond.methodLink M.1.cls idx M2.1 ∈ mWd) (h2 : mK2 M2 2) (hI : Cond.static M2.1 ∈ mWd) (hst : (rest.map Value.category).sum ≤ 8) (hC : CC X d M2 [v0, v1] S h r1 S1 h1) (hpre2 : S1 <+: S') (K : JJ X M (d + 1) (pc + 3) L (r1.toList ++ rest) S1 h1 r S' h') : JJ X M (d + 1) pc L (v1 :: v0 :: rest) S h r S' h' := r_callS [v0, v1] hd hl h2 hI rfl hst hC hpre2 K
theorem r_SN2 {idx : Nat} {M2 : mMe} {v0 v1 : Value} {rest : List Value} {S1 : mSh} {h1 : mHp} {r1 : Option Value} (hd : decode M.2.1 pc = .ok (.invokestatic idx, 3)) (hl : (M.1.cls, idx, M2.1, "DutyOnLeft") ∈ mNest) (h2 : mK2 M2 2) (hI : Cond.static M2.1 ∈ mWd) (hst : (rest.map Value.category).sum ≤ 8) (hC : CC X d M2 [v0, v1] S h r1 S1 h1) (hpre2 : S1 <+: S') (K : JJ X M (d + 1) (pc + 3) L (r1.toList ++ rest) S1 h1 r S' h') : JJ X M (d + 1) pc L (v1 :: v0 :: rest) S h r S' h' := r_callSN [v0, v1] hd hl h2 hI rfl hst hC hpre2 K
theorem r_V3 {idx o t nt : Nat} {M2 : mMe} {v0 v1 v2 : Value} {rest : List Value} {S1 : mSh} {h1 : mHp} {r1 : Option Value} (hd : decode M.2.1 pc = .ok (.invokevirtual idx, 3)) (hl : Cond.methodLink M.1.cls idx M2.1 ∈ mWd) (h2 : mK2 M2 3) (hI : mKI M2) (ho : mSg S o = some (t, nt)) (hc : ∃ T, vwCl[t]? = some (M2.1.cls, T, nt)) (hst : (rest.map Value.category).sum ≤ 8) (hC : CC X d M2 (.ref o :: [v0, v1, v2]) S h r1 S1 h1) (hpre2 : S1 <+: S') (K : JJ X M (d + 1) (pc + 3) L (r1.toList ++ rest) S1 h1 r S' h') : JJ X M (d + 1) pc L (v2 :: v1 :: v0 :: .ref o :: rest) S h r S' h' := r_callV [v0, v1, v2] hd hl h2 hI ho hc rfl hst hC hpre2 K
theorem r_S3 {idx : Nat} {M2 : mMe} {v0 v1 v2 : Value} {rest : List Value} {S1 : mSh} {h1 : mHp} {r1 : Option Value} (hd : decode M.2.1 pc = .ok (.invokestatic idx, 3)) (hl : Cond.methodLink M.1.cls idx M2.1 ∈ mWd) (h2 : mK2 M2 3) (hI : Cond.static M2.1 ∈ mWd) (hst : (rest.map Value.category).sum ≤ 8) (hC : CC X d M2 [v0, v1, v2] S h r1 S1 h1) (hpre2 : S1 <+: S') (K : JJ X M (d + 1) (pc + 3) L (r1.toList ++ rest) S1 h1 r S' h') : JJ X M (d + 1) pc L (v2 :: v1 :: v0 :: rest) S h r S' h' := r_callS [v0, v1, v2] hd hl h2 hI rfl hst hC hpre2 K
theorem r_SN3 {idx : Nat} {M2 : mMe} {v0 v1 v2 : Value} {rest : List Value} {S1 : mSh} {h1 : mHp} {r1 : Option Value} (hd : decode M.2.1 pc = .ok (.invokestatic idx, 3)) (hl : (M.1.cls, idx, M2.1, "DutyOnLeft") ∈ mNest) (h2 : mK2 M2 3) (hI : Cond.static M2.1 ∈ mWd) (hst : (rest.map Value.category).sum ≤ 8) (hC : CC X d M2 [v0, v1, v2] S h r1 S1 h1) (hpre2 : S1 <+: S') (K : JJ X M (d + 1) (pc + 3) L (r1.toList ++ rest) S1 h1 r S' h') : JJ X M (d + 1) pc L (v2 :: v1 :: v0 :: rest) S h r S' h' := r_callSN [v0, v1, v2] hd hl h2 hI rfl hst hC hpre2 K
theorem r_V4 {idx o t nt : Nat} {M2 : mMe} {v0 v1 v2 v3 : Value} {rest : List Value} {S1 : mSh} {h1 : mHp} {r1 : Option Value} (hd : decode M.2.1 pc = .ok (.invokevirtual idx, 3)) (hl : Cond.methodLink M.1.cls idx M2.1 ∈ mWd) (h2 : mK2 M2 4) (hI : mKI M2) (ho : mSg S o = some (t, nt)) (hc : ∃ T, vwCl[t]? = some (M2.1.cls, T, nt)) (hst : (rest.map Value.category).sum ≤ 8) (hC : CC X d M2 (.ref o :: [v0, v1, v2, v3]) S h r1 S1 h1) (hpre2 : S1 <+: S') (K : JJ X M (d + 1) (pc + 3) L (r1.toList ++ rest) S1 h1 r S' h') : JJ X M (d + 1) pc L (v3 :: v2 :: v1 :: v0 :: .ref o :: rest) S h r S' h' := r_callV [v0, v1, v2, v3] hd hl h2 hI ho hc rfl hst hC hpre2 K
theorem r_S4 {idx : Nat} {M2 : mMe} {v0 v1 v2 v3 : Value} {rest : List Value} {S1 : mSh} {h1 : mHp} {r1 : Option Value} (hd : decode M.2.1 pc = .ok (.invokestatic idx, 3)) (hl : Cond.methodLink M.1.cls idx M2.1 ∈ mWd) (h2 : mK2 M2 4) (hI : Cond.static M2.1 ∈ mWd) (hst : (rest.map Value.category).sum ≤ 8) (hC : CC X d M2 [v0, v1, v2, v3] S h r1 S1 h1) (hpre2 : S1 <+: S') (K : JJ X M (d + 1) (pc + 3) L (r1.toList ++ rest) S1 h1 r S' h') : JJ X M (d + 1) pc L (v3 :: v2 :: v1 :: v0 :: rest) S h r S' h' := r_callS [v0, v1, v2, v3] hd hl h2 hI rfl hst hC hpre2 K
theorem r_SN4 {idx : Nat} {M2 : mMe} {v0 v1 v2 v3 : Value} {rest : List Value} {S1 : mSh} {h1 : mHp} {r1 : Option Value} (hd : decode M.2.1 pc = .ok (.invokestatic idx, 3)) (hl : (M.1.cls, idx, M2.1, "DutyOnLeft") ∈ mNest) (h2 : mK2 M2 4) (hI : Cond.static M2.1 ∈ mWd) (hst : (rest.map Value.category).sum ≤ 8) (hC : CC X d M2 [v0, v1, v2, v3] S h r1 S1 h1) (hpre2 : S1 <+: S') (K : JJ X M (d + 1) (pc + 3) L (r1.toList ++ rest) S1 h1 r S' h') : JJ X M (d + 1) pc L (v3 :: v2 :: v1 :: v0 :: rest) S h r S' h' := r_callSN [v0, v1, v2, v3] hd hl h2 hI rfl hst hC hpre2 K
theorem r_V5 {idx o t nt : Nat} {M2 : mMe} {v0 v1 v2 v3 v4 : Value} {rest : List Value} {S1 : mSh} {h1 : mHp} {r1 : Option Value} (hd : decode M.2.1 pc = .ok (.invokevirtual idx, 3)) (hl : Cond.methodLink M.1.cls idx M2.1 ∈ mWd) (h2 : mK2 M2 5) (hI : mKI M2) (ho : mSg S o = some (t, nt)) (hc : ∃ T, vwCl[t]? = some (M2.1.cls, T, nt)) (hst : (rest.map Value.category).sum ≤ 8) (hC : CC X d M2 (.ref o :: [v0, v1, v2, v3, v4]) S h r1 S1 h1) (hpre2 : S1 <+: S') (K : JJ X M (d + 1) (pc + 3) L (r1.toList ++ rest) S1 h1 r S' h') : JJ X M (d + 1) pc L (v4 :: v3 :: v2 :: v1 :: v0 :: .ref o :: rest) S h r S' h' := r_callV [v0, v1, v2, v3, v4] hd hl h2 hI ho hc rfl hst hC hpre2 K
theorem r_S5 {idx : Nat} {M2 : mMe} {v0 v1 v2 v3 v4 : Value} {rest : List Value} {S1 : mSh} {h1 : mHp} {r1 : Option Value} (hd : decode M.2.1 pc = .ok (.invokestatic idx, 3)) (hl : Cond.methodLink M.1.cls idx M2.1 ∈ mWd) (h2 : mK2 M2 5) (hI : Cond.static M2.1 ∈ mWd) (hst : (rest.map Value.category).sum ≤ 8) (hC : CC X d M2 [v0, v1, v2, v3, v4] S h r1 S1 h1) (hpre2 : S1 <+: S') (K : JJ X M (d + 1) (pc + 3) L (r1.toList ++ rest) S1 h1 r S' h') : JJ X M (d + 1) pc L (v4 :: v3 :: v2 :: v1 :: v0 :: rest) S h r S' h' := r_callS [v0, v1, v2, v3, v4] hd hl h2 hI rfl hst hC hpre2 K
theorem r_SN5 {idx : Nat} {M2 : mMe} {v0 v1 v2 v3 v4 : Value} {rest : List Value} {S1 : mSh} {h1 : mHp} {r1 : Option Value} (hd : decode M.2.1 pc = .ok (.invokestatic idx, 3)) (hl : (M.1.cls, idx, M2.1, "DutyOnLeft") ∈ mNest) (h2 : mK2 M2 5) (hI : Cond.static M2.1 ∈ mWd) (hst : (rest.map Value.category).sum ≤ 8) (hC : CC X d M2 [v0, v1, v2, v3, v4] S h r1 S1 h1) (hpre2 : S1 <+: S') (K : JJ X M (d + 1) (pc + 3) L (r1.toList ++ rest) S1 h1 r S' h') : JJ X M (d + 1) pc L (v4 :: v3 :: v2 :: v1 :: v0 :: rest) S h r S' h' := r_callSN [v0, v1, v2, v3, v4] hd hl h2 hI rfl hst hC hpre2 K
theorem r_S6 {idx : Nat} {M2 : mMe} {v0 v1 v2 v3 v4 v5 : Value} {rest : List Value} {S1 : mSh} {h1 : mHp} {r1 : Option Value} (hd : decode M.2.1 pc = .ok (.invokestatic idx, 3)) (hl : Cond.methodLink M.1.cls idx M2.1 ∈ mWd) (h2 : mK2 M2 6) (hI : Cond.static M2.1 ∈ mWd) (hst : (rest.map Value.category).sum ≤ 8) (hC : CC X d M2 [v0, v1, v2, v3, v4, v5] S h r1 S1 h1) (hpre2 : S1 <+: S') (K : JJ X M (d + 1) (pc + 3) L (r1.toList ++ rest) S1 h1 r S' h') : JJ X M (d + 1) pc L (v5 :: v4 :: v3 :: v2 :: v1 :: v0 :: rest) S h r S' h' := r_callS [v0, v1, v2, v3, v4, v5] hd hl h2 hI rfl hst hC hpre2 K
theorem r_SN6 {idx : Nat} {M2 : mMe} {v0 v1 v2 v3 v4 v5 : Value} {rest : List Value} {S1 : mSh} {h1 : mHp} {r1 : Option Value} (hd : decode M.2.1 pc = .ok (.invokestatic idx, 3)) (hl : (M.1.cls, idx, M2.1, "DutyOnLeft") ∈ mNest) (h2 : mK2 M2 6) (hI : Cond.static M2.1 ∈ mWd) (hst : (rest.map Value.category).sum ≤ 8) (hC : CC X d M2 [v0, v1, v2, v3, v4, v5] S h r1 S1 h1) (hpre2 : S1 <+: S') (K : JJ X M (d + 1) (pc + 3) L (r1.toList ++ rest) S1 h1 r S' h') : JJ X M (d + 1) pc L (v5 :: v4 :: v3 :: v2 :: v1 :: v0 :: rest) S h r S' h' := r_callSN [v0, v1, v2, v3, v4, v5] hd hl h2 hI rfl hst hC hpre2 K
end
