/-! ===== what a method does, by numbers: JJ (from a place in it to its end), CC (its contract) ===== -/
/-- the words that every method may use -/
def mWd : List Cond := lw_tbl.filter goodWord
theorem mWd_in {w : Cond} (h : w ∈ mWd) : w ∈ lw_tbl := (List.mem_filter.mp h).1
theorem mWd_ok {w : Cond} (h : w ∈ mWd) : (w.onTables && w.keeps) = true ∨ ∃ ty, w = .arrayClass ty := good_of_word (List.mem_filter.mp h).2
theorem mWd_at {w : Cond} (i : Nat) (h : lw_tbl[i]? = some w) (hg : goodWord w = true) : w ∈ mWd := List.mem_filter.mpr ⟨List.mem_of_getElem? h, hg⟩
def mWs (M : mMe) : List Cond := Cond.code M.1 M.2.1 M.2.2.1 M.2.2.2 :: mWd
theorem mWs_good {M : mMe} (h : Cond.code M.1 M.2.1 M.2.2.1 M.2.2.2 ∈ mWd) : GoodIn mWd (mWs M) := by
  intro w hw
  rcases List.mem_cons.mp hw with rfl | hw
  · exact ⟨h, mWd_ok h⟩
  · exact ⟨hw, mWd_ok hw⟩
def mRoom (d : Nat) (S S' : mSh) : Room := { frames := d, cells := S'.length - S.length, slots := mSl S' - mSl S, locals := 64 * d }
def mFix (X : mCx) (M : mMe) (d : Nat) (S0 S' : mSh) (p : Program) (s : State) (m : MethodId) (args : Array Value) (meth : Method) (c : Code) (R : Room) : Prop :=
  p.tables.exec = Jvm.exec ∧ c.code = M.2.1 ∧ c.maxLocals = M.2.2.1 ∧ s.vm.findClass M.1.cls = some m.cls ∧ meth.name = M.1.name ∧ (∀ w ∈ mWd, w.before args s = true) ∧ d ≤ R.frames ∧ 64 * d ≤ R.locals ∧ S'.length - S0.length ≤ R.cells ∧ mSl S' - mSl S0 ≤ R.slots ∧ s.heap.size = xB X + S0.length ∧ va_K (xD X) vwCl (mTy X) s ∧ mXF X s s.heap
def mJunk (v : Value) : Bool := match v with
  | .retAddr _ => true
  | _ => false
def mLv (X : mCx) (n : Nat) (ls : Array Slot) (L : List Value) : Prop := L.length = n ∧ ls.size = n ∧ lv_wf ls ∧ ∀ (i : Nat) (v : Value), L[i]? = some v → mJunk v = false → ls[i]? = some (.val (mEnc X v))
def mAt (X : mCx) (S : mSh) (h : mHp) (S0 : mSh) (s : State) (H : Heap) (locs : List Loc) (cells slots : Nat) : Prop :=
  H.size = xB X + S.length ∧ va_P (xD X) vwCl (mW X S h) H ∧ va_S (fun q => xB X ≤ q) s.heap H locs ∧ S0 <+: S ∧ cells = S.length - S0.length ∧ slots = mSl S - mSl S0
def mRet (M : mMe) (pc : Nat) (st : List Value) (r : Option Value) : Prop :=
  (∃ v, decode M.2.1 pc = .ok (.ireturn, 1) ∧ st = [.int v] ∧ r = some (.int v)) ∨ (decode M.2.1 pc = .ok (.return_, 1) ∧ st = [] ∧ r = none) ∨ (∃ k, decode M.2.1 pc = .ok (.areturn, 1) ∧ st = [.ref k] ∧ r = some (.ref k))
def JJ (X : mCx) (M : mMe) (d pc : Nat) (L st : List Value) (S : mSh) (h : mHp) (r : Option Value) (S' : mSh) (h' : mHp) : Prop :=
  S <+: S' → ∀ (p : Program) (e : Env) (s : State) (m : MethodId) (args : Array Value) (below : List Frame) (meth : Method) (c : Code) (R : Room) (S0 : mSh) (Q : State → Prop), mFix X M d S0 S' p s m args meth c R →
    (∀ (pc : Nat) (H : Heap) (locs : List Loc) (cells slots : Nat) (ls : Array Slot) (st : List Value), mRet M pc st r → mAt X S' h' S0 s H locs cells slots → W p (xL X) e R s m args below meth c H locs cells slots Q (F0 m pc ls (st.map (mEnc X)))) →
    ∀ (H : Heap) (locs : List Loc) (cells slots : Nat) (ls : Array Slot), mAt X S h S0 s H locs cells slots → mLv X M.2.2.1 ls L → W p (xL X) e R s m args below meth c H locs cells slots Q (F0 m pc ls (st.map (mEnc X)))
def mPc (X : mCx) (as : List Value) (S : mSh) (h : mHp) : Array Value → State → Prop := fun v U => v = (as.map (mEnc X)).toArray ∧ mU X S h U
def mQc (X : mCx) (r : Option Value) (S' : mSh) (h' : mHp) : Array Value → State → Outcome → State → Prop := fun _ st o t => o = .returned (r.map (mEnc X)) ∧ mU X S' h' t ∧ va_F (fun q => xB X ≤ q) st t
def CC (X : mCx) (d : Nat) (M : mMe) (as : List Value) (S : mSh) (h : mHp) (r : Option Value) (S' : mSh) (h' : mHp) : Prop :=
  S <+: S' ∧ Met (xL X) M.1 (mWs M) (mRoom d S S') (mPc X as S h) (mQc X r S' h') (S'.length - S.length) (mSl S' - mSl S) (fun q => xB X ≤ q)
/-! the locals at the entry -/
def mEn (as : List Value) : List Value := as.flatMap (fun v => if v.category = 2 then [v, .retAddr 0] else [v])
def mEnt (as : List Value) (n : Nat) : List Value := mEn as ++ List.replicate (n - (mEn as).length) (.retAddr 0)
theorem mEn_sl (X : mCx) (as : List Value) : (lg_sl (as.map (mEnc X))).length = (mEn as).length := by
  induction as with
  | nil => rfl
  | cons v as ih =>
    have e : (mEnc X v).category = v.category := mEnc_cat X v
    unfold lg_sl mEn at ih ⊢
    rw [List.map_cons, List.flatMap_cons, List.flatMap_cons, List.length_append, List.length_append, ih, e]
    congr 1
    by_cases hc : v.category = 2
    · rw [if_pos hc, if_pos hc]; rfl
    · rw [if_neg hc, if_neg hc]; rfl
theorem mEn_in (X : mCx) : ∀ (as : List Value) (k i : Nat) (v : Value), (mEn as)[i]? = some v → mJunk v = false → (k + i, mEnc X v) ∈ lv_args k (as.map (mEnc X)) := by
  intro as
  induction as with
  | nil => intro k i v h; simp [mEn] at h
  | cons a as ih =>
    intro k i v h hj
    have e : (mEnc X a).category = a.category := mEnc_cat X a
    have hE : mEn (a :: as) = (if a.category = 2 then [a, .retAddr 0] else [a]) ++ mEn as := by unfold mEn; rw [List.flatMap_cons]
    rw [hE] at h
    rw [List.map_cons]
    show _ ∈ (k, mEnc X a) :: lv_args (if (mEnc X a).category = 2 then k + 2 else k + 1) (as.map (mEnc X))
    rw [e]
    by_cases hc : a.category = 2
    · rw [if_pos hc] at h ⊢
      match i, h with
      | 0, h => cases h; exact List.mem_cons_self
      | 1, h => cases h; simp [mJunk] at hj
      | i + 2, h =>
        have := ih (k + 2) i v h hj
        rw [show k + 2 + i = k + (i + 2) by omega] at this
        exact List.mem_cons_of_mem _ this
    · rw [if_neg hc] at h ⊢
      match i, h with
      | 0, h => cases h; exact List.mem_cons_self
      | i + 1, h =>
        have := ih (k + 1) i v h hj
        rw [show k + 1 + i = k + (i + 1) by omega] at this
        exact List.mem_cons_of_mem _ this
theorem mEnt_lv (X : mCx) (as : List Value) (n : Nat) (hn : (mEn as).length ≤ n) : mLv X n ((lg_sl (as.map (mEnc X)) ++ List.replicate (n - (lg_sl (as.map (mEnc X))).length) Slot.unset).toArray) (mEnt as n) := by
  obtain ⟨h1, h2, h3⟩ := lv_entry (as.map (mEnc X)) (n := n) (by rw [mEn_sl]; exact hn)
  refine ⟨by simp [mEnt]; omega, h1, h2, fun i v hv hj => ?_⟩
  have hi : i < (mEn as).length := by
    apply Decidable.byContradiction
    intro hi
    rw [mEnt, List.getElem?_append_right (by omega), List.getElem?_replicate] at hv
    split at hv
    · cases hv; simp [mJunk] at hj
    · cases hv
  rw [mEnt, List.getElem?_append_left hi] at hv
  have := mEn_in X as 0 i v hv hj
  rw [Nat.zero_add] at this
  exact h3 _ this
/-! stores into locals -/
def mLl (X : mCx) (L : List Value) : List (Nat × Value) := L.zipIdx.filterMap (fun q => if mJunk q.1 = true then none else some (q.2, mEnc X q.1))
theorem mLl_mem {X : mCx} {L : List Value} {i : Nat} {w : Value} : (i, w) ∈ mLl X L ↔ ∃ v, L[i]? = some v ∧ mJunk v = false ∧ w = mEnc X v := by
  unfold mLl
  rw [List.mem_filterMap]
  constructor
  · rintro ⟨⟨v, j⟩, h1, h2⟩
    have h3 := List.mem_zipIdx_iff_getElem?.mp h1
    by_cases hj : mJunk v = true
    · simp [hj] at h2
    · simp only [hj, Bool.false_eq_true, if_false, Option.some.injEq, Prod.mk.injEq] at h2
      obtain ⟨rfl, rfl⟩ := h2
      exact ⟨v, h3, by simpa using hj, rfl⟩
  · rintro ⟨v, h1, h2, rfl⟩
    exact ⟨(v, i), List.mem_zipIdx_iff_getElem?.mpr h1, by simp [h2]⟩
theorem mLv.has {X : mCx} {n : Nat} {ls : Array Slot} {L : List Value} (h : mLv X n ls L) : lv_has ls n (mLl X L) := by
  obtain ⟨h1, h2, h3, h4⟩ := h
  refine ⟨h2, h3, fun q hq => ?_⟩
  obtain ⟨i, w⟩ := q
  obtain ⟨v, g1, g2, rfl⟩ := mLl_mem.mp hq
  exact h4 i v g1 g2
/-- one word may be stored at i: the place is there, and no long stands just ahead -/
def mSt1 (L : List Value) (i : Nat) : Bool := decide (i < L.length) && (match i with
  | 0 => true
  | k + 1 => match L[k]? with
    | some (.long _) => false
    | some (.double _) => false
    | _ => true)
theorem mSt1_prev {X : mCx} {L : List Value} {k : Nat} (h : mSt1 L (k + 1) = true) {v : Value} (hv : L[k]? = some v) : (mEnc X v).category ≠ 2 := by
  unfold mSt1 at h
  rw [mEnc_cat]
  cases v <;> simp_all [Value.category]
theorem mLv.set1 {X : mCx} {n i : Nat} {ls ls' : Array Slot} {L : List Value} {v : Value} (h : mLv X n ls L) (hk : mSt1 L i = true) (hl : lv_has ls' n ((i, mEnc X v) :: (mLl X L).filter (fun q => !(q.1 == i) && !(q.1 + 1 == i && q.2.category == 2)))) : mLv X n ls' (L.set i v) := by
  obtain ⟨h1, h2, h3⟩ := hl
  refine ⟨by rw [List.length_set]; exact h.1, h1, h2, fun j w hj hw => ?_⟩
  have hi : i < L.length := by unfold mSt1 at hk; simp at hk; exact hk.1
  by_cases he : i = j
  · subst he
    rw [List.getElem?_set_self hi] at hj
    cases hj
    exact h3 (i, mEnc X v) List.mem_cons_self
  · rw [List.getElem?_set_ne he] at hj
    refine h3 (j, mEnc X w) (List.mem_cons_of_mem _ (List.mem_filter.mpr ⟨mLl_mem.mpr ⟨w, hj, hw, rfl⟩, ?_⟩))
    by_cases hp : j + 1 = i
    · subst hp
      have := mSt1_prev (X := X) hk hj
      simp [this]
    · simp [hp, Ne.symm he]
def mSt2 (L : List Value) (i : Nat) : Bool := decide (i + 1 < L.length) && mSt1 L i
theorem mLv.set2 {X : mCx} {n i : Nat} {ls ls' : Array Slot} {L : List Value} {v : Value} (h : mLv X n ls L) (hk : mSt2 L i = true) (hl : lv_has ls' n ((i, mEnc X v) :: (mLl X L).filter (fun q => !(q.1 == i) && (!(q.1 == i + 1) && !(q.1 + 1 == i && q.2.category == 2))))) : mLv X n ls' ((L.set i v).set (i + 1) (.retAddr 0)) := by
  obtain ⟨h1, h2, h3⟩ := hl
  unfold mSt2 at hk
  rw [Bool.and_eq_true] at hk
  obtain ⟨hk2, hk⟩ := hk
  have hi2 : i + 1 < L.length := by simpa using hk2
  refine ⟨by rw [List.length_set, List.length_set]; exact h.1, h1, h2, fun j w hj hw => ?_⟩
  by_cases he2 : i + 1 = j
  · subst he2
    rw [List.getElem?_set_self (by rw [List.length_set]; exact hi2)] at hj
    cases hj
    simp [mJunk] at hw
  · rw [List.getElem?_set_ne he2] at hj
    by_cases he : i = j
    · subst he
      rw [List.getElem?_set_self (by omega)] at hj
      cases hj
      exact h3 (i, mEnc X v) List.mem_cons_self
    · rw [List.getElem?_set_ne he] at hj
      refine h3 (j, mEnc X w) (List.mem_cons_of_mem _ (List.mem_filter.mpr ⟨mLl_mem.mpr ⟨w, hj, hw, rfl⟩, ?_⟩))
      by_cases hp : j + 1 = i
      · subst hp
        have := mSt1_prev (X := X) hk hj
        simp [this]
        omega
      · have e1 : ¬ j = i := fun e => he e.symm
        have e2 : ¬ j = i + 1 := fun e => he2 e.symm
        simp [hp, e1, e2]
/-! a method's contract out of its walk -/
def mRok (ret : Option FieldType) (r : Option Value) : Prop := match ret, r with
  | some ty, some (.int v) => narrow ty (.int v) = .int v
  | none, none => True
  | some (.object _), some (.ref _) => True
  | _, _ => False
theorem mVr_ref (X : mCx) (k : Nat) : mVr X k = .null ∨ ∃ a, mVr X k = .ref a := by
  cases k with
  | zero => exact Or.inl rfl
  | succ k => exact Or.inr ⟨_, rfl⟩
theorem CC.of {X : mCx} {d : Nat} {M : mMe} {as : List Value} {S S' : mSh} {h h' : mHp} {r : Option Value} (hp : plainName M.1.cls = true) (hn : (mEn as).length ≤ M.2.2.1) (hr : mRok M.2.2.2 r) (hS : S <+: S') (J : JJ X M d 0 (mEnt as M.2.2.1) [] S h r S' h') : CC X d M as S h r S' h' := by
  refine ⟨hS, Met.ofW (cc := M.2.1) (maxL := M.2.2.1) (ret := M.2.2.2) hp rfl ?_⟩
  intro p e s m args below meth c s₁ B hml hv
  obtain ⟨rfl, hsz, hP, hK, hX⟩ := hv
  have hts := atoms_spec (ws := mWs M) B.pre
  have hF : mFix X M d S S' p s m (as.map (mEnc X)).toArray meth c (mRoom d S S') := ⟨B.exec, B.bytes, hml, findClass_of_methodNamed B.named, (name_of_methodNamed B.named B.method).1, fun w hw => hts w (List.mem_cons_of_mem _ hw), Nat.le_refl _, Nat.le_refl _, Nat.le_refl _, Nat.le_refl _, hsz, hK, hX⟩
  have hr0 := B.returns
  have hlocks := B.notSynchronized
  rw [lg_entry_eq]
  refine J hS p e s m _ below meth c (mRoom d S S') S _ hF ?_ s.heap [] 0 0 _ ⟨hsz, hP, va_S.rf, List.prefix_refl S, by omega, by omega⟩ (mEnt_lv X as M.2.2.1 hn)
  intro pc H locs cells slots ls st hm hA
  obtain ⟨z1, z2, z3, z4, rfl, rfl⟩ := hA
  have hU : ∀ t : State, t.heap = H → s.WarmedH t.vm → mU X S' h' t ∧ va_F (fun q => xB X ≤ q) s t := fun t ht hW => ⟨⟨by rw [ht]; exact z1, by rw [ht]; exact z2, hK.moved hW.alike, by rw [ht]; exact hX.next hW z3.2.1⟩, z3.F ht⟩
  rcases hm with ⟨v, hd, rfl, rfl⟩ | ⟨hd, rfl, rfl⟩ | ⟨k, hd, rfl, rfl⟩
  · cases hret : M.2.2.2 with
    | none => rw [hret] at hr; exact hr.elim
    | some ty =>
      rw [hret] at hr hr0
      have hr' : narrow ty (.int v) = .int v := by
        unfold mRok at hr
        split at hr <;> simp_all
      exact W.zret B.exec B.bytes hr0 hr' (fun t ht hW => ⟨rfl, hU t ht hW⟩) z3.2.2 hd
  · cases hret : M.2.2.2 with
    | none =>
      rw [hret] at hr0
      exact W.vret B.exec B.bytes hr0 (fun t ht hW => ⟨rfl, hU t ht hW⟩) z3.2.2 hd
    | some ty => rw [hret] at hr; cases ty <;> exact hr.elim
  · cases hret : M.2.2.2 with
    | none => rw [hret] at hr; exact hr.elim
    | some ty =>
      rw [hret] at hr hr0
      have hty : (∃ n, ty = .object n) ∨ ∃ t, ty = .array t := by
        cases ty <;> first | exact Or.inl ⟨_, rfl⟩ | exact hr.elim
      exact W.aret B.exec B.bytes hr0 hty (mVr_ref X k) (fun t ht hW => ⟨rfl, hU t ht hW⟩) z3.2.2 hd
