/-! ===== a heap by numbers: a cell is a number from 1 on (0: null), its address is base + number - 1 ===== -/
abbrev mSh : Type := List (Nat × Nat)
abbrev mHp : Type := (Nat → Nat → Int32) × (Nat → Nat → Nat)
abbrev mCx : Type := Launch × Nat × va_G × (ClassId × ClassId × ClassId) × ((Nat → Nat) × (Nat → Nat)) × (Nat × Nat × (Nat → Int32))
abbrev mMe : Type := MethodName × ByteArray × Nat × Option FieldType
def xL (X : mCx) : Launch := X.1
def xB (X : mCx) : Nat := X.2.1
def xD (X : mCx) : va_G := X.2.2.1
def xI (X : mCx) : ClassId := X.2.2.2.1.1
def xC (X : mCx) : ClassId := X.2.2.2.1.2.1
def xS (X : mCx) : ClassId := X.2.2.2.1.2.2
def xK (X : mCx) : Nat → Nat := X.2.2.2.2.1.1
def xV (X : mCx) : Nat → Nat := X.2.2.2.2.1.2
def xb (X : mCx) : Nat := X.2.2.2.2.2.1
def xN (X : mCx) : Nat := X.2.2.2.2.2.2.1
def xX (X : mCx) : Nat → Int32 := X.2.2.2.2.2.2.2
/-- which fields are references, by class (as in vwCl) and place -/
def mRfT : List (List Bool) := [[false, false, false, true, true, true, true, true, true, true, true, true], [true, true, false], [true, true], [true, false, false], [true], [false, false, true, true, true, true, false], [true, false], [true, true, true, true, true, true, true, true, true, true, true], [true, true, false, false, false, true, true, true, false, false, true, true, true, true, true, true, false]]
def mRf (t j : Nat) : Bool := (mRfT.getD t []).getD j false
def mVr (X : mCx) (r : Nat) : Value := match r with
  | 0 => .null
  | k + 1 => .ref (xB X + k)
def mOr (X : mCx) (r : Nat) : Option Nat := match r with
  | 0 => none
  | k + 1 => some (xB X + k)
theorem mOr_rf (X : mCx) (r : Nat) : va_rf (mOr X r) = mVr X r := by cases r <;> rfl
/-- what the JDK holds there, null or not -/
def mFm (X : mCx) : Value := match xV X 1 with
  | 0 => .null
  | k + 1 => .ref k
/-- the constant (0), its bytes (2), what the JDK holds (3), the script -/
def mEnF (X : mCx) (b : UInt32) : Value := if b = 3 then mFm X else .ref (if b = 0 then xK X 0 else if b = 2 then xV X 0 else xb X)
def mEnc (X : mCx) (v : Value) : Value := match v with
  | .ref r => mVr X r
  | .float b => mEnF X b
  | .int x => .int x
  | .long x => .long x
  | .double b => .double b
  | .null => .null
  | .retAddr q => .retAddr q
theorem mEnF_is (X : mCx) (b : UInt32) : mEnF X b = .null ∨ ∃ a, mEnF X b = .ref a := by
  unfold mEnF mFm
  split
  · split
    · exact Or.inl rfl
    · exact Or.inr ⟨_, rfl⟩
  · exact Or.inr ⟨_, rfl⟩
theorem mEnc_cat (X : mCx) (v : Value) : (mEnc X v).category = v.category := by
  cases v with
  | ref r => cases r <;> rfl
  | float b =>
    show (mEnF X b).category = _
    rcases mEnF_is X b with e | ⟨a, e⟩ <;> rw [e] <;> rfl
  | _ => rfl
def mFs (X : mCx) (t n o : Nat) (h : mHp) : List Value := (List.range n).map (fun j => if mRf t j = true then mVr X (h.2 o j) else .int (h.1 o j))
def mCell (X : mCx) (S : mSh) (h : mHp) (i : Nat) : va_E := match S[i]? with
  | none => .inr (0, [])
  | some (t, n) => if t < 9 then .inr (t, mFs X t n (i + 1) h) else if t = 20 then .inl (xI X, n, .inl (h.1 (i + 1))) else if t = 21 then .inl (xC X, n, .inl (h.1 (i + 1))) else .inl (xS X, n, .inr (.inr (.inr (.inr (fun j => mOr X (h.2 (i + 1) j))))))
def mW (X : mCx) (S : mSh) (h : mHp) : va_W := (List.range S.length).map (fun i => (xB X + i, mCell X S h i))
def mTy (X : mCx) : List (ClassId × FieldType) := [(xI X, .int), (xC X, .char), (xS X, .object "DutyOnLeft$Standing")]
def mSl (S : mSh) : Nat := (S.map (fun q => q.2)).sum
def sI (h : mHp) (o j : Nat) (v : Int32) : mHp := (fun a b => if a = o ∧ b = j then v else h.1 a b, h.2)
def sR (h : mHp) (o j r : Nat) : mHp := (h.1, fun a b => if a = o ∧ b = j then r else h.2 a b)
def sN (h : mHp) (o : Nat) : mHp := (fun a b => if a = o then 0 else h.1 a b, fun a b => if a = o then 0 else h.2 a b)
theorem mW_len (X : mCx) (S : mSh) (h : mHp) : (mW X S h).length = S.length := by simp [mW]
theorem mW_get {X : mCx} {S : mSh} {h : mHp} {o : Nat} (hl : o < S.length) : (mW X S h)[o]? = some (xB X + o, mCell X S h o) := by
  rw [mW, List.getElem?_map, List.getElem?_range hl]; rfl
theorem mW_at {X : mCx} {S : mSh} {h : mHp} {k : Nat} {q : Nat × va_E} (hk : (mW X S h)[k]? = some q) : k < S.length ∧ q = (xB X + k, mCell X S h k) := by
  have hl : k < S.length := by
    have := (List.getElem?_eq_some_iff.mp hk).1
    rwa [mW_len] at this
  refine ⟨hl, ?_⟩
  rw [mW_get hl] at hk
  exact (Option.some.inj hk).symm
theorem mW_D (X : mCx) (S : mSh) (h : mHp) : va_D (fun q => xB X ≤ q) (mW X S h) := by
  refine ⟨fun i j p q hi hj hpq => ?_, fun k q hk => ?_⟩
  · obtain ⟨-, rfl⟩ := mW_at hi
    obtain ⟨-, rfl⟩ := mW_at hj
    have : xB X + i = xB X + j := hpq
    omega
  · obtain ⟨-, rfl⟩ := mW_at hk
    exact Nat.le_add_right _ _
theorem mSt_lt {S : mSh} {o : Nat} {q : Nat × Nat} (h : S[o]? = some q) : o < S.length := (List.getElem?_eq_some_iff.mp h).1
theorem mCell_obj {X : mCx} {S : mSh} {h : mHp} {o t n : Nat} (hs : S[o]? = some (t, n)) (ht : t < 9) : mCell X S h o = .inr (t, mFs X t n (o + 1) h) := by
  unfold mCell; rw [hs]; exact if_pos ht
theorem mCell_i {X : mCx} {S : mSh} {h : mHp} {o n : Nat} (hs : S[o]? = some (20, n)) : mCell X S h o = .inl (xI X, n, .inl (h.1 (o + 1))) := by
  unfold mCell; rw [hs]; rfl
theorem mCell_c {X : mCx} {S : mSh} {h : mHp} {o n : Nat} (hs : S[o]? = some (21, n)) : mCell X S h o = .inl (xC X, n, .inl (h.1 (o + 1))) := by
  unfold mCell; rw [hs]; rfl
theorem mCell_s {X : mCx} {S : mSh} {h : mHp} {o n : Nat} (hs : S[o]? = some (22, n)) : mCell X S h o = .inl (xS X, n, .inr (.inr (.inr (.inr (fun j => mOr X (h.2 (o + 1) j)))))) := by
  unfold mCell; rw [hs]; rfl
theorem mCell_eq {X : mCx} {S S1 : mSh} {h h1 : mHp} {i : Nat} (hs : S1[i]? = S[i]?) (e1 : h1.1 (i + 1) = h.1 (i + 1)) (e2 : h1.2 (i + 1) = h.2 (i + 1)) : mCell X S1 h1 i = mCell X S h i := by
  unfold mCell mFs; rw [hs, e1, e2]
theorem mFs_len (X : mCx) (t n o : Nat) (h : mHp) : (mFs X t n o h).length = n := by simp [mFs]
theorem mFs_get {X : mCx} {t n o j : Nat} {h : mHp} (hj : j < n) : (mFs X t n o h)[j]? = some (if mRf t j = true then mVr X (h.2 o j) else .int (h.1 o j)) := by
  rw [mFs, List.getElem?_map, List.getElem?_range hj]; rfl
theorem mFs_set {X : mCx} {t n o k : Nat} {h h1 : mHp} {v : Value} (hk : k < n) (hv : v = if mRf t k = true then mVr X (h1.2 o k) else .int (h1.1 o k)) (e1 : ∀ j, j ≠ k → h1.1 o j = h.1 o j) (e2 : ∀ j, j ≠ k → h1.2 o j = h.2 o j) : (mFs X t n o h).set k v = mFs X t n o h1 := by
  apply List.ext_getElem?
  intro j
  rw [List.getElem?_set]
  by_cases hj : k = j
  · subst hj
    rw [if_pos rfl, if_pos (by rw [mFs_len]; exact hk), mFs_get hk, hv]
  · rw [if_neg hj]
    by_cases hl : j < n
    · rw [mFs_get hl, mFs_get hl, e1 j (Ne.symm hj), e2 j (Ne.symm hj)]
    · rw [List.getElem?_eq_none (by rw [mFs_len]; omega), List.getElem?_eq_none (by rw [mFs_len]; omega)]
theorem mW_set {X : mCx} {S : mSh} {h h1 : mHp} {o : Nat} {e : va_E} (ho : o < S.length) (he : e = mCell X S h1 o) (e1 : ∀ a, a ≠ o + 1 → h1.1 a = h.1 a) (e2 : ∀ a, a ≠ o + 1 → h1.2 a = h.2 a) : (mW X S h).set o (xB X + o, e) = mW X S h1 := by
  subst he
  apply List.ext_getElem?
  intro i
  rw [List.getElem?_set]
  by_cases hi : o = i
  · subst hi
    rw [if_pos rfl, if_pos (by rw [mW_len]; exact ho), mW_get ho]
  · rw [if_neg hi]
    by_cases hl : i < S.length
    · rw [mW_get hl, mW_get hl, mCell_eq rfl (e1 (i + 1) (by omega)) (e2 (i + 1) (by omega))]
    · rw [List.getElem?_eq_none (by rw [mW_len]; omega), List.getElem?_eq_none (by rw [mW_len]; omega)]
theorem mW_push {X : mCx} {S : mSh} {h h1 : mHp} {q : Nat × Nat} {e : va_E} (he : e = mCell X (S ++ [q]) h1 S.length) (e1 : ∀ a, a ≠ S.length + 1 → h1.1 a = h.1 a) (e2 : ∀ a, a ≠ S.length + 1 → h1.2 a = h.2 a) : mW X S h ++ [(xB X + S.length, e)] = mW X (S ++ [q]) h1 := by
  subst he
  apply List.ext_getElem?
  intro i
  by_cases hl : i < S.length
  · rw [List.getElem?_append_left (by rw [mW_len]; exact hl), mW_get hl, mW_get (by simp; omega), mCell_eq (S := S) (S1 := S ++ [q]) (List.getElem?_append_left hl) (e1 (i + 1) (by omega)) (e2 (i + 1) (by omega))]
  · rw [List.getElem?_append_right (by rw [mW_len]; omega), mW_len]
    by_cases hi : i = S.length
    · subst hi
      rw [Nat.sub_self, mW_get (by simp)]
      rfl
    · rw [List.getElem?_eq_none (by simp; omega), List.getElem?_eq_none (by rw [mW_len]; simp; omega)]
/-! the string constant, the script, what else the start gives -/
def mBy : List Int32 := mTx.toList.map (fun ch => Int32.ofNat ch.toNat)
def mXF (X : mCx) (U : State) (H : Heap) : Prop :=
  vk_S 1 [mBy.length] [mBy] (xK X) (xV X) (fun q => xB X ≤ q) U H ∧ vk_R RX11 mIx mTx (xK X 0) U ∧ va_X (xb X) (xN X) (xX X) U H ∧ xb X < xB X ∧ va_Z "java/lang/String" "COMPACT_STRINGS" "Z" (.int 1) (fun q => xB X ≤ q) U H ∧ va_Z "jdk/internal/util/Preconditions" "SIOOBE_FORMATTER" "Ljava/util/function/BiFunction;" (mFm X) (fun q => xB X ≤ q) U H ∧ va_AO "DutyOnLeft$Standing" U ∧ ∀ q ∈ mNest, va_Nw (.methodLinkNest q.1 q.2.1 q.2.2.1 q.2.2.2) U
theorem mXF.next {X : mCx} {s t : State} {H H1 : Heap} (h : mXF X s H) (hW : s.WarmedH t.vm) (hk : ∀ a : Nat, a < H.size → ¬ xB X ≤ a → H1[a]? = H[a]?) : mXF X t H1 := by
  obtain ⟨h1, h2, h3, h4, h5, h6, h7, h8⟩ := h
  have hA := hW.alike
  refine ⟨(h1.moved hA).kept hk, h2.warm hW, (h3.moved hA).kept (hk _ ?_ (Nat.not_le.mpr h4)), h4, (h5.moved hA).kept hk, (h6.moved hA).kept hk, h7.moved hA, fun q hq => va_Nw.warmM hW (h8 q hq)⟩
  obtain ⟨scr, g1, -⟩ := h3
  exact (Array.getElem?_eq_some_iff.mp g1).1
/-- the world of a state -/
def mU (X : mCx) (S : mSh) (h : mHp) (U : State) : Prop := U.heap.size = xB X + S.length ∧ va_P (xD X) vwCl (mW X S h) U.heap ∧ va_K (xD X) vwCl (mTy X) U ∧ mXF X U U.heap
theorem mU.calling {X : mCx} {S : mSh} {h : mHp} {U : State} (q : mU X S h U) (g : JFrame) (mk : MethodId) (a : Array Value) : mU X S h (U.calling g mk a) := by
  obtain ⟨q1, q2, q3, h1, h2, h3, h4, h5, h6, h7, h8⟩ := q
  exact ⟨q1, q2, va_K.moved (u := U) (U := U.calling g mk a) (Vm.Alike.refl U.vm) q3, vk_S.moved (u := U) (U := U.calling g mk a) (Vm.Alike.refl U.vm) h1, vk_R.same (u := U) (U := U.calling g mk a) rfl h2, va_X.moved (u := U) (U := U.calling g mk a) (Vm.Alike.refl U.vm) h3, h4, va_Z.moved (u := U) (U := U.calling g mk a) (Vm.Alike.refl U.vm) h5, va_Z.moved (u := U) (U := U.calling g mk a) (Vm.Alike.refl U.vm) h6, va_AO.moved (u := U) (U := U.calling g mk a) (Vm.Alike.refl U.vm) h7, fun q hq => va_Nw.same (u := U) (U := U.calling g mk a) rfl rfl (h8 q hq)⟩
