/-! THE CLAIM OUT OF ONE WALK OF THE LAW'S BODY. Your part is whole_start (and what it stands on); all else here is the same for every law, but numbers. -/
def R_law : String := "DutyOnLeftLaw"
def lw_P (b : Addr) (xs : List Int32) (args : Array Value) (s : State) : Prop := args = #[.ref b] ∧ s.IntsAt b xs ∧ xs.length ≤ 320 ∧ (Jvm.Cond.and given_1 narrow_1).before args s = true
def lw_Q (_ : Array Value) (s : State) (o : Outcome) (t : State) : Prop := o = .returned (some (.int 1)) ∧ Framed s o t [] 600000 7302250
def lw_Z (below : List Frame) (a : Array Value) (s : State) : State → Prop := fun t => ∃ o, t.status = .running ∧ Ended t below o ∧ lw_Q a s o t
/-- the law's own end, with 1 on the stack, nothing written that was there before, its room as the claim has it -/
theorem lw_ret {p : Program} {l : Launch} {e : Env} {s : State} {m : MethodId} {below : List Frame} {meth : Method} {c : Code} {b : Nat} (hx : p.tables.exec = Jvm.exec) (hb : c.code = code) (hr : meth.sig.returnType = ret) (hlocks : meth.locks = false) {pc : Nat} {H : Heap} {ls : Array Slot} (hdg : decode code pc = .ok (.ireturn, 1)) : W p l e room_1 s m #[Value.ref b] below meth c H [] 600000 7302250 (lw_Z below #[Value.ref b] s) (F0 m pc ls [.int 1]) := by
  intro T hT X
  obtain ⟨fs, hret, hrun, hended, hW, hframe⟩ := X.leave (v := some (.int 1)) (hlocks := hlocks) (fun h => by rw [hr] at h; cases h)
  have hmeth' : T.vm.method? m = some meth := X.method'
  refine ⟨T.setFrames fs, ?_, .returned (some (.int 1)), hrun, hended, rfl, ⟨_, rfl⟩, hW, hframe⟩
  jvm_step X.here [X.here.top, hx, hb, hdg, hmeth', hr, ret, narrow_b1]
  (try refine ⟨rfl, ?_⟩); (try refine ⟨rfl, ?_⟩)
  first | (intro acts; rw [hret _ acts rfl rfl rfl]) | rw [hret _ _ rfl rfl rfl]
  exact Steps.refl _
/-- what holds at the law's entry: the machine, the code, the tables' words (any of lw_tbl by 'hts w (by decide +kernel)'), the script of L ints xs at the cell b, what the Statement gives of the start (any of its parts by flat_of_before) -/
def lw_At (p : Program) (s : State) (m : MethodId) (meth : Method) (c : Code) (b L : Nat) (xs : Nat → Int32) : Prop :=
  p.tables.exec = Jvm.exec ∧ c.code = code ∧ meth.sig.returnType = ret ∧ c.maxLocals = 4 ∧ s.vm.findClass R_law = some m.cls ∧ (∀ w ∈ lw_tbl, w.before #[Value.ref b] s = true) ∧ va_X b L xs s s.heap ∧ b < s.heap.size ∧ meth.locks = false ∧ (Jvm.Cond.and given_1 narrow_1).before #[Value.ref b] s = true
/-! ===== the world at the law's entry ===== -/
theorem nest_in : ∀ q ∈ mNest, Cond.methodLinkNest q.1 q.2.1 q.2.2.1 q.2.2.2 ∈ lw_tbl := List.forall_mem_cons.mpr ⟨List.mem_of_getElem? (i := 77) (by decide +kernel), List.forall_mem_cons.mpr ⟨List.mem_of_getElem? (i := 93) (by decide +kernel), List.forall_mem_cons.mpr ⟨List.mem_of_getElem? (i := 104) (by decide +kernel), List.forall_mem_cons.mpr ⟨List.mem_of_getElem? (i := 146) (by decide +kernel), List.forall_mem_cons.mpr ⟨List.mem_of_getElem? (i := 160) (by decide +kernel), List.forall_mem_cons.mpr ⟨List.mem_of_getElem? (i := 177) (by decide +kernel), List.forall_mem_cons.mpr ⟨List.mem_of_getElem? (i := 190) (by decide +kernel), List.forall_mem_cons.mpr ⟨List.mem_of_getElem? (i := 751) (by decide +kernel), fun _ h => absurd h List.not_mem_nil⟩⟩⟩⟩⟩⟩⟩⟩
def mST : Term := Term.string "DutyOnLeft" 73
def gF_1 : List Cond := flatC (Jvm.Cond.and given_1 narrow_1)
theorem gv_C : gF_1[4]? = some (Cond.eq (.static "java/lang/String" "COMPACT_STRINGS" "Z") (.int 1)) := by decide +kernel
theorem gv_F : gF_1[5]? = some (Cond.isRef (.static "jdk/internal/util/Preconditions" "SIOOBE_FORMATTER" "Ljava/util/function/BiFunction;")) := by decide +kernel
theorem gv_x : gF_1[9]? = some (Cond.exactly mST "java/lang/String") := by decide +kernel
theorem gv_c : gF_1[10]? = some (Cond.eq (.field mST "java/lang/String" "coder" "B") (.int 0)) := by decide +kernel
theorem gv_a : gF_1[11]? = some (Cond.arrayOf (.field mST "java/lang/String" "value" "[B") .byte) := by decide +kernel
theorem gv_l : gF_1[12]? = some (Cond.eq (.length (.field mST "java/lang/String" "value" "[B")) (.int (Int32.ofNat ([mBy.length].getD 0 0)))) := by decide +kernel
theorem gv_e : ∀ j, j < [mBy.length].getD 0 0 → gF_1[13 + j]? = some (Cond.eq (.elem (.field mST "java/lang/String" "value" "[B") (.int (Int32.ofNat j))) (.int (([mBy].getD 0 []).getD j 0))) := by decide +kernel
theorem gv_n : [mBy.length].getD 0 0 < 2 ^ 31 := by rw [mBy_L]; have := mTx_l; omega
theorem wd_L : Cond.laysStatic "java/lang/String" "COMPACT_STRINGS" "Z" ∈ lw_tbl := List.mem_of_getElem? (i := 251) (by decide +kernel)
theorem wd_F : Cond.laysStatic "jdk/internal/util/Preconditions" "SIOOBE_FORMATTER" "Ljava/util/function/BiFunction;" ∈ lw_tbl := List.mem_of_getElem? (i := 267) (by decide +kernel)
theorem wd_I : Cond.initialized "java/lang/String" ∈ lw_tbl := List.mem_of_getElem? (i := 57) (by decide +kernel)
theorem wd_P : Cond.initialized "jdk/internal/util/Preconditions" ∈ lw_tbl := List.mem_of_getElem? (i := 59) (by decide +kernel)
theorem wd_O : Cond.arrayOver (.object "DutyOnLeft$Standing") ∈ lw_tbl := List.mem_of_getElem? (i := 145) (by decide +kernel)
theorem wd_S : Cond.stringRef RX11 mIx mTx ∈ lw_tbl := List.mem_of_getElem? (i := 241) (by decide +kernel)
set_option maxHeartbeats 4000000 in
theorem world_start {s : State} {b L : Nat} {xs : Nat → Int32} (l : Launch) (hts : ∀ w ∈ lw_tbl, w.before #[Value.ref b] s = true) (hX : va_X b L xs s s.heap) (hbl : b < s.heap.size) (hgv : (Jvm.Cond.and given_1 narrow_1).before #[Value.ref b] s = true) : ∃ X : mCx, xL X = l ∧ xB X = s.heap.size ∧ xb X = b ∧ xN X = L ∧ va_K (xD X) vwCl (mTy X) s ∧ mXF X s s.heap := by
  have hmW : ∀ w ∈ mWd, w.before #[Value.ref b] s = true := fun w hw => hts w (mWd_in hw)
  have hG : ∀ (k : Nat) (w : Cond), gF_1[k]? = some w → w.before #[Value.ref b] s = true := fun k w hw => flat_of_before _ hgv w (List.mem_of_getElem? hw)
  have hA : ∀ a : Nat, a < s.heap.size → ¬ (fun q : Nat => s.heap.size ≤ q) a := fun a ha => Nat.not_le.mpr ha
  obtain ⟨c0, j0, hKn0⟩ := u_known (C := RX1) (T := TX1) (N := 12) (n := 12) hmW u_TX1 (hmW _ in_0)
  obtain ⟨c1, j1, hKn1⟩ := u_known (C := RX3) (T := TX3) (N := 3) (n := 3) hmW u_TX3 (hmW _ in_1)
  obtain ⟨c2, j2, hKn2⟩ := u_known (C := RX4) (T := TX4) (N := 2) (n := 2) hmW u_TX4 (hmW _ in_2)
  obtain ⟨c3, j3, hKn3⟩ := u_known (C := RX5) (T := TX5) (N := 3) (n := 3) hmW u_TX5 (hmW _ in_3)
  obtain ⟨c4, j4, hKn4⟩ := u_known (C := RX6) (T := TX6) (N := 1) (n := 1) hmW u_TX6 (hmW _ in_4)
  obtain ⟨c5, j5, hKn5⟩ := u_known (C := RX8) (T := TX8) (N := 7) (n := 7) hmW u_TX8 (hmW _ in_5)
  obtain ⟨c6, j6, hKn6⟩ := u_known (C := RX9) (T := TX9) (N := 2) (n := 2) hmW u_TX9 (hmW _ in_6)
  obtain ⟨c7, j7, hKn7⟩ := u_known (C := RX11) (T := TX11) (N := 11) (n := 11) hmW u_TX11 (hmW _ in_7)
  obtain ⟨c8, j8, hKn8⟩ := u_known (C := RX12) (T := TX12) (N := 17) (n := 17) hmW u_TX12 (hmW _ in_8)
  obtain ⟨cI, kI, pI, i1, i2, i3⟩ := Cond.arrayClass_spec (hmW _ ac_i)
  obtain ⟨cC, kC, pC, n1, n2, n3⟩ := Cond.arrayClass_spec (hmW _ ac_c)
  obtain ⟨pS, cS, kS, s1, s2, s3, s4, s5⟩ := Cond.arrayOver_spec (hts _ wd_O)
  obtain ⟨adK, adV, hS, hT⟩ := vk_Sof (args := #[Value.ref b]) (s := s) (N := 1) (tm := fun _ => mST) (len := [mBy.length]) (byt := [mBy]) (A := fun q => s.heap.size ≤ q) (fun i hi => by rw [show i = 0 by omega]; exact gv_n) (fun i hi => hG 9 _ gv_x) (fun i hi => hG 10 _ gv_c) (fun i hi => hG 11 _ gv_a) (fun i hi => by rw [show i = 0 by omega]; exact hG 12 _ gv_l) (fun i hi j hj => by
    have e : i = 0 := by omega
    subst e
    exact hG (13 + j) _ (gv_e j hj)) (fun i j hi hj hij => absurd (show i = j by omega) hij) hA
  have hZ := va_Zof (A := fun q => s.heap.size ≤ q) (hts _ wd_L) (hts _ wd_I) (va_eqt (hG 4 _ gv_C)) hA
  obtain ⟨fm, hfm⟩ : ∃ fm : Nat, va_Z "jdk/internal/util/Preconditions" "SIOOBE_FORMATTER" "Ljava/util/function/BiFunction;" (match fm with | 0 => .null | k + 1 => .ref k) (fun q => s.heap.size ≤ q) s s.heap := by
    rcases va_Zqof (A := fun q => s.heap.size ≤ q) (hts _ wd_F) (hts _ wd_P) (hG 5 _ gv_F) hA with h | ⟨t, h⟩
    · exact ⟨0, h⟩
    · exact ⟨t + 1, h⟩
  refine ⟨(l, s.heap.size, ((fun k => if k = 0 then c0 else if k = 1 then c1 else if k = 2 then c2 else if k = 3 then c3 else if k = 4 then c4 else if k = 5 then c5 else if k = 6 then c6 else if k = 7 then c7 else c8), (fun k => if k = 0 then j0 else if k = 1 then j1 else if k = 2 then j2 else if k = 3 then j3 else if k = 4 then j4 else if k = 5 then j5 else if k = 6 then j6 else if k = 7 then j7 else j8)), (cI, cC, cS), (adK, fun i => if i = 0 then adV 0 else fm), (b, L, xs)), rfl, rfl, rfl, rfl, ⟨fun k q hq => ?_, fun k q hq => ?_⟩, ⟨fun i hi => ?_, hS.2⟩, vk_R.of (hts _ wd_S) (hT 0 (by decide)), hX, hbl, hZ, hfm, va_AO.of (hts _ wd_O), fun q hq => va_Nw.of rfl (hts _ (nest_in q hq))⟩
  · match k, hq with
    | 0, hq => cases hq; exact hKn0
    | 1, hq => cases hq; exact hKn1
    | 2, hq => cases hq; exact hKn2
    | 3, hq => cases hq; exact hKn3
    | 4, hq => cases hq; exact hKn4
    | 5, hq => cases hq; exact hKn5
    | 6, hq => cases hq; exact hKn6
    | 7, hq => cases hq; exact hKn7
    | 8, hq => cases hq; exact hKn8
    | k + 9, hq => exact absurd hq (by simp [vwCl])
  · match k, hq with
    | 0, hq => cases hq; exact ⟨fun n z => ⟨fun k h => (by cases h), kI, i2, pI, i3⟩, i1⟩
    | 1, hq => cases hq; exact ⟨fun n z => ⟨fun k h => (by cases h), kC, n2, pC, n3⟩, n1⟩
    | 2, hq => cases hq; exact ⟨fun n z => ⟨fun k h => (by cases h), kS, s3, pS, s4⟩, kS, pS, s3, s4, s1, s5⟩
    | k + 3, hq => exact absurd hq (by simp [mTy])
  · have e : i = 0 := by omega
    subst e
    exact hS.1 0 hi
