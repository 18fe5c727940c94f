/-! ===== the rows of the heap ===== -/
def mSg (S : mSh) (o : Nat) : Option (Nat × Nat) := match o with
  | 0 => none
  | k + 1 => S[k]?
def mFL (own : String) (idx t n j : Nat) (fin : Bool) : Prop := ∃ (C : String) (T : u_T), vwCl[t]? = some (C, T, n) ∧ j < n ∧ Cond.fieldLink own idx (T j).1 (T j).2.1 (T j).2.2.1 ∈ mWd ∧ (T j).2.2.2 = fin ∧ (T j).1 = C ∧ (∀ w ∈ u_ws C T n, w ∈ mWd)
/-- of each class in vwCl: its fields' types, by kind -/
def mTyK (t : FieldType) : Bool := match t with
  | .object _ => true
  | .array _ => true
  | _ => false
theorem mCls {t n : Nat} {C : String} {T : u_T} (h : vwCl[t]? = some (C, T, n)) : t < 9 ∧ ∃ ty : Nat → FieldType, (∀ k, k < n → parseFieldDescriptor (T k).2.2.1 = some (ty k)) ∧ (∀ a, a < n → ∀ b, b < n → a ≠ b → (T a).2.1 ≠ (T b).2.1) ∧ ∀ k, k < n → mTyK (ty k) = mRf t k ∧ (mRf t k = false → ty k = .int) := by
  have ht : t < 9 := by
    apply Decidable.byContradiction
    intro hn
    rw [List.getElem?_eq_none (by simp [vwCl]; omega)] at h
    cases h
  refine ⟨ht, ?_⟩
  match t, ht, h with
  | 0, _, h => cases h; exact ⟨tyX1, tyX1_ok, nmX1, by decide +kernel⟩
  | 1, _, h => cases h; exact ⟨tyX3, tyX3_ok, nmX3, by decide +kernel⟩
  | 2, _, h => cases h; exact ⟨tyX4, tyX4_ok, nmX4, by decide +kernel⟩
  | 3, _, h => cases h; exact ⟨tyX5, tyX5_ok, nmX5, by decide +kernel⟩
  | 4, _, h => cases h; exact ⟨tyX6, tyX6_ok, nmX6, by decide +kernel⟩
  | 5, _, h => cases h; exact ⟨tyX8, tyX8_ok, nmX8, by decide +kernel⟩
  | 6, _, h => cases h; exact ⟨tyX9, tyX9_ok, nmX9, by decide +kernel⟩
  | 7, _, h => cases h; exact ⟨tyX11, tyX11_ok, nmX11, by decide +kernel⟩
  | 8, _, h => cases h; exact ⟨tyX12, tyX12_ok, nmX12, by decide +kernel⟩
theorem mTyK_nar {t : FieldType} (h : mTyK t = true) (X : mCx) (q : Nat) : narrow t (mVr X q) = mVr X q ∧ fits t (mVr X q) = true := by
  cases t <;> simp_all [mTyK] <;> cases q <;> simp [mVr, narrow, fits]
theorem va_S.putz {A : Nat → Prop} {a i : Nat} {H0 H H1 : Heap} {locs : List Loc} (h : va_S A H0 H locs) (z : H1.size = H.size) (o : ∀ q : Nat, q ≠ a → H1[q]? = H[q]?) (ha : A a) : va_S A H0 H1 (locs ++ [⟨a, i⟩]) := h.put z o ha
section
variable {p : Program} {l : Launch} {e : Env} {R : Room} {s : State} {m : MethodId} {args : Array Value} {below : List Frame} {meth : Method} {c : Code} {H : Heap} {locs : List Loc} {cells slots : Nat} {Q : State → Prop}
variable {pc : Nat} {ls : Array Slot} {rest : List Value} {D : va_G} {cl : List vw_C} {tys : List (ClassId × FieldType)} {ws : va_W} {A : Nat → Prop} {H0 : Heap} {a : Nat} {cc : ByteArray}
/-- putfield, with the heap's size -/
theorem m_put (hexec : p.tables.exec = Jvm.exec) (hb : c.code = cc) {own C : String} {T : u_T} {N ci index : Nat} {Ts : List Cond} (hts : ∀ w ∈ Ts, w.before args s = true) (hin : ∀ w ∈ u_ws C T N, w ∈ Ts) {ty0 : Nat → FieldType} (hty : ∀ k, k < N → parseFieldDescriptor (T k).2.2.1 = some (ty0 k)) (hnm : ∀ a, a < N → ∀ b, b < N → a ≠ b → (T a).2.1 ≠ (T b).2.1) (hown : s.vm.findClass own = some m.cls) (hK : va_K D cl tys s) (hP : va_P D cl ws H) (hD : va_D A ws) (hS0 : va_S A H0 H locs) {q0 : Nat} {fs : List Value} (he : ws[q0]? = some (a, .inr (ci, fs))) (hc : cl[ci]? = some (C, T, N)) {k : Nat} (hk : k < N) (hlink : (Cond.fieldLink own index (T k).1 (T k).2.1 (T k).2.2.1).before args s = true) (hfin : (T k).2.2.2 = false) {v : Value} (hn : narrow (ty0 k) v = v) (hfit : fits (ty0 k) v = true) (hl : k < fs.length)
    (hdg : decode cc pc = .ok (.putfield index, 3)) (kk : ∀ (H1 : Heap) (locs1 : List Loc), H1.size = H.size → va_P D cl (ws.set q0 (a, .inr (ci, fs.set k v))) H1 → va_S A H0 H1 locs1 → W p l e R s m args below meth c H1 locs1 cells slots Q (F0 m (pc + 3) ls rest)) : W p l e R s m args below meth c H locs cells slots Q (F0 m pc ls (v :: .ref a :: rest)) := by
  have hap := va_apart (own := own) hts hin ty0 hty hnm hK hc
  obtain ⟨r, h1, cell, q1, q2, q3, q4⟩ := hP q0 _ he
  have hr : r = (C, T, N) := Option.some.inj (h1.symm.trans hc)
  subst hr
  obtain ⟨hS, hfc, kC, hkC, hkind⟩ := hK.1 ci _ hc
  obtain ⟨cf, kf, fi, f, hi, hsl⟩ := hS k hk
  have hlay := hts _ (hin _ (u_in_lay hk))
  unfold u_lay at hlay
  rw [if_neg (by rw [hfin]; decide)] at hlay
  refine W.putK hexec hb (f := f) ⟨hown, hlink, ⟨_, _, _, hi⟩, (u_facts hfc hkC (u_lays hts hin hk) hi).1⟩ (by rw [q2]; exact u_store hfc hkC hkind hlay hi (hty k hk) hn hfit) q1 q3 (by rw [hsl]; exact k2_hasslot (q4 k hk)) rfl rfl hdg fun H' e1 e2 e3 => ?_
  rw [hsl] at e1 ⊢
  exact kk H' _ e2 (hP.set hD he ⟨_, hc, t_OB.to (V := updV (vp_V fs) k v) ⟨_, e1, q2, q3, t_set q4 hap hk v⟩ (fun j _ => vp_updV_set hl v j)⟩ e3) (hS0.put e2 e3 (hD.2 q0 _ he))
theorem m_putF (hexec : p.tables.exec = Jvm.exec) (hb : c.code = cc) {own C : String} {T : u_T} {N ci index : Nat} {Ts : List Cond} (hts : ∀ w ∈ Ts, w.before args s = true) (hin : ∀ w ∈ u_ws C T N, w ∈ Ts) {ty0 : Nat → FieldType} (hty : ∀ k, k < N → parseFieldDescriptor (T k).2.2.1 = some (ty0 k)) (hnm : ∀ a, a < N → ∀ b, b < N → a ≠ b → (T a).2.1 ≠ (T b).2.1) (hown : s.vm.findClass own = some m.cls) (hK : va_K D cl tys s) (hP : va_P D cl ws H) (hD : va_D A ws) (hS0 : va_S A H0 H locs) {q0 : Nat} {fs : List Value} (he : ws[q0]? = some (a, .inr (ci, fs))) (hc : cl[ci]? = some (C, T, N)) {k : Nat} (hk : k < N) (hlink : (Cond.fieldLink own index (T k).1 (T k).2.1 (T k).2.2.1).before args s = true) (hfin : (T k).2.2.2 = true) (hin2 : meth.name = "<init>") (hdecl : (T k).1 = own) {v : Value} (hn : narrow (ty0 k) v = v) (hfit : fits (ty0 k) v = true) (hl : k < fs.length)
    (hdg : decode cc pc = .ok (.putfield index, 3)) (kk : ∀ (H1 : Heap) (locs1 : List Loc), H1.size = H.size → va_P D cl (ws.set q0 (a, .inr (ci, fs.set k v))) H1 → va_S A H0 H1 locs1 → W p l e R s m args below meth c H1 locs1 cells slots Q (F0 m (pc + 3) ls rest)) : W p l e R s m args below meth c H locs cells slots Q (F0 m pc ls (v :: .ref a :: rest)) := by
  have hap := va_apart (own := own) hts hin ty0 hty hnm hK hc
  obtain ⟨r, h1, cell, q1, q2, q3, q4⟩ := hP q0 _ he
  have hr : r = (C, T, N) := Option.some.inj (h1.symm.trans hc)
  subst hr
  obtain ⟨hS, hfc, kC, hkC, hkind⟩ := hK.1 ci _ hc
  obtain ⟨cf, kf, fi, f, hi, hsl⟩ := hS k hk
  have hlay := hts _ (hin _ (u_in_lay hk))
  unfold u_lay at hlay
  rw [if_pos hfin] at hlay
  have hst := (u_facts hfc hkC (u_lays hts hin hk) hi).1
  have hcf : m.cls = cf := by
    obtain ⟨_, _, c', _, _, _, -, -, hf', -, -, -, hown2, -⟩ := Cond.laysFinal_spec hlay
    have e1 : c' = cf := by have := hi.symm.trans hf'; simp at this; exact this.1.symm
    rw [hdecl] at hown2
    rw [← e1]; exact Option.some.inj (hown.symm.trans hown2)
  refine W.putFinK hexec hb hown hlink hi hst hcf hin2 (by rw [q2]; exact u_fits hfc hkC hkind (Or.inr hlay) hi (hty k hk) hn hfit) q1 q3 (by rw [hsl]; exact k2_hasslot (q4 k hk)) rfl rfl hdg fun H' e1 e2 e3 => ?_
  rw [hsl] at e1 ⊢
  exact kk H' _ e2 (hP.set hD he ⟨_, hc, t_OB.to (V := updV (vp_V fs) k v) ⟨_, e1, q2, q3, t_set q4 hap hk v⟩ (fun j _ => vp_updV_set hl v j)⟩ e3) (hS0.put e2 e3 (hD.2 q0 _ he))
theorem m_iast (hexec : p.tables.exec = Jvm.exec) (hb : c.code = cc) (hK : va_K D cl tys s) (hP : va_P D cl ws H) (hD : va_D A ws) (hS : va_S A H0 H locs) {q0 t0 : Nat} {cA : ClassId} {n : Nat} {f : Nat → Int32} (ha : ws[q0]? = some (a, .inl (cA, n, .inl f))) (ht : tys[t0]? = some (cA, .int)) {i : Int32} {x : Int32} (hin : vp_in i n) (hdg : decode cc pc = .ok (.iastore, 1))
    (kk : ∀ (H1 : Heap) (locs1 : List Loc), H1.size = H.size → va_P D cl (ws.set q0 (a, .inl (cA, n, .inl (upd f i.toNatClampNeg x)))) H1 → va_S A H0 H1 locs1 → W p l e R s m args below meth c H1 locs1 cells slots Q (F0 m (pc + 1) ls rest)) : W p l e R s m args below meth c H locs cells slots Q (F0 m pc ls (.int x :: .int i :: .ref a :: rest)) := by
  refine W.iast hexec hb (hP q0 _ ha) ((hK.2 t0 _ ht).1 n (fun j => .int (f j))) (fun q => by cases q) (by show ¬ (i < 0 ∨ (arrV _ _ _).slots.size ≤ _); rw [arrV_size]; exact hin) rfl rfl hdg fun H1 e z oq => ?_
  refine kk H1 _ z (hP.set hD ha ?_ oq) (hS.put z oq (hD.2 q0 _ ha))
  show H1[a]? = some (vp_cell _ _)
  rw [e, vp_cell_i, vp_cell_i, arrV_store]
  congr 2
  funext q
  by_cases hq : q = i.toNatClampNeg
  · subst hq; simp [updV, upd]
  · simp [updV, upd, hq]
theorem m_cast (hexec : p.tables.exec = Jvm.exec) (hb : c.code = cc) (hK : va_K D cl tys s) (hP : va_P D cl ws H) (hD : va_D A ws) (hS : va_S A H0 H locs) {q0 t0 : Nat} {cA : ClassId} {n : Nat} {f : Nat → Int32} (ha : ws[q0]? = some (a, .inl (cA, n, .inl f))) (ht : tys[t0]? = some (cA, .char)) {i : Int32} {x : Int32} (hin : vp_in i n) (hdg : decode cc pc = .ok (.castore, 1))
    (kk : ∀ (H1 : Heap) (locs1 : List Loc), H1.size = H.size → va_P D cl (ws.set q0 (a, .inl (cA, n, .inl (upd f i.toNatClampNeg (vp_nar .char x))))) H1 → va_S A H0 H1 locs1 → W p l e R s m args below meth c H1 locs1 cells slots Q (F0 m (pc + 1) ls rest)) : W p l e R s m args below meth c H locs cells slots Q (F0 m pc ls (.int x :: .int i :: .ref a :: rest)) := by
  refine W.cast hexec hb (hP q0 _ ha) ((hK.2 t0 _ ht).1 n (fun j => .int (f j))) (fun q => by cases q) (by show ¬ (i < 0 ∨ (arrV _ _ _).slots.size ≤ _); rw [arrV_size]; exact hin) rfl rfl hdg fun H1 e z oq => ?_
  refine kk H1 _ z (hP.set hD ha ?_ oq) (hS.put z oq (hD.2 q0 _ ha))
  show H1[a]? = some (vp_cell _ _)
  rw [e, vp_cell_i, vp_cell_i, arrV_store]
  congr 2
  funext q
  by_cases hq : q = i.toNatClampNeg
  · subst hq; simp [updV, upd, vp_nar]; try rfl
  · simp [updV, upd, hq]
theorem m_astq (hexec : p.tables.exec = Jvm.exec) (hb : c.code = cc) (hK : va_K D cl tys s) (hP : va_P D cl ws H) (hD : va_D A ws) (hS : va_S A H0 H locs) {q0 t0 qk ci : Nat} {cA : ClassId} {r : vw_C} {n v : Nat} {vs : List Value} {f : Nat → Option Nat} (ha : ws[q0]? = some (a, .inl (cA, n, .inr (.inr (.inr (.inr f)))))) (ht : tys[t0]? = some (cA, .object r.1)) (hv : ws[qk]? = some (v, .inr (ci, vs))) (hc : cl[ci]? = some r) {i : Int32} (hin : vp_in i n) (hdg : decode cc pc = .ok (.aastore, 1))
    (kk : ∀ (H1 : Heap) (locs1 : List Loc), H1.size = H.size → va_P D cl (ws.set q0 (a, .inl (cA, n, .inr (.inr (.inr (.inr (va_up f i.toNatClampNeg (some v)))))))) H1 → va_S A H0 H1 locs1 → W p l e R s m args below meth c H1 locs1 cells slots Q (F0 m (pc + 1) ls rest)) : W p l e R s m args below meth c H locs cells slots Q (F0 m pc ls (.ref v :: .int i :: .ref a :: rest)) := by
  have hlt : i.toNatClampNeg < n := Nat.not_le.mp fun q => hin (Or.inr q)
  have h0 : ¬ i < 0 := fun q => hin (Or.inl q)
  obtain ⟨r', hr', cellV, g1, g2, g3, -⟩ := hP qk _ hv
  have hcls := (hK.1 ci r hc).2
  obtain ⟨kA, comp, k1, k2, k3, -⟩ := (hK.2 t0 _ ht).2
  have hcomp : comp = D.1 ci := Option.some.inj (k3.symm.trans hcls.1)
  subst hcomp
  obtain ⟨kC, hkC, -⟩ := hcls.2
  refine W.aast hexec hb (hP q0 _ ha) (fun q h => by cases h) (fun h => by cases h) k1 k2 rfl hkC ⟨h0, by show _ < (arrV _ _ _).slots.size; rw [arrV_size]; exact hlt⟩ g1 (fun q h => by rw [g3] at h; cases h) (by rw [g2]; exact hkC) (by rw [g2]; exact va_assign hcls) rfl rfl hdg fun H1 e z oq => ?_
  refine kk H1 _ z (hP.set hD ha ?_ oq) (hS.put z oq (hD.2 q0 _ ha))
  show H1[a]? = some (vp_cell _ _)
  rw [e, vp_cell_q, vp_cell_q, arrV_store]
  congr 2
  funext q
  by_cases hq : q = i.toNatClampNeg
  · subst hq; simp [updV, va_up, va_rf]
  · simp [updV, va_up, hq]
end
section
variable {X : mCx} {M : mMe} {d pc : Nat} {L st : List Value} {S S' : mSh} {h h' : mHp} {r : Option Value}
theorem r_getI {idx t n j o : Nat} {fin : Bool} (hd : decode M.2.1 pc = .ok (.getfield idx, 3)) (hf : mFL M.1.cls idx t n j fin) (hs : mSg S o = some (t, n)) (hr : mRf t j = false) (K : JJ X M d (pc + 3) L (.int (h.1 o j) :: st) S h r S' h') : JJ X M d (pc) L (.ref o :: st) S h r S' h' := by
  intro hpre p e s m args below meth c R S0 Q F ret H locs cells slots ls hA hL
  cases o with
  | zero => cases hs
  | succ o =>
    obtain ⟨C, T, hc, hj, hw, -, -, hin⟩ := hf
    have hl := mSt_lt (S := S) hs
    have he : (mW X S h)[o]? = some (xB X + o, .inr (t, mFs X t n (o + 1) h)) := by rw [mW_get hl, mCell_obj hs (mCls hc).1]
    exact va_get (D := xD X) (cl := vwCl) (tys := mTy X) (Ts := mWd) F.1 F.2.1 F.2.2.2.2.2.1 hin F.2.2.2.1 F.2.2.2.2.2.2.2.2.2.2.2.1 hA.2.1 o he hc j hj (F.2.2.2.2.2.1 _ hw) (fun _ h9 => h9) (v := .int (h.1 (o + 1) j)) (by rw [mFs_get hj, hr]; rfl) hd (K hpre p e s m args below meth c R S0 Q F ret H locs cells slots ls hA hL)
theorem r_getR {idx t n j o : Nat} {fin : Bool} (hd : decode M.2.1 pc = .ok (.getfield idx, 3)) (hf : mFL M.1.cls idx t n j fin) (hs : mSg S o = some (t, n)) (hr : mRf t j = true) (K : JJ X M d (pc + 3) L (.ref (h.2 o j) :: st) S h r S' h') : JJ X M d (pc) L (.ref o :: st) S h r S' h' := by
  intro hpre p e s m args below meth c R S0 Q F ret H locs cells slots ls hA hL
  cases o with
  | zero => cases hs
  | succ o =>
    obtain ⟨C, T, hc, hj, hw, -, -, hin⟩ := hf
    have hl := mSt_lt (S := S) hs
    have he : (mW X S h)[o]? = some (xB X + o, .inr (t, mFs X t n (o + 1) h)) := by rw [mW_get hl, mCell_obj hs (mCls hc).1]
    exact va_get (D := xD X) (cl := vwCl) (tys := mTy X) (Ts := mWd) F.1 F.2.1 F.2.2.2.2.2.1 hin F.2.2.2.1 F.2.2.2.2.2.2.2.2.2.2.2.1 hA.2.1 o he hc j hj (F.2.2.2.2.2.1 _ hw) (fun _ h9 => h9) (v := mVr X (h.2 (o + 1) j)) (by rw [mFs_get hj, hr]; rfl) hd (K hpre p e s m args below meth c R S0 Q F ret H locs cells slots ls hA hL)
theorem r_putI {idx t n j o : Nat} {x : Int32} (hd : decode M.2.1 pc = .ok (.putfield idx, 3)) (hf : mFL M.1.cls idx t n j false) (hs : mSg S o = some (t, n)) (hr : mRf t j = false) (K : JJ X M d (pc + 3) L (st) S (sI h o j x) r S' h') : JJ X M d (pc) L (.int x :: .ref o :: st) S h r S' h' := by
  intro hpre p e s m args below meth c R S0 Q F ret H locs cells slots ls hA hL
  cases o with
  | zero => cases hs
  | succ o =>
    obtain ⟨C, T, hc, hj, hw, hfin, hC, hin⟩ := hf
    obtain ⟨ht, ty0, hty, hnm, hk⟩ := mCls hc
    have hl := mSt_lt (S := S) hs
    have he : (mW X S h)[o]? = some (xB X + o, .inr (t, mFs X t n (o + 1) h)) := by rw [mW_get hl, mCell_obj hs ht]
    have he1 : (mW X S h).set o (xB X + o, .inr (t, (mFs X t n (o + 1) h).set j (.int x))) = mW X S (sI h (o + 1) j x) := mW_set hl (by rw [mCell_obj hs ht, mFs_set hj (h1 := sI h (o + 1) j x) (by rw [hr]; simp [sI, sR]) (fun k hk => by simp [sI, sR, hk]) (fun k hk => by simp [sI, sR, hk])]) (fun a ha => by funext b; simp [sI, sR, ha]) (fun a ha => by funext b; simp [sI, sR, ha])
    exact m_put (D := xD X) (cl := vwCl) (tys := mTy X) (Ts := mWd) F.1 F.2.1 F.2.2.2.2.2.1 hin hty hnm F.2.2.2.1 F.2.2.2.2.2.2.2.2.2.2.2.1 hA.2.1 (mW_D X S h) hA.2.2.1 he hc hj (F.2.2.2.2.2.1 _ hw) hfin (by rw [(hk j hj).2 hr]; rfl) (by rw [(hk j hj).2 hr]; rfl) (by rw [mFs_len]; exact hj) hd (fun H1 locs1 z hP1 hS1 => K hpre p e s m args below meth c R S0 Q F ret H1 locs1 cells slots ls ⟨z.trans hA.1, by rw [← he1]; exact hP1, hS1, hA.2.2.2⟩ hL)
theorem r_putR {idx t n j o : Nat} {x : Nat} (hd : decode M.2.1 pc = .ok (.putfield idx, 3)) (hf : mFL M.1.cls idx t n j false) (hs : mSg S o = some (t, n)) (hr : mRf t j = true) (K : JJ X M d (pc + 3) L (st) S (sR h o j x) r S' h') : JJ X M d (pc) L (.ref x :: .ref o :: st) S h r S' h' := by
  intro hpre p e s m args below meth c R S0 Q F ret H locs cells slots ls hA hL
  cases o with
  | zero => cases hs
  | succ o =>
    obtain ⟨C, T, hc, hj, hw, hfin, hC, hin⟩ := hf
    obtain ⟨ht, ty0, hty, hnm, hk⟩ := mCls hc
    have hl := mSt_lt (S := S) hs
    have he : (mW X S h)[o]? = some (xB X + o, .inr (t, mFs X t n (o + 1) h)) := by rw [mW_get hl, mCell_obj hs ht]
    have he1 : (mW X S h).set o (xB X + o, .inr (t, (mFs X t n (o + 1) h).set j (mVr X x))) = mW X S (sR h (o + 1) j x) := mW_set hl (by rw [mCell_obj hs ht, mFs_set hj (h1 := sR h (o + 1) j x) (by rw [hr]; simp [sI, sR]) (fun k hk => by simp [sI, sR, hk]) (fun k hk => by simp [sI, sR, hk])]) (fun a ha => by funext b; simp [sI, sR, ha]) (fun a ha => by funext b; simp [sI, sR, ha])
    exact m_put (D := xD X) (cl := vwCl) (tys := mTy X) (Ts := mWd) F.1 F.2.1 F.2.2.2.2.2.1 hin hty hnm F.2.2.2.1 F.2.2.2.2.2.2.2.2.2.2.2.1 hA.2.1 (mW_D X S h) hA.2.2.1 he hc hj (F.2.2.2.2.2.1 _ hw) hfin (mTyK_nar ((hk j hj).1.trans hr) X x).1 (mTyK_nar ((hk j hj).1.trans hr) X x).2 (by rw [mFs_len]; exact hj) hd (fun H1 locs1 z hP1 hS1 => K hpre p e s m args below meth c R S0 Q F ret H1 locs1 cells slots ls ⟨z.trans hA.1, by rw [← he1]; exact hP1, hS1, hA.2.2.2⟩ hL)
theorem r_putF {idx t n j o : Nat} {x : Nat} (hd : decode M.2.1 pc = .ok (.putfield idx, 3)) (hf : mFL M.1.cls idx t n j true) (hs : mSg S o = some (t, n)) (hr : mRf t j = true) (hi : M.1.name = "<init>") (ho : ∀ C T, vwCl[t]? = some (C, T, n) → C = M.1.cls) (K : JJ X M d (pc + 3) L (st) S (sR h o j x) r S' h') : JJ X M d (pc) L (.ref x :: .ref o :: st) S h r S' h' := by
  intro hpre p e s m args below meth c R S0 Q F ret H locs cells slots ls hA hL
  cases o with
  | zero => cases hs
  | succ o =>
    obtain ⟨C, T, hc, hj, hw, hfin, hC, hin⟩ := hf
    obtain ⟨ht, ty0, hty, hnm, hk⟩ := mCls hc
    have hl := mSt_lt (S := S) hs
    have he : (mW X S h)[o]? = some (xB X + o, .inr (t, mFs X t n (o + 1) h)) := by rw [mW_get hl, mCell_obj hs ht]
    have he1 : (mW X S h).set o (xB X + o, .inr (t, (mFs X t n (o + 1) h).set j (mVr X x))) = mW X S (sR h (o + 1) j x) := mW_set hl (by rw [mCell_obj hs ht, mFs_set hj (h1 := sR h (o + 1) j x) (by rw [hr]; simp [sI, sR]) (fun k hk => by simp [sI, sR, hk]) (fun k hk => by simp [sI, sR, hk])]) (fun a ha => by funext b; simp [sI, sR, ha]) (fun a ha => by funext b; simp [sI, sR, ha])
    exact m_putF (D := xD X) (cl := vwCl) (tys := mTy X) (Ts := mWd) F.1 F.2.1 F.2.2.2.2.2.1 hin hty hnm F.2.2.2.1 F.2.2.2.2.2.2.2.2.2.2.2.1 hA.2.1 (mW_D X S h) hA.2.2.1 he hc hj (F.2.2.2.2.2.1 _ hw) hfin (F.2.2.2.2.1.trans hi) (hC.trans (ho C T hc)) (mTyK_nar ((hk j hj).1.trans hr) X x).1 (mTyK_nar ((hk j hj).1.trans hr) X x).2 (by rw [mFs_len]; exact hj) hd (fun H1 locs1 z hP1 hS1 => K hpre p e s m args below meth c R S0 Q F ret H1 locs1 cells slots ls ⟨z.trans hA.1, by rw [← he1]; exact hP1, hS1, hA.2.2.2⟩ hL)
theorem r_iald {n o : Nat} {i : Int32} (hd : decode M.2.1 pc = .ok (.iaload, 1)) (hs : mSg S o = some (20, n)) (hi : vp_in i n) (K : JJ X M d (pc + 1) L (.int (h.1 o i.toNatClampNeg) :: st) S h r S' h') : JJ X M d (pc) L (.int i :: .ref o :: st) S h r S' h' := by
  intro hpre p e s m args below meth c R S0 Q F ret H locs cells slots ls hA hL
  cases o with
  | zero => cases hs
  | succ o =>
    have hl := mSt_lt (S := S) hs
    exact va_iald (D := xD X) (cl := vwCl) (tys := mTy X) F.1 F.2.1 F.2.2.2.2.2.2.2.2.2.2.2.1 hA.2.1 o 0 (by rw [mW_get hl, mCell_i hs]) rfl hi hd (K hpre p e s m args below meth c R S0 Q F ret H locs cells slots ls hA hL)
theorem r_cald {n o : Nat} {i : Int32} (hd : decode M.2.1 pc = .ok (.caload, 1)) (hs : mSg S o = some (21, n)) (hi : vp_in i n) (K : JJ X M d (pc + 1) L (.int (h.1 o i.toNatClampNeg) :: st) S h r S' h') : JJ X M d (pc) L (.int i :: .ref o :: st) S h r S' h' := by
  intro hpre p e s m args below meth c R S0 Q F ret H locs cells slots ls hA hL
  cases o with
  | zero => cases hs
  | succ o =>
    have hl := mSt_lt (S := S) hs
    exact va_cald (D := xD X) (cl := vwCl) (tys := mTy X) F.1 F.2.1 F.2.2.2.2.2.2.2.2.2.2.2.1 hA.2.1 o 1 (by rw [mW_get hl, mCell_c hs]) rfl hi hd (K hpre p e s m args below meth c R S0 Q F ret H locs cells slots ls hA hL)
theorem r_aald {n o : Nat} {i : Int32} (hd : decode M.2.1 pc = .ok (.aaload, 1)) (hs : mSg S o = some (22, n)) (hi : vp_in i n) (K : JJ X M d (pc + 1) L (.ref (h.2 o i.toNatClampNeg) :: st) S h r S' h') : JJ X M d (pc) L (.int i :: .ref o :: st) S h r S' h' := by
  intro hpre p e s m args below meth c R S0 Q F ret H locs cells slots ls hA hL
  cases o with
  | zero => cases hs
  | succ o =>
    have hl := mSt_lt (S := S) hs
    refine va_aldq (D := xD X) (cl := vwCl) (tys := mTy X) F.1 F.2.1 F.2.2.2.2.2.2.2.2.2.2.2.1 hA.2.1 o 2 (by rw [mW_get hl, mCell_s hs]) rfl hi hd ?_
    rw [mOr_rf]
    exact K hpre p e s m args below meth c R S0 Q F ret H locs cells slots ls hA hL
theorem r_iast {n o : Nat} {i x : Int32} (hd : decode M.2.1 pc = .ok (.iastore, 1)) (hs : mSg S o = some (20, n)) (hi : vp_in i n) (K : JJ X M d (pc + 1) L (st) S (sI h o i.toNatClampNeg x) r S' h') : JJ X M d (pc) L (.int x :: .int i :: .ref o :: st) S h r S' h' := by
  intro hpre p e s m args below meth c R S0 Q F ret H locs cells slots ls hA hL
  cases o with
  | zero => cases hs
  | succ o =>
    have hl := mSt_lt (S := S) hs
    have he1 : (mW X S h).set o (xB X + o, .inl (xI X, n, .inl (upd (h.1 (o + 1)) i.toNatClampNeg x))) = mW X S (sI h (o + 1) i.toNatClampNeg x) := mW_set hl (by rw [mCell_i hs]; congr 4; funext q; simp [upd, sI]) (fun a ha => by funext b; simp [sI, ha]) (fun a ha => rfl)
    exact m_iast (D := xD X) (cl := vwCl) (tys := mTy X) F.1 F.2.1 F.2.2.2.2.2.2.2.2.2.2.2.1 hA.2.1 (mW_D X S h) hA.2.2.1 (t0 := 0) (by rw [mW_get hl, mCell_i hs]) rfl hi hd (fun H1 locs1 z hP1 hS1 => K hpre p e s m args below meth c R S0 Q F ret H1 locs1 cells slots ls ⟨z.trans hA.1, by rw [← he1]; exact hP1, hS1, hA.2.2.2⟩ hL)
theorem r_cast {n o : Nat} {i x : Int32} (hd : decode M.2.1 pc = .ok (.castore, 1)) (hs : mSg S o = some (21, n)) (hi : vp_in i n) (K : JJ X M d (pc + 1) L (st) S (sI h o i.toNatClampNeg (vp_nar .char x)) r S' h') : JJ X M d (pc) L (.int x :: .int i :: .ref o :: st) S h r S' h' := by
  intro hpre p e s m args below meth c R S0 Q F ret H locs cells slots ls hA hL
  cases o with
  | zero => cases hs
  | succ o =>
    have hl := mSt_lt (S := S) hs
    have he1 : (mW X S h).set o (xB X + o, .inl (xC X, n, .inl (upd (h.1 (o + 1)) i.toNatClampNeg (vp_nar .char x)))) = mW X S (sI h (o + 1) i.toNatClampNeg (vp_nar .char x)) := mW_set hl (by rw [mCell_c hs]; congr 4; funext q; simp [upd, sI]) (fun a ha => by funext b; simp [sI, ha]) (fun a ha => rfl)
    exact m_cast (D := xD X) (cl := vwCl) (tys := mTy X) F.1 F.2.1 F.2.2.2.2.2.2.2.2.2.2.2.1 hA.2.1 (mW_D X S h) hA.2.2.1 (t0 := 1) (by rw [mW_get hl, mCell_c hs]) rfl hi hd (fun H1 locs1 z hP1 hS1 => K hpre p e s m args below meth c R S0 Q F ret H1 locs1 cells slots ls ⟨z.trans hA.1, by rw [← he1]; exact hP1, hS1, hA.2.2.2⟩ hL)
theorem r_aast {n o q : Nat} {i : Int32} (hd : decode M.2.1 pc = .ok (.aastore, 1)) (hs : mSg S o = some (22, n)) (hq : mSg S q = some (5, 7)) (hi : vp_in i n) (K : JJ X M d (pc + 1) L (st) S (sR h o i.toNatClampNeg q) r S' h') : JJ X M d (pc) L (.ref q :: .int i :: .ref o :: st) S h r S' h' := by
  intro hpre p e s m args below meth c R S0 Q F ret H locs cells slots ls hA hL
  cases o with
  | zero => cases hs
  | succ o =>
    cases q with
    | zero => cases hq
    | succ q =>
      have hl := mSt_lt (S := S) hs
      have hlq := mSt_lt (S := S) hq
      have he1 : (mW X S h).set o (xB X + o, .inl (xS X, n, .inr (.inr (.inr (.inr (va_up (fun j => mOr X (h.2 (o + 1) j)) i.toNatClampNeg (some (xB X + q)))))))) = mW X S (sR h (o + 1) i.toNatClampNeg (q + 1)) := mW_set hl (by rw [mCell_s hs]; congr 7; funext j; by_cases hj : j = i.toNatClampNeg <;> simp [va_up, sR, hj, mOr]) (fun a ha => rfl) (fun a ha => by funext b; simp [sR, ha])
      exact m_astq (D := xD X) (cl := vwCl) (tys := mTy X) (r := (RX8, TX8, 7)) F.1 F.2.1 F.2.2.2.2.2.2.2.2.2.2.2.1 hA.2.1 (mW_D X S h) hA.2.2.1 (t0 := 2) (ci := 5) (by rw [mW_get hl, mCell_s hs]) rfl (by rw [mW_get hlq, mCell_obj hq (by decide)]) rfl hi hd (fun H1 locs1 z hP1 hS1 => K hpre p e s m args below meth c R S0 Q F ret H1 locs1 cells slots ls ⟨z.trans hA.1, by rw [← he1]; exact hP1, hS1, hA.2.2.2⟩ hL)
theorem r_alen_i {n o : Nat} {v : Int32} (hd : decode M.2.1 pc = .ok (.arraylength, 1)) (hs : mSg S o = some (20, n)) (hv : Int32.ofNat n = v) (K : JJ X M d (pc + 1) L (.int v :: st) S h r S' h') : JJ X M d (pc) L (.ref o :: st) S h r S' h' := by
  intro hpre p e s m args below meth c R S0 Q F ret H locs cells slots ls hA hL
  cases o with
  | zero => cases hs
  | succ o =>
    have hl := mSt_lt (S := S) hs
    exact va_alen (D := xD X) (cl := vwCl) (tys := mTy X) F.1 F.2.1 F.2.2.2.2.2.2.2.2.2.2.2.1 hA.2.1 o 0 (by rw [mW_get hl, mCell_i hs]) rfl hv hd (K hpre p e s m args below meth c R S0 Q F ret H locs cells slots ls hA hL)
theorem r_alen_c {n o : Nat} {v : Int32} (hd : decode M.2.1 pc = .ok (.arraylength, 1)) (hs : mSg S o = some (21, n)) (hv : Int32.ofNat n = v) (K : JJ X M d (pc + 1) L (.int v :: st) S h r S' h') : JJ X M d (pc) L (.ref o :: st) S h r S' h' := by
  intro hpre p e s m args below meth c R S0 Q F ret H locs cells slots ls hA hL
  cases o with
  | zero => cases hs
  | succ o =>
    have hl := mSt_lt (S := S) hs
    exact va_alen (D := xD X) (cl := vwCl) (tys := mTy X) F.1 F.2.1 F.2.2.2.2.2.2.2.2.2.2.2.1 hA.2.1 o 1 (by rw [mW_get hl, mCell_c hs]) rfl hv hd (K hpre p e s m args below meth c R S0 Q F ret H locs cells slots ls hA hL)
theorem r_alen_s {n o : Nat} {v : Int32} (hd : decode M.2.1 pc = .ok (.arraylength, 1)) (hs : mSg S o = some (22, n)) (hv : Int32.ofNat n = v) (K : JJ X M d (pc + 1) L (.int v :: st) S h r S' h') : JJ X M d (pc) L (.ref o :: st) S h r S' h' := by
  intro hpre p e s m args below meth c R S0 Q F ret H locs cells slots ls hA hL
  cases o with
  | zero => cases hs
  | succ o =>
    have hl := mSt_lt (S := S) hs
    exact va_alen (D := xD X) (cl := vwCl) (tys := mTy X) F.1 F.2.1 F.2.2.2.2.2.2.2.2.2.2.2.1 hA.2.1 o 2 (by rw [mW_get hl, mCell_s hs]) rfl hv hd (K hpre p e s m args below meth c R S0 Q F ret H locs cells slots ls hA hL)
theorem mPre_len {S0 S S' : mSh} (h1 : S0 <+: S) (h2 : S <+: S') : S0.length ≤ S.length ∧ S.length ≤ S'.length ∧ mSl S0 ≤ mSl S ∧ mSl S ≤ mSl S' := by
  obtain ⟨t1, rfl⟩ := h1
  obtain ⟨t2, rfl⟩ := h2
  simp [mSl, List.sum_append]
theorem mSl_push (S : mSh) (q : Nat × Nat) : mSl (S ++ [q]) = mSl S + q.2 := by simp [mSl, List.sum_append]
/-- behind an allocation -/
theorem mAt_push {H H1 : Heap} {s : State} {locs : List Loc} {cells slots t n : Nat} {S0 : mSh} (hA : mAt X S h S0 s H locs cells slots) {v : va_E} (z : H1.size = H.size + 1) (hk : ∀ q, q < H.size → H1[q]? = H[q]?) (hv : va_at (xD X) vwCl (H.size, v) H1) (he : v = mCell X (S ++ [(t, n)]) (sN h (S.length + 1)) S.length) (hsz : s.heap.size = xB X + S0.length) : mAt X (S ++ [(t, n)]) (sN h (S.length + 1)) S0 s H1 locs (cells + 1) (slots + n) := by
  obtain ⟨a1, a2, a3, a4, rfl, rfl⟩ := hA
  obtain ⟨b1, -, b3, -⟩ := mPre_len a4 (List.prefix_refl S)
  refine ⟨by rw [z, a1]; simp; omega, ?_, ⟨Nat.le_trans a3.1 (by omega), fun x h1 h2 => (hk x (Nat.lt_of_lt_of_le h1 a3.1)).trans (a3.2.1 x h1 h2), a3.2.2⟩, a4.trans (List.prefix_append _ _), by simp; omega, by rw [mSl_push]; show _ = mSl S + n - mSl S0; omega⟩
  rw [← mW_push (h := h) he (fun a ha => by funext b; simp [sN, ha]) (fun a ha => by funext b; simp [sN, ha])]
  refine va_P.app (a2.kept (fun k q hq => hk q.1 ((a2 k q hq).lt))) (fun k q hq => ?_)
  have hz : k < 1 := (List.getElem?_eq_some_iff.mp hq).1
  rw [show k = 0 by omega] at hq
  cases hq
  rw [← a1]
  exact hv
theorem r_new {idx t n : Nat} {C : String} (hd : decode M.2.1 pc = .ok (.new idx, 3)) (hc : ∃ T : u_T, vwCl[t]? = some (C, T, n) ∧ ∀ w ∈ u_ws C T n, w ∈ mWd) (hcl : Cond.classLink M.1.cls idx C ∈ mWd) (hinst : Cond.instantiable C n ∈ mWd) (hini : Cond.initialized C ∈ mWd) (hpre2 : S ++ [(t, n)] <+: S') (K : JJ X M d (pc + 3) L (.ref (S.length + 1) :: st) (S ++ [(t, n)]) (sN h (S.length + 1)) r S' h') : JJ X M d (pc) L (st) S h r S' h' := by
  intro hpre p e s m args below meth c R S0 Q F ret H locs cells slots ls hA hL
  obtain ⟨T, hc, hin⟩ := hc
  obtain ⟨ht, ty0, hty, hnm, hk⟩ := mCls hc
  have hKn := F.2.2.2.2.2.2.2.2.2.2.2.1.1 t _ hc
  have hts := F.2.2.2.2.2.1
  refine W.newcK F.1 F.2.1 F.2.2.2.1 (hts _ hcl) (hts _ hinst) (hts _ hini) rfl hd (by have b := mPre_len hA.2.2.2.1 (List.prefix_append S [(t, n)]); have b2 := mPre_len (hA.2.2.2.1.trans (List.prefix_append S [(t, n)])) hpre2; have b3 := mSl_push S (t, n); have g1 := F.2.2.2.2.2.2.2.2.1; have g2 := F.2.2.2.2.2.2.2.2.2.1; have g3 := hA.2.2.2.2.1; have g4 := hA.2.2.2.2.2; simp at b b2 b3; omega) (by have b := mPre_len hA.2.2.2.1 (List.prefix_append S [(t, n)]); have b2 := mPre_len (hA.2.2.2.1.trans (List.prefix_append S [(t, n)])) hpre2; have b3 := mSl_push S (t, n); have g1 := F.2.2.2.2.2.2.2.2.1; have g2 := F.2.2.2.2.2.2.2.2.2.1; have g3 := hA.2.2.2.2.1; have g4 := hA.2.2.2.2.2; simp at b b2 b3; omega) hKn.2.1 rfl fun H1 kC hkC e1 z1 o1 => ?_
  have hfs : ∀ j, j < n → defaultValue (ty0 j) = vp_V (mFs X t n (S.length + 1) (sN h (S.length + 1))) j := by
    intro j hj
    unfold vp_V
    rw [List.getD_eq_getElem?_getD, mFs_get hj]
    have h1 := (hk j hj).1
    have h2 := (hk j hj).2
    by_cases hb : mRf t j = true
    · rw [hb] at h1
      rw [if_pos hb]
      cases hty0 : ty0 j <;> simp_all [mTyK, defaultValue, mVr, sN]
    · have hb' : mRf t j = false := by simpa using hb
      rw [if_neg hb, h2 hb']
      simp [defaultValue, sN]
  have hA1 := mAt_push (t := t) (n := n) hA z1 o1 (v := .inr (t, mFs X t n (S.length + 1) (sN h (S.length + 1)))) ⟨_, hc, (u_born ty0 hts hin hKn hkC e1 hty).to hfs⟩ (by rw [mCell_obj (n := n) (S := S ++ [(t, n)]) (by simp) ht]) F.2.2.2.2.2.2.2.2.2.2.1
  have := K hpre2 p e s m args below meth c R S0 Q F ret H1 locs (cells + 1) (slots + n) ls hA1 hL
  have hz : H.size = xB X + S.length := hA.1
  show W _ _ _ _ _ _ _ _ _ _ _ _ _ _ _ (F0 m (pc + 3) ls (.ref H.size :: st.map (mEnc X)))
  rw [hz]
  exact this
theorem r_newa_i {n : Nat} {v : Int32} (hd : decode M.2.1 pc = .ok (.newarray .int, 2)) (hw : Cond.arrayClass (newarray.typeOf .int) ∈ mWd) (hn : ¬ v < 0) (hN : v.toNatClampNeg = n) (hb : n ≤ 100000) (hpre2 : S ++ [(20, n)] <+: S') (K : JJ X M d (pc + 2) L (.ref (S.length + 1) :: st) (S ++ [(20, n)]) (sN h (S.length + 1)) r S' h') : JJ X M d (pc) L (.int v :: st) S h r S' h' := by
  intro hpre p e s m args below meth c R S0 Q F ret H locs cells slots ls hA hL
  have hts := F.2.2.2.2.2.1
  refine va_newaK F.1 F.2.1 (hts _ hw) rfl hd rfl hn hN (by simp [newarray.typeOf, componentBytes]; omega) (by have b := mPre_len hA.2.2.2.1 (List.prefix_append S [(20, n)]); have b2 := mPre_len (hA.2.2.2.1.trans (List.prefix_append S [(20, n)])) hpre2; have b3 := mSl_push S (20, n); have g1 := F.2.2.2.2.2.2.2.2.1; have g2 := F.2.2.2.2.2.2.2.2.2.1; have g3 := hA.2.2.2.2.1; have g4 := hA.2.2.2.2.2; simp at b b2 b3; omega) (by have b := mPre_len hA.2.2.2.1 (List.prefix_append S [(20, n)]); have b2 := mPre_len (hA.2.2.2.1.trans (List.prefix_append S [(20, n)])) hpre2; have b3 := mSl_push S (20, n); have g1 := F.2.2.2.2.2.2.2.2.1; have g2 := F.2.2.2.2.2.2.2.2.2.1; have g3 := hA.2.2.2.2.1; have g4 := hA.2.2.2.2.2; simp at b b2 b3; omega) rfl fun H1 cA e1 z1 o1 _ hf => ?_
  have hcA : cA = xI X := Option.some.inj (hf.symm.trans (F.2.2.2.2.2.2.2.2.2.2.2.1.2 0 _ rfl).2)
  subst hcA
  have hA1 := mAt_push (t := 20) (n := n) hA z1 o1 (v := .inl (xI X, n, .inl (fun _ => 0))) e1 (by rw [mCell_i (n := n) (S := S ++ [(20, n)]) (by simp)]; congr 4; funext q; simp [sN]) F.2.2.2.2.2.2.2.2.2.2.1
  have := K hpre2 p e s m args below meth c R S0 Q F ret H1 locs (cells + 1) (slots + n) ls hA1 hL
  have hz : H.size = xB X + S.length := hA.1
  show W _ _ _ _ _ _ _ _ _ _ _ _ _ _ _ (F0 m (pc + 2) ls (.ref H.size :: st.map (mEnc X)))
  rw [hz]
  exact this
theorem r_newa_c {n : Nat} {v : Int32} (hd : decode M.2.1 pc = .ok (.newarray .char, 2)) (hw : Cond.arrayClass (newarray.typeOf .char) ∈ mWd) (hn : ¬ v < 0) (hN : v.toNatClampNeg = n) (hb : n ≤ 100000) (hpre2 : S ++ [(21, n)] <+: S') (K : JJ X M d (pc + 2) L (.ref (S.length + 1) :: st) (S ++ [(21, n)]) (sN h (S.length + 1)) r S' h') : JJ X M d (pc) L (.int v :: st) S h r S' h' := by
  intro hpre p e s m args below meth c R S0 Q F ret H locs cells slots ls hA hL
  have hts := F.2.2.2.2.2.1
  refine va_newaK F.1 F.2.1 (hts _ hw) rfl hd rfl hn hN (by simp [newarray.typeOf, componentBytes]; omega) (by have b := mPre_len hA.2.2.2.1 (List.prefix_append S [(21, n)]); have b2 := mPre_len (hA.2.2.2.1.trans (List.prefix_append S [(21, n)])) hpre2; have b3 := mSl_push S (21, n); have g1 := F.2.2.2.2.2.2.2.2.1; have g2 := F.2.2.2.2.2.2.2.2.2.1; have g3 := hA.2.2.2.2.1; have g4 := hA.2.2.2.2.2; simp at b b2 b3; omega) (by have b := mPre_len hA.2.2.2.1 (List.prefix_append S [(21, n)]); have b2 := mPre_len (hA.2.2.2.1.trans (List.prefix_append S [(21, n)])) hpre2; have b3 := mSl_push S (21, n); have g1 := F.2.2.2.2.2.2.2.2.1; have g2 := F.2.2.2.2.2.2.2.2.2.1; have g3 := hA.2.2.2.2.1; have g4 := hA.2.2.2.2.2; simp at b b2 b3; omega) rfl fun H1 cA e1 z1 o1 _ hf => ?_
  have hcA : cA = xC X := Option.some.inj (hf.symm.trans (F.2.2.2.2.2.2.2.2.2.2.2.1.2 1 _ rfl).2)
  subst hcA
  have hA1 := mAt_push (t := 21) (n := n) hA z1 o1 (v := .inl (xC X, n, .inl (fun _ => 0))) e1 (by rw [mCell_c (n := n) (S := S ++ [(21, n)]) (by simp)]; congr 4; funext q; simp [sN]) F.2.2.2.2.2.2.2.2.2.2.1
  have := K hpre2 p e s m args below meth c R S0 Q F ret H1 locs (cells + 1) (slots + n) ls hA1 hL
  have hz : H.size = xB X + S.length := hA.1
  show W _ _ _ _ _ _ _ _ _ _ _ _ _ _ _ (F0 m (pc + 2) ls (.ref H.size :: st.map (mEnc X)))
  rw [hz]
  exact this
theorem r_newa_s {idx n : Nat} {v : Int32} (hd : decode M.2.1 pc = .ok (.anewarray idx, 3)) (hw : Cond.classLink M.1.cls idx "DutyOnLeft$Standing" ∈ mWd) (hn : ¬ v < 0) (hN : v.toNatClampNeg = n) (hb : n ≤ 100000) (hpre2 : S ++ [(22, n)] <+: S') (K : JJ X M d (pc + 3) L (.ref (S.length + 1) :: st) (S ++ [(22, n)]) (sN h (S.length + 1)) r S' h') : JJ X M d (pc) L (.int v :: st) S h r S' h' := by
  intro hpre p e s m args below meth c R S0 Q F ret H locs cells slots ls hA hL
  subst hN
  have hts := F.2.2.2.2.2.1
  refine W.anew F.1 F.2.1 F.2.2.2.1 (hts _ hw) (va_AO.use F.2.2.2.2.2.2.2.2.2.2.2.2.2.2.2.2.2.2.1) rfl hd rfl hn (by omega) (by have b := mPre_len hA.2.2.2.1 (List.prefix_append S [(22, v.toNatClampNeg)]); have b2 := mPre_len (hA.2.2.2.1.trans (List.prefix_append S [(22, v.toNatClampNeg)])) hpre2; have b3 := mSl_push S (22, v.toNatClampNeg); have g1 := F.2.2.2.2.2.2.2.2.1; have g2 := F.2.2.2.2.2.2.2.2.2.1; have g3 := hA.2.2.2.2.1; have g4 := hA.2.2.2.2.2; simp at b b2 b3; omega) (by have b := mPre_len hA.2.2.2.1 (List.prefix_append S [(22, v.toNatClampNeg)]); have b2 := mPre_len (hA.2.2.2.1.trans (List.prefix_append S [(22, v.toNatClampNeg)])) hpre2; have b3 := mSl_push S (22, v.toNatClampNeg); have g1 := F.2.2.2.2.2.2.2.2.1; have g2 := F.2.2.2.2.2.2.2.2.2.1; have g3 := hA.2.2.2.2.1; have g4 := hA.2.2.2.2.2; simp at b b2 b3; omega) fun cA kA comp f1 f2 f3 f4 => ?_
  generalize hH1 : H.push ({ cls := cA, slots := Array.replicate v.toNatClampNeg .null, vm := .none } : Cell) = H1
  have z1 : H1.size = H.size + 1 := by rw [← hH1, Array.size_push]
  have e1 : H1[H.size]? = some (arrV cA v.toNatClampNeg (fun _ => .null)) := by rw [← hH1, Array.getElem?_push_size, ← arrV_new]
  have o1 : ∀ q : Nat, q < H.size → H1[q]? = H[q]? := fun q hq => by rw [← hH1, Array.getElem?_push, if_neg (Nat.ne_of_lt hq)]
  have hcA : cA = xS X := by
    obtain ⟨_, _, _, _, _, g⟩ := (F.2.2.2.2.2.2.2.2.2.2.2.1.2 2 _ rfl).2
    exact Option.some.inj (f1.symm.trans g)
  subst hcA
  have hA1 := mAt_push (t := 22) (n := v.toNatClampNeg) hA z1 o1 (v := .inl (xS X, v.toNatClampNeg, .inr (.inr (.inr (.inr (fun _ => none)))))) e1 (by rw [mCell_s (n := v.toNatClampNeg) (S := S ++ [(22, v.toNatClampNeg)]) (by simp)]; congr 7; funext q; simp [sN, mOr]) F.2.2.2.2.2.2.2.2.2.2.1
  have := K hpre2 p e s m args below meth c R S0 Q F ret H1 locs (cells + 1) (slots + v.toNatClampNeg) ls hA1 hL
  have hz : H.size = xB X + S.length := hA.1
  show W _ _ _ _ _ _ _ _ _ _ _ _ _ _ _ (F0 m (pc + 3) ls (.ref H.size :: st.map (mEnc X)))
  rw [hz]
  exact this
end
