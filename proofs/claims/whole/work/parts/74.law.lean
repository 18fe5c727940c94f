/-! ===== the law: one call of both ===== -/
section
variable {X : mCx} {M : mMe} {d pc : Nat} {L st : List Value} {S S' : mSh} {h h' : mHp} {r : Option Value}
theorem r_sld {k : Nat} (hd : decode M.2.1 pc = .ok (.iaload, 1)) (hk : k < xN X) (hN : xN X < 2 ^ 31) (K : JJ X M d (pc + 1) L (.int (xX X k) :: st) S h r S' h') : JJ X M d pc L (.int (nI k) :: .float 1 :: st) S h r S' h' := fun hpre p e s m args below meth c R S0 Q F ret H locs cells slots ls hA hL => by
  have hx := F.2.2.2.2.2.2.2.2.2.2.2.2
  have hz := F.2.2.2.2.2.2.2.2.2.2.1
  have hlt := hx.2.2.2.1
  refine va_sld F.1 F.2.1 (b := xb X) (L := xN X) (xs := xX X) hx.2.2.1 (by omega) (fun z => absurd hlt (Nat.not_lt.mpr z)) hA.2.2.1 (nI_in hk hN) hd ?_
  rw [nI_clamp (by omega)]
  exact K hpre p e s m args below meth c R S0 Q F ret H locs cells slots ls hA hL
theorem r_slen (hd : decode M.2.1 pc = .ok (.arraylength, 1)) (K : JJ X M d (pc + 1) L (.int (nI (xN X)) :: st) S h r S' h') : JJ X M d pc L (.float 1 :: st) S h r S' h' := fun hpre p e s m args below meth c R S0 Q F ret H locs cells slots ls hA hL => by
  have hx := F.2.2.2.2.2.2.2.2.2.2.2.2
  have hz := F.2.2.2.2.2.2.2.2.2.2.1
  have hlt := hx.2.2.2.1
  exact va_slen F.1 F.2.1 (b := xb X) (L := xN X) (xs := xX X) hx.2.2.1 (by omega) (fun z => absurd hlt (Nat.not_lt.mpr z)) hA.2.2.1 hd (K hpre p e s m args below meth c R S0 Q F ret H locs cells slots ls hA hL)
end
/-- the law's own method, by its name -/
def ML (nm : String) : mMe := (⟨RL, nm, "([I)Z"⟩, cL_law, 4, some .boolean)
theorem law_next (X : mCx) (D : Nat) {nm : String} {i : Nat} {h h' : mHp} (K : JJ X (ML nm) D 18 [.float 1, .ref 1, .ref 97, .int (nI (i + 5))] [] (Sg.take 108) h (some (.int 1)) (Sg.take 108) h') : JJ X (ML nm) D 937 [.float 1, .ref 1, .ref 97, .int (nI i)] [] (Sg.take 108) h (some (.int 1)) (Sg.take 108) h' := by
  refine r_iinc (L' := [_, _, _, _]) (v := nI (i + 5)) dL_law_937 rfl rfl (by rw [show Int32.ofInt 5 = nI 5 by decide, nI_add]) rfl ?_
  exact r_goto (tgt := 18) dL_law_940 (by decide) K
set_option maxHeartbeats 4000000 in
set_option maxRecDepth 100000 in
theorem lc_0 (X : mCx) (d : Nat) {nm : String} {i : Nat} {I : mI} {R : mR} (q : RR (Sg.take 108) I R) (hN : xN X ≤ 320) (hi : i + 5 ≤ xN X) : ∃ I2 R2, RR (Sg.take 108) I2 R2 ∧ ∀ h', JJ X (ML nm) (d + 13) 18 [.float 1, .ref 1, .ref 97, .int (nI (i + 5))] [] (Sg.take 108) (I2, R2) (some (.int 1)) (Sg.take 108) h' → JJ X (ML nm) (d + 13) 164 [.float 1, .ref 1, .ref 97, .int (nI i)] [] (Sg.take 108) (I, R) (some (.int 1)) (Sg.take 108) h' := by
  obtain ⟨v, I1, R1, I2, c1, c2, q2⟩ := so_write X (xX X (i + 1)) I R q
  refine ⟨I2, R1, q2, fun h' K => ?_⟩
  refine r_aload_n dL_law_164 rfl ?_
  refine r_aload_nF dL_law_165 rfl ?_
  refine r_iload_n dL_law_166 rfl ?_
  refine r_iconst dL_law_167 ic_1 ?_
  refine n_iadd dL_law_168 ?_
  refine r_sld dL_law_169 (by omega) (by omega) ?_
  refine r_V1 dL_law_170 l_L_13 k_X11_write i_X11_write (t_g (by decide) rfl) ⟨_, rfl⟩ (Nat.le_of_ble_eq_true rfl) (c1 d) (List.prefix_refl _) ?_
  refine r_aload_n dL_law_173 rfl ?_
  refine r_aload_nF dL_law_174 rfl ?_
  refine r_iload_n dL_law_175 rfl ?_
  refine r_iconst dL_law_176 ic_1 ?_
  refine n_iadd dL_law_177 ?_
  refine r_sld dL_law_178 (by omega) (by omega) ?_
  refine r_V1 dL_law_179 l_L_17 k_X12_write i_X12_write (t_g (by decide) rfl) ⟨_, rfl⟩ (Nat.le_of_ble_eq_true rfl) (c2 d) (List.prefix_refl _) ?_
  refine r_icmp_eq (tgt := 937) dL_law_182 (by decide) (fun _ => ?_) (fun z => absurd rfl z)
  exact law_next X _ K
set_option maxHeartbeats 4000000 in
set_option maxRecDepth 100000 in
theorem lc_1 (X : mCx) (d : Nat) {nm : String} {i : Nat} {I : mI} {R : mR} (q : RR (Sg.take 108) I R) (hN : xN X ≤ 320) (hi : i + 5 ≤ xN X) : ∃ I2 R2, RR (Sg.take 108) I2 R2 ∧ ∀ h', JJ X (ML nm) (d + 13) 18 [.float 1, .ref 1, .ref 97, .int (nI (i + 5))] [] (Sg.take 108) (I2, R2) (some (.int 1)) (Sg.take 108) h' → JJ X (ML nm) (d + 13) 187 [.float 1, .ref 1, .ref 97, .int (nI i)] [] (Sg.take 108) (I, R) (some (.int 1)) (Sg.take 108) h' := by
  obtain ⟨v, I1, R1, I2, c1, c2, q2⟩ := so_wipe X  I R q
  refine ⟨I2, R1, q2, fun h' K => ?_⟩
  refine r_aload_n dL_law_187 rfl ?_
  refine r_V0 dL_law_188 l_L_18 k_X11_wipe i_X11_wipe (t_g (by decide) rfl) ⟨_, rfl⟩ (Nat.le_of_ble_eq_true rfl) (c1 d) (List.prefix_refl _) ?_
  refine r_aload_n dL_law_191 rfl ?_
  refine r_V0 dL_law_192 l_L_22 k_X12_wipe i_X12_wipe (t_g (by decide) rfl) ⟨_, rfl⟩ (Nat.le_of_ble_eq_true rfl) (c2 d) (List.prefix_refl _) ?_
  refine r_icmp_eq (tgt := 937) dL_law_195 (by decide) (fun _ => ?_) (fun z => absurd rfl z)
  exact law_next X _ K
set_option maxHeartbeats 4000000 in
set_option maxRecDepth 100000 in
theorem lc_2 (X : mCx) (d : Nat) {nm : String} {i : Nat} {I : mI} {R : mR} (q : RR (Sg.take 108) I R) (hN : xN X ≤ 320) (hi : i + 5 ≤ xN X) : ∃ I2 R2, RR (Sg.take 108) I2 R2 ∧ ∀ h', JJ X (ML nm) (d + 13) 18 [.float 1, .ref 1, .ref 97, .int (nI (i + 5))] [] (Sg.take 108) (I2, R2) (some (.int 1)) (Sg.take 108) h' → JJ X (ML nm) (d + 13) 200 [.float 1, .ref 1, .ref 97, .int (nI i)] [] (Sg.take 108) (I, R) (some (.int 1)) (Sg.take 108) h' := by
  obtain ⟨v, I1, R1, I2, c1, c2, q2⟩ := so_fault X  I R q
  refine ⟨I2, R1, q2, fun h' K => ?_⟩
  refine r_aload_n dL_law_200 rfl ?_
  refine r_V0 dL_law_201 l_L_23 k_X11_fault i_X11_fault (t_g (by decide) rfl) ⟨_, rfl⟩ (Nat.le_of_ble_eq_true rfl) (c1 d) (List.prefix_refl _) ?_
  refine r_aload_n dL_law_204 rfl ?_
  refine r_V0 dL_law_205 l_L_26 k_X12_fault i_X12_fault (t_g (by decide) rfl) ⟨_, rfl⟩ (Nat.le_of_ble_eq_true rfl) (c2 d) (List.prefix_refl _) ?_
  refine r_icmp_eq (tgt := 937) dL_law_208 (by decide) (fun _ => ?_) (fun z => absurd rfl z)
  exact law_next X _ K
set_option maxHeartbeats 4000000 in
set_option maxRecDepth 100000 in
theorem lc_3 (X : mCx) (d : Nat) {nm : String} {i : Nat} {I : mI} {R : mR} (q : RR (Sg.take 108) I R) (hN : xN X ≤ 320) (hi : i + 5 ≤ xN X) : ∃ I2 R2, RR (Sg.take 108) I2 R2 ∧ ∀ h', JJ X (ML nm) (d + 13) 18 [.float 1, .ref 1, .ref 97, .int (nI (i + 5))] [] (Sg.take 108) (I2, R2) (some (.int 1)) (Sg.take 108) h' → JJ X (ML nm) (d + 13) 213 [.float 1, .ref 1, .ref 97, .int (nI i)] [] (Sg.take 108) (I, R) (some (.int 1)) (Sg.take 108) h' := by
  obtain ⟨v, I1, R1, I2, c1, c2, q2⟩ := so_lay X  I R q
  refine ⟨I2, R1, q2, fun h' K => ?_⟩
  refine r_aload_n dL_law_213 rfl ?_
  refine r_V0 dL_law_214 l_L_27 k_X11_lay i_X11_lay (t_g (by decide) rfl) ⟨_, rfl⟩ (Nat.le_of_ble_eq_true rfl) (c1 d) (List.prefix_refl _) ?_
  refine r_aload_n dL_law_217 rfl ?_
  refine r_V0 dL_law_218 l_L_30 k_X12_lay i_X12_lay (t_g (by decide) rfl) ⟨_, rfl⟩ (Nat.le_of_ble_eq_true rfl) (c2 d) (List.prefix_refl _) ?_
  refine r_icmp_eq (tgt := 937) dL_law_221 (by decide) (fun _ => ?_) (fun z => absurd rfl z)
  exact law_next X _ K
set_option maxHeartbeats 4000000 in
set_option maxRecDepth 100000 in
theorem lc_4 (X : mCx) (d : Nat) {nm : String} {i : Nat} {I : mI} {R : mR} (q : RR (Sg.take 108) I R) (hN : xN X ≤ 320) (hi : i + 5 ≤ xN X) : ∃ I2 R2, RR (Sg.take 108) I2 R2 ∧ ∀ h', JJ X (ML nm) (d + 13) 18 [.float 1, .ref 1, .ref 97, .int (nI (i + 5))] [] (Sg.take 108) (I2, R2) (some (.int 1)) (Sg.take 108) h' → JJ X (ML nm) (d + 13) 226 [.float 1, .ref 1, .ref 97, .int (nI i)] [] (Sg.take 108) (I, R) (some (.int 1)) (Sg.take 108) h' := by
  obtain ⟨v, I1, R1, I2, c1, c2, q2⟩ := so_person X (xX X (i + 1)) (xX X (i + 2)) I R q
  refine ⟨I2, R1, q2, fun h' K => ?_⟩
  refine r_aload_n dL_law_226 rfl ?_
  refine r_aload_nF dL_law_227 rfl ?_
  refine r_iload_n dL_law_228 rfl ?_
  refine r_iconst dL_law_229 ic_1 ?_
  refine n_iadd dL_law_230 ?_
  refine r_sld dL_law_231 (by omega) (by omega) ?_
  refine r_aload_nF dL_law_232 rfl ?_
  refine r_iload_n dL_law_233 rfl ?_
  refine r_iconst dL_law_234 ic_2 ?_
  refine n_iadd dL_law_235 ?_
  refine r_sld dL_law_236 (by omega) (by omega) ?_
  refine r_V2 dL_law_237 l_L_31 k_X11_person i_X11_person (t_g (by decide) rfl) ⟨_, rfl⟩ (Nat.le_of_ble_eq_true rfl) (c1 d) (List.prefix_refl _) ?_
  refine r_aload_n dL_law_240 rfl ?_
  refine r_aload_nF dL_law_241 rfl ?_
  refine r_iload_n dL_law_242 rfl ?_
  refine r_iconst dL_law_243 ic_1 ?_
  refine n_iadd dL_law_244 ?_
  refine r_sld dL_law_245 (by omega) (by omega) ?_
  refine r_aload_nF dL_law_246 rfl ?_
  refine r_iload_n dL_law_247 rfl ?_
  refine r_iconst dL_law_248 ic_2 ?_
  refine n_iadd dL_law_249 ?_
  refine r_sld dL_law_250 (by omega) (by omega) ?_
  refine r_V2 dL_law_251 l_L_35 k_X12_person i_X12_person (t_g (by decide) rfl) ⟨_, rfl⟩ (Nat.le_of_ble_eq_true rfl) (c2 d) (List.prefix_refl _) ?_
  refine r_icmp_eq (tgt := 937) dL_law_254 (by decide) (fun _ => ?_) (fun z => absurd rfl z)
  exact law_next X _ K
set_option maxHeartbeats 4000000 in
set_option maxRecDepth 100000 in
theorem lc_5 (X : mCx) (d : Nat) {nm : String} {i : Nat} {I : mI} {R : mR} (q : RR (Sg.take 108) I R) (hN : xN X ≤ 320) (hi : i + 5 ≤ xN X) : ∃ I2 R2, RR (Sg.take 108) I2 R2 ∧ ∀ h', JJ X (ML nm) (d + 13) 18 [.float 1, .ref 1, .ref 97, .int (nI (i + 5))] [] (Sg.take 108) (I2, R2) (some (.int 1)) (Sg.take 108) h' → JJ X (ML nm) (d + 13) 259 [.float 1, .ref 1, .ref 97, .int (nI i)] [] (Sg.take 108) (I, R) (some (.int 1)) (Sg.take 108) h' := by
  obtain ⟨v, I1, R1, I2, c1, c2, q2⟩ := so_good X (xX X (i + 1)) (xX X (i + 2)) I R q
  refine ⟨I2, R1, q2, fun h' K => ?_⟩
  refine r_aload_n dL_law_259 rfl ?_
  refine r_aload_nF dL_law_260 rfl ?_
  refine r_iload_n dL_law_261 rfl ?_
  refine r_iconst dL_law_262 ic_1 ?_
  refine n_iadd dL_law_263 ?_
  refine r_sld dL_law_264 (by omega) (by omega) ?_
  refine r_aload_nF dL_law_265 rfl ?_
  refine r_iload_n dL_law_266 rfl ?_
  refine r_iconst dL_law_267 ic_2 ?_
  refine n_iadd dL_law_268 ?_
  refine r_sld dL_law_269 (by omega) (by omega) ?_
  refine r_V2 dL_law_270 l_L_36 k_X11_good i_X11_good (t_g (by decide) rfl) ⟨_, rfl⟩ (Nat.le_of_ble_eq_true rfl) (c1 d) (List.prefix_refl _) ?_
  refine r_aload_n dL_law_273 rfl ?_
  refine r_aload_nF dL_law_274 rfl ?_
  refine r_iload_n dL_law_275 rfl ?_
  refine r_iconst dL_law_276 ic_1 ?_
  refine n_iadd dL_law_277 ?_
  refine r_sld dL_law_278 (by omega) (by omega) ?_
  refine r_aload_nF dL_law_279 rfl ?_
  refine r_iload_n dL_law_280 rfl ?_
  refine r_iconst dL_law_281 ic_2 ?_
  refine n_iadd dL_law_282 ?_
  refine r_sld dL_law_283 (by omega) (by omega) ?_
  refine r_V2 dL_law_284 l_L_39 k_X12_good i_X12_good (t_g (by decide) rfl) ⟨_, rfl⟩ (Nat.le_of_ble_eq_true rfl) (c2 d) (List.prefix_refl _) ?_
  refine r_icmp_eq (tgt := 937) dL_law_287 (by decide) (fun _ => ?_) (fun z => absurd rfl z)
  exact law_next X _ K
set_option maxHeartbeats 4000000 in
set_option maxRecDepth 100000 in
theorem lc_6 (X : mCx) (d : Nat) {nm : String} {i : Nat} {I : mI} {R : mR} (q : RR (Sg.take 108) I R) (hN : xN X ≤ 320) (hi : i + 5 ≤ xN X) : ∃ I2 R2, RR (Sg.take 108) I2 R2 ∧ ∀ h', JJ X (ML nm) (d + 13) 18 [.float 1, .ref 1, .ref 97, .int (nI (i + 5))] [] (Sg.take 108) (I2, R2) (some (.int 1)) (Sg.take 108) h' → JJ X (ML nm) (d + 13) 292 [.float 1, .ref 1, .ref 97, .int (nI i)] [] (Sg.take 108) (I, R) (some (.int 1)) (Sg.take 108) h' := by
  obtain ⟨v, I1, R1, I2, c1, c2, q2⟩ := so_love X (xX X (i + 1)) (xX X (i + 2)) I R q
  refine ⟨I2, R1, q2, fun h' K => ?_⟩
  refine r_aload_n dL_law_292 rfl ?_
  refine r_aload_nF dL_law_293 rfl ?_
  refine r_iload_n dL_law_294 rfl ?_
  refine r_iconst dL_law_295 ic_1 ?_
  refine n_iadd dL_law_296 ?_
  refine r_sld dL_law_297 (by omega) (by omega) ?_
  refine r_aload_nF dL_law_298 rfl ?_
  refine r_iload_n dL_law_299 rfl ?_
  refine r_iconst dL_law_300 ic_2 ?_
  refine n_iadd dL_law_301 ?_
  refine r_sld dL_law_302 (by omega) (by omega) ?_
  refine r_V2 dL_law_303 l_L_40 k_X11_love i_X11_love (t_g (by decide) rfl) ⟨_, rfl⟩ (Nat.le_of_ble_eq_true rfl) (c1 d) (List.prefix_refl _) ?_
  refine r_aload_n dL_law_306 rfl ?_
  refine r_aload_nF dL_law_307 rfl ?_
  refine r_iload_n dL_law_308 rfl ?_
  refine r_iconst dL_law_309 ic_1 ?_
  refine n_iadd dL_law_310 ?_
  refine r_sld dL_law_311 (by omega) (by omega) ?_
  refine r_aload_nF dL_law_312 rfl ?_
  refine r_iload_n dL_law_313 rfl ?_
  refine r_iconst dL_law_314 ic_2 ?_
  refine n_iadd dL_law_315 ?_
  refine r_sld dL_law_316 (by omega) (by omega) ?_
  refine r_V2 dL_law_317 l_L_43 k_X12_love i_X12_love (t_g (by decide) rfl) ⟨_, rfl⟩ (Nat.le_of_ble_eq_true rfl) (c2 d) (List.prefix_refl _) ?_
  refine r_icmp_eq (tgt := 937) dL_law_320 (by decide) (fun _ => ?_) (fun z => absurd rfl z)
  exact law_next X _ K
set_option maxHeartbeats 4000000 in
set_option maxRecDepth 100000 in
theorem lc_7 (X : mCx) (d : Nat) {nm : String} {i : Nat} {I : mI} {R : mR} (q : RR (Sg.take 108) I R) (hN : xN X ≤ 320) (hi : i + 5 ≤ xN X) : ∃ I2 R2, RR (Sg.take 108) I2 R2 ∧ ∀ h', JJ X (ML nm) (d + 13) 18 [.float 1, .ref 1, .ref 97, .int (nI (i + 5))] [] (Sg.take 108) (I2, R2) (some (.int 1)) (Sg.take 108) h' → JJ X (ML nm) (d + 13) 325 [.float 1, .ref 1, .ref 97, .int (nI i)] [] (Sg.take 108) (I, R) (some (.int 1)) (Sg.take 108) h' := by
  by_cases hz : xX X (i + 2) = 0
  · obtain ⟨v, I1, R1, I2, c1, c2, q2⟩ := so_pack0 X (xX X (i + 1)) I R q
    refine ⟨I2, R1, q2, fun h' K => ?_⟩
    refine r_aload_n dL_law_325 rfl ?_
    refine r_aload_nF dL_law_326 rfl ?_
    refine r_iload_n dL_law_327 rfl ?_
    refine r_iconst dL_law_328 ic_1 ?_
    refine n_iadd dL_law_329 ?_
    refine r_sld dL_law_330 (by omega) (by omega) ?_
    refine r_aload_nF dL_law_331 rfl ?_
    refine r_iload_n dL_law_332 rfl ?_
    refine r_iconst dL_law_333 ic_2 ?_
    refine n_iadd dL_law_334 ?_
    refine r_sld dL_law_335 (by omega) (by omega) ?_
    refine r_if_eq (tgt := 343) dL_law_336 (by decide) (fun _ => ?_) (fun z => absurd hz z)
    refine r_iconst dL_law_343 ic_0 ?_
    refine r_V2 dL_law_344 l_L_44 k_X11_pack i_X11_pack (t_g (by decide) rfl) ⟨_, rfl⟩ (Nat.le_of_ble_eq_true rfl) (c1 d) (List.prefix_refl _) ?_
    refine r_aload_n dL_law_347 rfl ?_
    refine r_aload_nF dL_law_348 rfl ?_
    refine r_iload_n dL_law_349 rfl ?_
    refine r_iconst dL_law_350 ic_1 ?_
    refine n_iadd dL_law_351 ?_
    refine r_sld dL_law_352 (by omega) (by omega) ?_
    refine r_aload_nF dL_law_353 rfl ?_
    refine r_iload_n dL_law_354 rfl ?_
    refine r_iconst dL_law_355 ic_2 ?_
    refine n_iadd dL_law_356 ?_
    refine r_sld dL_law_357 (by omega) (by omega) ?_
    refine r_if_eq (tgt := 365) dL_law_358 (by decide) (fun _ => ?_) (fun z => absurd hz z)
    refine r_iconst dL_law_365 ic_0 ?_
    refine r_V2 dL_law_366 l_L_48 k_X12_pack i_X12_pack (t_g (by decide) rfl) ⟨_, rfl⟩ (Nat.le_of_ble_eq_true rfl) (c2 d) (List.prefix_refl _) ?_
    refine r_icmp_eq (tgt := 937) dL_law_369 (by decide) (fun _ => ?_) (fun z => absurd rfl z)
    exact law_next X _ K
  · obtain ⟨v, I1, R1, I2, c1, c2, q2⟩ := so_pack1 X (xX X (i + 1)) I R q
    refine ⟨I2, R1, q2, fun h' K => ?_⟩
    refine r_aload_n dL_law_325 rfl ?_
    refine r_aload_nF dL_law_326 rfl ?_
    refine r_iload_n dL_law_327 rfl ?_
    refine r_iconst dL_law_328 ic_1 ?_
    refine n_iadd dL_law_329 ?_
    refine r_sld dL_law_330 (by omega) (by omega) ?_
    refine r_aload_nF dL_law_331 rfl ?_
    refine r_iload_n dL_law_332 rfl ?_
    refine r_iconst dL_law_333 ic_2 ?_
    refine n_iadd dL_law_334 ?_
    refine r_sld dL_law_335 (by omega) (by omega) ?_
    refine r_if_eq (tgt := 343) dL_law_336 (by decide) (fun z => absurd z hz) (fun _ => ?_)
    refine r_iconst dL_law_339 ic_1 ?_
    refine r_goto (tgt := 344) dL_law_340 (by decide) ?_
    refine r_V2 dL_law_344 l_L_44 k_X11_pack i_X11_pack (t_g (by decide) rfl) ⟨_, rfl⟩ (Nat.le_of_ble_eq_true rfl) (c1 d) (List.prefix_refl _) ?_
    refine r_aload_n dL_law_347 rfl ?_
    refine r_aload_nF dL_law_348 rfl ?_
    refine r_iload_n dL_law_349 rfl ?_
    refine r_iconst dL_law_350 ic_1 ?_
    refine n_iadd dL_law_351 ?_
    refine r_sld dL_law_352 (by omega) (by omega) ?_
    refine r_aload_nF dL_law_353 rfl ?_
    refine r_iload_n dL_law_354 rfl ?_
    refine r_iconst dL_law_355 ic_2 ?_
    refine n_iadd dL_law_356 ?_
    refine r_sld dL_law_357 (by omega) (by omega) ?_
    refine r_if_eq (tgt := 365) dL_law_358 (by decide) (fun z => absurd z hz) (fun _ => ?_)
    refine r_iconst dL_law_361 ic_1 ?_
    refine r_goto (tgt := 366) dL_law_362 (by decide) ?_
    refine r_V2 dL_law_366 l_L_48 k_X12_pack i_X12_pack (t_g (by decide) rfl) ⟨_, rfl⟩ (Nat.le_of_ble_eq_true rfl) (c2 d) (List.prefix_refl _) ?_
    refine r_icmp_eq (tgt := 937) dL_law_369 (by decide) (fun _ => ?_) (fun z => absurd rfl z)
    exact law_next X _ K
set_option maxHeartbeats 4000000 in
set_option maxRecDepth 100000 in
theorem lc_8 (X : mCx) (d : Nat) {nm : String} {i : Nat} {I : mI} {R : mR} (q : RR (Sg.take 108) I R) (hN : xN X ≤ 320) (hi : i + 5 ≤ xN X) : ∃ I2 R2, RR (Sg.take 108) I2 R2 ∧ ∀ h', JJ X (ML nm) (d + 13) 18 [.float 1, .ref 1, .ref 97, .int (nI (i + 5))] [] (Sg.take 108) (I2, R2) (some (.int 1)) (Sg.take 108) h' → JJ X (ML nm) (d + 13) 374 [.float 1, .ref 1, .ref 97, .int (nI i)] [] (Sg.take 108) (I, R) (some (.int 1)) (Sg.take 108) h' := by
  obtain ⟨v, I1, R1, I2, c1, c2, q2⟩ := so_give X (xX X (i + 1)) (xX X (i + 2)) I R q
  refine ⟨I2, R1, q2, fun h' K => ?_⟩
  refine r_aload_n dL_law_374 rfl ?_
  refine r_aload_nF dL_law_375 rfl ?_
  refine r_iload_n dL_law_376 rfl ?_
  refine r_iconst dL_law_377 ic_1 ?_
  refine n_iadd dL_law_378 ?_
  refine r_sld dL_law_379 (by omega) (by omega) ?_
  refine r_aload_nF dL_law_380 rfl ?_
  refine r_iload_n dL_law_381 rfl ?_
  refine r_iconst dL_law_382 ic_2 ?_
  refine n_iadd dL_law_383 ?_
  refine r_sld dL_law_384 (by omega) (by omega) ?_
  refine r_V2 dL_law_385 l_L_49 k_X11_give i_X11_give (t_g (by decide) rfl) ⟨_, rfl⟩ (Nat.le_of_ble_eq_true rfl) (c1 d) (List.prefix_refl _) ?_
  refine r_aload_n dL_law_388 rfl ?_
  refine r_aload_nF dL_law_389 rfl ?_
  refine r_iload_n dL_law_390 rfl ?_
  refine r_iconst dL_law_391 ic_1 ?_
  refine n_iadd dL_law_392 ?_
  refine r_sld dL_law_393 (by omega) (by omega) ?_
  refine r_aload_nF dL_law_394 rfl ?_
  refine r_iload_n dL_law_395 rfl ?_
  refine r_iconst dL_law_396 ic_2 ?_
  refine n_iadd dL_law_397 ?_
  refine r_sld dL_law_398 (by omega) (by omega) ?_
  refine r_V2 dL_law_399 l_L_52 k_X12_give i_X12_give (t_g (by decide) rfl) ⟨_, rfl⟩ (Nat.le_of_ble_eq_true rfl) (c2 d) (List.prefix_refl _) ?_
  refine r_icmp_eq (tgt := 937) dL_law_402 (by decide) (fun _ => ?_) (fun z => absurd rfl z)
  exact law_next X _ K
set_option maxHeartbeats 4000000 in
set_option maxRecDepth 100000 in
theorem lc_9 (X : mCx) (d : Nat) {nm : String} {i : Nat} {I : mI} {R : mR} (q : RR (Sg.take 108) I R) (hN : xN X ≤ 320) (hi : i + 5 ≤ xN X) : ∃ I2 R2, RR (Sg.take 108) I2 R2 ∧ ∀ h', JJ X (ML nm) (d + 13) 18 [.float 1, .ref 1, .ref 97, .int (nI (i + 5))] [] (Sg.take 108) (I2, R2) (some (.int 1)) (Sg.take 108) h' → JJ X (ML nm) (d + 13) 407 [.float 1, .ref 1, .ref 97, .int (nI i)] [] (Sg.take 108) (I, R) (some (.int 1)) (Sg.take 108) h' := by
  obtain ⟨v, I1, R1, I2, c1, c2, q2⟩ := so_leave X (xX X (i + 1)) I R q
  refine ⟨I2, R1, q2, fun h' K => ?_⟩
  refine r_aload_n dL_law_407 rfl ?_
  refine r_aload_nF dL_law_408 rfl ?_
  refine r_iload_n dL_law_409 rfl ?_
  refine r_iconst dL_law_410 ic_1 ?_
  refine n_iadd dL_law_411 ?_
  refine r_sld dL_law_412 (by omega) (by omega) ?_
  refine r_V1 dL_law_413 l_L_53 k_X11_leave i_X11_leave (t_g (by decide) rfl) ⟨_, rfl⟩ (Nat.le_of_ble_eq_true rfl) (c1 d) (List.prefix_refl _) ?_
  refine r_aload_n dL_law_416 rfl ?_
  refine r_aload_nF dL_law_417 rfl ?_
  refine r_iload_n dL_law_418 rfl ?_
  refine r_iconst dL_law_419 ic_1 ?_
  refine n_iadd dL_law_420 ?_
  refine r_sld dL_law_421 (by omega) (by omega) ?_
  refine r_V1 dL_law_422 l_L_56 k_X12_leave i_X12_leave (t_g (by decide) rfl) ⟨_, rfl⟩ (Nat.le_of_ble_eq_true rfl) (c2 d) (List.prefix_refl _) ?_
  refine r_icmp_eq (tgt := 937) dL_law_425 (by decide) (fun _ => ?_) (fun z => absurd rfl z)
  exact law_next X _ K
set_option maxHeartbeats 4000000 in
set_option maxRecDepth 100000 in
theorem lc_10 (X : mCx) (d : Nat) {nm : String} {i : Nat} {I : mI} {R : mR} (q : RR (Sg.take 108) I R) (hN : xN X ≤ 320) (hi : i + 5 ≤ xN X) : ∃ I2 R2, RR (Sg.take 108) I2 R2 ∧ ∀ h', JJ X (ML nm) (d + 13) 18 [.float 1, .ref 1, .ref 97, .int (nI (i + 5))] [] (Sg.take 108) (I2, R2) (some (.int 1)) (Sg.take 108) h' → JJ X (ML nm) (d + 13) 430 [.float 1, .ref 1, .ref 97, .int (nI i)] [] (Sg.take 108) (I, R) (some (.int 1)) (Sg.take 108) h' := by
  obtain ⟨v, I1, R1, I2, c1, c2, q2⟩ := so_leaveBoth X (xX X (i + 1)) (xX X (i + 2)) I R q
  refine ⟨I2, R1, q2, fun h' K => ?_⟩
  refine r_aload_n dL_law_430 rfl ?_
  refine r_aload_nF dL_law_431 rfl ?_
  refine r_iload_n dL_law_432 rfl ?_
  refine r_iconst dL_law_433 ic_1 ?_
  refine n_iadd dL_law_434 ?_
  refine r_sld dL_law_435 (by omega) (by omega) ?_
  refine r_aload_nF dL_law_436 rfl ?_
  refine r_iload_n dL_law_437 rfl ?_
  refine r_iconst dL_law_438 ic_2 ?_
  refine n_iadd dL_law_439 ?_
  refine r_sld dL_law_440 (by omega) (by omega) ?_
  refine r_V2 dL_law_441 l_L_57 k_X11_leaveBoth i_X11_leaveBoth (t_g (by decide) rfl) ⟨_, rfl⟩ (Nat.le_of_ble_eq_true rfl) (c1 d) (List.prefix_refl _) ?_
  refine r_aload_n dL_law_444 rfl ?_
  refine r_aload_nF dL_law_445 rfl ?_
  refine r_iload_n dL_law_446 rfl ?_
  refine r_iconst dL_law_447 ic_1 ?_
  refine n_iadd dL_law_448 ?_
  refine r_sld dL_law_449 (by omega) (by omega) ?_
  refine r_aload_nF dL_law_450 rfl ?_
  refine r_iload_n dL_law_451 rfl ?_
  refine r_iconst dL_law_452 ic_2 ?_
  refine n_iadd dL_law_453 ?_
  refine r_sld dL_law_454 (by omega) (by omega) ?_
  refine r_V2 dL_law_455 l_L_60 k_X12_leaveBoth i_X12_leaveBoth (t_g (by decide) rfl) ⟨_, rfl⟩ (Nat.le_of_ble_eq_true rfl) (c2 d) (List.prefix_refl _) ?_
  refine r_icmp_eq (tgt := 937) dL_law_458 (by decide) (fun _ => ?_) (fun z => absurd rfl z)
  exact law_next X _ K
set_option maxHeartbeats 4000000 in
set_option maxRecDepth 100000 in
theorem lc_11 (X : mCx) (d : Nat) {nm : String} {i : Nat} {I : mI} {R : mR} (q : RR (Sg.take 108) I R) (hN : xN X ≤ 320) (hi : i + 5 ≤ xN X) : ∃ I2 R2, RR (Sg.take 108) I2 R2 ∧ ∀ h', JJ X (ML nm) (d + 13) 18 [.float 1, .ref 1, .ref 97, .int (nI (i + 5))] [] (Sg.take 108) (I2, R2) (some (.int 1)) (Sg.take 108) h' → JJ X (ML nm) (d + 13) 463 [.float 1, .ref 1, .ref 97, .int (nI i)] [] (Sg.take 108) (I, R) (some (.int 1)) (Sg.take 108) h' := by
  obtain ⟨v, I1, R1, I2, c1, c2, q2⟩ := so_comeBack X (xX X (i + 1)) I R q
  refine ⟨I2, R1, q2, fun h' K => ?_⟩
  refine r_aload_n dL_law_463 rfl ?_
  refine r_aload_nF dL_law_464 rfl ?_
  refine r_iload_n dL_law_465 rfl ?_
  refine r_iconst dL_law_466 ic_1 ?_
  refine n_iadd dL_law_467 ?_
  refine r_sld dL_law_468 (by omega) (by omega) ?_
  refine r_V1 dL_law_469 l_L_61 k_X11_comeBack i_X11_comeBack (t_g (by decide) rfl) ⟨_, rfl⟩ (Nat.le_of_ble_eq_true rfl) (c1 d) (List.prefix_refl _) ?_
  refine r_aload_n dL_law_472 rfl ?_
  refine r_aload_nF dL_law_473 rfl ?_
  refine r_iload_n dL_law_474 rfl ?_
  refine r_iconst dL_law_475 ic_1 ?_
  refine n_iadd dL_law_476 ?_
  refine r_sld dL_law_477 (by omega) (by omega) ?_
  refine r_V1 dL_law_478 l_L_64 k_X12_comeBack i_X12_comeBack (t_g (by decide) rfl) ⟨_, rfl⟩ (Nat.le_of_ble_eq_true rfl) (c2 d) (List.prefix_refl _) ?_
  refine r_icmp_eq (tgt := 937) dL_law_481 (by decide) (fun _ => ?_) (fun z => absurd rfl z)
  exact law_next X _ K
set_option maxHeartbeats 4000000 in
set_option maxRecDepth 100000 in
theorem lc_12 (X : mCx) (d : Nat) {nm : String} {i : Nat} {I : mI} {R : mR} (q : RR (Sg.take 108) I R) (hN : xN X ≤ 320) (hi : i + 5 ≤ xN X) : ∃ I2 R2, RR (Sg.take 108) I2 R2 ∧ ∀ h', JJ X (ML nm) (d + 13) 18 [.float 1, .ref 1, .ref 97, .int (nI (i + 5))] [] (Sg.take 108) (I2, R2) (some (.int 1)) (Sg.take 108) h' → JJ X (ML nm) (d + 13) 486 [.float 1, .ref 1, .ref 97, .int (nI i)] [] (Sg.take 108) (I, R) (some (.int 1)) (Sg.take 108) h' := by
  obtain ⟨v, I1, R1, I2, c1, c2, q2⟩ := so_undo X  I R q
  refine ⟨I2, R1, q2, fun h' K => ?_⟩
  refine r_aload_n dL_law_486 rfl ?_
  refine r_V0 dL_law_487 l_L_65 k_X11_undo i_X11_undo (t_g (by decide) rfl) ⟨_, rfl⟩ (Nat.le_of_ble_eq_true rfl) (c1 d) (List.prefix_refl _) ?_
  refine r_aload_n dL_law_490 rfl ?_
  refine r_V0 dL_law_491 l_L_68 k_X12_undo i_X12_undo (t_g (by decide) rfl) ⟨_, rfl⟩ (Nat.le_of_ble_eq_true rfl) (c2 d) (List.prefix_refl _) ?_
  refine r_icmp_eq (tgt := 937) dL_law_494 (by decide) (fun _ => ?_) (fun z => absurd rfl z)
  exact law_next X _ K
set_option maxHeartbeats 4000000 in
set_option maxRecDepth 100000 in
theorem lc_13 (X : mCx) (d : Nat) {nm : String} {i : Nat} {I : mI} {R : mR} (q : RR (Sg.take 108) I R) (hN : xN X ≤ 320) (hi : i + 5 ≤ xN X) : ∃ I2 R2, RR (Sg.take 108) I2 R2 ∧ ∀ h', JJ X (ML nm) (d + 13) 18 [.float 1, .ref 1, .ref 97, .int (nI (i + 5))] [] (Sg.take 108) (I2, R2) (some (.int 1)) (Sg.take 108) h' → JJ X (ML nm) (d + 13) 499 [.float 1, .ref 1, .ref 97, .int (nI i)] [] (Sg.take 108) (I, R) (some (.int 1)) (Sg.take 108) h' := by
  obtain ⟨v, I1, R1, I2, c1, c2, q2⟩ := so_owes X (xX X (i + 1)) I R q
  refine ⟨I2, R1, q2, fun h' K => ?_⟩
  refine r_aload_n dL_law_499 rfl ?_
  refine r_aload_nF dL_law_500 rfl ?_
  refine r_iload_n dL_law_501 rfl ?_
  refine r_iconst dL_law_502 ic_1 ?_
  refine n_iadd dL_law_503 ?_
  refine r_sld dL_law_504 (by omega) (by omega) ?_
  refine r_V1 dL_law_505 l_L_69 k_X11_owes i_X11_owes (t_g (by decide) rfl) ⟨_, rfl⟩ (Nat.le_of_ble_eq_true rfl) (c1 d) (List.prefix_refl _) ?_
  refine r_aload_n dL_law_508 rfl ?_
  refine r_aload_nF dL_law_509 rfl ?_
  refine r_iload_n dL_law_510 rfl ?_
  refine r_iconst dL_law_511 ic_1 ?_
  refine n_iadd dL_law_512 ?_
  refine r_sld dL_law_513 (by omega) (by omega) ?_
  refine r_V1 dL_law_514 l_L_72 k_X12_owes i_X12_owes (t_g (by decide) rfl) ⟨_, rfl⟩ (Nat.le_of_ble_eq_true rfl) (c2 d) (List.prefix_refl _) ?_
  refine r_icmp_eq (tgt := 937) dL_law_517 (by decide) (fun _ => ?_) (fun z => absurd rfl z)
  exact law_next X _ K
set_option maxHeartbeats 4000000 in
set_option maxRecDepth 100000 in
theorem lc_14 (X : mCx) (d : Nat) {nm : String} {i : Nat} {I : mI} {R : mR} (q : RR (Sg.take 108) I R) (hN : xN X ≤ 320) (hi : i + 5 ≤ xN X) : ∃ I2 R2, RR (Sg.take 108) I2 R2 ∧ ∀ h', JJ X (ML nm) (d + 13) 18 [.float 1, .ref 1, .ref 97, .int (nI (i + 5))] [] (Sg.take 108) (I2, R2) (some (.int 1)) (Sg.take 108) h' → JJ X (ML nm) (d + 13) 522 [.float 1, .ref 1, .ref 97, .int (nI i)] [] (Sg.take 108) (I, R) (some (.int 1)) (Sg.take 108) h' := by
  obtain ⟨v, I1, R1, I2, c1, c2, q2⟩ := so_owesWith X (xX X (i + 1)) (xX X (i + 2)) I R q
  refine ⟨I2, R1, q2, fun h' K => ?_⟩
  refine r_aload_n dL_law_522 rfl ?_
  refine r_aload_nF dL_law_523 rfl ?_
  refine r_iload_n dL_law_524 rfl ?_
  refine r_iconst dL_law_525 ic_1 ?_
  refine n_iadd dL_law_526 ?_
  refine r_sld dL_law_527 (by omega) (by omega) ?_
  refine r_aload_nF dL_law_528 rfl ?_
  refine r_iload_n dL_law_529 rfl ?_
  refine r_iconst dL_law_530 ic_2 ?_
  refine n_iadd dL_law_531 ?_
  refine r_sld dL_law_532 (by omega) (by omega) ?_
  refine r_V2 dL_law_533 l_L_73 k_X11_owesWith i_X11_owesWith (t_g (by decide) rfl) ⟨_, rfl⟩ (Nat.le_of_ble_eq_true rfl) (c1 d) (List.prefix_refl _) ?_
  refine r_aload_n dL_law_536 rfl ?_
  refine r_aload_nF dL_law_537 rfl ?_
  refine r_iload_n dL_law_538 rfl ?_
  refine r_iconst dL_law_539 ic_1 ?_
  refine n_iadd dL_law_540 ?_
  refine r_sld dL_law_541 (by omega) (by omega) ?_
  refine r_aload_nF dL_law_542 rfl ?_
  refine r_iload_n dL_law_543 rfl ?_
  refine r_iconst dL_law_544 ic_2 ?_
  refine n_iadd dL_law_545 ?_
  refine r_sld dL_law_546 (by omega) (by omega) ?_
  refine r_V2 dL_law_547 l_L_76 k_X12_owesWith i_X12_owesWith (t_g (by decide) rfl) ⟨_, rfl⟩ (Nat.le_of_ble_eq_true rfl) (c2 d) (List.prefix_refl _) ?_
  refine r_icmp_eq (tgt := 937) dL_law_550 (by decide) (fun _ => ?_) (fun z => absurd rfl z)
  exact law_next X _ K
set_option maxHeartbeats 4000000 in
set_option maxRecDepth 100000 in
theorem lc_15 (X : mCx) (d : Nat) {nm : String} {i : Nat} {I : mI} {R : mR} (q : RR (Sg.take 108) I R) (hN : xN X ≤ 320) (hi : i + 5 ≤ xN X) : ∃ I2 R2, RR (Sg.take 108) I2 R2 ∧ ∀ h', JJ X (ML nm) (d + 13) 18 [.float 1, .ref 1, .ref 97, .int (nI (i + 5))] [] (Sg.take 108) (I2, R2) (some (.int 1)) (Sg.take 108) h' → JJ X (ML nm) (d + 13) 555 [.float 1, .ref 1, .ref 97, .int (nI i)] [] (Sg.take 108) (I, R) (some (.int 1)) (Sg.take 108) h' := by
  obtain ⟨v, I1, R1, I2, c1, c2, q2⟩ := so_packing X (xX X (i + 1)) (xX X (i + 2)) I R q
  refine ⟨I2, R1, q2, fun h' K => ?_⟩
  refine r_aload_n dL_law_555 rfl ?_
  refine r_aload_nF dL_law_556 rfl ?_
  refine r_iload_n dL_law_557 rfl ?_
  refine r_iconst dL_law_558 ic_1 ?_
  refine n_iadd dL_law_559 ?_
  refine r_sld dL_law_560 (by omega) (by omega) ?_
  refine r_aload_nF dL_law_561 rfl ?_
  refine r_iload_n dL_law_562 rfl ?_
  refine r_iconst dL_law_563 ic_2 ?_
  refine n_iadd dL_law_564 ?_
  refine r_sld dL_law_565 (by omega) (by omega) ?_
  refine r_V2 dL_law_566 l_L_77 k_X11_packing i_X11_packing (t_g (by decide) rfl) ⟨_, rfl⟩ (Nat.le_of_ble_eq_true rfl) (c1 d) (List.prefix_refl _) ?_
  refine r_aload_n dL_law_569 rfl ?_
  refine r_aload_nF dL_law_570 rfl ?_
  refine r_iload_n dL_law_571 rfl ?_
  refine r_iconst dL_law_572 ic_1 ?_
  refine n_iadd dL_law_573 ?_
  refine r_sld dL_law_574 (by omega) (by omega) ?_
  refine r_aload_nF dL_law_575 rfl ?_
  refine r_iload_n dL_law_576 rfl ?_
  refine r_iconst dL_law_577 ic_2 ?_
  refine n_iadd dL_law_578 ?_
  refine r_sld dL_law_579 (by omega) (by omega) ?_
  refine r_V2 dL_law_580 l_L_80 k_X12_packing i_X12_packing (t_g (by decide) rfl) ⟨_, rfl⟩ (Nat.le_of_ble_eq_true rfl) (c2 d) (List.prefix_refl _) ?_
  refine r_icmp_eq (tgt := 937) dL_law_583 (by decide) (fun _ => ?_) (fun z => absurd rfl z)
  exact law_next X _ K
set_option maxHeartbeats 4000000 in
set_option maxRecDepth 100000 in
theorem lc_16 (X : mCx) (d : Nat) {nm : String} {i : Nat} {I : mI} {R : mR} (q : RR (Sg.take 108) I R) (hN : xN X ≤ 320) (hi : i + 5 ≤ xN X) : ∃ I2 R2, RR (Sg.take 108) I2 R2 ∧ ∀ h', JJ X (ML nm) (d + 13) 18 [.float 1, .ref 1, .ref 97, .int (nI (i + 5))] [] (Sg.take 108) (I2, R2) (some (.int 1)) (Sg.take 108) h' → JJ X (ML nm) (d + 13) 588 [.float 1, .ref 1, .ref 97, .int (nI i)] [] (Sg.take 108) (I, R) (some (.int 1)) (Sg.take 108) h' := by
  obtain ⟨v, I1, R1, I2, c1, c2, q2⟩ := so_giving X (xX X (i + 1)) (xX X (i + 2)) I R q
  refine ⟨I2, R1, q2, fun h' K => ?_⟩
  refine r_aload_n dL_law_588 rfl ?_
  refine r_aload_nF dL_law_589 rfl ?_
  refine r_iload_n dL_law_590 rfl ?_
  refine r_iconst dL_law_591 ic_1 ?_
  refine n_iadd dL_law_592 ?_
  refine r_sld dL_law_593 (by omega) (by omega) ?_
  refine r_aload_nF dL_law_594 rfl ?_
  refine r_iload_n dL_law_595 rfl ?_
  refine r_iconst dL_law_596 ic_2 ?_
  refine n_iadd dL_law_597 ?_
  refine r_sld dL_law_598 (by omega) (by omega) ?_
  refine r_V2 dL_law_599 l_L_81 k_X11_giving i_X11_giving (t_g (by decide) rfl) ⟨_, rfl⟩ (Nat.le_of_ble_eq_true rfl) (c1 d) (List.prefix_refl _) ?_
  refine r_aload_n dL_law_602 rfl ?_
  refine r_aload_nF dL_law_603 rfl ?_
  refine r_iload_n dL_law_604 rfl ?_
  refine r_iconst dL_law_605 ic_1 ?_
  refine n_iadd dL_law_606 ?_
  refine r_sld dL_law_607 (by omega) (by omega) ?_
  refine r_aload_nF dL_law_608 rfl ?_
  refine r_iload_n dL_law_609 rfl ?_
  refine r_iconst dL_law_610 ic_2 ?_
  refine n_iadd dL_law_611 ?_
  refine r_sld dL_law_612 (by omega) (by omega) ?_
  refine r_V2 dL_law_613 l_L_84 k_X12_giving i_X12_giving (t_g (by decide) rfl) ⟨_, rfl⟩ (Nat.le_of_ble_eq_true rfl) (c2 d) (List.prefix_refl _) ?_
  refine r_icmp_eq (tgt := 937) dL_law_616 (by decide) (fun _ => ?_) (fun z => absurd rfl z)
  exact law_next X _ K
set_option maxHeartbeats 4000000 in
set_option maxRecDepth 100000 in
theorem lc_17 (X : mCx) (d : Nat) {nm : String} {i : Nat} {I : mI} {R : mR} (q : RR (Sg.take 108) I R) (hN : xN X ≤ 320) (hi : i + 5 ≤ xN X) : ∃ I2 R2, RR (Sg.take 108) I2 R2 ∧ ∀ h', JJ X (ML nm) (d + 13) 18 [.float 1, .ref 1, .ref 97, .int (nI (i + 5))] [] (Sg.take 108) (I2, R2) (some (.int 1)) (Sg.take 108) h' → JJ X (ML nm) (d + 13) 621 [.float 1, .ref 1, .ref 97, .int (nI i)] [] (Sg.take 108) (I, R) (some (.int 1)) (Sg.take 108) h' := by
  obtain ⟨v, I1, R1, I2, c1, c2, q2⟩ := so_order X (xX X (i + 1)) I R q
  refine ⟨I2, R1, q2, fun h' K => ?_⟩
  refine r_aload_n dL_law_621 rfl ?_
  refine r_aload_nF dL_law_622 rfl ?_
  refine r_iload_n dL_law_623 rfl ?_
  refine r_iconst dL_law_624 ic_1 ?_
  refine n_iadd dL_law_625 ?_
  refine r_sld dL_law_626 (by omega) (by omega) ?_
  refine r_V1 dL_law_627 l_L_85 k_X11_order i_X11_order (t_g (by decide) rfl) ⟨_, rfl⟩ (Nat.le_of_ble_eq_true rfl) (c1 d) (List.prefix_refl _) ?_
  refine r_aload_n dL_law_630 rfl ?_
  refine r_aload_nF dL_law_631 rfl ?_
  refine r_iload_n dL_law_632 rfl ?_
  refine r_iconst dL_law_633 ic_1 ?_
  refine n_iadd dL_law_634 ?_
  refine r_sld dL_law_635 (by omega) (by omega) ?_
  refine r_V1 dL_law_636 l_L_88 k_X12_order i_X12_order (t_g (by decide) rfl) ⟨_, rfl⟩ (Nat.le_of_ble_eq_true rfl) (c2 d) (List.prefix_refl _) ?_
  refine r_icmp_eq (tgt := 937) dL_law_639 (by decide) (fun _ => ?_) (fun z => absurd rfl z)
  exact law_next X _ K
set_option maxHeartbeats 4000000 in
set_option maxRecDepth 100000 in
theorem lc_18 (X : mCx) (d : Nat) {nm : String} {i : Nat} {I : mI} {R : mR} (q : RR (Sg.take 108) I R) (hN : xN X ≤ 320) (hi : i + 5 ≤ xN X) : ∃ I2 R2, RR (Sg.take 108) I2 R2 ∧ ∀ h', JJ X (ML nm) (d + 13) 18 [.float 1, .ref 1, .ref 97, .int (nI (i + 5))] [] (Sg.take 108) (I2, R2) (some (.int 1)) (Sg.take 108) h' → JJ X (ML nm) (d + 13) 644 [.float 1, .ref 1, .ref 97, .int (nI i)] [] (Sg.take 108) (I, R) (some (.int 1)) (Sg.take 108) h' := by
  obtain ⟨v, I1, R1, I2, c1, c2, q2⟩ := so_stuck X  I R q
  refine ⟨I2, R1, q2, fun h' K => ?_⟩
  refine r_aload_n dL_law_644 rfl ?_
  refine r_V0 dL_law_645 l_L_89 k_X11_stuck i_X11_stuck (t_g (by decide) rfl) ⟨_, rfl⟩ (Nat.le_of_ble_eq_true rfl) (c1 d) (List.prefix_refl _) ?_
  refine r_aload_n dL_law_648 rfl ?_
  refine r_V0 dL_law_649 l_L_92 k_X12_stuck i_X12_stuck (t_g (by decide) rfl) ⟨_, rfl⟩ (Nat.le_of_ble_eq_true rfl) (c2 d) (List.prefix_refl _) ?_
  refine r_icmp_eq (tgt := 937) dL_law_652 (by decide) (fun _ => ?_) (fun z => absurd rfl z)
  exact law_next X _ K
set_option maxHeartbeats 4000000 in
set_option maxRecDepth 100000 in
theorem lc_19 (X : mCx) (d : Nat) {nm : String} {i : Nat} {I : mI} {R : mR} (q : RR (Sg.take 108) I R) (hN : xN X ≤ 320) (hi : i + 5 ≤ xN X) : ∃ I2 R2, RR (Sg.take 108) I2 R2 ∧ ∀ h', JJ X (ML nm) (d + 13) 18 [.float 1, .ref 1, .ref 97, .int (nI (i + 5))] [] (Sg.take 108) (I2, R2) (some (.int 1)) (Sg.take 108) h' → JJ X (ML nm) (d + 13) 657 [.float 1, .ref 1, .ref 97, .int (nI i)] [] (Sg.take 108) (I, R) (some (.int 1)) (Sg.take 108) h' := by
  obtain ⟨v, I1, R1, I2, c1, c2, q2⟩ := so_swear X (xX X (i + 1)) (xX X (i + 2)) I R q
  refine ⟨I2, R1, q2, fun h' K => ?_⟩
  refine r_aload_n dL_law_657 rfl ?_
  refine r_aload_nF dL_law_658 rfl ?_
  refine r_iload_n dL_law_659 rfl ?_
  refine r_iconst dL_law_660 ic_1 ?_
  refine n_iadd dL_law_661 ?_
  refine r_sld dL_law_662 (by omega) (by omega) ?_
  refine r_aload_nF dL_law_663 rfl ?_
  refine r_iload_n dL_law_664 rfl ?_
  refine r_iconst dL_law_665 ic_2 ?_
  refine n_iadd dL_law_666 ?_
  refine r_sld dL_law_667 (by omega) (by omega) ?_
  refine r_V2 dL_law_668 l_L_93 k_X11_swear i_X11_swear (t_g (by decide) rfl) ⟨_, rfl⟩ (Nat.le_of_ble_eq_true rfl) (c1 d) (List.prefix_refl _) ?_
  refine r_aload_n dL_law_671 rfl ?_
  refine r_aload_nF dL_law_672 rfl ?_
  refine r_iload_n dL_law_673 rfl ?_
  refine r_iconst dL_law_674 ic_1 ?_
  refine n_iadd dL_law_675 ?_
  refine r_sld dL_law_676 (by omega) (by omega) ?_
  refine r_aload_nF dL_law_677 rfl ?_
  refine r_iload_n dL_law_678 rfl ?_
  refine r_iconst dL_law_679 ic_2 ?_
  refine n_iadd dL_law_680 ?_
  refine r_sld dL_law_681 (by omega) (by omega) ?_
  refine r_V2 dL_law_682 l_L_96 k_X12_swear i_X12_swear (t_g (by decide) rfl) ⟨_, rfl⟩ (Nat.le_of_ble_eq_true rfl) (c2 d) (List.prefix_refl _) ?_
  refine r_icmp_eq (tgt := 937) dL_law_685 (by decide) (fun _ => ?_) (fun z => absurd rfl z)
  exact law_next X _ K
set_option maxHeartbeats 4000000 in
set_option maxRecDepth 100000 in
theorem lc_20 (X : mCx) (d : Nat) {nm : String} {i : Nat} {I : mI} {R : mR} (q : RR (Sg.take 108) I R) (hN : xN X ≤ 320) (hi : i + 5 ≤ xN X) : ∃ I2 R2, RR (Sg.take 108) I2 R2 ∧ ∀ h', JJ X (ML nm) (d + 13) 18 [.float 1, .ref 1, .ref 97, .int (nI (i + 5))] [] (Sg.take 108) (I2, R2) (some (.int 1)) (Sg.take 108) h' → JJ X (ML nm) (d + 13) 690 [.float 1, .ref 1, .ref 97, .int (nI i)] [] (Sg.take 108) (I, R) (some (.int 1)) (Sg.take 108) h' := by
  obtain ⟨v, I1, R1, I2, c1, c2, q2⟩ := so_forget X  I R q
  refine ⟨I2, R1, q2, fun h' K => ?_⟩
  refine r_aload_n dL_law_690 rfl ?_
  refine r_V0 dL_law_691 l_L_97 k_X11_forget i_X11_forget (t_g (by decide) rfl) ⟨_, rfl⟩ (Nat.le_of_ble_eq_true rfl) (c1 d) (List.prefix_refl _) ?_
  refine r_aload_n dL_law_694 rfl ?_
  refine r_V0 dL_law_695 l_L_100 k_X12_forget i_X12_forget (t_g (by decide) rfl) ⟨_, rfl⟩ (Nat.le_of_ble_eq_true rfl) (c2 d) (List.prefix_refl _) ?_
  refine r_icmp_eq (tgt := 937) dL_law_698 (by decide) (fun _ => ?_) (fun z => absurd rfl z)
  exact law_next X _ K
set_option maxHeartbeats 4000000 in
set_option maxRecDepth 100000 in
theorem lc_21 (X : mCx) (d : Nat) {nm : String} {i : Nat} {I : mI} {R : mR} (q : RR (Sg.take 108) I R) (hN : xN X ≤ 320) (hi : i + 5 ≤ xN X) : ∃ I2 R2, RR (Sg.take 108) I2 R2 ∧ ∀ h', JJ X (ML nm) (d + 13) 18 [.float 1, .ref 1, .ref 97, .int (nI (i + 5))] [] (Sg.take 108) (I2, R2) (some (.int 1)) (Sg.take 108) h' → JJ X (ML nm) (d + 13) 703 [.float 1, .ref 1, .ref 97, .int (nI i)] [] (Sg.take 108) (I, R) (some (.int 1)) (Sg.take 108) h' := by
  obtain ⟨v, I1, R1, I2, c1, c2, q2⟩ := so_isFalse X (xX X (i + 1)) I R q
  refine ⟨I2, R1, q2, fun h' K => ?_⟩
  refine r_aload_n dL_law_703 rfl ?_
  refine r_aload_nF dL_law_704 rfl ?_
  refine r_iload_n dL_law_705 rfl ?_
  refine r_iconst dL_law_706 ic_1 ?_
  refine n_iadd dL_law_707 ?_
  refine r_sld dL_law_708 (by omega) (by omega) ?_
  refine r_V1 dL_law_709 l_L_101 k_X11_isFalse i_X11_isFalse (t_g (by decide) rfl) ⟨_, rfl⟩ (Nat.le_of_ble_eq_true rfl) (c1 d) (List.prefix_refl _) ?_
  refine r_aload_n dL_law_712 rfl ?_
  refine r_aload_nF dL_law_713 rfl ?_
  refine r_iload_n dL_law_714 rfl ?_
  refine r_iconst dL_law_715 ic_1 ?_
  refine n_iadd dL_law_716 ?_
  refine r_sld dL_law_717 (by omega) (by omega) ?_
  refine r_V1 dL_law_718 l_L_104 k_X12_isFalse i_X12_isFalse (t_g (by decide) rfl) ⟨_, rfl⟩ (Nat.le_of_ble_eq_true rfl) (c2 d) (List.prefix_refl _) ?_
  refine r_icmp_eq (tgt := 937) dL_law_721 (by decide) (fun _ => ?_) (fun z => absurd rfl z)
  exact law_next X _ K
set_option maxHeartbeats 4000000 in
set_option maxRecDepth 100000 in
theorem lc_22 (X : mCx) (d : Nat) {nm : String} {i : Nat} {I : mI} {R : mR} (q : RR (Sg.take 108) I R) (hN : xN X ≤ 320) (hi : i + 5 ≤ xN X) : ∃ I2 R2, RR (Sg.take 108) I2 R2 ∧ ∀ h', JJ X (ML nm) (d + 13) 18 [.float 1, .ref 1, .ref 97, .int (nI (i + 5))] [] (Sg.take 108) (I2, R2) (some (.int 1)) (Sg.take 108) h' → JJ X (ML nm) (d + 13) 726 [.float 1, .ref 1, .ref 97, .int (nI i)] [] (Sg.take 108) (I, R) (some (.int 1)) (Sg.take 108) h' := by
  obtain ⟨v, I1, R1, I2, c1, c2, q2⟩ := so_loved X (xX X (i + 1)) (xX X (i + 2)) (xX X (i + 3)) I R q
  refine ⟨I2, R1, q2, fun h' K => ?_⟩
  refine r_aload_n dL_law_726 rfl ?_
  refine r_aload_nF dL_law_727 rfl ?_
  refine r_iload_n dL_law_728 rfl ?_
  refine r_iconst dL_law_729 ic_1 ?_
  refine n_iadd dL_law_730 ?_
  refine r_sld dL_law_731 (by omega) (by omega) ?_
  refine r_aload_nF dL_law_732 rfl ?_
  refine r_iload_n dL_law_733 rfl ?_
  refine r_iconst dL_law_734 ic_2 ?_
  refine n_iadd dL_law_735 ?_
  refine r_sld dL_law_736 (by omega) (by omega) ?_
  refine r_aload_nF dL_law_737 rfl ?_
  refine r_iload_n dL_law_738 rfl ?_
  refine r_iconst dL_law_739 ic_3 ?_
  refine n_iadd dL_law_740 ?_
  refine r_sld dL_law_741 (by omega) (by omega) ?_
  refine r_V3 dL_law_742 l_L_105 k_X11_loved i_X11_loved (t_g (by decide) rfl) ⟨_, rfl⟩ (Nat.le_of_ble_eq_true rfl) (c1 d) (List.prefix_refl _) ?_
  refine r_aload_n dL_law_745 rfl ?_
  refine r_aload_nF dL_law_746 rfl ?_
  refine r_iload_n dL_law_747 rfl ?_
  refine r_iconst dL_law_748 ic_1 ?_
  refine n_iadd dL_law_749 ?_
  refine r_sld dL_law_750 (by omega) (by omega) ?_
  refine r_aload_nF dL_law_751 rfl ?_
  refine r_iload_n dL_law_752 rfl ?_
  refine r_iconst dL_law_753 ic_2 ?_
  refine n_iadd dL_law_754 ?_
  refine r_sld dL_law_755 (by omega) (by omega) ?_
  refine r_aload_nF dL_law_756 rfl ?_
  refine r_iload_n dL_law_757 rfl ?_
  refine r_iconst dL_law_758 ic_3 ?_
  refine n_iadd dL_law_759 ?_
  refine r_sld dL_law_760 (by omega) (by omega) ?_
  refine r_V3 dL_law_761 l_L_109 k_X12_loved i_X12_loved (t_g (by decide) rfl) ⟨_, rfl⟩ (Nat.le_of_ble_eq_true rfl) (c2 d) (List.prefix_refl _) ?_
  refine r_icmp_eq (tgt := 937) dL_law_764 (by decide) (fun _ => ?_) (fun z => absurd rfl z)
  exact law_next X _ K
set_option maxHeartbeats 4000000 in
set_option maxRecDepth 100000 in
theorem lc_23 (X : mCx) (d : Nat) {nm : String} {i : Nat} {I : mI} {R : mR} (q : RR (Sg.take 108) I R) (hN : xN X ≤ 320) (hi : i + 5 ≤ xN X) : ∃ I2 R2, RR (Sg.take 108) I2 R2 ∧ ∀ h', JJ X (ML nm) (d + 13) 18 [.float 1, .ref 1, .ref 97, .int (nI (i + 5))] [] (Sg.take 108) (I2, R2) (some (.int 1)) (Sg.take 108) h' → JJ X (ML nm) (d + 13) 769 [.float 1, .ref 1, .ref 97, .int (nI i)] [] (Sg.take 108) (I, R) (some (.int 1)) (Sg.take 108) h' := by
  obtain ⟨v, I1, R1, I2, c1, c2, q2⟩ := so_byTurns X (xX X (i + 1)) (xX X (i + 2)) (xX X (i + 3)) (xX X (i + 4)) I R q
  refine ⟨I2, R1, q2, fun h' K => ?_⟩
  refine r_aload_n dL_law_769 rfl ?_
  refine r_aload_nF dL_law_770 rfl ?_
  refine r_iload_n dL_law_771 rfl ?_
  refine r_iconst dL_law_772 ic_1 ?_
  refine n_iadd dL_law_773 ?_
  refine r_sld dL_law_774 (by omega) (by omega) ?_
  refine r_aload_nF dL_law_775 rfl ?_
  refine r_iload_n dL_law_776 rfl ?_
  refine r_iconst dL_law_777 ic_2 ?_
  refine n_iadd dL_law_778 ?_
  refine r_sld dL_law_779 (by omega) (by omega) ?_
  refine r_aload_nF dL_law_780 rfl ?_
  refine r_iload_n dL_law_781 rfl ?_
  refine r_iconst dL_law_782 ic_3 ?_
  refine n_iadd dL_law_783 ?_
  refine r_sld dL_law_784 (by omega) (by omega) ?_
  refine r_aload_nF dL_law_785 rfl ?_
  refine r_iload_n dL_law_786 rfl ?_
  refine r_iconst dL_law_787 ic_4 ?_
  refine n_iadd dL_law_788 ?_
  refine r_sld dL_law_789 (by omega) (by omega) ?_
  refine r_V4 dL_law_790 l_L_110 k_X11_byTurns i_X11_byTurns (t_g (by decide) rfl) ⟨_, rfl⟩ (Nat.le_of_ble_eq_true rfl) (c1 d) (List.prefix_refl _) ?_
  refine r_aload_n dL_law_793 rfl ?_
  refine r_aload_nF dL_law_794 rfl ?_
  refine r_iload_n dL_law_795 rfl ?_
  refine r_iconst dL_law_796 ic_1 ?_
  refine n_iadd dL_law_797 ?_
  refine r_sld dL_law_798 (by omega) (by omega) ?_
  refine r_aload_nF dL_law_799 rfl ?_
  refine r_iload_n dL_law_800 rfl ?_
  refine r_iconst dL_law_801 ic_2 ?_
  refine n_iadd dL_law_802 ?_
  refine r_sld dL_law_803 (by omega) (by omega) ?_
  refine r_aload_nF dL_law_804 rfl ?_
  refine r_iload_n dL_law_805 rfl ?_
  refine r_iconst dL_law_806 ic_3 ?_
  refine n_iadd dL_law_807 ?_
  refine r_sld dL_law_808 (by omega) (by omega) ?_
  refine r_aload_nF dL_law_809 rfl ?_
  refine r_iload_n dL_law_810 rfl ?_
  refine r_iconst dL_law_811 ic_4 ?_
  refine n_iadd dL_law_812 ?_
  refine r_sld dL_law_813 (by omega) (by omega) ?_
  refine r_V4 dL_law_814 l_L_114 k_X12_byTurns i_X12_byTurns (t_g (by decide) rfl) ⟨_, rfl⟩ (Nat.le_of_ble_eq_true rfl) (c2 d) (List.prefix_refl _) ?_
  refine r_icmp_eq (tgt := 937) dL_law_817 (by decide) (fun _ => ?_) (fun z => absurd rfl z)
  exact law_next X _ K
set_option maxHeartbeats 4000000 in
set_option maxRecDepth 100000 in
theorem lc_24 (X : mCx) (d : Nat) {nm : String} {i : Nat} {I : mI} {R : mR} (q : RR (Sg.take 108) I R) (hN : xN X ≤ 320) (hi : i + 5 ≤ xN X) : ∃ I2 R2, RR (Sg.take 108) I2 R2 ∧ ∀ h', JJ X (ML nm) (d + 13) 18 [.float 1, .ref 1, .ref 97, .int (nI (i + 5))] [] (Sg.take 108) (I2, R2) (some (.int 1)) (Sg.take 108) h' → JJ X (ML nm) (d + 13) 822 [.float 1, .ref 1, .ref 97, .int (nI i)] [] (Sg.take 108) (I, R) (some (.int 1)) (Sg.take 108) h' := by
  obtain ⟨v, I1, R1, I2, c1, c2, q2⟩ := so_chairs X (xX X (i + 1)) I R q
  refine ⟨I2, R1, q2, fun h' K => ?_⟩
  refine r_aload_n dL_law_822 rfl ?_
  refine r_aload_nF dL_law_823 rfl ?_
  refine r_iload_n dL_law_824 rfl ?_
  refine r_iconst dL_law_825 ic_1 ?_
  refine n_iadd dL_law_826 ?_
  refine r_sld dL_law_827 (by omega) (by omega) ?_
  refine r_V1 dL_law_828 l_L_115 k_X11_chairs i_X11_chairs (t_g (by decide) rfl) ⟨_, rfl⟩ (Nat.le_of_ble_eq_true rfl) (c1 d) (List.prefix_refl _) ?_
  refine r_aload_n dL_law_831 rfl ?_
  refine r_aload_nF dL_law_832 rfl ?_
  refine r_iload_n dL_law_833 rfl ?_
  refine r_iconst dL_law_834 ic_1 ?_
  refine n_iadd dL_law_835 ?_
  refine r_sld dL_law_836 (by omega) (by omega) ?_
  refine r_V1 dL_law_837 l_L_118 k_X12_chairs i_X12_chairs (t_g (by decide) rfl) ⟨_, rfl⟩ (Nat.le_of_ble_eq_true rfl) (c2 d) (List.prefix_refl _) ?_
  refine r_icmp_eq (tgt := 937) dL_law_840 (by decide) (fun _ => ?_) (fun z => absurd rfl z)
  exact law_next X _ K
set_option maxHeartbeats 4000000 in
set_option maxRecDepth 100000 in
theorem lc_25 (X : mCx) (d : Nat) {nm : String} {i : Nat} {I : mI} {R : mR} (q : RR (Sg.take 108) I R) (hN : xN X ≤ 320) (hi : i + 5 ≤ xN X) : ∃ I2 R2, RR (Sg.take 108) I2 R2 ∧ ∀ h', JJ X (ML nm) (d + 13) 18 [.float 1, .ref 1, .ref 97, .int (nI (i + 5))] [] (Sg.take 108) (I2, R2) (some (.int 1)) (Sg.take 108) h' → JJ X (ML nm) (d + 13) 845 [.float 1, .ref 1, .ref 97, .int (nI i)] [] (Sg.take 108) (I, R) (some (.int 1)) (Sg.take 108) h' := by
  obtain ⟨v, I1, R1, I2, c1, c2, q2⟩ := so_year X (xX X (i + 1)) (xX X (i + 2)) (xX X (i + 3)) I R q
  refine ⟨I2, R1, q2, fun h' K => ?_⟩
  refine r_aload_n dL_law_845 rfl ?_
  refine r_aload_nF dL_law_846 rfl ?_
  refine r_iload_n dL_law_847 rfl ?_
  refine r_iconst dL_law_848 ic_1 ?_
  refine n_iadd dL_law_849 ?_
  refine r_sld dL_law_850 (by omega) (by omega) ?_
  refine r_aload_nF dL_law_851 rfl ?_
  refine r_iload_n dL_law_852 rfl ?_
  refine r_iconst dL_law_853 ic_2 ?_
  refine n_iadd dL_law_854 ?_
  refine r_sld dL_law_855 (by omega) (by omega) ?_
  refine r_aload_nF dL_law_856 rfl ?_
  refine r_iload_n dL_law_857 rfl ?_
  refine r_iconst dL_law_858 ic_3 ?_
  refine n_iadd dL_law_859 ?_
  refine r_sld dL_law_860 (by omega) (by omega) ?_
  refine r_V3 dL_law_861 l_L_119 k_X11_year i_X11_year (t_g (by decide) rfl) ⟨_, rfl⟩ (Nat.le_of_ble_eq_true rfl) (c1 d) (List.prefix_refl _) ?_
  refine r_aload_n dL_law_864 rfl ?_
  refine r_aload_nF dL_law_865 rfl ?_
  refine r_iload_n dL_law_866 rfl ?_
  refine r_iconst dL_law_867 ic_1 ?_
  refine n_iadd dL_law_868 ?_
  refine r_sld dL_law_869 (by omega) (by omega) ?_
  refine r_aload_nF dL_law_870 rfl ?_
  refine r_iload_n dL_law_871 rfl ?_
  refine r_iconst dL_law_872 ic_2 ?_
  refine n_iadd dL_law_873 ?_
  refine r_sld dL_law_874 (by omega) (by omega) ?_
  refine r_aload_nF dL_law_875 rfl ?_
  refine r_iload_n dL_law_876 rfl ?_
  refine r_iconst dL_law_877 ic_3 ?_
  refine n_iadd dL_law_878 ?_
  refine r_sld dL_law_879 (by omega) (by omega) ?_
  refine r_V3 dL_law_880 l_L_122 k_X12_year i_X12_year (t_g (by decide) rfl) ⟨_, rfl⟩ (Nat.le_of_ble_eq_true rfl) (c2 d) (List.prefix_refl _) ?_
  refine r_icmp_eq (tgt := 937) dL_law_883 (by decide) (fun _ => ?_) (fun z => absurd rfl z)
  exact law_next X _ K
set_option maxHeartbeats 4000000 in
set_option maxRecDepth 100000 in
theorem lc_26 (X : mCx) (d : Nat) {nm : String} {i : Nat} {I : mI} {R : mR} (q : RR (Sg.take 108) I R) (hN : xN X ≤ 320) (hi : i + 5 ≤ xN X) : ∃ I2 R2, RR (Sg.take 108) I2 R2 ∧ ∀ h', JJ X (ML nm) (d + 13) 18 [.float 1, .ref 1, .ref 97, .int (nI (i + 5))] [] (Sg.take 108) (I2, R2) (some (.int 1)) (Sg.take 108) h' → JJ X (ML nm) (d + 13) 888 [.float 1, .ref 1, .ref 97, .int (nI i)] [] (Sg.take 108) (I, R) (some (.int 1)) (Sg.take 108) h' := by
  obtain ⟨v, I1, R1, I2, c1, c2, q2⟩ := so_keep X  I R q
  refine ⟨I2, R1, q2, fun h' K => ?_⟩
  refine r_aload_n dL_law_888 rfl ?_
  refine r_V0 dL_law_889 l_L_123 k_X11_keep i_X11_keep (t_g (by decide) rfl) ⟨_, rfl⟩ (Nat.le_of_ble_eq_true rfl) (c1 d) (List.prefix_refl _) ?_
  refine r_aload_n dL_law_892 rfl ?_
  refine r_V0 dL_law_893 l_L_126 k_X12_keep i_X12_keep (t_g (by decide) rfl) ⟨_, rfl⟩ (Nat.le_of_ble_eq_true rfl) (c2 d) (List.prefix_refl _) ?_
  refine r_icmp_eq (tgt := 937) dL_law_896 (by decide) (fun _ => ?_) (fun z => absurd rfl z)
  exact law_next X _ K
set_option maxHeartbeats 4000000 in
set_option maxRecDepth 100000 in
theorem lc_27 (X : mCx) (d : Nat) {nm : String} {i : Nat} {I : mI} {R : mR} (q : RR (Sg.take 108) I R) (hN : xN X ≤ 320) (hi : i + 5 ≤ xN X) : ∃ I2 R2, RR (Sg.take 108) I2 R2 ∧ ∀ h', JJ X (ML nm) (d + 13) 18 [.float 1, .ref 1, .ref 97, .int (nI (i + 5))] [] (Sg.take 108) (I2, R2) (some (.int 1)) (Sg.take 108) h' → JJ X (ML nm) (d + 13) 901 [.float 1, .ref 1, .ref 97, .int (nI i)] [] (Sg.take 108) (I, R) (some (.int 1)) (Sg.take 108) h' := by
  obtain ⟨v, I1, R1, I2, c1, c2, q2⟩ := so_back X  I R q
  refine ⟨I2, R1, q2, fun h' K => ?_⟩
  refine r_aload_n dL_law_901 rfl ?_
  refine r_V0 dL_law_902 l_L_127 k_X11_back i_X11_back (t_g (by decide) rfl) ⟨_, rfl⟩ (Nat.le_of_ble_eq_true rfl) (c1 d) (List.prefix_refl _) ?_
  refine r_aload_n dL_law_905 rfl ?_
  refine r_V0 dL_law_906 l_L_130 k_X12_back i_X12_back (t_g (by decide) rfl) ⟨_, rfl⟩ (Nat.le_of_ble_eq_true rfl) (c2 d) (List.prefix_refl _) ?_
  refine r_icmp_eq (tgt := 937) dL_law_909 (by decide) (fun _ => ?_) (fun z => absurd rfl z)
  exact law_next X _ K
set_option maxHeartbeats 4000000 in
set_option maxRecDepth 100000 in
theorem lc_28 (X : mCx) (d : Nat) {nm : String} {i : Nat} {I : mI} {R : mR} (q : RR (Sg.take 108) I R) (hN : xN X ≤ 320) (hi : i + 5 ≤ xN X) : ∃ I2 R2, RR (Sg.take 108) I2 R2 ∧ ∀ h', JJ X (ML nm) (d + 13) 18 [.float 1, .ref 1, .ref 97, .int (nI (i + 5))] [] (Sg.take 108) (I2, R2) (some (.int 1)) (Sg.take 108) h' → JJ X (ML nm) (d + 13) 914 [.float 1, .ref 1, .ref 97, .int (nI i)] [] (Sg.take 108) (I, R) (some (.int 1)) (Sg.take 108) h' := by
  obtain ⟨v, I1, R1, I2, c1, c2, q2⟩ := so_count X (xX X (i + 1)) I R q
  refine ⟨I2, R1, q2, fun h' K => ?_⟩
  refine r_aload_n dL_law_914 rfl ?_
  refine r_aload_nF dL_law_915 rfl ?_
  refine r_iload_n dL_law_916 rfl ?_
  refine r_iconst dL_law_917 ic_1 ?_
  refine n_iadd dL_law_918 ?_
  refine r_sld dL_law_919 (by omega) (by omega) ?_
  refine r_V1 dL_law_920 l_L_131 k_X11_count i_X11_count (t_g (by decide) rfl) ⟨_, rfl⟩ (Nat.le_of_ble_eq_true rfl) (c1 d) (List.prefix_refl _) ?_
  refine r_aload_n dL_law_923 rfl ?_
  refine r_aload_nF dL_law_924 rfl ?_
  refine r_iload_n dL_law_925 rfl ?_
  refine r_iconst dL_law_926 ic_1 ?_
  refine n_iadd dL_law_927 ?_
  refine r_sld dL_law_928 (by omega) (by omega) ?_
  refine r_V1 dL_law_929 l_L_134 k_X12_count i_X12_count (t_g (by decide) rfl) ⟨_, rfl⟩ (Nat.le_of_ble_eq_true rfl) (c2 d) (List.prefix_refl _) ?_
  refine r_icmp_eq (tgt := 937) dL_law_932 (by decide) (fun _ => ?_) (fun z => absurd rfl z)
  exact law_next X _ K
