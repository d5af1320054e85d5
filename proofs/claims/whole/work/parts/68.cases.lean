/-! ===== the calls of the law ===== -/
theorem lcmp_rfl (x : Int64) : lg_cmp x x = 0 := by
  unfold lg_cmp
  have h : ¬ x > x := by
    show ¬ x < x
    rw [Int64.lt_iff_toInt_lt]
    omega
  rw [if_neg h, if_pos rfl]
set_option maxHeartbeats 4000000 in
set_option maxRecDepth 100000 in
theorem law_c0 {p : Program} {l : Launch} {e : Env} {s : State} {m : MethodId} {below : List Frame} {meth : Method} {c : Code} {b L : Nat} {xs : Nat → Int32} {g : GW} {cn sn : Nat} {Z : State → Prop} {μ : Mm} {a : AT} {i : Nat} (C : LC p s m meth c b L xs g) (hcn : cn ≤ 600000) (hsn : sn ≤ 7302250) (hA : RC μ a) (hM : RM μ a) (hI : AI a) (hnb : aNb a < 600) (hi5 : i + 5 ≤ L) (K : ∀ μ' a', RC μ' a' → RM μ' a' → Nx a a' → J p l e room_1 s m #[Value.ref b] below meth c Z g 4 (LX g s.heap μ') cn sn 897 [.ref 91, .ref 0, .ref 65, .int (nI i)] []) : J p l e room_1 s m #[Value.ref b] below meth c Z g 4 (LX g s.heap μ) cn sn 160 [.ref 91, .ref 0, .ref 65, .int (nI i)] [] := by
  have hx := C.1.1
  have hb := C.1.2.1
  have hL := C.2.2.2.2
  have hO := hA.ok
  have hJ := hI.1
  refine J_aload_n hx hb (pc := 160) dL_law_160 rfl rfl ?_
  refine J_aload_n hx hb (pc := 161) dL_law_161 rfl rfl ?_
  refine J_iload_n hx hb (pc := 162) dL_law_162 rfl rfl ?_
  refine J_iconst hx hb (pc := 163) (v := 1) dL_law_163 (by decide) ?_
  refine J_iadd hx hb (pc := 164) dL_law_164 ?_
  refine L_sld C (pc := 165) (j := i + 1) (nI_add i 1) (by omega) dL_law_165 ?_
  refine J_i2l hx hb (pc := 166) dL_law_166 ?_
  refine J_bipush hx hb (pc := 167) (v := 32) dL_law_167 (by decide) ?_
  refine J_lshl hx hb (pc := 169) dL_law_169 ?_
  refine J_aload_n hx hb (pc := 170) dL_law_170 rfl rfl ?_
  refine J_iload_n hx hb (pc := 171) dL_law_171 rfl rfl ?_
  refine J_iconst hx hb (pc := 172) (v := 2) dL_law_172 (by decide) ?_
  refine J_iadd hx hb (pc := 173) dL_law_173 ?_
  refine L_sld C (pc := 174) (j := i + 2) (nI_add i 2) (by omega) dL_law_174 ?_
  refine J_i2l hx hb (pc := 175) dL_law_175 ?_
  refine L_ldc2 C (pc := 176) (v := 4294967295) (List.mem_of_getElem? (i := 6) rfl) dL_law_176 ?_
  refine J_land hx hb (pc := 179) dL_law_179 ?_
  refine J_lor hx hb (pc := 180) dL_law_180 ?_
  refine L_inv1 C hcn hsn (pc := 181) (ci := 7) dL_law_181 ml_L_15 (by decide) rfl ⟨by decide, rfl⟩ (c_X7_letters μ hA) (by decide) (Nat.le_of_ble_eq_true rfl) ?_
  rintro _ μ1 ⟨rfl, hA1, hC1⟩
  have hM1 := hM.C hC1
  refine J_aload_n hx hb (pc := 184) dL_law_184 rfl rfl ?_
  refine J_aload_n hx hb (pc := 185) dL_law_185 rfl rfl ?_
  refine J_iload_n hx hb (pc := 186) dL_law_186 rfl rfl ?_
  refine J_iconst hx hb (pc := 187) (v := 1) dL_law_187 (by decide) ?_
  refine J_iadd hx hb (pc := 188) dL_law_188 ?_
  refine L_sld C (pc := 189) (j := i + 1) (nI_add i 1) (by omega) dL_law_189 ?_
  refine J_i2l hx hb (pc := 190) dL_law_190 ?_
  refine J_bipush hx hb (pc := 191) (v := 32) dL_law_191 (by decide) ?_
  refine J_lshl hx hb (pc := 193) dL_law_193 ?_
  refine J_aload_n hx hb (pc := 194) dL_law_194 rfl rfl ?_
  refine J_iload_n hx hb (pc := 195) dL_law_195 rfl rfl ?_
  refine J_iconst hx hb (pc := 196) (v := 2) dL_law_196 (by decide) ?_
  refine J_iadd hx hb (pc := 197) dL_law_197 ?_
  refine L_sld C (pc := 198) (j := i + 2) (nI_add i 2) (by omega) dL_law_198 ?_
  refine J_i2l hx hb (pc := 199) dL_law_199 ?_
  refine L_ldc2 C (pc := 200) (v := 4294967295) (List.mem_of_getElem? (i := 6) rfl) dL_law_200 ?_
  refine J_land hx hb (pc := 203) dL_law_203 ?_
  refine J_lor hx hb (pc := 204) dL_law_204 ?_
  refine L_inv1 C hcn hsn (pc := 205) (ci := 8) dL_law_205 ml_L_19 (by decide) rfl ⟨by decide, rfl⟩ (c_X8_letters μ1 hO hM1) (by decide) (Nat.le_of_ble_eq_true rfl) ?_
  rintro _ μ2 ⟨rfl, hM2, hX2⟩
  exact J_icmpeq hx hb (pc := 208) (tgt := 897) dL_law_208 (by decide) (fun _ => K _ _ (hA1.X hX2) (hM2) (nx_letters hI)) (fun h => absurd rfl h)
set_option maxHeartbeats 4000000 in
set_option maxRecDepth 100000 in
theorem law_c1 {p : Program} {l : Launch} {e : Env} {s : State} {m : MethodId} {below : List Frame} {meth : Method} {c : Code} {b L : Nat} {xs : Nat → Int32} {g : GW} {cn sn : Nat} {Z : State → Prop} {μ : Mm} {a : AT} {i : Nat} (C : LC p s m meth c b L xs g) (hcn : cn ≤ 600000) (hsn : sn ≤ 7302250) (hA : RC μ a) (hM : RM μ a) (hI : AI a) (hnb : aNb a < 600) (hi5 : i + 5 ≤ L) (K : ∀ μ' a', RC μ' a' → RM μ' a' → Nx a a' → J p l e room_1 s m #[Value.ref b] below meth c Z g 4 (LX g s.heap μ') cn sn 897 [.ref 91, .ref 0, .ref 65, .int (nI i)] []) : J p l e room_1 s m #[Value.ref b] below meth c Z g 4 (LX g s.heap μ) cn sn 213 [.ref 91, .ref 0, .ref 65, .int (nI i)] [] := by
  have hx := C.1.1
  have hb := C.1.2.1
  have hL := C.2.2.2.2
  have hO := hA.ok
  have hJ := hI.1
  refine J_aload_n hx hb (pc := 213) dL_law_213 rfl rfl ?_
  refine L_inv0 C hcn hsn (pc := 214) (ci := 7) dL_law_214 ml_L_20 (by decide) rfl ⟨by decide, rfl⟩ (c_X7_blank μ hA) (by decide) (Nat.le_of_ble_eq_true rfl) ?_
  rintro _ μ1 ⟨rfl, hA1, hC1⟩
  have hM1 := hM.C hC1
  refine J_aload_n hx hb (pc := 217) dL_law_217 rfl rfl ?_
  refine L_inv0 C hcn hsn (pc := 218) (ci := 8) dL_law_218 ml_L_24 (by decide) rfl ⟨by decide, rfl⟩ (c_X8_blank μ1 hO hM1) (by decide) (Nat.le_of_ble_eq_true rfl) ?_
  rintro _ μ2 ⟨rfl, hM2, hX2⟩
  exact J_icmpeq hx hb (pc := 221) (tgt := 897) dL_law_221 (by decide) (fun _ => K _ _ (hA1.X hX2) (hM2) (nx_blank hI)) (fun h => absurd rfl h)
set_option maxHeartbeats 4000000 in
set_option maxRecDepth 100000 in
theorem law_c2 {p : Program} {l : Launch} {e : Env} {s : State} {m : MethodId} {below : List Frame} {meth : Method} {c : Code} {b L : Nat} {xs : Nat → Int32} {g : GW} {cn sn : Nat} {Z : State → Prop} {μ : Mm} {a : AT} {i : Nat} (C : LC p s m meth c b L xs g) (hcn : cn ≤ 600000) (hsn : sn ≤ 7302250) (hA : RC μ a) (hM : RM μ a) (hI : AI a) (hnb : aNb a < 600) (hi5 : i + 5 ≤ L) (K : ∀ μ' a', RC μ' a' → RM μ' a' → Nx a a' → J p l e room_1 s m #[Value.ref b] below meth c Z g 4 (LX g s.heap μ') cn sn 897 [.ref 91, .ref 0, .ref 65, .int (nI i)] []) : J p l e room_1 s m #[Value.ref b] below meth c Z g 4 (LX g s.heap μ) cn sn 226 [.ref 91, .ref 0, .ref 65, .int (nI i)] [] := by
  have hx := C.1.1
  have hb := C.1.2.1
  have hL := C.2.2.2.2
  have hO := hA.ok
  have hJ := hI.1
  refine J_aload_n hx hb (pc := 226) dL_law_226 rfl rfl ?_
  refine L_inv0 C hcn hsn (pc := 227) (ci := 7) dL_law_227 ml_L_25 (by decide) rfl ⟨by decide, rfl⟩ (c_X7_fault μ hA) (by decide) (Nat.le_of_ble_eq_true rfl) ?_
  rintro _ μ1 ⟨rfl, hA1, hC1⟩
  have hM1 := hM.C hC1
  refine J_aload_n hx hb (pc := 230) dL_law_230 rfl rfl ?_
  refine L_inv0 C hcn hsn (pc := 231) (ci := 8) dL_law_231 ml_L_28 (by decide) rfl ⟨by decide, rfl⟩ (c_X8_fault μ1 hO hM1) (by decide) (Nat.le_of_ble_eq_true rfl) ?_
  rintro _ μ2 ⟨rfl, hM2, hX2⟩
  exact J_icmpeq hx hb (pc := 234) (tgt := 897) dL_law_234 (by decide) (fun _ => K _ _ (hA1.X hX2) (hM2) (Nx.rf hI)) (fun h => absurd rfl h)
set_option maxHeartbeats 4000000 in
set_option maxRecDepth 100000 in
theorem law_c3 {p : Program} {l : Launch} {e : Env} {s : State} {m : MethodId} {below : List Frame} {meth : Method} {c : Code} {b L : Nat} {xs : Nat → Int32} {g : GW} {cn sn : Nat} {Z : State → Prop} {μ : Mm} {a : AT} {i : Nat} (C : LC p s m meth c b L xs g) (hcn : cn ≤ 600000) (hsn : sn ≤ 7302250) (hA : RC μ a) (hM : RM μ a) (hI : AI a) (hnb : aNb a < 600) (hi5 : i + 5 ≤ L) (K : ∀ μ' a', RC μ' a' → RM μ' a' → Nx a a' → J p l e room_1 s m #[Value.ref b] below meth c Z g 4 (LX g s.heap μ') cn sn 897 [.ref 91, .ref 0, .ref 65, .int (nI i)] []) : J p l e room_1 s m #[Value.ref b] below meth c Z g 4 (LX g s.heap μ) cn sn 239 [.ref 91, .ref 0, .ref 65, .int (nI i)] [] := by
  have hx := C.1.1
  have hb := C.1.2.1
  have hL := C.2.2.2.2
  have hO := hA.ok
  have hJ := hI.1
  refine J_aload_n hx hb (pc := 239) dL_law_239 rfl rfl ?_
  refine L_inv0 C hcn hsn (pc := 240) (ci := 7) dL_law_240 ml_L_29 (by decide) rfl ⟨by decide, rfl⟩ (c_X7_book μ hA hnb) (by decide) (Nat.le_of_ble_eq_true rfl) ?_
  rintro _ μ1 ⟨rfl, hA1, hC1⟩
  have hM1 := hM.C hC1
  refine J_aload_n hx hb (pc := 243) dL_law_243 rfl rfl ?_
  refine L_inv0 C hcn hsn (pc := 244) (ci := 8) dL_law_244 ml_L_32 (by decide) rfl ⟨by decide, rfl⟩ (c_X8_book μ1 hO hM1) (by decide) (Nat.le_of_ble_eq_true rfl) ?_
  rintro _ μ2 ⟨rfl, hM2, hX2⟩
  exact J_icmpeq hx hb (pc := 247) (tgt := 897) dL_law_247 (by decide) (fun _ => K _ _ (hA1.X hX2) (hM2) (nx_book hI)) (fun h => absurd rfl h)
set_option maxHeartbeats 4000000 in
set_option maxRecDepth 100000 in
theorem law_c4 {p : Program} {l : Launch} {e : Env} {s : State} {m : MethodId} {below : List Frame} {meth : Method} {c : Code} {b L : Nat} {xs : Nat → Int32} {g : GW} {cn sn : Nat} {Z : State → Prop} {μ : Mm} {a : AT} {i : Nat} (C : LC p s m meth c b L xs g) (hcn : cn ≤ 600000) (hsn : sn ≤ 7302250) (hA : RC μ a) (hM : RM μ a) (hI : AI a) (hnb : aNb a < 600) (hi5 : i + 5 ≤ L) (K : ∀ μ' a', RC μ' a' → RM μ' a' → Nx a a' → J p l e room_1 s m #[Value.ref b] below meth c Z g 4 (LX g s.heap μ') cn sn 897 [.ref 91, .ref 0, .ref 65, .int (nI i)] []) : J p l e room_1 s m #[Value.ref b] below meth c Z g 4 (LX g s.heap μ) cn sn 252 [.ref 91, .ref 0, .ref 65, .int (nI i)] [] := by
  have hx := C.1.1
  have hb := C.1.2.1
  have hL := C.2.2.2.2
  have hO := hA.ok
  have hJ := hI.1
  refine J_aload_n hx hb (pc := 252) dL_law_252 rfl rfl ?_
  refine J_aload_n hx hb (pc := 253) dL_law_253 rfl rfl ?_
  refine J_iload_n hx hb (pc := 254) dL_law_254 rfl rfl ?_
  refine J_iconst hx hb (pc := 255) (v := 1) dL_law_255 (by decide) ?_
  refine J_iadd hx hb (pc := 256) dL_law_256 ?_
  refine L_sld C (pc := 257) (j := i + 1) (nI_add i 1) (by omega) dL_law_257 ?_
  refine J_aload_n hx hb (pc := 258) dL_law_258 rfl rfl ?_
  refine J_iload_n hx hb (pc := 259) dL_law_259 rfl rfl ?_
  refine J_iconst hx hb (pc := 260) (v := 2) dL_law_260 (by decide) ?_
  refine J_iadd hx hb (pc := 261) dL_law_261 ?_
  refine L_sld C (pc := 262) (j := i + 2) (nI_add i 2) (by omega) dL_law_262 ?_
  refine L_inv2 C hcn hsn (pc := 263) (ci := 7) dL_law_263 ml_L_33 (by decide) rfl ⟨by decide, rfl⟩ (c_X7_tenths μ hA) (by decide) (Nat.le_of_ble_eq_true rfl) ?_
  rintro _ μ1 ⟨rfl, hμ⟩
  obtain rfl := hμ.symm
  refine J_aload_n hx hb (pc := 266) dL_law_266 rfl rfl ?_
  refine J_aload_n hx hb (pc := 267) dL_law_267 rfl rfl ?_
  refine J_iload_n hx hb (pc := 268) dL_law_268 rfl rfl ?_
  refine J_iconst hx hb (pc := 269) (v := 1) dL_law_269 (by decide) ?_
  refine J_iadd hx hb (pc := 270) dL_law_270 ?_
  refine L_sld C (pc := 271) (j := i + 1) (nI_add i 1) (by omega) dL_law_271 ?_
  refine J_aload_n hx hb (pc := 272) dL_law_272 rfl rfl ?_
  refine J_iload_n hx hb (pc := 273) dL_law_273 rfl rfl ?_
  refine J_iconst hx hb (pc := 274) (v := 2) dL_law_274 (by decide) ?_
  refine J_iadd hx hb (pc := 275) dL_law_275 ?_
  refine L_sld C (pc := 276) (j := i + 2) (nI_add i 2) (by omega) dL_law_276 ?_
  refine L_inv2 C hcn hsn (pc := 277) (ci := 8) dL_law_277 ml_L_37 (by decide) rfl ⟨by decide, rfl⟩ (c_X8_tenths μ hO hM) (by decide) (Nat.le_of_ble_eq_true rfl) ?_
  rintro _ μ2 ⟨rfl, hμ⟩
  obtain rfl := hμ.symm
  exact J_icmpeq hx hb (pc := 280) (tgt := 897) dL_law_280 (by decide) (fun _ => K _ _ (hA) (hM) (Nx.rf hI)) (fun h => absurd rfl h)
set_option maxHeartbeats 4000000 in
set_option maxRecDepth 100000 in
theorem law_c5 {p : Program} {l : Launch} {e : Env} {s : State} {m : MethodId} {below : List Frame} {meth : Method} {c : Code} {b L : Nat} {xs : Nat → Int32} {g : GW} {cn sn : Nat} {Z : State → Prop} {μ : Mm} {a : AT} {i : Nat} (C : LC p s m meth c b L xs g) (hcn : cn ≤ 600000) (hsn : sn ≤ 7302250) (hA : RC μ a) (hM : RM μ a) (hI : AI a) (hnb : aNb a < 600) (hi5 : i + 5 ≤ L) (K : ∀ μ' a', RC μ' a' → RM μ' a' → Nx a a' → J p l e room_1 s m #[Value.ref b] below meth c Z g 4 (LX g s.heap μ') cn sn 897 [.ref 91, .ref 0, .ref 65, .int (nI i)] []) : J p l e room_1 s m #[Value.ref b] below meth c Z g 4 (LX g s.heap μ) cn sn 285 [.ref 91, .ref 0, .ref 65, .int (nI i)] [] := by
  have hx := C.1.1
  have hb := C.1.2.1
  have hL := C.2.2.2.2
  have hO := hA.ok
  have hJ := hI.1
  refine J_aload_n hx hb (pc := 285) dL_law_285 rfl rfl ?_
  refine J_aload_n hx hb (pc := 286) dL_law_286 rfl rfl ?_
  refine J_iload_n hx hb (pc := 287) dL_law_287 rfl rfl ?_
  refine J_iconst hx hb (pc := 288) (v := 1) dL_law_288 (by decide) ?_
  refine J_iadd hx hb (pc := 289) dL_law_289 ?_
  refine L_sld C (pc := 290) (j := i + 1) (nI_add i 1) (by omega) dL_law_290 ?_
  refine L_inv1 C hcn hsn (pc := 291) (ci := 7) dL_law_291 ml_L_38 (by decide) rfl ⟨by decide, rfl⟩ (c_X7_windOf μ hA) (by decide) (Nat.le_of_ble_eq_true rfl) ?_
  rintro _ μ1 ⟨rfl, hμ⟩
  obtain rfl := hμ.symm
  refine J_aload_n hx hb (pc := 294) dL_law_294 rfl rfl ?_
  refine J_aload_n hx hb (pc := 295) dL_law_295 rfl rfl ?_
  refine J_iload_n hx hb (pc := 296) dL_law_296 rfl rfl ?_
  refine J_iconst hx hb (pc := 297) (v := 1) dL_law_297 (by decide) ?_
  refine J_iadd hx hb (pc := 298) dL_law_298 ?_
  refine L_sld C (pc := 299) (j := i + 1) (nI_add i 1) (by omega) dL_law_299 ?_
  refine L_inv1 C hcn hsn (pc := 300) (ci := 8) dL_law_300 ml_L_42 (by decide) rfl ⟨by decide, rfl⟩ (c_X8_windOf μ hO hM) (by decide) (Nat.le_of_ble_eq_true rfl) ?_
  rintro _ μ2 ⟨rfl, hμ⟩
  obtain rfl := hμ.symm
  exact J_icmpeq hx hb (pc := 303) (tgt := 897) dL_law_303 (by decide) (fun _ => K _ _ (hA) (hM) (Nx.rf hI)) (fun h => absurd rfl h)
set_option maxHeartbeats 4000000 in
set_option maxRecDepth 100000 in
theorem law_c6 {p : Program} {l : Launch} {e : Env} {s : State} {m : MethodId} {below : List Frame} {meth : Method} {c : Code} {b L : Nat} {xs : Nat → Int32} {g : GW} {cn sn : Nat} {Z : State → Prop} {μ : Mm} {a : AT} {i : Nat} (C : LC p s m meth c b L xs g) (hcn : cn ≤ 600000) (hsn : sn ≤ 7302250) (hA : RC μ a) (hM : RM μ a) (hI : AI a) (hnb : aNb a < 600) (hi5 : i + 5 ≤ L) (K : ∀ μ' a', RC μ' a' → RM μ' a' → Nx a a' → J p l e room_1 s m #[Value.ref b] below meth c Z g 4 (LX g s.heap μ') cn sn 897 [.ref 91, .ref 0, .ref 65, .int (nI i)] []) : J p l e room_1 s m #[Value.ref b] below meth c Z g 4 (LX g s.heap μ) cn sn 308 [.ref 91, .ref 0, .ref 65, .int (nI i)] [] := by
  have hx := C.1.1
  have hb := C.1.2.1
  have hL := C.2.2.2.2
  have hO := hA.ok
  have hJ := hI.1
  refine J_aload_n hx hb (pc := 308) dL_law_308 rfl rfl ?_
  refine J_aload_n hx hb (pc := 309) dL_law_309 rfl rfl ?_
  refine J_iload_n hx hb (pc := 310) dL_law_310 rfl rfl ?_
  refine J_iconst hx hb (pc := 311) (v := 1) dL_law_311 (by decide) ?_
  refine J_iadd hx hb (pc := 312) dL_law_312 ?_
  refine L_sld C (pc := 313) (j := i + 1) (nI_add i 1) (by omega) dL_law_313 ?_
  refine J_aload_n hx hb (pc := 314) dL_law_314 rfl rfl ?_
  refine J_iload_n hx hb (pc := 315) dL_law_315 rfl rfl ?_
  refine J_iconst hx hb (pc := 316) (v := 2) dL_law_316 (by decide) ?_
  refine J_iadd hx hb (pc := 317) dL_law_317 ?_
  refine L_sld C (pc := 318) (j := i + 2) (nI_add i 2) (by omega) dL_law_318 ?_
  refine L_inv2 C hcn hsn (pc := 319) (ci := 7) dL_law_319 ml_L_43 (by decide) rfl ⟨by decide, rfl⟩ (c_X7_ship μ hA) (by decide) (Nat.le_of_ble_eq_true rfl) ?_
  rintro _ μ1 ⟨rfl, hA1, hC1⟩
  have hM1 := hM.C hC1
  refine J_aload_n hx hb (pc := 322) dL_law_322 rfl rfl ?_
  refine J_aload_n hx hb (pc := 323) dL_law_323 rfl rfl ?_
  refine J_iload_n hx hb (pc := 324) dL_law_324 rfl rfl ?_
  refine J_iconst hx hb (pc := 325) (v := 1) dL_law_325 (by decide) ?_
  refine J_iadd hx hb (pc := 326) dL_law_326 ?_
  refine L_sld C (pc := 327) (j := i + 1) (nI_add i 1) (by omega) dL_law_327 ?_
  refine J_aload_n hx hb (pc := 328) dL_law_328 rfl rfl ?_
  refine J_iload_n hx hb (pc := 329) dL_law_329 rfl rfl ?_
  refine J_iconst hx hb (pc := 330) (v := 2) dL_law_330 (by decide) ?_
  refine J_iadd hx hb (pc := 331) dL_law_331 ?_
  refine L_sld C (pc := 332) (j := i + 2) (nI_add i 2) (by omega) dL_law_332 ?_
  refine L_inv2 C hcn hsn (pc := 333) (ci := 8) dL_law_333 ml_L_46 (by decide) rfl ⟨by decide, rfl⟩ (c_X8_ship μ1 hO hM1) (by decide) (Nat.le_of_ble_eq_true rfl) ?_
  rintro _ μ2 ⟨rfl, hM2, hX2⟩
  exact J_icmpeq hx hb (pc := 336) (tgt := 897) dL_law_336 (by decide) (fun _ => K _ _ (hA1.X hX2) (hM2) (nx_ship hI hO)) (fun h => absurd rfl h)
set_option maxHeartbeats 4000000 in
set_option maxRecDepth 100000 in
theorem law_c7 {p : Program} {l : Launch} {e : Env} {s : State} {m : MethodId} {below : List Frame} {meth : Method} {c : Code} {b L : Nat} {xs : Nat → Int32} {g : GW} {cn sn : Nat} {Z : State → Prop} {μ : Mm} {a : AT} {i : Nat} (C : LC p s m meth c b L xs g) (hcn : cn ≤ 600000) (hsn : sn ≤ 7302250) (hA : RC μ a) (hM : RM μ a) (hI : AI a) (hnb : aNb a < 600) (hi5 : i + 5 ≤ L) (K : ∀ μ' a', RC μ' a' → RM μ' a' → Nx a a' → J p l e room_1 s m #[Value.ref b] below meth c Z g 4 (LX g s.heap μ') cn sn 897 [.ref 91, .ref 0, .ref 65, .int (nI i)] []) : J p l e room_1 s m #[Value.ref b] below meth c Z g 4 (LX g s.heap μ) cn sn 341 [.ref 91, .ref 0, .ref 65, .int (nI i)] [] := by
  have hx := C.1.1
  have hb := C.1.2.1
  have hL := C.2.2.2.2
  have hO := hA.ok
  have hJ := hI.1
  refine J_aload_n hx hb (pc := 341) dL_law_341 rfl rfl ?_
  refine J_aload_n hx hb (pc := 342) dL_law_342 rfl rfl ?_
  refine J_iload_n hx hb (pc := 343) dL_law_343 rfl rfl ?_
  refine J_iconst hx hb (pc := 344) (v := 1) dL_law_344 (by decide) ?_
  refine J_iadd hx hb (pc := 345) dL_law_345 ?_
  refine L_sld C (pc := 346) (j := i + 1) (nI_add i 1) (by omega) dL_law_346 ?_
  refine J_aload_n hx hb (pc := 347) dL_law_347 rfl rfl ?_
  refine J_iload_n hx hb (pc := 348) dL_law_348 rfl rfl ?_
  refine J_iconst hx hb (pc := 349) (v := 2) dL_law_349 (by decide) ?_
  refine J_iadd hx hb (pc := 350) dL_law_350 ?_
  refine L_sld C (pc := 351) (j := i + 2) (nI_add i 2) (by omega) dL_law_351 ?_
  refine L_inv2 C hcn hsn (pc := 352) (ci := 7) dL_law_352 ml_L_47 (by decide) rfl ⟨by decide, rfl⟩ (c_X7_about μ hA) (by decide) (Nat.le_of_ble_eq_true rfl) ?_
  rintro _ μ1 ⟨rfl, hμ⟩
  obtain rfl := hμ.symm
  refine J_aload_n hx hb (pc := 355) dL_law_355 rfl rfl ?_
  refine J_aload_n hx hb (pc := 356) dL_law_356 rfl rfl ?_
  refine J_iload_n hx hb (pc := 357) dL_law_357 rfl rfl ?_
  refine J_iconst hx hb (pc := 358) (v := 1) dL_law_358 (by decide) ?_
  refine J_iadd hx hb (pc := 359) dL_law_359 ?_
  refine L_sld C (pc := 360) (j := i + 1) (nI_add i 1) (by omega) dL_law_360 ?_
  refine J_aload_n hx hb (pc := 361) dL_law_361 rfl rfl ?_
  refine J_iload_n hx hb (pc := 362) dL_law_362 rfl rfl ?_
  refine J_iconst hx hb (pc := 363) (v := 2) dL_law_363 (by decide) ?_
  refine J_iadd hx hb (pc := 364) dL_law_364 ?_
  refine L_sld C (pc := 365) (j := i + 2) (nI_add i 2) (by omega) dL_law_365 ?_
  refine L_inv2 C hcn hsn (pc := 366) (ci := 8) dL_law_366 ml_L_50 (by decide) rfl ⟨by decide, rfl⟩ (c_X8_about μ hO hM) (by decide) (Nat.le_of_ble_eq_true rfl) ?_
  rintro _ μ2 ⟨rfl, hμ⟩
  obtain rfl := hμ.symm
  exact J_icmpeq hx hb (pc := 369) (tgt := 897) dL_law_369 (by decide) (fun _ => K _ _ (hA) (hM) (Nx.rf hI)) (fun h => absurd rfl h)
set_option maxHeartbeats 4000000 in
set_option maxRecDepth 100000 in
theorem law_c8 {p : Program} {l : Launch} {e : Env} {s : State} {m : MethodId} {below : List Frame} {meth : Method} {c : Code} {b L : Nat} {xs : Nat → Int32} {g : GW} {cn sn : Nat} {Z : State → Prop} {μ : Mm} {a : AT} {i : Nat} (C : LC p s m meth c b L xs g) (hcn : cn ≤ 600000) (hsn : sn ≤ 7302250) (hA : RC μ a) (hM : RM μ a) (hI : AI a) (hnb : aNb a < 600) (hi5 : i + 5 ≤ L) (K : ∀ μ' a', RC μ' a' → RM μ' a' → Nx a a' → J p l e room_1 s m #[Value.ref b] below meth c Z g 4 (LX g s.heap μ') cn sn 897 [.ref 91, .ref 0, .ref 65, .int (nI i)] []) : J p l e room_1 s m #[Value.ref b] below meth c Z g 4 (LX g s.heap μ) cn sn 374 [.ref 91, .ref 0, .ref 65, .int (nI i)] [] := by
  have hx := C.1.1
  have hb := C.1.2.1
  have hL := C.2.2.2.2
  have hO := hA.ok
  have hJ := hI.1
  refine J_aload_n hx hb (pc := 374) dL_law_374 rfl rfl ?_
  refine J_aload_n hx hb (pc := 375) dL_law_375 rfl rfl ?_
  refine J_iload_n hx hb (pc := 376) dL_law_376 rfl rfl ?_
  refine J_iconst hx hb (pc := 377) (v := 1) dL_law_377 (by decide) ?_
  refine J_iadd hx hb (pc := 378) dL_law_378 ?_
  refine L_sld C (pc := 379) (j := i + 1) (nI_add i 1) (by omega) dL_law_379 ?_
  refine J_aload_n hx hb (pc := 380) dL_law_380 rfl rfl ?_
  refine J_iload_n hx hb (pc := 381) dL_law_381 rfl rfl ?_
  refine J_iconst hx hb (pc := 382) (v := 2) dL_law_382 (by decide) ?_
  refine J_iadd hx hb (pc := 383) dL_law_383 ?_
  refine L_sld C (pc := 384) (j := i + 2) (nI_add i 2) (by omega) dL_law_384 ?_
  refine L_inv2 C hcn hsn (pc := 385) (ci := 7) dL_law_385 ml_L_51 (by decide) rfl ⟨by decide, rfl⟩ (c_X7_as μ hA) (by decide) (Nat.le_of_ble_eq_true rfl) ?_
  rintro _ μ1 ⟨rfl, hμ⟩
  obtain rfl := hμ.symm
  refine J_aload_n hx hb (pc := 388) dL_law_388 rfl rfl ?_
  refine J_aload_n hx hb (pc := 389) dL_law_389 rfl rfl ?_
  refine J_iload_n hx hb (pc := 390) dL_law_390 rfl rfl ?_
  refine J_iconst hx hb (pc := 391) (v := 1) dL_law_391 (by decide) ?_
  refine J_iadd hx hb (pc := 392) dL_law_392 ?_
  refine L_sld C (pc := 393) (j := i + 1) (nI_add i 1) (by omega) dL_law_393 ?_
  refine J_aload_n hx hb (pc := 394) dL_law_394 rfl rfl ?_
  refine J_iload_n hx hb (pc := 395) dL_law_395 rfl rfl ?_
  refine J_iconst hx hb (pc := 396) (v := 2) dL_law_396 (by decide) ?_
  refine J_iadd hx hb (pc := 397) dL_law_397 ?_
  refine L_sld C (pc := 398) (j := i + 2) (nI_add i 2) (by omega) dL_law_398 ?_
  refine L_inv2 C hcn hsn (pc := 399) (ci := 8) dL_law_399 ml_L_54 (by decide) rfl ⟨by decide, rfl⟩ (c_X8_as μ hO hM) (by decide) (Nat.le_of_ble_eq_true rfl) ?_
  rintro _ μ2 ⟨rfl, hμ⟩
  obtain rfl := hμ.symm
  exact J_icmpeq hx hb (pc := 402) (tgt := 897) dL_law_402 (by decide) (fun _ => K _ _ (hA) (hM) (Nx.rf hI)) (fun h => absurd rfl h)
set_option maxHeartbeats 4000000 in
set_option maxRecDepth 100000 in
theorem law_c9 {p : Program} {l : Launch} {e : Env} {s : State} {m : MethodId} {below : List Frame} {meth : Method} {c : Code} {b L : Nat} {xs : Nat → Int32} {g : GW} {cn sn : Nat} {Z : State → Prop} {μ : Mm} {a : AT} {i : Nat} (C : LC p s m meth c b L xs g) (hcn : cn ≤ 600000) (hsn : sn ≤ 7302250) (hA : RC μ a) (hM : RM μ a) (hI : AI a) (hnb : aNb a < 600) (hi5 : i + 5 ≤ L) (K : ∀ μ' a', RC μ' a' → RM μ' a' → Nx a a' → J p l e room_1 s m #[Value.ref b] below meth c Z g 4 (LX g s.heap μ') cn sn 897 [.ref 91, .ref 0, .ref 65, .int (nI i)] []) : J p l e room_1 s m #[Value.ref b] below meth c Z g 4 (LX g s.heap μ) cn sn 407 [.ref 91, .ref 0, .ref 65, .int (nI i)] [] := by
  have hx := C.1.1
  have hb := C.1.2.1
  have hL := C.2.2.2.2
  have hO := hA.ok
  have hJ := hI.1
  refine J_aload_n hx hb (pc := 407) dL_law_407 rfl rfl ?_
  refine J_aload_n hx hb (pc := 408) dL_law_408 rfl rfl ?_
  refine J_iload_n hx hb (pc := 409) dL_law_409 rfl rfl ?_
  refine J_iconst hx hb (pc := 410) (v := 1) dL_law_410 (by decide) ?_
  refine J_iadd hx hb (pc := 411) dL_law_411 ?_
  refine L_sld C (pc := 412) (j := i + 1) (nI_add i 1) (by omega) dL_law_412 ?_
  refine J_aload_n hx hb (pc := 413) dL_law_413 rfl rfl ?_
  refine J_iload_n hx hb (pc := 414) dL_law_414 rfl rfl ?_
  refine J_iconst hx hb (pc := 415) (v := 2) dL_law_415 (by decide) ?_
  refine J_iadd hx hb (pc := 416) dL_law_416 ?_
  refine L_sld C (pc := 417) (j := i + 2) (nI_add i 2) (by omega) dL_law_417 ?_
  refine L_inv2 C hcn hsn (pc := 418) (ci := 7) dL_law_418 ml_L_55 (by decide) rfl ⟨by decide, rfl⟩ (c_X7_call μ hA) (by decide) (Nat.le_of_ble_eq_true rfl) ?_
  rintro _ μ1 ⟨rfl, hA1, hC1⟩
  have hM1 := hM.C hC1
  refine J_aload_n hx hb (pc := 421) dL_law_421 rfl rfl ?_
  refine J_aload_n hx hb (pc := 422) dL_law_422 rfl rfl ?_
  refine J_iload_n hx hb (pc := 423) dL_law_423 rfl rfl ?_
  refine J_iconst hx hb (pc := 424) (v := 1) dL_law_424 (by decide) ?_
  refine J_iadd hx hb (pc := 425) dL_law_425 ?_
  refine L_sld C (pc := 426) (j := i + 1) (nI_add i 1) (by omega) dL_law_426 ?_
  refine J_aload_n hx hb (pc := 427) dL_law_427 rfl rfl ?_
  refine J_iload_n hx hb (pc := 428) dL_law_428 rfl rfl ?_
  refine J_iconst hx hb (pc := 429) (v := 2) dL_law_429 (by decide) ?_
  refine J_iadd hx hb (pc := 430) dL_law_430 ?_
  refine L_sld C (pc := 431) (j := i + 2) (nI_add i 2) (by omega) dL_law_431 ?_
  refine L_inv2 C hcn hsn (pc := 432) (ci := 8) dL_law_432 ml_L_58 (by decide) rfl ⟨by decide, rfl⟩ (c_X8_call μ1 hO hM1 hJ) (by decide) (Nat.le_of_ble_eq_true rfl) ?_
  rintro _ μ2 ⟨rfl, hM2, hX2⟩
  exact J_icmpeq hx hb (pc := 435) (tgt := 897) dL_law_435 (by decide) (fun _ => K _ _ (hA1.X hX2) (hM2) (nx_call hI hO)) (fun h => absurd rfl h)
set_option maxHeartbeats 4000000 in
set_option maxRecDepth 100000 in
theorem law_c10 {p : Program} {l : Launch} {e : Env} {s : State} {m : MethodId} {below : List Frame} {meth : Method} {c : Code} {b L : Nat} {xs : Nat → Int32} {g : GW} {cn sn : Nat} {Z : State → Prop} {μ : Mm} {a : AT} {i : Nat} (C : LC p s m meth c b L xs g) (hcn : cn ≤ 600000) (hsn : sn ≤ 7302250) (hA : RC μ a) (hM : RM μ a) (hI : AI a) (hnb : aNb a < 600) (hi5 : i + 5 ≤ L) (K : ∀ μ' a', RC μ' a' → RM μ' a' → Nx a a' → J p l e room_1 s m #[Value.ref b] below meth c Z g 4 (LX g s.heap μ') cn sn 897 [.ref 91, .ref 0, .ref 65, .int (nI i)] []) : J p l e room_1 s m #[Value.ref b] below meth c Z g 4 (LX g s.heap μ) cn sn 440 [.ref 91, .ref 0, .ref 65, .int (nI i)] [] := by
  have hx := C.1.1
  have hb := C.1.2.1
  have hL := C.2.2.2.2
  have hO := hA.ok
  have hJ := hI.1
  refine J_aload_n hx hb (pc := 440) dL_law_440 rfl rfl ?_
  refine J_aload_n hx hb (pc := 441) dL_law_441 rfl rfl ?_
  refine J_iload_n hx hb (pc := 442) dL_law_442 rfl rfl ?_
  refine J_iconst hx hb (pc := 443) (v := 1) dL_law_443 (by decide) ?_
  refine J_iadd hx hb (pc := 444) dL_law_444 ?_
  refine L_sld C (pc := 445) (j := i + 1) (nI_add i 1) (by omega) dL_law_445 ?_
  refine L_inv1 C hcn hsn (pc := 446) (ci := 7) dL_law_446 ml_L_59 (by decide) rfl ⟨by decide, rfl⟩ (c_X7_spent μ hA) (by decide) (Nat.le_of_ble_eq_true rfl) ?_
  rintro _ μ1 ⟨rfl, hμ⟩
  obtain rfl := hμ.symm
  refine J_aload_n hx hb (pc := 449) dL_law_449 rfl rfl ?_
  refine J_aload_n hx hb (pc := 450) dL_law_450 rfl rfl ?_
  refine J_iload_n hx hb (pc := 451) dL_law_451 rfl rfl ?_
  refine J_iconst hx hb (pc := 452) (v := 1) dL_law_452 (by decide) ?_
  refine J_iadd hx hb (pc := 453) dL_law_453 ?_
  refine L_sld C (pc := 454) (j := i + 1) (nI_add i 1) (by omega) dL_law_454 ?_
  refine L_inv1 C hcn hsn (pc := 455) (ci := 8) dL_law_455 ml_L_62 (by decide) rfl ⟨by decide, rfl⟩ (c_X8_spent μ hO hM) (by decide) (Nat.le_of_ble_eq_true rfl) ?_
  rintro _ μ2 ⟨rfl, hμ⟩
  obtain rfl := hμ.symm
  exact J_icmpeq hx hb (pc := 458) (tgt := 897) dL_law_458 (by decide) (fun _ => K _ _ (hA) (hM) (Nx.rf hI)) (fun h => absurd rfl h)
set_option maxHeartbeats 4000000 in
set_option maxRecDepth 100000 in
theorem law_c11 {p : Program} {l : Launch} {e : Env} {s : State} {m : MethodId} {below : List Frame} {meth : Method} {c : Code} {b L : Nat} {xs : Nat → Int32} {g : GW} {cn sn : Nat} {Z : State → Prop} {μ : Mm} {a : AT} {i : Nat} (C : LC p s m meth c b L xs g) (hcn : cn ≤ 600000) (hsn : sn ≤ 7302250) (hA : RC μ a) (hM : RM μ a) (hI : AI a) (hnb : aNb a < 600) (hi5 : i + 5 ≤ L) (K : ∀ μ' a', RC μ' a' → RM μ' a' → Nx a a' → J p l e room_1 s m #[Value.ref b] below meth c Z g 4 (LX g s.heap μ') cn sn 897 [.ref 91, .ref 0, .ref 65, .int (nI i)] []) : J p l e room_1 s m #[Value.ref b] below meth c Z g 4 (LX g s.heap μ) cn sn 463 [.ref 91, .ref 0, .ref 65, .int (nI i)] [] := by
  have hx := C.1.1
  have hb := C.1.2.1
  have hL := C.2.2.2.2
  have hO := hA.ok
  have hJ := hI.1
  refine J_aload_n hx hb (pc := 463) dL_law_463 rfl rfl ?_
  refine J_aload_n hx hb (pc := 464) dL_law_464 rfl rfl ?_
  refine J_iload_n hx hb (pc := 465) dL_law_465 rfl rfl ?_
  refine J_iconst hx hb (pc := 466) (v := 1) dL_law_466 (by decide) ?_
  refine J_iadd hx hb (pc := 467) dL_law_467 ?_
  refine L_sld C (pc := 468) (j := i + 1) (nI_add i 1) (by omega) dL_law_468 ?_
  refine L_inv1 C hcn hsn (pc := 469) (ci := 7) dL_law_469 ml_L_63 (by decide) rfl ⟨by decide, rfl⟩ (c_X7_blow μ hA) (by decide) (Nat.le_of_ble_eq_true rfl) ?_
  rintro _ μ1 ⟨rfl, hA1, hC1⟩
  have hM1 := hM.C hC1
  refine J_aload_n hx hb (pc := 472) dL_law_472 rfl rfl ?_
  refine J_aload_n hx hb (pc := 473) dL_law_473 rfl rfl ?_
  refine J_iload_n hx hb (pc := 474) dL_law_474 rfl rfl ?_
  refine J_iconst hx hb (pc := 475) (v := 1) dL_law_475 (by decide) ?_
  refine J_iadd hx hb (pc := 476) dL_law_476 ?_
  refine L_sld C (pc := 477) (j := i + 1) (nI_add i 1) (by omega) dL_law_477 ?_
  refine L_inv1 C hcn hsn (pc := 478) (ci := 8) dL_law_478 ml_L_66 (by decide) rfl ⟨by decide, rfl⟩ (c_X8_blow μ1 hO hM1) (by decide) (Nat.le_of_ble_eq_true rfl) ?_
  rintro _ μ2 ⟨rfl, hM2, hX2⟩
  exact J_icmpeq hx hb (pc := 481) (tgt := 897) dL_law_481 (by decide) (fun _ => K _ _ (hA1.X hX2) (hM2) (nx_blow hI)) (fun h => absurd rfl h)
set_option maxHeartbeats 4000000 in
set_option maxRecDepth 100000 in
theorem law_c12 {p : Program} {l : Launch} {e : Env} {s : State} {m : MethodId} {below : List Frame} {meth : Method} {c : Code} {b L : Nat} {xs : Nat → Int32} {g : GW} {cn sn : Nat} {Z : State → Prop} {μ : Mm} {a : AT} {i : Nat} (C : LC p s m meth c b L xs g) (hcn : cn ≤ 600000) (hsn : sn ≤ 7302250) (hA : RC μ a) (hM : RM μ a) (hI : AI a) (hnb : aNb a < 600) (hi5 : i + 5 ≤ L) (K : ∀ μ' a', RC μ' a' → RM μ' a' → Nx a a' → J p l e room_1 s m #[Value.ref b] below meth c Z g 4 (LX g s.heap μ') cn sn 897 [.ref 91, .ref 0, .ref 65, .int (nI i)] []) : J p l e room_1 s m #[Value.ref b] below meth c Z g 4 (LX g s.heap μ) cn sn 486 [.ref 91, .ref 0, .ref 65, .int (nI i)] [] := by
  have hx := C.1.1
  have hb := C.1.2.1
  have hL := C.2.2.2.2
  have hO := hA.ok
  have hJ := hI.1
  refine J_aload_n hx hb (pc := 486) dL_law_486 rfl rfl ?_
  refine L_inv0 C hcn hsn (pc := 487) (ci := 7) dL_law_487 ml_L_67 (by decide) rfl ⟨by decide, rfl⟩ (c_X7_moon μ hA) (by decide) (Nat.le_of_ble_eq_true rfl) ?_
  rintro _ μ1 ⟨rfl, hA1, hC1⟩
  have hM1 := hM.C hC1
  refine J_aload_n hx hb (pc := 490) dL_law_490 rfl rfl ?_
  refine L_inv0 C hcn hsn (pc := 491) (ci := 8) dL_law_491 ml_L_70 (by decide) rfl ⟨by decide, rfl⟩ (c_X8_moon μ1 hO hM1) (by decide) (Nat.le_of_ble_eq_true rfl) ?_
  rintro _ μ2 ⟨rfl, hM2, hX2⟩
  exact J_icmpeq hx hb (pc := 494) (tgt := 897) dL_law_494 (by decide) (fun _ => K _ _ (hA1.X hX2) (hM2) (nx_moon hI)) (fun h => absurd rfl h)
set_option maxHeartbeats 4000000 in
set_option maxRecDepth 100000 in
theorem law_c13 {p : Program} {l : Launch} {e : Env} {s : State} {m : MethodId} {below : List Frame} {meth : Method} {c : Code} {b L : Nat} {xs : Nat → Int32} {g : GW} {cn sn : Nat} {Z : State → Prop} {μ : Mm} {a : AT} {i : Nat} (C : LC p s m meth c b L xs g) (hcn : cn ≤ 600000) (hsn : sn ≤ 7302250) (hA : RC μ a) (hM : RM μ a) (hI : AI a) (hnb : aNb a < 600) (hi5 : i + 5 ≤ L) (K : ∀ μ' a', RC μ' a' → RM μ' a' → Nx a a' → J p l e room_1 s m #[Value.ref b] below meth c Z g 4 (LX g s.heap μ') cn sn 897 [.ref 91, .ref 0, .ref 65, .int (nI i)] []) : J p l e room_1 s m #[Value.ref b] below meth c Z g 4 (LX g s.heap μ) cn sn 499 [.ref 91, .ref 0, .ref 65, .int (nI i)] [] := by
  have hx := C.1.1
  have hb := C.1.2.1
  have hL := C.2.2.2.2
  have hO := hA.ok
  have hJ := hI.1
  refine J_aload_n hx hb (pc := 499) dL_law_499 rfl rfl ?_
  refine J_aload_n hx hb (pc := 500) dL_law_500 rfl rfl ?_
  refine J_iload_n hx hb (pc := 501) dL_law_501 rfl rfl ?_
  refine J_iconst hx hb (pc := 502) (v := 1) dL_law_502 (by decide) ?_
  refine J_iadd hx hb (pc := 503) dL_law_503 ?_
  refine L_sld C (pc := 504) (j := i + 1) (nI_add i 1) (by omega) dL_law_504 ?_
  refine J_aload_n hx hb (pc := 505) dL_law_505 rfl rfl ?_
  refine J_iload_n hx hb (pc := 506) dL_law_506 rfl rfl ?_
  refine J_iconst hx hb (pc := 507) (v := 2) dL_law_507 (by decide) ?_
  refine J_iadd hx hb (pc := 508) dL_law_508 ?_
  refine L_sld C (pc := 509) (j := i + 2) (nI_add i 2) (by omega) dL_law_509 ?_
  refine J_aload_n hx hb (pc := 510) dL_law_510 rfl rfl ?_
  refine J_iload_n hx hb (pc := 511) dL_law_511 rfl rfl ?_
  refine J_iconst hx hb (pc := 512) (v := 3) dL_law_512 (by decide) ?_
  refine J_iadd hx hb (pc := 513) dL_law_513 ?_
  refine L_sld C (pc := 514) (j := i + 3) (nI_add i 3) (by omega) dL_law_514 ?_
  refine L_inv3 C hcn hsn (pc := 515) (ci := 7) dL_law_515 ml_L_71 (by decide) rfl ⟨by decide, rfl⟩ (c_X7_likely μ hA) (by decide) (Nat.le_of_ble_eq_true rfl) ?_
  rintro _ μ1 ⟨rfl, hA1, hC1⟩
  have hM1 := hM.C hC1
  refine J_aload_n hx hb (pc := 518) dL_law_518 rfl rfl ?_
  refine J_aload_n hx hb (pc := 519) dL_law_519 rfl rfl ?_
  refine J_iload_n hx hb (pc := 520) dL_law_520 rfl rfl ?_
  refine J_iconst hx hb (pc := 521) (v := 1) dL_law_521 (by decide) ?_
  refine J_iadd hx hb (pc := 522) dL_law_522 ?_
  refine L_sld C (pc := 523) (j := i + 1) (nI_add i 1) (by omega) dL_law_523 ?_
  refine J_aload_n hx hb (pc := 524) dL_law_524 rfl rfl ?_
  refine J_iload_n hx hb (pc := 525) dL_law_525 rfl rfl ?_
  refine J_iconst hx hb (pc := 526) (v := 2) dL_law_526 (by decide) ?_
  refine J_iadd hx hb (pc := 527) dL_law_527 ?_
  refine L_sld C (pc := 528) (j := i + 2) (nI_add i 2) (by omega) dL_law_528 ?_
  refine J_aload_n hx hb (pc := 529) dL_law_529 rfl rfl ?_
  refine J_iload_n hx hb (pc := 530) dL_law_530 rfl rfl ?_
  refine J_iconst hx hb (pc := 531) (v := 3) dL_law_531 (by decide) ?_
  refine J_iadd hx hb (pc := 532) dL_law_532 ?_
  refine L_sld C (pc := 533) (j := i + 3) (nI_add i 3) (by omega) dL_law_533 ?_
  refine L_inv3 C hcn hsn (pc := 534) (ci := 8) dL_law_534 ml_L_75 (by decide) rfl ⟨by decide, rfl⟩ (c_X8_likely μ1 hO hM1 hJ) (by decide) (Nat.le_of_ble_eq_true rfl) ?_
  rintro _ μ2 ⟨rfl, hM2, hX2⟩
  refine J_lcmp hx hb (pc := 537) dL_law_537 ?_
  exact J_ifeq hx hb (pc := 538) (tgt := 897) dL_law_538 (by decide) (fun _ => K _ _ (hA1.X hX2) (hM2) (Nx.rf hI)) (fun h => absurd (lcmp_rfl _) h)
set_option maxHeartbeats 4000000 in
set_option maxRecDepth 100000 in
theorem law_c14 {p : Program} {l : Launch} {e : Env} {s : State} {m : MethodId} {below : List Frame} {meth : Method} {c : Code} {b L : Nat} {xs : Nat → Int32} {g : GW} {cn sn : Nat} {Z : State → Prop} {μ : Mm} {a : AT} {i : Nat} (C : LC p s m meth c b L xs g) (hcn : cn ≤ 600000) (hsn : sn ≤ 7302250) (hA : RC μ a) (hM : RM μ a) (hI : AI a) (hnb : aNb a < 600) (hi5 : i + 5 ≤ L) (K : ∀ μ' a', RC μ' a' → RM μ' a' → Nx a a' → J p l e room_1 s m #[Value.ref b] below meth c Z g 4 (LX g s.heap μ') cn sn 897 [.ref 91, .ref 0, .ref 65, .int (nI i)] []) : J p l e room_1 s m #[Value.ref b] below meth c Z g 4 (LX g s.heap μ) cn sn 543 [.ref 91, .ref 0, .ref 65, .int (nI i)] [] := by
  have hx := C.1.1
  have hb := C.1.2.1
  have hL := C.2.2.2.2
  have hO := hA.ok
  have hJ := hI.1
  refine J_aload_n hx hb (pc := 543) dL_law_543 rfl rfl ?_
  refine J_aload_n hx hb (pc := 544) dL_law_544 rfl rfl ?_
  refine J_iload_n hx hb (pc := 545) dL_law_545 rfl rfl ?_
  refine J_iconst hx hb (pc := 546) (v := 1) dL_law_546 (by decide) ?_
  refine J_iadd hx hb (pc := 547) dL_law_547 ?_
  refine L_sld C (pc := 548) (j := i + 1) (nI_add i 1) (by omega) dL_law_548 ?_
  refine J_aload_n hx hb (pc := 549) dL_law_549 rfl rfl ?_
  refine J_iload_n hx hb (pc := 550) dL_law_550 rfl rfl ?_
  refine J_iconst hx hb (pc := 551) (v := 2) dL_law_551 (by decide) ?_
  refine J_iadd hx hb (pc := 552) dL_law_552 ?_
  refine L_sld C (pc := 553) (j := i + 2) (nI_add i 2) (by omega) dL_law_553 ?_
  refine J_aload_n hx hb (pc := 554) dL_law_554 rfl rfl ?_
  refine J_iload_n hx hb (pc := 555) dL_law_555 rfl rfl ?_
  refine J_iconst hx hb (pc := 556) (v := 3) dL_law_556 (by decide) ?_
  refine J_iadd hx hb (pc := 557) dL_law_557 ?_
  refine L_sld C (pc := 558) (j := i + 3) (nI_add i 3) (by omega) dL_law_558 ?_
  refine L_inv3 C hcn hsn (pc := 559) (ci := 7) dL_law_559 ml_L_76 (by decide) rfl ⟨by decide, rfl⟩ (c_X7_what μ hA) (by decide) (Nat.le_of_ble_eq_true rfl) ?_
  rintro _ μ1 ⟨rfl, hA1, hC1⟩
  have hM1 := hM.C hC1
  refine J_aload_n hx hb (pc := 562) dL_law_562 rfl rfl ?_
  refine J_aload_n hx hb (pc := 563) dL_law_563 rfl rfl ?_
  refine J_iload_n hx hb (pc := 564) dL_law_564 rfl rfl ?_
  refine J_iconst hx hb (pc := 565) (v := 1) dL_law_565 (by decide) ?_
  refine J_iadd hx hb (pc := 566) dL_law_566 ?_
  refine L_sld C (pc := 567) (j := i + 1) (nI_add i 1) (by omega) dL_law_567 ?_
  refine J_aload_n hx hb (pc := 568) dL_law_568 rfl rfl ?_
  refine J_iload_n hx hb (pc := 569) dL_law_569 rfl rfl ?_
  refine J_iconst hx hb (pc := 570) (v := 2) dL_law_570 (by decide) ?_
  refine J_iadd hx hb (pc := 571) dL_law_571 ?_
  refine L_sld C (pc := 572) (j := i + 2) (nI_add i 2) (by omega) dL_law_572 ?_
  refine J_aload_n hx hb (pc := 573) dL_law_573 rfl rfl ?_
  refine J_iload_n hx hb (pc := 574) dL_law_574 rfl rfl ?_
  refine J_iconst hx hb (pc := 575) (v := 3) dL_law_575 (by decide) ?_
  refine J_iadd hx hb (pc := 576) dL_law_576 ?_
  refine L_sld C (pc := 577) (j := i + 3) (nI_add i 3) (by omega) dL_law_577 ?_
  refine L_inv3 C hcn hsn (pc := 578) (ci := 8) dL_law_578 ml_L_80 (by decide) rfl ⟨by decide, rfl⟩ (c_X8_what μ1 hO hM1 hJ) (by decide) (Nat.le_of_ble_eq_true rfl) ?_
  rintro _ μ2 ⟨rfl, hM2, hX2⟩
  exact J_icmpeq hx hb (pc := 581) (tgt := 897) dL_law_581 (by decide) (fun _ => K _ _ (hA1.X hX2) (hM2) (Nx.rf hI)) (fun h => absurd rfl h)
set_option maxHeartbeats 4000000 in
set_option maxRecDepth 100000 in
theorem law_c15 {p : Program} {l : Launch} {e : Env} {s : State} {m : MethodId} {below : List Frame} {meth : Method} {c : Code} {b L : Nat} {xs : Nat → Int32} {g : GW} {cn sn : Nat} {Z : State → Prop} {μ : Mm} {a : AT} {i : Nat} (C : LC p s m meth c b L xs g) (hcn : cn ≤ 600000) (hsn : sn ≤ 7302250) (hA : RC μ a) (hM : RM μ a) (hI : AI a) (hnb : aNb a < 600) (hi5 : i + 5 ≤ L) (K : ∀ μ' a', RC μ' a' → RM μ' a' → Nx a a' → J p l e room_1 s m #[Value.ref b] below meth c Z g 4 (LX g s.heap μ') cn sn 897 [.ref 91, .ref 0, .ref 65, .int (nI i)] []) : J p l e room_1 s m #[Value.ref b] below meth c Z g 4 (LX g s.heap μ) cn sn 586 [.ref 91, .ref 0, .ref 65, .int (nI i)] [] := by
  have hx := C.1.1
  have hb := C.1.2.1
  have hL := C.2.2.2.2
  have hO := hA.ok
  have hJ := hI.1
  refine J_aload_n hx hb (pc := 586) dL_law_586 rfl rfl ?_
  refine J_aload_n hx hb (pc := 587) dL_law_587 rfl rfl ?_
  refine J_iload_n hx hb (pc := 588) dL_law_588 rfl rfl ?_
  refine J_iconst hx hb (pc := 589) (v := 1) dL_law_589 (by decide) ?_
  refine J_iadd hx hb (pc := 590) dL_law_590 ?_
  refine L_sld C (pc := 591) (j := i + 1) (nI_add i 1) (by omega) dL_law_591 ?_
  refine L_inv1 C hcn hsn (pc := 592) (ci := 7) dL_law_592 ml_L_81 (by decide) rfl ⟨by decide, rfl⟩ (c_X7_sure μ hA) (by decide) (Nat.le_of_ble_eq_true rfl) ?_
  rintro _ μ1 ⟨rfl, hA1, hC1⟩
  have hM1 := hM.C hC1
  refine J_aload_n hx hb (pc := 595) dL_law_595 rfl rfl ?_
  refine J_aload_n hx hb (pc := 596) dL_law_596 rfl rfl ?_
  refine J_iload_n hx hb (pc := 597) dL_law_597 rfl rfl ?_
  refine J_iconst hx hb (pc := 598) (v := 1) dL_law_598 (by decide) ?_
  refine J_iadd hx hb (pc := 599) dL_law_599 ?_
  refine L_sld C (pc := 600) (j := i + 1) (nI_add i 1) (by omega) dL_law_600 ?_
  refine L_inv1 C hcn hsn (pc := 601) (ci := 8) dL_law_601 ml_L_84 (by decide) rfl ⟨by decide, rfl⟩ (c_X8_sure μ1 hO hM1 hJ) (by decide) (Nat.le_of_ble_eq_true rfl) ?_
  rintro _ μ2 ⟨rfl, hM2, hX2⟩
  exact J_icmpeq hx hb (pc := 604) (tgt := 897) dL_law_604 (by decide) (fun _ => K _ _ (hA1.X hX2) (hM2) (Nx.rf hI)) (fun h => absurd rfl h)
set_option maxHeartbeats 4000000 in
set_option maxRecDepth 100000 in
theorem law_c16 {p : Program} {l : Launch} {e : Env} {s : State} {m : MethodId} {below : List Frame} {meth : Method} {c : Code} {b L : Nat} {xs : Nat → Int32} {g : GW} {cn sn : Nat} {Z : State → Prop} {μ : Mm} {a : AT} {i : Nat} (C : LC p s m meth c b L xs g) (hcn : cn ≤ 600000) (hsn : sn ≤ 7302250) (hA : RC μ a) (hM : RM μ a) (hI : AI a) (hnb : aNb a < 600) (hi5 : i + 5 ≤ L) (K : ∀ μ' a', RC μ' a' → RM μ' a' → Nx a a' → J p l e room_1 s m #[Value.ref b] below meth c Z g 4 (LX g s.heap μ') cn sn 897 [.ref 91, .ref 0, .ref 65, .int (nI i)] []) : J p l e room_1 s m #[Value.ref b] below meth c Z g 4 (LX g s.heap μ) cn sn 609 [.ref 91, .ref 0, .ref 65, .int (nI i)] [] := by
  have hx := C.1.1
  have hb := C.1.2.1
  have hL := C.2.2.2.2
  have hO := hA.ok
  have hJ := hI.1
  refine J_aload_n hx hb (pc := 609) dL_law_609 rfl rfl ?_
  refine L_inv0 C hcn hsn (pc := 610) (ci := 7) dL_law_610 ml_L_85 (by decide) rfl ⟨by decide, rfl⟩ (c_X7_tells μ hA) (by decide) (Nat.le_of_ble_eq_true rfl) ?_
  rintro _ μ1 ⟨rfl, hμ⟩
  obtain rfl := hμ.symm
  refine J_aload_n hx hb (pc := 613) dL_law_613 rfl rfl ?_
  refine L_inv0 C hcn hsn (pc := 614) (ci := 8) dL_law_614 ml_L_88 (by decide) rfl ⟨by decide, rfl⟩ (c_X8_tells μ hO hM) (by decide) (Nat.le_of_ble_eq_true rfl) ?_
  rintro _ μ2 ⟨rfl, hμ⟩
  obtain rfl := hμ.symm
  exact J_icmpeq hx hb (pc := 617) (tgt := 897) dL_law_617 (by decide) (fun _ => K _ _ (hA) (hM) (Nx.rf hI)) (fun h => absurd rfl h)
set_option maxHeartbeats 4000000 in
set_option maxRecDepth 100000 in
theorem law_c17 {p : Program} {l : Launch} {e : Env} {s : State} {m : MethodId} {below : List Frame} {meth : Method} {c : Code} {b L : Nat} {xs : Nat → Int32} {g : GW} {cn sn : Nat} {Z : State → Prop} {μ : Mm} {a : AT} {i : Nat} (C : LC p s m meth c b L xs g) (hcn : cn ≤ 600000) (hsn : sn ≤ 7302250) (hA : RC μ a) (hM : RM μ a) (hI : AI a) (hnb : aNb a < 600) (hi5 : i + 5 ≤ L) (K : ∀ μ' a', RC μ' a' → RM μ' a' → Nx a a' → J p l e room_1 s m #[Value.ref b] below meth c Z g 4 (LX g s.heap μ') cn sn 897 [.ref 91, .ref 0, .ref 65, .int (nI i)] []) : J p l e room_1 s m #[Value.ref b] below meth c Z g 4 (LX g s.heap μ) cn sn 622 [.ref 91, .ref 0, .ref 65, .int (nI i)] [] := by
  have hx := C.1.1
  have hb := C.1.2.1
  have hL := C.2.2.2.2
  have hO := hA.ok
  have hJ := hI.1
  refine J_aload_n hx hb (pc := 622) dL_law_622 rfl rfl ?_
  refine J_aload_n hx hb (pc := 623) dL_law_623 rfl rfl ?_
  refine J_iload_n hx hb (pc := 624) dL_law_624 rfl rfl ?_
  refine J_iconst hx hb (pc := 625) (v := 1) dL_law_625 (by decide) ?_
  refine J_iadd hx hb (pc := 626) dL_law_626 ?_
  refine L_sld C (pc := 627) (j := i + 1) (nI_add i 1) (by omega) dL_law_627 ?_
  refine J_aload_n hx hb (pc := 628) dL_law_628 rfl rfl ?_
  refine J_iload_n hx hb (pc := 629) dL_law_629 rfl rfl ?_
  refine J_iconst hx hb (pc := 630) (v := 2) dL_law_630 (by decide) ?_
  refine J_iadd hx hb (pc := 631) dL_law_631 ?_
  refine L_sld C (pc := 632) (j := i + 2) (nI_add i 2) (by omega) dL_law_632 ?_
  refine J_aload_n hx hb (pc := 633) dL_law_633 rfl rfl ?_
  refine J_iload_n hx hb (pc := 634) dL_law_634 rfl rfl ?_
  refine J_iconst hx hb (pc := 635) (v := 3) dL_law_635 (by decide) ?_
  refine J_iadd hx hb (pc := 636) dL_law_636 ?_
  refine L_sld C (pc := 637) (j := i + 3) (nI_add i 3) (by omega) dL_law_637 ?_
  refine J_aload_n hx hb (pc := 638) dL_law_638 rfl rfl ?_
  refine J_iload_n hx hb (pc := 639) dL_law_639 rfl rfl ?_
  refine J_iconst hx hb (pc := 640) (v := 4) dL_law_640 (by decide) ?_
  refine J_iadd hx hb (pc := 641) dL_law_641 ?_
  refine L_sld C (pc := 642) (j := i + 4) (nI_add i 4) (by omega) dL_law_642 ?_
  refine L_inv4 C hcn hsn (pc := 643) (ci := 7) dL_law_643 ml_L_89 (by decide) rfl ⟨by decide, rfl⟩ (c_X7_race μ hA) (by decide) (Nat.le_of_ble_eq_true rfl) ?_
  rintro _ μ1 ⟨rfl, hμ⟩
  obtain rfl := hμ.symm
  refine J_aload_n hx hb (pc := 646) dL_law_646 rfl rfl ?_
  refine J_aload_n hx hb (pc := 647) dL_law_647 rfl rfl ?_
  refine J_iload_n hx hb (pc := 648) dL_law_648 rfl rfl ?_
  refine J_iconst hx hb (pc := 649) (v := 1) dL_law_649 (by decide) ?_
  refine J_iadd hx hb (pc := 650) dL_law_650 ?_
  refine L_sld C (pc := 651) (j := i + 1) (nI_add i 1) (by omega) dL_law_651 ?_
  refine J_aload_n hx hb (pc := 652) dL_law_652 rfl rfl ?_
  refine J_iload_n hx hb (pc := 653) dL_law_653 rfl rfl ?_
  refine J_iconst hx hb (pc := 654) (v := 2) dL_law_654 (by decide) ?_
  refine J_iadd hx hb (pc := 655) dL_law_655 ?_
  refine L_sld C (pc := 656) (j := i + 2) (nI_add i 2) (by omega) dL_law_656 ?_
  refine J_aload_n hx hb (pc := 657) dL_law_657 rfl rfl ?_
  refine J_iload_n hx hb (pc := 658) dL_law_658 rfl rfl ?_
  refine J_iconst hx hb (pc := 659) (v := 3) dL_law_659 (by decide) ?_
  refine J_iadd hx hb (pc := 660) dL_law_660 ?_
  refine L_sld C (pc := 661) (j := i + 3) (nI_add i 3) (by omega) dL_law_661 ?_
  refine J_aload_n hx hb (pc := 662) dL_law_662 rfl rfl ?_
  refine J_iload_n hx hb (pc := 663) dL_law_663 rfl rfl ?_
  refine J_iconst hx hb (pc := 664) (v := 4) dL_law_664 (by decide) ?_
  refine J_iadd hx hb (pc := 665) dL_law_665 ?_
  refine L_sld C (pc := 666) (j := i + 4) (nI_add i 4) (by omega) dL_law_666 ?_
  refine L_inv4 C hcn hsn (pc := 667) (ci := 8) dL_law_667 ml_L_93 (by decide) rfl ⟨by decide, rfl⟩ (c_X8_race μ hO hM hJ) (by decide) (Nat.le_of_ble_eq_true rfl) ?_
  rintro _ μ2 ⟨rfl, hM2, hX2⟩
  refine J_lcmp hx hb (pc := 670) dL_law_670 ?_
  exact J_ifeq hx hb (pc := 671) (tgt := 897) dL_law_671 (by decide) (fun _ => K _ _ (hA.X hX2) (hM2) (Nx.rf hI)) (fun h => absurd (lcmp_rfl _) h)
set_option maxHeartbeats 4000000 in
set_option maxRecDepth 100000 in
theorem law_c18 {p : Program} {l : Launch} {e : Env} {s : State} {m : MethodId} {below : List Frame} {meth : Method} {c : Code} {b L : Nat} {xs : Nat → Int32} {g : GW} {cn sn : Nat} {Z : State → Prop} {μ : Mm} {a : AT} {i : Nat} (C : LC p s m meth c b L xs g) (hcn : cn ≤ 600000) (hsn : sn ≤ 7302250) (hA : RC μ a) (hM : RM μ a) (hI : AI a) (hnb : aNb a < 600) (hi5 : i + 5 ≤ L) (K : ∀ μ' a', RC μ' a' → RM μ' a' → Nx a a' → J p l e room_1 s m #[Value.ref b] below meth c Z g 4 (LX g s.heap μ') cn sn 897 [.ref 91, .ref 0, .ref 65, .int (nI i)] []) : J p l e room_1 s m #[Value.ref b] below meth c Z g 4 (LX g s.heap μ) cn sn 676 [.ref 91, .ref 0, .ref 65, .int (nI i)] [] := by
  have hx := C.1.1
  have hb := C.1.2.1
  have hL := C.2.2.2.2
  have hO := hA.ok
  have hJ := hI.1
  refine J_aload_n hx hb (pc := 676) dL_law_676 rfl rfl ?_
  refine J_aload_n hx hb (pc := 677) dL_law_677 rfl rfl ?_
  refine J_iload_n hx hb (pc := 678) dL_law_678 rfl rfl ?_
  refine J_iconst hx hb (pc := 679) (v := 1) dL_law_679 (by decide) ?_
  refine J_iadd hx hb (pc := 680) dL_law_680 ?_
  refine L_sld C (pc := 681) (j := i + 1) (nI_add i 1) (by omega) dL_law_681 ?_
  refine L_inv1 C hcn hsn (pc := 682) (ci := 7) dL_law_682 ml_L_94 (by decide) rfl ⟨by decide, rfl⟩ (c_X7_guess μ hA) (by decide) (Nat.le_of_ble_eq_true rfl) ?_
  rintro _ μ1 ⟨rfl, hμ⟩
  obtain rfl := hμ.symm
  refine J_aload_n hx hb (pc := 685) dL_law_685 rfl rfl ?_
  refine J_aload_n hx hb (pc := 686) dL_law_686 rfl rfl ?_
  refine J_iload_n hx hb (pc := 687) dL_law_687 rfl rfl ?_
  refine J_iconst hx hb (pc := 688) (v := 1) dL_law_688 (by decide) ?_
  refine J_iadd hx hb (pc := 689) dL_law_689 ?_
  refine L_sld C (pc := 690) (j := i + 1) (nI_add i 1) (by omega) dL_law_690 ?_
  refine L_inv1 C hcn hsn (pc := 691) (ci := 8) dL_law_691 ml_L_97 (by decide) rfl ⟨by decide, rfl⟩ (c_X8_guess μ hO hM) (by decide) (Nat.le_of_ble_eq_true rfl) ?_
  rintro _ μ2 ⟨rfl, hμ⟩
  obtain rfl := hμ.symm
  exact J_icmpeq hx hb (pc := 694) (tgt := 897) dL_law_694 (by decide) (fun _ => K _ _ (hA) (hM) (Nx.rf hI)) (fun h => absurd rfl h)
set_option maxHeartbeats 4000000 in
set_option maxRecDepth 100000 in
theorem law_c19 {p : Program} {l : Launch} {e : Env} {s : State} {m : MethodId} {below : List Frame} {meth : Method} {c : Code} {b L : Nat} {xs : Nat → Int32} {g : GW} {cn sn : Nat} {Z : State → Prop} {μ : Mm} {a : AT} {i : Nat} (C : LC p s m meth c b L xs g) (hcn : cn ≤ 600000) (hsn : sn ≤ 7302250) (hA : RC μ a) (hM : RM μ a) (hI : AI a) (hnb : aNb a < 600) (hi5 : i + 5 ≤ L) (K : ∀ μ' a', RC μ' a' → RM μ' a' → Nx a a' → J p l e room_1 s m #[Value.ref b] below meth c Z g 4 (LX g s.heap μ') cn sn 897 [.ref 91, .ref 0, .ref 65, .int (nI i)] []) : J p l e room_1 s m #[Value.ref b] below meth c Z g 4 (LX g s.heap μ) cn sn 699 [.ref 91, .ref 0, .ref 65, .int (nI i)] [] := by
  have hx := C.1.1
  have hb := C.1.2.1
  have hL := C.2.2.2.2
  have hO := hA.ok
  have hJ := hI.1
  refine J_aload_n hx hb (pc := 699) dL_law_699 rfl rfl ?_
  refine J_aload_n hx hb (pc := 700) dL_law_700 rfl rfl ?_
  refine J_iload_n hx hb (pc := 701) dL_law_701 rfl rfl ?_
  refine J_iconst hx hb (pc := 702) (v := 1) dL_law_702 (by decide) ?_
  refine J_iadd hx hb (pc := 703) dL_law_703 ?_
  refine L_sld C (pc := 704) (j := i + 1) (nI_add i 1) (by omega) dL_law_704 ?_
  refine J_aload_n hx hb (pc := 705) dL_law_705 rfl rfl ?_
  refine J_iload_n hx hb (pc := 706) dL_law_706 rfl rfl ?_
  refine J_iconst hx hb (pc := 707) (v := 2) dL_law_707 (by decide) ?_
  refine J_iadd hx hb (pc := 708) dL_law_708 ?_
  refine L_sld C (pc := 709) (j := i + 2) (nI_add i 2) (by omega) dL_law_709 ?_
  refine L_inv2 C hcn hsn (pc := 710) (ci := 7) dL_law_710 ml_L_98 (by decide) rfl ⟨by decide, rfl⟩ (c_X7_wake μ hA) (by decide) (Nat.le_of_ble_eq_true rfl) ?_
  rintro _ μ1 ⟨rfl, hA1, hC1⟩
  have hM1 := hM.C hC1
  refine J_aload_n hx hb (pc := 713) dL_law_713 rfl rfl ?_
  refine J_aload_n hx hb (pc := 714) dL_law_714 rfl rfl ?_
  refine J_iload_n hx hb (pc := 715) dL_law_715 rfl rfl ?_
  refine J_iconst hx hb (pc := 716) (v := 1) dL_law_716 (by decide) ?_
  refine J_iadd hx hb (pc := 717) dL_law_717 ?_
  refine L_sld C (pc := 718) (j := i + 1) (nI_add i 1) (by omega) dL_law_718 ?_
  refine J_aload_n hx hb (pc := 719) dL_law_719 rfl rfl ?_
  refine J_iload_n hx hb (pc := 720) dL_law_720 rfl rfl ?_
  refine J_iconst hx hb (pc := 721) (v := 2) dL_law_721 (by decide) ?_
  refine J_iadd hx hb (pc := 722) dL_law_722 ?_
  refine L_sld C (pc := 723) (j := i + 2) (nI_add i 2) (by omega) dL_law_723 ?_
  refine L_inv2 C hcn hsn (pc := 724) (ci := 8) dL_law_724 ml_L_101 (by decide) rfl ⟨by decide, rfl⟩ (c_X8_wake μ1 hO hM1) (by decide) (Nat.le_of_ble_eq_true rfl) ?_
  rintro _ μ2 ⟨rfl, hM2, hX2⟩
  exact J_icmpeq hx hb (pc := 727) (tgt := 897) dL_law_727 (by decide) (fun _ => K _ _ (hA1.X hX2) (hM2) (nx_wake hI)) (fun h => absurd rfl h)
set_option maxHeartbeats 4000000 in
set_option maxRecDepth 100000 in
theorem law_c20 {p : Program} {l : Launch} {e : Env} {s : State} {m : MethodId} {below : List Frame} {meth : Method} {c : Code} {b L : Nat} {xs : Nat → Int32} {g : GW} {cn sn : Nat} {Z : State → Prop} {μ : Mm} {a : AT} {i : Nat} (C : LC p s m meth c b L xs g) (hcn : cn ≤ 600000) (hsn : sn ≤ 7302250) (hA : RC μ a) (hM : RM μ a) (hI : AI a) (hnb : aNb a < 600) (hi5 : i + 5 ≤ L) (K : ∀ μ' a', RC μ' a' → RM μ' a' → Nx a a' → J p l e room_1 s m #[Value.ref b] below meth c Z g 4 (LX g s.heap μ') cn sn 897 [.ref 91, .ref 0, .ref 65, .int (nI i)] []) : J p l e room_1 s m #[Value.ref b] below meth c Z g 4 (LX g s.heap μ) cn sn 732 [.ref 91, .ref 0, .ref 65, .int (nI i)] [] := by
  have hx := C.1.1
  have hb := C.1.2.1
  have hL := C.2.2.2.2
  have hO := hA.ok
  have hJ := hI.1
  refine J_aload_n hx hb (pc := 732) dL_law_732 rfl rfl ?_
  refine J_aload_n hx hb (pc := 733) dL_law_733 rfl rfl ?_
  refine J_iload_n hx hb (pc := 734) dL_law_734 rfl rfl ?_
  refine J_iconst hx hb (pc := 735) (v := 1) dL_law_735 (by decide) ?_
  refine J_iadd hx hb (pc := 736) dL_law_736 ?_
  refine L_sld C (pc := 737) (j := i + 1) (nI_add i 1) (by omega) dL_law_737 ?_
  refine L_inv1 C hcn hsn (pc := 738) (ci := 7) dL_law_738 ml_L_102 (by decide) rfl ⟨by decide, rfl⟩ (c_X7_then μ hA) (by decide) (Nat.le_of_ble_eq_true rfl) ?_
  rintro _ μ1 ⟨rfl, hA1, hC1⟩
  have hM1 := hM.C hC1
  refine J_aload_n hx hb (pc := 741) dL_law_741 rfl rfl ?_
  refine J_aload_n hx hb (pc := 742) dL_law_742 rfl rfl ?_
  refine J_iload_n hx hb (pc := 743) dL_law_743 rfl rfl ?_
  refine J_iconst hx hb (pc := 744) (v := 1) dL_law_744 (by decide) ?_
  refine J_iadd hx hb (pc := 745) dL_law_745 ?_
  refine L_sld C (pc := 746) (j := i + 1) (nI_add i 1) (by omega) dL_law_746 ?_
  refine L_inv1 C hcn hsn (pc := 747) (ci := 8) dL_law_747 ml_L_105 (by decide) rfl ⟨by decide, rfl⟩ (c_X8_then μ1 hO hM1) (by decide) (Nat.le_of_ble_eq_true rfl) ?_
  rintro _ μ2 ⟨rfl, hM2, hX2⟩
  exact J_icmpeq hx hb (pc := 750) (tgt := 897) dL_law_750 (by decide) (fun _ => K _ _ (hA1.X hX2) (hM2) (nx_then hI)) (fun h => absurd rfl h)
set_option maxHeartbeats 4000000 in
set_option maxRecDepth 100000 in
theorem law_c21 {p : Program} {l : Launch} {e : Env} {s : State} {m : MethodId} {below : List Frame} {meth : Method} {c : Code} {b L : Nat} {xs : Nat → Int32} {g : GW} {cn sn : Nat} {Z : State → Prop} {μ : Mm} {a : AT} {i : Nat} (C : LC p s m meth c b L xs g) (hcn : cn ≤ 600000) (hsn : sn ≤ 7302250) (hA : RC μ a) (hM : RM μ a) (hI : AI a) (hnb : aNb a < 600) (hi5 : i + 5 ≤ L) (K : ∀ μ' a', RC μ' a' → RM μ' a' → Nx a a' → J p l e room_1 s m #[Value.ref b] below meth c Z g 4 (LX g s.heap μ') cn sn 897 [.ref 91, .ref 0, .ref 65, .int (nI i)] []) : J p l e room_1 s m #[Value.ref b] below meth c Z g 4 (LX g s.heap μ) cn sn 755 [.ref 91, .ref 0, .ref 65, .int (nI i)] [] := by
  have hx := C.1.1
  have hb := C.1.2.1
  have hL := C.2.2.2.2
  have hO := hA.ok
  have hJ := hI.1
  refine J_aload_n hx hb (pc := 755) dL_law_755 rfl rfl ?_
  refine L_inv0 C hcn hsn (pc := 756) (ci := 7) dL_law_756 ml_L_106 (by decide) rfl ⟨by decide, rfl⟩ (c_X7_called μ hA) (by decide) (Nat.le_of_ble_eq_true rfl) ?_
  rintro _ μ1 ⟨rfl, hμ⟩
  obtain rfl := hμ.symm
  refine J_aload_n hx hb (pc := 759) dL_law_759 rfl rfl ?_
  refine L_inv0 C hcn hsn (pc := 760) (ci := 8) dL_law_760 ml_L_109 (by decide) rfl ⟨by decide, rfl⟩ (c_X8_called μ hO hM hJ) (by decide) (Nat.le_of_ble_eq_true rfl) ?_
  rintro _ μ2 ⟨rfl, hμ⟩
  obtain rfl := hμ.symm
  exact J_icmpeq hx hb (pc := 763) (tgt := 897) dL_law_763 (by decide) (fun _ => K _ _ (hA) (hM) (Nx.rf hI)) (fun h => absurd rfl h)
set_option maxHeartbeats 4000000 in
set_option maxRecDepth 100000 in
theorem law_c22 {p : Program} {l : Launch} {e : Env} {s : State} {m : MethodId} {below : List Frame} {meth : Method} {c : Code} {b L : Nat} {xs : Nat → Int32} {g : GW} {cn sn : Nat} {Z : State → Prop} {μ : Mm} {a : AT} {i : Nat} (C : LC p s m meth c b L xs g) (hcn : cn ≤ 600000) (hsn : sn ≤ 7302250) (hA : RC μ a) (hM : RM μ a) (hI : AI a) (hnb : aNb a < 600) (hi5 : i + 5 ≤ L) (K : ∀ μ' a', RC μ' a' → RM μ' a' → Nx a a' → J p l e room_1 s m #[Value.ref b] below meth c Z g 4 (LX g s.heap μ') cn sn 897 [.ref 91, .ref 0, .ref 65, .int (nI i)] []) : J p l e room_1 s m #[Value.ref b] below meth c Z g 4 (LX g s.heap μ) cn sn 768 [.ref 91, .ref 0, .ref 65, .int (nI i)] [] := by
  have hx := C.1.1
  have hb := C.1.2.1
  have hL := C.2.2.2.2
  have hO := hA.ok
  have hJ := hI.1
  refine J_aload_n hx hb (pc := 768) dL_law_768 rfl rfl ?_
  refine J_aload_n hx hb (pc := 769) dL_law_769 rfl rfl ?_
  refine J_iload_n hx hb (pc := 770) dL_law_770 rfl rfl ?_
  refine J_iconst hx hb (pc := 771) (v := 1) dL_law_771 (by decide) ?_
  refine J_iadd hx hb (pc := 772) dL_law_772 ?_
  refine L_sld C (pc := 773) (j := i + 1) (nI_add i 1) (by omega) dL_law_773 ?_
  refine L_inv1 C hcn hsn (pc := 774) (ci := 7) dL_law_774 ml_L_110 (by decide) rfl ⟨by decide, rfl⟩ (c_X7_by μ hA) (by decide) (Nat.le_of_ble_eq_true rfl) ?_
  rintro _ μ1 ⟨rfl, hμ⟩
  obtain rfl := hμ.symm
  refine J_aload_n hx hb (pc := 777) dL_law_777 rfl rfl ?_
  refine J_aload_n hx hb (pc := 778) dL_law_778 rfl rfl ?_
  refine J_iload_n hx hb (pc := 779) dL_law_779 rfl rfl ?_
  refine J_iconst hx hb (pc := 780) (v := 1) dL_law_780 (by decide) ?_
  refine J_iadd hx hb (pc := 781) dL_law_781 ?_
  refine L_sld C (pc := 782) (j := i + 1) (nI_add i 1) (by omega) dL_law_782 ?_
  refine L_inv1 C hcn hsn (pc := 783) (ci := 8) dL_law_783 ml_L_113 (by decide) rfl ⟨by decide, rfl⟩ (c_X8_by μ hO hM hJ) (by decide) (Nat.le_of_ble_eq_true rfl) ?_
  rintro _ μ2 ⟨rfl, hμ⟩
  obtain rfl := hμ.symm
  exact J_icmpeq hx hb (pc := 786) (tgt := 897) dL_law_786 (by decide) (fun _ => K _ _ (hA) (hM) (Nx.rf hI)) (fun h => absurd rfl h)
set_option maxHeartbeats 4000000 in
set_option maxRecDepth 100000 in
theorem law_c23 {p : Program} {l : Launch} {e : Env} {s : State} {m : MethodId} {below : List Frame} {meth : Method} {c : Code} {b L : Nat} {xs : Nat → Int32} {g : GW} {cn sn : Nat} {Z : State → Prop} {μ : Mm} {a : AT} {i : Nat} (C : LC p s m meth c b L xs g) (hcn : cn ≤ 600000) (hsn : sn ≤ 7302250) (hA : RC μ a) (hM : RM μ a) (hI : AI a) (hnb : aNb a < 600) (hi5 : i + 5 ≤ L) (K : ∀ μ' a', RC μ' a' → RM μ' a' → Nx a a' → J p l e room_1 s m #[Value.ref b] below meth c Z g 4 (LX g s.heap μ') cn sn 897 [.ref 91, .ref 0, .ref 65, .int (nI i)] []) : J p l e room_1 s m #[Value.ref b] below meth c Z g 4 (LX g s.heap μ) cn sn 791 [.ref 91, .ref 0, .ref 65, .int (nI i)] [] := by
  have hx := C.1.1
  have hb := C.1.2.1
  have hL := C.2.2.2.2
  have hO := hA.ok
  have hJ := hI.1
  refine J_aload_n hx hb (pc := 791) dL_law_791 rfl rfl ?_
  refine J_aload_n hx hb (pc := 792) dL_law_792 rfl rfl ?_
  refine J_iload_n hx hb (pc := 793) dL_law_793 rfl rfl ?_
  refine J_iconst hx hb (pc := 794) (v := 1) dL_law_794 (by decide) ?_
  refine J_iadd hx hb (pc := 795) dL_law_795 ?_
  refine L_sld C (pc := 796) (j := i + 1) (nI_add i 1) (by omega) dL_law_796 ?_
  refine J_aload_n hx hb (pc := 797) dL_law_797 rfl rfl ?_
  refine J_iload_n hx hb (pc := 798) dL_law_798 rfl rfl ?_
  refine J_iconst hx hb (pc := 799) (v := 2) dL_law_799 (by decide) ?_
  refine J_iadd hx hb (pc := 800) dL_law_800 ?_
  refine L_sld C (pc := 801) (j := i + 2) (nI_add i 2) (by omega) dL_law_801 ?_
  refine J_aload_n hx hb (pc := 802) dL_law_802 rfl rfl ?_
  refine J_iload_n hx hb (pc := 803) dL_law_803 rfl rfl ?_
  refine J_iconst hx hb (pc := 804) (v := 3) dL_law_804 (by decide) ?_
  refine J_iadd hx hb (pc := 805) dL_law_805 ?_
  refine L_sld C (pc := 806) (j := i + 3) (nI_add i 3) (by omega) dL_law_806 ?_
  refine L_inv3 C hcn hsn (pc := 807) (ci := 7) dL_law_807 ml_L_114 (by decide) rfl ⟨by decide, rfl⟩ (c_X7_years μ hA) (by decide) (Nat.le_of_ble_eq_true rfl) ?_
  rintro _ μ1 ⟨rfl, hA1, hC1⟩
  have hM1 := hM.C hC1
  refine J_aload_n hx hb (pc := 810) dL_law_810 rfl rfl ?_
  refine J_aload_n hx hb (pc := 811) dL_law_811 rfl rfl ?_
  refine J_iload_n hx hb (pc := 812) dL_law_812 rfl rfl ?_
  refine J_iconst hx hb (pc := 813) (v := 1) dL_law_813 (by decide) ?_
  refine J_iadd hx hb (pc := 814) dL_law_814 ?_
  refine L_sld C (pc := 815) (j := i + 1) (nI_add i 1) (by omega) dL_law_815 ?_
  refine J_aload_n hx hb (pc := 816) dL_law_816 rfl rfl ?_
  refine J_iload_n hx hb (pc := 817) dL_law_817 rfl rfl ?_
  refine J_iconst hx hb (pc := 818) (v := 2) dL_law_818 (by decide) ?_
  refine J_iadd hx hb (pc := 819) dL_law_819 ?_
  refine L_sld C (pc := 820) (j := i + 2) (nI_add i 2) (by omega) dL_law_820 ?_
  refine J_aload_n hx hb (pc := 821) dL_law_821 rfl rfl ?_
  refine J_iload_n hx hb (pc := 822) dL_law_822 rfl rfl ?_
  refine J_iconst hx hb (pc := 823) (v := 3) dL_law_823 (by decide) ?_
  refine J_iadd hx hb (pc := 824) dL_law_824 ?_
  refine L_sld C (pc := 825) (j := i + 3) (nI_add i 3) (by omega) dL_law_825 ?_
  refine L_inv3 C hcn hsn (pc := 826) (ci := 8) dL_law_826 ml_L_117 (by decide) rfl ⟨by decide, rfl⟩ (c_X8_years μ1 hO hM1) (by decide) (Nat.le_of_ble_eq_true rfl) ?_
  rintro _ μ2 ⟨rfl, hM2, hX2⟩
  exact J_icmpeq hx hb (pc := 829) (tgt := 897) dL_law_829 (by decide) (fun _ => K _ _ (hA1.X hX2) (hM2) (Nx.rf hI)) (fun h => absurd rfl h)
set_option maxHeartbeats 4000000 in
set_option maxRecDepth 100000 in
theorem law_c24 {p : Program} {l : Launch} {e : Env} {s : State} {m : MethodId} {below : List Frame} {meth : Method} {c : Code} {b L : Nat} {xs : Nat → Int32} {g : GW} {cn sn : Nat} {Z : State → Prop} {μ : Mm} {a : AT} {i : Nat} (C : LC p s m meth c b L xs g) (hcn : cn ≤ 600000) (hsn : sn ≤ 7302250) (hA : RC μ a) (hM : RM μ a) (hI : AI a) (hnb : aNb a < 600) (hi5 : i + 5 ≤ L) (K : ∀ μ' a', RC μ' a' → RM μ' a' → Nx a a' → J p l e room_1 s m #[Value.ref b] below meth c Z g 4 (LX g s.heap μ') cn sn 897 [.ref 91, .ref 0, .ref 65, .int (nI i)] []) : J p l e room_1 s m #[Value.ref b] below meth c Z g 4 (LX g s.heap μ) cn sn 834 [.ref 91, .ref 0, .ref 65, .int (nI i)] [] := by
  have hx := C.1.1
  have hb := C.1.2.1
  have hL := C.2.2.2.2
  have hO := hA.ok
  have hJ := hI.1
  refine J_aload_n hx hb (pc := 834) dL_law_834 rfl rfl ?_
  refine L_inv0 C hcn hsn (pc := 835) (ci := 7) dL_law_835 ml_L_118 (by decide) rfl ⟨by decide, rfl⟩ (c_X7_image μ hA) (by decide) (Nat.le_of_ble_eq_true rfl) ?_
  rintro _ μ1 ⟨rfl, hA1, hC1⟩
  have hM1 := hM.C hC1
  refine J_aload_n hx hb (pc := 838) dL_law_838 rfl rfl ?_
  refine L_inv0 C hcn hsn (pc := 839) (ci := 8) dL_law_839 ml_L_121 (by decide) rfl ⟨by decide, rfl⟩ (c_X8_image μ1 hO hM1) (by decide) (Nat.le_of_ble_eq_true rfl) ?_
  rintro _ μ2 ⟨rfl, hM2, hX2⟩
  exact J_icmpeq hx hb (pc := 842) (tgt := 897) dL_law_842 (by decide) (fun _ => K _ _ (hA1.X hX2) (hM2) (nx_image hI)) (fun h => absurd rfl h)
set_option maxHeartbeats 4000000 in
set_option maxRecDepth 100000 in
theorem law_c25 {p : Program} {l : Launch} {e : Env} {s : State} {m : MethodId} {below : List Frame} {meth : Method} {c : Code} {b L : Nat} {xs : Nat → Int32} {g : GW} {cn sn : Nat} {Z : State → Prop} {μ : Mm} {a : AT} {i : Nat} (C : LC p s m meth c b L xs g) (hcn : cn ≤ 600000) (hsn : sn ≤ 7302250) (hA : RC μ a) (hM : RM μ a) (hI : AI a) (hnb : aNb a < 600) (hi5 : i + 5 ≤ L) (K : ∀ μ' a', RC μ' a' → RM μ' a' → Nx a a' → J p l e room_1 s m #[Value.ref b] below meth c Z g 4 (LX g s.heap μ') cn sn 897 [.ref 91, .ref 0, .ref 65, .int (nI i)] []) : J p l e room_1 s m #[Value.ref b] below meth c Z g 4 (LX g s.heap μ) cn sn 847 [.ref 91, .ref 0, .ref 65, .int (nI i)] [] := by
  have hx := C.1.1
  have hb := C.1.2.1
  have hL := C.2.2.2.2
  have hO := hA.ok
  have hJ := hI.1
  refine J_aload_n hx hb (pc := 847) dL_law_847 rfl rfl ?_
  refine L_inv0 C hcn hsn (pc := 848) (ci := 7) dL_law_848 ml_L_122 (by decide) rfl ⟨by decide, rfl⟩ (c_X7_restore μ hA) (by decide) (Nat.le_of_ble_eq_true rfl) ?_
  rintro _ μ1 ⟨rfl, hA1, hC1⟩
  have hM1 := hM.C hC1
  refine J_aload_n hx hb (pc := 851) dL_law_851 rfl rfl ?_
  refine L_inv0 C hcn hsn (pc := 852) (ci := 8) dL_law_852 ml_L_125 (by decide) rfl ⟨by decide, rfl⟩ (c_X8_restore μ1 hO hM1) (by decide) (Nat.le_of_ble_eq_true rfl) ?_
  rintro _ μ2 ⟨rfl, hM2, hX2⟩
  exact J_icmpeq hx hb (pc := 855) (tgt := 897) dL_law_855 (by decide) (fun _ => K _ _ (hA1.X hX2) (hM2) (nx_restore hI)) (fun h => absurd rfl h)
set_option maxHeartbeats 4000000 in
set_option maxRecDepth 100000 in
theorem law_c26 {p : Program} {l : Launch} {e : Env} {s : State} {m : MethodId} {below : List Frame} {meth : Method} {c : Code} {b L : Nat} {xs : Nat → Int32} {g : GW} {cn sn : Nat} {Z : State → Prop} {μ : Mm} {a : AT} {i : Nat} (C : LC p s m meth c b L xs g) (hcn : cn ≤ 600000) (hsn : sn ≤ 7302250) (hA : RC μ a) (hM : RM μ a) (hI : AI a) (hnb : aNb a < 600) (hi5 : i + 5 ≤ L) (K : ∀ μ' a', RC μ' a' → RM μ' a' → Nx a a' → J p l e room_1 s m #[Value.ref b] below meth c Z g 4 (LX g s.heap μ') cn sn 897 [.ref 91, .ref 0, .ref 65, .int (nI i)] []) : J p l e room_1 s m #[Value.ref b] below meth c Z g 4 (LX g s.heap μ) cn sn 860 [.ref 91, .ref 0, .ref 65, .int (nI i)] [] := by
  have hx := C.1.1
  have hb := C.1.2.1
  have hL := C.2.2.2.2
  have hO := hA.ok
  have hJ := hI.1
  refine J_aload_n hx hb (pc := 860) dL_law_860 rfl rfl ?_
  refine J_aload_n hx hb (pc := 861) dL_law_861 rfl rfl ?_
  refine J_iload_n hx hb (pc := 862) dL_law_862 rfl rfl ?_
  refine J_iconst hx hb (pc := 863) (v := 1) dL_law_863 (by decide) ?_
  refine J_iadd hx hb (pc := 864) dL_law_864 ?_
  refine L_sld C (pc := 865) (j := i + 1) (nI_add i 1) (by omega) dL_law_865 ?_
  refine L_inv1 C hcn hsn (pc := 866) (ci := 7) dL_law_866 ml_L_126 (by decide) rfl ⟨by decide, rfl⟩ (c_X7_count μ hA) (by decide) (Nat.le_of_ble_eq_true rfl) ?_
  rintro _ μ1 ⟨rfl, hμ⟩
  obtain rfl := hμ.symm
  refine J_aload_n hx hb (pc := 869) dL_law_869 rfl rfl ?_
  refine J_aload_n hx hb (pc := 870) dL_law_870 rfl rfl ?_
  refine J_iload_n hx hb (pc := 871) dL_law_871 rfl rfl ?_
  refine J_iconst hx hb (pc := 872) (v := 1) dL_law_872 (by decide) ?_
  refine J_iadd hx hb (pc := 873) dL_law_873 ?_
  refine L_sld C (pc := 874) (j := i + 1) (nI_add i 1) (by omega) dL_law_874 ?_
  refine L_inv1 C hcn hsn (pc := 875) (ci := 8) dL_law_875 ml_L_129 (by decide) rfl ⟨by decide, rfl⟩ (c_X8_count μ hO hM) (by decide) (Nat.le_of_ble_eq_true rfl) ?_
  rintro _ μ2 ⟨rfl, hμ⟩
  obtain rfl := hμ.symm
  exact J_icmpeq hx hb (pc := 878) (tgt := 897) dL_law_878 (by decide) (fun _ => K _ _ (hA) (hM) (Nx.rf hI)) (fun h => absurd rfl h)
set_option maxHeartbeats 4000000 in
set_option maxRecDepth 100000 in
theorem law_c27 {p : Program} {l : Launch} {e : Env} {s : State} {m : MethodId} {below : List Frame} {meth : Method} {c : Code} {b L : Nat} {xs : Nat → Int32} {g : GW} {cn sn : Nat} {Z : State → Prop} {μ : Mm} {a : AT} {i : Nat} (C : LC p s m meth c b L xs g) (hcn : cn ≤ 600000) (hsn : sn ≤ 7302250) (hA : RC μ a) (hM : RM μ a) (hI : AI a) (hnb : aNb a < 600) (hi5 : i + 5 ≤ L) (K : ∀ μ' a', RC μ' a' → RM μ' a' → Nx a a' → J p l e room_1 s m #[Value.ref b] below meth c Z g 4 (LX g s.heap μ') cn sn 897 [.ref 91, .ref 0, .ref 65, .int (nI i)] []) : J p l e room_1 s m #[Value.ref b] below meth c Z g 4 (LX g s.heap μ) cn sn 883 [.ref 91, .ref 0, .ref 65, .int (nI i)] [] := by
  have hx := C.1.1
  have hb := C.1.2.1
  have hL := C.2.2.2.2
  have hO := hA.ok
  have hJ := hI.1
  refine J_aload_n hx hb (pc := 883) dL_law_883 rfl rfl ?_
  refine L_inv0 C hcn hsn (pc := 884) (ci := 7) dL_law_884 ml_L_130 (by decide) rfl ⟨by decide, rfl⟩ (c_X7_digest μ hA) (by decide) (Nat.le_of_ble_eq_true rfl) ?_
  rintro _ μ1 ⟨rfl, hA1, hC1⟩
  have hM1 := hM.C hC1
  refine J_aload_n hx hb (pc := 887) dL_law_887 rfl rfl ?_
  refine L_inv0 C hcn hsn (pc := 888) (ci := 8) dL_law_888 ml_L_134 (by decide) rfl ⟨by decide, rfl⟩ (c_X8_digest μ1 hO hM1 hJ) (by decide) (Nat.le_of_ble_eq_true rfl) ?_
  rintro _ μ2 ⟨rfl, hM2, hX2⟩
  refine J_lcmp hx hb (pc := 891) dL_law_891 ?_
  exact J_ifeq hx hb (pc := 892) (tgt := 897) dL_law_892 (by decide) (fun _ => K _ _ (hA1.X hX2) (hM2) (Nx.rf hI)) (fun h => absurd (lcmp_rfl _) h)
theorem loop_end {L i : Nat} (hL : L ≤ 2560) (hi : i ≤ 2560) : (nI L - 5 : Int32) < nI i ↔ L < i + 5 := by
  rw [Int32.lt_iff_toInt_lt, show (5 : Int32) = nI 5 from rfl, pk_sub_toInt (by omega) (by omega), nI_toInt (by omega)]
  omega
set_option maxHeartbeats 4000000 in
set_option maxRecDepth 100000 in
theorem law_loop {p : Program} {l : Launch} {e : Env} {s : State} {m : MethodId} {below : List Frame} {meth : Method} {c : Code} {b L : Nat} {xs : Nat → Int32} {g : GW} {cn sn : Nat} (C : LC p s m meth c b L xs g) (hcn : cn ≤ 600000) (hsn : sn ≤ 7302250) : ∀ (n i : Nat) (μ : Mm) (a : AT), i ≤ L → L < i + n → RC μ a → RM μ a → AI a → 5 * aNb a ≤ i → J p l e room_1 s m #[Value.ref b] below meth c (lw_Z below #[Value.ref b] s) g 4 (LX g s.heap μ) cn sn 18 [.ref 91, .ref 0, .ref 65, .int (nI i)] [] := by
  have hx := C.1.1
  have hb := C.1.2.1
  have hL := C.2.2.2.2
  intro n
  induction n with
  | zero => intro i μ a h1 h2; exact absurd h2 (by omega)
  | succ n ih =>
    intro i μ a hi hn hA hM hI hnb
    refine J_iload_n hx hb (pc := 18) dL_law_18 rfl rfl ?_
    refine J_aload_n hx hb (pc := 19) dL_law_19 rfl rfl ?_
    refine L_slen C (pc := 20) dL_law_20 ?_
    refine J_iconst hx hb (pc := 21) (v := 5) dL_law_21 (by decide) ?_
    refine J_isub hx hb (pc := 22) dL_law_22 ?_
    refine J_icmpgt hx hb (pc := 23) (tgt := 903) dL_law_23 (by decide) (fun h23 => ?_) (fun h23 => ?_)
    · refine J_iconst hx hb (pc := 903) (v := 1) dL_law_903 (by decide) ?_
      exact L_ret C hcn hsn dL_law_904
    rw [loop_end hL (by omega)] at h23
    have hi5 : i + 5 ≤ L := by omega
    have K : ∀ μ' a', RC μ' a' → RM μ' a' → Nx a a' → J p l e room_1 s m #[Value.ref b] below meth c (lw_Z below #[Value.ref b] s) g 4 (LX g s.heap μ') cn sn 897 [.ref 91, .ref 0, .ref 65, .int (nI i)] [] := by
      intro μ' a' hA' hM' hN
      refine J_iinc hx hb (pc := 897) (v := nI (i + 5)) dL_law_897 rfl (nI_add i 5) (by decide) rfl ?_
      refine J_goto hx hb (pc := 900) (tgt := 18) dL_law_900 (by decide) ?_
      exact ih (i + 5) μ' a' hi5 (by omega) hA' hM' hN.1 (by have := hN.2; omega)
    refine J_aload_n hx hb (pc := 26) dL_law_26 rfl rfl ?_
    refine J_iload_n hx hb (pc := 27) dL_law_27 rfl rfl ?_
    refine L_sld C (pc := 28) (j := i) rfl (by omega) dL_law_28 ?_
    refine J_bipush hx hb (pc := 29) (v := 31) dL_law_29 (by decide) ?_
    refine J_iand hx hb (pc := 31) dL_law_31 ?_
    obtain ⟨k, hk, ek⟩ := pk_andE (xs i) (m := 31) 5 (by decide)
    rw [ek]
    have hk : k < 32 := hk
    have hnb6 : aNb a < 600 := by omega
    clear ek
    by_cases h28 : 28 ≤ k
    · have hc : k = 28 ∨ k = 29 ∨ k = 30 ∨ k = 31 := by omega
      rcases hc with rfl | rfl | rfl | rfl <;> exact J_tsOut hx hb (pc := 32) (tgt := 897) dL_law_32 (by decide) (by decide) (K μ a hA hM (Nx.rf hI))
    have hc : k = 0 ∨ k = 1 ∨ k = 2 ∨ k = 3 ∨ k = 4 ∨ k = 5 ∨ k = 6 ∨ k = 7 ∨ k = 8 ∨ k = 9 ∨ k = 10 ∨ k = 11 ∨ k = 12 ∨ k = 13 ∨ k = 14 ∨ k = 15 ∨ k = 16 ∨ k = 17 ∨ k = 18 ∨ k = 19 ∨ k = 20 ∨ k = 21 ∨ k = 22 ∨ k = 23 ∨ k = 24 ∨ k = 25 ∨ k = 26 ∨ k = 27 := by omega
    rcases hc with rfl | rfl | rfl | rfl | rfl | rfl | rfl | rfl | rfl | rfl | rfl | rfl | rfl | rfl | rfl | rfl | rfl | rfl | rfl | rfl | rfl | rfl | rfl | rfl | rfl | rfl | rfl | rfl
    · exact J_tsIn hx hb (pc := 32) (off := 128) (tgt := 160) dL_law_32 (by decide) (by decide) (by decide) (by decide) (law_c0 C hcn hsn hA hM hI hnb6 hi5 K)
    · exact J_tsIn hx hb (pc := 32) (off := 181) (tgt := 213) dL_law_32 (by decide) (by decide) (by decide) (by decide) (law_c1 C hcn hsn hA hM hI hnb6 hi5 K)
    · exact J_tsIn hx hb (pc := 32) (off := 194) (tgt := 226) dL_law_32 (by decide) (by decide) (by decide) (by decide) (law_c2 C hcn hsn hA hM hI hnb6 hi5 K)
    · exact J_tsIn hx hb (pc := 32) (off := 207) (tgt := 239) dL_law_32 (by decide) (by decide) (by decide) (by decide) (law_c3 C hcn hsn hA hM hI hnb6 hi5 K)
    · exact J_tsIn hx hb (pc := 32) (off := 220) (tgt := 252) dL_law_32 (by decide) (by decide) (by decide) (by decide) (law_c4 C hcn hsn hA hM hI hnb6 hi5 K)
    · exact J_tsIn hx hb (pc := 32) (off := 253) (tgt := 285) dL_law_32 (by decide) (by decide) (by decide) (by decide) (law_c5 C hcn hsn hA hM hI hnb6 hi5 K)
    · exact J_tsIn hx hb (pc := 32) (off := 276) (tgt := 308) dL_law_32 (by decide) (by decide) (by decide) (by decide) (law_c6 C hcn hsn hA hM hI hnb6 hi5 K)
    · exact J_tsIn hx hb (pc := 32) (off := 309) (tgt := 341) dL_law_32 (by decide) (by decide) (by decide) (by decide) (law_c7 C hcn hsn hA hM hI hnb6 hi5 K)
    · exact J_tsIn hx hb (pc := 32) (off := 342) (tgt := 374) dL_law_32 (by decide) (by decide) (by decide) (by decide) (law_c8 C hcn hsn hA hM hI hnb6 hi5 K)
    · exact J_tsIn hx hb (pc := 32) (off := 375) (tgt := 407) dL_law_32 (by decide) (by decide) (by decide) (by decide) (law_c9 C hcn hsn hA hM hI hnb6 hi5 K)
    · exact J_tsIn hx hb (pc := 32) (off := 408) (tgt := 440) dL_law_32 (by decide) (by decide) (by decide) (by decide) (law_c10 C hcn hsn hA hM hI hnb6 hi5 K)
    · exact J_tsIn hx hb (pc := 32) (off := 431) (tgt := 463) dL_law_32 (by decide) (by decide) (by decide) (by decide) (law_c11 C hcn hsn hA hM hI hnb6 hi5 K)
    · exact J_tsIn hx hb (pc := 32) (off := 454) (tgt := 486) dL_law_32 (by decide) (by decide) (by decide) (by decide) (law_c12 C hcn hsn hA hM hI hnb6 hi5 K)
    · exact J_tsIn hx hb (pc := 32) (off := 467) (tgt := 499) dL_law_32 (by decide) (by decide) (by decide) (by decide) (law_c13 C hcn hsn hA hM hI hnb6 hi5 K)
    · exact J_tsIn hx hb (pc := 32) (off := 511) (tgt := 543) dL_law_32 (by decide) (by decide) (by decide) (by decide) (law_c14 C hcn hsn hA hM hI hnb6 hi5 K)
    · exact J_tsIn hx hb (pc := 32) (off := 554) (tgt := 586) dL_law_32 (by decide) (by decide) (by decide) (by decide) (law_c15 C hcn hsn hA hM hI hnb6 hi5 K)
    · exact J_tsIn hx hb (pc := 32) (off := 577) (tgt := 609) dL_law_32 (by decide) (by decide) (by decide) (by decide) (law_c16 C hcn hsn hA hM hI hnb6 hi5 K)
    · exact J_tsIn hx hb (pc := 32) (off := 590) (tgt := 622) dL_law_32 (by decide) (by decide) (by decide) (by decide) (law_c17 C hcn hsn hA hM hI hnb6 hi5 K)
    · exact J_tsIn hx hb (pc := 32) (off := 644) (tgt := 676) dL_law_32 (by decide) (by decide) (by decide) (by decide) (law_c18 C hcn hsn hA hM hI hnb6 hi5 K)
    · exact J_tsIn hx hb (pc := 32) (off := 667) (tgt := 699) dL_law_32 (by decide) (by decide) (by decide) (by decide) (law_c19 C hcn hsn hA hM hI hnb6 hi5 K)
    · exact J_tsIn hx hb (pc := 32) (off := 700) (tgt := 732) dL_law_32 (by decide) (by decide) (by decide) (by decide) (law_c20 C hcn hsn hA hM hI hnb6 hi5 K)
    · exact J_tsIn hx hb (pc := 32) (off := 723) (tgt := 755) dL_law_32 (by decide) (by decide) (by decide) (by decide) (law_c21 C hcn hsn hA hM hI hnb6 hi5 K)
    · exact J_tsIn hx hb (pc := 32) (off := 736) (tgt := 768) dL_law_32 (by decide) (by decide) (by decide) (by decide) (law_c22 C hcn hsn hA hM hI hnb6 hi5 K)
    · exact J_tsIn hx hb (pc := 32) (off := 759) (tgt := 791) dL_law_32 (by decide) (by decide) (by decide) (by decide) (law_c23 C hcn hsn hA hM hI hnb6 hi5 K)
    · exact J_tsIn hx hb (pc := 32) (off := 802) (tgt := 834) dL_law_32 (by decide) (by decide) (by decide) (by decide) (law_c24 C hcn hsn hA hM hI hnb6 hi5 K)
    · exact J_tsIn hx hb (pc := 32) (off := 815) (tgt := 847) dL_law_32 (by decide) (by decide) (by decide) (by decide) (law_c25 C hcn hsn hA hM hI hnb6 hi5 K)
    · exact J_tsIn hx hb (pc := 32) (off := 828) (tgt := 860) dL_law_32 (by decide) (by decide) (by decide) (by decide) (law_c26 C hcn hsn hA hM hI hnb6 hi5 K)
    · exact J_tsIn hx hb (pc := 32) (off := 851) (tgt := 883) dL_law_32 (by decide) (by decide) (by decide) (by decide) (law_c27 C hcn hsn hA hM hI hnb6 hi5 K)
