theorem sx_icmp_eqR {X : sx_X} {own : String} {ini : Bool} {cc : ByteArray} {nL d mc ms : Nat} {ret : Option FieldType} {pc : Nat} {lo : List (Option Value)} {st : List Value} {h : sx_H} {k n : Nat} {Q : Option Value → sx_H → Prop} {x off : Int} {tg : Nat} (hd : decode cc pc = .ok (.if_icmp .eq off, 3)) (ht : (pc : Int) + off = (tg : Int)) (kt : Rn X own ini cc nL d mc ms ret tg lo (st) h k n Q) : Rn X own ini cc nL d mc ms ret pc lo (vI x :: vI x :: st) h k n Q := by
  intro p l e R s m args below meth c G Z C hr ls H locs hl hw hk hn
  exact lv_icmp_eq C.1 C.2.1 hd ht (fun q => kt p l e R s m args below meth c G Z C hr ls H locs hl hw hk hn) (fun q => absurd rfl q)
theorem sx_lcmp_eqR {X : sx_X} {own : String} {ini : Bool} {cc : ByteArray} {nL d mc ms : Nat} {ret : Option FieldType} {pc : Nat} {lo : List (Option Value)} {st : List Value} {h : sx_H} {k n : Nat} {Q : Option Value → sx_H → Prop} {x off : Int} {tg : Nat} (hd : decode cc pc = .ok (.lcmp, 1)) (hd2 : decode cc (pc + 1) = .ok (.ifCond .eq off, 3)) (ht : ((pc + 1 : Nat) : Int) + off = (tg : Int)) (kt : Rn X own ini cc nL d mc ms ret tg lo (st) h k n Q) : Rn X own ini cc nL d mc ms ret pc lo (vJ x :: vJ x :: st) h k n Q := by
  intro p l e R s m args below meth c G Z C hr ls H locs hl hw hk hn
  have hz : (lg_cmp (Int64.ofInt x) (Int64.ofInt x)).toInt = 0 := by
    rw [sx_cmp, if_neg (by simp), if_pos rfl]
  refine W.lcmp C.1 C.2.1 hd ?_
  refine lv_if_eq C.1 C.2.1 hd2 ht (fun q => ?_) (fun q => ?_)
  · exact kt p l e R s m args below meth c G Z C hr ls H locs hl hw hk hn
  · exact absurd (Int32.toInt_inj.mp (by rw [hz]; rfl)) q
set_option maxRecDepth 20000 in
theorem lk_type {X : sx_X} {S : St} {i : Int} (hX : X.1 ≤ 384) (hr : ∀ j, -2147483648 ≤ X.2 j ∧ X.2 j ≤ 2147483647) (hi : 0 ≤ i ∧ i + 6 ≤ X.1) (hJ : J S) (K : ∀ S2 : St, J S2 → Rn X RL false cL_law 4 30 53 1105 (some .boolean) 1254 [some (.ref 0), some (.ref 2), some (.ref 39), some (vI i)] [] (hp S2) 53 1105 (fun v _ => v = some (vI 1))) : Rn X RL false cL_law 4 30 53 1105 (some .boolean) 184 [some (.ref 0), some (.ref 2), some (.ref 39), some (vI i)] [] (hp S) 53 1105 (fun v _ => v = some (vI 1)) := by
  obtain ⟨S1, S2, r, h1, h2, hJ2⟩ := tw_type (X := X) hJ (hr (i + 1).toNat) (hr (i + 2).toNat)
  refine sx_aload_n (p1 := 185) dL_law_184 rfl rfl ?_
  refine sx_aload_n (p1 := 186) dL_law_185 rfl rfl ?_
  refine sx_iload_n (p1 := 187) dL_law_186 rfl rfl ?_
  refine sx_iconst (p1 := 188) dL_law_187 rfl ?_
  refine sx_iadd (p1 := 189) dL_law_188 rfl ?_
  refine sx_iald0 (p1 := 190) dL_law_189 rfl (by omega) (by omega) ?_
  refine sx_aload_n (p1 := 191) dL_law_190 rfl rfl ?_
  refine sx_iload_n (p1 := 192) dL_law_191 rfl rfl ?_
  refine sx_iconst (p1 := 193) dL_law_192 rfl ?_
  refine sx_iadd (p1 := 194) dL_law_193 rfl ?_
  refine sx_iald0 (p1 := 195) dL_law_194 rfl (by omega) (by omega) ?_
  refine sx_callVr (p1 := 198) (As := [_, _]) (k1 := 53) (n1 := 1105) dL_law_195 rfl rfl (h1) mt_X11_type ml_L_13 (hp_c2 _) rfl rfl (Nat.le_of_ble_eq_true rfl) rfl (Nat.le_of_ble_eq_true rfl) rfl rfl (Nat.le_of_ble_eq_true rfl) (Nat.le_of_ble_eq_true rfl) ?_
  refine sx_aload_n (p1 := 199) dL_law_198 rfl rfl ?_
  refine sx_aload_n (p1 := 200) dL_law_199 rfl rfl ?_
  refine sx_iload_n (p1 := 201) dL_law_200 rfl rfl ?_
  refine sx_iconst (p1 := 202) dL_law_201 rfl ?_
  refine sx_iadd (p1 := 203) dL_law_202 rfl ?_
  refine sx_iald0 (p1 := 204) dL_law_203 rfl (by omega) (by omega) ?_
  refine sx_aload_n (p1 := 205) dL_law_204 rfl rfl ?_
  refine sx_iload_n (p1 := 206) dL_law_205 rfl rfl ?_
  refine sx_iconst (p1 := 207) dL_law_206 rfl ?_
  refine sx_iadd (p1 := 208) dL_law_207 rfl ?_
  refine sx_iald0 (p1 := 209) dL_law_208 rfl (by omega) (by omega) ?_
  refine sx_callVr (p1 := 212) (As := [_, _]) (k1 := 53) (n1 := 1105) dL_law_209 rfl rfl (h2) mt_X12_type ml_L_17 (hp_c39 _) rfl rfl (Nat.le_of_ble_eq_true rfl) rfl (Nat.le_of_ble_eq_true rfl) rfl rfl (Nat.le_of_ble_eq_true rfl) (Nat.le_of_ble_eq_true rfl) ?_
  refine sx_icmp_eqR (tg := 1254) dL_law_212 rfl ?_
  exact K _ hJ2
set_option maxRecDepth 20000 in
theorem lk_wipe {X : sx_X} {S : St} {i : Int} (hX : X.1 ≤ 384) (hr : ∀ j, -2147483648 ≤ X.2 j ∧ X.2 j ≤ 2147483647) (hi : 0 ≤ i ∧ i + 6 ≤ X.1) (hJ : J S) (K : ∀ S2 : St, J S2 → Rn X RL false cL_law 4 30 53 1105 (some .boolean) 1254 [some (.ref 0), some (.ref 2), some (.ref 39), some (vI i)] [] (hp S2) 53 1105 (fun v _ => v = some (vI 1))) : Rn X RL false cL_law 4 30 53 1105 (some .boolean) 217 [some (.ref 0), some (.ref 2), some (.ref 39), some (vI i)] [] (hp S) 53 1105 (fun v _ => v = some (vI 1)) := by
  obtain ⟨S1, S2, r, h1, h2, hJ2⟩ := tw_wipe (X := X) hJ (hr (i + 1).toNat)
  refine sx_aload_n (p1 := 218) dL_law_217 rfl rfl ?_
  refine sx_aload_n (p1 := 219) dL_law_218 rfl rfl ?_
  refine sx_iload_n (p1 := 220) dL_law_219 rfl rfl ?_
  refine sx_iconst (p1 := 221) dL_law_220 rfl ?_
  refine sx_iadd (p1 := 222) dL_law_221 rfl ?_
  refine sx_iald0 (p1 := 223) dL_law_222 rfl (by omega) (by omega) ?_
  refine sx_callVr (p1 := 226) (As := [_]) (k1 := 53) (n1 := 1105) dL_law_223 rfl rfl (h1) mt_X11_wipe ml_L_18 (hp_c2 _) rfl rfl (Nat.le_of_ble_eq_true rfl) rfl (Nat.le_of_ble_eq_true rfl) rfl rfl (Nat.le_of_ble_eq_true rfl) (Nat.le_of_ble_eq_true rfl) ?_
  refine sx_aload_n (p1 := 227) dL_law_226 rfl rfl ?_
  refine sx_aload_n (p1 := 228) dL_law_227 rfl rfl ?_
  refine sx_iload_n (p1 := 229) dL_law_228 rfl rfl ?_
  refine sx_iconst (p1 := 230) dL_law_229 rfl ?_
  refine sx_iadd (p1 := 231) dL_law_230 rfl ?_
  refine sx_iald0 (p1 := 232) dL_law_231 rfl (by omega) (by omega) ?_
  refine sx_callVr (p1 := 235) (As := [_]) (k1 := 53) (n1 := 1105) dL_law_232 rfl rfl (h2) mt_X12_wipe ml_L_22 (hp_c39 _) rfl rfl (Nat.le_of_ble_eq_true rfl) rfl (Nat.le_of_ble_eq_true rfl) rfl rfl (Nat.le_of_ble_eq_true rfl) (Nat.le_of_ble_eq_true rfl) ?_
  refine sx_icmp_eqR (tg := 1254) dL_law_235 rfl ?_
  exact K _ hJ2
set_option maxRecDepth 20000 in
theorem lk_undo {X : sx_X} {S : St} {i : Int} (hX : X.1 ≤ 384) (hr : ∀ j, -2147483648 ≤ X.2 j ∧ X.2 j ≤ 2147483647) (hi : 0 ≤ i ∧ i + 6 ≤ X.1) (hJ : J S) (K : ∀ S2 : St, J S2 → Rn X RL false cL_law 4 30 53 1105 (some .boolean) 1254 [some (.ref 0), some (.ref 2), some (.ref 39), some (vI i)] [] (hp S2) 53 1105 (fun v _ => v = some (vI 1))) : Rn X RL false cL_law 4 30 53 1105 (some .boolean) 240 [some (.ref 0), some (.ref 2), some (.ref 39), some (vI i)] [] (hp S) 53 1105 (fun v _ => v = some (vI 1)) := by
  obtain ⟨S1, S2, r, h1, h2, hJ2⟩ := tw_undo (X := X) hJ (hr (i + 1).toNat)
  refine sx_aload_n (p1 := 241) dL_law_240 rfl rfl ?_
  refine sx_aload_n (p1 := 242) dL_law_241 rfl rfl ?_
  refine sx_iload_n (p1 := 243) dL_law_242 rfl rfl ?_
  refine sx_iconst (p1 := 244) dL_law_243 rfl ?_
  refine sx_iadd (p1 := 245) dL_law_244 rfl ?_
  refine sx_iald0 (p1 := 246) dL_law_245 rfl (by omega) (by omega) ?_
  refine sx_callVr (p1 := 249) (As := [_]) (k1 := 53) (n1 := 1105) dL_law_246 rfl rfl (h1) mt_X11_undo ml_L_23 (hp_c2 _) rfl rfl (Nat.le_of_ble_eq_true rfl) rfl (Nat.le_of_ble_eq_true rfl) rfl rfl (Nat.le_of_ble_eq_true rfl) (Nat.le_of_ble_eq_true rfl) ?_
  refine sx_aload_n (p1 := 250) dL_law_249 rfl rfl ?_
  refine sx_aload_n (p1 := 251) dL_law_250 rfl rfl ?_
  refine sx_iload_n (p1 := 252) dL_law_251 rfl rfl ?_
  refine sx_iconst (p1 := 253) dL_law_252 rfl ?_
  refine sx_iadd (p1 := 254) dL_law_253 rfl ?_
  refine sx_iald0 (p1 := 255) dL_law_254 rfl (by omega) (by omega) ?_
  refine sx_callVr (p1 := 258) (As := [_]) (k1 := 53) (n1 := 1105) dL_law_255 rfl rfl (h2) mt_X12_undo ml_L_26 (hp_c39 _) rfl rfl (Nat.le_of_ble_eq_true rfl) rfl (Nat.le_of_ble_eq_true rfl) rfl rfl (Nat.le_of_ble_eq_true rfl) (Nat.le_of_ble_eq_true rfl) ?_
  refine sx_icmp_eqR (tg := 1254) dL_law_258 rfl ?_
  exact K _ hJ2
set_option maxRecDepth 20000 in
theorem lk_fault {X : sx_X} {S : St} {i : Int} (hX : X.1 ≤ 384) (hr : ∀ j, -2147483648 ≤ X.2 j ∧ X.2 j ≤ 2147483647) (hi : 0 ≤ i ∧ i + 6 ≤ X.1) (hJ : J S) (K : ∀ S2 : St, J S2 → Rn X RL false cL_law 4 30 53 1105 (some .boolean) 1254 [some (.ref 0), some (.ref 2), some (.ref 39), some (vI i)] [] (hp S2) 53 1105 (fun v _ => v = some (vI 1))) : Rn X RL false cL_law 4 30 53 1105 (some .boolean) 263 [some (.ref 0), some (.ref 2), some (.ref 39), some (vI i)] [] (hp S) 53 1105 (fun v _ => v = some (vI 1)) := by
  obtain ⟨S1, S2, r, h1, h2, hJ2⟩ := tw_fault (X := X) hJ (hr (i + 1).toNat)
  refine sx_aload_n (p1 := 264) dL_law_263 rfl rfl ?_
  refine sx_aload_n (p1 := 265) dL_law_264 rfl rfl ?_
  refine sx_iload_n (p1 := 266) dL_law_265 rfl rfl ?_
  refine sx_iconst (p1 := 267) dL_law_266 rfl ?_
  refine sx_iadd (p1 := 268) dL_law_267 rfl ?_
  refine sx_iald0 (p1 := 269) dL_law_268 rfl (by omega) (by omega) ?_
  refine sx_callVr (p1 := 272) (As := [_]) (k1 := 53) (n1 := 1105) dL_law_269 rfl rfl (h1) mt_X11_fault ml_L_27 (hp_c2 _) rfl rfl (Nat.le_of_ble_eq_true rfl) rfl (Nat.le_of_ble_eq_true rfl) rfl rfl (Nat.le_of_ble_eq_true rfl) (Nat.le_of_ble_eq_true rfl) ?_
  refine sx_aload_n (p1 := 273) dL_law_272 rfl rfl ?_
  refine sx_aload_n (p1 := 274) dL_law_273 rfl rfl ?_
  refine sx_iload_n (p1 := 275) dL_law_274 rfl rfl ?_
  refine sx_iconst (p1 := 276) dL_law_275 rfl ?_
  refine sx_iadd (p1 := 277) dL_law_276 rfl ?_
  refine sx_iald0 (p1 := 278) dL_law_277 rfl (by omega) (by omega) ?_
  refine sx_callVr (p1 := 281) (As := [_]) (k1 := 53) (n1 := 1105) dL_law_278 rfl rfl (h2) mt_X12_fault ml_L_30 (hp_c39 _) rfl rfl (Nat.le_of_ble_eq_true rfl) rfl (Nat.le_of_ble_eq_true rfl) rfl rfl (Nat.le_of_ble_eq_true rfl) (Nat.le_of_ble_eq_true rfl) ?_
  refine sx_icmp_eqR (tg := 1254) dL_law_281 rfl ?_
  exact K _ hJ2
set_option maxRecDepth 20000 in
theorem lk_part {X : sx_X} {S : St} {i : Int} (hX : X.1 ≤ 384) (hr : ∀ j, -2147483648 ≤ X.2 j ∧ X.2 j ≤ 2147483647) (hi : 0 ≤ i ∧ i + 6 ≤ X.1) (hJ : J S) (K : ∀ S2 : St, J S2 → Rn X RL false cL_law 4 30 53 1105 (some .boolean) 1254 [some (.ref 0), some (.ref 2), some (.ref 39), some (vI i)] [] (hp S2) 53 1105 (fun v _ => v = some (vI 1))) : Rn X RL false cL_law 4 30 53 1105 (some .boolean) 286 [some (.ref 0), some (.ref 2), some (.ref 39), some (vI i)] [] (hp S) 53 1105 (fun v _ => v = some (vI 1)) := by
  obtain ⟨S1, S2, r, h1, h2, hJ2⟩ := tw_part (X := X) hJ (hr (i + 1).toNat) (hr (i + 2).toNat)
  refine sx_aload_n (p1 := 287) dL_law_286 rfl rfl ?_
  refine sx_aload_n (p1 := 288) dL_law_287 rfl rfl ?_
  refine sx_iload_n (p1 := 289) dL_law_288 rfl rfl ?_
  refine sx_iconst (p1 := 290) dL_law_289 rfl ?_
  refine sx_iadd (p1 := 291) dL_law_290 rfl ?_
  refine sx_iald0 (p1 := 292) dL_law_291 rfl (by omega) (by omega) ?_
  refine sx_aload_n (p1 := 293) dL_law_292 rfl rfl ?_
  refine sx_iload_n (p1 := 294) dL_law_293 rfl rfl ?_
  refine sx_iconst (p1 := 295) dL_law_294 rfl ?_
  refine sx_iadd (p1 := 296) dL_law_295 rfl ?_
  refine sx_iald0 (p1 := 297) dL_law_296 rfl (by omega) (by omega) ?_
  refine sx_callVr (p1 := 300) (As := [_, _]) (k1 := 53) (n1 := 1105) dL_law_297 rfl rfl (h1) mt_X11_part ml_L_31 (hp_c2 _) rfl rfl (Nat.le_of_ble_eq_true rfl) rfl (Nat.le_of_ble_eq_true rfl) rfl rfl (Nat.le_of_ble_eq_true rfl) (Nat.le_of_ble_eq_true rfl) ?_
  refine sx_aload_n (p1 := 301) dL_law_300 rfl rfl ?_
  refine sx_aload_n (p1 := 302) dL_law_301 rfl rfl ?_
  refine sx_iload_n (p1 := 303) dL_law_302 rfl rfl ?_
  refine sx_iconst (p1 := 304) dL_law_303 rfl ?_
  refine sx_iadd (p1 := 305) dL_law_304 rfl ?_
  refine sx_iald0 (p1 := 306) dL_law_305 rfl (by omega) (by omega) ?_
  refine sx_aload_n (p1 := 307) dL_law_306 rfl rfl ?_
  refine sx_iload_n (p1 := 308) dL_law_307 rfl rfl ?_
  refine sx_iconst (p1 := 309) dL_law_308 rfl ?_
  refine sx_iadd (p1 := 310) dL_law_309 rfl ?_
  refine sx_iald0 (p1 := 311) dL_law_310 rfl (by omega) (by omega) ?_
  refine sx_callVr (p1 := 314) (As := [_, _]) (k1 := 53) (n1 := 1105) dL_law_311 rfl rfl (h2) mt_X12_part_ ml_L_34 (hp_c39 _) rfl rfl (Nat.le_of_ble_eq_true rfl) rfl (Nat.le_of_ble_eq_true rfl) rfl rfl (Nat.le_of_ble_eq_true rfl) (Nat.le_of_ble_eq_true rfl) ?_
  refine sx_icmp_eqR (tg := 1254) dL_law_314 rfl ?_
  exact K _ hJ2
set_option maxRecDepth 20000 in
theorem lk_walker {X : sx_X} {S : St} {i : Int} (hX : X.1 ≤ 384) (hr : ∀ j, -2147483648 ≤ X.2 j ∧ X.2 j ≤ 2147483647) (hi : 0 ≤ i ∧ i + 6 ≤ X.1) (hJ : J S) (K : ∀ S2 : St, J S2 → Rn X RL false cL_law 4 30 53 1105 (some .boolean) 1254 [some (.ref 0), some (.ref 2), some (.ref 39), some (vI i)] [] (hp S2) 53 1105 (fun v _ => v = some (vI 1))) : Rn X RL false cL_law 4 30 53 1105 (some .boolean) 319 [some (.ref 0), some (.ref 2), some (.ref 39), some (vI i)] [] (hp S) 53 1105 (fun v _ => v = some (vI 1)) := by
  obtain ⟨S1, S2, r, h1, h2, hJ2⟩ := tw_walker (X := X) hJ (hr (i + 1).toNat) (hr (i + 2).toNat)
  refine sx_aload_n (p1 := 320) dL_law_319 rfl rfl ?_
  refine sx_aload_n (p1 := 321) dL_law_320 rfl rfl ?_
  refine sx_iload_n (p1 := 322) dL_law_321 rfl rfl ?_
  refine sx_iconst (p1 := 323) dL_law_322 rfl ?_
  refine sx_iadd (p1 := 324) dL_law_323 rfl ?_
  refine sx_iald0 (p1 := 325) dL_law_324 rfl (by omega) (by omega) ?_
  refine sx_aload_n (p1 := 326) dL_law_325 rfl rfl ?_
  refine sx_iload_n (p1 := 327) dL_law_326 rfl rfl ?_
  refine sx_iconst (p1 := 328) dL_law_327 rfl ?_
  refine sx_iadd (p1 := 329) dL_law_328 rfl ?_
  refine sx_iald0 (p1 := 330) dL_law_329 rfl (by omega) (by omega) ?_
  refine sx_callVr (p1 := 333) (As := [_, _]) (k1 := 53) (n1 := 1105) dL_law_330 rfl rfl (h1) mt_X11_walker ml_L_35 (hp_c2 _) rfl rfl (Nat.le_of_ble_eq_true rfl) rfl (Nat.le_of_ble_eq_true rfl) rfl rfl (Nat.le_of_ble_eq_true rfl) (Nat.le_of_ble_eq_true rfl) ?_
  refine sx_aload_n (p1 := 334) dL_law_333 rfl rfl ?_
  refine sx_aload_n (p1 := 335) dL_law_334 rfl rfl ?_
  refine sx_iload_n (p1 := 336) dL_law_335 rfl rfl ?_
  refine sx_iconst (p1 := 337) dL_law_336 rfl ?_
  refine sx_iadd (p1 := 338) dL_law_337 rfl ?_
  refine sx_iald0 (p1 := 339) dL_law_338 rfl (by omega) (by omega) ?_
  refine sx_aload_n (p1 := 340) dL_law_339 rfl rfl ?_
  refine sx_iload_n (p1 := 341) dL_law_340 rfl rfl ?_
  refine sx_iconst (p1 := 342) dL_law_341 rfl ?_
  refine sx_iadd (p1 := 343) dL_law_342 rfl ?_
  refine sx_iald0 (p1 := 344) dL_law_343 rfl (by omega) (by omega) ?_
  refine sx_callVr (p1 := 347) (As := [_, _]) (k1 := 53) (n1 := 1105) dL_law_344 rfl rfl (h2) mt_X12_walker ml_L_38 (hp_c39 _) rfl rfl (Nat.le_of_ble_eq_true rfl) rfl (Nat.le_of_ble_eq_true rfl) rfl rfl (Nat.le_of_ble_eq_true rfl) (Nat.le_of_ble_eq_true rfl) ?_
  refine sx_icmp_eqR (tg := 1254) dL_law_347 rfl ?_
  exact K _ hJ2
set_option maxRecDepth 20000 in
theorem lk_set {X : sx_X} {S : St} {i : Int} (hX : X.1 ≤ 384) (hr : ∀ j, -2147483648 ≤ X.2 j ∧ X.2 j ≤ 2147483647) (hi : 0 ≤ i ∧ i + 6 ≤ X.1) (hJ : J S) (K : ∀ S2 : St, J S2 → Rn X RL false cL_law 4 30 53 1105 (some .boolean) 1254 [some (.ref 0), some (.ref 2), some (.ref 39), some (vI i)] [] (hp S2) 53 1105 (fun v _ => v = some (vI 1))) : Rn X RL false cL_law 4 30 53 1105 (some .boolean) 352 [some (.ref 0), some (.ref 2), some (.ref 39), some (vI i)] [] (hp S) 53 1105 (fun v _ => v = some (vI 1)) := by
  obtain ⟨S1, S2, r, h1, h2, hJ2⟩ := tw_set (X := X) hJ (hr (i + 1).toNat) (hr (i + 2).toNat)
  refine sx_aload_n (p1 := 353) dL_law_352 rfl rfl ?_
  refine sx_aload_n (p1 := 354) dL_law_353 rfl rfl ?_
  refine sx_iload_n (p1 := 355) dL_law_354 rfl rfl ?_
  refine sx_iconst (p1 := 356) dL_law_355 rfl ?_
  refine sx_iadd (p1 := 357) dL_law_356 rfl ?_
  refine sx_iald0 (p1 := 358) dL_law_357 rfl (by omega) (by omega) ?_
  refine sx_aload_n (p1 := 359) dL_law_358 rfl rfl ?_
  refine sx_iload_n (p1 := 360) dL_law_359 rfl rfl ?_
  refine sx_iconst (p1 := 361) dL_law_360 rfl ?_
  refine sx_iadd (p1 := 362) dL_law_361 rfl ?_
  refine sx_iald0 (p1 := 363) dL_law_362 rfl (by omega) (by omega) ?_
  refine sx_callVr (p1 := 366) (As := [_, _]) (k1 := 53) (n1 := 1105) dL_law_363 rfl rfl (h1) mt_X11_set ml_L_39 (hp_c2 _) rfl rfl (Nat.le_of_ble_eq_true rfl) rfl (Nat.le_of_ble_eq_true rfl) rfl rfl (Nat.le_of_ble_eq_true rfl) (Nat.le_of_ble_eq_true rfl) ?_
  refine sx_aload_n (p1 := 367) dL_law_366 rfl rfl ?_
  refine sx_aload_n (p1 := 368) dL_law_367 rfl rfl ?_
  refine sx_iload_n (p1 := 369) dL_law_368 rfl rfl ?_
  refine sx_iconst (p1 := 370) dL_law_369 rfl ?_
  refine sx_iadd (p1 := 371) dL_law_370 rfl ?_
  refine sx_iald0 (p1 := 372) dL_law_371 rfl (by omega) (by omega) ?_
  refine sx_aload_n (p1 := 373) dL_law_372 rfl rfl ?_
  refine sx_iload_n (p1 := 374) dL_law_373 rfl rfl ?_
  refine sx_iconst (p1 := 375) dL_law_374 rfl ?_
  refine sx_iadd (p1 := 376) dL_law_375 rfl ?_
  refine sx_iald0 (p1 := 377) dL_law_376 rfl (by omega) (by omega) ?_
  refine sx_callVr (p1 := 380) (As := [_, _]) (k1 := 53) (n1 := 1105) dL_law_377 rfl rfl (h2) mt_X12_set ml_L_42 (hp_c39 _) rfl rfl (Nat.le_of_ble_eq_true rfl) rfl (Nat.le_of_ble_eq_true rfl) rfl rfl (Nat.le_of_ble_eq_true rfl) (Nat.le_of_ble_eq_true rfl) ?_
  refine sx_icmp_eqR (tg := 1254) dL_law_380 rfl ?_
  exact K _ hJ2
set_option maxRecDepth 20000 in
theorem lk_place {X : sx_X} {S : St} {i : Int} (hX : X.1 ≤ 384) (hr : ∀ j, -2147483648 ≤ X.2 j ∧ X.2 j ≤ 2147483647) (hi : 0 ≤ i ∧ i + 6 ≤ X.1) (hJ : J S) (K : ∀ S2 : St, J S2 → Rn X RL false cL_law 4 30 53 1105 (some .boolean) 1254 [some (.ref 0), some (.ref 2), some (.ref 39), some (vI i)] [] (hp S2) 53 1105 (fun v _ => v = some (vI 1))) : Rn X RL false cL_law 4 30 53 1105 (some .boolean) 385 [some (.ref 0), some (.ref 2), some (.ref 39), some (vI i)] [] (hp S) 53 1105 (fun v _ => v = some (vI 1)) := by
  obtain ⟨S1, S2, r, h1, h2, hJ2⟩ := tw_place (X := X) hJ (hr (i + 1).toNat) (hr (i + 2).toNat)
  refine sx_aload_n (p1 := 386) dL_law_385 rfl rfl ?_
  refine sx_aload_n (p1 := 387) dL_law_386 rfl rfl ?_
  refine sx_iload_n (p1 := 388) dL_law_387 rfl rfl ?_
  refine sx_iconst (p1 := 389) dL_law_388 rfl ?_
  refine sx_iadd (p1 := 390) dL_law_389 rfl ?_
  refine sx_iald0 (p1 := 391) dL_law_390 rfl (by omega) (by omega) ?_
  refine sx_aload_n (p1 := 392) dL_law_391 rfl rfl ?_
  refine sx_iload_n (p1 := 393) dL_law_392 rfl rfl ?_
  refine sx_iconst (p1 := 394) dL_law_393 rfl ?_
  refine sx_iadd (p1 := 395) dL_law_394 rfl ?_
  refine sx_iald0 (p1 := 396) dL_law_395 rfl (by omega) (by omega) ?_
  refine sx_callVr (p1 := 399) (As := [_, _]) (k1 := 53) (n1 := 1105) dL_law_396 rfl rfl (h1) mt_X11_place ml_L_43 (hp_c2 _) rfl rfl (Nat.le_of_ble_eq_true rfl) rfl (Nat.le_of_ble_eq_true rfl) rfl rfl (Nat.le_of_ble_eq_true rfl) (Nat.le_of_ble_eq_true rfl) ?_
  refine sx_aload_n (p1 := 400) dL_law_399 rfl rfl ?_
  refine sx_aload_n (p1 := 401) dL_law_400 rfl rfl ?_
  refine sx_iload_n (p1 := 402) dL_law_401 rfl rfl ?_
  refine sx_iconst (p1 := 403) dL_law_402 rfl ?_
  refine sx_iadd (p1 := 404) dL_law_403 rfl ?_
  refine sx_iald0 (p1 := 405) dL_law_404 rfl (by omega) (by omega) ?_
  refine sx_aload_n (p1 := 406) dL_law_405 rfl rfl ?_
  refine sx_iload_n (p1 := 407) dL_law_406 rfl rfl ?_
  refine sx_iconst (p1 := 408) dL_law_407 rfl ?_
  refine sx_iadd (p1 := 409) dL_law_408 rfl ?_
  refine sx_iald0 (p1 := 410) dL_law_409 rfl (by omega) (by omega) ?_
  refine sx_callVr (p1 := 413) (As := [_, _]) (k1 := 53) (n1 := 1105) dL_law_410 rfl rfl (h2) mt_X12_place ml_L_46 (hp_c39 _) rfl rfl (Nat.le_of_ble_eq_true rfl) rfl (Nat.le_of_ble_eq_true rfl) rfl rfl (Nat.le_of_ble_eq_true rfl) (Nat.le_of_ble_eq_true rfl) ?_
  refine sx_icmp_eqR (tg := 1254) dL_law_413 rfl ?_
  exact K _ hJ2
set_option maxRecDepth 20000 in
theorem lk_treads {X : sx_X} {S : St} {i : Int} (hX : X.1 ≤ 384) (hr : ∀ j, -2147483648 ≤ X.2 j ∧ X.2 j ≤ 2147483647) (hi : 0 ≤ i ∧ i + 6 ≤ X.1) (hJ : J S) (K : ∀ S2 : St, J S2 → Rn X RL false cL_law 4 30 53 1105 (some .boolean) 1254 [some (.ref 0), some (.ref 2), some (.ref 39), some (vI i)] [] (hp S2) 53 1105 (fun v _ => v = some (vI 1))) : Rn X RL false cL_law 4 30 53 1105 (some .boolean) 418 [some (.ref 0), some (.ref 2), some (.ref 39), some (vI i)] [] (hp S) 53 1105 (fun v _ => v = some (vI 1)) := by
  obtain ⟨S1, S2, r, h1, h2, hJ2⟩ := tw_treads (X := X) hJ (hr (i + 1).toNat) (hr (i + 2).toNat)
  refine sx_aload_n (p1 := 419) dL_law_418 rfl rfl ?_
  refine sx_aload_n (p1 := 420) dL_law_419 rfl rfl ?_
  refine sx_iload_n (p1 := 421) dL_law_420 rfl rfl ?_
  refine sx_iconst (p1 := 422) dL_law_421 rfl ?_
  refine sx_iadd (p1 := 423) dL_law_422 rfl ?_
  refine sx_iald0 (p1 := 424) dL_law_423 rfl (by omega) (by omega) ?_
  refine sx_aload_n (p1 := 425) dL_law_424 rfl rfl ?_
  refine sx_iload_n (p1 := 426) dL_law_425 rfl rfl ?_
  refine sx_iconst (p1 := 427) dL_law_426 rfl ?_
  refine sx_iadd (p1 := 428) dL_law_427 rfl ?_
  refine sx_iald0 (p1 := 429) dL_law_428 rfl (by omega) (by omega) ?_
  refine sx_callVr (p1 := 432) (As := [_, _]) (k1 := 53) (n1 := 1105) dL_law_429 rfl rfl (h1) mt_X11_treads ml_L_47 (hp_c2 _) rfl rfl (Nat.le_of_ble_eq_true rfl) rfl (Nat.le_of_ble_eq_true rfl) rfl rfl (Nat.le_of_ble_eq_true rfl) (Nat.le_of_ble_eq_true rfl) ?_
  refine sx_aload_n (p1 := 433) dL_law_432 rfl rfl ?_
  refine sx_aload_n (p1 := 434) dL_law_433 rfl rfl ?_
  refine sx_iload_n (p1 := 435) dL_law_434 rfl rfl ?_
  refine sx_iconst (p1 := 436) dL_law_435 rfl ?_
  refine sx_iadd (p1 := 437) dL_law_436 rfl ?_
  refine sx_iald0 (p1 := 438) dL_law_437 rfl (by omega) (by omega) ?_
  refine sx_aload_n (p1 := 439) dL_law_438 rfl rfl ?_
  refine sx_iload_n (p1 := 440) dL_law_439 rfl rfl ?_
  refine sx_iconst (p1 := 441) dL_law_440 rfl ?_
  refine sx_iadd (p1 := 442) dL_law_441 rfl ?_
  refine sx_iald0 (p1 := 443) dL_law_442 rfl (by omega) (by omega) ?_
  refine sx_callVr (p1 := 446) (As := [_, _]) (k1 := 53) (n1 := 1105) dL_law_443 rfl rfl (h2) mt_X12_treads ml_L_50 (hp_c39 _) rfl rfl (Nat.le_of_ble_eq_true rfl) rfl (Nat.le_of_ble_eq_true rfl) rfl rfl (Nat.le_of_ble_eq_true rfl) (Nat.le_of_ble_eq_true rfl) ?_
  refine sx_icmp_eqR (tg := 1254) dL_law_446 rfl ?_
  exact K _ hJ2
set_option maxRecDepth 20000 in
theorem lk_hits {X : sx_X} {S : St} {i : Int} (hX : X.1 ≤ 384) (hr : ∀ j, -2147483648 ≤ X.2 j ∧ X.2 j ≤ 2147483647) (hi : 0 ≤ i ∧ i + 6 ≤ X.1) (hJ : J S) (K : ∀ S2 : St, J S2 → Rn X RL false cL_law 4 30 53 1105 (some .boolean) 1254 [some (.ref 0), some (.ref 2), some (.ref 39), some (vI i)] [] (hp S2) 53 1105 (fun v _ => v = some (vI 1))) : Rn X RL false cL_law 4 30 53 1105 (some .boolean) 451 [some (.ref 0), some (.ref 2), some (.ref 39), some (vI i)] [] (hp S) 53 1105 (fun v _ => v = some (vI 1)) := by
  obtain ⟨S1, S2, r, h1, h2, hJ2⟩ := tw_hits (X := X) hJ (hr (i + 1).toNat) (hr (i + 2).toNat) (hr (i + 3).toNat)
  refine sx_aload_n (p1 := 452) dL_law_451 rfl rfl ?_
  refine sx_aload_n (p1 := 453) dL_law_452 rfl rfl ?_
  refine sx_iload_n (p1 := 454) dL_law_453 rfl rfl ?_
  refine sx_iconst (p1 := 455) dL_law_454 rfl ?_
  refine sx_iadd (p1 := 456) dL_law_455 rfl ?_
  refine sx_iald0 (p1 := 457) dL_law_456 rfl (by omega) (by omega) ?_
  refine sx_aload_n (p1 := 458) dL_law_457 rfl rfl ?_
  refine sx_iload_n (p1 := 459) dL_law_458 rfl rfl ?_
  refine sx_iconst (p1 := 460) dL_law_459 rfl ?_
  refine sx_iadd (p1 := 461) dL_law_460 rfl ?_
  refine sx_iald0 (p1 := 462) dL_law_461 rfl (by omega) (by omega) ?_
  refine sx_aload_n (p1 := 463) dL_law_462 rfl rfl ?_
  refine sx_iload_n (p1 := 464) dL_law_463 rfl rfl ?_
  refine sx_iconst (p1 := 465) dL_law_464 rfl ?_
  refine sx_iadd (p1 := 466) dL_law_465 rfl ?_
  refine sx_iald0 (p1 := 467) dL_law_466 rfl (by omega) (by omega) ?_
  refine sx_callVr (p1 := 470) (As := [_, _, _]) (k1 := 53) (n1 := 1105) dL_law_467 rfl rfl (h1) mt_X11_hits ml_L_51 (hp_c2 _) rfl rfl (Nat.le_of_ble_eq_true rfl) rfl (Nat.le_of_ble_eq_true rfl) rfl rfl (Nat.le_of_ble_eq_true rfl) (Nat.le_of_ble_eq_true rfl) ?_
  refine sx_aload_n (p1 := 471) dL_law_470 rfl rfl ?_
  refine sx_aload_n (p1 := 472) dL_law_471 rfl rfl ?_
  refine sx_iload_n (p1 := 473) dL_law_472 rfl rfl ?_
  refine sx_iconst (p1 := 474) dL_law_473 rfl ?_
  refine sx_iadd (p1 := 475) dL_law_474 rfl ?_
  refine sx_iald0 (p1 := 476) dL_law_475 rfl (by omega) (by omega) ?_
  refine sx_aload_n (p1 := 477) dL_law_476 rfl rfl ?_
  refine sx_iload_n (p1 := 478) dL_law_477 rfl rfl ?_
  refine sx_iconst (p1 := 479) dL_law_478 rfl ?_
  refine sx_iadd (p1 := 480) dL_law_479 rfl ?_
  refine sx_iald0 (p1 := 481) dL_law_480 rfl (by omega) (by omega) ?_
  refine sx_aload_n (p1 := 482) dL_law_481 rfl rfl ?_
  refine sx_iload_n (p1 := 483) dL_law_482 rfl rfl ?_
  refine sx_iconst (p1 := 484) dL_law_483 rfl ?_
  refine sx_iadd (p1 := 485) dL_law_484 rfl ?_
  refine sx_iald0 (p1 := 486) dL_law_485 rfl (by omega) (by omega) ?_
  refine sx_callVr (p1 := 489) (As := [_, _, _]) (k1 := 53) (n1 := 1105) dL_law_486 rfl rfl (h2) mt_X12_hits ml_L_55 (hp_c39 _) rfl rfl (Nat.le_of_ble_eq_true rfl) rfl (Nat.le_of_ble_eq_true rfl) rfl rfl (Nat.le_of_ble_eq_true rfl) (Nat.le_of_ble_eq_true rfl) ?_
  refine sx_icmp_eqR (tg := 1254) dL_law_489 rfl ?_
  exact K _ hJ2
set_option maxRecDepth 20000 in
theorem lk_harm {X : sx_X} {S : St} {i : Int} (hX : X.1 ≤ 384) (hr : ∀ j, -2147483648 ≤ X.2 j ∧ X.2 j ≤ 2147483647) (hi : 0 ≤ i ∧ i + 6 ≤ X.1) (hJ : J S) (K : ∀ S2 : St, J S2 → Rn X RL false cL_law 4 30 53 1105 (some .boolean) 1254 [some (.ref 0), some (.ref 2), some (.ref 39), some (vI i)] [] (hp S2) 53 1105 (fun v _ => v = some (vI 1))) : Rn X RL false cL_law 4 30 53 1105 (some .boolean) 494 [some (.ref 0), some (.ref 2), some (.ref 39), some (vI i)] [] (hp S) 53 1105 (fun v _ => v = some (vI 1)) := by
  obtain ⟨S1, S2, r, h1, h2, hJ2⟩ := tw_harm (X := X) hJ (hr (i + 1).toNat) (hr (i + 2).toNat) (hr (i + 3).toNat)
  refine sx_aload_n (p1 := 495) dL_law_494 rfl rfl ?_
  refine sx_aload_n (p1 := 496) dL_law_495 rfl rfl ?_
  refine sx_iload_n (p1 := 497) dL_law_496 rfl rfl ?_
  refine sx_iconst (p1 := 498) dL_law_497 rfl ?_
  refine sx_iadd (p1 := 499) dL_law_498 rfl ?_
  refine sx_iald0 (p1 := 500) dL_law_499 rfl (by omega) (by omega) ?_
  refine sx_aload_n (p1 := 501) dL_law_500 rfl rfl ?_
  refine sx_iload_n (p1 := 502) dL_law_501 rfl rfl ?_
  refine sx_iconst (p1 := 503) dL_law_502 rfl ?_
  refine sx_iadd (p1 := 504) dL_law_503 rfl ?_
  refine sx_iald0 (p1 := 505) dL_law_504 rfl (by omega) (by omega) ?_
  refine sx_aload_n (p1 := 506) dL_law_505 rfl rfl ?_
  refine sx_iload_n (p1 := 507) dL_law_506 rfl rfl ?_
  refine sx_iconst (p1 := 508) dL_law_507 rfl ?_
  refine sx_iadd (p1 := 509) dL_law_508 rfl ?_
  refine sx_iald0 (p1 := 510) dL_law_509 rfl (by omega) (by omega) ?_
  refine sx_callVr (p1 := 513) (As := [_, _, _]) (k1 := 53) (n1 := 1105) dL_law_510 rfl rfl (h1) mt_X11_harm ml_L_56 (hp_c2 _) rfl rfl (Nat.le_of_ble_eq_true rfl) rfl (Nat.le_of_ble_eq_true rfl) rfl rfl (Nat.le_of_ble_eq_true rfl) (Nat.le_of_ble_eq_true rfl) ?_
  refine sx_aload_n (p1 := 514) dL_law_513 rfl rfl ?_
  refine sx_aload_n (p1 := 515) dL_law_514 rfl rfl ?_
  refine sx_iload_n (p1 := 516) dL_law_515 rfl rfl ?_
  refine sx_iconst (p1 := 517) dL_law_516 rfl ?_
  refine sx_iadd (p1 := 518) dL_law_517 rfl ?_
  refine sx_iald0 (p1 := 519) dL_law_518 rfl (by omega) (by omega) ?_
  refine sx_aload_n (p1 := 520) dL_law_519 rfl rfl ?_
  refine sx_iload_n (p1 := 521) dL_law_520 rfl rfl ?_
  refine sx_iconst (p1 := 522) dL_law_521 rfl ?_
  refine sx_iadd (p1 := 523) dL_law_522 rfl ?_
  refine sx_iald0 (p1 := 524) dL_law_523 rfl (by omega) (by omega) ?_
  refine sx_aload_n (p1 := 525) dL_law_524 rfl rfl ?_
  refine sx_iload_n (p1 := 526) dL_law_525 rfl rfl ?_
  refine sx_iconst (p1 := 527) dL_law_526 rfl ?_
  refine sx_iadd (p1 := 528) dL_law_527 rfl ?_
  refine sx_iald0 (p1 := 529) dL_law_528 rfl (by omega) (by omega) ?_
  refine sx_callVr (p1 := 532) (As := [_, _, _]) (k1 := 53) (n1 := 1105) dL_law_529 rfl rfl (h2) mt_X12_harm ml_L_60 (hp_c39 _) rfl rfl (Nat.le_of_ble_eq_true rfl) rfl (Nat.le_of_ble_eq_true rfl) rfl rfl (Nat.le_of_ble_eq_true rfl) (Nat.le_of_ble_eq_true rfl) ?_
  refine sx_lcmp_eqR (tg := 1254) dL_law_532 dL_law_533 rfl ?_
  exact K _ hJ2
set_option maxRecDepth 20000 in
theorem lk_all {X : sx_X} {S : St} {i : Int} (hX : X.1 ≤ 384) (hr : ∀ j, -2147483648 ≤ X.2 j ∧ X.2 j ≤ 2147483647) (hi : 0 ≤ i ∧ i + 6 ≤ X.1) (hJ : J S) (K : ∀ S2 : St, J S2 → Rn X RL false cL_law 4 30 53 1105 (some .boolean) 1254 [some (.ref 0), some (.ref 2), some (.ref 39), some (vI i)] [] (hp S2) 53 1105 (fun v _ => v = some (vI 1))) : Rn X RL false cL_law 4 30 53 1105 (some .boolean) 538 [some (.ref 0), some (.ref 2), some (.ref 39), some (vI i)] [] (hp S) 53 1105 (fun v _ => v = some (vI 1)) := by
  obtain ⟨S1, S2, r, h1, h2, hJ2⟩ := tw_all (X := X) hJ (hr (i + 1).toNat) (hr (i + 2).toNat)
  refine sx_aload_n (p1 := 539) dL_law_538 rfl rfl ?_
  refine sx_aload_n (p1 := 540) dL_law_539 rfl rfl ?_
  refine sx_iload_n (p1 := 541) dL_law_540 rfl rfl ?_
  refine sx_iconst (p1 := 542) dL_law_541 rfl ?_
  refine sx_iadd (p1 := 543) dL_law_542 rfl ?_
  refine sx_iald0 (p1 := 544) dL_law_543 rfl (by omega) (by omega) ?_
  refine sx_aload_n (p1 := 545) dL_law_544 rfl rfl ?_
  refine sx_iload_n (p1 := 546) dL_law_545 rfl rfl ?_
  refine sx_iconst (p1 := 547) dL_law_546 rfl ?_
  refine sx_iadd (p1 := 548) dL_law_547 rfl ?_
  refine sx_iald0 (p1 := 549) dL_law_548 rfl (by omega) (by omega) ?_
  refine sx_callVr (p1 := 552) (As := [_, _]) (k1 := 53) (n1 := 1105) dL_law_549 rfl rfl (h1) mt_X11_all ml_L_61 (hp_c2 _) rfl rfl (Nat.le_of_ble_eq_true rfl) rfl (Nat.le_of_ble_eq_true rfl) rfl rfl (Nat.le_of_ble_eq_true rfl) (Nat.le_of_ble_eq_true rfl) ?_
  refine sx_aload_n (p1 := 553) dL_law_552 rfl rfl ?_
  refine sx_aload_n (p1 := 554) dL_law_553 rfl rfl ?_
  refine sx_iload_n (p1 := 555) dL_law_554 rfl rfl ?_
  refine sx_iconst (p1 := 556) dL_law_555 rfl ?_
  refine sx_iadd (p1 := 557) dL_law_556 rfl ?_
  refine sx_iald0 (p1 := 558) dL_law_557 rfl (by omega) (by omega) ?_
  refine sx_aload_n (p1 := 559) dL_law_558 rfl rfl ?_
  refine sx_iload_n (p1 := 560) dL_law_559 rfl rfl ?_
  refine sx_iconst (p1 := 561) dL_law_560 rfl ?_
  refine sx_iadd (p1 := 562) dL_law_561 rfl ?_
  refine sx_iald0 (p1 := 563) dL_law_562 rfl (by omega) (by omega) ?_
  refine sx_callVr (p1 := 566) (As := [_, _]) (k1 := 53) (n1 := 1105) dL_law_563 rfl rfl (h2) mt_X12_all ml_L_65 (hp_c39 _) rfl rfl (Nat.le_of_ble_eq_true rfl) rfl (Nat.le_of_ble_eq_true rfl) rfl rfl (Nat.le_of_ble_eq_true rfl) (Nat.le_of_ble_eq_true rfl) ?_
  refine sx_lcmp_eqR (tg := 1254) dL_law_566 dL_law_567 rfl ?_
  exact K _ hJ2
set_option maxRecDepth 20000 in
theorem lk_ends {X : sx_X} {S : St} {i : Int} (hX : X.1 ≤ 384) (hr : ∀ j, -2147483648 ≤ X.2 j ∧ X.2 j ≤ 2147483647) (hi : 0 ≤ i ∧ i + 6 ≤ X.1) (hJ : J S) (K : ∀ S2 : St, J S2 → Rn X RL false cL_law 4 30 53 1105 (some .boolean) 1254 [some (.ref 0), some (.ref 2), some (.ref 39), some (vI i)] [] (hp S2) 53 1105 (fun v _ => v = some (vI 1))) : Rn X RL false cL_law 4 30 53 1105 (some .boolean) 572 [some (.ref 0), some (.ref 2), some (.ref 39), some (vI i)] [] (hp S) 53 1105 (fun v _ => v = some (vI 1)) := by
  obtain ⟨S1, S2, r, h1, h2, hJ2⟩ := tw_ends (X := X) hJ 
  refine sx_aload_n (p1 := 573) dL_law_572 rfl rfl ?_
  refine sx_callVr (p1 := 576) (As := []) (k1 := 53) (n1 := 1105) dL_law_573 rfl rfl (h1) mt_X11_ends ml_L_66 (hp_c2 _) rfl rfl (Nat.le_of_ble_eq_true rfl) rfl (Nat.le_of_ble_eq_true rfl) rfl rfl (Nat.le_of_ble_eq_true rfl) (Nat.le_of_ble_eq_true rfl) ?_
  refine sx_aload_n (p1 := 577) dL_law_576 rfl rfl ?_
  refine sx_callVr (p1 := 580) (As := []) (k1 := 53) (n1 := 1105) dL_law_577 rfl rfl (h2) mt_X12_ends ml_L_70 (hp_c39 _) rfl rfl (Nat.le_of_ble_eq_true rfl) rfl (Nat.le_of_ble_eq_true rfl) rfl rfl (Nat.le_of_ble_eq_true rfl) (Nat.le_of_ble_eq_true rfl) ?_
  refine sx_icmp_eqR (tg := 1254) dL_law_580 rfl ?_
  exact K _ hJ2
set_option maxRecDepth 20000 in
theorem lk_latest {X : sx_X} {S : St} {i : Int} (hX : X.1 ≤ 384) (hr : ∀ j, -2147483648 ≤ X.2 j ∧ X.2 j ≤ 2147483647) (hi : 0 ≤ i ∧ i + 6 ≤ X.1) (hJ : J S) (K : ∀ S2 : St, J S2 → Rn X RL false cL_law 4 30 53 1105 (some .boolean) 1254 [some (.ref 0), some (.ref 2), some (.ref 39), some (vI i)] [] (hp S2) 53 1105 (fun v _ => v = some (vI 1))) : Rn X RL false cL_law 4 30 53 1105 (some .boolean) 585 [some (.ref 0), some (.ref 2), some (.ref 39), some (vI i)] [] (hp S) 53 1105 (fun v _ => v = some (vI 1)) := by
  obtain ⟨S1, S2, r, h1, h2, hJ2⟩ := tw_latest (X := X) hJ 
  refine sx_aload_n (p1 := 586) dL_law_585 rfl rfl ?_
  refine sx_callVr (p1 := 589) (As := []) (k1 := 53) (n1 := 1105) dL_law_586 rfl rfl (h1) mt_X11_latest ml_L_71 (hp_c2 _) rfl rfl (Nat.le_of_ble_eq_true rfl) rfl (Nat.le_of_ble_eq_true rfl) rfl rfl (Nat.le_of_ble_eq_true rfl) (Nat.le_of_ble_eq_true rfl) ?_
  refine sx_aload_n (p1 := 590) dL_law_589 rfl rfl ?_
  refine sx_callVr (p1 := 593) (As := []) (k1 := 53) (n1 := 1105) dL_law_590 rfl rfl (h2) mt_X12_latest ml_L_74 (hp_c39 _) rfl rfl (Nat.le_of_ble_eq_true rfl) rfl (Nat.le_of_ble_eq_true rfl) rfl rfl (Nat.le_of_ble_eq_true rfl) (Nat.le_of_ble_eq_true rfl) ?_
  refine sx_icmp_eqR (tg := 1254) dL_law_593 rfl ?_
  exact K _ hJ2
set_option maxRecDepth 20000 in
theorem lk_curve {X : sx_X} {S : St} {i : Int} (hX : X.1 ≤ 384) (hr : ∀ j, -2147483648 ≤ X.2 j ∧ X.2 j ≤ 2147483647) (hi : 0 ≤ i ∧ i + 6 ≤ X.1) (hJ : J S) (K : ∀ S2 : St, J S2 → Rn X RL false cL_law 4 30 53 1105 (some .boolean) 1254 [some (.ref 0), some (.ref 2), some (.ref 39), some (vI i)] [] (hp S2) 53 1105 (fun v _ => v = some (vI 1))) : Rn X RL false cL_law 4 30 53 1105 (some .boolean) 598 [some (.ref 0), some (.ref 2), some (.ref 39), some (vI i)] [] (hp S) 53 1105 (fun v _ => v = some (vI 1)) := by
  obtain ⟨S1, S2, r, h1, h2, hJ2⟩ := tw_curve (X := X) hJ (hr (i + 1).toNat) (hr (i + 2).toNat)
  refine sx_aload_n (p1 := 599) dL_law_598 rfl rfl ?_
  refine sx_aload_n (p1 := 600) dL_law_599 rfl rfl ?_
  refine sx_iload_n (p1 := 601) dL_law_600 rfl rfl ?_
  refine sx_iconst (p1 := 602) dL_law_601 rfl ?_
  refine sx_iadd (p1 := 603) dL_law_602 rfl ?_
  refine sx_iald0 (p1 := 604) dL_law_603 rfl (by omega) (by omega) ?_
  refine sx_aload_n (p1 := 605) dL_law_604 rfl rfl ?_
  refine sx_iload_n (p1 := 606) dL_law_605 rfl rfl ?_
  refine sx_iconst (p1 := 607) dL_law_606 rfl ?_
  refine sx_iadd (p1 := 608) dL_law_607 rfl ?_
  refine sx_iald0 (p1 := 609) dL_law_608 rfl (by omega) (by omega) ?_
  refine sx_callVr (p1 := 612) (As := [_, _]) (k1 := 53) (n1 := 1105) dL_law_609 rfl rfl (h1) mt_X11_curve ml_L_75 (hp_c2 _) rfl rfl (Nat.le_of_ble_eq_true rfl) rfl (Nat.le_of_ble_eq_true rfl) rfl rfl (Nat.le_of_ble_eq_true rfl) (Nat.le_of_ble_eq_true rfl) ?_
  refine sx_aload_n (p1 := 613) dL_law_612 rfl rfl ?_
  refine sx_aload_n (p1 := 614) dL_law_613 rfl rfl ?_
  refine sx_iload_n (p1 := 615) dL_law_614 rfl rfl ?_
  refine sx_iconst (p1 := 616) dL_law_615 rfl ?_
  refine sx_iadd (p1 := 617) dL_law_616 rfl ?_
  refine sx_iald0 (p1 := 618) dL_law_617 rfl (by omega) (by omega) ?_
  refine sx_aload_n (p1 := 619) dL_law_618 rfl rfl ?_
  refine sx_iload_n (p1 := 620) dL_law_619 rfl rfl ?_
  refine sx_iconst (p1 := 621) dL_law_620 rfl ?_
  refine sx_iadd (p1 := 622) dL_law_621 rfl ?_
  refine sx_iald0 (p1 := 623) dL_law_622 rfl (by omega) (by omega) ?_
  refine sx_callVr (p1 := 626) (As := [_, _]) (k1 := 53) (n1 := 1105) dL_law_623 rfl rfl (h2) mt_X12_curve ml_L_78 (hp_c39 _) rfl rfl (Nat.le_of_ble_eq_true rfl) rfl (Nat.le_of_ble_eq_true rfl) rfl rfl (Nat.le_of_ble_eq_true rfl) (Nat.le_of_ble_eq_true rfl) ?_
  refine sx_lcmp_eqR (tg := 1254) dL_law_626 dL_law_627 rfl ?_
  exact K _ hJ2
set_option maxRecDepth 20000 in
theorem lk_gap {X : sx_X} {S : St} {i : Int} (hX : X.1 ≤ 384) (hr : ∀ j, -2147483648 ≤ X.2 j ∧ X.2 j ≤ 2147483647) (hi : 0 ≤ i ∧ i + 6 ≤ X.1) (hJ : J S) (K : ∀ S2 : St, J S2 → Rn X RL false cL_law 4 30 53 1105 (some .boolean) 1254 [some (.ref 0), some (.ref 2), some (.ref 39), some (vI i)] [] (hp S2) 53 1105 (fun v _ => v = some (vI 1))) : Rn X RL false cL_law 4 30 53 1105 (some .boolean) 632 [some (.ref 0), some (.ref 2), some (.ref 39), some (vI i)] [] (hp S) 53 1105 (fun v _ => v = some (vI 1)) := by
  obtain ⟨S1, S2, r, h1, h2, hJ2⟩ := tw_gap (X := X) hJ (hr (i + 1).toNat)
  refine sx_aload_n (p1 := 633) dL_law_632 rfl rfl ?_
  refine sx_aload_n (p1 := 634) dL_law_633 rfl rfl ?_
  refine sx_iload_n (p1 := 635) dL_law_634 rfl rfl ?_
  refine sx_iconst (p1 := 636) dL_law_635 rfl ?_
  refine sx_iadd (p1 := 637) dL_law_636 rfl ?_
  refine sx_iald0 (p1 := 638) dL_law_637 rfl (by omega) (by omega) ?_
  refine sx_callVr (p1 := 641) (As := [_]) (k1 := 53) (n1 := 1105) dL_law_638 rfl rfl (h1) mt_X11_gap ml_L_79 (hp_c2 _) rfl rfl (Nat.le_of_ble_eq_true rfl) rfl (Nat.le_of_ble_eq_true rfl) rfl rfl (Nat.le_of_ble_eq_true rfl) (Nat.le_of_ble_eq_true rfl) ?_
  refine sx_aload_n (p1 := 642) dL_law_641 rfl rfl ?_
  refine sx_aload_n (p1 := 643) dL_law_642 rfl rfl ?_
  refine sx_iload_n (p1 := 644) dL_law_643 rfl rfl ?_
  refine sx_iconst (p1 := 645) dL_law_644 rfl ?_
  refine sx_iadd (p1 := 646) dL_law_645 rfl ?_
  refine sx_iald0 (p1 := 647) dL_law_646 rfl (by omega) (by omega) ?_
  refine sx_callVr (p1 := 650) (As := [_]) (k1 := 53) (n1 := 1105) dL_law_647 rfl rfl (h2) mt_X12_gap ml_L_82 (hp_c39 _) rfl rfl (Nat.le_of_ble_eq_true rfl) rfl (Nat.le_of_ble_eq_true rfl) rfl rfl (Nat.le_of_ble_eq_true rfl) (Nat.le_of_ble_eq_true rfl) ?_
  refine sx_icmp_eqR (tg := 1254) dL_law_650 rfl ?_
  exact K _ hJ2
set_option maxRecDepth 20000 in
theorem lk_order {X : sx_X} {S : St} {i : Int} (hX : X.1 ≤ 384) (hr : ∀ j, -2147483648 ≤ X.2 j ∧ X.2 j ≤ 2147483647) (hi : 0 ≤ i ∧ i + 6 ≤ X.1) (hJ : J S) (K : ∀ S2 : St, J S2 → Rn X RL false cL_law 4 30 53 1105 (some .boolean) 1254 [some (.ref 0), some (.ref 2), some (.ref 39), some (vI i)] [] (hp S2) 53 1105 (fun v _ => v = some (vI 1))) : Rn X RL false cL_law 4 30 53 1105 (some .boolean) 655 [some (.ref 0), some (.ref 2), some (.ref 39), some (vI i)] [] (hp S) 53 1105 (fun v _ => v = some (vI 1)) := by
  obtain ⟨S1, S2, r, h1, h2, hJ2⟩ := tw_order (X := X) hJ (hr (i + 1).toNat)
  refine sx_aload_n (p1 := 656) dL_law_655 rfl rfl ?_
  refine sx_aload_n (p1 := 657) dL_law_656 rfl rfl ?_
  refine sx_iload_n (p1 := 658) dL_law_657 rfl rfl ?_
  refine sx_iconst (p1 := 659) dL_law_658 rfl ?_
  refine sx_iadd (p1 := 660) dL_law_659 rfl ?_
  refine sx_iald0 (p1 := 661) dL_law_660 rfl (by omega) (by omega) ?_
  refine sx_callVr (p1 := 664) (As := [_]) (k1 := 53) (n1 := 1105) dL_law_661 rfl rfl (h1) mt_X11_order ml_L_83 (hp_c2 _) rfl rfl (Nat.le_of_ble_eq_true rfl) rfl (Nat.le_of_ble_eq_true rfl) rfl rfl (Nat.le_of_ble_eq_true rfl) (Nat.le_of_ble_eq_true rfl) ?_
  refine sx_aload_n (p1 := 665) dL_law_664 rfl rfl ?_
  refine sx_aload_n (p1 := 666) dL_law_665 rfl rfl ?_
  refine sx_iload_n (p1 := 667) dL_law_666 rfl rfl ?_
  refine sx_iconst (p1 := 668) dL_law_667 rfl ?_
  refine sx_iadd (p1 := 669) dL_law_668 rfl ?_
  refine sx_iald0 (p1 := 670) dL_law_669 rfl (by omega) (by omega) ?_
  refine sx_callVr (p1 := 673) (As := [_]) (k1 := 53) (n1 := 1105) dL_law_670 rfl rfl (h2) mt_X12_order ml_L_86 (hp_c39 _) rfl rfl (Nat.le_of_ble_eq_true rfl) rfl (Nat.le_of_ble_eq_true rfl) rfl rfl (Nat.le_of_ble_eq_true rfl) (Nat.le_of_ble_eq_true rfl) ?_
  refine sx_icmp_eqR (tg := 1254) dL_law_673 rfl ?_
  exact K _ hJ2
set_option maxRecDepth 20000 in
theorem lk_ordered {X : sx_X} {S : St} {i : Int} (hX : X.1 ≤ 384) (hr : ∀ j, -2147483648 ≤ X.2 j ∧ X.2 j ≤ 2147483647) (hi : 0 ≤ i ∧ i + 6 ≤ X.1) (hJ : J S) (K : ∀ S2 : St, J S2 → Rn X RL false cL_law 4 30 53 1105 (some .boolean) 1254 [some (.ref 0), some (.ref 2), some (.ref 39), some (vI i)] [] (hp S2) 53 1105 (fun v _ => v = some (vI 1))) : Rn X RL false cL_law 4 30 53 1105 (some .boolean) 678 [some (.ref 0), some (.ref 2), some (.ref 39), some (vI i)] [] (hp S) 53 1105 (fun v _ => v = some (vI 1)) := by
  obtain ⟨S1, S2, r, h1, h2, hJ2⟩ := tw_ordered (X := X) hJ (hr (i + 1).toNat)
  refine sx_aload_n (p1 := 679) dL_law_678 rfl rfl ?_
  refine sx_aload_n (p1 := 680) dL_law_679 rfl rfl ?_
  refine sx_iload_n (p1 := 681) dL_law_680 rfl rfl ?_
  refine sx_iconst (p1 := 682) dL_law_681 rfl ?_
  refine sx_iadd (p1 := 683) dL_law_682 rfl ?_
  refine sx_iald0 (p1 := 684) dL_law_683 rfl (by omega) (by omega) ?_
  refine sx_callVr (p1 := 687) (As := [_]) (k1 := 53) (n1 := 1105) dL_law_684 rfl rfl (h1) mt_X11_ordered ml_L_87 (hp_c2 _) rfl rfl (Nat.le_of_ble_eq_true rfl) rfl (Nat.le_of_ble_eq_true rfl) rfl rfl (Nat.le_of_ble_eq_true rfl) (Nat.le_of_ble_eq_true rfl) ?_
  refine sx_aload_n (p1 := 688) dL_law_687 rfl rfl ?_
  refine sx_aload_n (p1 := 689) dL_law_688 rfl rfl ?_
  refine sx_iload_n (p1 := 690) dL_law_689 rfl rfl ?_
  refine sx_iconst (p1 := 691) dL_law_690 rfl ?_
  refine sx_iadd (p1 := 692) dL_law_691 rfl ?_
  refine sx_iald0 (p1 := 693) dL_law_692 rfl (by omega) (by omega) ?_
  refine sx_callVr (p1 := 696) (As := [_]) (k1 := 53) (n1 := 1105) dL_law_693 rfl rfl (h2) mt_X12_ordered ml_L_91 (hp_c39 _) rfl rfl (Nat.le_of_ble_eq_true rfl) rfl (Nat.le_of_ble_eq_true rfl) rfl rfl (Nat.le_of_ble_eq_true rfl) (Nat.le_of_ble_eq_true rfl) ?_
  refine sx_lcmp_eqR (tg := 1254) dL_law_696 dL_law_697 rfl ?_
  exact K _ hJ2
set_option maxRecDepth 20000 in
theorem lk_helmets {X : sx_X} {S : St} {i : Int} (hX : X.1 ≤ 384) (hr : ∀ j, -2147483648 ≤ X.2 j ∧ X.2 j ≤ 2147483647) (hi : 0 ≤ i ∧ i + 6 ≤ X.1) (hJ : J S) (K : ∀ S2 : St, J S2 → Rn X RL false cL_law 4 30 53 1105 (some .boolean) 1254 [some (.ref 0), some (.ref 2), some (.ref 39), some (vI i)] [] (hp S2) 53 1105 (fun v _ => v = some (vI 1))) : Rn X RL false cL_law 4 30 53 1105 (some .boolean) 702 [some (.ref 0), some (.ref 2), some (.ref 39), some (vI i)] [] (hp S) 53 1105 (fun v _ => v = some (vI 1)) := by
  obtain ⟨S1, S2, r, h1, h2, hJ2⟩ := tw_helmets (X := X) hJ (hr (i + 1).toNat) (hr (i + 2).toNat)
  refine sx_aload_n (p1 := 703) dL_law_702 rfl rfl ?_
  refine sx_aload_n (p1 := 704) dL_law_703 rfl rfl ?_
  refine sx_iload_n (p1 := 705) dL_law_704 rfl rfl ?_
  refine sx_iconst (p1 := 706) dL_law_705 rfl ?_
  refine sx_iadd (p1 := 707) dL_law_706 rfl ?_
  refine sx_iald0 (p1 := 708) dL_law_707 rfl (by omega) (by omega) ?_
  refine sx_aload_n (p1 := 709) dL_law_708 rfl rfl ?_
  refine sx_iload_n (p1 := 710) dL_law_709 rfl rfl ?_
  refine sx_iconst (p1 := 711) dL_law_710 rfl ?_
  refine sx_iadd (p1 := 712) dL_law_711 rfl ?_
  refine sx_iald0 (p1 := 713) dL_law_712 rfl (by omega) (by omega) ?_
  refine sx_callVr (p1 := 716) (As := [_, _]) (k1 := 53) (n1 := 1105) dL_law_713 rfl rfl (h1) mt_X11_helmets ml_L_92 (hp_c2 _) rfl rfl (Nat.le_of_ble_eq_true rfl) rfl (Nat.le_of_ble_eq_true rfl) rfl rfl (Nat.le_of_ble_eq_true rfl) (Nat.le_of_ble_eq_true rfl) ?_
  refine sx_aload_n (p1 := 717) dL_law_716 rfl rfl ?_
  refine sx_aload_n (p1 := 718) dL_law_717 rfl rfl ?_
  refine sx_iload_n (p1 := 719) dL_law_718 rfl rfl ?_
  refine sx_iconst (p1 := 720) dL_law_719 rfl ?_
  refine sx_iadd (p1 := 721) dL_law_720 rfl ?_
  refine sx_iald0 (p1 := 722) dL_law_721 rfl (by omega) (by omega) ?_
  refine sx_aload_n (p1 := 723) dL_law_722 rfl rfl ?_
  refine sx_iload_n (p1 := 724) dL_law_723 rfl rfl ?_
  refine sx_iconst (p1 := 725) dL_law_724 rfl ?_
  refine sx_iadd (p1 := 726) dL_law_725 rfl ?_
  refine sx_iald0 (p1 := 727) dL_law_726 rfl (by omega) (by omega) ?_
  refine sx_callVr (p1 := 730) (As := [_, _]) (k1 := 53) (n1 := 1105) dL_law_727 rfl rfl (h2) mt_X12_helmets ml_L_95 (hp_c39 _) rfl rfl (Nat.le_of_ble_eq_true rfl) rfl (Nat.le_of_ble_eq_true rfl) rfl rfl (Nat.le_of_ble_eq_true rfl) (Nat.le_of_ble_eq_true rfl) ?_
  refine sx_lcmp_eqR (tg := 1254) dL_law_730 dL_law_731 rfl ?_
  exact K _ hJ2
set_option maxRecDepth 20000 in
theorem lk_waits {X : sx_X} {S : St} {i : Int} (hX : X.1 ≤ 384) (hr : ∀ j, -2147483648 ≤ X.2 j ∧ X.2 j ≤ 2147483647) (hi : 0 ≤ i ∧ i + 6 ≤ X.1) (hJ : J S) (K : ∀ S2 : St, J S2 → Rn X RL false cL_law 4 30 53 1105 (some .boolean) 1254 [some (.ref 0), some (.ref 2), some (.ref 39), some (vI i)] [] (hp S2) 53 1105 (fun v _ => v = some (vI 1))) : Rn X RL false cL_law 4 30 53 1105 (some .boolean) 736 [some (.ref 0), some (.ref 2), some (.ref 39), some (vI i)] [] (hp S) 53 1105 (fun v _ => v = some (vI 1)) := by
  obtain ⟨S1, S2, r, h1, h2, hJ2⟩ := tw_waits (X := X) hJ (hr (i + 1).toNat) (hr (i + 2).toNat) (hr (i + 3).toNat) (hr (i + 4).toNat)
  refine sx_aload_n (p1 := 737) dL_law_736 rfl rfl ?_
  refine sx_aload_n (p1 := 738) dL_law_737 rfl rfl ?_
  refine sx_iload_n (p1 := 739) dL_law_738 rfl rfl ?_
  refine sx_iconst (p1 := 740) dL_law_739 rfl ?_
  refine sx_iadd (p1 := 741) dL_law_740 rfl ?_
  refine sx_iald0 (p1 := 742) dL_law_741 rfl (by omega) (by omega) ?_
  refine sx_aload_n (p1 := 743) dL_law_742 rfl rfl ?_
  refine sx_iload_n (p1 := 744) dL_law_743 rfl rfl ?_
  refine sx_iconst (p1 := 745) dL_law_744 rfl ?_
  refine sx_iadd (p1 := 746) dL_law_745 rfl ?_
  refine sx_iald0 (p1 := 747) dL_law_746 rfl (by omega) (by omega) ?_
  refine sx_aload_n (p1 := 748) dL_law_747 rfl rfl ?_
  refine sx_iload_n (p1 := 749) dL_law_748 rfl rfl ?_
  refine sx_iconst (p1 := 750) dL_law_749 rfl ?_
  refine sx_iadd (p1 := 751) dL_law_750 rfl ?_
  refine sx_iald0 (p1 := 752) dL_law_751 rfl (by omega) (by omega) ?_
  refine sx_aload_n (p1 := 753) dL_law_752 rfl rfl ?_
  refine sx_iload_n (p1 := 754) dL_law_753 rfl rfl ?_
  refine sx_iconst (p1 := 755) dL_law_754 rfl ?_
  refine sx_iadd (p1 := 756) dL_law_755 rfl ?_
  refine sx_iald0 (p1 := 757) dL_law_756 rfl (by omega) (by omega) ?_
  refine sx_callVr (p1 := 760) (As := [_, _, _, _]) (k1 := 53) (n1 := 1105) dL_law_757 rfl rfl (h1) mt_X11_waits ml_L_96 (hp_c2 _) rfl rfl (Nat.le_of_ble_eq_true rfl) rfl (Nat.le_of_ble_eq_true rfl) rfl rfl (Nat.le_of_ble_eq_true rfl) (Nat.le_of_ble_eq_true rfl) ?_
  refine sx_aload_n (p1 := 761) dL_law_760 rfl rfl ?_
  refine sx_aload_n (p1 := 762) dL_law_761 rfl rfl ?_
  refine sx_iload_n (p1 := 763) dL_law_762 rfl rfl ?_
  refine sx_iconst (p1 := 764) dL_law_763 rfl ?_
  refine sx_iadd (p1 := 765) dL_law_764 rfl ?_
  refine sx_iald0 (p1 := 766) dL_law_765 rfl (by omega) (by omega) ?_
  refine sx_aload_n (p1 := 767) dL_law_766 rfl rfl ?_
  refine sx_iload_n (p1 := 768) dL_law_767 rfl rfl ?_
  refine sx_iconst (p1 := 769) dL_law_768 rfl ?_
  refine sx_iadd (p1 := 770) dL_law_769 rfl ?_
  refine sx_iald0 (p1 := 771) dL_law_770 rfl (by omega) (by omega) ?_
  refine sx_aload_n (p1 := 772) dL_law_771 rfl rfl ?_
  refine sx_iload_n (p1 := 773) dL_law_772 rfl rfl ?_
  refine sx_iconst (p1 := 774) dL_law_773 rfl ?_
  refine sx_iadd (p1 := 775) dL_law_774 rfl ?_
  refine sx_iald0 (p1 := 776) dL_law_775 rfl (by omega) (by omega) ?_
  refine sx_aload_n (p1 := 777) dL_law_776 rfl rfl ?_
  refine sx_iload_n (p1 := 778) dL_law_777 rfl rfl ?_
  refine sx_iconst (p1 := 779) dL_law_778 rfl ?_
  refine sx_iadd (p1 := 780) dL_law_779 rfl ?_
  refine sx_iald0 (p1 := 781) dL_law_780 rfl (by omega) (by omega) ?_
  refine sx_callVr (p1 := 784) (As := [_, _, _, _]) (k1 := 53) (n1 := 1105) dL_law_781 rfl rfl (h2) mt_X12_waits ml_L_100 (hp_c39 _) rfl rfl (Nat.le_of_ble_eq_true rfl) rfl (Nat.le_of_ble_eq_true rfl) rfl rfl (Nat.le_of_ble_eq_true rfl) (Nat.le_of_ble_eq_true rfl) ?_
  refine sx_lcmp_eqR (tg := 1254) dL_law_784 dL_law_785 rfl ?_
  exact K _ hJ2
set_option maxRecDepth 20000 in
theorem lk_foot {X : sx_X} {S : St} {i : Int} (hX : X.1 ≤ 384) (hr : ∀ j, -2147483648 ≤ X.2 j ∧ X.2 j ≤ 2147483647) (hi : 0 ≤ i ∧ i + 6 ≤ X.1) (hJ : J S) (K : ∀ S2 : St, J S2 → Rn X RL false cL_law 4 30 53 1105 (some .boolean) 1254 [some (.ref 0), some (.ref 2), some (.ref 39), some (vI i)] [] (hp S2) 53 1105 (fun v _ => v = some (vI 1))) : Rn X RL false cL_law 4 30 53 1105 (some .boolean) 790 [some (.ref 0), some (.ref 2), some (.ref 39), some (vI i)] [] (hp S) 53 1105 (fun v _ => v = some (vI 1)) := by
  obtain ⟨S1, S2, r, h1, h2, hJ2⟩ := tw_foot (X := X) hJ (hr (i + 1).toNat) (hr (i + 2).toNat) (hr (i + 3).toNat)
  refine sx_aload_n (p1 := 791) dL_law_790 rfl rfl ?_
  refine sx_aload_n (p1 := 792) dL_law_791 rfl rfl ?_
  refine sx_iload_n (p1 := 793) dL_law_792 rfl rfl ?_
  refine sx_iconst (p1 := 794) dL_law_793 rfl ?_
  refine sx_iadd (p1 := 795) dL_law_794 rfl ?_
  refine sx_iald0 (p1 := 796) dL_law_795 rfl (by omega) (by omega) ?_
  refine sx_aload_n (p1 := 797) dL_law_796 rfl rfl ?_
  refine sx_iload_n (p1 := 798) dL_law_797 rfl rfl ?_
  refine sx_iconst (p1 := 799) dL_law_798 rfl ?_
  refine sx_iadd (p1 := 800) dL_law_799 rfl ?_
  refine sx_iald0 (p1 := 801) dL_law_800 rfl (by omega) (by omega) ?_
  refine sx_aload_n (p1 := 802) dL_law_801 rfl rfl ?_
  refine sx_iload_n (p1 := 803) dL_law_802 rfl rfl ?_
  refine sx_iconst (p1 := 804) dL_law_803 rfl ?_
  refine sx_iadd (p1 := 805) dL_law_804 rfl ?_
  refine sx_iald0 (p1 := 806) dL_law_805 rfl (by omega) (by omega) ?_
  refine sx_callVr (p1 := 809) (As := [_, _, _]) (k1 := 53) (n1 := 1105) dL_law_806 rfl rfl (h1) mt_X11_foot ml_L_101 (hp_c2 _) rfl rfl (Nat.le_of_ble_eq_true rfl) rfl (Nat.le_of_ble_eq_true rfl) rfl rfl (Nat.le_of_ble_eq_true rfl) (Nat.le_of_ble_eq_true rfl) ?_
  refine sx_aload_n (p1 := 810) dL_law_809 rfl rfl ?_
  refine sx_aload_n (p1 := 811) dL_law_810 rfl rfl ?_
  refine sx_iload_n (p1 := 812) dL_law_811 rfl rfl ?_
  refine sx_iconst (p1 := 813) dL_law_812 rfl ?_
  refine sx_iadd (p1 := 814) dL_law_813 rfl ?_
  refine sx_iald0 (p1 := 815) dL_law_814 rfl (by omega) (by omega) ?_
  refine sx_aload_n (p1 := 816) dL_law_815 rfl rfl ?_
  refine sx_iload_n (p1 := 817) dL_law_816 rfl rfl ?_
  refine sx_iconst (p1 := 818) dL_law_817 rfl ?_
  refine sx_iadd (p1 := 819) dL_law_818 rfl ?_
  refine sx_iald0 (p1 := 820) dL_law_819 rfl (by omega) (by omega) ?_
  refine sx_aload_n (p1 := 821) dL_law_820 rfl rfl ?_
  refine sx_iload_n (p1 := 822) dL_law_821 rfl rfl ?_
  refine sx_iconst (p1 := 823) dL_law_822 rfl ?_
  refine sx_iadd (p1 := 824) dL_law_823 rfl ?_
  refine sx_iald0 (p1 := 825) dL_law_824 rfl (by omega) (by omega) ?_
  refine sx_callVr (p1 := 828) (As := [_, _, _]) (k1 := 53) (n1 := 1105) dL_law_825 rfl rfl (h2) mt_X12_foot ml_L_104 (hp_c39 _) rfl rfl (Nat.le_of_ble_eq_true rfl) rfl (Nat.le_of_ble_eq_true rfl) rfl rfl (Nat.le_of_ble_eq_true rfl) (Nat.le_of_ble_eq_true rfl) ?_
  refine sx_lcmp_eqR (tg := 1254) dL_law_828 dL_law_829 rfl ?_
  exact K _ hJ2
set_option maxRecDepth 20000 in
theorem lk_fell {X : sx_X} {S : St} {i : Int} (hX : X.1 ≤ 384) (hr : ∀ j, -2147483648 ≤ X.2 j ∧ X.2 j ≤ 2147483647) (hi : 0 ≤ i ∧ i + 6 ≤ X.1) (hJ : J S) (K : ∀ S2 : St, J S2 → Rn X RL false cL_law 4 30 53 1105 (some .boolean) 1254 [some (.ref 0), some (.ref 2), some (.ref 39), some (vI i)] [] (hp S2) 53 1105 (fun v _ => v = some (vI 1))) : Rn X RL false cL_law 4 30 53 1105 (some .boolean) 834 [some (.ref 0), some (.ref 2), some (.ref 39), some (vI i)] [] (hp S) 53 1105 (fun v _ => v = some (vI 1)) := by
  obtain ⟨S1, S2, r, h1, h2, hJ2⟩ := tw_fell (X := X) hJ (hr (i + 1).toNat) (hr (i + 2).toNat) (hr (i + 3).toNat)
  refine sx_aload_n (p1 := 835) dL_law_834 rfl rfl ?_
  refine sx_aload_n (p1 := 836) dL_law_835 rfl rfl ?_
  refine sx_iload_n (p1 := 837) dL_law_836 rfl rfl ?_
  refine sx_iconst (p1 := 838) dL_law_837 rfl ?_
  refine sx_iadd (p1 := 839) dL_law_838 rfl ?_
  refine sx_iald0 (p1 := 840) dL_law_839 rfl (by omega) (by omega) ?_
  refine sx_aload_n (p1 := 841) dL_law_840 rfl rfl ?_
  refine sx_iload_n (p1 := 842) dL_law_841 rfl rfl ?_
  refine sx_iconst (p1 := 843) dL_law_842 rfl ?_
  refine sx_iadd (p1 := 844) dL_law_843 rfl ?_
  refine sx_iald0 (p1 := 845) dL_law_844 rfl (by omega) (by omega) ?_
  refine sx_aload_n (p1 := 846) dL_law_845 rfl rfl ?_
  refine sx_iload_n (p1 := 847) dL_law_846 rfl rfl ?_
  refine sx_iconst (p1 := 848) dL_law_847 rfl ?_
  refine sx_iadd (p1 := 849) dL_law_848 rfl ?_
  refine sx_iald0 (p1 := 850) dL_law_849 rfl (by omega) (by omega) ?_
  refine sx_callVr (p1 := 853) (As := [_, _, _]) (k1 := 53) (n1 := 1105) dL_law_850 rfl rfl (h1) mt_X11_fell ml_L_105 (hp_c2 _) rfl rfl (Nat.le_of_ble_eq_true rfl) rfl (Nat.le_of_ble_eq_true rfl) rfl rfl (Nat.le_of_ble_eq_true rfl) (Nat.le_of_ble_eq_true rfl) ?_
  refine sx_aload_n (p1 := 854) dL_law_853 rfl rfl ?_
  refine sx_aload_n (p1 := 855) dL_law_854 rfl rfl ?_
  refine sx_iload_n (p1 := 856) dL_law_855 rfl rfl ?_
  refine sx_iconst (p1 := 857) dL_law_856 rfl ?_
  refine sx_iadd (p1 := 858) dL_law_857 rfl ?_
  refine sx_iald0 (p1 := 859) dL_law_858 rfl (by omega) (by omega) ?_
  refine sx_aload_n (p1 := 860) dL_law_859 rfl rfl ?_
  refine sx_iload_n (p1 := 861) dL_law_860 rfl rfl ?_
  refine sx_iconst (p1 := 862) dL_law_861 rfl ?_
  refine sx_iadd (p1 := 863) dL_law_862 rfl ?_
  refine sx_iald0 (p1 := 864) dL_law_863 rfl (by omega) (by omega) ?_
  refine sx_aload_n (p1 := 865) dL_law_864 rfl rfl ?_
  refine sx_iload_n (p1 := 866) dL_law_865 rfl rfl ?_
  refine sx_iconst (p1 := 867) dL_law_866 rfl ?_
  refine sx_iadd (p1 := 868) dL_law_867 rfl ?_
  refine sx_iald0 (p1 := 869) dL_law_868 rfl (by omega) (by omega) ?_
  refine sx_callVr (p1 := 872) (As := [_, _, _]) (k1 := 53) (n1 := 1105) dL_law_869 rfl rfl (h2) mt_X12_fell ml_L_108 (hp_c39 _) rfl rfl (Nat.le_of_ble_eq_true rfl) rfl (Nat.le_of_ble_eq_true rfl) rfl rfl (Nat.le_of_ble_eq_true rfl) (Nat.le_of_ble_eq_true rfl) ?_
  refine sx_icmp_eqR (tg := 1254) dL_law_872 rfl ?_
  exact K _ hJ2
set_option maxRecDepth 20000 in
theorem lk_forget {X : sx_X} {S : St} {i : Int} (hX : X.1 ≤ 384) (hr : ∀ j, -2147483648 ≤ X.2 j ∧ X.2 j ≤ 2147483647) (hi : 0 ≤ i ∧ i + 6 ≤ X.1) (hJ : J S) (K : ∀ S2 : St, J S2 → Rn X RL false cL_law 4 30 53 1105 (some .boolean) 1254 [some (.ref 0), some (.ref 2), some (.ref 39), some (vI i)] [] (hp S2) 53 1105 (fun v _ => v = some (vI 1))) : Rn X RL false cL_law 4 30 53 1105 (some .boolean) 877 [some (.ref 0), some (.ref 2), some (.ref 39), some (vI i)] [] (hp S) 53 1105 (fun v _ => v = some (vI 1)) := by
  obtain ⟨S1, S2, r, h1, h2, hJ2⟩ := tw_forget (X := X) hJ 
  refine sx_aload_n (p1 := 878) dL_law_877 rfl rfl ?_
  refine sx_callVr (p1 := 881) (As := []) (k1 := 53) (n1 := 1105) dL_law_878 rfl rfl (h1) mt_X11_forget ml_L_109 (hp_c2 _) rfl rfl (Nat.le_of_ble_eq_true rfl) rfl (Nat.le_of_ble_eq_true rfl) rfl rfl (Nat.le_of_ble_eq_true rfl) (Nat.le_of_ble_eq_true rfl) ?_
  refine sx_aload_n (p1 := 882) dL_law_881 rfl rfl ?_
  refine sx_callVr (p1 := 885) (As := []) (k1 := 53) (n1 := 1105) dL_law_882 rfl rfl (h2) mt_X12_forget ml_L_112 (hp_c39 _) rfl rfl (Nat.le_of_ble_eq_true rfl) rfl (Nat.le_of_ble_eq_true rfl) rfl rfl (Nat.le_of_ble_eq_true rfl) (Nat.le_of_ble_eq_true rfl) ?_
  refine sx_icmp_eqR (tg := 1254) dL_law_885 rfl ?_
  exact K _ hJ2
set_option maxRecDepth 20000 in
theorem lk_loose {X : sx_X} {S : St} {i : Int} (hX : X.1 ≤ 384) (hr : ∀ j, -2147483648 ≤ X.2 j ∧ X.2 j ≤ 2147483647) (hi : 0 ≤ i ∧ i + 6 ≤ X.1) (hJ : J S) (K : ∀ S2 : St, J S2 → Rn X RL false cL_law 4 30 53 1105 (some .boolean) 1254 [some (.ref 0), some (.ref 2), some (.ref 39), some (vI i)] [] (hp S2) 53 1105 (fun v _ => v = some (vI 1))) : Rn X RL false cL_law 4 30 53 1105 (some .boolean) 890 [some (.ref 0), some (.ref 2), some (.ref 39), some (vI i)] [] (hp S) 53 1105 (fun v _ => v = some (vI 1)) := by
  obtain ⟨S1, S2, r, h1, h2, hJ2⟩ := tw_loose (X := X) hJ (hr (i + 1).toNat)
  refine sx_aload_n (p1 := 891) dL_law_890 rfl rfl ?_
  refine sx_aload_n (p1 := 892) dL_law_891 rfl rfl ?_
  refine sx_iload_n (p1 := 893) dL_law_892 rfl rfl ?_
  refine sx_iconst (p1 := 894) dL_law_893 rfl ?_
  refine sx_iadd (p1 := 895) dL_law_894 rfl ?_
  refine sx_iald0 (p1 := 896) dL_law_895 rfl (by omega) (by omega) ?_
  refine sx_callVr (p1 := 899) (As := [_]) (k1 := 53) (n1 := 1105) dL_law_896 rfl rfl (h1) mt_X11_loose ml_L_113 (hp_c2 _) rfl rfl (Nat.le_of_ble_eq_true rfl) rfl (Nat.le_of_ble_eq_true rfl) rfl rfl (Nat.le_of_ble_eq_true rfl) (Nat.le_of_ble_eq_true rfl) ?_
  refine sx_aload_n (p1 := 900) dL_law_899 rfl rfl ?_
  refine sx_aload_n (p1 := 901) dL_law_900 rfl rfl ?_
  refine sx_iload_n (p1 := 902) dL_law_901 rfl rfl ?_
  refine sx_iconst (p1 := 903) dL_law_902 rfl ?_
  refine sx_iadd (p1 := 904) dL_law_903 rfl ?_
  refine sx_iald0 (p1 := 905) dL_law_904 rfl (by omega) (by omega) ?_
  refine sx_callVr (p1 := 908) (As := [_]) (k1 := 53) (n1 := 1105) dL_law_905 rfl rfl (h2) mt_X12_loose ml_L_116 (hp_c39 _) rfl rfl (Nat.le_of_ble_eq_true rfl) rfl (Nat.le_of_ble_eq_true rfl) rfl rfl (Nat.le_of_ble_eq_true rfl) (Nat.le_of_ble_eq_true rfl) ?_
  refine sx_icmp_eqR (tg := 1254) dL_law_908 rfl ?_
  exact K _ hJ2
set_option maxRecDepth 20000 in
theorem lk_read {X : sx_X} {S : St} {i : Int} (hX : X.1 ≤ 384) (hr : ∀ j, -2147483648 ≤ X.2 j ∧ X.2 j ≤ 2147483647) (hi : 0 ≤ i ∧ i + 6 ≤ X.1) (hJ : J S) (K : ∀ S2 : St, J S2 → Rn X RL false cL_law 4 30 53 1105 (some .boolean) 1254 [some (.ref 0), some (.ref 2), some (.ref 39), some (vI i)] [] (hp S2) 53 1105 (fun v _ => v = some (vI 1))) : Rn X RL false cL_law 4 30 53 1105 (some .boolean) 913 [some (.ref 0), some (.ref 2), some (.ref 39), some (vI i)] [] (hp S) 53 1105 (fun v _ => v = some (vI 1)) := by
  obtain ⟨S1, S2, r, h1, h2, hJ2⟩ := tw_read (X := X) hJ (hr (i + 1).toNat)
  refine sx_aload_n (p1 := 914) dL_law_913 rfl rfl ?_
  refine sx_aload_n (p1 := 915) dL_law_914 rfl rfl ?_
  refine sx_iload_n (p1 := 916) dL_law_915 rfl rfl ?_
  refine sx_iconst (p1 := 917) dL_law_916 rfl ?_
  refine sx_iadd (p1 := 918) dL_law_917 rfl ?_
  refine sx_iald0 (p1 := 919) dL_law_918 rfl (by omega) (by omega) ?_
  refine sx_callVr (p1 := 922) (As := [_]) (k1 := 53) (n1 := 1105) dL_law_919 rfl rfl (h1) mt_X11_read ml_L_117 (hp_c2 _) rfl rfl (Nat.le_of_ble_eq_true rfl) rfl (Nat.le_of_ble_eq_true rfl) rfl rfl (Nat.le_of_ble_eq_true rfl) (Nat.le_of_ble_eq_true rfl) ?_
  refine sx_aload_n (p1 := 923) dL_law_922 rfl rfl ?_
  refine sx_aload_n (p1 := 924) dL_law_923 rfl rfl ?_
  refine sx_iload_n (p1 := 925) dL_law_924 rfl rfl ?_
  refine sx_iconst (p1 := 926) dL_law_925 rfl ?_
  refine sx_iadd (p1 := 927) dL_law_926 rfl ?_
  refine sx_iald0 (p1 := 928) dL_law_927 rfl (by omega) (by omega) ?_
  refine sx_callVr (p1 := 931) (As := [_]) (k1 := 53) (n1 := 1105) dL_law_928 rfl rfl (h2) mt_X12_read ml_L_120 (hp_c39 _) rfl rfl (Nat.le_of_ble_eq_true rfl) rfl (Nat.le_of_ble_eq_true rfl) rfl rfl (Nat.le_of_ble_eq_true rfl) (Nat.le_of_ble_eq_true rfl) ?_
  refine sx_icmp_eqR (tg := 1254) dL_law_931 rfl ?_
  exact K _ hJ2
set_option maxRecDepth 20000 in
theorem lk_morning {X : sx_X} {S : St} {i : Int} (hX : X.1 ≤ 384) (hr : ∀ j, -2147483648 ≤ X.2 j ∧ X.2 j ≤ 2147483647) (hi : 0 ≤ i ∧ i + 6 ≤ X.1) (hJ : J S) (K : ∀ S2 : St, J S2 → Rn X RL false cL_law 4 30 53 1105 (some .boolean) 1254 [some (.ref 0), some (.ref 2), some (.ref 39), some (vI i)] [] (hp S2) 53 1105 (fun v _ => v = some (vI 1))) : Rn X RL false cL_law 4 30 53 1105 (some .boolean) 936 [some (.ref 0), some (.ref 2), some (.ref 39), some (vI i)] [] (hp S) 53 1105 (fun v _ => v = some (vI 1)) := by
  obtain ⟨S1, S2, r, h1, h2, hJ2⟩ := tw_morning (X := X) hJ (hr (i + 1).toNat)
  refine sx_aload_n (p1 := 937) dL_law_936 rfl rfl ?_
  refine sx_aload_n (p1 := 938) dL_law_937 rfl rfl ?_
  refine sx_iload_n (p1 := 939) dL_law_938 rfl rfl ?_
  refine sx_iconst (p1 := 940) dL_law_939 rfl ?_
  refine sx_iadd (p1 := 941) dL_law_940 rfl ?_
  refine sx_iald0 (p1 := 942) dL_law_941 rfl (by omega) (by omega) ?_
  refine sx_callVr (p1 := 945) (As := [_]) (k1 := 53) (n1 := 1105) dL_law_942 rfl rfl (h1) mt_X11_morning ml_L_121 (hp_c2 _) rfl rfl (Nat.le_of_ble_eq_true rfl) rfl (Nat.le_of_ble_eq_true rfl) rfl rfl (Nat.le_of_ble_eq_true rfl) (Nat.le_of_ble_eq_true rfl) ?_
  refine sx_aload_n (p1 := 946) dL_law_945 rfl rfl ?_
  refine sx_aload_n (p1 := 947) dL_law_946 rfl rfl ?_
  refine sx_iload_n (p1 := 948) dL_law_947 rfl rfl ?_
  refine sx_iconst (p1 := 949) dL_law_948 rfl ?_
  refine sx_iadd (p1 := 950) dL_law_949 rfl ?_
  refine sx_iald0 (p1 := 951) dL_law_950 rfl (by omega) (by omega) ?_
  refine sx_callVr (p1 := 954) (As := [_]) (k1 := 53) (n1 := 1105) dL_law_951 rfl rfl (h2) mt_X12_morning ml_L_124 (hp_c39 _) rfl rfl (Nat.le_of_ble_eq_true rfl) rfl (Nat.le_of_ble_eq_true rfl) rfl rfl (Nat.le_of_ble_eq_true rfl) (Nat.le_of_ble_eq_true rfl) ?_
  refine sx_icmp_eqR (tg := 1254) dL_law_954 rfl ?_
  exact K _ hJ2
set_option maxRecDepth 20000 in
theorem lk_sheet {X : sx_X} {S : St} {i : Int} (hX : X.1 ≤ 384) (hr : ∀ j, -2147483648 ≤ X.2 j ∧ X.2 j ≤ 2147483647) (hi : 0 ≤ i ∧ i + 6 ≤ X.1) (hJ : J S) (K : ∀ S2 : St, J S2 → Rn X RL false cL_law 4 30 53 1105 (some .boolean) 1254 [some (.ref 0), some (.ref 2), some (.ref 39), some (vI i)] [] (hp S2) 53 1105 (fun v _ => v = some (vI 1))) : Rn X RL false cL_law 4 30 53 1105 (some .boolean) 959 [some (.ref 0), some (.ref 2), some (.ref 39), some (vI i)] [] (hp S) 53 1105 (fun v _ => v = some (vI 1)) := by
  obtain ⟨S1, S2, r, h1, h2, hJ2⟩ := tw_sheet (X := X) hJ (hr (i + 1).toNat) (hr (i + 2).toNat) (hr (i + 3).toNat)
  refine sx_aload_n (p1 := 960) dL_law_959 rfl rfl ?_
  refine sx_aload_n (p1 := 961) dL_law_960 rfl rfl ?_
  refine sx_iload_n (p1 := 962) dL_law_961 rfl rfl ?_
  refine sx_iconst (p1 := 963) dL_law_962 rfl ?_
  refine sx_iadd (p1 := 964) dL_law_963 rfl ?_
  refine sx_iald0 (p1 := 965) dL_law_964 rfl (by omega) (by omega) ?_
  refine sx_aload_n (p1 := 966) dL_law_965 rfl rfl ?_
  refine sx_iload_n (p1 := 967) dL_law_966 rfl rfl ?_
  refine sx_iconst (p1 := 968) dL_law_967 rfl ?_
  refine sx_iadd (p1 := 969) dL_law_968 rfl ?_
  refine sx_iald0 (p1 := 970) dL_law_969 rfl (by omega) (by omega) ?_
  refine sx_aload_n (p1 := 971) dL_law_970 rfl rfl ?_
  refine sx_iload_n (p1 := 972) dL_law_971 rfl rfl ?_
  refine sx_iconst (p1 := 973) dL_law_972 rfl ?_
  refine sx_iadd (p1 := 974) dL_law_973 rfl ?_
  refine sx_iald0 (p1 := 975) dL_law_974 rfl (by omega) (by omega) ?_
  refine sx_callVr (p1 := 978) (As := [_, _, _]) (k1 := 53) (n1 := 1105) dL_law_975 rfl rfl (h1) mt_X11_sheet ml_L_125 (hp_c2 _) rfl rfl (Nat.le_of_ble_eq_true rfl) rfl (Nat.le_of_ble_eq_true rfl) rfl rfl (Nat.le_of_ble_eq_true rfl) (Nat.le_of_ble_eq_true rfl) ?_
  refine sx_aload_n (p1 := 979) dL_law_978 rfl rfl ?_
  refine sx_aload_n (p1 := 980) dL_law_979 rfl rfl ?_
  refine sx_iload_n (p1 := 981) dL_law_980 rfl rfl ?_
  refine sx_iconst (p1 := 982) dL_law_981 rfl ?_
  refine sx_iadd (p1 := 983) dL_law_982 rfl ?_
  refine sx_iald0 (p1 := 984) dL_law_983 rfl (by omega) (by omega) ?_
  refine sx_aload_n (p1 := 985) dL_law_984 rfl rfl ?_
  refine sx_iload_n (p1 := 986) dL_law_985 rfl rfl ?_
  refine sx_iconst (p1 := 987) dL_law_986 rfl ?_
  refine sx_iadd (p1 := 988) dL_law_987 rfl ?_
  refine sx_iald0 (p1 := 989) dL_law_988 rfl (by omega) (by omega) ?_
  refine sx_aload_n (p1 := 990) dL_law_989 rfl rfl ?_
  refine sx_iload_n (p1 := 991) dL_law_990 rfl rfl ?_
  refine sx_iconst (p1 := 992) dL_law_991 rfl ?_
  refine sx_iadd (p1 := 993) dL_law_992 rfl ?_
  refine sx_iald0 (p1 := 994) dL_law_993 rfl (by omega) (by omega) ?_
  refine sx_callVr (p1 := 997) (As := [_, _, _]) (k1 := 53) (n1 := 1105) dL_law_994 rfl rfl (h2) mt_X12_sheet ml_L_128 (hp_c39 _) rfl rfl (Nat.le_of_ble_eq_true rfl) rfl (Nat.le_of_ble_eq_true rfl) rfl rfl (Nat.le_of_ble_eq_true rfl) (Nat.le_of_ble_eq_true rfl) ?_
  refine sx_icmp_eqR (tg := 1254) dL_law_997 rfl ?_
  exact K _ hJ2
set_option maxRecDepth 20000 in
theorem lk_lose {X : sx_X} {S : St} {i : Int} (hX : X.1 ≤ 384) (hr : ∀ j, -2147483648 ≤ X.2 j ∧ X.2 j ≤ 2147483647) (hi : 0 ≤ i ∧ i + 6 ≤ X.1) (hJ : J S) (K : ∀ S2 : St, J S2 → Rn X RL false cL_law 4 30 53 1105 (some .boolean) 1254 [some (.ref 0), some (.ref 2), some (.ref 39), some (vI i)] [] (hp S2) 53 1105 (fun v _ => v = some (vI 1))) : Rn X RL false cL_law 4 30 53 1105 (some .boolean) 1002 [some (.ref 0), some (.ref 2), some (.ref 39), some (vI i)] [] (hp S) 53 1105 (fun v _ => v = some (vI 1)) := by
  obtain ⟨S1, S2, r, h1, h2, hJ2⟩ := tw_lose (X := X) hJ (hr (i + 1).toNat)
  refine sx_aload_n (p1 := 1003) dL_law_1002 rfl rfl ?_
  refine sx_aload_n (p1 := 1004) dL_law_1003 rfl rfl ?_
  refine sx_iload_n (p1 := 1005) dL_law_1004 rfl rfl ?_
  refine sx_iconst (p1 := 1006) dL_law_1005 rfl ?_
  refine sx_iadd (p1 := 1007) dL_law_1006 rfl ?_
  refine sx_iald0 (p1 := 1008) dL_law_1007 rfl (by omega) (by omega) ?_
  refine sx_callVr (p1 := 1011) (As := [_]) (k1 := 53) (n1 := 1105) dL_law_1008 rfl rfl (h1) mt_X11_lose ml_L_129 (hp_c2 _) rfl rfl (Nat.le_of_ble_eq_true rfl) rfl (Nat.le_of_ble_eq_true rfl) rfl rfl (Nat.le_of_ble_eq_true rfl) (Nat.le_of_ble_eq_true rfl) ?_
  refine sx_aload_n (p1 := 1012) dL_law_1011 rfl rfl ?_
  refine sx_aload_n (p1 := 1013) dL_law_1012 rfl rfl ?_
  refine sx_iload_n (p1 := 1014) dL_law_1013 rfl rfl ?_
  refine sx_iconst (p1 := 1015) dL_law_1014 rfl ?_
  refine sx_iadd (p1 := 1016) dL_law_1015 rfl ?_
  refine sx_iald0 (p1 := 1017) dL_law_1016 rfl (by omega) (by omega) ?_
  refine sx_callVr (p1 := 1020) (As := [_]) (k1 := 53) (n1 := 1105) dL_law_1017 rfl rfl (h2) mt_X12_lose ml_L_132 (hp_c39 _) rfl rfl (Nat.le_of_ble_eq_true rfl) rfl (Nat.le_of_ble_eq_true rfl) rfl rfl (Nat.le_of_ble_eq_true rfl) (Nat.le_of_ble_eq_true rfl) ?_
  refine sx_icmp_eqR (tg := 1254) dL_law_1020 rfl ?_
  exact K _ hJ2
set_option maxRecDepth 20000 in
theorem lk_lay {X : sx_X} {S : St} {i : Int} (hX : X.1 ≤ 384) (hr : ∀ j, -2147483648 ≤ X.2 j ∧ X.2 j ≤ 2147483647) (hi : 0 ≤ i ∧ i + 6 ≤ X.1) (hJ : J S) (K : ∀ S2 : St, J S2 → Rn X RL false cL_law 4 30 53 1105 (some .boolean) 1254 [some (.ref 0), some (.ref 2), some (.ref 39), some (vI i)] [] (hp S2) 53 1105 (fun v _ => v = some (vI 1))) : Rn X RL false cL_law 4 30 53 1105 (some .boolean) 1025 [some (.ref 0), some (.ref 2), some (.ref 39), some (vI i)] [] (hp S) 53 1105 (fun v _ => v = some (vI 1)) := by
  obtain ⟨S1, S2, r, h1, h2, hJ2⟩ := tw_lay (X := X) hJ (hr (i + 1).toNat) (hr (i + 2).toNat) (hr (i + 3).toNat) (hr (i + 4).toNat)
  refine sx_aload_n (p1 := 1026) dL_law_1025 rfl rfl ?_
  refine sx_aload_n (p1 := 1027) dL_law_1026 rfl rfl ?_
  refine sx_iload_n (p1 := 1028) dL_law_1027 rfl rfl ?_
  refine sx_iconst (p1 := 1029) dL_law_1028 rfl ?_
  refine sx_iadd (p1 := 1030) dL_law_1029 rfl ?_
  refine sx_iald0 (p1 := 1031) dL_law_1030 rfl (by omega) (by omega) ?_
  refine sx_aload_n (p1 := 1032) dL_law_1031 rfl rfl ?_
  refine sx_iload_n (p1 := 1033) dL_law_1032 rfl rfl ?_
  refine sx_iconst (p1 := 1034) dL_law_1033 rfl ?_
  refine sx_iadd (p1 := 1035) dL_law_1034 rfl ?_
  refine sx_iald0 (p1 := 1036) dL_law_1035 rfl (by omega) (by omega) ?_
  refine sx_aload_n (p1 := 1037) dL_law_1036 rfl rfl ?_
  refine sx_iload_n (p1 := 1038) dL_law_1037 rfl rfl ?_
  refine sx_iconst (p1 := 1039) dL_law_1038 rfl ?_
  refine sx_iadd (p1 := 1040) dL_law_1039 rfl ?_
  refine sx_iald0 (p1 := 1041) dL_law_1040 rfl (by omega) (by omega) ?_
  refine sx_aload_n (p1 := 1042) dL_law_1041 rfl rfl ?_
  refine sx_iload_n (p1 := 1043) dL_law_1042 rfl rfl ?_
  refine sx_iconst (p1 := 1044) dL_law_1043 rfl ?_
  refine sx_iadd (p1 := 1045) dL_law_1044 rfl ?_
  refine sx_iald0 (p1 := 1046) dL_law_1045 rfl (by omega) (by omega) ?_
  refine sx_callVr (p1 := 1049) (As := [_, _, _, _]) (k1 := 53) (n1 := 1105) dL_law_1046 rfl rfl (h1) mt_X11_lay ml_L_133 (hp_c2 _) rfl rfl (Nat.le_of_ble_eq_true rfl) rfl (Nat.le_of_ble_eq_true rfl) rfl rfl (Nat.le_of_ble_eq_true rfl) (Nat.le_of_ble_eq_true rfl) ?_
  refine sx_aload_n (p1 := 1050) dL_law_1049 rfl rfl ?_
  refine sx_aload_n (p1 := 1051) dL_law_1050 rfl rfl ?_
  refine sx_iload_n (p1 := 1052) dL_law_1051 rfl rfl ?_
  refine sx_iconst (p1 := 1053) dL_law_1052 rfl ?_
  refine sx_iadd (p1 := 1054) dL_law_1053 rfl ?_
  refine sx_iald0 (p1 := 1055) dL_law_1054 rfl (by omega) (by omega) ?_
  refine sx_aload_n (p1 := 1056) dL_law_1055 rfl rfl ?_
  refine sx_iload_n (p1 := 1057) dL_law_1056 rfl rfl ?_
  refine sx_iconst (p1 := 1058) dL_law_1057 rfl ?_
  refine sx_iadd (p1 := 1059) dL_law_1058 rfl ?_
  refine sx_iald0 (p1 := 1060) dL_law_1059 rfl (by omega) (by omega) ?_
  refine sx_aload_n (p1 := 1061) dL_law_1060 rfl rfl ?_
  refine sx_iload_n (p1 := 1062) dL_law_1061 rfl rfl ?_
  refine sx_iconst (p1 := 1063) dL_law_1062 rfl ?_
  refine sx_iadd (p1 := 1064) dL_law_1063 rfl ?_
  refine sx_iald0 (p1 := 1065) dL_law_1064 rfl (by omega) (by omega) ?_
  refine sx_aload_n (p1 := 1066) dL_law_1065 rfl rfl ?_
  refine sx_iload_n (p1 := 1067) dL_law_1066 rfl rfl ?_
  refine sx_iconst (p1 := 1068) dL_law_1067 rfl ?_
  refine sx_iadd (p1 := 1069) dL_law_1068 rfl ?_
  refine sx_iald0 (p1 := 1070) dL_law_1069 rfl (by omega) (by omega) ?_
  refine sx_callVr (p1 := 1073) (As := [_, _, _, _]) (k1 := 53) (n1 := 1105) dL_law_1070 rfl rfl (h2) mt_X12_lay ml_L_137 (hp_c39 _) rfl rfl (Nat.le_of_ble_eq_true rfl) rfl (Nat.le_of_ble_eq_true rfl) rfl rfl (Nat.le_of_ble_eq_true rfl) (Nat.le_of_ble_eq_true rfl) ?_
  refine sx_icmp_eqR (tg := 1254) dL_law_1073 rfl ?_
  exact K _ hJ2
set_option maxRecDepth 20000 in
theorem lk_get {X : sx_X} {S : St} {i : Int} (hX : X.1 ≤ 384) (hr : ∀ j, -2147483648 ≤ X.2 j ∧ X.2 j ≤ 2147483647) (hi : 0 ≤ i ∧ i + 6 ≤ X.1) (hJ : J S) (K : ∀ S2 : St, J S2 → Rn X RL false cL_law 4 30 53 1105 (some .boolean) 1254 [some (.ref 0), some (.ref 2), some (.ref 39), some (vI i)] [] (hp S2) 53 1105 (fun v _ => v = some (vI 1))) : Rn X RL false cL_law 4 30 53 1105 (some .boolean) 1078 [some (.ref 0), some (.ref 2), some (.ref 39), some (vI i)] [] (hp S) 53 1105 (fun v _ => v = some (vI 1)) := by
  obtain ⟨S1, S2, r, h1, h2, hJ2⟩ := tw_get (X := X) hJ (hr (i + 1).toNat) (hr (i + 2).toNat) (hr (i + 3).toNat)
  refine sx_aload_n (p1 := 1079) dL_law_1078 rfl rfl ?_
  refine sx_aload_n (p1 := 1080) dL_law_1079 rfl rfl ?_
  refine sx_iload_n (p1 := 1081) dL_law_1080 rfl rfl ?_
  refine sx_iconst (p1 := 1082) dL_law_1081 rfl ?_
  refine sx_iadd (p1 := 1083) dL_law_1082 rfl ?_
  refine sx_iald0 (p1 := 1084) dL_law_1083 rfl (by omega) (by omega) ?_
  refine sx_aload_n (p1 := 1085) dL_law_1084 rfl rfl ?_
  refine sx_iload_n (p1 := 1086) dL_law_1085 rfl rfl ?_
  refine sx_iconst (p1 := 1087) dL_law_1086 rfl ?_
  refine sx_iadd (p1 := 1088) dL_law_1087 rfl ?_
  refine sx_iald0 (p1 := 1089) dL_law_1088 rfl (by omega) (by omega) ?_
  refine sx_aload_n (p1 := 1090) dL_law_1089 rfl rfl ?_
  refine sx_iload_n (p1 := 1091) dL_law_1090 rfl rfl ?_
  refine sx_iconst (p1 := 1092) dL_law_1091 rfl ?_
  refine sx_iadd (p1 := 1093) dL_law_1092 rfl ?_
  refine sx_iald0 (p1 := 1094) dL_law_1093 rfl (by omega) (by omega) ?_
  refine sx_callVr (p1 := 1097) (As := [_, _, _]) (k1 := 53) (n1 := 1105) dL_law_1094 rfl rfl (h1) mt_X11_get ml_L_138 (hp_c2 _) rfl rfl (Nat.le_of_ble_eq_true rfl) rfl (Nat.le_of_ble_eq_true rfl) rfl rfl (Nat.le_of_ble_eq_true rfl) (Nat.le_of_ble_eq_true rfl) ?_
  refine sx_aload_n (p1 := 1098) dL_law_1097 rfl rfl ?_
  refine sx_aload_n (p1 := 1099) dL_law_1098 rfl rfl ?_
  refine sx_iload_n (p1 := 1100) dL_law_1099 rfl rfl ?_
  refine sx_iconst (p1 := 1101) dL_law_1100 rfl ?_
  refine sx_iadd (p1 := 1102) dL_law_1101 rfl ?_
  refine sx_iald0 (p1 := 1103) dL_law_1102 rfl (by omega) (by omega) ?_
  refine sx_aload_n (p1 := 1104) dL_law_1103 rfl rfl ?_
  refine sx_iload_n (p1 := 1105) dL_law_1104 rfl rfl ?_
  refine sx_iconst (p1 := 1106) dL_law_1105 rfl ?_
  refine sx_iadd (p1 := 1107) dL_law_1106 rfl ?_
  refine sx_iald0 (p1 := 1108) dL_law_1107 rfl (by omega) (by omega) ?_
  refine sx_aload_n (p1 := 1109) dL_law_1108 rfl rfl ?_
  refine sx_iload_n (p1 := 1110) dL_law_1109 rfl rfl ?_
  refine sx_iconst (p1 := 1111) dL_law_1110 rfl ?_
  refine sx_iadd (p1 := 1112) dL_law_1111 rfl ?_
  refine sx_iald0 (p1 := 1113) dL_law_1112 rfl (by omega) (by omega) ?_
  refine sx_callVr (p1 := 1116) (As := [_, _, _]) (k1 := 53) (n1 := 1105) dL_law_1113 rfl rfl (h2) mt_X12_get ml_L_141 (hp_c39 _) rfl rfl (Nat.le_of_ble_eq_true rfl) rfl (Nat.le_of_ble_eq_true rfl) rfl rfl (Nat.le_of_ble_eq_true rfl) (Nat.le_of_ble_eq_true rfl) ?_
  refine sx_icmp_eqR (tg := 1254) dL_law_1116 rfl ?_
  exact K _ hJ2
set_option maxRecDepth 20000 in
theorem lk_copy {X : sx_X} {S : St} {i : Int} (hX : X.1 ≤ 384) (hr : ∀ j, -2147483648 ≤ X.2 j ∧ X.2 j ≤ 2147483647) (hi : 0 ≤ i ∧ i + 6 ≤ X.1) (hJ : J S) (K : ∀ S2 : St, J S2 → Rn X RL false cL_law 4 30 53 1105 (some .boolean) 1254 [some (.ref 0), some (.ref 2), some (.ref 39), some (vI i)] [] (hp S2) 53 1105 (fun v _ => v = some (vI 1))) : Rn X RL false cL_law 4 30 53 1105 (some .boolean) 1121 [some (.ref 0), some (.ref 2), some (.ref 39), some (vI i)] [] (hp S) 53 1105 (fun v _ => v = some (vI 1)) := by
  obtain ⟨S1, S2, r, h1, h2, hJ2⟩ := tw_copy (X := X) hJ (hr (i + 1).toNat) (hr (i + 2).toNat) (hr (i + 3).toNat) (hr (i + 4).toNat) (hr (i + 5).toNat)
  refine sx_aload_n (p1 := 1122) dL_law_1121 rfl rfl ?_
  refine sx_aload_n (p1 := 1123) dL_law_1122 rfl rfl ?_
  refine sx_iload_n (p1 := 1124) dL_law_1123 rfl rfl ?_
  refine sx_iconst (p1 := 1125) dL_law_1124 rfl ?_
  refine sx_iadd (p1 := 1126) dL_law_1125 rfl ?_
  refine sx_iald0 (p1 := 1127) dL_law_1126 rfl (by omega) (by omega) ?_
  refine sx_aload_n (p1 := 1128) dL_law_1127 rfl rfl ?_
  refine sx_iload_n (p1 := 1129) dL_law_1128 rfl rfl ?_
  refine sx_iconst (p1 := 1130) dL_law_1129 rfl ?_
  refine sx_iadd (p1 := 1131) dL_law_1130 rfl ?_
  refine sx_iald0 (p1 := 1132) dL_law_1131 rfl (by omega) (by omega) ?_
  refine sx_aload_n (p1 := 1133) dL_law_1132 rfl rfl ?_
  refine sx_iload_n (p1 := 1134) dL_law_1133 rfl rfl ?_
  refine sx_iconst (p1 := 1135) dL_law_1134 rfl ?_
  refine sx_iadd (p1 := 1136) dL_law_1135 rfl ?_
  refine sx_iald0 (p1 := 1137) dL_law_1136 rfl (by omega) (by omega) ?_
  refine sx_aload_n (p1 := 1138) dL_law_1137 rfl rfl ?_
  refine sx_iload_n (p1 := 1139) dL_law_1138 rfl rfl ?_
  refine sx_iconst (p1 := 1140) dL_law_1139 rfl ?_
  refine sx_iadd (p1 := 1141) dL_law_1140 rfl ?_
  refine sx_iald0 (p1 := 1142) dL_law_1141 rfl (by omega) (by omega) ?_
  refine sx_aload_n (p1 := 1143) dL_law_1142 rfl rfl ?_
  refine sx_iload_n (p1 := 1144) dL_law_1143 rfl rfl ?_
  refine sx_iconst (p1 := 1145) dL_law_1144 rfl ?_
  refine sx_iadd (p1 := 1146) dL_law_1145 rfl ?_
  refine sx_iald0 (p1 := 1147) dL_law_1146 rfl (by omega) (by omega) ?_
  refine sx_callVr (p1 := 1150) (As := [_, _, _, _, _]) (k1 := 53) (n1 := 1105) dL_law_1147 rfl rfl (h1) mt_X11_copy ml_L_142 (hp_c2 _) rfl rfl (Nat.le_of_ble_eq_true rfl) rfl (Nat.le_of_ble_eq_true rfl) rfl rfl (Nat.le_of_ble_eq_true rfl) (Nat.le_of_ble_eq_true rfl) ?_
  refine sx_aload_n (p1 := 1151) dL_law_1150 rfl rfl ?_
  refine sx_aload_n (p1 := 1152) dL_law_1151 rfl rfl ?_
  refine sx_iload_n (p1 := 1153) dL_law_1152 rfl rfl ?_
  refine sx_iconst (p1 := 1154) dL_law_1153 rfl ?_
  refine sx_iadd (p1 := 1155) dL_law_1154 rfl ?_
  refine sx_iald0 (p1 := 1156) dL_law_1155 rfl (by omega) (by omega) ?_
  refine sx_aload_n (p1 := 1157) dL_law_1156 rfl rfl ?_
  refine sx_iload_n (p1 := 1158) dL_law_1157 rfl rfl ?_
  refine sx_iconst (p1 := 1159) dL_law_1158 rfl ?_
  refine sx_iadd (p1 := 1160) dL_law_1159 rfl ?_
  refine sx_iald0 (p1 := 1161) dL_law_1160 rfl (by omega) (by omega) ?_
  refine sx_aload_n (p1 := 1162) dL_law_1161 rfl rfl ?_
  refine sx_iload_n (p1 := 1163) dL_law_1162 rfl rfl ?_
  refine sx_iconst (p1 := 1164) dL_law_1163 rfl ?_
  refine sx_iadd (p1 := 1165) dL_law_1164 rfl ?_
  refine sx_iald0 (p1 := 1166) dL_law_1165 rfl (by omega) (by omega) ?_
  refine sx_aload_n (p1 := 1167) dL_law_1166 rfl rfl ?_
  refine sx_iload_n (p1 := 1168) dL_law_1167 rfl rfl ?_
  refine sx_iconst (p1 := 1169) dL_law_1168 rfl ?_
  refine sx_iadd (p1 := 1170) dL_law_1169 rfl ?_
  refine sx_iald0 (p1 := 1171) dL_law_1170 rfl (by omega) (by omega) ?_
  refine sx_aload_n (p1 := 1172) dL_law_1171 rfl rfl ?_
  refine sx_iload_n (p1 := 1173) dL_law_1172 rfl rfl ?_
  refine sx_iconst (p1 := 1174) dL_law_1173 rfl ?_
  refine sx_iadd (p1 := 1175) dL_law_1174 rfl ?_
  refine sx_iald0 (p1 := 1176) dL_law_1175 rfl (by omega) (by omega) ?_
  refine sx_callVr (p1 := 1179) (As := [_, _, _, _, _]) (k1 := 53) (n1 := 1105) dL_law_1176 rfl rfl (h2) mt_X12_copy ml_L_146 (hp_c39 _) rfl rfl (Nat.le_of_ble_eq_true rfl) rfl (Nat.le_of_ble_eq_true rfl) rfl rfl (Nat.le_of_ble_eq_true rfl) (Nat.le_of_ble_eq_true rfl) ?_
  refine sx_icmp_eqR (tg := 1254) dL_law_1179 rfl ?_
  exact K _ hJ2
set_option maxRecDepth 20000 in
theorem lk_write {X : sx_X} {S : St} {i : Int} (hX : X.1 ≤ 384) (hr : ∀ j, -2147483648 ≤ X.2 j ∧ X.2 j ≤ 2147483647) (hi : 0 ≤ i ∧ i + 6 ≤ X.1) (hJ : J S) (K : ∀ S2 : St, J S2 → Rn X RL false cL_law 4 30 53 1105 (some .boolean) 1254 [some (.ref 0), some (.ref 2), some (.ref 39), some (vI i)] [] (hp S2) 53 1105 (fun v _ => v = some (vI 1))) : Rn X RL false cL_law 4 30 53 1105 (some .boolean) 1184 [some (.ref 0), some (.ref 2), some (.ref 39), some (vI i)] [] (hp S) 53 1105 (fun v _ => v = some (vI 1)) := by
  obtain ⟨S1, S2, r, h1, h2, hJ2⟩ := tw_write (X := X) hJ (hr (i + 1).toNat) (hr (i + 2).toNat)
  refine sx_aload_n (p1 := 1185) dL_law_1184 rfl rfl ?_
  refine sx_aload_n (p1 := 1186) dL_law_1185 rfl rfl ?_
  refine sx_iload_n (p1 := 1187) dL_law_1186 rfl rfl ?_
  refine sx_iconst (p1 := 1188) dL_law_1187 rfl ?_
  refine sx_iadd (p1 := 1189) dL_law_1188 rfl ?_
  refine sx_iald0 (p1 := 1190) dL_law_1189 rfl (by omega) (by omega) ?_
  refine sx_aload_n (p1 := 1191) dL_law_1190 rfl rfl ?_
  refine sx_iload_n (p1 := 1192) dL_law_1191 rfl rfl ?_
  refine sx_iconst (p1 := 1193) dL_law_1192 rfl ?_
  refine sx_iadd (p1 := 1194) dL_law_1193 rfl ?_
  refine sx_iald0 (p1 := 1195) dL_law_1194 rfl (by omega) (by omega) ?_
  refine sx_callVr (p1 := 1198) (As := [_, _]) (k1 := 53) (n1 := 1105) dL_law_1195 rfl rfl (h1) mt_X11_write ml_L_147 (hp_c2 _) rfl rfl (Nat.le_of_ble_eq_true rfl) rfl (Nat.le_of_ble_eq_true rfl) rfl rfl (Nat.le_of_ble_eq_true rfl) (Nat.le_of_ble_eq_true rfl) ?_
  refine sx_aload_n (p1 := 1199) dL_law_1198 rfl rfl ?_
  refine sx_aload_n (p1 := 1200) dL_law_1199 rfl rfl ?_
  refine sx_iload_n (p1 := 1201) dL_law_1200 rfl rfl ?_
  refine sx_iconst (p1 := 1202) dL_law_1201 rfl ?_
  refine sx_iadd (p1 := 1203) dL_law_1202 rfl ?_
  refine sx_iald0 (p1 := 1204) dL_law_1203 rfl (by omega) (by omega) ?_
  refine sx_aload_n (p1 := 1205) dL_law_1204 rfl rfl ?_
  refine sx_iload_n (p1 := 1206) dL_law_1205 rfl rfl ?_
  refine sx_iconst (p1 := 1207) dL_law_1206 rfl ?_
  refine sx_iadd (p1 := 1208) dL_law_1207 rfl ?_
  refine sx_iald0 (p1 := 1209) dL_law_1208 rfl (by omega) (by omega) ?_
  refine sx_callVr (p1 := 1212) (As := [_, _]) (k1 := 53) (n1 := 1105) dL_law_1209 rfl rfl (h2) mt_X12_write ml_L_150 (hp_c39 _) rfl rfl (Nat.le_of_ble_eq_true rfl) rfl (Nat.le_of_ble_eq_true rfl) rfl rfl (Nat.le_of_ble_eq_true rfl) (Nat.le_of_ble_eq_true rfl) ?_
  refine sx_icmp_eqR (tg := 1254) dL_law_1212 rfl ?_
  exact K _ hJ2
set_option maxRecDepth 20000 in
theorem lk_count {X : sx_X} {S : St} {i : Int} (hX : X.1 ≤ 384) (hr : ∀ j, -2147483648 ≤ X.2 j ∧ X.2 j ≤ 2147483647) (hi : 0 ≤ i ∧ i + 6 ≤ X.1) (hJ : J S) (K : ∀ S2 : St, J S2 → Rn X RL false cL_law 4 30 53 1105 (some .boolean) 1254 [some (.ref 0), some (.ref 2), some (.ref 39), some (vI i)] [] (hp S2) 53 1105 (fun v _ => v = some (vI 1))) : Rn X RL false cL_law 4 30 53 1105 (some .boolean) 1217 [some (.ref 0), some (.ref 2), some (.ref 39), some (vI i)] [] (hp S) 53 1105 (fun v _ => v = some (vI 1)) := by
  obtain ⟨S1, S2, r, h1, h2, hJ2⟩ := tw_count (X := X) hJ (hr (i + 1).toNat)
  refine sx_aload_n (p1 := 1218) dL_law_1217 rfl rfl ?_
  refine sx_aload_n (p1 := 1219) dL_law_1218 rfl rfl ?_
  refine sx_iload_n (p1 := 1220) dL_law_1219 rfl rfl ?_
  refine sx_iconst (p1 := 1221) dL_law_1220 rfl ?_
  refine sx_iadd (p1 := 1222) dL_law_1221 rfl ?_
  refine sx_iald0 (p1 := 1223) dL_law_1222 rfl (by omega) (by omega) ?_
  refine sx_callVr (p1 := 1226) (As := [_]) (k1 := 53) (n1 := 1105) dL_law_1223 rfl rfl (h1) mt_X11_count ml_L_151 (hp_c2 _) rfl rfl (Nat.le_of_ble_eq_true rfl) rfl (Nat.le_of_ble_eq_true rfl) rfl rfl (Nat.le_of_ble_eq_true rfl) (Nat.le_of_ble_eq_true rfl) ?_
  refine sx_aload_n (p1 := 1227) dL_law_1226 rfl rfl ?_
  refine sx_aload_n (p1 := 1228) dL_law_1227 rfl rfl ?_
  refine sx_iload_n (p1 := 1229) dL_law_1228 rfl rfl ?_
  refine sx_iconst (p1 := 1230) dL_law_1229 rfl ?_
  refine sx_iadd (p1 := 1231) dL_law_1230 rfl ?_
  refine sx_iald0 (p1 := 1232) dL_law_1231 rfl (by omega) (by omega) ?_
  refine sx_callVr (p1 := 1235) (As := [_]) (k1 := 53) (n1 := 1105) dL_law_1232 rfl rfl (h2) mt_X12_count ml_L_154 (hp_c39 _) rfl rfl (Nat.le_of_ble_eq_true rfl) rfl (Nat.le_of_ble_eq_true rfl) rfl rfl (Nat.le_of_ble_eq_true rfl) (Nat.le_of_ble_eq_true rfl) ?_
  refine sx_icmp_eqR (tg := 1254) dL_law_1235 rfl ?_
  exact K _ hJ2
set_option maxRecDepth 20000 in
theorem lk_digest {X : sx_X} {S : St} {i : Int} (hX : X.1 ≤ 384) (hr : ∀ j, -2147483648 ≤ X.2 j ∧ X.2 j ≤ 2147483647) (hi : 0 ≤ i ∧ i + 6 ≤ X.1) (hJ : J S) (K : ∀ S2 : St, J S2 → Rn X RL false cL_law 4 30 53 1105 (some .boolean) 1254 [some (.ref 0), some (.ref 2), some (.ref 39), some (vI i)] [] (hp S2) 53 1105 (fun v _ => v = some (vI 1))) : Rn X RL false cL_law 4 30 53 1105 (some .boolean) 1240 [some (.ref 0), some (.ref 2), some (.ref 39), some (vI i)] [] (hp S) 53 1105 (fun v _ => v = some (vI 1)) := by
  obtain ⟨S1, S2, r, h1, h2, hJ2⟩ := tw_digest (X := X) hJ 
  refine sx_aload_n (p1 := 1241) dL_law_1240 rfl rfl ?_
  refine sx_callVr (p1 := 1244) (As := []) (k1 := 53) (n1 := 1105) dL_law_1241 rfl rfl (h1) mt_X11_digest ml_L_155 (hp_c2 _) rfl rfl (Nat.le_of_ble_eq_true rfl) rfl (Nat.le_of_ble_eq_true rfl) rfl rfl (Nat.le_of_ble_eq_true rfl) (Nat.le_of_ble_eq_true rfl) ?_
  refine sx_aload_n (p1 := 1245) dL_law_1244 rfl rfl ?_
  refine sx_callVr (p1 := 1248) (As := []) (k1 := 53) (n1 := 1105) dL_law_1245 rfl rfl (h2) mt_X12_digest ml_L_159 (hp_c39 _) rfl rfl (Nat.le_of_ble_eq_true rfl) rfl (Nat.le_of_ble_eq_true rfl) rfl rfl (Nat.le_of_ble_eq_true rfl) (Nat.le_of_ble_eq_true rfl) ?_
  refine sx_lcmp_eqR (tg := 1254) dL_law_1248 dL_law_1249 rfl ?_
  exact K _ hJ2
theorem law_loop {X : sx_X} (hX : X.1 ≤ 384) (hr : ∀ j, -2147483648 ≤ X.2 j ∧ X.2 j ≤ 2147483647) : ∀ (n : Nat) (i : Int) (S : St), 0 ≤ i → i ≤ 384 → (X.1 : Int) ≤ i + 6 * n → J S → Rn X RL false cL_law 4 30 53 1105 (some .boolean) 18 [some (.ref 0), some (.ref 2), some (.ref 39), some (vI i)] [] (hp S) 53 1105 (fun v _ => v = some (vI 1)) := by
  intro n
  induction n with
  | zero =>
    intro i S h0 h3 hn hJ
    refine sx_iload_n (p1 := 19) dL_law_18 rfl rfl ?_
    refine sx_aload_n (p1 := 20) dL_law_19 rfl rfl ?_
    refine sx_alen0 (p1 := 21) dL_law_20 rfl ?_
    refine sx_bipush (p1 := 23) dL_law_21 rfl (by decide) ?_
    refine sx_isub (p1 := 24) dL_law_23 rfl ?_
    refine sx_icmp_gt (p1 := 27) (tg := 1260) dL_law_24 rfl rfl (by omega) (by omega) (fun q24 => ?_) (fun q24 => absurd q24 (by omega))
    refine sx_iconst (p1 := 1261) dL_law_1260 rfl ?_
    exact sx_zret dL_law_1261 rfl (Or.inr rfl) rfl
  | succ n ih =>
    intro i S h0 h3 hn hJ
    have K : ∀ S2 : St, i + 6 ≤ X.1 → J S2 → Rn X RL false cL_law 4 30 53 1105 (some .boolean) 1254 [some (.ref 0), some (.ref 2), some (.ref 39), some (vI i)] [] (hp S2) 53 1105 (fun v _ => v = some (vI 1)) := by
      intro S2 hi hJ2
      refine sx_iinc (lo1 := [some _, some _, some _, some _]) (p1 := 1257) dL_law_1254 rfl (by decide) rfl rfl ?_
      refine sx_goto (p1 := 18) (tg := 18) dL_law_1257 rfl rfl ?_
      exact ih (i + 6) S2 (by omega) (by omega) (by omega) hJ2
    refine sx_iload_n (p1 := 19) dL_law_18 rfl rfl ?_
    refine sx_aload_n (p1 := 20) dL_law_19 rfl rfl ?_
    refine sx_alen0 (p1 := 21) dL_law_20 rfl ?_
    refine sx_bipush (p1 := 23) dL_law_21 rfl (by decide) ?_
    refine sx_isub (p1 := 24) dL_law_23 rfl ?_
    refine sx_icmp_gt (p1 := 27) (tg := 1260) dL_law_24 rfl rfl (by omega) (by omega) (fun q24 => ?_) (fun q24 => ?_)
    · refine sx_iconst (p1 := 1261) dL_law_1260 rfl ?_
      exact sx_zret dL_law_1261 rfl (Or.inr rfl) rfl
    · refine sx_aload_n (p1 := 28) dL_law_27 rfl rfl ?_
      refine sx_iload_n (p1 := 29) dL_law_28 rfl rfl ?_
      refine sx_iald0 (p1 := 30) dL_law_29 rfl (by omega) (by omega) ?_
      refine sx_bipush (p1 := 32) dL_law_30 rfl (by decide) ?_
      refine sx_iand (p1 := 33) dL_law_32 rfl ?_
      have hi : 0 ≤ i ∧ i + 6 ≤ X.1 := ⟨h0, by omega⟩
      have hz : -2147483648 ≤ sx_and (X.2 i.toNat) 63 ∧ sx_and (X.2 i.toNat) 63 ≤ 2147483647 := i32_b _
      generalize sx_and (X.2 i.toNat) 63 = z at hz ⊢
      by_cases hq : z < 0 ∨ 33 < z
      · refine sx_tsOut (p1 := 1254) (tg := 1254) dL_law_33 hz hq rfl rfl ?_
        exact K S hi.2 hJ
      · rcases (show z = 0 ∨ z = 1 ∨ z = 2 ∨ z = 3 ∨ z = 4 ∨ z = 5 ∨ z = 6 ∨ z = 7 ∨ z = 8 ∨ z = 9 ∨ z = 10 ∨ z = 11 ∨ z = 12 ∨ z = 13 ∨ z = 14 ∨ z = 15 ∨ z = 16 ∨ z = 17 ∨ z = 18 ∨ z = 19 ∨ z = 20 ∨ z = 21 ∨ z = 22 ∨ z = 23 ∨ z = 24 ∨ z = 25 ∨ z = 26 ∨ z = 27 ∨ z = 28 ∨ z = 29 ∨ z = 30 ∨ z = 31 ∨ z = 32 ∨ z = 33 by omega) with rfl | rfl | rfl | rfl | rfl | rfl | rfl | rfl | rfl | rfl | rfl | rfl | rfl | rfl | rfl | rfl | rfl | rfl | rfl | rfl | rfl | rfl | rfl | rfl | rfl | rfl | rfl | rfl | rfl | rfl | rfl | rfl | rfl | rfl
        · exact sx_tsIn (p1 := 184) (tg := 184) dL_law_33 (by decide) (by decide) rfl rfl rfl (lk_type hX hr hi hJ (fun S2 => K S2 hi.2))
        · exact sx_tsIn (p1 := 217) (tg := 217) dL_law_33 (by decide) (by decide) rfl rfl rfl (lk_wipe hX hr hi hJ (fun S2 => K S2 hi.2))
        · exact sx_tsIn (p1 := 240) (tg := 240) dL_law_33 (by decide) (by decide) rfl rfl rfl (lk_undo hX hr hi hJ (fun S2 => K S2 hi.2))
        · exact sx_tsIn (p1 := 263) (tg := 263) dL_law_33 (by decide) (by decide) rfl rfl rfl (lk_fault hX hr hi hJ (fun S2 => K S2 hi.2))
        · exact sx_tsIn (p1 := 286) (tg := 286) dL_law_33 (by decide) (by decide) rfl rfl rfl (lk_part hX hr hi hJ (fun S2 => K S2 hi.2))
        · exact sx_tsIn (p1 := 319) (tg := 319) dL_law_33 (by decide) (by decide) rfl rfl rfl (lk_walker hX hr hi hJ (fun S2 => K S2 hi.2))
        · exact sx_tsIn (p1 := 352) (tg := 352) dL_law_33 (by decide) (by decide) rfl rfl rfl (lk_set hX hr hi hJ (fun S2 => K S2 hi.2))
        · exact sx_tsIn (p1 := 385) (tg := 385) dL_law_33 (by decide) (by decide) rfl rfl rfl (lk_place hX hr hi hJ (fun S2 => K S2 hi.2))
        · exact sx_tsIn (p1 := 418) (tg := 418) dL_law_33 (by decide) (by decide) rfl rfl rfl (lk_treads hX hr hi hJ (fun S2 => K S2 hi.2))
        · exact sx_tsIn (p1 := 451) (tg := 451) dL_law_33 (by decide) (by decide) rfl rfl rfl (lk_hits hX hr hi hJ (fun S2 => K S2 hi.2))
        · exact sx_tsIn (p1 := 494) (tg := 494) dL_law_33 (by decide) (by decide) rfl rfl rfl (lk_harm hX hr hi hJ (fun S2 => K S2 hi.2))
        · exact sx_tsIn (p1 := 538) (tg := 538) dL_law_33 (by decide) (by decide) rfl rfl rfl (lk_all hX hr hi hJ (fun S2 => K S2 hi.2))
        · exact sx_tsIn (p1 := 572) (tg := 572) dL_law_33 (by decide) (by decide) rfl rfl rfl (lk_ends hX hr hi hJ (fun S2 => K S2 hi.2))
        · exact sx_tsIn (p1 := 585) (tg := 585) dL_law_33 (by decide) (by decide) rfl rfl rfl (lk_latest hX hr hi hJ (fun S2 => K S2 hi.2))
        · exact sx_tsIn (p1 := 598) (tg := 598) dL_law_33 (by decide) (by decide) rfl rfl rfl (lk_curve hX hr hi hJ (fun S2 => K S2 hi.2))
        · exact sx_tsIn (p1 := 632) (tg := 632) dL_law_33 (by decide) (by decide) rfl rfl rfl (lk_gap hX hr hi hJ (fun S2 => K S2 hi.2))
        · exact sx_tsIn (p1 := 655) (tg := 655) dL_law_33 (by decide) (by decide) rfl rfl rfl (lk_order hX hr hi hJ (fun S2 => K S2 hi.2))
        · exact sx_tsIn (p1 := 678) (tg := 678) dL_law_33 (by decide) (by decide) rfl rfl rfl (lk_ordered hX hr hi hJ (fun S2 => K S2 hi.2))
        · exact sx_tsIn (p1 := 702) (tg := 702) dL_law_33 (by decide) (by decide) rfl rfl rfl (lk_helmets hX hr hi hJ (fun S2 => K S2 hi.2))
        · exact sx_tsIn (p1 := 736) (tg := 736) dL_law_33 (by decide) (by decide) rfl rfl rfl (lk_waits hX hr hi hJ (fun S2 => K S2 hi.2))
        · exact sx_tsIn (p1 := 790) (tg := 790) dL_law_33 (by decide) (by decide) rfl rfl rfl (lk_foot hX hr hi hJ (fun S2 => K S2 hi.2))
        · exact sx_tsIn (p1 := 834) (tg := 834) dL_law_33 (by decide) (by decide) rfl rfl rfl (lk_fell hX hr hi hJ (fun S2 => K S2 hi.2))
        · exact sx_tsIn (p1 := 877) (tg := 877) dL_law_33 (by decide) (by decide) rfl rfl rfl (lk_forget hX hr hi hJ (fun S2 => K S2 hi.2))
        · exact sx_tsIn (p1 := 890) (tg := 890) dL_law_33 (by decide) (by decide) rfl rfl rfl (lk_loose hX hr hi hJ (fun S2 => K S2 hi.2))
        · exact sx_tsIn (p1 := 913) (tg := 913) dL_law_33 (by decide) (by decide) rfl rfl rfl (lk_read hX hr hi hJ (fun S2 => K S2 hi.2))
        · exact sx_tsIn (p1 := 936) (tg := 936) dL_law_33 (by decide) (by decide) rfl rfl rfl (lk_morning hX hr hi hJ (fun S2 => K S2 hi.2))
        · exact sx_tsIn (p1 := 959) (tg := 959) dL_law_33 (by decide) (by decide) rfl rfl rfl (lk_sheet hX hr hi hJ (fun S2 => K S2 hi.2))
        · exact sx_tsIn (p1 := 1002) (tg := 1002) dL_law_33 (by decide) (by decide) rfl rfl rfl (lk_lose hX hr hi hJ (fun S2 => K S2 hi.2))
        · exact sx_tsIn (p1 := 1025) (tg := 1025) dL_law_33 (by decide) (by decide) rfl rfl rfl (lk_lay hX hr hi hJ (fun S2 => K S2 hi.2))
        · exact sx_tsIn (p1 := 1078) (tg := 1078) dL_law_33 (by decide) (by decide) rfl rfl rfl (lk_get hX hr hi hJ (fun S2 => K S2 hi.2))
        · exact sx_tsIn (p1 := 1121) (tg := 1121) dL_law_33 (by decide) (by decide) rfl rfl rfl (lk_copy hX hr hi hJ (fun S2 => K S2 hi.2))
        · exact sx_tsIn (p1 := 1184) (tg := 1184) dL_law_33 (by decide) (by decide) rfl rfl rfl (lk_write hX hr hi hJ (fun S2 => K S2 hi.2))
        · exact sx_tsIn (p1 := 1217) (tg := 1217) dL_law_33 (by decide) (by decide) rfl rfl rfl (lk_count hX hr hi hJ (fun S2 => K S2 hi.2))
        · exact sx_tsIn (p1 := 1240) (tg := 1240) dL_law_33 (by decide) (by decide) rfl rfl rfl (lk_digest hX hr hi hJ (fun S2 => K S2 hi.2))
