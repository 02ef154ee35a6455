/-! THE LAW: its forty-two calls (gen_law.py) -/
section LC
variable {E : EnT} {S : ST} {I : IT} {L : LT} {A : AT} {B b n i cl sl : Nat} {xs : Nat → Int32}
theorem iinc6 (i : Nat) : nI i + Int32.ofInt 6 = nI (i + 6) := by
  apply Int32.toBitVec_inj.mp
  rw [Int32.toBitVec_add]
  show BitVec.ofNat 32 i + BitVec.ofNat 32 6 = BitVec.ofNat 32 (i + 6)
  exact (BitVec.ofNat_add i 6).symm
theorem lg_cmp_rf (x : Int64) : lg_cmp x x = 0 := by
  unfold lg_cmp
  rw [if_neg (Int64.lt_irrefl)]
  simp
/-- the law at pc, its i-th int next -/
abbrev VL (E : EnT) (B b n : Nat) (xs : Nat → Int32) (cl sl : Nat) (S : ST) (I : IT) (L : LT) (pc i : Nat) : Prop := V E kL_law room_1 (QL E b n xs) cl sl S I L pc [(0, .ref b), (1, .ref B), (2, .ref (B + 329)), (3, .int (nI i))] []
theorem lw_box (hI : INVL E B S I L A) (hi : i + 6 ≤ n) (hn : n ≤ 3072) (hcl : cl + 6 ≤ 600000) (hsl : sl + 974 ≤ 7302249) (N : ∀ S' I' L' A', INVL E B S' I' L' A' → VL E B b n xs (cl + 6) (sl + 974) S' I' L' 1403 i) : VL E B b n xs cl sl S I L 216 i := by
  have h11 := hI.1
  have h12 := hI.2.1
  have hA := hI.2.2.2.2.1
  have hRc : room_1.cells = 600000 := rfl
  have hRs : room_1.slots = 7302249 := rfl
  refine V_aload_n (pc := 216) dL_law_216 rfl ?_
  refine V_aload_n (pc := 217) dL_law_217 rfl ?_
  refine V_iload_n (pc := 218) dL_law_218 rfl ?_
  refine V_iconst (pc := 219) (v := nI 1) dL_law_219 (by decide) ?_
  refine V_iaddN (pc := 220) dL_law_220 ?_
  refine V_sld (pc := 221) dL_law_221 (by omega) hn ?_
  refine V_callV (pc := 222) (ci := 11) (c_X11_box h11 hI.2.2.1 hA) dL_law_222 mlL_13 mkX11_box rfl rfl h11.o ⟨by decide, rfl⟩ ⟨Nat.le_of_ble_eq_true rfl, Nat.le_of_ble_eq_true rfl⟩ (Nat.le_of_ble_eq_true rfl) ⟨by omega, by omega⟩ (fun r S' I' L' hp => ?_)
  obtain ⟨rfl, rfl, hR2, hF2⟩ := hp
  have hm := hI.cc hR2 hF2
  have h12b := hm.2.1
  refine V_aload_n (pc := 225) dL_law_225 rfl ?_
  refine V_aload_n (pc := 226) dL_law_226 rfl ?_
  refine V_iload_n (pc := 227) dL_law_227 rfl ?_
  refine V_iconst (pc := 228) (v := nI 1) dL_law_228 (by decide) ?_
  refine V_iaddN (pc := 229) dL_law_229 ?_
  refine V_sld (pc := 230) dL_law_230 (by omega) hn ?_
  refine V_callV (pc := 231) (ci := 12) (c_X12_box h12b hm.2.2.2.1 hA) dL_law_231 mlL_17 mkX12_box rfl rfl h12b.o ⟨by decide, rfl⟩ ⟨Nat.le_of_ble_eq_true rfl, Nat.le_of_ble_eq_true rfl⟩ (Nat.le_of_ble_eq_true rfl) ⟨by omega, by omega⟩ (fun r S' I' L' hp => ?_)
  obtain ⟨rfl, rfl, hM3, hF3⟩ := hp
  refine V_icmp_eq (pc := 234) (tgt := 1403) dL_law_234 (by decide) (fun c234 => ?_) (fun n234 => absurd n234 (by exact fun z => z rfl))
  exact V_wid (N _ _ _ _ (hm.cm hM3 hF3 (wf_box hA _))) (by omega) (by omega)
theorem lw_of (hI : INVL E B S I L A) (hi : i + 6 ≤ n) (hn : n ≤ 3072) (hcl : cl + 6 ≤ 600000) (hsl : sl + 974 ≤ 7302249) (N : ∀ S' I' L' A', INVL E B S' I' L' A' → VL E B b n xs (cl + 6) (sl + 974) S' I' L' 1403 i) : VL E B b n xs cl sl S I L 239 i := by
  have h11 := hI.1
  have h12 := hI.2.1
  have hA := hI.2.2.2.2.1
  have hRc : room_1.cells = 600000 := rfl
  have hRs : room_1.slots = 7302249 := rfl
  refine V_aload_n (pc := 239) dL_law_239 rfl ?_
  refine V_aload_n (pc := 240) dL_law_240 rfl ?_
  refine V_iload_n (pc := 241) dL_law_241 rfl ?_
  refine V_iconst (pc := 242) (v := nI 1) dL_law_242 (by decide) ?_
  refine V_iaddN (pc := 243) dL_law_243 ?_
  refine V_sld (pc := 244) dL_law_244 (by omega) hn ?_
  refine V_aload_n (pc := 245) dL_law_245 rfl ?_
  refine V_iload_n (pc := 246) dL_law_246 rfl ?_
  refine V_iconst (pc := 247) (v := nI 2) dL_law_247 (by decide) ?_
  refine V_iaddN (pc := 248) dL_law_248 ?_
  refine V_sld (pc := 249) dL_law_249 (by omega) hn ?_
  refine V_callV (pc := 250) (ci := 11) (c_X11_of h11 hI.2.2.1 hA) dL_law_250 mlL_18 mkX11_of rfl rfl h11.o ⟨by decide, rfl⟩ ⟨Nat.le_of_ble_eq_true rfl, Nat.le_of_ble_eq_true rfl⟩ (Nat.le_of_ble_eq_true rfl) ⟨by omega, by omega⟩ (fun r S' I' L' hp => ?_)
  obtain ⟨rfl, rfl, hR2, hF2⟩ := hp
  have hm := hI.cc hR2 hF2
  have h12b := hm.2.1
  refine V_aload_n (pc := 253) dL_law_253 rfl ?_
  refine V_aload_n (pc := 254) dL_law_254 rfl ?_
  refine V_iload_n (pc := 255) dL_law_255 rfl ?_
  refine V_iconst (pc := 256) (v := nI 1) dL_law_256 (by decide) ?_
  refine V_iaddN (pc := 257) dL_law_257 ?_
  refine V_sld (pc := 258) dL_law_258 (by omega) hn ?_
  refine V_aload_n (pc := 259) dL_law_259 rfl ?_
  refine V_iload_n (pc := 260) dL_law_260 rfl ?_
  refine V_iconst (pc := 261) (v := nI 2) dL_law_261 (by decide) ?_
  refine V_iaddN (pc := 262) dL_law_262 ?_
  refine V_sld (pc := 263) dL_law_263 (by omega) hn ?_
  refine V_callV (pc := 264) (ci := 12) (c_X12_of h12b hm.2.2.2.1 hA) dL_law_264 mlL_22 mkX12_of rfl rfl h12b.o ⟨by decide, rfl⟩ ⟨Nat.le_of_ble_eq_true rfl, Nat.le_of_ble_eq_true rfl⟩ (Nat.le_of_ble_eq_true rfl) ⟨by omega, by omega⟩ (fun r S' I' L' hp => ?_)
  obtain ⟨rfl, rfl, hM3, hF3⟩ := hp
  refine V_icmp_eq (pc := 267) (tgt := 1403) dL_law_267 (by decide) (fun c267 => ?_) (fun n267 => absurd n267 (by exact fun z => z rfl))
  exact V_wid (N _ _ _ _ (hm.cm hM3 hF3 hA)) (by omega) (by omega)
theorem lw_pins (hI : INVL E B S I L A) (hi : i + 6 ≤ n) (hn : n ≤ 3072) (hcl : cl + 6 ≤ 600000) (hsl : sl + 974 ≤ 7302249) (N : ∀ S' I' L' A', INVL E B S' I' L' A' → VL E B b n xs (cl + 6) (sl + 974) S' I' L' 1403 i) : VL E B b n xs cl sl S I L 272 i := by
  have h11 := hI.1
  have h12 := hI.2.1
  have hA := hI.2.2.2.2.1
  have hRc : room_1.cells = 600000 := rfl
  have hRs : room_1.slots = 7302249 := rfl
  refine V_aload_n (pc := 272) dL_law_272 rfl ?_
  refine V_aload_n (pc := 273) dL_law_273 rfl ?_
  refine V_iload_n (pc := 274) dL_law_274 rfl ?_
  refine V_iconst (pc := 275) (v := nI 1) dL_law_275 (by decide) ?_
  refine V_iaddN (pc := 276) dL_law_276 ?_
  refine V_sld (pc := 277) dL_law_277 (by omega) hn ?_
  refine V_aload_n (pc := 278) dL_law_278 rfl ?_
  refine V_iload_n (pc := 279) dL_law_279 rfl ?_
  refine V_iconst (pc := 280) (v := nI 2) dL_law_280 (by decide) ?_
  refine V_iaddN (pc := 281) dL_law_281 ?_
  refine V_sld (pc := 282) dL_law_282 (by omega) hn ?_
  refine V_aload_n (pc := 283) dL_law_283 rfl ?_
  refine V_iload_n (pc := 284) dL_law_284 rfl ?_
  refine V_iconst (pc := 285) (v := nI 3) dL_law_285 (by decide) ?_
  refine V_iaddN (pc := 286) dL_law_286 ?_
  refine V_sld (pc := 287) dL_law_287 (by omega) hn ?_
  refine V_callV (pc := 288) (ci := 11) (c_X11_pins h11 hI.2.2.1 hA) dL_law_288 mlL_23 mkX11_pins rfl rfl h11.o ⟨by decide, rfl⟩ ⟨Nat.le_of_ble_eq_true rfl, Nat.le_of_ble_eq_true rfl⟩ (Nat.le_of_ble_eq_true rfl) ⟨by omega, by omega⟩ (fun r S' I' L' hp => ?_)
  obtain ⟨rfl, rfl, hR2, hF2⟩ := hp
  have hm := hI.cc hR2 hF2
  have h12b := hm.2.1
  refine V_aload_n (pc := 291) dL_law_291 rfl ?_
  refine V_aload_n (pc := 292) dL_law_292 rfl ?_
  refine V_iload_n (pc := 293) dL_law_293 rfl ?_
  refine V_iconst (pc := 294) (v := nI 1) dL_law_294 (by decide) ?_
  refine V_iaddN (pc := 295) dL_law_295 ?_
  refine V_sld (pc := 296) dL_law_296 (by omega) hn ?_
  refine V_aload_n (pc := 297) dL_law_297 rfl ?_
  refine V_iload_n (pc := 298) dL_law_298 rfl ?_
  refine V_iconst (pc := 299) (v := nI 2) dL_law_299 (by decide) ?_
  refine V_iaddN (pc := 300) dL_law_300 ?_
  refine V_sld (pc := 301) dL_law_301 (by omega) hn ?_
  refine V_aload_n (pc := 302) dL_law_302 rfl ?_
  refine V_iload_n (pc := 303) dL_law_303 rfl ?_
  refine V_iconst (pc := 304) (v := nI 3) dL_law_304 (by decide) ?_
  refine V_iaddN (pc := 305) dL_law_305 ?_
  refine V_sld (pc := 306) dL_law_306 (by omega) hn ?_
  refine V_callV (pc := 307) (ci := 12) (c_X12_pins h12b hm.2.2.2.1 hA) dL_law_307 mlL_27 mkX12_pins rfl rfl h12b.o ⟨by decide, rfl⟩ ⟨Nat.le_of_ble_eq_true rfl, Nat.le_of_ble_eq_true rfl⟩ (Nat.le_of_ble_eq_true rfl) ⟨by omega, by omega⟩ (fun r S' I' L' hp => ?_)
  obtain ⟨rfl, rfl, hM3, hF3⟩ := hp
  refine V_icmp_eq (pc := 310) (tgt := 1403) dL_law_310 (by decide) (fun c310 => ?_) (fun n310 => absurd n310 (by exact fun z => z rfl))
  exact V_wid (N _ _ _ _ (hm.cm hM3 hF3 (wf_pins hA _ _ _))) (by omega) (by omega)
theorem lw_suitor (hI : INVL E B S I L A) (hi : i + 6 ≤ n) (hn : n ≤ 3072) (hcl : cl + 6 ≤ 600000) (hsl : sl + 974 ≤ 7302249) (N : ∀ S' I' L' A', INVL E B S' I' L' A' → VL E B b n xs (cl + 6) (sl + 974) S' I' L' 1403 i) : VL E B b n xs cl sl S I L 315 i := by
  have h11 := hI.1
  have h12 := hI.2.1
  have hA := hI.2.2.2.2.1
  have hRc : room_1.cells = 600000 := rfl
  have hRs : room_1.slots = 7302249 := rfl
  refine V_aload_n (pc := 315) dL_law_315 rfl ?_
  refine V_aload_n (pc := 316) dL_law_316 rfl ?_
  refine V_iload_n (pc := 317) dL_law_317 rfl ?_
  refine V_iconst (pc := 318) (v := nI 1) dL_law_318 (by decide) ?_
  refine V_iaddN (pc := 319) dL_law_319 ?_
  refine V_sld (pc := 320) dL_law_320 (by omega) hn ?_
  refine V_aload_n (pc := 321) dL_law_321 rfl ?_
  refine V_iload_n (pc := 322) dL_law_322 rfl ?_
  refine V_iconst (pc := 323) (v := nI 2) dL_law_323 (by decide) ?_
  refine V_iaddN (pc := 324) dL_law_324 ?_
  refine V_sld (pc := 325) dL_law_325 (by omega) hn ?_
  refine V_callV (pc := 326) (ci := 11) (c_X11_suitor h11 hI.2.2.1 hA) dL_law_326 mlL_28 mkX11_suitor rfl rfl h11.o ⟨by decide, rfl⟩ ⟨Nat.le_of_ble_eq_true rfl, Nat.le_of_ble_eq_true rfl⟩ (Nat.le_of_ble_eq_true rfl) ⟨by omega, by omega⟩ (fun r S' I' L' hp => ?_)
  obtain ⟨rfl, rfl, hR2, hF2⟩ := hp
  have hm := hI.cc hR2 hF2
  have h12b := hm.2.1
  refine V_aload_n (pc := 329) dL_law_329 rfl ?_
  refine V_aload_n (pc := 330) dL_law_330 rfl ?_
  refine V_iload_n (pc := 331) dL_law_331 rfl ?_
  refine V_iconst (pc := 332) (v := nI 1) dL_law_332 (by decide) ?_
  refine V_iaddN (pc := 333) dL_law_333 ?_
  refine V_sld (pc := 334) dL_law_334 (by omega) hn ?_
  refine V_aload_n (pc := 335) dL_law_335 rfl ?_
  refine V_iload_n (pc := 336) dL_law_336 rfl ?_
  refine V_iconst (pc := 337) (v := nI 2) dL_law_337 (by decide) ?_
  refine V_iaddN (pc := 338) dL_law_338 ?_
  refine V_sld (pc := 339) dL_law_339 (by omega) hn ?_
  refine V_callV (pc := 340) (ci := 12) (c_X12_suitor h12b hm.2.2.2.1 hA) dL_law_340 mlL_31 mkX12_suitor rfl rfl h12b.o ⟨by decide, rfl⟩ ⟨Nat.le_of_ble_eq_true rfl, Nat.le_of_ble_eq_true rfl⟩ (Nat.le_of_ble_eq_true rfl) ⟨by omega, by omega⟩ (fun r S' I' L' hp => ?_)
  obtain ⟨rfl, rfl, hM3, hF3⟩ := hp
  refine V_icmp_eq (pc := 343) (tgt := 1403) dL_law_343 (by decide) (fun c343 => ?_) (fun n343 => absurd n343 (by exact fun z => z rfl))
  exact V_wid (N _ _ _ _ (hm.cm hM3 hF3 (wf_suitor hA _ _))) (by omega) (by omega)
theorem lw_at (hI : INVL E B S I L A) (hi : i + 6 ≤ n) (hn : n ≤ 3072) (hcl : cl + 6 ≤ 600000) (hsl : sl + 974 ≤ 7302249) (N : ∀ S' I' L' A', INVL E B S' I' L' A' → VL E B b n xs (cl + 6) (sl + 974) S' I' L' 1403 i) : VL E B b n xs cl sl S I L 348 i := by
  have h11 := hI.1
  have h12 := hI.2.1
  have hA := hI.2.2.2.2.1
  have hRc : room_1.cells = 600000 := rfl
  have hRs : room_1.slots = 7302249 := rfl
  refine V_aload_n (pc := 348) dL_law_348 rfl ?_
  refine V_aload_n (pc := 349) dL_law_349 rfl ?_
  refine V_iload_n (pc := 350) dL_law_350 rfl ?_
  refine V_iconst (pc := 351) (v := nI 1) dL_law_351 (by decide) ?_
  refine V_iaddN (pc := 352) dL_law_352 ?_
  refine V_sld (pc := 353) dL_law_353 (by omega) hn ?_
  refine V_aload_n (pc := 354) dL_law_354 rfl ?_
  refine V_iload_n (pc := 355) dL_law_355 rfl ?_
  refine V_iconst (pc := 356) (v := nI 2) dL_law_356 (by decide) ?_
  refine V_iaddN (pc := 357) dL_law_357 ?_
  refine V_sld (pc := 358) dL_law_358 (by omega) hn ?_
  refine V_callV (pc := 359) (ci := 11) (c_X11_at h11 hI.2.2.1 hA) dL_law_359 mlL_32 mkX11_at rfl rfl h11.o ⟨by decide, rfl⟩ ⟨Nat.le_of_ble_eq_true rfl, Nat.le_of_ble_eq_true rfl⟩ (Nat.le_of_ble_eq_true rfl) ⟨by omega, by omega⟩ (fun r S' I' L' hp => ?_)
  obtain ⟨rfl, rfl, hR2, hF2⟩ := hp
  have hm := hI.cc hR2 hF2
  have h12b := hm.2.1
  refine V_aload_n (pc := 362) dL_law_362 rfl ?_
  refine V_aload_n (pc := 363) dL_law_363 rfl ?_
  refine V_iload_n (pc := 364) dL_law_364 rfl ?_
  refine V_iconst (pc := 365) (v := nI 1) dL_law_365 (by decide) ?_
  refine V_iaddN (pc := 366) dL_law_366 ?_
  refine V_sld (pc := 367) dL_law_367 (by omega) hn ?_
  refine V_aload_n (pc := 368) dL_law_368 rfl ?_
  refine V_iload_n (pc := 369) dL_law_369 rfl ?_
  refine V_iconst (pc := 370) (v := nI 2) dL_law_370 (by decide) ?_
  refine V_iaddN (pc := 371) dL_law_371 ?_
  refine V_sld (pc := 372) dL_law_372 (by omega) hn ?_
  refine V_callV (pc := 373) (ci := 12) (c_X12_at h12b hm.2.2.2.1 hA) dL_law_373 mlL_35 mkX12_at rfl rfl h12b.o ⟨by decide, rfl⟩ ⟨Nat.le_of_ble_eq_true rfl, Nat.le_of_ble_eq_true rfl⟩ (Nat.le_of_ble_eq_true rfl) ⟨by omega, by omega⟩ (fun r S' I' L' hp => ?_)
  obtain ⟨rfl, rfl, hM3, hF3⟩ := hp
  refine V_icmp_eq (pc := 376) (tgt := 1403) dL_law_376 (by decide) (fun c376 => ?_) (fun n376 => absurd n376 (by exact fun z => z rfl))
  exact V_wid (N _ _ _ _ (hm.cm hM3 hF3 hA)) (by omega) (by omega)
theorem lw_asks (hI : INVL E B S I L A) (hi : i + 6 ≤ n) (hn : n ≤ 3072) (hcl : cl + 6 ≤ 600000) (hsl : sl + 974 ≤ 7302249) (N : ∀ S' I' L' A', INVL E B S' I' L' A' → VL E B b n xs (cl + 6) (sl + 974) S' I' L' 1403 i) : VL E B b n xs cl sl S I L 381 i := by
  have h11 := hI.1
  have h12 := hI.2.1
  have hA := hI.2.2.2.2.1
  have hRc : room_1.cells = 600000 := rfl
  have hRs : room_1.slots = 7302249 := rfl
  refine V_aload_n (pc := 381) dL_law_381 rfl ?_
  refine V_aload_n (pc := 382) dL_law_382 rfl ?_
  refine V_iload_n (pc := 383) dL_law_383 rfl ?_
  refine V_iconst (pc := 384) (v := nI 1) dL_law_384 (by decide) ?_
  refine V_iaddN (pc := 385) dL_law_385 ?_
  refine V_sld (pc := 386) dL_law_386 (by omega) hn ?_
  refine V_aload_n (pc := 387) dL_law_387 rfl ?_
  refine V_iload_n (pc := 388) dL_law_388 rfl ?_
  refine V_iconst (pc := 389) (v := nI 2) dL_law_389 (by decide) ?_
  refine V_iaddN (pc := 390) dL_law_390 ?_
  refine V_sld (pc := 391) dL_law_391 (by omega) hn ?_
  refine V_aload_n (pc := 392) dL_law_392 rfl ?_
  refine V_iload_n (pc := 393) dL_law_393 rfl ?_
  refine V_iconst (pc := 394) (v := nI 3) dL_law_394 (by decide) ?_
  refine V_iaddN (pc := 395) dL_law_395 ?_
  refine V_sld (pc := 396) dL_law_396 (by omega) hn ?_
  refine V_callV (pc := 397) (ci := 11) (c_X11_asks h11 hI.2.2.1 hA) dL_law_397 mlL_36 mkX11_asks rfl rfl h11.o ⟨by decide, rfl⟩ ⟨Nat.le_of_ble_eq_true rfl, Nat.le_of_ble_eq_true rfl⟩ (Nat.le_of_ble_eq_true rfl) ⟨by omega, by omega⟩ (fun r S' I' L' hp => ?_)
  obtain ⟨rfl, rfl, hR2, hF2⟩ := hp
  have hm := hI.cc hR2 hF2
  have h12b := hm.2.1
  refine V_aload_n (pc := 400) dL_law_400 rfl ?_
  refine V_aload_n (pc := 401) dL_law_401 rfl ?_
  refine V_iload_n (pc := 402) dL_law_402 rfl ?_
  refine V_iconst (pc := 403) (v := nI 1) dL_law_403 (by decide) ?_
  refine V_iaddN (pc := 404) dL_law_404 ?_
  refine V_sld (pc := 405) dL_law_405 (by omega) hn ?_
  refine V_aload_n (pc := 406) dL_law_406 rfl ?_
  refine V_iload_n (pc := 407) dL_law_407 rfl ?_
  refine V_iconst (pc := 408) (v := nI 2) dL_law_408 (by decide) ?_
  refine V_iaddN (pc := 409) dL_law_409 ?_
  refine V_sld (pc := 410) dL_law_410 (by omega) hn ?_
  refine V_aload_n (pc := 411) dL_law_411 rfl ?_
  refine V_iload_n (pc := 412) dL_law_412 rfl ?_
  refine V_iconst (pc := 413) (v := nI 3) dL_law_413 (by decide) ?_
  refine V_iaddN (pc := 414) dL_law_414 ?_
  refine V_sld (pc := 415) dL_law_415 (by omega) hn ?_
  refine V_callV (pc := 416) (ci := 12) (c_X12_asks h12b hm.2.2.2.1 hA) dL_law_416 mlL_39 mkX12_asks rfl rfl h12b.o ⟨by decide, rfl⟩ ⟨Nat.le_of_ble_eq_true rfl, Nat.le_of_ble_eq_true rfl⟩ (Nat.le_of_ble_eq_true rfl) ⟨by omega, by omega⟩ (fun r S' I' L' hp => ?_)
  obtain ⟨rfl, rfl, hM3, hF3⟩ := hp
  refine V_icmp_eq (pc := 419) (tgt := 1403) dL_law_419 (by decide) (fun c419 => ?_) (fun n419 => absurd n419 (by exact fun z => z rfl))
  exact V_wid (N _ _ _ _ (hm.cm hM3 hF3 hA)) (by omega) (by omega)
theorem lw_terms (hI : INVL E B S I L A) (hi : i + 6 ≤ n) (hn : n ≤ 3072) (hcl : cl + 6 ≤ 600000) (hsl : sl + 974 ≤ 7302249) (N : ∀ S' I' L' A', INVL E B S' I' L' A' → VL E B b n xs (cl + 6) (sl + 974) S' I' L' 1403 i) : VL E B b n xs cl sl S I L 424 i := by
  have h11 := hI.1
  have h12 := hI.2.1
  have hA := hI.2.2.2.2.1
  have hRc : room_1.cells = 600000 := rfl
  have hRs : room_1.slots = 7302249 := rfl
  refine V_aload_n (pc := 424) dL_law_424 rfl ?_
  refine V_aload_n (pc := 425) dL_law_425 rfl ?_
  refine V_iload_n (pc := 426) dL_law_426 rfl ?_
  refine V_iconst (pc := 427) (v := nI 1) dL_law_427 (by decide) ?_
  refine V_iaddN (pc := 428) dL_law_428 ?_
  refine V_sld (pc := 429) dL_law_429 (by omega) hn ?_
  refine V_aload_n (pc := 430) dL_law_430 rfl ?_
  refine V_iload_n (pc := 431) dL_law_431 rfl ?_
  refine V_iconst (pc := 432) (v := nI 2) dL_law_432 (by decide) ?_
  refine V_iaddN (pc := 433) dL_law_433 ?_
  refine V_sld (pc := 434) dL_law_434 (by omega) hn ?_
  refine V_callV (pc := 435) (ci := 11) (c_X11_terms h11 hI.2.2.1 hA) dL_law_435 mlL_40 mkX11_terms rfl rfl h11.o ⟨by decide, rfl⟩ ⟨Nat.le_of_ble_eq_true rfl, Nat.le_of_ble_eq_true rfl⟩ (Nat.le_of_ble_eq_true rfl) ⟨by omega, by omega⟩ (fun r S' I' L' hp => ?_)
  obtain ⟨rfl, rfl, hR2, hF2⟩ := hp
  have hm := hI.cc hR2 hF2
  have h12b := hm.2.1
  refine V_aload_n (pc := 438) dL_law_438 rfl ?_
  refine V_aload_n (pc := 439) dL_law_439 rfl ?_
  refine V_iload_n (pc := 440) dL_law_440 rfl ?_
  refine V_iconst (pc := 441) (v := nI 1) dL_law_441 (by decide) ?_
  refine V_iaddN (pc := 442) dL_law_442 ?_
  refine V_sld (pc := 443) dL_law_443 (by omega) hn ?_
  refine V_aload_n (pc := 444) dL_law_444 rfl ?_
  refine V_iload_n (pc := 445) dL_law_445 rfl ?_
  refine V_iconst (pc := 446) (v := nI 2) dL_law_446 (by decide) ?_
  refine V_iaddN (pc := 447) dL_law_447 ?_
  refine V_sld (pc := 448) dL_law_448 (by omega) hn ?_
  refine V_callV (pc := 449) (ci := 12) (c_X12_terms h12b hm.2.2.2.1 hA) dL_law_449 mlL_43 mkX12_terms rfl rfl h12b.o ⟨by decide, rfl⟩ ⟨Nat.le_of_ble_eq_true rfl, Nat.le_of_ble_eq_true rfl⟩ (Nat.le_of_ble_eq_true rfl) ⟨by omega, by omega⟩ (fun r S' I' L' hp => ?_)
  obtain ⟨rfl, rfl, hM3, hF3⟩ := hp
  refine V_icmp_eq (pc := 452) (tgt := 1403) dL_law_452 (by decide) (fun c452 => ?_) (fun n452 => absurd n452 (by exact fun z => z rfl))
  exact V_wid (N _ _ _ _ (hm.cm hM3 hF3 (wf_terms hA _ _))) (by omega) (by omega)
theorem lw_feed (hI : INVL E B S I L A) (hi : i + 6 ≤ n) (hn : n ≤ 3072) (hcl : cl + 6 ≤ 600000) (hsl : sl + 974 ≤ 7302249) (N : ∀ S' I' L' A', INVL E B S' I' L' A' → VL E B b n xs (cl + 6) (sl + 974) S' I' L' 1403 i) : VL E B b n xs cl sl S I L 457 i := by
  have h11 := hI.1
  have h12 := hI.2.1
  have hA := hI.2.2.2.2.1
  have hRc : room_1.cells = 600000 := rfl
  have hRs : room_1.slots = 7302249 := rfl
  refine V_aload_n (pc := 457) dL_law_457 rfl ?_
  refine V_aload_n (pc := 458) dL_law_458 rfl ?_
  refine V_iload_n (pc := 459) dL_law_459 rfl ?_
  refine V_iconst (pc := 460) (v := nI 1) dL_law_460 (by decide) ?_
  refine V_iaddN (pc := 461) dL_law_461 ?_
  refine V_sld (pc := 462) dL_law_462 (by omega) hn ?_
  refine V_aload_n (pc := 463) dL_law_463 rfl ?_
  refine V_iload_n (pc := 464) dL_law_464 rfl ?_
  refine V_iconst (pc := 465) (v := nI 2) dL_law_465 (by decide) ?_
  refine V_iaddN (pc := 466) dL_law_466 ?_
  refine V_sld (pc := 467) dL_law_467 (by omega) hn ?_
  refine V_aload_n (pc := 468) dL_law_468 rfl ?_
  refine V_iload_n (pc := 469) dL_law_469 rfl ?_
  refine V_iconst (pc := 470) (v := nI 3) dL_law_470 (by decide) ?_
  refine V_iaddN (pc := 471) dL_law_471 ?_
  refine V_sld (pc := 472) dL_law_472 (by omega) hn ?_
  refine V_aload_n (pc := 473) dL_law_473 rfl ?_
  refine V_iload_n (pc := 474) dL_law_474 rfl ?_
  refine V_iconst (pc := 475) (v := nI 4) dL_law_475 (by decide) ?_
  refine V_iaddN (pc := 476) dL_law_476 ?_
  refine V_sld (pc := 477) dL_law_477 (by omega) hn ?_
  refine V_aload_n (pc := 478) dL_law_478 rfl ?_
  refine V_iload_n (pc := 479) dL_law_479 rfl ?_
  refine V_iconst (pc := 480) (v := nI 5) dL_law_480 (by decide) ?_
  refine V_iaddN (pc := 481) dL_law_481 ?_
  refine V_sld (pc := 482) dL_law_482 (by omega) hn ?_
  refine V_callV (pc := 483) (ci := 11) (c_X11_feed h11 hI.2.2.1 hA) dL_law_483 mlL_44 mkX11_feed rfl rfl h11.o ⟨by decide, rfl⟩ ⟨Nat.le_of_ble_eq_true rfl, Nat.le_of_ble_eq_true rfl⟩ (Nat.le_of_ble_eq_true rfl) ⟨by omega, by omega⟩ (fun r S' I' L' hp => ?_)
  obtain ⟨rfl, rfl, hR2, hF2⟩ := hp
  have hm := hI.cc hR2 hF2
  have h12b := hm.2.1
  refine V_aload_n (pc := 486) dL_law_486 rfl ?_
  refine V_aload_n (pc := 487) dL_law_487 rfl ?_
  refine V_iload_n (pc := 488) dL_law_488 rfl ?_
  refine V_iconst (pc := 489) (v := nI 1) dL_law_489 (by decide) ?_
  refine V_iaddN (pc := 490) dL_law_490 ?_
  refine V_sld (pc := 491) dL_law_491 (by omega) hn ?_
  refine V_aload_n (pc := 492) dL_law_492 rfl ?_
  refine V_iload_n (pc := 493) dL_law_493 rfl ?_
  refine V_iconst (pc := 494) (v := nI 2) dL_law_494 (by decide) ?_
  refine V_iaddN (pc := 495) dL_law_495 ?_
  refine V_sld (pc := 496) dL_law_496 (by omega) hn ?_
  refine V_aload_n (pc := 497) dL_law_497 rfl ?_
  refine V_iload_n (pc := 498) dL_law_498 rfl ?_
  refine V_iconst (pc := 499) (v := nI 3) dL_law_499 (by decide) ?_
  refine V_iaddN (pc := 500) dL_law_500 ?_
  refine V_sld (pc := 501) dL_law_501 (by omega) hn ?_
  refine V_aload_n (pc := 502) dL_law_502 rfl ?_
  refine V_iload_n (pc := 503) dL_law_503 rfl ?_
  refine V_iconst (pc := 504) (v := nI 4) dL_law_504 (by decide) ?_
  refine V_iaddN (pc := 505) dL_law_505 ?_
  refine V_sld (pc := 506) dL_law_506 (by omega) hn ?_
  refine V_aload_n (pc := 507) dL_law_507 rfl ?_
  refine V_iload_n (pc := 508) dL_law_508 rfl ?_
  refine V_iconst (pc := 509) (v := nI 5) dL_law_509 (by decide) ?_
  refine V_iaddN (pc := 510) dL_law_510 ?_
  refine V_sld (pc := 511) dL_law_511 (by omega) hn ?_
  refine V_callV (pc := 512) (ci := 12) (c_X12_feed h12b hm.2.2.2.1 hA) dL_law_512 mlL_48 mkX12_feed rfl rfl h12b.o ⟨by decide, rfl⟩ ⟨Nat.le_of_ble_eq_true rfl, Nat.le_of_ble_eq_true rfl⟩ (Nat.le_of_ble_eq_true rfl) ⟨by omega, by omega⟩ (fun r S' I' L' hp => ?_)
  obtain ⟨rfl, rfl, hM3, hF3⟩ := hp
  refine V_icmp_eq (pc := 515) (tgt := 1403) dL_law_515 (by decide) (fun c515 => ?_) (fun n515 => absurd n515 (by exact fun z => z rfl))
  exact V_wid (N _ _ _ _ (hm.cm hM3 hF3 (wf_feed hA _ _ _ _ _))) (by omega) (by omega)
theorem lw_end (hI : INVL E B S I L A) (hi : i + 6 ≤ n) (hn : n ≤ 3072) (hcl : cl + 6 ≤ 600000) (hsl : sl + 974 ≤ 7302249) (N : ∀ S' I' L' A', INVL E B S' I' L' A' → VL E B b n xs (cl + 6) (sl + 974) S' I' L' 1403 i) : VL E B b n xs cl sl S I L 520 i := by
  have h11 := hI.1
  have h12 := hI.2.1
  have hA := hI.2.2.2.2.1
  have hRc : room_1.cells = 600000 := rfl
  have hRs : room_1.slots = 7302249 := rfl
  refine V_aload_n (pc := 520) dL_law_520 rfl ?_
  refine V_aload_n (pc := 521) dL_law_521 rfl ?_
  refine V_iload_n (pc := 522) dL_law_522 rfl ?_
  refine V_iconst (pc := 523) (v := nI 1) dL_law_523 (by decide) ?_
  refine V_iaddN (pc := 524) dL_law_524 ?_
  refine V_sld (pc := 525) dL_law_525 (by omega) hn ?_
  refine V_callV (pc := 526) (ci := 11) (c_X11_end h11 hI.2.2.1 hA) dL_law_526 mlL_49 mkX11_end rfl rfl h11.o ⟨by decide, rfl⟩ ⟨Nat.le_of_ble_eq_true rfl, Nat.le_of_ble_eq_true rfl⟩ (Nat.le_of_ble_eq_true rfl) ⟨by omega, by omega⟩ (fun r S' I' L' hp => ?_)
  obtain ⟨rfl, rfl, hR2, hF2⟩ := hp
  have hm := hI.cc hR2 hF2
  have h12b := hm.2.1
  refine V_aload_n (pc := 529) dL_law_529 rfl ?_
  refine V_aload_n (pc := 530) dL_law_530 rfl ?_
  refine V_iload_n (pc := 531) dL_law_531 rfl ?_
  refine V_iconst (pc := 532) (v := nI 1) dL_law_532 (by decide) ?_
  refine V_iaddN (pc := 533) dL_law_533 ?_
  refine V_sld (pc := 534) dL_law_534 (by omega) hn ?_
  refine V_callV (pc := 535) (ci := 12) (c_X12_end h12b hm.2.2.2.1 hA) dL_law_535 mlL_52 mkX12_end rfl rfl h12b.o ⟨by decide, rfl⟩ ⟨Nat.le_of_ble_eq_true rfl, Nat.le_of_ble_eq_true rfl⟩ (Nat.le_of_ble_eq_true rfl) ⟨by omega, by omega⟩ (fun r S' I' L' hp => ?_)
  obtain ⟨rfl, rfl, hM3, hF3⟩ := hp
  refine V_icmp_eq (pc := 538) (tgt := 1403) dL_law_538 (by decide) (fun c538 => ?_) (fun n538 => absurd n538 (by exact fun z => z rfl))
  exact V_wid (N _ _ _ _ (hm.cm hM3 hF3 (wf_end hA _))) (by omega) (by omega)
theorem lw_row (hI : INVL E B S I L A) (hi : i + 6 ≤ n) (hn : n ≤ 3072) (hcl : cl + 6 ≤ 600000) (hsl : sl + 974 ≤ 7302249) (N : ∀ S' I' L' A', INVL E B S' I' L' A' → VL E B b n xs (cl + 6) (sl + 974) S' I' L' 1403 i) : VL E B b n xs cl sl S I L 543 i := by
  have h11 := hI.1
  have h12 := hI.2.1
  have hA := hI.2.2.2.2.1
  have hRc : room_1.cells = 600000 := rfl
  have hRs : room_1.slots = 7302249 := rfl
  refine V_aload_n (pc := 543) dL_law_543 rfl ?_
  refine V_callV (pc := 544) (ci := 11) (c_X11_row h11 hI.2.2.1 hA) dL_law_544 mlL_53 mkX11_row rfl rfl h11.o ⟨by decide, rfl⟩ ⟨Nat.le_of_ble_eq_true rfl, Nat.le_of_ble_eq_true rfl⟩ (Nat.le_of_ble_eq_true rfl) ⟨by omega, by omega⟩ (fun r S' I' L' hp => ?_)
  obtain ⟨rfl, rfl, hR2, hF2⟩ := hp
  have hm := hI.cc hR2 hF2
  have h12b := hm.2.1
  refine V_aload_n (pc := 547) dL_law_547 rfl ?_
  refine V_callV (pc := 548) (ci := 12) (c_X12_row h12b hm.2.2.2.1 hA) dL_law_548 mlL_57 mkX12_row rfl rfl h12b.o ⟨by decide, rfl⟩ ⟨Nat.le_of_ble_eq_true rfl, Nat.le_of_ble_eq_true rfl⟩ (Nat.le_of_ble_eq_true rfl) ⟨by omega, by omega⟩ (fun r S' I' L' hp => ?_)
  obtain ⟨rfl, rfl, hM3, hF3⟩ := hp
  refine V_icmp_eq (pc := 551) (tgt := 1403) dL_law_551 (by decide) (fun c551 => ?_) (fun n551 => absurd n551 (by exact fun z => z rfl))
  exact V_wid (N _ _ _ _ (hm.cm hM3 hF3 (wf_row hA))) (by omega) (by omega)
theorem lw_rust (hI : INVL E B S I L A) (hi : i + 6 ≤ n) (hn : n ≤ 3072) (hcl : cl + 6 ≤ 600000) (hsl : sl + 974 ≤ 7302249) (N : ∀ S' I' L' A', INVL E B S' I' L' A' → VL E B b n xs (cl + 6) (sl + 974) S' I' L' 1403 i) : VL E B b n xs cl sl S I L 556 i := by
  have h11 := hI.1
  have h12 := hI.2.1
  have hA := hI.2.2.2.2.1
  have hRc : room_1.cells = 600000 := rfl
  have hRs : room_1.slots = 7302249 := rfl
  refine V_aload_n (pc := 556) dL_law_556 rfl ?_
  refine V_callV (pc := 557) (ci := 11) (c_X11_rust h11 hI.2.2.1) dL_law_557 mlL_58 mkX11_rust rfl rfl h11.o ⟨by decide, rfl⟩ ⟨Nat.le_of_ble_eq_true rfl, Nat.le_of_ble_eq_true rfl⟩ (Nat.le_of_ble_eq_true rfl) ⟨by omega, by omega⟩ (fun r S' I' L' hp => ?_)
  obtain ⟨rfl, rfl, hR2, hF2⟩ := hp
  have hm := hI.cc hR2 hF2
  have h12b := hm.2.1
  refine V_aload_n (pc := 560) dL_law_560 rfl ?_
  refine V_callV (pc := 561) (ci := 12) (c_X12_rust h12b hm.2.2.2.1) dL_law_561 mlL_61 mkX12_rust rfl rfl h12b.o ⟨by decide, rfl⟩ ⟨Nat.le_of_ble_eq_true rfl, Nat.le_of_ble_eq_true rfl⟩ (Nat.le_of_ble_eq_true rfl) ⟨by omega, by omega⟩ (fun r S' I' L' hp => ?_)
  obtain ⟨rfl, rfl, hM3, hF3⟩ := hp
  refine V_icmp_eq (pc := 564) (tgt := 1403) dL_law_564 (by decide) (fun c564 => ?_) (fun n564 => absurd n564 (by exact fun z => z rfl))
  exact V_wid (N _ _ _ _ (hm.cm hM3 hF3 hA)) (by omega) (by omega)
theorem lw_law (hI : INVL E B S I L A) (hi : i + 6 ≤ n) (hn : n ≤ 3072) (hcl : cl + 6 ≤ 600000) (hsl : sl + 974 ≤ 7302249) (N : ∀ S' I' L' A', INVL E B S' I' L' A' → VL E B b n xs (cl + 6) (sl + 974) S' I' L' 1403 i) : VL E B b n xs cl sl S I L 569 i := by
  have h11 := hI.1
  have h12 := hI.2.1
  have hA := hI.2.2.2.2.1
  have hRc : room_1.cells = 600000 := rfl
  have hRs : room_1.slots = 7302249 := rfl
  refine V_aload_n (pc := 569) dL_law_569 rfl ?_
  refine V_callV (pc := 570) (ci := 11) (c_X11_law h11 hI.2.2.1 hA hI.2.2.2.2.2.1 hI.2.2.2.2.2.2) dL_law_570 mlL_62 mkX11_law rfl rfl h11.o ⟨by decide, rfl⟩ ⟨Nat.le_of_ble_eq_true rfl, Nat.le_of_ble_eq_true rfl⟩ (Nat.le_of_ble_eq_true rfl) ⟨by omega, by omega⟩ (fun r S' I' L' hp => ?_)
  obtain ⟨rfl, hm⟩ := hI.cn hp
  have h12b := hm.2.1
  refine V_aload_n (pc := 573) dL_law_573 rfl ?_
  refine V_callV (pc := 574) (ci := 12) (c_X12_law h12b hm.2.2.2.1 hA) dL_law_574 mlL_65 mkX12_law rfl rfl h12b.o ⟨by decide, rfl⟩ ⟨Nat.le_of_ble_eq_true rfl, Nat.le_of_ble_eq_true rfl⟩ (Nat.le_of_ble_eq_true rfl) ⟨by omega, by omega⟩ (fun r S' I' L' hp => ?_)
  obtain ⟨rfl, rfl, hM3, hF3⟩ := hp
  refine V_icmp_eq (pc := 577) (tgt := 1403) dL_law_577 (by decide) (fun c577 => ?_) (fun n577 => absurd n577 (by exact fun z => z rfl))
  exact V_wid (N _ _ _ _ (hm.cm hM3 hF3 (wf_law hA hm.2.2.1))) (by omega) (by omega)
theorem lw_orders (hI : INVL E B S I L A) (hi : i + 6 ≤ n) (hn : n ≤ 3072) (hcl : cl + 6 ≤ 600000) (hsl : sl + 974 ≤ 7302249) (N : ∀ S' I' L' A', INVL E B S' I' L' A' → VL E B b n xs (cl + 6) (sl + 974) S' I' L' 1403 i) : VL E B b n xs cl sl S I L 582 i := by
  have h11 := hI.1
  have h12 := hI.2.1
  have hA := hI.2.2.2.2.1
  have hRc : room_1.cells = 600000 := rfl
  have hRs : room_1.slots = 7302249 := rfl
  refine V_aload_n (pc := 582) dL_law_582 rfl ?_
  refine V_callV (pc := 583) (ci := 11) (c_X11_orders h11 hI.2.2.1 hA hI.2.2.2.2.2.1 hI.2.2.2.2.2.2) dL_law_583 mlL_66 mkX11_orders rfl rfl h11.o ⟨by decide, rfl⟩ ⟨Nat.le_of_ble_eq_true rfl, Nat.le_of_ble_eq_true rfl⟩ (Nat.le_of_ble_eq_true rfl) ⟨by omega, by omega⟩ (fun r S' I' L' hp => ?_)
  obtain ⟨rfl, hm⟩ := hI.cn hp
  have h12b := hm.2.1
  refine V_aload_n (pc := 586) dL_law_586 rfl ?_
  refine V_callV (pc := 587) (ci := 12) (c_X12_orders h12b hm.2.2.2.1 hA) dL_law_587 mlL_69 mkX12_orders rfl rfl h12b.o ⟨by decide, rfl⟩ ⟨Nat.le_of_ble_eq_true rfl, Nat.le_of_ble_eq_true rfl⟩ (Nat.le_of_ble_eq_true rfl) ⟨by omega, by omega⟩ (fun r S' I' L' hp => ?_)
  obtain ⟨rfl, rfl, hM3, hF3⟩ := hp
  refine V_icmp_eq (pc := 590) (tgt := 1403) dL_law_590 (by decide) (fun c590 => ?_) (fun n590 => absurd n590 (by exact fun z => z rfl))
  exact V_wid (N _ _ _ _ (hm.cm hM3 hF3 (wf_orders hA))) (by omega) (by omega)
theorem lw_fault (hI : INVL E B S I L A) (hi : i + 6 ≤ n) (hn : n ≤ 3072) (hcl : cl + 6 ≤ 600000) (hsl : sl + 974 ≤ 7302249) (N : ∀ S' I' L' A', INVL E B S' I' L' A' → VL E B b n xs (cl + 6) (sl + 974) S' I' L' 1403 i) : VL E B b n xs cl sl S I L 595 i := by
  have h11 := hI.1
  have h12 := hI.2.1
  have hA := hI.2.2.2.2.1
  have hRc : room_1.cells = 600000 := rfl
  have hRs : room_1.slots = 7302249 := rfl
  refine V_aload_n (pc := 595) dL_law_595 rfl ?_
  refine V_callV (pc := 596) (ci := 11) (c_X11_fault h11 hI.2.2.1) dL_law_596 mlL_70 mkX11_fault rfl rfl h11.o ⟨by decide, rfl⟩ ⟨Nat.le_of_ble_eq_true rfl, Nat.le_of_ble_eq_true rfl⟩ (Nat.le_of_ble_eq_true rfl) ⟨by omega, by omega⟩ (fun r S' I' L' hp => ?_)
  obtain ⟨rfl, rfl, hR2, hF2⟩ := hp
  have hm := hI.cc hR2 hF2
  have h12b := hm.2.1
  refine V_aload_n (pc := 599) dL_law_599 rfl ?_
  refine V_callV (pc := 600) (ci := 12) (c_X12_fault h12b hm.2.2.2.1) dL_law_600 mlL_73 mkX12_fault rfl rfl h12b.o ⟨by decide, rfl⟩ ⟨Nat.le_of_ble_eq_true rfl, Nat.le_of_ble_eq_true rfl⟩ (Nat.le_of_ble_eq_true rfl) ⟨by omega, by omega⟩ (fun r S' I' L' hp => ?_)
  obtain ⟨rfl, rfl, hM3, hF3⟩ := hp
  refine V_icmp_eq (pc := 603) (tgt := 1403) dL_law_603 (by decide) (fun c603 => ?_) (fun n603 => absurd n603 (by exact fun z => z rfl))
  exact V_wid (N _ _ _ _ (hm.cm hM3 hF3 hA)) (by omega) (by omega)
theorem lw_stopped (hI : INVL E B S I L A) (hi : i + 6 ≤ n) (hn : n ≤ 3072) (hcl : cl + 6 ≤ 600000) (hsl : sl + 974 ≤ 7302249) (N : ∀ S' I' L' A', INVL E B S' I' L' A' → VL E B b n xs (cl + 6) (sl + 974) S' I' L' 1403 i) : VL E B b n xs cl sl S I L 608 i := by
  have h11 := hI.1
  have h12 := hI.2.1
  have hA := hI.2.2.2.2.1
  have hRc : room_1.cells = 600000 := rfl
  have hRs : room_1.slots = 7302249 := rfl
  refine V_aload_n (pc := 608) dL_law_608 rfl ?_
  refine V_callV (pc := 609) (ci := 11) (c_X11_stopped h11 hI.2.2.1) dL_law_609 mlL_74 mkX11_stopped rfl rfl h11.o ⟨by decide, rfl⟩ ⟨Nat.le_of_ble_eq_true rfl, Nat.le_of_ble_eq_true rfl⟩ (Nat.le_of_ble_eq_true rfl) ⟨by omega, by omega⟩ (fun r S' I' L' hp => ?_)
  obtain ⟨rfl, rfl, hR2, hF2⟩ := hp
  have hm := hI.cc hR2 hF2
  have h12b := hm.2.1
  refine V_aload_n (pc := 612) dL_law_612 rfl ?_
  refine V_callV (pc := 613) (ci := 12) (c_X12_stopped h12b hm.2.2.2.1) dL_law_613 mlL_77 mkX12_stopped rfl rfl h12b.o ⟨by decide, rfl⟩ ⟨Nat.le_of_ble_eq_true rfl, Nat.le_of_ble_eq_true rfl⟩ (Nat.le_of_ble_eq_true rfl) ⟨by omega, by omega⟩ (fun r S' I' L' hp => ?_)
  obtain ⟨rfl, rfl, hM3, hF3⟩ := hp
  refine V_icmp_eq (pc := 616) (tgt := 1403) dL_law_616 (by decide) (fun c616 => ?_) (fun n616 => absurd n616 (by exact fun z => z rfl))
  exact V_wid (N _ _ _ _ (hm.cm hM3 hF3 hA)) (by omega) (by omega)
theorem lw_force (hI : INVL E B S I L A) (hi : i + 6 ≤ n) (hn : n ≤ 3072) (hcl : cl + 6 ≤ 600000) (hsl : sl + 974 ≤ 7302249) (N : ∀ S' I' L' A', INVL E B S' I' L' A' → VL E B b n xs (cl + 6) (sl + 974) S' I' L' 1403 i) : VL E B b n xs cl sl S I L 621 i := by
  have h11 := hI.1
  have h12 := hI.2.1
  have hA := hI.2.2.2.2.1
  have hRc : room_1.cells = 600000 := rfl
  have hRs : room_1.slots = 7302249 := rfl
  refine V_aload_n (pc := 621) dL_law_621 rfl ?_
  refine V_aload_n (pc := 622) dL_law_622 rfl ?_
  refine V_iload_n (pc := 623) dL_law_623 rfl ?_
  refine V_iconst (pc := 624) (v := nI 1) dL_law_624 (by decide) ?_
  refine V_iaddN (pc := 625) dL_law_625 ?_
  refine V_sld (pc := 626) dL_law_626 (by omega) hn ?_
  refine V_callV (pc := 627) (ci := 11) (c_X11_force h11 hI.2.2.1 hA) dL_law_627 mlL_78 mkX11_force rfl rfl h11.o ⟨by decide, rfl⟩ ⟨Nat.le_of_ble_eq_true rfl, Nat.le_of_ble_eq_true rfl⟩ (Nat.le_of_ble_eq_true rfl) ⟨by omega, by omega⟩ (fun r S' I' L' hp => ?_)
  obtain ⟨rfl, rfl, hR2, hF2⟩ := hp
  have hm := hI.cc hR2 hF2
  have h12b := hm.2.1
  refine V_aload_n (pc := 630) dL_law_630 rfl ?_
  refine V_aload_n (pc := 631) dL_law_631 rfl ?_
  refine V_iload_n (pc := 632) dL_law_632 rfl ?_
  refine V_iconst (pc := 633) (v := nI 1) dL_law_633 (by decide) ?_
  refine V_iaddN (pc := 634) dL_law_634 ?_
  refine V_sld (pc := 635) dL_law_635 (by omega) hn ?_
  refine V_callV (pc := 636) (ci := 12) (c_X12_force h12b hm.2.2.2.1 hA) dL_law_636 mlL_81 mkX12_force rfl rfl h12b.o ⟨by decide, rfl⟩ ⟨Nat.le_of_ble_eq_true rfl, Nat.le_of_ble_eq_true rfl⟩ (Nat.le_of_ble_eq_true rfl) ⟨by omega, by omega⟩ (fun r S' I' L' hp => ?_)
  obtain ⟨rfl, rfl, hM3, hF3⟩ := hp
  refine V_icmp_eq (pc := 639) (tgt := 1403) dL_law_639 (by decide) (fun c639 => ?_) (fun n639 => absurd n639 (by exact fun z => z rfl))
  exact V_wid (N _ _ _ _ (hm.cm hM3 hF3 (wf_force hA _))) (by omega) (by omega)
theorem lw_pull (hI : INVL E B S I L A) (hi : i + 6 ≤ n) (hn : n ≤ 3072) (hcl : cl + 6 ≤ 600000) (hsl : sl + 974 ≤ 7302249) (N : ∀ S' I' L' A', INVL E B S' I' L' A' → VL E B b n xs (cl + 6) (sl + 974) S' I' L' 1403 i) : VL E B b n xs cl sl S I L 644 i := by
  have h11 := hI.1
  have h12 := hI.2.1
  have hA := hI.2.2.2.2.1
  have hRc : room_1.cells = 600000 := rfl
  have hRs : room_1.slots = 7302249 := rfl
  refine V_aload_n (pc := 644) dL_law_644 rfl ?_
  refine V_aload_n (pc := 645) dL_law_645 rfl ?_
  refine V_iload_n (pc := 646) dL_law_646 rfl ?_
  refine V_iconst (pc := 647) (v := nI 1) dL_law_647 (by decide) ?_
  refine V_iaddN (pc := 648) dL_law_648 ?_
  refine V_sld (pc := 649) dL_law_649 (by omega) hn ?_
  refine V_aload_n (pc := 650) dL_law_650 rfl ?_
  refine V_iload_n (pc := 651) dL_law_651 rfl ?_
  refine V_iconst (pc := 652) (v := nI 2) dL_law_652 (by decide) ?_
  refine V_iaddN (pc := 653) dL_law_653 ?_
  refine V_sld (pc := 654) dL_law_654 (by omega) hn ?_
  refine V_aload_n (pc := 655) dL_law_655 rfl ?_
  refine V_iload_n (pc := 656) dL_law_656 rfl ?_
  refine V_iconst (pc := 657) (v := nI 3) dL_law_657 (by decide) ?_
  refine V_iaddN (pc := 658) dL_law_658 ?_
  refine V_sld (pc := 659) dL_law_659 (by omega) hn ?_
  refine V_callV (pc := 660) (ci := 11) (c_X11_pull h11 hI.2.2.1 hA) dL_law_660 mlL_82 mkX11_pull rfl rfl h11.o ⟨by decide, rfl⟩ ⟨Nat.le_of_ble_eq_true rfl, Nat.le_of_ble_eq_true rfl⟩ (Nat.le_of_ble_eq_true rfl) ⟨by omega, by omega⟩ (fun r S' I' L' hp => ?_)
  obtain ⟨rfl, rfl, hR2, hF2⟩ := hp
  have hm := hI.cc hR2 hF2
  have h12b := hm.2.1
  refine V_aload_n (pc := 663) dL_law_663 rfl ?_
  refine V_aload_n (pc := 664) dL_law_664 rfl ?_
  refine V_iload_n (pc := 665) dL_law_665 rfl ?_
  refine V_iconst (pc := 666) (v := nI 1) dL_law_666 (by decide) ?_
  refine V_iaddN (pc := 667) dL_law_667 ?_
  refine V_sld (pc := 668) dL_law_668 (by omega) hn ?_
  refine V_aload_n (pc := 669) dL_law_669 rfl ?_
  refine V_iload_n (pc := 670) dL_law_670 rfl ?_
  refine V_iconst (pc := 671) (v := nI 2) dL_law_671 (by decide) ?_
  refine V_iaddN (pc := 672) dL_law_672 ?_
  refine V_sld (pc := 673) dL_law_673 (by omega) hn ?_
  refine V_aload_n (pc := 674) dL_law_674 rfl ?_
  refine V_iload_n (pc := 675) dL_law_675 rfl ?_
  refine V_iconst (pc := 676) (v := nI 3) dL_law_676 (by decide) ?_
  refine V_iaddN (pc := 677) dL_law_677 ?_
  refine V_sld (pc := 678) dL_law_678 (by omega) hn ?_
  refine V_callV (pc := 679) (ci := 12) (c_X12_pull h12b hm.2.2.2.1 hA) dL_law_679 mlL_85 mkX12_pull rfl rfl h12b.o ⟨by decide, rfl⟩ ⟨Nat.le_of_ble_eq_true rfl, Nat.le_of_ble_eq_true rfl⟩ (Nat.le_of_ble_eq_true rfl) ⟨by omega, by omega⟩ (fun r S' I' L' hp => ?_)
  obtain ⟨rfl, rfl, hM3, hF3⟩ := hp
  refine V_icmp_eq (pc := 682) (tgt := 1403) dL_law_682 (by decide) (fun c682 => ?_) (fun n682 => absurd n682 (by exact fun z => z rfl))
  exact V_wid (N _ _ _ _ (hm.cm hM3 hF3 (wf_pull hA _ _ _))) (by omega) (by omega)
theorem lw_snap (hI : INVL E B S I L A) (hi : i + 6 ≤ n) (hn : n ≤ 3072) (hcl : cl + 6 ≤ 600000) (hsl : sl + 974 ≤ 7302249) (N : ∀ S' I' L' A', INVL E B S' I' L' A' → VL E B b n xs (cl + 6) (sl + 974) S' I' L' 1403 i) : VL E B b n xs cl sl S I L 687 i := by
  have h11 := hI.1
  have h12 := hI.2.1
  have hA := hI.2.2.2.2.1
  have hRc : room_1.cells = 600000 := rfl
  have hRs : room_1.slots = 7302249 := rfl
  refine V_aload_n (pc := 687) dL_law_687 rfl ?_
  refine V_aload_n (pc := 688) dL_law_688 rfl ?_
  refine V_iload_n (pc := 689) dL_law_689 rfl ?_
  refine V_iconst (pc := 690) (v := nI 1) dL_law_690 (by decide) ?_
  refine V_iaddN (pc := 691) dL_law_691 ?_
  refine V_sld (pc := 692) dL_law_692 (by omega) hn ?_
  refine V_aload_n (pc := 693) dL_law_693 rfl ?_
  refine V_iload_n (pc := 694) dL_law_694 rfl ?_
  refine V_iconst (pc := 695) (v := nI 2) dL_law_695 (by decide) ?_
  refine V_iaddN (pc := 696) dL_law_696 ?_
  refine V_sld (pc := 697) dL_law_697 (by omega) hn ?_
  refine V_callV (pc := 698) (ci := 11) (c_X11_snap h11 hI.2.2.1 hA) dL_law_698 mlL_86 mkX11_snap rfl rfl h11.o ⟨by decide, rfl⟩ ⟨Nat.le_of_ble_eq_true rfl, Nat.le_of_ble_eq_true rfl⟩ (Nat.le_of_ble_eq_true rfl) ⟨by omega, by omega⟩ (fun r S' I' L' hp => ?_)
  obtain ⟨rfl, rfl, hR2, hF2⟩ := hp
  have hm := hI.cc hR2 hF2
  have h12b := hm.2.1
  refine V_aload_n (pc := 701) dL_law_701 rfl ?_
  refine V_aload_n (pc := 702) dL_law_702 rfl ?_
  refine V_iload_n (pc := 703) dL_law_703 rfl ?_
  refine V_iconst (pc := 704) (v := nI 1) dL_law_704 (by decide) ?_
  refine V_iaddN (pc := 705) dL_law_705 ?_
  refine V_sld (pc := 706) dL_law_706 (by omega) hn ?_
  refine V_aload_n (pc := 707) dL_law_707 rfl ?_
  refine V_iload_n (pc := 708) dL_law_708 rfl ?_
  refine V_iconst (pc := 709) (v := nI 2) dL_law_709 (by decide) ?_
  refine V_iaddN (pc := 710) dL_law_710 ?_
  refine V_sld (pc := 711) dL_law_711 (by omega) hn ?_
  refine V_callV (pc := 712) (ci := 12) (c_X12_snap h12b hm.2.2.2.1 hA) dL_law_712 mlL_89 mkX12_snap rfl rfl h12b.o ⟨by decide, rfl⟩ ⟨Nat.le_of_ble_eq_true rfl, Nat.le_of_ble_eq_true rfl⟩ (Nat.le_of_ble_eq_true rfl) ⟨by omega, by omega⟩ (fun r S' I' L' hp => ?_)
  obtain ⟨rfl, rfl, hM3, hF3⟩ := hp
  refine V_icmp_eq (pc := 715) (tgt := 1403) dL_law_715 (by decide) (fun c715 => ?_) (fun n715 => absurd n715 (by exact fun z => z rfl))
  exact V_wid (N _ _ _ _ (hm.cm hM3 hF3 (wf_snap hA _ _))) (by omega) (by omega)
theorem lw_wed (hI : INVL E B S I L A) (hi : i + 6 ≤ n) (hn : n ≤ 3072) (hcl : cl + 6 ≤ 600000) (hsl : sl + 974 ≤ 7302249) (N : ∀ S' I' L' A', INVL E B S' I' L' A' → VL E B b n xs (cl + 6) (sl + 974) S' I' L' 1403 i) : VL E B b n xs cl sl S I L 720 i := by
  have h11 := hI.1
  have h12 := hI.2.1
  have hA := hI.2.2.2.2.1
  have hRc : room_1.cells = 600000 := rfl
  have hRs : room_1.slots = 7302249 := rfl
  refine V_aload_n (pc := 720) dL_law_720 rfl ?_
  refine V_aload_n (pc := 721) dL_law_721 rfl ?_
  refine V_iload_n (pc := 722) dL_law_722 rfl ?_
  refine V_iconst (pc := 723) (v := nI 1) dL_law_723 (by decide) ?_
  refine V_iaddN (pc := 724) dL_law_724 ?_
  refine V_sld (pc := 725) dL_law_725 (by omega) hn ?_
  refine V_aload_n (pc := 726) dL_law_726 rfl ?_
  refine V_iload_n (pc := 727) dL_law_727 rfl ?_
  refine V_iconst (pc := 728) (v := nI 2) dL_law_728 (by decide) ?_
  refine V_iaddN (pc := 729) dL_law_729 ?_
  refine V_sld (pc := 730) dL_law_730 (by omega) hn ?_
  refine V_callV (pc := 731) (ci := 11) (c_X11_wed h11 hI.2.2.1 hA) dL_law_731 mlL_90 mkX11_wed rfl rfl h11.o ⟨by decide, rfl⟩ ⟨Nat.le_of_ble_eq_true rfl, Nat.le_of_ble_eq_true rfl⟩ (Nat.le_of_ble_eq_true rfl) ⟨by omega, by omega⟩ (fun r S' I' L' hp => ?_)
  obtain ⟨rfl, rfl, hR2, hF2⟩ := hp
  have hm := hI.cc hR2 hF2
  have h12b := hm.2.1
  refine V_aload_n (pc := 734) dL_law_734 rfl ?_
  refine V_aload_n (pc := 735) dL_law_735 rfl ?_
  refine V_iload_n (pc := 736) dL_law_736 rfl ?_
  refine V_iconst (pc := 737) (v := nI 1) dL_law_737 (by decide) ?_
  refine V_iaddN (pc := 738) dL_law_738 ?_
  refine V_sld (pc := 739) dL_law_739 (by omega) hn ?_
  refine V_aload_n (pc := 740) dL_law_740 rfl ?_
  refine V_iload_n (pc := 741) dL_law_741 rfl ?_
  refine V_iconst (pc := 742) (v := nI 2) dL_law_742 (by decide) ?_
  refine V_iaddN (pc := 743) dL_law_743 ?_
  refine V_sld (pc := 744) dL_law_744 (by omega) hn ?_
  refine V_callV (pc := 745) (ci := 12) (c_X12_wed h12b hm.2.2.2.1 hA) dL_law_745 mlL_93 mkX12_wed rfl rfl h12b.o ⟨by decide, rfl⟩ ⟨Nat.le_of_ble_eq_true rfl, Nat.le_of_ble_eq_true rfl⟩ (Nat.le_of_ble_eq_true rfl) ⟨by omega, by omega⟩ (fun r S' I' L' hp => ?_)
  obtain ⟨rfl, rfl, hM3, hF3⟩ := hp
  refine V_icmp_eq (pc := 748) (tgt := 1403) dL_law_748 (by decide) (fun c748 => ?_) (fun n748 => absurd n748 (by exact fun z => z rfl))
  exact V_wid (N _ _ _ _ (hm.cm hM3 hF3 (wf_wed hA _ _))) (by omega) (by omega)
theorem lw_pass (hI : INVL E B S I L A) (hi : i + 6 ≤ n) (hn : n ≤ 3072) (hcl : cl + 6 ≤ 600000) (hsl : sl + 974 ≤ 7302249) (N : ∀ S' I' L' A', INVL E B S' I' L' A' → VL E B b n xs (cl + 6) (sl + 974) S' I' L' 1403 i) : VL E B b n xs cl sl S I L 753 i := by
  have h11 := hI.1
  have h12 := hI.2.1
  have hA := hI.2.2.2.2.1
  have hRc : room_1.cells = 600000 := rfl
  have hRs : room_1.slots = 7302249 := rfl
  refine V_aload_n (pc := 753) dL_law_753 rfl ?_
  refine V_callV (pc := 754) (ci := 11) (c_X11_pass h11 hI.2.2.1 hA) dL_law_754 mlL_94 mkX11_pass rfl rfl h11.o ⟨by decide, rfl⟩ ⟨Nat.le_of_ble_eq_true rfl, Nat.le_of_ble_eq_true rfl⟩ (Nat.le_of_ble_eq_true rfl) ⟨by omega, by omega⟩ (fun r S' I' L' hp => ?_)
  obtain ⟨rfl, rfl, hR2, hF2⟩ := hp
  have hm := hI.cc hR2 hF2
  have h12b := hm.2.1
  refine V_aload_n (pc := 757) dL_law_757 rfl ?_
  refine V_callV (pc := 758) (ci := 12) (c_X12_pass h12b hm.2.2.2.1 hA) dL_law_758 mlL_97 mkX12_pass rfl rfl h12b.o ⟨by decide, rfl⟩ ⟨Nat.le_of_ble_eq_true rfl, Nat.le_of_ble_eq_true rfl⟩ (Nat.le_of_ble_eq_true rfl) ⟨by omega, by omega⟩ (fun r S' I' L' hp => ?_)
  obtain ⟨rfl, rfl, hM3, hF3⟩ := hp
  refine V_icmp_eq (pc := 761) (tgt := 1403) dL_law_761 (by decide) (fun c761 => ?_) (fun n761 => absurd n761 (by exact fun z => z rfl))
  exact V_wid (N _ _ _ _ (hm.cm hM3 hF3 (wf_pass hA))) (by omega) (by omega)
theorem lw_undo (hI : INVL E B S I L A) (hi : i + 6 ≤ n) (hn : n ≤ 3072) (hcl : cl + 6 ≤ 600000) (hsl : sl + 974 ≤ 7302249) (N : ∀ S' I' L' A', INVL E B S' I' L' A' → VL E B b n xs (cl + 6) (sl + 974) S' I' L' 1403 i) : VL E B b n xs cl sl S I L 766 i := by
  have h11 := hI.1
  have h12 := hI.2.1
  have hA := hI.2.2.2.2.1
  have hRc : room_1.cells = 600000 := rfl
  have hRs : room_1.slots = 7302249 := rfl
  refine V_aload_n (pc := 766) dL_law_766 rfl ?_
  refine V_callV (pc := 767) (ci := 11) (c_X11_undo h11 hI.2.2.1 hA) dL_law_767 mlL_98 mkX11_undo rfl rfl h11.o ⟨by decide, rfl⟩ ⟨Nat.le_of_ble_eq_true rfl, Nat.le_of_ble_eq_true rfl⟩ (Nat.le_of_ble_eq_true rfl) ⟨by omega, by omega⟩ (fun r S' I' L' hp => ?_)
  obtain ⟨rfl, rfl, hR2, hF2⟩ := hp
  have hm := hI.cc hR2 hF2
  have h12b := hm.2.1
  refine V_aload_n (pc := 770) dL_law_770 rfl ?_
  refine V_callV (pc := 771) (ci := 12) (c_X12_undo h12b hm.2.2.2.1 hA) dL_law_771 mlL_101 mkX12_undo rfl rfl h12b.o ⟨by decide, rfl⟩ ⟨Nat.le_of_ble_eq_true rfl, Nat.le_of_ble_eq_true rfl⟩ (Nat.le_of_ble_eq_true rfl) ⟨by omega, by omega⟩ (fun r S' I' L' hp => ?_)
  obtain ⟨rfl, rfl, hM3, hF3⟩ := hp
  refine V_icmp_eq (pc := 774) (tgt := 1403) dL_law_774 (by decide) (fun c774 => ?_) (fun n774 => absurd n774 (by exact fun z => z rfl))
  exact V_wid (N _ _ _ _ (hm.cm hM3 hF3 (wf_undo hA))) (by omega) (by omega)
theorem lw_hear (hI : INVL E B S I L A) (hi : i + 6 ≤ n) (hn : n ≤ 3072) (hcl : cl + 6 ≤ 600000) (hsl : sl + 974 ≤ 7302249) (N : ∀ S' I' L' A', INVL E B S' I' L' A' → VL E B b n xs (cl + 6) (sl + 974) S' I' L' 1403 i) : VL E B b n xs cl sl S I L 779 i := by
  have h11 := hI.1
  have h12 := hI.2.1
  have hA := hI.2.2.2.2.1
  have hRc : room_1.cells = 600000 := rfl
  have hRs : room_1.slots = 7302249 := rfl
  refine V_aload_n (pc := 779) dL_law_779 rfl ?_
  refine V_aload_n (pc := 780) dL_law_780 rfl ?_
  refine V_iload_n (pc := 781) dL_law_781 rfl ?_
  refine V_iconst (pc := 782) (v := nI 1) dL_law_782 (by decide) ?_
  refine V_iaddN (pc := 783) dL_law_783 ?_
  refine V_sld (pc := 784) dL_law_784 (by omega) hn ?_
  refine V_aload_n (pc := 785) dL_law_785 rfl ?_
  refine V_iload_n (pc := 786) dL_law_786 rfl ?_
  refine V_iconst (pc := 787) (v := nI 2) dL_law_787 (by decide) ?_
  refine V_iaddN (pc := 788) dL_law_788 ?_
  refine V_sld (pc := 789) dL_law_789 (by omega) hn ?_
  refine V_aload_n (pc := 790) dL_law_790 rfl ?_
  refine V_iload_n (pc := 791) dL_law_791 rfl ?_
  refine V_iconst (pc := 792) (v := nI 3) dL_law_792 (by decide) ?_
  refine V_iaddN (pc := 793) dL_law_793 ?_
  refine V_sld (pc := 794) dL_law_794 (by omega) hn ?_
  refine V_callV (pc := 795) (ci := 11) (c_X11_hear h11 hI.2.2.1 hA) dL_law_795 mlL_102 mkX11_hear rfl rfl h11.o ⟨by decide, rfl⟩ ⟨Nat.le_of_ble_eq_true rfl, Nat.le_of_ble_eq_true rfl⟩ (Nat.le_of_ble_eq_true rfl) ⟨by omega, by omega⟩ (fun r S' I' L' hp => ?_)
  obtain ⟨rfl, rfl, hR2, hF2⟩ := hp
  have hm := hI.cc hR2 hF2
  have h12b := hm.2.1
  refine V_aload_n (pc := 798) dL_law_798 rfl ?_
  refine V_aload_n (pc := 799) dL_law_799 rfl ?_
  refine V_iload_n (pc := 800) dL_law_800 rfl ?_
  refine V_iconst (pc := 801) (v := nI 1) dL_law_801 (by decide) ?_
  refine V_iaddN (pc := 802) dL_law_802 ?_
  refine V_sld (pc := 803) dL_law_803 (by omega) hn ?_
  refine V_aload_n (pc := 804) dL_law_804 rfl ?_
  refine V_iload_n (pc := 805) dL_law_805 rfl ?_
  refine V_iconst (pc := 806) (v := nI 2) dL_law_806 (by decide) ?_
  refine V_iaddN (pc := 807) dL_law_807 ?_
  refine V_sld (pc := 808) dL_law_808 (by omega) hn ?_
  refine V_aload_n (pc := 809) dL_law_809 rfl ?_
  refine V_iload_n (pc := 810) dL_law_810 rfl ?_
  refine V_iconst (pc := 811) (v := nI 3) dL_law_811 (by decide) ?_
  refine V_iaddN (pc := 812) dL_law_812 ?_
  refine V_sld (pc := 813) dL_law_813 (by omega) hn ?_
  refine V_callV (pc := 814) (ci := 12) (c_X12_hear h12b hm.2.2.2.1 hA) dL_law_814 mlL_105 mkX12_hear rfl rfl h12b.o ⟨by decide, rfl⟩ ⟨Nat.le_of_ble_eq_true rfl, Nat.le_of_ble_eq_true rfl⟩ (Nat.le_of_ble_eq_true rfl) ⟨by omega, by omega⟩ (fun r S' I' L' hp => ?_)
  obtain ⟨rfl, rfl, hM3, hF3⟩ := hp
  refine V_icmp_eq (pc := 817) (tgt := 1403) dL_law_817 (by decide) (fun c817 => ?_) (fun n817 => absurd n817 (by exact fun z => z rfl))
  exact V_wid (N _ _ _ _ (hm.cm hM3 hF3 (wf_hear hA _ _ _))) (by omega) (by omega)
theorem lw_forget (hI : INVL E B S I L A) (hi : i + 6 ≤ n) (hn : n ≤ 3072) (hcl : cl + 6 ≤ 600000) (hsl : sl + 974 ≤ 7302249) (N : ∀ S' I' L' A', INVL E B S' I' L' A' → VL E B b n xs (cl + 6) (sl + 974) S' I' L' 1403 i) : VL E B b n xs cl sl S I L 822 i := by
  have h11 := hI.1
  have h12 := hI.2.1
  have hA := hI.2.2.2.2.1
  have hRc : room_1.cells = 600000 := rfl
  have hRs : room_1.slots = 7302249 := rfl
  refine V_aload_n (pc := 822) dL_law_822 rfl ?_
  refine V_callV (pc := 823) (ci := 11) (c_X11_forget h11 hI.2.2.1 hA) dL_law_823 mlL_106 mkX11_forget rfl rfl h11.o ⟨by decide, rfl⟩ ⟨Nat.le_of_ble_eq_true rfl, Nat.le_of_ble_eq_true rfl⟩ (Nat.le_of_ble_eq_true rfl) ⟨by omega, by omega⟩ (fun r S' I' L' hp => ?_)
  obtain ⟨rfl, rfl, hR2, hF2⟩ := hp
  have hm := hI.cc hR2 hF2
  have h12b := hm.2.1
  refine V_aload_n (pc := 826) dL_law_826 rfl ?_
  refine V_callV (pc := 827) (ci := 12) (c_X12_forget h12b hm.2.2.2.1 hA) dL_law_827 mlL_109 mkX12_forget rfl rfl h12b.o ⟨by decide, rfl⟩ ⟨Nat.le_of_ble_eq_true rfl, Nat.le_of_ble_eq_true rfl⟩ (Nat.le_of_ble_eq_true rfl) ⟨by omega, by omega⟩ (fun r S' I' L' hp => ?_)
  obtain ⟨rfl, rfl, hM3, hF3⟩ := hp
  refine V_icmp_eq (pc := 830) (tgt := 1403) dL_law_830 (by decide) (fun c830 => ?_) (fun n830 => absurd n830 (by exact fun z => z rfl))
  exact V_wid (N _ _ _ _ (hm.cm hM3 hF3 (wf_forget hA))) (by omega) (by omega)
theorem lw_which (hI : INVL E B S I L A) (hi : i + 6 ≤ n) (hn : n ≤ 3072) (hcl : cl + 6 ≤ 600000) (hsl : sl + 974 ≤ 7302249) (N : ∀ S' I' L' A', INVL E B S' I' L' A' → VL E B b n xs (cl + 6) (sl + 974) S' I' L' 1403 i) : VL E B b n xs cl sl S I L 835 i := by
  have h11 := hI.1
  have h12 := hI.2.1
  have hA := hI.2.2.2.2.1
  have hRc : room_1.cells = 600000 := rfl
  have hRs : room_1.slots = 7302249 := rfl
  refine V_aload_n (pc := 835) dL_law_835 rfl ?_
  refine V_callV (pc := 836) (ci := 11) (c_X11_which h11 hI.2.2.1 hA) dL_law_836 mlL_110 mkX11_which rfl rfl h11.o ⟨by decide, rfl⟩ ⟨Nat.le_of_ble_eq_true rfl, Nat.le_of_ble_eq_true rfl⟩ (Nat.le_of_ble_eq_true rfl) ⟨by omega, by omega⟩ (fun r S' I' L' hp => ?_)
  obtain ⟨rfl, rfl, hR2, hF2⟩ := hp
  have hm := hI.cc hR2 hF2
  have h12b := hm.2.1
  refine V_aload_n (pc := 839) dL_law_839 rfl ?_
  refine V_callV (pc := 840) (ci := 12) (c_X12_which h12b hm.2.2.2.1 hA) dL_law_840 mlL_113 mkX12_which rfl rfl h12b.o ⟨by decide, rfl⟩ ⟨Nat.le_of_ble_eq_true rfl, Nat.le_of_ble_eq_true rfl⟩ (Nat.le_of_ble_eq_true rfl) ⟨by omega, by omega⟩ (fun r S' I' L' hp => ?_)
  obtain ⟨rfl, rfl, hM3, hF3⟩ := hp
  refine V_icmp_eq (pc := 843) (tgt := 1403) dL_law_843 (by decide) (fun c843 => ?_) (fun n843 => absurd n843 (by exact fun z => z rfl))
  exact V_wid (N _ _ _ _ (hm.cm hM3 hF3 hA)) (by omega) (by omega)
theorem lw_listen (hI : INVL E B S I L A) (hi : i + 6 ≤ n) (hn : n ≤ 3072) (hcl : cl + 6 ≤ 600000) (hsl : sl + 974 ≤ 7302249) (N : ∀ S' I' L' A', INVL E B S' I' L' A' → VL E B b n xs (cl + 6) (sl + 974) S' I' L' 1403 i) : VL E B b n xs cl sl S I L 848 i := by
  have h11 := hI.1
  have h12 := hI.2.1
  have hA := hI.2.2.2.2.1
  have hRc : room_1.cells = 600000 := rfl
  have hRs : room_1.slots = 7302249 := rfl
  refine V_aload_n (pc := 848) dL_law_848 rfl ?_
  refine V_aload_n (pc := 849) dL_law_849 rfl ?_
  refine V_iload_n (pc := 850) dL_law_850 rfl ?_
  refine V_iconst (pc := 851) (v := nI 1) dL_law_851 (by decide) ?_
  refine V_iaddN (pc := 852) dL_law_852 ?_
  refine V_sld (pc := 853) dL_law_853 (by omega) hn ?_
  refine V_callV (pc := 854) (ci := 11) (c_X11_listen h11 hI.2.2.1 hA) dL_law_854 mlL_114 mkX11_listen rfl rfl h11.o ⟨by decide, rfl⟩ ⟨Nat.le_of_ble_eq_true rfl, Nat.le_of_ble_eq_true rfl⟩ (Nat.le_of_ble_eq_true rfl) ⟨by omega, by omega⟩ (fun r S' I' L' hp => ?_)
  obtain ⟨rfl, rfl, hR2, hF2⟩ := hp
  have hm := hI.cc hR2 hF2
  have h12b := hm.2.1
  refine V_aload_n (pc := 857) dL_law_857 rfl ?_
  refine V_aload_n (pc := 858) dL_law_858 rfl ?_
  refine V_iload_n (pc := 859) dL_law_859 rfl ?_
  refine V_iconst (pc := 860) (v := nI 1) dL_law_860 (by decide) ?_
  refine V_iaddN (pc := 861) dL_law_861 ?_
  refine V_sld (pc := 862) dL_law_862 (by omega) hn ?_
  refine V_callV (pc := 863) (ci := 12) (c_X12_listen h12b hm.2.2.2.1 hA) dL_law_863 mlL_117 mkX12_listen rfl rfl h12b.o ⟨by decide, rfl⟩ ⟨Nat.le_of_ble_eq_true rfl, Nat.le_of_ble_eq_true rfl⟩ (Nat.le_of_ble_eq_true rfl) ⟨by omega, by omega⟩ (fun r S' I' L' hp => ?_)
  obtain ⟨rfl, rfl, hM3, hF3⟩ := hp
  refine V_icmp_eq (pc := 866) (tgt := 1403) dL_law_866 (by decide) (fun c866 => ?_) (fun n866 => absurd n866 (by exact fun z => z rfl))
  exact V_wid (N _ _ _ _ (hm.cm hM3 hF3 hA)) (by omega) (by omega)
theorem lw_steady (hI : INVL E B S I L A) (hi : i + 6 ≤ n) (hn : n ≤ 3072) (hcl : cl + 6 ≤ 600000) (hsl : sl + 974 ≤ 7302249) (N : ∀ S' I' L' A', INVL E B S' I' L' A' → VL E B b n xs (cl + 6) (sl + 974) S' I' L' 1403 i) : VL E B b n xs cl sl S I L 871 i := by
  have h11 := hI.1
  have h12 := hI.2.1
  have hA := hI.2.2.2.2.1
  have hRc : room_1.cells = 600000 := rfl
  have hRs : room_1.slots = 7302249 := rfl
  refine V_aload_n (pc := 871) dL_law_871 rfl ?_
  refine V_aload_n (pc := 872) dL_law_872 rfl ?_
  refine V_iload_n (pc := 873) dL_law_873 rfl ?_
  refine V_iconst (pc := 874) (v := nI 1) dL_law_874 (by decide) ?_
  refine V_iaddN (pc := 875) dL_law_875 ?_
  refine V_sld (pc := 876) dL_law_876 (by omega) hn ?_
  refine V_callV (pc := 877) (ci := 11) (c_X11_steady h11 hI.2.2.1 hA) dL_law_877 mlL_118 mkX11_steady rfl rfl h11.o ⟨by decide, rfl⟩ ⟨Nat.le_of_ble_eq_true rfl, Nat.le_of_ble_eq_true rfl⟩ (Nat.le_of_ble_eq_true rfl) ⟨by omega, by omega⟩ (fun r S' I' L' hp => ?_)
  obtain ⟨rfl, rfl, hR2, hF2⟩ := hp
  have hm := hI.cc hR2 hF2
  have h12b := hm.2.1
  refine V_aload_n (pc := 880) dL_law_880 rfl ?_
  refine V_aload_n (pc := 881) dL_law_881 rfl ?_
  refine V_iload_n (pc := 882) dL_law_882 rfl ?_
  refine V_iconst (pc := 883) (v := nI 1) dL_law_883 (by decide) ?_
  refine V_iaddN (pc := 884) dL_law_884 ?_
  refine V_sld (pc := 885) dL_law_885 (by omega) hn ?_
  refine V_callV (pc := 886) (ci := 12) (c_X12_steady h12b hm.2.2.2.1 hA) dL_law_886 mlL_121 mkX12_steady rfl rfl h12b.o ⟨by decide, rfl⟩ ⟨Nat.le_of_ble_eq_true rfl, Nat.le_of_ble_eq_true rfl⟩ (Nat.le_of_ble_eq_true rfl) ⟨by omega, by omega⟩ (fun r S' I' L' hp => ?_)
  obtain ⟨rfl, rfl, hM3, hF3⟩ := hp
  refine V_icmp_eq (pc := 889) (tgt := 1403) dL_law_889 (by decide) (fun c889 => ?_) (fun n889 => absurd n889 (by exact fun z => z rfl))
  exact V_wid (N _ _ _ _ (hm.cm hM3 hF3 hA)) (by omega) (by omega)
theorem lw_about (hI : INVL E B S I L A) (hi : i + 6 ≤ n) (hn : n ≤ 3072) (hcl : cl + 6 ≤ 600000) (hsl : sl + 974 ≤ 7302249) (N : ∀ S' I' L' A', INVL E B S' I' L' A' → VL E B b n xs (cl + 6) (sl + 974) S' I' L' 1403 i) : VL E B b n xs cl sl S I L 894 i := by
  have h11 := hI.1
  have h12 := hI.2.1
  have hA := hI.2.2.2.2.1
  have hRc : room_1.cells = 600000 := rfl
  have hRs : room_1.slots = 7302249 := rfl
  refine V_aload_n (pc := 894) dL_law_894 rfl ?_
  refine V_aload_n (pc := 895) dL_law_895 rfl ?_
  refine V_iload_n (pc := 896) dL_law_896 rfl ?_
  refine V_iconst (pc := 897) (v := nI 1) dL_law_897 (by decide) ?_
  refine V_iaddN (pc := 898) dL_law_898 ?_
  refine V_sld (pc := 899) dL_law_899 (by omega) hn ?_
  refine V_aload_n (pc := 900) dL_law_900 rfl ?_
  refine V_iload_n (pc := 901) dL_law_901 rfl ?_
  refine V_iconst (pc := 902) (v := nI 2) dL_law_902 (by decide) ?_
  refine V_iaddN (pc := 903) dL_law_903 ?_
  refine V_sld (pc := 904) dL_law_904 (by omega) hn ?_
  refine V_callV (pc := 905) (ci := 11) (c_X11_about h11 hI.2.2.1 hA) dL_law_905 mlL_122 mkX11_about rfl rfl h11.o ⟨by decide, rfl⟩ ⟨Nat.le_of_ble_eq_true rfl, Nat.le_of_ble_eq_true rfl⟩ (Nat.le_of_ble_eq_true rfl) ⟨by omega, by omega⟩ (fun r S' I' L' hp => ?_)
  obtain ⟨rfl, rfl, hR2, hF2⟩ := hp
  have hm := hI.cc hR2 hF2
  have h12b := hm.2.1
  refine V_aload_n (pc := 908) dL_law_908 rfl ?_
  refine V_aload_n (pc := 909) dL_law_909 rfl ?_
  refine V_iload_n (pc := 910) dL_law_910 rfl ?_
  refine V_iconst (pc := 911) (v := nI 1) dL_law_911 (by decide) ?_
  refine V_iaddN (pc := 912) dL_law_912 ?_
  refine V_sld (pc := 913) dL_law_913 (by omega) hn ?_
  refine V_aload_n (pc := 914) dL_law_914 rfl ?_
  refine V_iload_n (pc := 915) dL_law_915 rfl ?_
  refine V_iconst (pc := 916) (v := nI 2) dL_law_916 (by decide) ?_
  refine V_iaddN (pc := 917) dL_law_917 ?_
  refine V_sld (pc := 918) dL_law_918 (by omega) hn ?_
  refine V_callV (pc := 919) (ci := 12) (c_X12_about h12b hm.2.2.2.1 hA) dL_law_919 mlL_125 mkX12_about rfl rfl h12b.o ⟨by decide, rfl⟩ ⟨Nat.le_of_ble_eq_true rfl, Nat.le_of_ble_eq_true rfl⟩ (Nat.le_of_ble_eq_true rfl) ⟨by omega, by omega⟩ (fun r S' I' L' hp => ?_)
  obtain ⟨rfl, rfl, hM3, hF3⟩ := hp
  refine V_icmp_eq (pc := 922) (tgt := 1403) dL_law_922 (by decide) (fun c922 => ?_) (fun n922 => absurd n922 (by exact fun z => z rfl))
  exact V_wid (N _ _ _ _ (hm.cm hM3 hF3 hA)) (by omega) (by omega)
theorem lw_keep (hI : INVL E B S I L A) (hi : i + 6 ≤ n) (hn : n ≤ 3072) (hcl : cl + 6 ≤ 600000) (hsl : sl + 974 ≤ 7302249) (N : ∀ S' I' L' A', INVL E B S' I' L' A' → VL E B b n xs (cl + 6) (sl + 974) S' I' L' 1403 i) : VL E B b n xs cl sl S I L 927 i := by
  have h11 := hI.1
  have h12 := hI.2.1
  have hA := hI.2.2.2.2.1
  have hRc : room_1.cells = 600000 := rfl
  have hRs : room_1.slots = 7302249 := rfl
  refine V_aload_n (pc := 927) dL_law_927 rfl ?_
  refine V_aload_n (pc := 928) dL_law_928 rfl ?_
  refine V_iload_n (pc := 929) dL_law_929 rfl ?_
  refine V_iconst (pc := 930) (v := nI 1) dL_law_930 (by decide) ?_
  refine V_iaddN (pc := 931) dL_law_931 ?_
  refine V_sld (pc := 932) dL_law_932 (by omega) hn ?_
  refine V_aload_n (pc := 933) dL_law_933 rfl ?_
  refine V_iload_n (pc := 934) dL_law_934 rfl ?_
  refine V_iconst (pc := 935) (v := nI 2) dL_law_935 (by decide) ?_
  refine V_iaddN (pc := 936) dL_law_936 ?_
  refine V_sld (pc := 937) dL_law_937 (by omega) hn ?_
  refine V_aload_n (pc := 938) dL_law_938 rfl ?_
  refine V_iload_n (pc := 939) dL_law_939 rfl ?_
  refine V_iconst (pc := 940) (v := nI 3) dL_law_940 (by decide) ?_
  refine V_iaddN (pc := 941) dL_law_941 ?_
  refine V_sld (pc := 942) dL_law_942 (by omega) hn ?_
  refine V_callV (pc := 943) (ci := 11) (c_X11_keep h11 hI.2.2.1 hA) dL_law_943 mlL_126 mkX11_keep rfl rfl h11.o ⟨by decide, rfl⟩ ⟨Nat.le_of_ble_eq_true rfl, Nat.le_of_ble_eq_true rfl⟩ (Nat.le_of_ble_eq_true rfl) ⟨by omega, by omega⟩ (fun r S' I' L' hp => ?_)
  obtain ⟨rfl, rfl, hR2, hF2⟩ := hp
  have hm := hI.cc hR2 hF2
  have h12b := hm.2.1
  refine V_aload_n (pc := 946) dL_law_946 rfl ?_
  refine V_aload_n (pc := 947) dL_law_947 rfl ?_
  refine V_iload_n (pc := 948) dL_law_948 rfl ?_
  refine V_iconst (pc := 949) (v := nI 1) dL_law_949 (by decide) ?_
  refine V_iaddN (pc := 950) dL_law_950 ?_
  refine V_sld (pc := 951) dL_law_951 (by omega) hn ?_
  refine V_aload_n (pc := 952) dL_law_952 rfl ?_
  refine V_iload_n (pc := 953) dL_law_953 rfl ?_
  refine V_iconst (pc := 954) (v := nI 2) dL_law_954 (by decide) ?_
  refine V_iaddN (pc := 955) dL_law_955 ?_
  refine V_sld (pc := 956) dL_law_956 (by omega) hn ?_
  refine V_aload_n (pc := 957) dL_law_957 rfl ?_
  refine V_iload_n (pc := 958) dL_law_958 rfl ?_
  refine V_iconst (pc := 959) (v := nI 3) dL_law_959 (by decide) ?_
  refine V_iaddN (pc := 960) dL_law_960 ?_
  refine V_sld (pc := 961) dL_law_961 (by omega) hn ?_
  refine V_callV (pc := 962) (ci := 12) (c_X12_keep h12b hm.2.2.2.1 hA) dL_law_962 mlL_129 mkX12_keep rfl rfl h12b.o ⟨by decide, rfl⟩ ⟨Nat.le_of_ble_eq_true rfl, Nat.le_of_ble_eq_true rfl⟩ (Nat.le_of_ble_eq_true rfl) ⟨by omega, by omega⟩ (fun r S' I' L' hp => ?_)
  obtain ⟨rfl, rfl, hM3, hF3⟩ := hp
  refine V_icmp_eq (pc := 965) (tgt := 1403) dL_law_965 (by decide) (fun c965 => ?_) (fun n965 => absurd n965 (by exact fun z => z rfl))
  exact V_wid (N _ _ _ _ (hm.cm hM3 hF3 hA)) (by omega) (by omega)
theorem lw_clash (hI : INVL E B S I L A) (hi : i + 6 ≤ n) (hn : n ≤ 3072) (hcl : cl + 6 ≤ 600000) (hsl : sl + 974 ≤ 7302249) (N : ∀ S' I' L' A', INVL E B S' I' L' A' → VL E B b n xs (cl + 6) (sl + 974) S' I' L' 1403 i) : VL E B b n xs cl sl S I L 970 i := by
  have h11 := hI.1
  have h12 := hI.2.1
  have hA := hI.2.2.2.2.1
  have hRc : room_1.cells = 600000 := rfl
  have hRs : room_1.slots = 7302249 := rfl
  refine V_aload_n (pc := 970) dL_law_970 rfl ?_
  refine V_aload_n (pc := 971) dL_law_971 rfl ?_
  refine V_iload_n (pc := 972) dL_law_972 rfl ?_
  refine V_iconst (pc := 973) (v := nI 1) dL_law_973 (by decide) ?_
  refine V_iaddN (pc := 974) dL_law_974 ?_
  refine V_sld (pc := 975) dL_law_975 (by omega) hn ?_
  refine V_aload_n (pc := 976) dL_law_976 rfl ?_
  refine V_iload_n (pc := 977) dL_law_977 rfl ?_
  refine V_iconst (pc := 978) (v := nI 2) dL_law_978 (by decide) ?_
  refine V_iaddN (pc := 979) dL_law_979 ?_
  refine V_sld (pc := 980) dL_law_980 (by omega) hn ?_
  refine V_aload_n (pc := 981) dL_law_981 rfl ?_
  refine V_iload_n (pc := 982) dL_law_982 rfl ?_
  refine V_iconst (pc := 983) (v := nI 3) dL_law_983 (by decide) ?_
  refine V_iaddN (pc := 984) dL_law_984 ?_
  refine V_sld (pc := 985) dL_law_985 (by omega) hn ?_
  refine V_callV (pc := 986) (ci := 11) (c_X11_clash h11 hI.2.2.1 hA) dL_law_986 mlL_130 mkX11_clash rfl rfl h11.o ⟨by decide, rfl⟩ ⟨Nat.le_of_ble_eq_true rfl, Nat.le_of_ble_eq_true rfl⟩ (Nat.le_of_ble_eq_true rfl) ⟨by omega, by omega⟩ (fun r S' I' L' hp => ?_)
  obtain ⟨rfl, rfl, hR2, hF2⟩ := hp
  have hm := hI.cc hR2 hF2
  have h12b := hm.2.1
  refine V_aload_n (pc := 989) dL_law_989 rfl ?_
  refine V_aload_n (pc := 990) dL_law_990 rfl ?_
  refine V_iload_n (pc := 991) dL_law_991 rfl ?_
  refine V_iconst (pc := 992) (v := nI 1) dL_law_992 (by decide) ?_
  refine V_iaddN (pc := 993) dL_law_993 ?_
  refine V_sld (pc := 994) dL_law_994 (by omega) hn ?_
  refine V_aload_n (pc := 995) dL_law_995 rfl ?_
  refine V_iload_n (pc := 996) dL_law_996 rfl ?_
  refine V_iconst (pc := 997) (v := nI 2) dL_law_997 (by decide) ?_
  refine V_iaddN (pc := 998) dL_law_998 ?_
  refine V_sld (pc := 999) dL_law_999 (by omega) hn ?_
  refine V_aload_n (pc := 1000) dL_law_1000 rfl ?_
  refine V_iload_n (pc := 1001) dL_law_1001 rfl ?_
  refine V_iconst (pc := 1002) (v := nI 3) dL_law_1002 (by decide) ?_
  refine V_iaddN (pc := 1003) dL_law_1003 ?_
  refine V_sld (pc := 1004) dL_law_1004 (by omega) hn ?_
  refine V_callV (pc := 1005) (ci := 12) (c_X12_clash h12b hm.2.2.2.1 hA) dL_law_1005 mlL_133 mkX12_clash rfl rfl h12b.o ⟨by decide, rfl⟩ ⟨Nat.le_of_ble_eq_true rfl, Nat.le_of_ble_eq_true rfl⟩ (Nat.le_of_ble_eq_true rfl) ⟨by omega, by omega⟩ (fun r S' I' L' hp => ?_)
  obtain ⟨rfl, rfl, hM3, hF3⟩ := hp
  refine V_icmp_eq (pc := 1008) (tgt := 1403) dL_law_1008 (by decide) (fun c1008 => ?_) (fun n1008 => absurd n1008 (by exact fun z => z rfl))
  exact V_wid (N _ _ _ _ (hm.cm hM3 hF3 hA)) (by omega) (by omega)
theorem lw_best (hI : INVL E B S I L A) (hi : i + 6 ≤ n) (hn : n ≤ 3072) (hcl : cl + 6 ≤ 600000) (hsl : sl + 974 ≤ 7302249) (N : ∀ S' I' L' A', INVL E B S' I' L' A' → VL E B b n xs (cl + 6) (sl + 974) S' I' L' 1403 i) : VL E B b n xs cl sl S I L 1013 i := by
  have h11 := hI.1
  have h12 := hI.2.1
  have hA := hI.2.2.2.2.1
  have hRc : room_1.cells = 600000 := rfl
  have hRs : room_1.slots = 7302249 := rfl
  refine V_aload_n (pc := 1013) dL_law_1013 rfl ?_
  refine V_aload_n (pc := 1014) dL_law_1014 rfl ?_
  refine V_iload_n (pc := 1015) dL_law_1015 rfl ?_
  refine V_iconst (pc := 1016) (v := nI 1) dL_law_1016 (by decide) ?_
  refine V_iaddN (pc := 1017) dL_law_1017 ?_
  refine V_sld (pc := 1018) dL_law_1018 (by omega) hn ?_
  refine V_aload_n (pc := 1019) dL_law_1019 rfl ?_
  refine V_iload_n (pc := 1020) dL_law_1020 rfl ?_
  refine V_iconst (pc := 1021) (v := nI 2) dL_law_1021 (by decide) ?_
  refine V_iaddN (pc := 1022) dL_law_1022 ?_
  refine V_sld (pc := 1023) dL_law_1023 (by omega) hn ?_
  refine V_aload_n (pc := 1024) dL_law_1024 rfl ?_
  refine V_iload_n (pc := 1025) dL_law_1025 rfl ?_
  refine V_iconst (pc := 1026) (v := nI 3) dL_law_1026 (by decide) ?_
  refine V_iaddN (pc := 1027) dL_law_1027 ?_
  refine V_sld (pc := 1028) dL_law_1028 (by omega) hn ?_
  refine V_callV (pc := 1029) (ci := 11) (c_X11_best h11 hI.2.2.1 hA) dL_law_1029 mlL_134 mkX11_best rfl rfl h11.o ⟨by decide, rfl⟩ ⟨Nat.le_of_ble_eq_true rfl, Nat.le_of_ble_eq_true rfl⟩ (Nat.le_of_ble_eq_true rfl) ⟨by omega, by omega⟩ (fun r S' I' L' hp => ?_)
  obtain ⟨rfl, rfl, hR2, hF2⟩ := hp
  have hm := hI.cc hR2 hF2
  have h12b := hm.2.1
  refine V_aload_n (pc := 1032) dL_law_1032 rfl ?_
  refine V_aload_n (pc := 1033) dL_law_1033 rfl ?_
  refine V_iload_n (pc := 1034) dL_law_1034 rfl ?_
  refine V_iconst (pc := 1035) (v := nI 1) dL_law_1035 (by decide) ?_
  refine V_iaddN (pc := 1036) dL_law_1036 ?_
  refine V_sld (pc := 1037) dL_law_1037 (by omega) hn ?_
  refine V_aload_n (pc := 1038) dL_law_1038 rfl ?_
  refine V_iload_n (pc := 1039) dL_law_1039 rfl ?_
  refine V_iconst (pc := 1040) (v := nI 2) dL_law_1040 (by decide) ?_
  refine V_iaddN (pc := 1041) dL_law_1041 ?_
  refine V_sld (pc := 1042) dL_law_1042 (by omega) hn ?_
  refine V_aload_n (pc := 1043) dL_law_1043 rfl ?_
  refine V_iload_n (pc := 1044) dL_law_1044 rfl ?_
  refine V_iconst (pc := 1045) (v := nI 3) dL_law_1045 (by decide) ?_
  refine V_iaddN (pc := 1046) dL_law_1046 ?_
  refine V_sld (pc := 1047) dL_law_1047 (by omega) hn ?_
  refine V_callV (pc := 1048) (ci := 12) (c_X12_best h12b hm.2.2.2.1 hA) dL_law_1048 mlL_137 mkX12_best rfl rfl h12b.o ⟨by decide, rfl⟩ ⟨Nat.le_of_ble_eq_true rfl, Nat.le_of_ble_eq_true rfl⟩ (Nat.le_of_ble_eq_true rfl) ⟨by omega, by omega⟩ (fun r S' I' L' hp => ?_)
  obtain ⟨rfl, rfl, hM3, hF3⟩ := hp
  refine V_icmp_eq (pc := 1051) (tgt := 1403) dL_law_1051 (by decide) (fun c1051 => ?_) (fun n1051 => absurd n1051 (by exact fun z => z rfl))
  exact V_wid (N _ _ _ _ (hm.cm hM3 hF3 hA)) (by omega) (by omega)
theorem lw_filed (hI : INVL E B S I L A) (hi : i + 6 ≤ n) (hn : n ≤ 3072) (hcl : cl + 6 ≤ 600000) (hsl : sl + 974 ≤ 7302249) (N : ∀ S' I' L' A', INVL E B S' I' L' A' → VL E B b n xs (cl + 6) (sl + 974) S' I' L' 1403 i) : VL E B b n xs cl sl S I L 1056 i := by
  have h11 := hI.1
  have h12 := hI.2.1
  have hA := hI.2.2.2.2.1
  have hRc : room_1.cells = 600000 := rfl
  have hRs : room_1.slots = 7302249 := rfl
  refine V_aload_n (pc := 1056) dL_law_1056 rfl ?_
  refine V_aload_n (pc := 1057) dL_law_1057 rfl ?_
  refine V_iload_n (pc := 1058) dL_law_1058 rfl ?_
  refine V_iconst (pc := 1059) (v := nI 1) dL_law_1059 (by decide) ?_
  refine V_iaddN (pc := 1060) dL_law_1060 ?_
  refine V_sld (pc := 1061) dL_law_1061 (by omega) hn ?_
  refine V_aload_n (pc := 1062) dL_law_1062 rfl ?_
  refine V_iload_n (pc := 1063) dL_law_1063 rfl ?_
  refine V_iconst (pc := 1064) (v := nI 2) dL_law_1064 (by decide) ?_
  refine V_iaddN (pc := 1065) dL_law_1065 ?_
  refine V_sld (pc := 1066) dL_law_1066 (by omega) hn ?_
  refine V_aload_n (pc := 1067) dL_law_1067 rfl ?_
  refine V_iload_n (pc := 1068) dL_law_1068 rfl ?_
  refine V_iconst (pc := 1069) (v := nI 3) dL_law_1069 (by decide) ?_
  refine V_iaddN (pc := 1070) dL_law_1070 ?_
  refine V_sld (pc := 1071) dL_law_1071 (by omega) hn ?_
  refine V_aload_n (pc := 1072) dL_law_1072 rfl ?_
  refine V_iload_n (pc := 1073) dL_law_1073 rfl ?_
  refine V_iconst (pc := 1074) (v := nI 4) dL_law_1074 (by decide) ?_
  refine V_iaddN (pc := 1075) dL_law_1075 ?_
  refine V_sld (pc := 1076) dL_law_1076 (by omega) hn ?_
  refine V_callV (pc := 1077) (ci := 11) (c_X11_filed h11 hI.2.2.1 hA) dL_law_1077 mlL_138 mkX11_filed rfl rfl h11.o ⟨by decide, rfl⟩ ⟨Nat.le_of_ble_eq_true rfl, Nat.le_of_ble_eq_true rfl⟩ (Nat.le_of_ble_eq_true rfl) ⟨by omega, by omega⟩ (fun r S' I' L' hp => ?_)
  obtain ⟨rfl, rfl, hR2, hF2⟩ := hp
  have hm := hI.cc hR2 hF2
  have h12b := hm.2.1
  refine V_aload_n (pc := 1080) dL_law_1080 rfl ?_
  refine V_aload_n (pc := 1081) dL_law_1081 rfl ?_
  refine V_iload_n (pc := 1082) dL_law_1082 rfl ?_
  refine V_iconst (pc := 1083) (v := nI 1) dL_law_1083 (by decide) ?_
  refine V_iaddN (pc := 1084) dL_law_1084 ?_
  refine V_sld (pc := 1085) dL_law_1085 (by omega) hn ?_
  refine V_aload_n (pc := 1086) dL_law_1086 rfl ?_
  refine V_iload_n (pc := 1087) dL_law_1087 rfl ?_
  refine V_iconst (pc := 1088) (v := nI 2) dL_law_1088 (by decide) ?_
  refine V_iaddN (pc := 1089) dL_law_1089 ?_
  refine V_sld (pc := 1090) dL_law_1090 (by omega) hn ?_
  refine V_aload_n (pc := 1091) dL_law_1091 rfl ?_
  refine V_iload_n (pc := 1092) dL_law_1092 rfl ?_
  refine V_iconst (pc := 1093) (v := nI 3) dL_law_1093 (by decide) ?_
  refine V_iaddN (pc := 1094) dL_law_1094 ?_
  refine V_sld (pc := 1095) dL_law_1095 (by omega) hn ?_
  refine V_aload_n (pc := 1096) dL_law_1096 rfl ?_
  refine V_iload_n (pc := 1097) dL_law_1097 rfl ?_
  refine V_iconst (pc := 1098) (v := nI 4) dL_law_1098 (by decide) ?_
  refine V_iaddN (pc := 1099) dL_law_1099 ?_
  refine V_sld (pc := 1100) dL_law_1100 (by omega) hn ?_
  refine V_callV (pc := 1101) (ci := 12) (c_X12_filed h12b hm.2.2.2.1 hA) dL_law_1101 mlL_142 mkX12_filed rfl rfl h12b.o ⟨by decide, rfl⟩ ⟨Nat.le_of_ble_eq_true rfl, Nat.le_of_ble_eq_true rfl⟩ (Nat.le_of_ble_eq_true rfl) ⟨by omega, by omega⟩ (fun r S' I' L' hp => ?_)
  obtain ⟨rfl, rfl, hM3, hF3⟩ := hp
  refine V_icmp_eq (pc := 1104) (tgt := 1403) dL_law_1104 (by decide) (fun c1104 => ?_) (fun n1104 => absurd n1104 (by exact fun z => z rfl))
  exact V_wid (N _ _ _ _ (hm.cm hM3 hF3 hA)) (by omega) (by omega)
theorem lw_shares (hI : INVL E B S I L A) (hi : i + 6 ≤ n) (hn : n ≤ 3072) (hcl : cl + 6 ≤ 600000) (hsl : sl + 974 ≤ 7302249) (N : ∀ S' I' L' A', INVL E B S' I' L' A' → VL E B b n xs (cl + 6) (sl + 974) S' I' L' 1403 i) : VL E B b n xs cl sl S I L 1109 i := by
  have h11 := hI.1
  have h12 := hI.2.1
  have hA := hI.2.2.2.2.1
  have hRc : room_1.cells = 600000 := rfl
  have hRs : room_1.slots = 7302249 := rfl
  refine V_aload_n (pc := 1109) dL_law_1109 rfl ?_
  refine V_aload_n (pc := 1110) dL_law_1110 rfl ?_
  refine V_iload_n (pc := 1111) dL_law_1111 rfl ?_
  refine V_iconst (pc := 1112) (v := nI 1) dL_law_1112 (by decide) ?_
  refine V_iaddN (pc := 1113) dL_law_1113 ?_
  refine V_sld (pc := 1114) dL_law_1114 (by omega) hn ?_
  refine V_aload_n (pc := 1115) dL_law_1115 rfl ?_
  refine V_iload_n (pc := 1116) dL_law_1116 rfl ?_
  refine V_iconst (pc := 1117) (v := nI 2) dL_law_1117 (by decide) ?_
  refine V_iaddN (pc := 1118) dL_law_1118 ?_
  refine V_sld (pc := 1119) dL_law_1119 (by omega) hn ?_
  refine V_callV (pc := 1120) (ci := 11) (c_X11_shares h11 hI.2.2.1 hA) dL_law_1120 mlL_143 mkX11_shares rfl rfl h11.o ⟨by decide, rfl⟩ ⟨Nat.le_of_ble_eq_true rfl, Nat.le_of_ble_eq_true rfl⟩ (Nat.le_of_ble_eq_true rfl) ⟨by omega, by omega⟩ (fun r S' I' L' hp => ?_)
  obtain ⟨rfl, rfl, hR2, hF2⟩ := hp
  have hm := hI.cc hR2 hF2
  have h12b := hm.2.1
  refine V_aload_n (pc := 1123) dL_law_1123 rfl ?_
  refine V_aload_n (pc := 1124) dL_law_1124 rfl ?_
  refine V_iload_n (pc := 1125) dL_law_1125 rfl ?_
  refine V_iconst (pc := 1126) (v := nI 1) dL_law_1126 (by decide) ?_
  refine V_iaddN (pc := 1127) dL_law_1127 ?_
  refine V_sld (pc := 1128) dL_law_1128 (by omega) hn ?_
  refine V_aload_n (pc := 1129) dL_law_1129 rfl ?_
  refine V_iload_n (pc := 1130) dL_law_1130 rfl ?_
  refine V_iconst (pc := 1131) (v := nI 2) dL_law_1131 (by decide) ?_
  refine V_iaddN (pc := 1132) dL_law_1132 ?_
  refine V_sld (pc := 1133) dL_law_1133 (by omega) hn ?_
  refine V_callV (pc := 1134) (ci := 12) (c_X12_shares h12b hm.2.2.2.1 hA) dL_law_1134 mlL_146 mkX12_shares rfl rfl h12b.o ⟨by decide, rfl⟩ ⟨Nat.le_of_ble_eq_true rfl, Nat.le_of_ble_eq_true rfl⟩ (Nat.le_of_ble_eq_true rfl) ⟨by omega, by omega⟩ (fun r S' I' L' hp => ?_)
  obtain ⟨rfl, rfl, hM3, hF3⟩ := hp
  refine V_icmp_eq (pc := 1137) (tgt := 1403) dL_law_1137 (by decide) (fun c1137 => ?_) (fun n1137 => absurd n1137 (by exact fun z => z rfl))
  exact V_wid (N _ _ _ _ (hm.cm hM3 hF3 hA)) (by omega) (by omega)
theorem lw_again (hI : INVL E B S I L A) (hi : i + 6 ≤ n) (hn : n ≤ 3072) (hcl : cl + 6 ≤ 600000) (hsl : sl + 974 ≤ 7302249) (N : ∀ S' I' L' A', INVL E B S' I' L' A' → VL E B b n xs (cl + 6) (sl + 974) S' I' L' 1403 i) : VL E B b n xs cl sl S I L 1142 i := by
  have h11 := hI.1
  have h12 := hI.2.1
  have hA := hI.2.2.2.2.1
  have hRc : room_1.cells = 600000 := rfl
  have hRs : room_1.slots = 7302249 := rfl
  refine V_aload_n (pc := 1142) dL_law_1142 rfl ?_
  refine V_aload_n (pc := 1143) dL_law_1143 rfl ?_
  refine V_iload_n (pc := 1144) dL_law_1144 rfl ?_
  refine V_iconst (pc := 1145) (v := nI 1) dL_law_1145 (by decide) ?_
  refine V_iaddN (pc := 1146) dL_law_1146 ?_
  refine V_sld (pc := 1147) dL_law_1147 (by omega) hn ?_
  refine V_aload_n (pc := 1148) dL_law_1148 rfl ?_
  refine V_iload_n (pc := 1149) dL_law_1149 rfl ?_
  refine V_iconst (pc := 1150) (v := nI 2) dL_law_1150 (by decide) ?_
  refine V_iaddN (pc := 1151) dL_law_1151 ?_
  refine V_sld (pc := 1152) dL_law_1152 (by omega) hn ?_
  refine V_callV (pc := 1153) (ci := 11) (c_X11_again h11 hI.2.2.1 hA) dL_law_1153 mlL_147 mkX11_again rfl rfl h11.o ⟨by decide, rfl⟩ ⟨Nat.le_of_ble_eq_true rfl, Nat.le_of_ble_eq_true rfl⟩ (Nat.le_of_ble_eq_true rfl) ⟨by omega, by omega⟩ (fun r S' I' L' hp => ?_)
  obtain ⟨rfl, rfl, hR2, hF2⟩ := hp
  have hm := hI.cc hR2 hF2
  have h12b := hm.2.1
  refine V_aload_n (pc := 1156) dL_law_1156 rfl ?_
  refine V_aload_n (pc := 1157) dL_law_1157 rfl ?_
  refine V_iload_n (pc := 1158) dL_law_1158 rfl ?_
  refine V_iconst (pc := 1159) (v := nI 1) dL_law_1159 (by decide) ?_
  refine V_iaddN (pc := 1160) dL_law_1160 ?_
  refine V_sld (pc := 1161) dL_law_1161 (by omega) hn ?_
  refine V_aload_n (pc := 1162) dL_law_1162 rfl ?_
  refine V_iload_n (pc := 1163) dL_law_1163 rfl ?_
  refine V_iconst (pc := 1164) (v := nI 2) dL_law_1164 (by decide) ?_
  refine V_iaddN (pc := 1165) dL_law_1165 ?_
  refine V_sld (pc := 1166) dL_law_1166 (by omega) hn ?_
  refine V_callV (pc := 1167) (ci := 12) (c_X12_again h12b hm.2.2.2.1 hA) dL_law_1167 mlL_150 mkX12_again rfl rfl h12b.o ⟨by decide, rfl⟩ ⟨Nat.le_of_ble_eq_true rfl, Nat.le_of_ble_eq_true rfl⟩ (Nat.le_of_ble_eq_true rfl) ⟨by omega, by omega⟩ (fun r S' I' L' hp => ?_)
  obtain ⟨rfl, rfl, hM3, hF3⟩ := hp
  refine V_icmp_eq (pc := 1170) (tgt := 1403) dL_law_1170 (by decide) (fun c1170 => ?_) (fun n1170 => absurd n1170 (by exact fun z => z rfl))
  exact V_wid (N _ _ _ _ (hm.cm hM3 hF3 hA)) (by omega) (by omega)
theorem lw_ends (hI : INVL E B S I L A) (hi : i + 6 ≤ n) (hn : n ≤ 3072) (hcl : cl + 6 ≤ 600000) (hsl : sl + 974 ≤ 7302249) (N : ∀ S' I' L' A', INVL E B S' I' L' A' → VL E B b n xs (cl + 6) (sl + 974) S' I' L' 1403 i) : VL E B b n xs cl sl S I L 1175 i := by
  have h11 := hI.1
  have h12 := hI.2.1
  have hA := hI.2.2.2.2.1
  have hRc : room_1.cells = 600000 := rfl
  have hRs : room_1.slots = 7302249 := rfl
  refine V_aload_n (pc := 1175) dL_law_1175 rfl ?_
  refine V_aload_n (pc := 1176) dL_law_1176 rfl ?_
  refine V_iload_n (pc := 1177) dL_law_1177 rfl ?_
  refine V_iconst (pc := 1178) (v := nI 1) dL_law_1178 (by decide) ?_
  refine V_iaddN (pc := 1179) dL_law_1179 ?_
  refine V_sld (pc := 1180) dL_law_1180 (by omega) hn ?_
  refine V_callV (pc := 1181) (ci := 11) (c_X11_ends h11 hI.2.2.1 hA) dL_law_1181 mlL_151 mkX11_ends rfl rfl h11.o ⟨by decide, rfl⟩ ⟨Nat.le_of_ble_eq_true rfl, Nat.le_of_ble_eq_true rfl⟩ (Nat.le_of_ble_eq_true rfl) ⟨by omega, by omega⟩ (fun r S' I' L' hp => ?_)
  obtain ⟨rfl, rfl, hR2, hF2⟩ := hp
  have hm := hI.cc hR2 hF2
  have h12b := hm.2.1
  refine V_aload_n (pc := 1184) dL_law_1184 rfl ?_
  refine V_aload_n (pc := 1185) dL_law_1185 rfl ?_
  refine V_iload_n (pc := 1186) dL_law_1186 rfl ?_
  refine V_iconst (pc := 1187) (v := nI 1) dL_law_1187 (by decide) ?_
  refine V_iaddN (pc := 1188) dL_law_1188 ?_
  refine V_sld (pc := 1189) dL_law_1189 (by omega) hn ?_
  refine V_callV (pc := 1190) (ci := 12) (c_X12_ends h12b hm.2.2.2.1 hA) dL_law_1190 mlL_154 mkX12_ends rfl rfl h12b.o ⟨by decide, rfl⟩ ⟨Nat.le_of_ble_eq_true rfl, Nat.le_of_ble_eq_true rfl⟩ (Nat.le_of_ble_eq_true rfl) ⟨by omega, by omega⟩ (fun r S' I' L' hp => ?_)
  obtain ⟨rfl, rfl, hM3, hF3⟩ := hp
  refine V_icmp_eq (pc := 1193) (tgt := 1403) dL_law_1193 (by decide) (fun c1193 => ?_) (fun n1193 => absurd n1193 (by exact fun z => z rfl))
  exact V_wid (N _ _ _ _ (hm.cm hM3 hF3 hA)) (by omega) (by omega)
theorem lw_stands (hI : INVL E B S I L A) (hi : i + 6 ≤ n) (hn : n ≤ 3072) (hcl : cl + 6 ≤ 600000) (hsl : sl + 974 ≤ 7302249) (N : ∀ S' I' L' A', INVL E B S' I' L' A' → VL E B b n xs (cl + 6) (sl + 974) S' I' L' 1403 i) : VL E B b n xs cl sl S I L 1198 i := by
  have h11 := hI.1
  have h12 := hI.2.1
  have hA := hI.2.2.2.2.1
  have hRc : room_1.cells = 600000 := rfl
  have hRs : room_1.slots = 7302249 := rfl
  refine V_aload_n (pc := 1198) dL_law_1198 rfl ?_
  refine V_aload_n (pc := 1199) dL_law_1199 rfl ?_
  refine V_iload_n (pc := 1200) dL_law_1200 rfl ?_
  refine V_iconst (pc := 1201) (v := nI 1) dL_law_1201 (by decide) ?_
  refine V_iaddN (pc := 1202) dL_law_1202 ?_
  refine V_sld (pc := 1203) dL_law_1203 (by omega) hn ?_
  refine V_aload_n (pc := 1204) dL_law_1204 rfl ?_
  refine V_iload_n (pc := 1205) dL_law_1205 rfl ?_
  refine V_iconst (pc := 1206) (v := nI 2) dL_law_1206 (by decide) ?_
  refine V_iaddN (pc := 1207) dL_law_1207 ?_
  refine V_sld (pc := 1208) dL_law_1208 (by omega) hn ?_
  refine V_callV (pc := 1209) (ci := 11) (c_X11_stands h11 hI.2.2.1 hA) dL_law_1209 mlL_155 mkX11_stands rfl rfl h11.o ⟨by decide, rfl⟩ ⟨Nat.le_of_ble_eq_true rfl, Nat.le_of_ble_eq_true rfl⟩ (Nat.le_of_ble_eq_true rfl) ⟨by omega, by omega⟩ (fun r S' I' L' hp => ?_)
  obtain ⟨rfl, rfl, hR2, hF2⟩ := hp
  have hm := hI.cc hR2 hF2
  have h12b := hm.2.1
  refine V_aload_n (pc := 1212) dL_law_1212 rfl ?_
  refine V_aload_n (pc := 1213) dL_law_1213 rfl ?_
  refine V_iload_n (pc := 1214) dL_law_1214 rfl ?_
  refine V_iconst (pc := 1215) (v := nI 1) dL_law_1215 (by decide) ?_
  refine V_iaddN (pc := 1216) dL_law_1216 ?_
  refine V_sld (pc := 1217) dL_law_1217 (by omega) hn ?_
  refine V_aload_n (pc := 1218) dL_law_1218 rfl ?_
  refine V_iload_n (pc := 1219) dL_law_1219 rfl ?_
  refine V_iconst (pc := 1220) (v := nI 2) dL_law_1220 (by decide) ?_
  refine V_iaddN (pc := 1221) dL_law_1221 ?_
  refine V_sld (pc := 1222) dL_law_1222 (by omega) hn ?_
  refine V_callV (pc := 1223) (ci := 12) (c_X12_stands h12b hm.2.2.2.1 hA) dL_law_1223 mlL_159 mkX12_stands rfl rfl h12b.o ⟨by decide, rfl⟩ ⟨Nat.le_of_ble_eq_true rfl, Nat.le_of_ble_eq_true rfl⟩ (Nat.le_of_ble_eq_true rfl) ⟨by omega, by omega⟩ (fun r S' I' L' hp => ?_)
  obtain ⟨rfl, rfl, hM3, hF3⟩ := hp
  refine V_lcmp (pc := 1226) dL_law_1226 ?_
  refine V_if_eq (pc := 1227) (tgt := 1403) dL_law_1227 (by decide) (fun c1227 => ?_) (fun n1227 => absurd n1227 (by exact fun z => z (lg_cmp_rf _)))
  exact V_wid (N _ _ _ _ (hm.cm hM3 hF3 hA)) (by omega) (by omega)
theorem lw_compare (hI : INVL E B S I L A) (hi : i + 6 ≤ n) (hn : n ≤ 3072) (hcl : cl + 6 ≤ 600000) (hsl : sl + 974 ≤ 7302249) (N : ∀ S' I' L' A', INVL E B S' I' L' A' → VL E B b n xs (cl + 6) (sl + 974) S' I' L' 1403 i) : VL E B b n xs cl sl S I L 1232 i := by
  have h11 := hI.1
  have h12 := hI.2.1
  have hA := hI.2.2.2.2.1
  have hRc : room_1.cells = 600000 := rfl
  have hRs : room_1.slots = 7302249 := rfl
  refine V_aload_n (pc := 1232) dL_law_1232 rfl ?_
  refine V_aload_n (pc := 1233) dL_law_1233 rfl ?_
  refine V_iload_n (pc := 1234) dL_law_1234 rfl ?_
  refine V_iconst (pc := 1235) (v := nI 1) dL_law_1235 (by decide) ?_
  refine V_iaddN (pc := 1236) dL_law_1236 ?_
  refine V_sld (pc := 1237) dL_law_1237 (by omega) hn ?_
  refine V_callV (pc := 1238) (ci := 11) (c_X11_compare h11 hI.2.2.1 hA) dL_law_1238 mlL_160 mkX11_compare rfl rfl h11.o ⟨by decide, rfl⟩ ⟨Nat.le_of_ble_eq_true rfl, Nat.le_of_ble_eq_true rfl⟩ (Nat.le_of_ble_eq_true rfl) ⟨by omega, by omega⟩ (fun r S' I' L' hp => ?_)
  obtain ⟨rfl, rfl, hR2, hF2⟩ := hp
  have hm := hI.cc hR2 hF2
  have h12b := hm.2.1
  refine V_aload_n (pc := 1241) dL_law_1241 rfl ?_
  refine V_aload_n (pc := 1242) dL_law_1242 rfl ?_
  refine V_iload_n (pc := 1243) dL_law_1243 rfl ?_
  refine V_iconst (pc := 1244) (v := nI 1) dL_law_1244 (by decide) ?_
  refine V_iaddN (pc := 1245) dL_law_1245 ?_
  refine V_sld (pc := 1246) dL_law_1246 (by omega) hn ?_
  refine V_callV (pc := 1247) (ci := 12) (c_X12_compare h12b hm.2.2.2.1 hA) dL_law_1247 mlL_163 mkX12_compare rfl rfl h12b.o ⟨by decide, rfl⟩ ⟨Nat.le_of_ble_eq_true rfl, Nat.le_of_ble_eq_true rfl⟩ (Nat.le_of_ble_eq_true rfl) ⟨by omega, by omega⟩ (fun r S' I' L' hp => ?_)
  obtain ⟨rfl, rfl, hM3, hF3⟩ := hp
  refine V_icmp_eq (pc := 1250) (tgt := 1403) dL_law_1250 (by decide) (fun c1250 => ?_) (fun n1250 => absurd n1250 (by exact fun z => z rfl))
  exact V_wid (N _ _ _ _ (hm.cm hM3 hF3 hA)) (by omega) (by omega)
theorem lw_generations (hI : INVL E B S I L A) (hi : i + 6 ≤ n) (hn : n ≤ 3072) (hcl : cl + 6 ≤ 600000) (hsl : sl + 974 ≤ 7302249) (N : ∀ S' I' L' A', INVL E B S' I' L' A' → VL E B b n xs (cl + 6) (sl + 974) S' I' L' 1403 i) : VL E B b n xs cl sl S I L 1255 i := by
  have h11 := hI.1
  have h12 := hI.2.1
  have hA := hI.2.2.2.2.1
  have hRc : room_1.cells = 600000 := rfl
  have hRs : room_1.slots = 7302249 := rfl
  refine V_aload_n (pc := 1255) dL_law_1255 rfl ?_
  refine V_aload_n (pc := 1256) dL_law_1256 rfl ?_
  refine V_iload_n (pc := 1257) dL_law_1257 rfl ?_
  refine V_iconst (pc := 1258) (v := nI 1) dL_law_1258 (by decide) ?_
  refine V_iaddN (pc := 1259) dL_law_1259 ?_
  refine V_sld (pc := 1260) dL_law_1260 (by omega) hn ?_
  refine V_aload_n (pc := 1261) dL_law_1261 rfl ?_
  refine V_iload_n (pc := 1262) dL_law_1262 rfl ?_
  refine V_iconst (pc := 1263) (v := nI 2) dL_law_1263 (by decide) ?_
  refine V_iaddN (pc := 1264) dL_law_1264 ?_
  refine V_sld (pc := 1265) dL_law_1265 (by omega) hn ?_
  refine V_callV (pc := 1266) (ci := 11) (c_X11_generations h11 hI.2.2.1 hA) dL_law_1266 mlL_164 mkX11_generations rfl rfl h11.o ⟨by decide, rfl⟩ ⟨Nat.le_of_ble_eq_true rfl, Nat.le_of_ble_eq_true rfl⟩ (Nat.le_of_ble_eq_true rfl) ⟨by omega, by omega⟩ (fun r S' I' L' hp => ?_)
  obtain ⟨rfl, rfl, hR2, hF2⟩ := hp
  have hm := hI.cc hR2 hF2
  have h12b := hm.2.1
  refine V_aload_n (pc := 1269) dL_law_1269 rfl ?_
  refine V_aload_n (pc := 1270) dL_law_1270 rfl ?_
  refine V_iload_n (pc := 1271) dL_law_1271 rfl ?_
  refine V_iconst (pc := 1272) (v := nI 1) dL_law_1272 (by decide) ?_
  refine V_iaddN (pc := 1273) dL_law_1273 ?_
  refine V_sld (pc := 1274) dL_law_1274 (by omega) hn ?_
  refine V_aload_n (pc := 1275) dL_law_1275 rfl ?_
  refine V_iload_n (pc := 1276) dL_law_1276 rfl ?_
  refine V_iconst (pc := 1277) (v := nI 2) dL_law_1277 (by decide) ?_
  refine V_iaddN (pc := 1278) dL_law_1278 ?_
  refine V_sld (pc := 1279) dL_law_1279 (by omega) hn ?_
  refine V_callV (pc := 1280) (ci := 12) (c_X12_generations h12b hm.2.2.2.1 hA) dL_law_1280 mlL_167 mkX12_generations rfl rfl h12b.o ⟨by decide, rfl⟩ ⟨Nat.le_of_ble_eq_true rfl, Nat.le_of_ble_eq_true rfl⟩ (Nat.le_of_ble_eq_true rfl) ⟨by omega, by omega⟩ (fun r S' I' L' hp => ?_)
  obtain ⟨rfl, rfl, hM3, hF3⟩ := hp
  refine V_icmp_eq (pc := 1283) (tgt := 1403) dL_law_1283 (by decide) (fun c1283 => ?_) (fun n1283 => absurd n1283 (by exact fun z => z rfl))
  exact V_wid (N _ _ _ _ (hm.cm hM3 hF3 (wf_gen hA _ _))) (by omega) (by omega)
theorem lw_drawn (hI : INVL E B S I L A) (hi : i + 6 ≤ n) (hn : n ≤ 3072) (hcl : cl + 6 ≤ 600000) (hsl : sl + 974 ≤ 7302249) (N : ∀ S' I' L' A', INVL E B S' I' L' A' → VL E B b n xs (cl + 6) (sl + 974) S' I' L' 1403 i) : VL E B b n xs cl sl S I L 1288 i := by
  have h11 := hI.1
  have h12 := hI.2.1
  have hA := hI.2.2.2.2.1
  have hRc : room_1.cells = 600000 := rfl
  have hRs : room_1.slots = 7302249 := rfl
  refine V_aload_n (pc := 1288) dL_law_1288 rfl ?_
  refine V_aload_n (pc := 1289) dL_law_1289 rfl ?_
  refine V_iload_n (pc := 1290) dL_law_1290 rfl ?_
  refine V_iconst (pc := 1291) (v := nI 1) dL_law_1291 (by decide) ?_
  refine V_iaddN (pc := 1292) dL_law_1292 ?_
  refine V_sld (pc := 1293) dL_law_1293 (by omega) hn ?_
  refine V_aload_n (pc := 1294) dL_law_1294 rfl ?_
  refine V_iload_n (pc := 1295) dL_law_1295 rfl ?_
  refine V_iconst (pc := 1296) (v := nI 2) dL_law_1296 (by decide) ?_
  refine V_iaddN (pc := 1297) dL_law_1297 ?_
  refine V_sld (pc := 1298) dL_law_1298 (by omega) hn ?_
  refine V_callV (pc := 1299) (ci := 11) (c_X11_drawn h11 hI.2.2.1 hA) dL_law_1299 mlL_168 mkX11_drawn rfl rfl h11.o ⟨by decide, rfl⟩ ⟨Nat.le_of_ble_eq_true rfl, Nat.le_of_ble_eq_true rfl⟩ (Nat.le_of_ble_eq_true rfl) ⟨by omega, by omega⟩ (fun r S' I' L' hp => ?_)
  obtain ⟨rfl, rfl, hR2, hF2⟩ := hp
  have hm := hI.cc hR2 hF2
  have h12b := hm.2.1
  refine V_aload_n (pc := 1302) dL_law_1302 rfl ?_
  refine V_aload_n (pc := 1303) dL_law_1303 rfl ?_
  refine V_iload_n (pc := 1304) dL_law_1304 rfl ?_
  refine V_iconst (pc := 1305) (v := nI 1) dL_law_1305 (by decide) ?_
  refine V_iaddN (pc := 1306) dL_law_1306 ?_
  refine V_sld (pc := 1307) dL_law_1307 (by omega) hn ?_
  refine V_aload_n (pc := 1308) dL_law_1308 rfl ?_
  refine V_iload_n (pc := 1309) dL_law_1309 rfl ?_
  refine V_iconst (pc := 1310) (v := nI 2) dL_law_1310 (by decide) ?_
  refine V_iaddN (pc := 1311) dL_law_1311 ?_
  refine V_sld (pc := 1312) dL_law_1312 (by omega) hn ?_
  refine V_callV (pc := 1313) (ci := 12) (c_X12_drawn h12b hm.2.2.2.1 hA) dL_law_1313 mlL_171 mkX12_drawn rfl rfl h12b.o ⟨by decide, rfl⟩ ⟨Nat.le_of_ble_eq_true rfl, Nat.le_of_ble_eq_true rfl⟩ (Nat.le_of_ble_eq_true rfl) ⟨by omega, by omega⟩ (fun r S' I' L' hp => ?_)
  obtain ⟨rfl, rfl, hM3, hF3⟩ := hp
  refine V_icmp_eq (pc := 1316) (tgt := 1403) dL_law_1316 (by decide) (fun c1316 => ?_) (fun n1316 => absurd n1316 (by exact fun z => z rfl))
  exact V_wid (N _ _ _ _ (hm.cm hM3 hF3 hA)) (by omega) (by omega)
theorem lw_image (hI : INVL E B S I L A) (hi : i + 6 ≤ n) (hn : n ≤ 3072) (hcl : cl + 6 ≤ 600000) (hsl : sl + 974 ≤ 7302249) (N : ∀ S' I' L' A', INVL E B S' I' L' A' → VL E B b n xs (cl + 6) (sl + 974) S' I' L' 1403 i) : VL E B b n xs cl sl S I L 1321 i := by
  have h11 := hI.1
  have h12 := hI.2.1
  have hA := hI.2.2.2.2.1
  have hRc : room_1.cells = 600000 := rfl
  have hRs : room_1.slots = 7302249 := rfl
  refine V_aload_n (pc := 1321) dL_law_1321 rfl ?_
  refine V_aload_n (pc := 1322) dL_law_1322 rfl ?_
  refine V_iload_n (pc := 1323) dL_law_1323 rfl ?_
  refine V_iconst (pc := 1324) (v := nI 1) dL_law_1324 (by decide) ?_
  refine V_iaddN (pc := 1325) dL_law_1325 ?_
  refine V_sld (pc := 1326) dL_law_1326 (by omega) hn ?_
  refine V_callV (pc := 1327) (ci := 11) (c_X11_image h11 hI.2.2.1 hA) dL_law_1327 mlL_172 mkX11_image rfl rfl h11.o ⟨by decide, rfl⟩ ⟨Nat.le_of_ble_eq_true rfl, Nat.le_of_ble_eq_true rfl⟩ (Nat.le_of_ble_eq_true rfl) ⟨by omega, by omega⟩ (fun r S' I' L' hp => ?_)
  obtain ⟨rfl, hS2, hR2, hF2⟩ := hp
  have hm := hI.ci hS2 hR2 hF2
  have h12b := hm.2.1
  refine V_aload_n (pc := 1330) dL_law_1330 rfl ?_
  refine V_aload_n (pc := 1331) dL_law_1331 rfl ?_
  refine V_iload_n (pc := 1332) dL_law_1332 rfl ?_
  refine V_iconst (pc := 1333) (v := nI 1) dL_law_1333 (by decide) ?_
  refine V_iaddN (pc := 1334) dL_law_1334 ?_
  refine V_sld (pc := 1335) dL_law_1335 (by omega) hn ?_
  refine V_callV (pc := 1336) (ci := 12) (c_X12_image h12b hm.2.2.2.1 hA) dL_law_1336 mlL_175 mkX12_image rfl rfl h12b.o ⟨by decide, rfl⟩ ⟨Nat.le_of_ble_eq_true rfl, Nat.le_of_ble_eq_true rfl⟩ (Nat.le_of_ble_eq_true rfl) ⟨by omega, by omega⟩ (fun r S' I' L' hp => ?_)
  obtain ⟨rfl, rfl, hM3, hF3⟩ := hp
  refine V_icmp_eq (pc := 1339) (tgt := 1403) dL_law_1339 (by decide) (fun c1339 => ?_) (fun n1339 => absurd n1339 (by exact fun z => z rfl))
  exact V_wid (N _ _ _ _ (hm.cm hM3 hF3 (wf_image hA _))) (by omega) (by omega)
theorem lw_back (hI : INVL E B S I L A) (hi : i + 6 ≤ n) (hn : n ≤ 3072) (hcl : cl + 6 ≤ 600000) (hsl : sl + 974 ≤ 7302249) (N : ∀ S' I' L' A', INVL E B S' I' L' A' → VL E B b n xs (cl + 6) (sl + 974) S' I' L' 1403 i) : VL E B b n xs cl sl S I L 1344 i := by
  have h11 := hI.1
  have h12 := hI.2.1
  have hA := hI.2.2.2.2.1
  have hRc : room_1.cells = 600000 := rfl
  have hRs : room_1.slots = 7302249 := rfl
  refine V_aload_n (pc := 1344) dL_law_1344 rfl ?_
  refine V_aload_n (pc := 1345) dL_law_1345 rfl ?_
  refine V_iload_n (pc := 1346) dL_law_1346 rfl ?_
  refine V_iconst (pc := 1347) (v := nI 1) dL_law_1347 (by decide) ?_
  refine V_iaddN (pc := 1348) dL_law_1348 ?_
  refine V_sld (pc := 1349) dL_law_1349 (by omega) hn ?_
  refine V_callV (pc := 1350) (ci := 11) (c_X11_back h11 hI.2.2.1 hA) dL_law_1350 mlL_176 mkX11_back rfl rfl h11.o ⟨by decide, rfl⟩ ⟨Nat.le_of_ble_eq_true rfl, Nat.le_of_ble_eq_true rfl⟩ (Nat.le_of_ble_eq_true rfl) ⟨by omega, by omega⟩ (fun r S' I' L' hp => ?_)
  obtain ⟨rfl, hS2, hR2, hF2⟩ := hp
  have hm := hI.ci hS2 hR2 hF2
  have h12b := hm.2.1
  refine V_aload_n (pc := 1353) dL_law_1353 rfl ?_
  refine V_aload_n (pc := 1354) dL_law_1354 rfl ?_
  refine V_iload_n (pc := 1355) dL_law_1355 rfl ?_
  refine V_iconst (pc := 1356) (v := nI 1) dL_law_1356 (by decide) ?_
  refine V_iaddN (pc := 1357) dL_law_1357 ?_
  refine V_sld (pc := 1358) dL_law_1358 (by omega) hn ?_
  refine V_callV (pc := 1359) (ci := 12) (c_X12_back h12b hm.2.2.2.1 hA) dL_law_1359 mlL_179 mkX12_back rfl rfl h12b.o ⟨by decide, rfl⟩ ⟨Nat.le_of_ble_eq_true rfl, Nat.le_of_ble_eq_true rfl⟩ (Nat.le_of_ble_eq_true rfl) ⟨by omega, by omega⟩ (fun r S' I' L' hp => ?_)
  obtain ⟨rfl, rfl, hM3, hF3⟩ := hp
  refine V_icmp_eq (pc := 1362) (tgt := 1403) dL_law_1362 (by decide) (fun c1362 => ?_) (fun n1362 => absurd n1362 (by exact fun z => z rfl))
  exact V_wid (N _ _ _ _ (hm.cm hM3 hF3 (wf_back hA _))) (by omega) (by omega)
theorem lw_count (hI : INVL E B S I L A) (hi : i + 6 ≤ n) (hn : n ≤ 3072) (hcl : cl + 6 ≤ 600000) (hsl : sl + 974 ≤ 7302249) (N : ∀ S' I' L' A', INVL E B S' I' L' A' → VL E B b n xs (cl + 6) (sl + 974) S' I' L' 1403 i) : VL E B b n xs cl sl S I L 1367 i := by
  have h11 := hI.1
  have h12 := hI.2.1
  have hA := hI.2.2.2.2.1
  have hRc : room_1.cells = 600000 := rfl
  have hRs : room_1.slots = 7302249 := rfl
  refine V_aload_n (pc := 1367) dL_law_1367 rfl ?_
  refine V_aload_n (pc := 1368) dL_law_1368 rfl ?_
  refine V_iload_n (pc := 1369) dL_law_1369 rfl ?_
  refine V_iconst (pc := 1370) (v := nI 1) dL_law_1370 (by decide) ?_
  refine V_iaddN (pc := 1371) dL_law_1371 ?_
  refine V_sld (pc := 1372) dL_law_1372 (by omega) hn ?_
  refine V_callV (pc := 1373) (ci := 11) (c_X11_count h11 hI.2.2.1 hA) dL_law_1373 mlL_180 mkX11_count rfl rfl h11.o ⟨by decide, rfl⟩ ⟨Nat.le_of_ble_eq_true rfl, Nat.le_of_ble_eq_true rfl⟩ (Nat.le_of_ble_eq_true rfl) ⟨by omega, by omega⟩ (fun r S' I' L' hp => ?_)
  obtain ⟨rfl, rfl, hR2, hF2⟩ := hp
  have hm := hI.cc hR2 hF2
  have h12b := hm.2.1
  refine V_aload_n (pc := 1376) dL_law_1376 rfl ?_
  refine V_aload_n (pc := 1377) dL_law_1377 rfl ?_
  refine V_iload_n (pc := 1378) dL_law_1378 rfl ?_
  refine V_iconst (pc := 1379) (v := nI 1) dL_law_1379 (by decide) ?_
  refine V_iaddN (pc := 1380) dL_law_1380 ?_
  refine V_sld (pc := 1381) dL_law_1381 (by omega) hn ?_
  refine V_callV (pc := 1382) (ci := 12) (c_X12_count h12b hm.2.2.2.1 hA) dL_law_1382 mlL_183 mkX12_count rfl rfl h12b.o ⟨by decide, rfl⟩ ⟨Nat.le_of_ble_eq_true rfl, Nat.le_of_ble_eq_true rfl⟩ (Nat.le_of_ble_eq_true rfl) ⟨by omega, by omega⟩ (fun r S' I' L' hp => ?_)
  obtain ⟨rfl, rfl, hM3, hF3⟩ := hp
  refine V_icmp_eq (pc := 1385) (tgt := 1403) dL_law_1385 (by decide) (fun c1385 => ?_) (fun n1385 => absurd n1385 (by exact fun z => z rfl))
  exact V_wid (N _ _ _ _ (hm.cm hM3 hF3 hA)) (by omega) (by omega)
theorem lw_status (hI : INVL E B S I L A) (hi : i + 6 ≤ n) (hn : n ≤ 3072) (hcl : cl + 6 ≤ 600000) (hsl : sl + 974 ≤ 7302249) (N : ∀ S' I' L' A', INVL E B S' I' L' A' → VL E B b n xs (cl + 6) (sl + 974) S' I' L' 1403 i) : VL E B b n xs cl sl S I L 1390 i := by
  have h11 := hI.1
  have h12 := hI.2.1
  have hA := hI.2.2.2.2.1
  have hRc : room_1.cells = 600000 := rfl
  have hRs : room_1.slots = 7302249 := rfl
  refine V_aload_n (pc := 1390) dL_law_1390 rfl ?_
  refine V_callV (pc := 1391) (ci := 11) (c_X11_status h11 hI.2.2.1) dL_law_1391 mlL_184 mkX11_status rfl rfl h11.o ⟨by decide, rfl⟩ ⟨Nat.le_of_ble_eq_true rfl, Nat.le_of_ble_eq_true rfl⟩ (Nat.le_of_ble_eq_true rfl) ⟨by omega, by omega⟩ (fun r S' I' L' hp => ?_)
  obtain ⟨rfl, rfl, hR2, hF2⟩ := hp
  have hm := hI.cc hR2 hF2
  have h12b := hm.2.1
  refine V_aload_n (pc := 1394) dL_law_1394 rfl ?_
  refine V_callV (pc := 1395) (ci := 12) (c_X12_status h12b hm.2.2.2.1) dL_law_1395 mlL_187 mkX12_status rfl rfl h12b.o ⟨by decide, rfl⟩ ⟨Nat.le_of_ble_eq_true rfl, Nat.le_of_ble_eq_true rfl⟩ (Nat.le_of_ble_eq_true rfl) ⟨by omega, by omega⟩ (fun r S' I' L' hp => ?_)
  obtain ⟨rfl, rfl, hM3, hF3⟩ := hp
  refine V_icmp_eq (pc := 1398) (tgt := 1403) dL_law_1398 (by decide) (fun c1398 => ?_) (fun n1398 => absurd n1398 (by exact fun z => z rfl))
  exact V_wid (N _ _ _ _ (hm.cm hM3 hF3 hA)) (by omega) (by omega)
end LC
