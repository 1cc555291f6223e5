section SP46
variable {xs : Nat → Int32} {Lx : Nat} {K : KT}
abbrev GX (xs : Nat → Int32) (Lx : Nat) : MG := (kdAll, xs, Lx)
theorem sbk0 {M U : Mem} (h3 : U.1 395 3 = 0) (h1 : U.1 395 1 = 0 ∨ U.1 395 1 = 1) (h4 : U.1 395 4 = 0) : sbk M U := ⟨h3, h1, Or.inl h4⟩
theorem g360 (hK : LK xs Lx 20000 K) (hL : Lx < 2 ^ 31) {n s t : Nat} : ∀ (m i nw q : Nat) (o5 : Option Value) (Mc U1 U2 : Mem), i + m = 6 → q ≤ 2000 + 30 * i → nw ≤ 1000 + 20 * i → WS Mc n s t nw → U1.1 395 1 = 0 → U1.1 395 3 = 0 → U1.1 395 4 = 0 → U2.1 395 1 = 1 → U2.1 395 3 = 0 → U2.1 395 4 = 0 → K 360 [some (.ref 1000), some (.ref 0), some (.ref 410), some (.int 1), some (.int (nI i)), o5, none, none, none, none, none, none, none, none, none, none] [] (mx Mc U1) (mx Mc U2) q := by
  intro m
  induction m with
  | zero =>
    intro i nw q o5 Mc U1 U2 hi hq hnw hW a1 a3 a4 b1 b3 b4
    have e : i = 6 := by omega
    refine V_iload hK dL_law_360 rfl ?_
    refine V_bipush hK (v := 6) dL_law_362 (by decide) ?_
    refine V_icge hK (tg := 473) dL_law_364 (by decide) (fun c_364 => ?_) (fun c => absurd (by rw [e]; exact Int32.le_refl _) c)
    exact g473 hK hW a1 a3 b1 b3 b4 (by omega) (by omega)
  | succ m ih =>
    intro i nw q o5 Mc U1 U2 hi hq hnw hW a1 a3 a4 b1 b3 b4
    have hlt : i < 6 := by omega
    refine V_iload hK dL_law_360 rfl ?_
    refine V_bipush hK (v := 6) dL_law_362 (by decide) ?_
    refine V_icge hK (tg := 473) dL_law_364 (by decide) (fun c => absurd c (by rw [show (6 : Int32) = nI 6 from rfl]; exact nI_ge hlt (by omega))) (fun c_364 => ?_)
    refine V_iload_n hK dL_law_367 rfl ?_
    refine V_ifeq hK (tg := 473) dL_law_368 (by decide) (fun c => absurd c (by decide)) (fun c_368 => ?_)
    refine V_aload_n hK dL_law_371 rfl (by decide) ?_
    refine V_aload_n hK dL_law_372 rfl (by decide) ?_
    refine V_sipush hK (v := 320) dL_law_373 (by decide) ?_
    refine V_iconst hK (v := 4) dL_law_376 (by decide) ?_
    refine V_iload hK dL_law_377 rfl ?_
    refine V_imul hK dL_law_379 ?_
    rw [show (4 * (nI i) : Int32) = nI (4 * i) from nI_mul _ _]
    refine V_iadd hK dL_law_380 ?_
    rw [show (320 + (nI (4 * i)) : Int32) = nI (320 + (4 * i)) from nI_add _ _]
    obtain ⟨Mh, hWh, -, hRh⟩ := happens_mx (G := GX xs Lx) (d := 0) allG hL hW (i := (320 + (4 * i))) (by omega)
    refine V_s1 hK (t := []) (hRh U1).c dL_law_381 lz_1094 (Or.inl (Nat.le_of_ble_eq_true rfl)) mL_happens ⟨rfl, rfl⟩ rfl (by decide) rfl rfl (Nat.le_of_ble_eq_true rfl) (by omega) ?_
    refine V_aload_n hK dL_law_384 rfl (by decide) ?_
    refine V_aload_n hK dL_law_385 rfl (by decide) ?_
    refine V_sipush hK (v := 320) dL_law_386 (by decide) ?_
    refine V_iconst hK (v := 4) dL_law_389 (by decide) ?_
    refine V_iload hK dL_law_390 rfl ?_
    refine V_imul hK dL_law_392 ?_
    rw [show (4 * (nI i) : Int32) = nI (4 * i) from nI_mul _ _]
    refine V_iadd hK dL_law_393 ?_
    rw [show (320 + (nI (4 * i)) : Int32) = nI (320 + (4 * i)) from nI_add _ _]
    refine V_s2 hK (t := []) (hRh U2).c dL_law_394 lz_1094 (Or.inl (Nat.le_of_ble_eq_true rfl)) mL_happens ⟨rfl, rfl⟩ rfl (by decide) rfl rfl (Nat.le_of_ble_eq_true rfl) (by omega) ?_
    refine V_iconst hK (v := 1) dL_law_397 (by decide) ?_
    refine V_aload_n hK dL_law_398 rfl (by decide) ?_
    refine V_sipush hK (v := 420) dL_law_399 (by decide) ?_
    refine V_iload hK dL_law_402 rfl ?_
    refine V_iadd hK dL_law_404 ?_
    rw [show (420 + (nI i) : Int32) = nI (420 + i) from nI_add _ _]
    refine V_bipush hK (v := 9) dL_law_405 (by decide) ?_
    obtain ⟨x407, hx407, hp407⟩ := pick_ok (G := GX xs Lx) (i := (420 + i)) (m := 9) hL (by omega) (by omega) (by omega)
    refine V_s1 hK (t := [.int 1]) (hp407 0 _).c dL_law_407 lz_658 (Or.inl (Nat.le_of_ble_eq_true rfl)) mL_pick ⟨rfl, rfl⟩ rfl (by decide) rfl rfl (Nat.le_of_ble_eq_true rfl) (by omega) ?_
    refine V_iadd hK dL_law_410 ?_
    rw [show (1 + (nI x407) : Int32) = nI (1 + x407) from nI_add _ _]
    refine V_istore hK (L' := [some (.ref 1000), some (.ref 0), some (.ref 410), some (.int 1), some (.int (nI i)), some (.int (nI (1 + x407))), none, none, none, none, none, none, none, none, none, none]) dL_law_411 rfl (Nat.le_of_ble_eq_true rfl) ?_
    refine V_aload_n hK dL_law_413 rfl (by decide) ?_
    refine V_bipush hK (v := 13) dL_law_414 (by decide) ?_
    refine V_iload hK dL_law_416 rfl ?_
    refine V_iconst hK (v := 0) dL_law_418 (by decide) ?_
    refine V_iconst hK (v := 0) dL_law_419 (by decide) ?_
    refine V_iconst hK (v := 0) dL_law_420 (by decide) ?_
    refine V_iconst hK (v := 0) dL_law_421 (by decide) ?_
    refine V_iconst hK (v := 0) dL_law_422 (by decide) ?_
    obtain ⟨Mp, hWp, -, hpp⟩ := deed13_ok (G := GX xs Lx) (d := 0) allG (u := (1 + x407)) (by omega) (by omega) (by omega) hWh
    obtain ⟨V1, p1, p2, p3, -, hR1⟩ := hpp U1 (sbk0 a3 (by rw [a1]; decide) a4)
    obtain ⟨V2, r1, r2, r3, -, hR2⟩ := hpp U2 (sbk0 b3 (by rw [b1]; decide) b4)
    refine V_s1 hK (t := []) hR1 dL_law_423 lz_669 (Or.inr rfl) mdD ⟨rfl, rfl⟩ rfl (by decide) rfl rfl (Nat.le_of_ble_eq_true rfl) (by omega) ?_
    refine V_aload_n hK dL_law_426 rfl (by decide) ?_
    refine V_bipush hK (v := 13) dL_law_427 (by decide) ?_
    refine V_iload hK dL_law_429 rfl ?_
    refine V_iconst hK (v := 0) dL_law_431 (by decide) ?_
    refine V_iconst hK (v := 0) dL_law_432 (by decide) ?_
    refine V_iconst hK (v := 0) dL_law_433 (by decide) ?_
    refine V_iconst hK (v := 0) dL_law_434 (by decide) ?_
    refine V_iconst hK (v := 0) dL_law_435 (by decide) ?_
    refine V_s2 hK (t := [.int (nI (nw + (1 + x407)))]) hR2 dL_law_436 lz_669 (Or.inr rfl) mdD ⟨rfl, rfl⟩ rfl (by decide) rfl rfl (Nat.le_of_ble_eq_true rfl) (by omega) ?_
    refine V_icne hK (tg := 465) dL_law_439 (by decide) (fun c => absurd rfl c) (fun c_439 => ?_)
    refine V_aload_n hK dL_law_442 rfl (by decide) ?_
    obtain ⟨xa, ca, hca, hRa⟩ := all_mx (G := GX xs Lx) (d := 0) allG hWp
    refine V_s1 hK (t := []) (hRa V1) dL_law_443 lz_1077 (Or.inl (Nat.le_of_ble_eq_true rfl)) mL_all ⟨rfl, rfl⟩ rfl (by decide) rfl rfl (Nat.le_of_ble_eq_true rfl) (by omega) ?_
    refine V_aload_n hK dL_law_446 rfl (by decide) ?_
    refine V_s2 hK (t := [.long xa]) (hRa V2) dL_law_447 lz_1077 (Or.inl (Nat.le_of_ble_eq_true rfl)) mL_all ⟨rfl, rfl⟩ rfl (by decide) rfl rfl (Nat.le_of_ble_eq_true rfl) (by omega) ?_
    refine V_lcmp hK dL_law_450 ?_
    refine V_ifne hK (tg := 465) dL_law_451 (by decide) (fun c => absurd (lg_self _) c) (fun c_451 => ?_)
    refine V_aload_n hK dL_law_454 rfl (by decide) ?_
    obtain ⟨cw, hcw, hRw⟩ := isWhole_mx (G := GX xs Lx) (d := 0) allG hWp
    refine V_s1 hK (t := []) (hRw V1) dL_law_455 lz_1083 (Or.inl (Nat.le_of_ble_eq_true rfl)) mL_isWhole ⟨rfl, rfl⟩ rfl (by decide) rfl rfl (Nat.le_of_ble_eq_true rfl) (by omega) ?_
    refine V_ifeq hK (tg := 465) dL_law_458 (by decide) (fun c => absurd c (by decide)) (fun c_458 => ?_)
    refine V_iconst hK (v := 1) dL_law_461 (by decide) ?_
    refine V_goto hK (tg := 466) dL_law_462 (by decide) ?_
    refine V_istore_n hK (L' := [some (.ref 1000), some (.ref 0), some (.ref 410), some (.int 1), some (.int (nI i)), some (.int (nI (1 + x407))), none, none, none, none, none, none, none, none, none, none]) dL_law_466 rfl (Nat.le_of_ble_eq_true rfl) ?_
    refine V_iinc hK (v := nI (i + 1)) (L' := [some (.ref 1000), some (.ref 0), some (.ref 410), some (.int 1), some (.int (nI (i + 1))), some (.int (nI (1 + x407))), none, none, none, none, none, none, none, none, none, none]) dL_law_467 rfl (inc1 _) rfl ?_
    refine V_goto hK (tg := 360) dL_law_470 (by decide) ?_
    exact ih (i + 1) _ _ _ _ _ _ (by omega) (by omega) (by omega) hWp (p2.trans a1) p1.1 p3 (r2.trans b1) r1.1 r3
theorem g219 (hK : LK xs Lx 20000 K) (hL : Lx < 2 ^ 31) {o5 : Option Value} {k4 : Int32} {n s t nw : Nat} {Mc U1 U2 : Mem} (hW : WS Mc n s t nw) (hnw : nw ≤ 900) (a1 : U1.1 395 1 = 1) (a3 : U1.1 395 3 = 0) (a4 : U1.1 395 4 = 0) (b1 : U2.1 395 1 = 1) (b3 : U2.1 395 3 = 0) (b4 : U2.1 395 4 = 0) {q : Nat} (hq : q ≤ 1900) : K 219 [some (.ref 1000), some (.ref 0), some (.ref 410), some (.int 1), some (.int k4), o5, none, none, none, none, none, none, none, none, none, none] [] (mx Mc U1) (mx Mc U2) q := by
  have hA : All (GX xs Lx) := allG
  have dm : ∀ (M U : Mem) (t : Nat) (p : Int32), t < 2 → 0 ≤ p ∧ p ≤ 100 → ∃ x, RetC (GX xs Lx) (0 + 5) 200 [.ref 0, .int 8, .int (nI t), .int p, .int 0, .int 0, .int 0, .int 0] (mx M U) (some (.int x)) (mx (pI M (408 + t) 0 p) U) 0 := fun M U t p ht hp => by
    obtain ⟨x, hR⟩ := deed8_ok (d := 0) (M := mx M U) hA.core ht p hp
    rw [mx_pI (by omega)] at hR
    exact ⟨x, hR⟩
  obtain ⟨x1, hD1⟩ := dm Mc U1 0 1 (by decide) (by decide)
  obtain ⟨x2, hD2⟩ := dm Mc U2 0 1 (by decide) (by decide)
  obtain ⟨x3, hD3⟩ := dm (pI Mc (408 + 0) 0 1) U1 1 0 (by decide) (by decide)
  obtain ⟨x4, hD4⟩ := dm (pI Mc (408 + 0) 0 1) U2 1 0 (by decide) (by decide)
  have hW2 := (hW.per (k := 0) (by decide) (p := 1)).per (k := 1) (by decide) (p := 0)
  have hp0 : (pI (pI Mc (408 + 0) 0 1) (408 + 1) 0 0).1 408 0 = 1 := rfl
  generalize pI (pI Mc (408 + 0) 0 1) (408 + 1) 0 0 = M2 at hD3 hD4 hW2 hp0
  obtain ⟨M3, hW3, hF3, hP3⟩ := pass_ok (G := GX xs Lx) (d := 0) hA (u := 1) (by decide) (by decide) (by omega) hW2
  have hp3 : M3.1 408 0 = 1 := (hF3.1 408 0 rfl).trans hp0
  obtain ⟨V1, p1, p2, p3, p4, hR1⟩ := hP3 U1 (sbk0 a3 (by rw [a1]; decide) a4)
  obtain ⟨V2, r1, r2, r3, r4, hR2⟩ := hP3 U2 (sbk0 b3 (by rw [b1]; decide) b4)
  have hg := p4 hp0 a1
  have v1 : V1.1 395 1 = 1 := p2.trans a1
  have v2 : V2.1 395 1 = 1 := r2.trans b1
  obtain ⟨xa, ca, hca, hRa⟩ := all_mx (G := GX xs Lx) (d := 0) hA hW3
  have h12 : (mx M3 V1).1 0 12 = 0 := hW3.2.2.2.2.2.1
  have hst300 : (mx M3 V1).1 0 12 = 0 ∨ (mx M3 V1).1 0 12 = 1 := Or.inl h12
  have i1 : (mx M3 V1).1 395 1 = 1 := v1
  have his307 : (mx M3 V1).1 395 1 = 0 ∨ (mx M3 V1).1 395 1 = 1 := Or.inr i1
  have hRf := fail_yes (G := GX xs Lx) (d := 0) hA v1 hg
  have w1 : (pI (pI (pI V1 395 4 1) 395 1 0) 395 3 0).1 395 1 = 0 := rfl
  have w3 : (pI (pI (pI V1 395 4 1) 395 1 0) 395 3 0).1 395 3 = 0 := rfl
  have w4 : (pI (pI (pI V1 395 4 1) 395 1 0) 395 3 0).1 395 4 = 1 := rfl
  generalize pI (pI (pI V1 395 4 1) 395 1 0) 395 3 0 = W1 at hRf w1 w3 w4
  have i2 : (mx M3 W1).1 395 1 = 0 := w1
  have his321 : (mx M3 W1).1 395 1 = 0 ∨ (mx M3 W1).1 395 1 = 1 := Or.inl i2
  obtain ⟨M4, hW4, hF4, hP4⟩ := pass_ok (G := GX xs Lx) (d := 0) hA (u := 1) (by decide) (by decide) (by omega) hW3
  obtain ⟨Y1, y1, y2, y3, -, hR3⟩ := hP4 W1 ⟨w3, Or.inl w1, Or.inr ⟨w4, hp3⟩⟩
  obtain ⟨Y2, z1, z2, z3, -, hR4⟩ := hP4 V2 (sbk0 r1.1 (by rw [v2]; decide) r3)
  refine V_aload_n hK dL_law_219 rfl (by decide) ?_
  refine V_bipush hK (v := 8) dL_law_220 (by decide) ?_
  refine V_iconst hK (v := 0) dL_law_222 (by decide) ?_
  refine V_iconst hK (v := 1) dL_law_223 (by decide) ?_
  refine V_iconst hK (v := 0) dL_law_224 (by decide) ?_
  refine V_iconst hK (v := 0) dL_law_225 (by decide) ?_
  refine V_iconst hK (v := 0) dL_law_226 (by decide) ?_
  refine V_iconst hK (v := 0) dL_law_227 (by decide) ?_
  refine V_s1 hK (t := []) hD1 dL_law_228 lz_669 (Or.inr rfl) mdD ⟨rfl, rfl⟩ rfl (by decide) rfl rfl (Nat.le_of_ble_eq_true rfl) (by omega) ?_
  refine V_pop hK dL_law_231 rfl ?_
  refine V_aload_n hK dL_law_232 rfl (by decide) ?_
  refine V_bipush hK (v := 8) dL_law_233 (by decide) ?_
  refine V_iconst hK (v := 0) dL_law_235 (by decide) ?_
  refine V_iconst hK (v := 1) dL_law_236 (by decide) ?_
  refine V_iconst hK (v := 0) dL_law_237 (by decide) ?_
  refine V_iconst hK (v := 0) dL_law_238 (by decide) ?_
  refine V_iconst hK (v := 0) dL_law_239 (by decide) ?_
  refine V_iconst hK (v := 0) dL_law_240 (by decide) ?_
  refine V_s2 hK (t := []) hD2 dL_law_241 lz_669 (Or.inr rfl) mdD ⟨rfl, rfl⟩ rfl (by decide) rfl rfl (Nat.le_of_ble_eq_true rfl) (by omega) ?_
  refine V_pop hK dL_law_244 rfl ?_
  refine V_aload_n hK dL_law_245 rfl (by decide) ?_
  refine V_bipush hK (v := 8) dL_law_246 (by decide) ?_
  refine V_iconst hK (v := 1) dL_law_248 (by decide) ?_
  refine V_iconst hK (v := 0) dL_law_249 (by decide) ?_
  refine V_iconst hK (v := 0) dL_law_250 (by decide) ?_
  refine V_iconst hK (v := 0) dL_law_251 (by decide) ?_
  refine V_iconst hK (v := 0) dL_law_252 (by decide) ?_
  refine V_iconst hK (v := 0) dL_law_253 (by decide) ?_
  refine V_s1 hK (t := []) hD3 dL_law_254 lz_669 (Or.inr rfl) mdD ⟨rfl, rfl⟩ rfl (by decide) rfl rfl (Nat.le_of_ble_eq_true rfl) (by omega) ?_
  refine V_pop hK dL_law_257 rfl ?_
  refine V_aload_n hK dL_law_258 rfl (by decide) ?_
  refine V_bipush hK (v := 8) dL_law_259 (by decide) ?_
  refine V_iconst hK (v := 1) dL_law_261 (by decide) ?_
  refine V_iconst hK (v := 0) dL_law_262 (by decide) ?_
  refine V_iconst hK (v := 0) dL_law_263 (by decide) ?_
  refine V_iconst hK (v := 0) dL_law_264 (by decide) ?_
  refine V_iconst hK (v := 0) dL_law_265 (by decide) ?_
  refine V_iconst hK (v := 0) dL_law_266 (by decide) ?_
  refine V_s2 hK (t := []) hD4 dL_law_267 lz_669 (Or.inr rfl) mdD ⟨rfl, rfl⟩ rfl (by decide) rfl rfl (Nat.le_of_ble_eq_true rfl) (by omega) ?_
  refine V_pop hK dL_law_270 rfl ?_
  refine V_aload_n hK dL_law_271 rfl (by decide) ?_
  refine V_iconst hK (v := 1) dL_law_272 (by decide) ?_
  refine V_v1 hK (t := []) hR1.c dL_law_273 lz_365 (Nat.le_of_ble_eq_true rfl) mX9_pass ⟨rfl, rfl⟩ rfl (by decide) rfl rfl (Nat.le_of_ble_eq_true rfl) (by omega) ?_
  refine V_pop hK dL_law_276 rfl ?_
  refine V_aload_n hK dL_law_277 rfl (by decide) ?_
  refine V_iconst hK (v := 1) dL_law_278 (by decide) ?_
  refine V_v2 hK (t := []) hR2.c dL_law_279 lz_365 (Nat.le_of_ble_eq_true rfl) mX9_pass ⟨rfl, rfl⟩ rfl (by decide) rfl rfl (Nat.le_of_ble_eq_true rfl) (by omega) ?_
  refine V_pop hK dL_law_282 rfl ?_
  refine V_iload_n hK dL_law_283 rfl ?_
  refine V_ifeq hK (tg := 343) dL_law_284 (by decide) (fun c => absurd c (by decide)) (fun c_284 => ?_)
  refine V_aload_n hK dL_law_287 rfl (by decide) ?_
  refine V_s1 hK (t := []) (hRa V1) dL_law_288 lz_1077 (Or.inl (Nat.le_of_ble_eq_true rfl)) mL_all ⟨rfl, rfl⟩ rfl (by decide) rfl rfl (Nat.le_of_ble_eq_true rfl) (by omega) ?_
  refine V_aload_n hK dL_law_291 rfl (by decide) ?_
  refine V_s2 hK (t := [.long xa]) (hRa V2) dL_law_292 lz_1077 (Or.inl (Nat.le_of_ble_eq_true rfl)) mL_all ⟨rfl, rfl⟩ rfl (by decide) rfl rfl (Nat.le_of_ble_eq_true rfl) (by omega) ?_
  refine V_lcmp hK dL_law_295 ?_
  refine V_ifne hK (tg := 343) dL_law_296 (by decide) (fun c => absurd (lg_self _) c) (fun c_296 => ?_)
  refine V_aload_n hK dL_law_299 rfl (by decide) ?_
  refine V_v1 hK (t := []) (isStopped_ok (d := 0) allG.core hst300).c dL_law_300 lz_642 (Nat.le_of_ble_eq_true rfl) mX9_isStopped ⟨rfl, rfl⟩ rfl (by decide) rfl rfl (Nat.le_of_ble_eq_true rfl) (by omega) ?_
  refine V_ifne hK (tg := 343) dL_law_303 (by decide) (fun c => absurd h12 c) (fun c_303 => ?_)
  refine V_aload_n hK dL_law_306 rfl (by decide) ?_
  refine V_v1 hK (t := []) (isInStep_ok (d := 0) allG his307).c dL_law_307 lz_646 (Nat.le_of_ble_eq_true rfl) mX9_isInStep ⟨rfl, rfl⟩ rfl (by decide) rfl rfl (Nat.le_of_ble_eq_true rfl) (by omega) ?_
  refine V_ifeq hK (tg := 343) dL_law_310 (by decide) (fun c => absurd (i1.symm.trans c) (by decide)) (fun c_310 => ?_)
  refine V_aload_n hK dL_law_313 rfl (by decide) ?_
  refine V_v1 hK (t := []) hRf.c dL_law_314 lz_606 (Nat.le_of_ble_eq_true rfl) mX9_fail ⟨rfl, rfl⟩ rfl (by decide) rfl rfl (Nat.le_of_ble_eq_true rfl) (by omega) ?_
  refine V_ifeq hK (tg := 343) dL_law_317 (by decide) (fun c => absurd c (by decide)) (fun c_317 => ?_)
  refine V_aload_n hK dL_law_320 rfl (by decide) ?_
  refine V_v1 hK (t := []) (isInStep_ok (d := 0) allG his321).c dL_law_321 lz_646 (Nat.le_of_ble_eq_true rfl) mX9_isInStep ⟨rfl, rfl⟩ rfl (by decide) rfl rfl (Nat.le_of_ble_eq_true rfl) (by omega) ?_
  refine V_ifne hK (tg := 343) dL_law_324 (by decide) (fun c => absurd i2 c) (fun c_324 => ?_)
  refine V_aload_n hK dL_law_327 rfl (by decide) ?_
  refine V_s1 hK (t := []) (hRa W1) dL_law_328 lz_1077 (Or.inl (Nat.le_of_ble_eq_true rfl)) mL_all ⟨rfl, rfl⟩ rfl (by decide) rfl rfl (Nat.le_of_ble_eq_true rfl) (by omega) ?_
  refine V_aload_n hK dL_law_331 rfl (by decide) ?_
  refine V_s2 hK (t := [.long xa]) (hRa V2) dL_law_332 lz_1077 (Or.inl (Nat.le_of_ble_eq_true rfl)) mL_all ⟨rfl, rfl⟩ rfl (by decide) rfl rfl (Nat.le_of_ble_eq_true rfl) (by omega) ?_
  refine V_lcmp hK dL_law_335 ?_
  refine V_ifne hK (tg := 343) dL_law_336 (by decide) (fun c => absurd (lg_self _) c) (fun c_336 => ?_)
  refine V_iconst hK (v := 1) dL_law_339 (by decide) ?_
  refine V_goto hK (tg := 344) dL_law_340 (by decide) ?_
  refine V_istore_n hK (L' := [some (.ref 1000), some (.ref 0), some (.ref 410), some (.int 1), some (.int k4), o5, none, none, none, none, none, none, none, none, none, none]) dL_law_344 rfl (Nat.le_of_ble_eq_true rfl) ?_
  refine V_aload_n hK dL_law_345 rfl (by decide) ?_
  refine V_iconst hK (v := 1) dL_law_346 (by decide) ?_
  refine V_v1 hK (t := []) hR3.c dL_law_347 lz_365 (Nat.le_of_ble_eq_true rfl) mX9_pass ⟨rfl, rfl⟩ rfl (by decide) rfl rfl (Nat.le_of_ble_eq_true rfl) (by omega) ?_
  refine V_pop hK dL_law_350 rfl ?_
  refine V_aload_n hK dL_law_351 rfl (by decide) ?_
  refine V_iconst hK (v := 1) dL_law_352 (by decide) ?_
  refine V_v2 hK (t := []) hR4.c dL_law_353 lz_365 (Nat.le_of_ble_eq_true rfl) mX9_pass ⟨rfl, rfl⟩ rfl (by decide) rfl rfl (Nat.le_of_ble_eq_true rfl) (by omega) ?_
  refine V_pop hK dL_law_356 rfl ?_
  refine V_iconst hK (v := 0) dL_law_357 (by decide) ?_
  refine V_istore hK (L' := [some (.ref 1000), some (.ref 0), some (.ref 410), some (.int 1), some (.int 0), o5, none, none, none, none, none, none, none, none, none, none]) dL_law_358 rfl (Nat.le_of_ble_eq_true rfl) ?_
  exact g360 hK hL 6 0 (nw + 1 + 1) _ _ M4 Y1 Y2 rfl (by omega) (by omega) hW4 (y2.trans w1) y1.1 y3 (z2.trans v2) z1.1 z3
theorem g106 (hK : LK xs Lx 20000 K) (hL : Lx < 2 ^ 31) {n s t : Nat} : ∀ (m i nw q : Nat) (o5 : Option Value) (Mc U1 U2 : Mem), i + m = 16 → q ≤ 150 + 30 * i → nw ≤ 20 * i → WS Mc n s t nw → U1.1 395 1 = 1 → U1.1 395 3 = 0 → U1.1 395 4 = 0 → U2.1 395 1 = 1 → U2.1 395 3 = 0 → U2.1 395 4 = 0 → K 106 [some (.ref 1000), some (.ref 0), some (.ref 410), some (.int 1), some (.int (nI i)), o5, none, none, none, none, none, none, none, none, none, none] [] (mx Mc U1) (mx Mc U2) q := by
  intro m
  induction m with
  | zero =>
    intro i nw q o5 Mc U1 U2 hi hq hnw hW a1 a3 a4 b1 b3 b4
    have e : i = 16 := by omega
    refine V_iload hK dL_law_106 rfl ?_
    refine V_bipush hK (v := 16) dL_law_108 (by decide) ?_
    refine V_icge hK (tg := 219) dL_law_110 (by decide) (fun c_110 => ?_) (fun c => absurd (by rw [e]; exact Int32.le_refl _) c)
    exact g219 hK hL hW (by omega) a1 a3 a4 b1 b3 b4 (by omega)
  | succ m ih =>
    intro i nw q o5 Mc U1 U2 hi hq hnw hW a1 a3 a4 b1 b3 b4
    have hlt : i < 16 := by omega
    refine V_iload hK dL_law_106 rfl ?_
    refine V_bipush hK (v := 16) dL_law_108 (by decide) ?_
    refine V_icge hK (tg := 219) dL_law_110 (by decide) (fun c => absurd c (by rw [show (16 : Int32) = nI 16 from rfl]; exact nI_ge hlt (by omega))) (fun c_110 => ?_)
    refine V_iload_n hK dL_law_113 rfl ?_
    refine V_ifeq hK (tg := 219) dL_law_114 (by decide) (fun c => absurd c (by decide)) (fun c_114 => ?_)
    refine V_aload_n hK dL_law_117 rfl (by decide) ?_
    refine V_aload_n hK dL_law_118 rfl (by decide) ?_
    refine V_sipush hK (v := 240) dL_law_119 (by decide) ?_
    refine V_iconst hK (v := 4) dL_law_122 (by decide) ?_
    refine V_iload hK dL_law_123 rfl ?_
    refine V_imul hK dL_law_125 ?_
    rw [show (4 * (nI i) : Int32) = nI (4 * i) from nI_mul _ _]
    refine V_iadd hK dL_law_126 ?_
    rw [show (240 + (nI (4 * i)) : Int32) = nI (240 + (4 * i)) from nI_add _ _]
    obtain ⟨Mh, hWh, -, hRh⟩ := happens_mx (G := GX xs Lx) (d := 0) allG hL hW (i := (240 + (4 * i))) (by omega)
    refine V_s1 hK (t := []) (hRh U1).c dL_law_127 lz_1094 (Or.inl (Nat.le_of_ble_eq_true rfl)) mL_happens ⟨rfl, rfl⟩ rfl (by decide) rfl rfl (Nat.le_of_ble_eq_true rfl) (by omega) ?_
    refine V_aload_n hK dL_law_130 rfl (by decide) ?_
    refine V_aload_n hK dL_law_131 rfl (by decide) ?_
    refine V_sipush hK (v := 240) dL_law_132 (by decide) ?_
    refine V_iconst hK (v := 4) dL_law_135 (by decide) ?_
    refine V_iload hK dL_law_136 rfl ?_
    refine V_imul hK dL_law_138 ?_
    rw [show (4 * (nI i) : Int32) = nI (4 * i) from nI_mul _ _]
    refine V_iadd hK dL_law_139 ?_
    rw [show (240 + (nI (4 * i)) : Int32) = nI (240 + (4 * i)) from nI_add _ _]
    refine V_s2 hK (t := []) (hRh U2).c dL_law_140 lz_1094 (Or.inl (Nat.le_of_ble_eq_true rfl)) mL_happens ⟨rfl, rfl⟩ rfl (by decide) rfl rfl (Nat.le_of_ble_eq_true rfl) (by omega) ?_
    refine V_iconst hK (v := 1) dL_law_143 (by decide) ?_
    refine V_aload_n hK dL_law_144 rfl (by decide) ?_
    refine V_sipush hK (v := 400) dL_law_145 (by decide) ?_
    refine V_iload hK dL_law_148 rfl ?_
    refine V_iadd hK dL_law_150 ?_
    rw [show (400 + (nI i) : Int32) = nI (400 + i) from nI_add _ _]
    refine V_bipush hK (v := 12) dL_law_151 (by decide) ?_
    obtain ⟨x153, hx153, hp153⟩ := pick_ok (G := GX xs Lx) (i := (400 + i)) (m := 12) hL (by omega) (by omega) (by omega)
    refine V_s1 hK (t := [.int 1]) (hp153 0 _).c dL_law_153 lz_658 (Or.inl (Nat.le_of_ble_eq_true rfl)) mL_pick ⟨rfl, rfl⟩ rfl (by decide) rfl rfl (Nat.le_of_ble_eq_true rfl) (by omega) ?_
    refine V_iadd hK dL_law_156 ?_
    rw [show (1 + (nI x153) : Int32) = nI (1 + x153) from nI_add _ _]
    refine V_istore hK (L' := [some (.ref 1000), some (.ref 0), some (.ref 410), some (.int 1), some (.int (nI i)), some (.int (nI (1 + x153))), none, none, none, none, none, none, none, none, none, none]) dL_law_157 rfl (Nat.le_of_ble_eq_true rfl) ?_
    refine V_aload_n hK dL_law_159 rfl (by decide) ?_
    refine V_bipush hK (v := 13) dL_law_160 (by decide) ?_
    refine V_iload hK dL_law_162 rfl ?_
    refine V_iconst hK (v := 0) dL_law_164 (by decide) ?_
    refine V_iconst hK (v := 0) dL_law_165 (by decide) ?_
    refine V_iconst hK (v := 0) dL_law_166 (by decide) ?_
    refine V_iconst hK (v := 0) dL_law_167 (by decide) ?_
    refine V_iconst hK (v := 0) dL_law_168 (by decide) ?_
    obtain ⟨Mp, hWp, -, hpp⟩ := deed13_ok (G := GX xs Lx) (d := 0) allG (u := (1 + x153)) (by omega) (by omega) (by omega) hWh
    obtain ⟨V1, p1, p2, p3, -, hR1⟩ := hpp U1 (sbk0 a3 (by rw [a1]; decide) a4)
    obtain ⟨V2, r1, r2, r3, -, hR2⟩ := hpp U2 (sbk0 b3 (by rw [b1]; decide) b4)
    refine V_s1 hK (t := []) hR1 dL_law_169 lz_669 (Or.inr rfl) mdD ⟨rfl, rfl⟩ rfl (by decide) rfl rfl (Nat.le_of_ble_eq_true rfl) (by omega) ?_
    refine V_aload_n hK dL_law_172 rfl (by decide) ?_
    refine V_bipush hK (v := 13) dL_law_173 (by decide) ?_
    refine V_iload hK dL_law_175 rfl ?_
    refine V_iconst hK (v := 0) dL_law_177 (by decide) ?_
    refine V_iconst hK (v := 0) dL_law_178 (by decide) ?_
    refine V_iconst hK (v := 0) dL_law_179 (by decide) ?_
    refine V_iconst hK (v := 0) dL_law_180 (by decide) ?_
    refine V_iconst hK (v := 0) dL_law_181 (by decide) ?_
    refine V_s2 hK (t := [.int (nI (nw + (1 + x153)))]) hR2 dL_law_182 lz_669 (Or.inr rfl) mdD ⟨rfl, rfl⟩ rfl (by decide) rfl rfl (Nat.le_of_ble_eq_true rfl) (by omega) ?_
    refine V_icne hK (tg := 211) dL_law_185 (by decide) (fun c => absurd rfl c) (fun c_185 => ?_)
    refine V_aload_n hK dL_law_188 rfl (by decide) ?_
    obtain ⟨xa, ca, hca, hRa⟩ := all_mx (G := GX xs Lx) (d := 0) allG hWp
    refine V_s1 hK (t := []) (hRa V1) dL_law_189 lz_1077 (Or.inl (Nat.le_of_ble_eq_true rfl)) mL_all ⟨rfl, rfl⟩ rfl (by decide) rfl rfl (Nat.le_of_ble_eq_true rfl) (by omega) ?_
    refine V_aload_n hK dL_law_192 rfl (by decide) ?_
    refine V_s2 hK (t := [.long xa]) (hRa V2) dL_law_193 lz_1077 (Or.inl (Nat.le_of_ble_eq_true rfl)) mL_all ⟨rfl, rfl⟩ rfl (by decide) rfl rfl (Nat.le_of_ble_eq_true rfl) (by omega) ?_
    refine V_lcmp hK dL_law_196 ?_
    refine V_ifne hK (tg := 211) dL_law_197 (by decide) (fun c => absurd (lg_self _) c) (fun c_197 => ?_)
    refine V_aload_n hK dL_law_200 rfl (by decide) ?_
    obtain ⟨cw, hcw, hRw⟩ := isWhole_mx (G := GX xs Lx) (d := 0) allG hWp
    refine V_s1 hK (t := []) (hRw V1) dL_law_201 lz_1083 (Or.inl (Nat.le_of_ble_eq_true rfl)) mL_isWhole ⟨rfl, rfl⟩ rfl (by decide) rfl rfl (Nat.le_of_ble_eq_true rfl) (by omega) ?_
    refine V_ifeq hK (tg := 211) dL_law_204 (by decide) (fun c => absurd c (by decide)) (fun c_204 => ?_)
    refine V_iconst hK (v := 1) dL_law_207 (by decide) ?_
    refine V_goto hK (tg := 212) dL_law_208 (by decide) ?_
    refine V_istore_n hK (L' := [some (.ref 1000), some (.ref 0), some (.ref 410), some (.int 1), some (.int (nI i)), some (.int (nI (1 + x153))), none, none, none, none, none, none, none, none, none, none]) dL_law_212 rfl (Nat.le_of_ble_eq_true rfl) ?_
    refine V_iinc hK (v := nI (i + 1)) (L' := [some (.ref 1000), some (.ref 0), some (.ref 410), some (.int 1), some (.int (nI (i + 1))), some (.int (nI (1 + x153))), none, none, none, none, none, none, none, none, none, none]) dL_law_213 rfl (inc1 _) rfl ?_
    refine V_goto hK (tg := 106) dL_law_216 (by decide) ?_
    exact ih (i + 1) _ _ _ _ _ _ (by omega) (by omega) (by omega) hWp (p2.trans a1) p1.1 p3 (r2.trans b1) r1.1 r3
theorem g16 (hK : LK xs Lx 20000 K) (hL : Lx < 2 ^ 31) : K 16 [some (.ref 1000), some (.ref 0), some (.ref 410), none, none, none, none, none, none, none, none, none, none, none, none, none] [] v0 v0 0 := by
  have hA : All (GX xs Lx) := allG
  obtain ⟨vb, Mb, cb, hRb, rfl, hcb, ⟨sD, hDI⟩, hFb⟩ := build_ok (G := GX xs Lx) (M := v0) (d := 0) hA.core hL
  obtain ⟨hWb, hsb⟩ := WS_v0.df hFb
  obtain ⟨b1, b3, b4⟩ := v0_sb
  obtain ⟨x5, Mt, c5, hc5, hR5, n, s, t, hWt, t1, t3, t4⟩ := deed5_ok (G := GX xs Lx) (d := 0) hA hWb hDI ((hsb 1).trans b1) ((hsb 3).trans b3) ((hsb 4).trans b4)
  obtain ⟨x70, hx70, hp70⟩ := pick_ok (G := GX xs Lx) (i := 0) (m := 6) hL (by omega) (by omega) (by omega)
  obtain ⟨x8, hR8⟩ := deed8_ok (G := GX xs Lx) (d := 0) (M := Mt) hA.core (t := 0) (by decide) (nI (1 + x70)) ⟨nI_le (a := 0) (by omega) (by omega), nI_le (b := 100) (by omega) (by decide)⟩
  have hW8 := hWt.per (k := 0) (by decide) (p := nI (1 + x70))
  refine V_aload_n hK dL_law_16 rfl (by decide) ?_
  refine V_aload_n hK dL_law_17 rfl (by decide) ?_
  refine V_bipush hK (v := 10) dL_law_18 (by decide) ?_
  refine V_s1 hK (t := []) hRb dL_law_20 lz_1040 (Or.inl (Nat.le_of_ble_eq_true rfl)) mL_build ⟨rfl, rfl⟩ rfl (by decide) rfl rfl (Nat.le_of_ble_eq_true rfl) (by omega) ?_
  refine V_aload_n hK dL_law_23 rfl (by decide) ?_
  refine V_aload_n hK dL_law_24 rfl (by decide) ?_
  refine V_bipush hK (v := 10) dL_law_25 (by decide) ?_
  refine V_s2 hK (t := []) hRb dL_law_27 lz_1040 (Or.inl (Nat.le_of_ble_eq_true rfl)) mL_build ⟨rfl, rfl⟩ rfl (by decide) rfl rfl (Nat.le_of_ble_eq_true rfl) (by omega) ?_
  refine V_aload_n hK dL_law_30 rfl (by decide) ?_
  refine V_iconst hK (v := 5) dL_law_31 (by decide) ?_
  refine V_iconst hK (v := 0) dL_law_32 (by decide) ?_
  refine V_iconst hK (v := 0) dL_law_33 (by decide) ?_
  refine V_iconst hK (v := 0) dL_law_34 (by decide) ?_
  refine V_iconst hK (v := 0) dL_law_35 (by decide) ?_
  refine V_iconst hK (v := 0) dL_law_36 (by decide) ?_
  refine V_iconst hK (v := 0) dL_law_37 (by decide) ?_
  refine V_s1 hK (t := []) hR5 dL_law_38 lz_669 (Or.inr rfl) mdD ⟨rfl, rfl⟩ rfl (by decide) rfl rfl (Nat.le_of_ble_eq_true rfl) (by omega) ?_
  refine V_aload_n hK dL_law_41 rfl (by decide) ?_
  refine V_iconst hK (v := 5) dL_law_42 (by decide) ?_
  refine V_iconst hK (v := 0) dL_law_43 (by decide) ?_
  refine V_iconst hK (v := 0) dL_law_44 (by decide) ?_
  refine V_iconst hK (v := 0) dL_law_45 (by decide) ?_
  refine V_iconst hK (v := 0) dL_law_46 (by decide) ?_
  refine V_iconst hK (v := 0) dL_law_47 (by decide) ?_
  refine V_iconst hK (v := 0) dL_law_48 (by decide) ?_
  refine V_s2 hK (t := [.int x5]) hR5 dL_law_49 lz_669 (Or.inr rfl) mdD ⟨rfl, rfl⟩ rfl (by decide) rfl rfl (Nat.le_of_ble_eq_true rfl) (by omega) ?_
  refine V_icne hK (tg := 59) dL_law_52 (by decide) (fun c => absurd rfl c) (fun c_52 => ?_)
  refine V_iconst hK (v := 1) dL_law_55 (by decide) ?_
  refine V_goto hK (tg := 60) dL_law_56 (by decide) ?_
  refine V_istore_n hK (L' := [some (.ref 1000), some (.ref 0), some (.ref 410), some (.int 1), none, none, none, none, none, none, none, none, none, none, none, none]) dL_law_60 rfl (Nat.le_of_ble_eq_true rfl) ?_
  refine V_aload_n hK dL_law_61 rfl (by decide) ?_
  refine V_bipush hK (v := 8) dL_law_62 (by decide) ?_
  refine V_iconst hK (v := 0) dL_law_64 (by decide) ?_
  refine V_iconst hK (v := 1) dL_law_65 (by decide) ?_
  refine V_aload_n hK dL_law_66 rfl (by decide) ?_
  refine V_iconst hK (v := 0) dL_law_67 (by decide) ?_
  refine V_bipush hK (v := 6) dL_law_68 (by decide) ?_
  refine V_s1 hK (t := [.int 1, .int 0, .int 8, .ref 0]) (hp70 0 _).c dL_law_70 lz_658 (Or.inl (Nat.le_of_ble_eq_true rfl)) mL_pick ⟨rfl, rfl⟩ rfl (by decide) rfl rfl (Nat.le_of_ble_eq_true rfl) (by omega) ?_
  refine V_iadd hK dL_law_73 ?_
  rw [show (1 + (nI x70) : Int32) = nI (1 + x70) from nI_add _ _]
  refine V_iconst hK (v := 0) dL_law_74 (by decide) ?_
  refine V_iconst hK (v := 0) dL_law_75 (by decide) ?_
  refine V_iconst hK (v := 0) dL_law_76 (by decide) ?_
  refine V_iconst hK (v := 0) dL_law_77 (by decide) ?_
  refine V_s1 hK (t := []) hR8 dL_law_78 lz_669 (Or.inr rfl) mdD ⟨rfl, rfl⟩ rfl (by decide) rfl rfl (Nat.le_of_ble_eq_true rfl) (by omega) ?_
  refine V_pop hK dL_law_81 rfl ?_
  refine V_aload_n hK dL_law_82 rfl (by decide) ?_
  refine V_bipush hK (v := 8) dL_law_83 (by decide) ?_
  refine V_iconst hK (v := 0) dL_law_85 (by decide) ?_
  refine V_iconst hK (v := 1) dL_law_86 (by decide) ?_
  refine V_aload_n hK dL_law_87 rfl (by decide) ?_
  refine V_iconst hK (v := 0) dL_law_88 (by decide) ?_
  refine V_bipush hK (v := 6) dL_law_89 (by decide) ?_
  refine V_s1 hK (t := [.int 1, .int 0, .int 8, .ref 410]) (hp70 0 _).c dL_law_91 lz_658 (Or.inl (Nat.le_of_ble_eq_true rfl)) mL_pick ⟨rfl, rfl⟩ rfl (by decide) rfl rfl (Nat.le_of_ble_eq_true rfl) (by omega) ?_
  refine V_iadd hK dL_law_94 ?_
  rw [show (1 + (nI x70) : Int32) = nI (1 + x70) from nI_add _ _]
  refine V_iconst hK (v := 0) dL_law_95 (by decide) ?_
  refine V_iconst hK (v := 0) dL_law_96 (by decide) ?_
  refine V_iconst hK (v := 0) dL_law_97 (by decide) ?_
  refine V_iconst hK (v := 0) dL_law_98 (by decide) ?_
  refine V_s2 hK (t := []) hR8 dL_law_99 lz_669 (Or.inr rfl) mdD ⟨rfl, rfl⟩ rfl (by decide) rfl rfl (Nat.le_of_ble_eq_true rfl) (by omega) ?_
  refine V_pop hK dL_law_102 rfl ?_
  refine V_iconst hK (v := 0) dL_law_103 (by decide) ?_
  refine V_istore hK (L' := [some (.ref 1000), some (.ref 0), some (.ref 410), some (.int 1), some (.int 0), none, none, none, none, none, none, none, none, none, none, none]) dL_law_104 rfl (Nat.le_of_ble_eq_true rfl) ?_
  have k1 := g106 (n := n) (s := s) (t := t) hK hL 16 0 0 (0 + cb + cb + c5 + c5 + 0 + 0 + 0 + 0) none (pI Mt (408 + 0) 0 (nI (1 + x70))) (pI Mt (408 + 0) 0 (nI (1 + x70))) (pI Mt (408 + 0) 0 (nI (1 + x70))) rfl (by omega) (by omega) hW8 t1 t3 t4 t1 t3 t4
  rw [mx_self] at k1
  exact k1
end SP46
