section SP23
variable {G : MG} {d : Nat} {M M' : Mem}
theorem nI_mul (a b : Nat) : nI a * nI b = nI (a * b) := (Int32.ofNat_mul a b).symm
theorem dec1 (n : Nat) : nI (n + 1) + Int32.ofInt (-1) = nI n := by
  rw [show Int32.ofInt (-1) = -1 from rfl, ← Int32.sub_eq_add_neg, nI_pred]
theorem i2c_ok (x : Int32) : ∃ n, n < 65536 ∧ ((x : Int32).toUInt32 % 65536).toInt32 = nI n := i2c_nI x
/-- a call of the catching method: some int, at most one thrown -/
def DA (G : MG) (d : Nat) (As : List Value) (M : Mem) (P : Mem → Prop) : Prop := ∃ x M' c, c ≤ 1 ∧ RetC G d 200 As M (some (.int x)) M' c ∧ P M'
theorem deed0_any (hG : Core G) {s : Nat} (hD : DI M s) (a b c e f g : Int32) : DA G (d + 8) [.ref 0, .int 0, .int a, .int b, .int c, .int e, .int f, .int g] M (fun M' => DI M' s ∧ Fr dfB M M') := by
  obtain ⟨ch, hch, ec⟩ := i2c_ok b
  have h := rung_any (d := d) hG hch hD a c e
  rw [← ec] at h
  rcases h.cases with ⟨x, M', hR, hP⟩ | ⟨x, M', hx, hR, hP⟩
  · exact ⟨x, M', 0, by omega, deed_ret (plain0_r hG a b c e f g hR), hP⟩
  · exact ⟨_, M', 1, by omega, deed_thr hx (plain0_t hG a b c e f g hR), hP⟩
theorem deed1_any (hG : Core G) {s : Nat} (hD : DI M s) (a b c e f g : Int32) : DA G (d + 8) [.ref 0, .int 1, .int a, .int b, .int c, .int e, .int f, .int g] M (fun M' => DI M' s ∧ Fr dfB M M') := by
  have h := contact_any (d := d) hG hD a ((b : Int32).toUInt32 % 65536).toInt32 c
  rcases h.cases with ⟨x, M', hR, hP⟩ | ⟨x, M', hx, hR, hP⟩
  · exact ⟨x, M', 0, by omega, deed_ret (plain1_r hG a b c e f g hR), hP⟩
  · exact ⟨_, M', 1, by omega, deed_thr hx (plain1_t hG a b c e f g hR), hP⟩
theorem deed3_any (hG : Core G) {s : Nat} (hD : DI M s) (a b c e f g : Int32) : DA G (d + 8) [.ref 0, .int 3, .int a, .int b, .int c, .int e, .int f, .int g] M (fun M' => DI M' s ∧ Fr dfB M M') := by
  have h := action_any (d := d) hG hD a ((b : Int32).toUInt32 % 65536).toInt32 c e
  rcases h.cases with ⟨x, M', hR, hP⟩ | ⟨x, M', hx, hR, hP⟩
  · exact ⟨x, M', 0, by omega, deed_ret (plain3_r hG a b c e f g hR), hP⟩
  · exact ⟨_, M', 1, by omega, deed_thr hx (plain3_t hG a b c e f g hR), hP⟩
theorem deed4_any (hG : Core G) {s : Nat} (hD : DI M s) (a b c e f g : Int32) : DA G (d + 8) [.ref 0, .int 4, .int a, .int b, .int c, .int e, .int f, .int g] M (fun M' => DI M' s ∧ Fr dfB M M') := by
  by_cases hf : g = 1
  · have h := transition_any (d := d) hG hD a b c e f 1 (Or.inr rfl)
    rcases h.cases with ⟨x, M', hR, hP⟩ | ⟨x, M', hx, hR, hP⟩
    · exact ⟨x, M', 0, by omega, deed_ret (plain4_r_1 hG a b c e f g hf hR), hP⟩
    · exact ⟨_, M', 1, by omega, deed_thr hx (plain4_t_1 hG a b c e f g hf hR), hP⟩
  · have h := transition_any (d := d) hG hD a b c e f 0 (Or.inl rfl)
    rcases h.cases with ⟨x, M', hR, hP⟩ | ⟨x, M', hx, hR, hP⟩
    · exact ⟨x, M', 0, by omega, deed_ret (plain4_r_0 hG a b c e f g hf hR), hP⟩
    · exact ⟨_, M', 1, by omega, deed_thr hx (plain4_t_0 hG a b c e f g hf hR), hP⟩
theorem build_ok (hG : Core G) (hL : G.2.2 < 2 ^ 31) : ∃ v M' c, RetC G (d + 9) 123 [.ref 0, .ref 1000, .int (nI 10)] M v M' c ∧ (v = none ∧ c ≤ 60 ∧ (∃ s, DI M' s) ∧ Fr dfB M M') := by
  have b3 : ∀ c S s o3 o6 o7 o8 o9 o10 M1 q, c ≤ 5 → 0 < S → S ≤ 5 → q + c ≤ 60 → DI M1 s → Fr dfB M M1 → E G (d + 8) 123 (379, [some (.ref 0), some (.ref 1000), some (.int (nI 10)), o3, some (.int (nI S)), some (.int (nI c)), o6, o7, o8, o9, o10], [], M1, q) (fun r => ∃ v M' c, r = (.inl v, M', c) ∧ (v = none ∧ c ≤ 60 ∧ (∃ s, DI M' s) ∧ Fr dfB M M')) := by
    intro c
    induction c with
    | zero =>
      intro S s o3 o6 o7 o8 o9 o10 M1 q hc5 hS0 hS hq hD hF
      refine E_iload fL_build_379 rfl ?_
      refine E_ifle (tg := 499) fL_build_381 (by decide) (fun c_381 => ?_) (fun c => absurd (Int32.le_refl _) c)
      exact R_vret fL_build_499 mL_build rfl ⟨none, M1, q, rfl, rfl, by omega, ⟨s, hD⟩, hF⟩
    | succ c ih =>
      intro S s o3 o6 o7 o8 o9 o10 M1 q hc5 hS0 hS hq hD hF
      have t4 : ∀ x1 x2 x3 x4 : Int32, E G (d + 8) 123 (470, [some (.ref 0), some (.ref 1000), some (.int (nI 10)), o3, some (.int (nI S)), some (.int (nI (c + 1))), some (.int (nI ((10 + 160) + (6 * (c + 1))))), o7, o8, o9, o10], [.int x4, .int x3, .int x2, .int x1, .int 4, .ref 0], M1, q) (fun r => ∃ v M' c, r = (.inl v, M', c) ∧ (v = none ∧ c ≤ 60 ∧ (∃ s, DI M' s) ∧ Fr dfB M M')) := by
        intro x1 x2 x3 x4
        refine E_aload_n fL_build_470 rfl (by decide) ?_
        refine E_iload fL_build_471 rfl ?_
        refine E_iconst (v := 4) fL_build_473 (by decide) ?_
        refine E_iadd fL_build_474 ?_
        rw [show ((nI ((10 + 160) + (6 * (c + 1)))) + 4 : Int32) = nI (((10 + 160) + (6 * (c + 1))) + 4) from nI_add _ _]
        refine E_bipush (v := 32) fL_build_475 (by decide) ?_
        obtain ⟨x477, hx477, hp477⟩ := pick_ok (i := (((10 + 160) + (6 * (c + 1))) + 4)) (m := 32) hL (by omega) (by omega) (by omega)
        refine E_callS (t := [.int x4, .int x3, .int x2, .int x1, .int 4, .ref 0]) (hp477 _ _) fL_build_477 (by decide) mL_pick ⟨rfl, rfl⟩ rfl rfl (Nat.le_of_ble_eq_true rfl) ?_
        refine E_aload_n fL_build_480 rfl (by decide) ?_
        refine E_iload fL_build_481 rfl ?_
        refine E_iconst (v := 5) fL_build_483 (by decide) ?_
        refine E_iadd fL_build_484 ?_
        rw [show ((nI ((10 + 160) + (6 * (c + 1)))) + 5 : Int32) = nI (((10 + 160) + (6 * (c + 1))) + 5) from nI_add _ _]
        refine E_iconst (v := 2) fL_build_485 (by decide) ?_
        obtain ⟨x486, hx486, hp486⟩ := pick_ok (i := (((10 + 160) + (6 * (c + 1))) + 5)) (m := 2) hL (by omega) (by omega) (by omega)
        refine E_callS (t := [.int (nI x477), .int x4, .int x3, .int x2, .int x1, .int 4, .ref 0]) (hp486 _ _) fL_build_486 (by decide) mL_pick ⟨rfl, rfl⟩ rfl rfl (Nat.le_of_ble_eq_true rfl) ?_
        obtain ⟨y489, N489, c489, hc489, hR489, D489, F489⟩ := deed4_any (d := d) (M := M1) hG hD x1 x2 x3 x4 (nI x477) (nI x486)
        refine E_callSc (t := []) hR489 fL_build_489 (by decide) mdD ⟨rfl, rfl⟩ rfl rfl (Nat.le_of_ble_eq_true rfl) ?_
        refine E_pop fL_build_492 rfl ?_
        skip
        refine E_iinc (v := (nI c)) (L' := [some (.ref 0), some (.ref 1000), some (.int (nI 10)), o3, some (.int (nI S)), some (.int (nI c)), some (.int (nI ((10 + 160) + (6 * (c + 1))))), o7, o8, o9, o10]) fL_build_493 rfl (dec1 _) rfl ?_
        refine E_goto (tg := 379) fL_build_496 (by decide) ?_
        exact ih S s _ _ _ _ _ _ N489 _ (by omega) hS0 hS (by omega) D489 (hF.tr F489)
      have t2 : ∀ x1 x2 : Int32, E G (d + 8) 123 (433, [some (.ref 0), some (.ref 1000), some (.int (nI 10)), o3, some (.int (nI S)), some (.int (nI (c + 1))), some (.int (nI ((10 + 160) + (6 * (c + 1))))), o7, o8, o9, o10], [.int x2, .int x1, .int 4, .ref 0], M1, q) (fun r => ∃ v M' c, r = (.inl v, M', c) ∧ (v = none ∧ c ≤ 60 ∧ (∃ s, DI M' s) ∧ Fr dfB M M')) := by
        intro x1 x2
        refine E_aload_n fL_build_433 rfl (by decide) ?_
        refine E_iload fL_build_434 rfl ?_
        refine E_iconst (v := 3) fL_build_436 (by decide) ?_
        refine E_iadd fL_build_437 ?_
        rw [show ((nI ((10 + 160) + (6 * (c + 1)))) + 3 : Int32) = nI (((10 + 160) + (6 * (c + 1))) + 3) from nI_add _ _]
        refine E_iload fL_build_438 rfl ?_
        obtain ⟨x440, hx440, hp440⟩ := pick_ok (i := (((10 + 160) + (6 * (c + 1))) + 3)) (m := S) hL (by omega) (by omega) (by omega)
        refine E_callS (t := [.int x2, .int x1, .int 4, .ref 0]) (hp440 _ _) fL_build_440 (by decide) mL_pick ⟨rfl, rfl⟩ rfl rfl (Nat.le_of_ble_eq_true rfl) ?_
        refine E_aload_n fL_build_443 rfl (by decide) ?_
        refine E_iload fL_build_444 rfl ?_
        refine E_iconst (v := 1) fL_build_446 (by decide) ?_
        refine E_iadd fL_build_447 ?_
        rw [show ((nI ((10 + 160) + (6 * (c + 1)))) + 1 : Int32) = nI (((10 + 160) + (6 * (c + 1))) + 1) from nI_add _ _]
        refine E_iconst (v := 4) fL_build_448 (by decide) ?_
        obtain ⟨x449, hx449, hp449⟩ := pick_ok (i := (((10 + 160) + (6 * (c + 1))) + 1)) (m := 4) hL (by omega) (by omega) (by omega)
        refine E_callS (t := [.int (nI x440), .int x2, .int x1, .int 4, .ref 0]) (hp449 _ _) fL_build_449 (by decide) mL_pick ⟨rfl, rfl⟩ rfl rfl (Nat.le_of_ble_eq_true rfl) ?_
        refine E_iconst (v := 1) fL_build_452 (by decide) ?_
        refine E_icne (tg := 469) fL_build_453 (by decide) (fun c_453 => ?_) (fun c_453 => ?_)
        · refine E_iconst (v := (-1)) fL_build_469 (by decide) ?_
          exact t4 _ _ _ _
        · refine E_aload_n fL_build_456 rfl (by decide) ?_
          refine E_iload fL_build_457 rfl ?_
          refine E_iconst (v := 2) fL_build_459 (by decide) ?_
          refine E_iadd fL_build_460 ?_
          rw [show ((nI ((10 + 160) + (6 * (c + 1)))) + 2 : Int32) = nI (((10 + 160) + (6 * (c + 1))) + 2) from nI_add _ _]
          refine E_iload fL_build_461 rfl ?_
          obtain ⟨x463, hx463, hp463⟩ := pick_ok (i := (((10 + 160) + (6 * (c + 1))) + 2)) (m := S) hL (by omega) (by omega) (by omega)
          refine E_callS (t := [.int (nI x440), .int x2, .int x1, .int 4, .ref 0]) (hp463 _ _) fL_build_463 (by decide) mL_pick ⟨rfl, rfl⟩ rfl rfl (Nat.le_of_ble_eq_true rfl) ?_
          refine E_goto (tg := 470) fL_build_466 (by decide) ?_
          exact t4 _ _ _ _
      refine E_iload fL_build_379 rfl ?_
      refine E_ifle (tg := 499) fL_build_381 (by decide) (fun z => absurd z (nI_nle (n := c + 1) (by omega) (by omega))) (fun c_381 => ?_)
      refine E_iload_n fL_build_384 rfl ?_
      refine E_sipush (v := 160) fL_build_385 (by decide) ?_
      refine E_iadd fL_build_388 ?_
      rw [show ((nI 10) + 160 : Int32) = nI (10 + 160) from nI_add _ _]
      refine E_bipush (v := 6) fL_build_389 (by decide) ?_
      refine E_iload fL_build_391 rfl ?_
      refine E_imul fL_build_393 ?_
      rw [show (6 * (nI (c + 1)) : Int32) = nI (6 * (c + 1)) from nI_mul _ _]
      refine E_iadd fL_build_394 ?_
      rw [show ((nI (10 + 160)) + (nI (6 * (c + 1))) : Int32) = nI ((10 + 160) + (6 * (c + 1))) from nI_add _ _]
      refine E_istore (L' := [some (.ref 0), some (.ref 1000), some (.int (nI 10)), o3, some (.int (nI S)), some (.int (nI (c + 1))), some (.int (nI ((10 + 160) + (6 * (c + 1))))), o7, o8, o9, o10]) fL_build_395 rfl (Nat.le_of_ble_eq_true rfl) ?_
      refine E_aload_n fL_build_397 rfl (by decide) ?_
      refine E_iconst (v := 4) fL_build_398 (by decide) ?_
      refine E_aload_n fL_build_399 rfl (by decide) ?_
      refine E_iload fL_build_400 rfl ?_
      refine E_iload fL_build_402 rfl ?_
      obtain ⟨x404, hx404, hp404⟩ := pick_ok (i := ((10 + 160) + (6 * (c + 1)))) (m := S) hL (by omega) (by omega) (by omega)
      refine E_callS (t := [.int 4, .ref 0]) (hp404 _ _) fL_build_404 (by decide) mL_pick ⟨rfl, rfl⟩ rfl rfl (Nat.le_of_ble_eq_true rfl) ?_
      refine E_aload_n fL_build_407 rfl (by decide) ?_
      refine E_iload fL_build_408 rfl ?_
      refine E_iconst (v := 1) fL_build_410 (by decide) ?_
      refine E_iadd fL_build_411 ?_
      rw [show ((nI ((10 + 160) + (6 * (c + 1)))) + 1 : Int32) = nI (((10 + 160) + (6 * (c + 1))) + 1) from nI_add _ _]
      refine E_iconst (v := 4) fL_build_412 (by decide) ?_
      obtain ⟨x413, hx413, hp413⟩ := pick_ok (i := (((10 + 160) + (6 * (c + 1))) + 1)) (m := 4) hL (by omega) (by omega) (by omega)
      refine E_callS (t := [.int (nI x404), .int 4, .ref 0]) (hp413 _ _) fL_build_413 (by decide) mL_pick ⟨rfl, rfl⟩ rfl rfl (Nat.le_of_ble_eq_true rfl) ?_
      refine E_ifne (tg := 432) fL_build_416 (by decide) (fun c_416 => ?_) (fun c_416 => ?_)
      · refine E_iconst (v := (-1)) fL_build_432 (by decide) ?_
        exact t2 _ _
      · refine E_aload_n fL_build_419 rfl (by decide) ?_
        refine E_iload fL_build_420 rfl ?_
        refine E_iconst (v := 2) fL_build_422 (by decide) ?_
        refine E_iadd fL_build_423 ?_
        rw [show ((nI ((10 + 160) + (6 * (c + 1)))) + 2 : Int32) = nI (((10 + 160) + (6 * (c + 1))) + 2) from nI_add _ _]
        refine E_iload fL_build_424 rfl ?_
        obtain ⟨x426, hx426, hp426⟩ := pick_ok (i := (((10 + 160) + (6 * (c + 1))) + 2)) (m := S) hL (by omega) (by omega) (by omega)
        refine E_callS (t := [.int (nI x404), .int 4, .ref 0]) (hp426 _ _) fL_build_426 (by decide) mL_pick ⟨rfl, rfl⟩ rfl rfl (Nat.le_of_ble_eq_true rfl) ?_
        refine E_goto (tg := 433) fL_build_429 (by decide) ?_
        exact t2 _ _
  have b2 : ∀ m k S o3 o6 o7 o8 o9 o10 M1 q, k + m = S → 0 < S → S ≤ 5 → q + m ≤ 50 → DI M1 k → Fr dfB M M1 → E G (d + 8) 123 (287, [some (.ref 0), some (.ref 1000), some (.int (nI 10)), o3, some (.int (nI S)), some (.int (nI k)), o6, o7, o8, o9, o10], [], M1, q) (fun r => ∃ v M' c, r = (.inl v, M', c) ∧ (v = none ∧ c ≤ 60 ∧ (∃ s, DI M' s) ∧ Fr dfB M M')) := by
    intro m
    induction m with
    | zero =>
      intro k S o3 o6 o7 o8 o9 o10 M1 q hk hS0 hS hq hD hF
      have e : k = S := by omega
      refine E_iload fL_build_287 rfl ?_
      refine E_iload fL_build_289 rfl ?_
      refine E_icge (tg := 366) fL_build_291 (by decide) (fun c_291 => ?_) (fun c => absurd (by rw [e]; exact Int32.le_refl _) c)
      refine E_aload_n fL_build_366 rfl (by decide) ?_
      refine E_iload_n fL_build_367 rfl ?_
      refine E_sipush (v := 160) fL_build_368 (by decide) ?_
      refine E_iadd fL_build_371 ?_
      rw [show ((nI 10) + 160 : Int32) = nI (10 + 160) from nI_add _ _]
      refine E_bipush (v := 6) fL_build_372 (by decide) ?_
      obtain ⟨x374, hx374, hp374⟩ := pick_ok (i := (10 + 160)) (m := 6) hL (by omega) (by omega) (by omega)
      refine E_callS (t := []) (hp374 _ _) fL_build_374 (by decide) mL_pick ⟨rfl, rfl⟩ rfl rfl (Nat.le_of_ble_eq_true rfl) ?_
      refine E_istore (L' := [some (.ref 0), some (.ref 1000), some (.int (nI 10)), o3, some (.int (nI S)), some (.int (nI x374)), o6, o7, o8, o9, o10]) fL_build_377 rfl (Nat.le_of_ble_eq_true rfl) ?_
      exact b3 x374 S k _ _ _ _ _ _ M1 q (by omega) hS0 hS (by omega) hD hF
    | succ m ih =>
      intro k S o3 o6 o7 o8 o9 o10 M1 q hk hS0 hS hq hD hF
      have hlt : k < S := by omega
      refine E_iload fL_build_287 rfl ?_
      refine E_iload fL_build_289 rfl ?_
      refine E_icge (tg := 366) fL_build_291 (by decide) (fun c => absurd c (nI_ge hlt (by omega))) (fun c_291 => ?_)
      refine E_aload_n fL_build_294 rfl (by decide) ?_
      obtain ⟨vs, N1, hRs, ⟨xs, rfl⟩, hD1, hF1⟩ := step_ok (d := d + 7) hG (show k < 12 by omega) hD
      refine E_callV (t := []) hRs fL_build_295 mX9_step (rc_obj (k0 hG) (by decide) (by decide)) ⟨by decide, rfl⟩ rfl rfl (Nat.le_of_ble_eq_true rfl) ?_
      refine E_pop fL_build_298 rfl ?_
      refine E_aload_n fL_build_299 rfl (by decide) ?_
      refine E_iconst (v := 3) fL_build_300 (by decide) ?_
      refine E_iload fL_build_301 rfl ?_
      refine E_ldcS fL_build_303 (by decide) ?_
      refine E_aload_n fL_build_305 rfl (by decide) ?_
      refine E_iload_n fL_build_306 rfl ?_
      refine E_sipush (v := 131) fL_build_307 (by decide) ?_
      refine E_iadd fL_build_310 ?_
      rw [show ((nI 10) + 131 : Int32) = nI (10 + 131) from nI_add _ _]
      refine E_iload fL_build_311 rfl ?_
      refine E_iadd fL_build_313 ?_
      rw [show ((nI (10 + 131)) + (nI k) : Int32) = nI ((10 + 131) + k) from nI_add _ _]
      refine E_iconst (v := 5) fL_build_314 (by decide) ?_
      obtain ⟨x315, hx315, hp315⟩ := pick_ok (i := ((10 + 131) + k)) (m := 5) hL (by omega) (by omega) (by omega)
      refine E_callS (t := [.ref 2002, .int (nI k), .int 3, .ref 0]) (hp315 _ _) fL_build_315 (by decide) mL_pick ⟨rfl, rfl⟩ rfl rfl (Nat.le_of_ble_eq_true rfl) ?_
      obtain ⟨vc318, Mc318, hRc318, hMc318, ch318, hch318, rfl⟩ := charAt_2 (G := G) (d := d + 4) (M := N1) hx315
      rw [hMc318] at hRc318
      refine E_callV (t := [.int (nI k), .int 3, .ref 0]) hRc318 fL_build_318 mJ0_charAt_5068e (rc_str ⟨by decide, by decide⟩) ⟨by decide, rfl⟩ rfl rfl (Nat.le_of_ble_eq_true rfl) ?_
      refine E_bipush (v := 8) fL_build_321 (by decide) ?_
      refine E_aload_n fL_build_323 rfl (by decide) ?_
      refine E_iload_n fL_build_324 rfl ?_
      refine E_sipush (v := 140) fL_build_325 (by decide) ?_
      refine E_iadd fL_build_328 ?_
      rw [show ((nI 10) + 140 : Int32) = nI (10 + 140) from nI_add _ _]
      refine E_iload fL_build_329 rfl ?_
      refine E_iadd fL_build_331 ?_
      rw [show ((nI (10 + 140)) + (nI k) : Int32) = nI ((10 + 140) + k) from nI_add _ _]
      refine E_bipush (v := 24) fL_build_332 (by decide) ?_
      obtain ⟨x334, hx334, hp334⟩ := pick_ok (i := ((10 + 140) + k)) (m := 24) hL (by omega) (by omega) (by omega)
      refine E_callS (t := [.int 8, .int (nI ch318), .int (nI k), .int 3, .ref 0]) (hp334 _ _) fL_build_334 (by decide) mL_pick ⟨rfl, rfl⟩ rfl rfl (Nat.le_of_ble_eq_true rfl) ?_
      refine E_iadd fL_build_337 ?_
      rw [show (8 + (nI x334) : Int32) = nI (8 + x334) from nI_add _ _]
      refine E_iconst (v := 1) fL_build_338 (by decide) ?_
      refine E_aload_n fL_build_339 rfl (by decide) ?_
      refine E_iload_n fL_build_340 rfl ?_
      refine E_sipush (v := 150) fL_build_341 (by decide) ?_
      refine E_iadd fL_build_344 ?_
      rw [show ((nI 10) + 150 : Int32) = nI (10 + 150) from nI_add _ _]
      refine E_iload fL_build_345 rfl ?_
      refine E_iadd fL_build_347 ?_
      rw [show ((nI (10 + 150)) + (nI k) : Int32) = nI ((10 + 150) + k) from nI_add _ _]
      refine E_bipush (v := 40) fL_build_348 (by decide) ?_
      obtain ⟨x350, hx350, hp350⟩ := pick_ok (i := ((10 + 150) + k)) (m := 40) hL (by omega) (by omega) (by omega)
      refine E_callS (t := [.int 1, .int (nI (8 + x334)), .int (nI ch318), .int (nI k), .int 3, .ref 0]) (hp350 _ _) fL_build_350 (by decide) mL_pick ⟨rfl, rfl⟩ rfl rfl (Nat.le_of_ble_eq_true rfl) ?_
      refine E_iadd fL_build_353 ?_
      rw [show (1 + (nI x350) : Int32) = nI (1 + x350) from nI_add _ _]
      refine E_iconst (v := 0) fL_build_354 (by decide) ?_
      refine E_iconst (v := 0) fL_build_355 (by decide) ?_
      obtain ⟨y356, N356, c356, hc356, hR356, D356, F356⟩ := deed3_any (d := d) (M := N1) hG hD1 (nI k) (nI ch318) (nI (8 + x334)) (nI (1 + x350)) 0 0
      refine E_callSc (t := []) hR356 fL_build_356 (by decide) mdD ⟨rfl, rfl⟩ rfl rfl (Nat.le_of_ble_eq_true rfl) ?_
      refine E_pop fL_build_359 rfl ?_
      refine E_iinc (v := nI (k + 1)) (L' := [some (.ref 0), some (.ref 1000), some (.int (nI 10)), o3, some (.int (nI S)), some (.int (nI (k + 1))), o6, o7, o8, o9, o10]) fL_build_360 rfl (inc1 _) rfl ?_
      refine E_goto (tg := 287) fL_build_363 (by decide) ?_
      exact ih (k + 1) S _ _ _ _ _ _ N356 _ (by omega) hS0 hS (by omega) D356 ((hF.tr hF1).tr F356)
  have b1 : ∀ m k Rn o5 o6 o7 o8 o9 o10 M1 q, k + m = Rn → Rn ≤ 9 → q ≤ 3 * k → DI M1 0 → Fr dfB M M1 → E G (d + 8) 123 (18, [some (.ref 0), some (.ref 1000), some (.int (nI 10)), some (.int (nI Rn)), some (.int (nI k)), o5, o6, o7, o8, o9, o10], [], M1, q) (fun r => ∃ v M' c, r = (.inl v, M', c) ∧ (v = none ∧ c ≤ 60 ∧ (∃ s, DI M' s) ∧ Fr dfB M M')) := by
    intro m
    induction m with
    | zero =>
      intro k Rn o5 o6 o7 o8 o9 o10 M1 q hk hR hq hD hF
      have e : k = Rn := by omega
      refine E_iload fL_build_18 rfl ?_
      refine E_iload_n fL_build_20 rfl ?_
      refine E_icge (tg := 270) fL_build_21 (by decide) (fun c_21 => ?_) (fun c => absurd (by rw [e]; exact Int32.le_refl _) c)
      refine E_iconst (v := 1) fL_build_270 (by decide) ?_
      refine E_aload_n fL_build_271 rfl (by decide) ?_
      refine E_iload_n fL_build_272 rfl ?_
      refine E_sipush (v := 130) fL_build_273 (by decide) ?_
      refine E_iadd fL_build_276 ?_
      rw [show ((nI 10) + 130 : Int32) = nI (10 + 130) from nI_add _ _]
      refine E_iconst (v := 5) fL_build_277 (by decide) ?_
      obtain ⟨x278, hx278, hp278⟩ := pick_ok (i := (10 + 130)) (m := 5) hL (by omega) (by omega) (by omega)
      refine E_callS (t := [.int 1]) (hp278 _ _) fL_build_278 (by decide) mL_pick ⟨rfl, rfl⟩ rfl rfl (Nat.le_of_ble_eq_true rfl) ?_
      refine E_iadd fL_build_281 ?_
      rw [show (1 + (nI x278) : Int32) = nI (1 + x278) from nI_add _ _]
      refine E_istore (L' := [some (.ref 0), some (.ref 1000), some (.int (nI 10)), some (.int (nI Rn)), some (.int (nI (1 + x278))), o5, o6, o7, o8, o9, o10]) fL_build_282 rfl (Nat.le_of_ble_eq_true rfl) ?_
      refine E_iconst (v := 0) fL_build_284 (by decide) ?_
      refine E_istore (L' := [some (.ref 0), some (.ref 1000), some (.int (nI 10)), some (.int (nI Rn)), some (.int (nI (1 + x278))), some (.int 0), o6, o7, o8, o9, o10]) fL_build_285 rfl (Nat.le_of_ble_eq_true rfl) ?_
      exact b2 (1 + x278) 0 (1 + x278) _ _ _ _ _ _ M1 q (by omega) (by omega) (by omega) (by omega) hD hF
    | succ m ih =>
      intro k Rn o5 o6 o7 o8 o9 o10 M1 q hk hR hq hD hF
      have hlt : k < Rn := by omega
      have t3 : ∀ c kd a b made N1 q1, c ≤ 2 → q1 + c ≤ 3 * k + 3 → DI N1 0 → Fr dfB M N1 → E G (d + 8) 123 (211, [some (.ref 0), some (.ref 1000), some (.int (nI 10)), some (.int (nI Rn)), some (.int (nI k)), some (.int (nI ((10 + 1) + (12 * k)))), some (.int (nI kd)), some (.int a), some (.int b), some (.int made), some (.int (nI c))], [], N1, q1) (fun r => ∃ v M' c, r = (.inl v, M', c) ∧ (v = none ∧ c ≤ 60 ∧ (∃ s, DI M' s) ∧ Fr dfB M M')) := by
        intro c
        induction c with
        | zero =>
          intro kd a b made N1 q1 hc2 hq1 hD hF
          refine E_iload fL_build_211 rfl ?_
          refine E_ifle (tg := 264) fL_build_213 (by decide) (fun c_213 => ?_) (fun c => absurd (Int32.le_refl _) c)
          refine E_iinc (v := nI (k + 1)) (L' := [some (.ref 0), some (.ref 1000), some (.int (nI 10)), some (.int (nI Rn)), some (.int (nI (k + 1))), some (.int (nI ((10 + 1) + (12 * k)))), some (.int (nI kd)), some (.int a), some (.int b), some (.int made), some (.int (nI 0))]) fL_build_264 rfl (inc1 _) rfl ?_
          refine E_goto (tg := 18) fL_build_267 (by decide) ?_
          exact ih (k + 1) Rn _ _ _ _ _ _ N1 q1 (by omega) hR (by omega) hD hF
        | succ c ihc =>
          intro kd a b made N1 q1 hc2 hq1 hD hF
          refine E_iload fL_build_211 rfl ?_
          refine E_ifle (tg := 264) fL_build_213 (by decide) (fun z => absurd z (nI_nle (n := c + 1) (by omega) (by omega))) (fun c_213 => ?_)
          refine E_aload_n fL_build_216 rfl (by decide) ?_
          refine E_iconst (v := 1) fL_build_217 (by decide) ?_
          refine E_iload fL_build_218 rfl ?_
          refine E_ldcS fL_build_220 (by decide) ?_
          refine E_aload_n fL_build_222 rfl (by decide) ?_
          refine E_iload fL_build_223 rfl ?_
          refine E_iconst (v := 4) fL_build_225 (by decide) ?_
          refine E_iadd fL_build_226 ?_
          rw [show ((nI ((10 + 1) + (12 * k))) + 4 : Int32) = nI (((10 + 1) + (12 * k)) + 4) from nI_add _ _]
          refine E_iload fL_build_227 rfl ?_
          refine E_iadd fL_build_229 ?_
          rw [show ((nI (((10 + 1) + (12 * k)) + 4)) + (nI (c + 1)) : Int32) = nI ((((10 + 1) + (12 * k)) + 4) + (c + 1)) from nI_add _ _]
          refine E_iconst (v := 4) fL_build_230 (by decide) ?_
          obtain ⟨x231, hx231, hp231⟩ := pick_ok (i := ((((10 + 1) + (12 * k)) + 4) + (c + 1))) (m := 4) hL (by omega) (by omega) (by omega)
          refine E_callS (t := [.ref 2001, .int made, .int 1, .ref 0]) (hp231 _ _) fL_build_231 (by decide) mL_pick ⟨rfl, rfl⟩ rfl rfl (Nat.le_of_ble_eq_true rfl) ?_
          obtain ⟨vc234, Mc234, hRc234, hMc234, ch234, hch234, rfl⟩ := charAt_1 (G := G) (d := d + 4) (M := N1) hx231
          rw [hMc234] at hRc234
          refine E_callV (t := [.int made, .int 1, .ref 0]) hRc234 fL_build_234 mJ0_charAt_5068e (rc_str ⟨by decide, by decide⟩) ⟨by decide, rfl⟩ rfl rfl (Nat.le_of_ble_eq_true rfl) ?_
          refine E_aload_n fL_build_237 rfl (by decide) ?_
          refine E_iload fL_build_238 rfl ?_
          refine E_bipush (v := 6) fL_build_240 (by decide) ?_
          refine E_iadd fL_build_242 ?_
          rw [show ((nI ((10 + 1) + (12 * k))) + 6 : Int32) = nI (((10 + 1) + (12 * k)) + 6) from nI_add _ _]
          refine E_iload fL_build_243 rfl ?_
          refine E_iadd fL_build_245 ?_
          rw [show ((nI (((10 + 1) + (12 * k)) + 6)) + (nI (c + 1)) : Int32) = nI ((((10 + 1) + (12 * k)) + 6) + (c + 1)) from nI_add _ _]
          refine E_bipush (v := 32) fL_build_246 (by decide) ?_
          obtain ⟨x248, hx248, hp248⟩ := pick_ok (i := ((((10 + 1) + (12 * k)) + 6) + (c + 1))) (m := 32) hL (by omega) (by omega) (by omega)
          refine E_callS (t := [.int (nI ch234), .int made, .int 1, .ref 0]) (hp248 _ _) fL_build_248 (by decide) mL_pick ⟨rfl, rfl⟩ rfl rfl (Nat.le_of_ble_eq_true rfl) ?_
          refine E_iconst (v := 0) fL_build_251 (by decide) ?_
          refine E_iconst (v := 0) fL_build_252 (by decide) ?_
          refine E_iconst (v := 0) fL_build_253 (by decide) ?_
          obtain ⟨y254, N254, c254, hc254, hR254, D254, F254⟩ := deed1_any (d := d) (M := N1) hG hD made (nI ch234) (nI x248) 0 0 0
          refine E_callSc (t := []) hR254 fL_build_254 (by decide) mdD ⟨rfl, rfl⟩ rfl rfl (Nat.le_of_ble_eq_true rfl) ?_
          refine E_pop fL_build_257 rfl ?_
          refine E_iinc (v := (nI c)) (L' := [some (.ref 0), some (.ref 1000), some (.int (nI 10)), some (.int (nI Rn)), some (.int (nI k)), some (.int (nI ((10 + 1) + (12 * k)))), some (.int (nI kd)), some (.int a), some (.int b), some (.int made), some (.int (nI c))]) fL_build_258 rfl (dec1 _) rfl ?_
          refine E_goto (tg := 211) fL_build_261 (by decide) ?_
          exact ihc kd a b made N254 _ (by omega) (by omega) D254 (hF.tr F254)
      have t2 : ∀ (kd : Nat) (a b tk : Int32) (o9 o10 : Option Value), E G (d + 8) 123 (187, [some (.ref 0), some (.ref 1000), some (.int (nI 10)), some (.int (nI Rn)), some (.int (nI k)), some (.int (nI ((10 + 1) + (12 * k)))), some (.int (nI kd)), some (.int a), some (.int b), o9, o10], [.int tk, .int 0, .ref 0], M1, q) (fun r => ∃ v M' c, r = (.inl v, M', c) ∧ (v = none ∧ c ≤ 60 ∧ (∃ s, DI M' s) ∧ Fr dfB M M')) := by
        intro kd a b tk o9 o10
        refine E_iload fL_build_187 rfl ?_
        refine E_iload fL_build_189 rfl ?_
        refine E_iload fL_build_191 rfl ?_
        refine E_iconst (v := 0) fL_build_193 (by decide) ?_
        refine E_iconst (v := 0) fL_build_194 (by decide) ?_
        obtain ⟨y195, N195, c195, hc195, hR195, D195, F195⟩ := deed0_any (d := d) (M := M1) hG hD tk (nI kd) a b 0 0
        refine E_callSc (t := []) hR195 fL_build_195 (by decide) mdD ⟨rfl, rfl⟩ rfl rfl (Nat.le_of_ble_eq_true rfl) ?_
        refine E_istore (L' := [some (.ref 0), some (.ref 1000), some (.int (nI 10)), some (.int (nI Rn)), some (.int (nI k)), some (.int (nI ((10 + 1) + (12 * k)))), some (.int (nI kd)), some (.int a), some (.int b), some (.int y195), o10]) fL_build_198 rfl (Nat.le_of_ble_eq_true rfl) ?_
        refine E_aload_n fL_build_200 rfl (by decide) ?_
        refine E_iload fL_build_201 rfl ?_
        refine E_iconst (v := 4) fL_build_203 (by decide) ?_
        refine E_iadd fL_build_204 ?_
        rw [show ((nI ((10 + 1) + (12 * k))) + 4 : Int32) = nI (((10 + 1) + (12 * k)) + 4) from nI_add _ _]
        refine E_iconst (v := 3) fL_build_205 (by decide) ?_
        obtain ⟨x206, hx206, hp206⟩ := pick_ok (i := (((10 + 1) + (12 * k)) + 4)) (m := 3) hL (by omega) (by omega) (by omega)
        refine E_callS (t := []) (hp206 _ _) fL_build_206 (by decide) mL_pick ⟨rfl, rfl⟩ rfl rfl (Nat.le_of_ble_eq_true rfl) ?_
        refine E_istore (L' := [some (.ref 0), some (.ref 1000), some (.int (nI 10)), some (.int (nI Rn)), some (.int (nI k)), some (.int (nI ((10 + 1) + (12 * k)))), some (.int (nI kd)), some (.int a), some (.int b), some (.int y195), some (.int (nI x206))]) fL_build_209 rfl (Nat.le_of_ble_eq_true rfl) ?_
        exact t3 x206 kd a b y195 N195 _ (by omega) (by omega) D195 (hF.tr F195)
      have t1 : ∀ (kd : Nat) (a b : Int32) (o8 o9 o10 : Option Value), E G (d + 8) 123 (166, [some (.ref 0), some (.ref 1000), some (.int (nI 10)), some (.int (nI Rn)), some (.int (nI k)), some (.int (nI ((10 + 1) + (12 * k)))), some (.int (nI kd)), some (.int a), o8, o9, o10], [.int b], M1, q) (fun r => ∃ v M' c, r = (.inl v, M', c) ∧ (v = none ∧ c ≤ 60 ∧ (∃ s, DI M' s) ∧ Fr dfB M M')) := by
        intro kd a b o8 o9 o10
        refine E_istore (L' := [some (.ref 0), some (.ref 1000), some (.int (nI 10)), some (.int (nI Rn)), some (.int (nI k)), some (.int (nI ((10 + 1) + (12 * k)))), some (.int (nI kd)), some (.int a), some (.int b), o9, o10]) fL_build_166 rfl (Nat.le_of_ble_eq_true rfl) ?_
        refine E_aload_n fL_build_168 rfl (by decide) ?_
        refine E_iconst (v := 0) fL_build_169 (by decide) ?_
        refine E_aload_n fL_build_170 rfl (by decide) ?_
        refine E_iload fL_build_171 rfl ?_
        refine E_iconst (v := 3) fL_build_173 (by decide) ?_
        refine E_iadd fL_build_174 ?_
        rw [show ((nI ((10 + 1) + (12 * k))) + 3 : Int32) = nI (((10 + 1) + (12 * k)) + 3) from nI_add _ _]
        refine E_iconst (v := 3) fL_build_175 (by decide) ?_
        obtain ⟨x176, hx176, hp176⟩ := pick_ok (i := (((10 + 1) + (12 * k)) + 3)) (m := 3) hL (by omega) (by omega) (by omega)
        refine E_callS (t := [.int 0, .ref 0]) (hp176 _ _) fL_build_176 (by decide) mL_pick ⟨rfl, rfl⟩ rfl rfl (Nat.le_of_ble_eq_true rfl) ?_
        refine E_ifne (tg := 186) fL_build_179 (by decide) (fun c_179 => ?_) (fun c_179 => ?_)
        · refine E_iconst (v := 0) fL_build_186 (by decide) ?_
          exact t2 _ _ _ _ _ _
        · refine E_iconst (v := 1) fL_build_182 (by decide) ?_
          refine E_goto (tg := 187) fL_build_183 (by decide) ?_
          exact t2 _ _ _ _ _ _
      have t0 : ∀ (kd : Nat) (a : Int32) (o7 o8 o9 o10 : Option Value), E G (d + 8) 123 (86, [some (.ref 0), some (.ref 1000), some (.int (nI 10)), some (.int (nI Rn)), some (.int (nI k)), some (.int (nI ((10 + 1) + (12 * k)))), some (.int (nI kd)), o7, o8, o9, o10], [.int a], M1, q) (fun r => ∃ v M' c, r = (.inl v, M', c) ∧ (v = none ∧ c ≤ 60 ∧ (∃ s, DI M' s) ∧ Fr dfB M M')) := by
        intro kd a o7 o8 o9 o10
        refine E_istore (L' := [some (.ref 0), some (.ref 1000), some (.int (nI 10)), some (.int (nI Rn)), some (.int (nI k)), some (.int (nI ((10 + 1) + (12 * k)))), some (.int (nI kd)), some (.int a), o8, o9, o10]) fL_build_86 rfl (Nat.le_of_ble_eq_true rfl) ?_
        refine E_ldcS fL_build_88 (by decide) ?_
        refine E_iload fL_build_90 rfl ?_
        obtain ⟨vx92, Mx92, hRx92, hMx92, xx92, rfl⟩ := indexOf_4 (G := G) (d := d + 4) (M := M1) (nI kd)
        rw [hMx92] at hRx92
        refine E_callV (t := []) hRx92 fL_build_92 mJ0_indexOf_0f7a4 (rc_str ⟨by decide, by decide⟩) ⟨by decide, rfl⟩ rfl rfl (Nat.le_of_ble_eq_true rfl) ?_
        refine E_iflt (tg := 113) fL_build_95 (by decide) (fun c_95 => ?_) (fun c_95 => ?_)
        · refine E_iload fL_build_113 rfl ?_
          refine E_bipush (v := 107) fL_build_115 (by decide) ?_
          refine E_icne (tg := 135) fL_build_117 (by decide) (fun c_117 => ?_) (fun c_117 => ?_)
          · refine E_iload fL_build_135 rfl ?_
            refine E_bipush (v := 74) fL_build_137 (by decide) ?_
            refine E_icne (tg := 156) fL_build_139 (by decide) (fun c_139 => ?_) (fun c_139 => ?_)
            · refine E_aload_n fL_build_156 rfl (by decide) ?_
              refine E_iload fL_build_157 rfl ?_
              refine E_iconst (v := 2) fL_build_159 (by decide) ?_
              refine E_iadd fL_build_160 ?_
              rw [show ((nI ((10 + 1) + (12 * k))) + 2 : Int32) = nI (((10 + 1) + (12 * k)) + 2) from nI_add _ _]
              refine E_bipush (v := 8) fL_build_161 (by decide) ?_
              obtain ⟨x163, hx163, hp163⟩ := pick_ok (i := (((10 + 1) + (12 * k)) + 2)) (m := 8) hL (by omega) (by omega) (by omega)
              refine E_callS (t := []) (hp163 _ _) fL_build_163 (by decide) mL_pick ⟨rfl, rfl⟩ rfl rfl (Nat.le_of_ble_eq_true rfl) ?_
              exact t1 _ _ _ _ _ _
            · refine E_aload_n fL_build_142 rfl (by decide) ?_
              refine E_iload fL_build_143 rfl ?_
              refine E_iconst (v := 2) fL_build_145 (by decide) ?_
              refine E_iadd fL_build_146 ?_
              rw [show ((nI ((10 + 1) + (12 * k))) + 2 : Int32) = nI (((10 + 1) + (12 * k)) + 2) from nI_add _ _]
              refine E_iload_n fL_build_147 rfl ?_
              refine E_iconst (v := 1) fL_build_148 (by decide) ?_
              refine E_iadd fL_build_149 ?_
              rw [show ((nI Rn) + 1 : Int32) = nI (Rn + 1) from nI_add _ _]
              obtain ⟨x150, hx150, hp150⟩ := pick_ok (i := (((10 + 1) + (12 * k)) + 2)) (m := (Rn + 1)) hL (by omega) (by omega) (by omega)
              refine E_callS (t := []) (hp150 _ _) fL_build_150 (by decide) mL_pick ⟨rfl, rfl⟩ rfl rfl (Nat.le_of_ble_eq_true rfl) ?_
              refine E_goto (tg := 166) fL_build_153 (by decide) ?_
              exact t1 _ _ _ _ _ _
          · refine E_aload_n fL_build_120 rfl (by decide) ?_
            refine E_iload fL_build_121 rfl ?_
            refine E_iconst (v := 2) fL_build_123 (by decide) ?_
            refine E_iadd fL_build_124 ?_
            rw [show ((nI ((10 + 1) + (12 * k))) + 2 : Int32) = nI (((10 + 1) + (12 * k)) + 2) from nI_add _ _]
            refine E_bipush (v := 9) fL_build_125 (by decide) ?_
            obtain ⟨x127, hx127, hp127⟩ := pick_ok (i := (((10 + 1) + (12 * k)) + 2)) (m := 9) hL (by omega) (by omega) (by omega)
            refine E_callS (t := []) (hp127 _ _) fL_build_127 (by decide) mL_pick ⟨rfl, rfl⟩ rfl rfl (Nat.le_of_ble_eq_true rfl) ?_
            refine E_iconst (v := 4) fL_build_130 (by decide) ?_
            refine E_isub fL_build_131 ?_
            refine E_goto (tg := 166) fL_build_132 (by decide) ?_
            exact t1 _ _ _ _ _ _
        · refine E_iconst (v := 1) fL_build_98 (by decide) ?_
          refine E_aload_n fL_build_99 rfl (by decide) ?_
          refine E_iload fL_build_100 rfl ?_
          refine E_iconst (v := 2) fL_build_102 (by decide) ?_
          refine E_iadd fL_build_103 ?_
          rw [show ((nI ((10 + 1) + (12 * k))) + 2 : Int32) = nI (((10 + 1) + (12 * k)) + 2) from nI_add _ _]
          refine E_bipush (v := 25) fL_build_104 (by decide) ?_
          obtain ⟨x106, hx106, hp106⟩ := pick_ok (i := (((10 + 1) + (12 * k)) + 2)) (m := 25) hL (by omega) (by omega) (by omega)
          refine E_callS (t := [.int 1]) (hp106 _ _) fL_build_106 (by decide) mL_pick ⟨rfl, rfl⟩ rfl rfl (Nat.le_of_ble_eq_true rfl) ?_
          refine E_iadd fL_build_109 ?_
          rw [show (1 + (nI x106) : Int32) = nI (1 + x106) from nI_add _ _]
          refine E_goto (tg := 166) fL_build_110 (by decide) ?_
          exact t1 _ _ _ _ _ _
      refine E_iload fL_build_18 rfl ?_
      refine E_iload_n fL_build_20 rfl ?_
      refine E_icge (tg := 270) fL_build_21 (by decide) (fun c => absurd c (nI_ge hlt (by omega))) (fun c_21 => ?_)
      refine E_iload_n fL_build_24 rfl ?_
      refine E_iconst (v := 1) fL_build_25 (by decide) ?_
      refine E_iadd fL_build_26 ?_
      rw [show ((nI 10) + 1 : Int32) = nI (10 + 1) from nI_add _ _]
      refine E_bipush (v := 12) fL_build_27 (by decide) ?_
      refine E_iload fL_build_29 rfl ?_
      refine E_imul fL_build_31 ?_
      rw [show (12 * (nI k) : Int32) = nI (12 * k) from nI_mul _ _]
      refine E_iadd fL_build_32 ?_
      rw [show ((nI (10 + 1)) + (nI (12 * k)) : Int32) = nI ((10 + 1) + (12 * k)) from nI_add _ _]
      refine E_istore (L' := [some (.ref 0), some (.ref 1000), some (.int (nI 10)), some (.int (nI Rn)), some (.int (nI k)), some (.int (nI ((10 + 1) + (12 * k)))), o6, o7, o8, o9, o10]) fL_build_33 rfl (Nat.le_of_ble_eq_true rfl) ?_
      refine E_ldcS fL_build_35 (by decide) ?_
      refine E_aload_n fL_build_37 rfl (by decide) ?_
      refine E_iload fL_build_38 rfl ?_
      refine E_bipush (v := 12) fL_build_40 (by decide) ?_
      obtain ⟨x42, hx42, hp42⟩ := pick_ok (i := ((10 + 1) + (12 * k))) (m := 12) hL (by omega) (by omega) (by omega)
      refine E_callS (t := [.ref 2000]) (hp42 _ _) fL_build_42 (by decide) mL_pick ⟨rfl, rfl⟩ rfl rfl (Nat.le_of_ble_eq_true rfl) ?_
      obtain ⟨vc45, Mc45, hRc45, hMc45, ch45, hch45, rfl⟩ := charAt_0 (G := G) (d := d + 4) (M := M1) hx42
      rw [hMc45] at hRc45
      refine E_callV (t := []) hRc45 fL_build_45 mJ0_charAt_5068e (rc_str ⟨by decide, by decide⟩) ⟨by decide, rfl⟩ rfl rfl (Nat.le_of_ble_eq_true rfl) ?_
      refine E_istore (L' := [some (.ref 0), some (.ref 1000), some (.int (nI 10)), some (.int (nI Rn)), some (.int (nI k)), some (.int (nI ((10 + 1) + (12 * k)))), some (.int (nI ch45)), o7, o8, o9, o10]) fL_build_48 rfl (Nat.le_of_ble_eq_true rfl) ?_
      refine E_ldcS fL_build_50 (by decide) ?_
      refine E_iload fL_build_52 rfl ?_
      obtain ⟨vx54, Mx54, hRx54, hMx54, xx54, rfl⟩ := indexOf_3 (G := G) (d := d + 4) (M := M1) (nI ch45)
      rw [hMx54] at hRx54
      refine E_callV (t := []) hRx54 fL_build_54 mJ0_indexOf_0f7a4 (rc_str ⟨by decide, by decide⟩) ⟨by decide, rfl⟩ rfl rfl (Nat.le_of_ble_eq_true rfl) ?_
      refine E_iflt (tg := 76) fL_build_57 (by decide) (fun c_57 => ?_) (fun c_57 => ?_)
      · refine E_aload_n fL_build_76 rfl (by decide) ?_
        refine E_iload fL_build_77 rfl ?_
        refine E_iconst (v := 1) fL_build_79 (by decide) ?_
        refine E_iadd fL_build_80 ?_
        rw [show ((nI ((10 + 1) + (12 * k))) + 1 : Int32) = nI (((10 + 1) + (12 * k)) + 1) from nI_add _ _]
        refine E_bipush (v := 8) fL_build_81 (by decide) ?_
        obtain ⟨x83, hx83, hp83⟩ := pick_ok (i := (((10 + 1) + (12 * k)) + 1)) (m := 8) hL (by omega) (by omega) (by omega)
        refine E_callS (t := []) (hp83 _ _) fL_build_83 (by decide) mL_pick ⟨rfl, rfl⟩ rfl rfl (Nat.le_of_ble_eq_true rfl) ?_
        exact t0 _ _ _ _ _ _
      · refine E_bipush (v := 8) fL_build_60 (by decide) ?_
        refine E_aload_n fL_build_62 rfl (by decide) ?_
        refine E_iload fL_build_63 rfl ?_
        refine E_iconst (v := 1) fL_build_65 (by decide) ?_
        refine E_iadd fL_build_66 ?_
        rw [show ((nI ((10 + 1) + (12 * k))) + 1 : Int32) = nI (((10 + 1) + (12 * k)) + 1) from nI_add _ _]
        refine E_bipush (v := 24) fL_build_67 (by decide) ?_
        obtain ⟨x69, hx69, hp69⟩ := pick_ok (i := (((10 + 1) + (12 * k)) + 1)) (m := 24) hL (by omega) (by omega) (by omega)
        refine E_callS (t := [.int 8]) (hp69 _ _) fL_build_69 (by decide) mL_pick ⟨rfl, rfl⟩ rfl rfl (Nat.le_of_ble_eq_true rfl) ?_
        refine E_iadd fL_build_72 ?_
        rw [show (8 + (nI x69) : Int32) = nI (8 + x69) from nI_add _ _]
        refine E_goto (tg := 86) fL_build_73 (by decide) ?_
        exact t0 _ _ _ _ _ _
  refine C_start (d := d + 8) (by decide) mL_build ?_
  show E _ _ _ (0, [some (.ref 0), some (.ref 1000), some (.int (nI 10)), none, none, none, none, none, none, none, none], [], M, 0) _
  refine E_aload_n fL_build_0 rfl (by decide) ?_
  obtain ⟨ve, N1, hRe, ⟨xe, rfl⟩, hD1, hF1⟩ := emptyDraft_ok (d := d + 6) (M := M) hG
  refine E_callV (t := []) hRe fL_build_1 mX9_emptyDraft (rc_obj (k0 hG) (by decide) (by decide)) ⟨by decide, rfl⟩ rfl rfl (Nat.le_of_ble_eq_true rfl) ?_
  refine E_pop fL_build_4 rfl ?_
  refine E_iconst (v := 2) fL_build_5 (by decide) ?_
  refine E_aload_n fL_build_6 rfl (by decide) ?_
  refine E_iload_n fL_build_7 rfl ?_
  refine E_bipush (v := 8) fL_build_8 (by decide) ?_
  obtain ⟨x10, hx10, hp10⟩ := pick_ok (i := 10) (m := 8) hL (by omega) (by omega) (by omega)
  refine E_callS (t := [.int 2]) (hp10 _ _) fL_build_10 (by decide) mL_pick ⟨rfl, rfl⟩ rfl rfl (Nat.le_of_ble_eq_true rfl) ?_
  refine E_iadd fL_build_13 ?_
  rw [show (2 + (nI x10) : Int32) = nI (2 + x10) from nI_add _ _]
  refine E_istore_n (L' := [some (.ref 0), some (.ref 1000), some (.int (nI 10)), some (.int (nI (2 + x10))), none, none, none, none, none, none, none]) fL_build_14 rfl (Nat.le_of_ble_eq_true rfl) ?_
  refine E_iconst (v := 0) fL_build_15 (by decide) ?_
  refine E_istore (L' := [some (.ref 0), some (.ref 1000), some (.int (nI 10)), some (.int (nI (2 + x10))), some (.int 0), none, none, none, none, none, none]) fL_build_16 rfl (Nat.le_of_ble_eq_true rfl) ?_
  exact b1 (2 + x10) 0 (2 + x10) _ _ _ _ _ _ N1 0 (by omega) (by omega) (by omega) hD1 hF1
end SP23
