/-! KINDS OF CELLS, and the small methods -/
def Core (G : MG) : Prop := ∀ c, c < 410 → ¬ (395 ≤ c ∧ c < 405) → G.1 c = kdAll c
def All (G : MG) : Prop := ∀ c, c < 410 → G.1 c = kdAll c
theorem All.core {G : MG} (h : All G) : Core G := fun c h1 _ => h c h1
section KND
variable {G : MG}
theorem k0 (hG : Core G) : G.1 0 = 9 := (hG 0 (by decide) (by decide)).trans (by decide +kernel)
theorem k1 (hG : Core G) : G.1 1 = 2 := (hG 1 (by decide) (by decide)).trans (by decide +kernel)
theorem k2 (hG : Core G) : G.1 2 = 28 := (hG 2 (by decide) (by decide)).trans (by decide +kernel)
theorem k3 (hG : Core G) : G.1 3 = 29 := (hG 3 (by decide) (by decide)).trans (by decide +kernel)
theorem k4 (hG : Core G) : G.1 4 = 30 := (hG 4 (by decide) (by decide)).trans (by decide +kernel)
theorem k189 (hG : Core G) : G.1 189 = 2 := (hG 189 (by decide) (by decide)).trans (by decide +kernel)
theorem k190 (hG : Core G) : G.1 190 = 28 := (hG 190 (by decide) (by decide)).trans (by decide +kernel)
theorem k191 (hG : Core G) : G.1 191 = 29 := (hG 191 (by decide) (by decide)).trans (by decide +kernel)
theorem k192 (hG : Core G) : G.1 192 = 30 := (hG 192 (by decide) (by decide)).trans (by decide +kernel)
theorem k377 (hG : Core G) : G.1 377 = 5 := (hG 377 (by decide) (by decide)).trans (by decide +kernel)
theorem k378 (hG : Core G) : G.1 378 = 20 := (hG 378 (by decide) (by decide)).trans (by decide +kernel)
theorem k379 (hG : Core G) : G.1 379 = 20 := (hG 379 (by decide) (by decide)).trans (by decide +kernel)
theorem k380 (hG : Core G) : G.1 380 = 21 := (hG 380 (by decide) (by decide)).trans (by decide +kernel)
theorem k381 (hG : Core G) : G.1 381 = 22 := (hG 381 (by decide) (by decide)).trans (by decide +kernel)
theorem k382 (hG : Core G) : G.1 382 = 23 := (hG 382 (by decide) (by decide)).trans (by decide +kernel)
theorem k383 (hG : Core G) : G.1 383 = 0 := (hG 383 (by decide) (by decide)).trans (by decide +kernel)
theorem k384 (hG : Core G) : G.1 384 = 20 := (hG 384 (by decide) (by decide)).trans (by decide +kernel)
theorem k385 (hG : Core G) : G.1 385 = 20 := (hG 385 (by decide) (by decide)).trans (by decide +kernel)
theorem k386 (hG : Core G) : G.1 386 = 5 := (hG 386 (by decide) (by decide)).trans (by decide +kernel)
theorem k387 (hG : Core G) : G.1 387 = 20 := (hG 387 (by decide) (by decide)).trans (by decide +kernel)
theorem k388 (hG : Core G) : G.1 388 = 20 := (hG 388 (by decide) (by decide)).trans (by decide +kernel)
theorem k389 (hG : Core G) : G.1 389 = 21 := (hG 389 (by decide) (by decide)).trans (by decide +kernel)
theorem k390 (hG : Core G) : G.1 390 = 22 := (hG 390 (by decide) (by decide)).trans (by decide +kernel)
theorem k391 (hG : Core G) : G.1 391 = 23 := (hG 391 (by decide) (by decide)).trans (by decide +kernel)
theorem k392 (hG : Core G) : G.1 392 = 0 := (hG 392 (by decide) (by decide)).trans (by decide +kernel)
theorem k393 (hG : Core G) : G.1 393 = 20 := (hG 393 (by decide) (by decide)).trans (by decide +kernel)
theorem k394 (hG : Core G) : G.1 394 = 20 := (hG 394 (by decide) (by decide)).trans (by decide +kernel)
theorem k405 (hG : Core G) : G.1 405 = 1 := (hG 405 (by decide) (by decide)).trans (by decide +kernel)
theorem k406 (hG : Core G) : G.1 406 = 20 := (hG 406 (by decide) (by decide)).trans (by decide +kernel)
theorem k407 (hG : Core G) : G.1 407 = 31 := (hG 407 (by decide) (by decide)).trans (by decide +kernel)
theorem k408 (hG : Core G) : G.1 408 = 7 := (hG 408 (by decide) (by decide)).trans (by decide +kernel)
theorem k409 (hG : Core G) : G.1 409 = 7 := (hG 409 (by decide) (by decide)).trans (by decide +kernel)
theorem k395 (hA : All G) : G.1 395 = 4 := (hA 395 (by decide)).trans (by decide +kernel)
theorem k396 (hA : All G) : G.1 396 = 5 := (hA 396 (by decide)).trans (by decide +kernel)
theorem k397 (hA : All G) : G.1 397 = 20 := (hA 397 (by decide)).trans (by decide +kernel)
theorem k398 (hA : All G) : G.1 398 = 20 := (hA 398 (by decide)).trans (by decide +kernel)
theorem k399 (hA : All G) : G.1 399 = 21 := (hA 399 (by decide)).trans (by decide +kernel)
theorem k400 (hA : All G) : G.1 400 = 22 := (hA 400 (by decide)).trans (by decide +kernel)
theorem k401 (hA : All G) : G.1 401 = 23 := (hA 401 (by decide)).trans (by decide +kernel)
theorem k402 (hA : All G) : G.1 402 = 0 := (hA 402 (by decide)).trans (by decide +kernel)
theorem k403 (hA : All G) : G.1 403 = 20 := (hA 403 (by decide)).trans (by decide +kernel)
theorem k404 (hA : All G) : G.1 404 = 20 := (hA 404 (by decide)).trans (by decide +kernel)
theorem kr0_lt {i : Nat} (hi : i < 40) : 5 + 3 * i < 410 := by omega
theorem kr0 (hG : Core G) {i : Nat} (hi : i < 40) : G.1 (5 + 3 * i) = 3 := by
  refine (hG _ (by omega) (by omega)).trans ?_
  unfold kdAll
  rw [if_neg (by omega), if_pos (by omega)]
  unfold kdProg
  rw [if_neg (by omega), if_neg (by omega), if_neg (by omega), if_neg (by omega), if_pos (by omega), if_pos (by omega)]
theorem kr1_lt {i : Nat} (hi : i < 40) : 5 + 3 * i + 1 < 410 := by omega
theorem kr1 (hG : Core G) {i : Nat} (hi : i < 40) : G.1 (5 + 3 * i + 1) = 26 := by
  refine (hG _ (by omega) (by omega)).trans ?_
  unfold kdAll
  rw [if_neg (by omega), if_pos (by omega)]
  unfold kdProg
  rw [if_neg (by omega), if_neg (by omega), if_neg (by omega), if_neg (by omega), if_pos (by omega), if_neg (by omega), if_pos (by omega)]
theorem kr2_lt {i : Nat} (hi : i < 40) : 5 + 3 * i + 2 < 410 := by omega
theorem kr2 (hG : Core G) {i : Nat} (hi : i < 40) : G.1 (5 + 3 * i + 2) = 24 := by
  refine (hG _ (by omega) (by omega)).trans ?_
  unfold kdAll
  rw [if_neg (by omega), if_pos (by omega)]
  unfold kdProg
  rw [if_neg (by omega), if_neg (by omega), if_neg (by omega), if_neg (by omega), if_pos (by omega), if_neg (by omega), if_neg (by omega)]
theorem kdr0_lt {i : Nat} (hi : i < 40) : 193 + 3 * i < 410 := by omega
theorem kdr0 (hG : Core G) {i : Nat} (hi : i < 40) : G.1 (193 + 3 * i) = 3 := by
  refine (hG _ (by omega) (by omega)).trans ?_
  unfold kdAll
  rw [if_neg (by omega), if_neg (by omega), if_pos (by omega)]
  unfold kdProg
  rw [if_neg (by omega), if_neg (by omega), if_neg (by omega), if_neg (by omega), if_pos (by omega), if_pos (by omega)]
theorem kdr1_lt {i : Nat} (hi : i < 40) : 193 + 3 * i + 1 < 410 := by omega
theorem kdr1 (hG : Core G) {i : Nat} (hi : i < 40) : G.1 (193 + 3 * i + 1) = 26 := by
  refine (hG _ (by omega) (by omega)).trans ?_
  unfold kdAll
  rw [if_neg (by omega), if_neg (by omega), if_pos (by omega)]
  unfold kdProg
  rw [if_neg (by omega), if_neg (by omega), if_neg (by omega), if_neg (by omega), if_pos (by omega), if_neg (by omega), if_pos (by omega)]
theorem kdr2_lt {i : Nat} (hi : i < 40) : 193 + 3 * i + 2 < 410 := by omega
theorem kdr2 (hG : Core G) {i : Nat} (hi : i < 40) : G.1 (193 + 3 * i + 2) = 24 := by
  refine (hG _ (by omega) (by omega)).trans ?_
  unfold kdAll
  rw [if_neg (by omega), if_neg (by omega), if_pos (by omega)]
  unfold kdProg
  rw [if_neg (by omega), if_neg (by omega), if_neg (by omega), if_neg (by omega), if_pos (by omega), if_neg (by omega), if_neg (by omega)]
theorem ks0_lt {i : Nat} (hi : i < 12) : 125 + 4 * i < 410 := by omega
theorem ks0 (hG : Core G) {i : Nat} (hi : i < 12) : G.1 (125 + 4 * i) = 6 := by
  refine (hG _ (by omega) (by omega)).trans ?_
  unfold kdAll
  rw [if_neg (by omega), if_pos (by omega)]
  unfold kdProg
  rw [if_neg (by omega), if_neg (by omega), if_neg (by omega), if_neg (by omega), if_neg (by omega), if_pos (by omega), if_pos (by omega)]
theorem ks1_lt {i : Nat} (hi : i < 12) : 125 + 4 * i + 1 < 410 := by omega
theorem ks1 (hG : Core G) {i : Nat} (hi : i < 12) : G.1 (125 + 4 * i + 1) = 27 := by
  refine (hG _ (by omega) (by omega)).trans ?_
  unfold kdAll
  rw [if_neg (by omega), if_pos (by omega)]
  unfold kdProg
  rw [if_neg (by omega), if_neg (by omega), if_neg (by omega), if_neg (by omega), if_neg (by omega), if_pos (by omega), if_neg (by omega), if_pos (by omega)]
theorem ks2_lt {i : Nat} (hi : i < 12) : 125 + 4 * i + 2 < 410 := by omega
theorem ks2 (hG : Core G) {i : Nat} (hi : i < 12) : G.1 (125 + 4 * i + 2) = 25 := by
  refine (hG _ (by omega) (by omega)).trans ?_
  unfold kdAll
  rw [if_neg (by omega), if_pos (by omega)]
  unfold kdProg
  rw [if_neg (by omega), if_neg (by omega), if_neg (by omega), if_neg (by omega), if_neg (by omega), if_pos (by omega), if_neg (by omega), if_neg (by omega)]
theorem ks3_lt {i : Nat} (hi : i < 12) : 125 + 4 * i + 3 < 410 := by omega
theorem ks3 (hG : Core G) {i : Nat} (hi : i < 12) : G.1 (125 + 4 * i + 3) = 25 := by
  refine (hG _ (by omega) (by omega)).trans ?_
  unfold kdAll
  rw [if_neg (by omega), if_pos (by omega)]
  unfold kdProg
  rw [if_neg (by omega), if_neg (by omega), if_neg (by omega), if_neg (by omega), if_neg (by omega), if_pos (by omega), if_neg (by omega), if_neg (by omega)]
theorem kds0_lt {i : Nat} (hi : i < 12) : 313 + 4 * i < 410 := by omega
theorem kds0 (hG : Core G) {i : Nat} (hi : i < 12) : G.1 (313 + 4 * i) = 6 := by
  refine (hG _ (by omega) (by omega)).trans ?_
  unfold kdAll
  rw [if_neg (by omega), if_neg (by omega), if_pos (by omega)]
  unfold kdProg
  rw [if_neg (by omega), if_neg (by omega), if_neg (by omega), if_neg (by omega), if_neg (by omega), if_pos (by omega), if_pos (by omega)]
theorem kds1_lt {i : Nat} (hi : i < 12) : 313 + 4 * i + 1 < 410 := by omega
theorem kds1 (hG : Core G) {i : Nat} (hi : i < 12) : G.1 (313 + 4 * i + 1) = 27 := by
  refine (hG _ (by omega) (by omega)).trans ?_
  unfold kdAll
  rw [if_neg (by omega), if_neg (by omega), if_pos (by omega)]
  unfold kdProg
  rw [if_neg (by omega), if_neg (by omega), if_neg (by omega), if_neg (by omega), if_neg (by omega), if_pos (by omega), if_neg (by omega), if_pos (by omega)]
theorem kds2_lt {i : Nat} (hi : i < 12) : 313 + 4 * i + 2 < 410 := by omega
theorem kds2 (hG : Core G) {i : Nat} (hi : i < 12) : G.1 (313 + 4 * i + 2) = 25 := by
  refine (hG _ (by omega) (by omega)).trans ?_
  unfold kdAll
  rw [if_neg (by omega), if_neg (by omega), if_pos (by omega)]
  unfold kdProg
  rw [if_neg (by omega), if_neg (by omega), if_neg (by omega), if_neg (by omega), if_neg (by omega), if_pos (by omega), if_neg (by omega), if_neg (by omega)]
theorem kds3_lt {i : Nat} (hi : i < 12) : 313 + 4 * i + 3 < 410 := by omega
theorem kds3 (hG : Core G) {i : Nat} (hi : i < 12) : G.1 (313 + 4 * i + 3) = 25 := by
  refine (hG _ (by omega) (by omega)).trans ?_
  unfold kdAll
  rw [if_neg (by omega), if_neg (by omega), if_pos (by omega)]
  unfold kdProg
  rw [if_neg (by omega), if_neg (by omega), if_neg (by omega), if_neg (by omega), if_neg (by omega), if_pos (by omega), if_neg (by omega), if_neg (by omega)]
theorem kt0_lt {i : Nat} (hi : i < 16) : 173 + i < 410 := by omega
theorem kt0 (hG : Core G) {i : Nat} (hi : i < 16) : G.1 (173 + i) = 8 := by
  refine (hG _ (by omega) (by omega)).trans ?_
  unfold kdAll
  rw [if_neg (by omega), if_pos (by omega)]
  unfold kdProg
  rw [if_neg (by omega), if_neg (by omega), if_neg (by omega), if_neg (by omega), if_neg (by omega), if_neg (by omega)]
theorem kdt0_lt {i : Nat} (hi : i < 16) : 361 + i < 410 := by omega
theorem kdt0 (hG : Core G) {i : Nat} (hi : i < 16) : G.1 (361 + i) = 8 := by
  refine (hG _ (by omega) (by omega)).trans ?_
  unfold kdAll
  rw [if_neg (by omega), if_neg (by omega), if_pos (by omega)]
  unfold kdProg
  rw [if_neg (by omega), if_neg (by omega), if_neg (by omega), if_neg (by omega), if_neg (by omega), if_neg (by omega)]
theorem kk0_lt {i : Nat} (hi : i < 2) : 408 + i < 410 := by omega
theorem kk0 (hG : Core G) {i : Nat} (hi : i < 2) : G.1 (408 + i) = 7 := by
  rcases (by omega : i = 0 ∨ i = 1) with rfl | rfl
  · exact k408 hG
  · exact k409 hG
end KND
def bI (p : Prop) [Decidable p] : Int32 := if p then 1 else 0
theorem bI_t {p : Prop} [Decidable p] (h : p) : bI p = 1 := if_pos h
theorem bI_f {p : Prop} [Decidable p] (h : ¬ p) : bI p = 0 := if_neg h
theorem bI_0 {p : Prop} [Decidable p] : bI p = 0 ↔ ¬ p := by
  by_cases h : p
  · rw [bI_t h]; exact ⟨fun z => absurd z (by decide), fun z => absurd h z⟩
  · rw [bI_f h]; exact ⟨fun _ => h, fun _ => rfl⟩
theorem bI_n0 {p : Prop} [Decidable p] : ¬ bI p = 0 ↔ p := by rw [bI_0]; exact Classical.not_not
theorem bI_01 (p : Prop) [Decidable p] : bI p = 0 ∨ bI p = 1 := by
  by_cases h : p
  · exact Or.inr (bI_t h)
  · exact Or.inl (bI_f h)
theorem fit1 {x : Int32} (h : x = 0 ∨ x = 1) : fitF 1 x = true := by rcases h with rfl | rfl <;> rfl
theorem ret2 {x : Int32} (h : x = 0 ∨ x = 1) : retOk 2 x = true := by rcases h with rfl | rfl <;> rfl
/-- the bit i of b, as an int -/
def bitS (b i : Int32) : Int32 := (b.toUInt32 >>> (i.toUInt32 &&& Int32.toUInt32 31)).toInt32 &&& 1
abbrev isB1 (b i : Int32) : Prop := bitS b i = 1
def rdB (M : Mem) : Int32 := (M.1 377 0 &&& (M.1 0 8 ^^^ (-1))) ||| M.1 0 9
def outB (b : Int32) : Int32 := (b.toUInt32 >>> ((8 : Int32).toUInt32 &&& Int32.toUInt32 31)).toInt32 &&& 255
def msk (i : Int32) : Int32 := if i < 0 then 0 else 1 <<< (i &&& 31)
section SP1
variable {G : MG} {d : Nat} {M : Mem}
theorem isBetween_ok (v lo hi : Int32) : Ret G (d + 1) 75 [.int v, .int lo, .int hi] M (some (.int (bI (lo ≤ v ∧ v ≤ hi)))) M := by
  refine R_start (by decide) mX9_isBetween ?_
  show E _ _ _ (0, [some (.int v), some (.int lo), some (.int hi)], [], M, 0) _
  refine E_iload_n fX9_isBetween_0 rfl ?_
  refine E_iload_n fX9_isBetween_1 rfl ?_
  refine E_iclt (tg := 14) fX9_isBetween_2 (by decide) (fun c_2 => ?_) (fun c_2 => ?_)
  · refine E_iconst (v := 0) fX9_isBetween_14 (by decide) ?_
    exact R_iret fX9_isBetween_15 mX9_isBetween rfl (by first | rw [bI_f (fun z => Int32.not_lt.mpr z.1 c_2)] | rw [bI_f (fun z => Int32.not_lt.mpr z.2 c_7)])
  · refine E_iload_n fX9_isBetween_5 rfl ?_
    refine E_iload_n fX9_isBetween_6 rfl ?_
    refine E_icgt (tg := 14) fX9_isBetween_7 (by decide) (fun c_7 => ?_) (fun c_7 => ?_)
    · refine E_iconst (v := 0) fX9_isBetween_14 (by decide) ?_
      exact R_iret fX9_isBetween_15 mX9_isBetween rfl (by first | rw [bI_f (fun z => Int32.not_lt.mpr z.1 c_2)] | rw [bI_f (fun z => Int32.not_lt.mpr z.2 c_7)])
    · refine E_iconst (v := 1) fX9_isBetween_10 (by decide) ?_
      refine E_goto (tg := 15) fX9_isBetween_11 (by decide) ?_
      exact R_iret fX9_isBetween_15 mX9_isBetween rfl (by rw [bI_t ⟨Int32.not_lt.mp c_2, Int32.not_lt.mp c_7⟩])
theorem isTask_ok (v : Int32) : Ret G (d + 2) 76 [.int v] M (some (.int (bI (0 ≤ v ∧ v ≤ 1)))) M := by
  refine R_start (d := d + 1) (by decide) mX9_isTask ?_
  show E _ _ _ (0, [some (.int v)], [], M, 0) _
  refine E_iload_n fX9_isTask_0 rfl ?_
  refine E_iconst (v := 0) fX9_isTask_1 (by decide) ?_
  refine E_iconst (v := 1) fX9_isTask_2 (by decide) ?_
  refine E_callS (t := []) (isBetween_ok v 0 1) fX9_isTask_3 (by decide) mX9_isBetween ⟨rfl, rfl⟩ rfl rfl (by decide) ?_
  exact R_iret fX9_isTask_6 mX9_isTask (ret2 (bI_01 _)) rfl
theorem isOfEight_ok (v : Int32) : Ret G (d + 2) 77 [.int v] M (some (.int (bI (0 ≤ v ∧ v ≤ 7)))) M := by
  refine R_start (d := d + 1) (by decide) mX9_isOfEight ?_
  show E _ _ _ (0, [some (.int v)], [], M, 0) _
  refine E_iload_n fX9_isOfEight_0 rfl ?_
  refine E_iconst (v := 0) fX9_isOfEight_1 (by decide) ?_
  refine E_bipush (v := 7) fX9_isOfEight_2 (by decide) ?_
  refine E_callS (t := []) (isBetween_ok v 0 7) fX9_isOfEight_4 (by decide) mX9_isBetween ⟨rfl, rfl⟩ rfl rfl (by decide) ?_
  exact R_iret fX9_isOfEight_7 mX9_isOfEight (ret2 (bI_01 _)) rfl
theorem isBit_ok (v : Int32) : Ret G (d + 2) 78 [.int v] M (some (.int (bI (0 ≤ v ∧ v ≤ 31)))) M := by
  refine R_start (d := d + 1) (by decide) mX9_isBit ?_
  show E _ _ _ (0, [some (.int v)], [], M, 0) _
  refine E_iload_n fX9_isBit_0 rfl ?_
  refine E_iconst (v := 0) fX9_isBit_1 (by decide) ?_
  refine E_bipush (v := 31) fX9_isBit_2 (by decide) ?_
  refine E_callS (t := []) (isBetween_ok v 0 31) fX9_isBit_4 (by decide) mX9_isBetween ⟨rfl, rfl⟩ rfl rfl (by decide) ?_
  exact R_iret fX9_isBit_7 mX9_isBit (ret2 (bI_01 _)) rfl
theorem isWritable_ok (v : Int32) : Ret G (d + 2) 79 [.int v] M (some (.int (bI (8 ≤ v ∧ v ≤ 31)))) M := by
  refine R_start (d := d + 1) (by decide) mX9_isWritable ?_
  show E _ _ _ (0, [some (.int v)], [], M, 0) _
  refine E_iload_n fX9_isWritable_0 rfl ?_
  refine E_bipush (v := 8) fX9_isWritable_1 (by decide) ?_
  refine E_bipush (v := 31) fX9_isWritable_3 (by decide) ?_
  refine E_callS (t := []) (isBetween_ok v 8 31) fX9_isWritable_5 (by decide) mX9_isBetween ⟨rfl, rfl⟩ rfl rfl (by decide) ?_
  exact R_iret fX9_isWritable_8 mX9_isWritable (ret2 (bI_01 _)) rfl
theorem isStep_ok (v : Int32) : Ret G (d + 2) 80 [.int v] M (some (.int (bI (0 ≤ v ∧ v ≤ 11)))) M := by
  refine R_start (d := d + 1) (by decide) mX9_isStep ?_
  show E _ _ _ (0, [some (.int v)], [], M, 0) _
  refine E_iload_n fX9_isStep_0 rfl ?_
  refine E_iconst (v := 0) fX9_isStep_1 (by decide) ?_
  refine E_bipush (v := 11) fX9_isStep_2 (by decide) ?_
  refine E_callS (t := []) (isBetween_ok v 0 11) fX9_isStep_4 (by decide) mX9_isBetween ⟨rfl, rfl⟩ rfl rfl (by decide) ?_
  exact R_iret fX9_isStep_7 mX9_isStep (ret2 (bI_01 _)) rfl
theorem require_ok {z : Int32} (hz : ¬ z = 0) : Ret G (d + 1) 74 [.int z] M (none) M := by
  refine R_start (d := d) (by decide) mX9_require ?_
  show E _ _ _ (0, [some (.int z)], [], M, 0) _
  refine E_iload_n fX9_require_0 rfl ?_
  refine E_ifne (tg := 12) fX9_require_1 (by decide) (fun c_1 => ?_) (fun c => absurd c hz)
  exact R_vret fX9_require_12 mX9_require rfl rfl
theorem require_no : Thr G (d + 1) 74 [.int 0] M 1 M := by
  refine T_start (by decide) mX9_require ?_
  show E _ _ _ (0, [some (.int 0)], [], M, 0) _
  refine E_iload_n fX9_require_0 rfl ?_
  refine E_ifne (tg := 12) fX9_require_1 (by decide) (fun c => absurd rfl c) (fun c_1 => ?_)
  exact E_new fX9_require_4 (by decide) rfl
theorem isSet_ok (b i : Int32) : Ret G (d + 1) 83 [.int b, .int i] M (some (.int (bI (isB1 b i)))) M := by
  refine R_start (d := d) (by decide) mX9_isSet ?_
  show E _ _ _ (0, [some (.int b), some (.int i)], [], M, 0) _
  refine E_iload_n fX9_isSet_0 rfl ?_
  refine E_iload_n fX9_isSet_1 rfl ?_
  refine E_iushr fX9_isSet_2 ?_
  refine E_iconst (v := 1) fX9_isSet_3 (by decide) ?_
  refine E_iand fX9_isSet_4 ?_
  refine E_iconst (v := 1) fX9_isSet_5 (by decide) ?_
  refine E_icne (tg := 13) fX9_isSet_6 (by decide) (fun c_6 => ?_) (fun c_6 => ?_)
  · refine E_iconst (v := 0) fX9_isSet_13 (by decide) ?_
    exact R_iret fX9_isSet_14 mX9_isSet rfl (by rw [show bI (isB1 b i) = 0 from bI_f c_6])
  · refine E_iconst (v := 1) fX9_isSet_9 (by decide) ?_
    refine E_goto (tg := 14) fX9_isSet_10 (by decide) ?_
    exact R_iret fX9_isSet_14 mX9_isSet rfl (by rw [show bI (isB1 b i) = 1 from bI_t c_6])
theorem maskOf_ok (i : Int32) : Ret G (d + 1) 84 [.int i] M (some (.int (msk i))) M := by
  refine R_start (d := d) (by decide) mX9_maskOf ?_
  show E _ _ _ (0, [some (.int i)], [], M, 0) _
  refine E_iload_n fX9_maskOf_0 rfl ?_
  refine E_ifge (tg := 8) fX9_maskOf_1 (by decide) (fun c_1 => ?_) (fun c_1 => ?_)
  · refine E_iconst (v := 1) fX9_maskOf_8 (by decide) ?_
    refine E_iload_n fX9_maskOf_9 rfl ?_
    refine E_ishl fX9_maskOf_10 ?_
    exact R_iret fX9_maskOf_11 mX9_maskOf rfl (by rw [show msk i = 1 <<< (i &&& 31) from if_neg (Int32.not_lt.mpr c_1)])
  · refine E_iconst (v := 0) fX9_maskOf_4 (by decide) ?_
    refine E_goto (tg := 11) fX9_maskOf_5 (by decide) ?_
    exact R_iret fX9_maskOf_11 mX9_maskOf rfl (by rw [show msk i = 0 from if_pos (Int32.not_le.mp c_1)])
theorem outputsOf_ok (b : Int32) : Ret G (d + 1) 85 [.int b] M (some (.int (outB b))) M := by
  refine R_start (d := d) (by decide) mX9_outputsOf ?_
  show E _ _ _ (0, [some (.int b)], [], M, 0) _
  refine E_iload_n fX9_outputsOf_0 rfl ?_
  refine E_bipush (v := 8) fX9_outputsOf_1 (by decide) ?_
  refine E_iushr fX9_outputsOf_3 ?_
  refine E_sipush (v := 255) fX9_outputsOf_4 (by decide) ?_
  refine E_iand fX9_outputsOf_7 ?_
  exact R_iret fX9_outputsOf_8 mX9_outputsOf rfl rfl
theorem readBits_ok (hG : Core G) : Ret G (d + 1) 86 [.ref 0] M (some (.int (rdB M))) M := by
  refine R_start (d := d) (by decide) mX9_readBits ?_
  show E _ _ _ (0, [some (.ref 0)], [], M, 0) _
  refine E_aload_n fX9_readBits_0 rfl (by decide) ?_
  refine E_getR (r' := 377) fX9_readBits_1 (k0 hG) (by decide) (by decide) (by decide) rfl ?_
  refine E_getI fX9_readBits_4 (k377 hG) (by decide) (by decide) (by decide) ?_
  refine E_aload_n fX9_readBits_7 rfl (by decide) ?_
  refine E_getI fX9_readBits_8 (k0 hG) (by decide) (by decide) (by decide) ?_
  refine E_iconst (v := (-1)) fX9_readBits_11 (by decide) ?_
  refine E_ixor fX9_readBits_12 ?_
  refine E_iand fX9_readBits_13 ?_
  refine E_aload_n fX9_readBits_14 rfl (by decide) ?_
  refine E_getI fX9_readBits_15 (k0 hG) (by decide) (by decide) (by decide) ?_
  refine E_ior fX9_readBits_18 ?_
  exact R_iret fX9_readBits_19 mX9_readBits rfl rfl
theorem told_ok (p : Prop) [Decidable p] : Ret G (d + 1) 119 [.int (bI p)] M (some (.int (bI p))) M := by
  refine R_start (d := d) (by decide) mL_told ?_
  show E _ _ _ (0, [some (.int (bI p))], [], M, 0) _
  refine E_iload_n fL_told_0 rfl ?_
  refine E_ifeq (tg := 8) fL_told_1 (by decide) (fun c_1 => ?_) (fun c_1 => ?_)
  · refine E_iconst (v := 0) fL_told_8 (by decide) ?_
    exact R_iret fL_told_9 mL_told rfl (by rw [bI_f (bI_0.mp c_1)])
  · refine E_iconst (v := 1) fL_told_4 (by decide) ?_
    refine E_goto (tg := 9) fL_told_5 (by decide) ?_
    exact R_iret fL_told_9 mL_told rfl (by rw [bI_t (bI_n0.mp c_1)])
theorem areActive_ok (hG : Core G) (x : Int32) : Ret G (d + 1) 102 [.ref 0, .int x] M (some (.int (bI (M.1 377 1 &&& x = x)))) M := by
  refine R_start (d := d) (by decide) mX9_areActive ?_
  show E _ _ _ (0, [some (.ref 0), some (.int x)], [], M, 0) _
  refine E_aload_n fX9_areActive_0 rfl (by decide) ?_
  refine E_getR (r' := 377) fX9_areActive_1 (k0 hG) (by decide) (by decide) (by decide) rfl ?_
  refine E_getI fX9_areActive_4 (k377 hG) (by decide) (by decide) (by decide) ?_
  refine E_iload_n fX9_areActive_7 rfl ?_
  refine E_iand fX9_areActive_8 ?_
  refine E_iload_n fX9_areActive_9 rfl ?_
  refine E_icne (tg := 17) fX9_areActive_10 (by decide) (fun c_10 => ?_) (fun c_10 => ?_)
  · refine E_iconst (v := 0) fX9_areActive_17 (by decide) ?_
    exact R_iret fX9_areActive_18 mX9_areActive rfl (by rw [bI_f c_10])
  · refine E_iconst (v := 1) fX9_areActive_13 (by decide) ?_
    refine E_goto (tg := 18) fX9_areActive_14 (by decide) ?_
    exact R_iret fX9_areActive_18 mX9_areActive rfl (by rw [bI_t c_10])
end SP1
