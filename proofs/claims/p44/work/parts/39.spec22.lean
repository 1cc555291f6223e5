section SP22
variable {G : MG} {d : Nat} {M M' : Mem}
theorem nI_sm {x : Int32} {n : Nat} (h : x.toBitVec.toNat = n) (hn : n < 2 ^ 31) : x = nI n := by
  apply Int32.toBitVec_inj.mp
  apply BitVec.eq_of_toNat_eq
  rw [h]
  show n = (BitVec.ofNat 32 n).toNat
  rw [BitVec.toNat_ofNat, Nat.mod_eq_of_lt (by omega)]
theorem ushr8 (x : Int32) : ∃ n, n < 2 ^ 31 ∧ (x.toUInt32 >>> ((8 : Int32).toUInt32 &&& Int32.toUInt32 31)).toInt32 = nI n := by
  have e : (x.toUInt32 >>> ((8 : Int32).toUInt32 &&& Int32.toUInt32 31)).toInt32.toBitVec = x.toBitVec >>> 8 := by
    show (x.toUInt32 >>> (8 : UInt32)).toBitVec = _
    rfl
  have h2 : (x.toBitVec >>> 8).toNat < 2 ^ 24 := by
    rw [BitVec.toNat_ushiftRight, Nat.shiftRight_eq_div_pow]
    have := x.toBitVec.isLt
    omega
  exact ⟨_, by omega, nI_sm (congrArg BitVec.toNat e) (by omega)⟩
theorem nI_div {a b : Nat} (ha : a < 2 ^ 31) (hb : b < 2 ^ 31) : nI a / nI b = nI (a / b) := by
  have h0 : a / b ≤ a := Nat.div_le_self a b
  apply Int32.toInt_inj.mp
  rw [Int32.toInt_div, nI_toInt ha, nI_toInt hb, nI_toInt (by omega), ← Int.ofNat_tdiv]
  generalize a / b = q at h0 ⊢
  exact Int.bmod_eq_of_le (by omega) (by omega)
theorem nI_mod {a b : Nat} (ha : a < 2 ^ 31) (hb : b < 2 ^ 31) : nI a - nI a / nI b * nI b = nI (a % b) := by
  have h0 := Nat.div_add_mod a b
  rw [nI_div ha hb, show nI (a / b) * nI b = nI (a / b * b) from (Int32.ofNat_mul _ _).symm]
  have e : nI (a % b) + nI (a / b * b) = nI a := by rw [nI_add, Nat.mul_comm, Nat.add_comm, h0]
  rw [← e, Int32.add_sub_cancel]
theorem cell_ok {i : Nat} (hL : G.2.2 < 2 ^ 31) (hi : i < 2 ^ 31) : ∃ x, ∀ (d : Nat) (M : Mem), Ret G (d + 1) 117 [.ref 1000, .int (nI i)] M (some (.int x)) M := by
  by_cases c0 : Int32.ofNat G.2.2 ≤ nI i
  · apply Exists.intro
    intro d M
    refine R_start (d := d) (by decide) mL_cell ?_
    show E _ _ _ (0, [some (.ref 1000), some (.int (nI i)), none], [], M, 0) _
    refine E_ldcI (v := 69069) fL_cell_0 (by decide) ?_
    refine E_iload_n fL_cell_2 rfl ?_
    refine E_aload_n fL_cell_3 rfl (by decide) ?_
    refine E_slen fL_cell_4 ?_
    refine E_icge (tg := 14) fL_cell_5 (by decide) (fun c_5 => ?_) (fun c => absurd c0 c)
    refine E_iconst (v := 0) fL_cell_14 (by decide) ?_
    refine E_sipush (v := 1009) fL_cell_15 (by decide) ?_
    refine E_iload_n fL_cell_18 rfl ?_
    refine E_imul fL_cell_19 ?_
    refine E_iadd fL_cell_20 ?_
    refine E_imul fL_cell_21 ?_
    refine E_sipush (v := 12345) fL_cell_22 (by decide) ?_
    refine E_iadd fL_cell_25 ?_
    refine E_istore_n (L' := [some (.ref 1000), some (.int (nI i)), some (.int ((69069 * (0 + (1009 * (nI i)))) + 12345))]) fL_cell_26 rfl (Nat.le_of_ble_eq_true rfl) ?_
    refine E_iload_n fL_cell_27 rfl ?_
    refine E_iload_n fL_cell_28 rfl ?_
    refine E_bipush (v := 13) fL_cell_29 (by decide) ?_
    refine E_iushr fL_cell_31 ?_
    refine E_ixor fL_cell_32 ?_
    refine E_ldcI (v := 1103515245) fL_cell_33 (by decide) ?_
    refine E_imul fL_cell_35 ?_
    refine E_istore_n (L' := [some (.ref 1000), some (.int (nI i)), some (.int ((((69069 * (0 + (1009 * (nI i)))) + 12345) ^^^ (((((69069 * (0 + (1009 * (nI i)))) + 12345) : Int32).toUInt32 >>> ((13 : Int32).toUInt32 &&& Int32.toUInt32 31)).toInt32)) * 1103515245))]) fL_cell_36 rfl (Nat.le_of_ble_eq_true rfl) ?_
    refine E_iload_n fL_cell_37 rfl ?_
    refine E_iload_n fL_cell_38 rfl ?_
    refine E_bipush (v := 16) fL_cell_39 (by decide) ?_
    refine E_iushr fL_cell_41 ?_
    refine E_ixor fL_cell_42 ?_
    exact R_iret fL_cell_43 mL_cell rfl rfl
  · apply Exists.intro
    intro d M
    refine R_start (d := d) (by decide) mL_cell ?_
    show E _ _ _ (0, [some (.ref 1000), some (.int (nI i)), none], [], M, 0) _
    refine E_ldcI (v := 69069) fL_cell_0 (by decide) ?_
    refine E_iload_n fL_cell_2 rfl ?_
    refine E_aload_n fL_cell_3 rfl (by decide) ?_
    refine E_slen fL_cell_4 ?_
    refine E_icge (tg := 14) fL_cell_5 (by decide) (fun c => absurd c c0) (fun c_5 => ?_)
    refine E_aload_n fL_cell_8 rfl (by decide) ?_
    refine E_iload_n fL_cell_9 rfl ?_
    refine E_sald fL_cell_10 ⟨nI_pos' hi, by rw [nI_clamp hi]; exact (nI_ltI hi hL).mp (Int32.not_le.mp c0)⟩ ?_
    refine E_goto (tg := 15) fL_cell_11 (by decide) ?_
    refine E_sipush (v := 1009) fL_cell_15 (by decide) ?_
    refine E_iload_n fL_cell_18 rfl ?_
    refine E_imul fL_cell_19 ?_
    refine E_iadd fL_cell_20 ?_
    refine E_imul fL_cell_21 ?_
    refine E_sipush (v := 12345) fL_cell_22 (by decide) ?_
    refine E_iadd fL_cell_25 ?_
    refine E_istore_n (L' := [some (.ref 1000), some (.int (nI i)), some (.int ((69069 * ((G.2.1 (Int32.toNatClampNeg (nI i))) + (1009 * (nI i)))) + 12345))]) fL_cell_26 rfl (Nat.le_of_ble_eq_true rfl) ?_
    refine E_iload_n fL_cell_27 rfl ?_
    refine E_iload_n fL_cell_28 rfl ?_
    refine E_bipush (v := 13) fL_cell_29 (by decide) ?_
    refine E_iushr fL_cell_31 ?_
    refine E_ixor fL_cell_32 ?_
    refine E_ldcI (v := 1103515245) fL_cell_33 (by decide) ?_
    refine E_imul fL_cell_35 ?_
    refine E_istore_n (L' := [some (.ref 1000), some (.int (nI i)), some (.int ((((69069 * ((G.2.1 (Int32.toNatClampNeg (nI i))) + (1009 * (nI i)))) + 12345) ^^^ (((((69069 * ((G.2.1 (Int32.toNatClampNeg (nI i))) + (1009 * (nI i)))) + 12345) : Int32).toUInt32 >>> ((13 : Int32).toUInt32 &&& Int32.toUInt32 31)).toInt32)) * 1103515245))]) fL_cell_36 rfl (Nat.le_of_ble_eq_true rfl) ?_
    refine E_iload_n fL_cell_37 rfl ?_
    refine E_iload_n fL_cell_38 rfl ?_
    refine E_bipush (v := 16) fL_cell_39 (by decide) ?_
    refine E_iushr fL_cell_41 ?_
    refine E_ixor fL_cell_42 ?_
    exact R_iret fL_cell_43 mL_cell rfl rfl
theorem pick_ok {i m : Nat} (hL : G.2.2 < 2 ^ 31) (hi : i < 2 ^ 31) (hm0 : 0 < m) (hm : m < 2 ^ 31) : ∃ x, x < m ∧ ∀ (d : Nat) (M : Mem), Ret G (d + 2) 118 [.ref 1000, .int (nI i), .int (nI m)] M (some (.int (nI x))) M := by
  obtain ⟨x, hc⟩ := cell_ok hL hi
  obtain ⟨n, hn, en⟩ := ushr8 x
  refine ⟨n % m, Nat.mod_lt _ hm0, fun d M => ?_⟩
  refine R_start (d := d + 1) (by decide) mL_pick ?_
  show E _ _ _ (0, [some (.ref 1000), some (.int (nI i)), some (.int (nI m))], [], M, 0) _
  refine E_aload_n fL_pick_0 rfl (by decide) ?_
  refine E_iload_n fL_pick_1 rfl ?_
  refine E_callS (t := []) (hc d M) fL_pick_2 (by decide) mL_cell ⟨rfl, rfl⟩ rfl rfl (Nat.le_of_ble_eq_true rfl) ?_
  refine E_bipush (v := 8) fL_pick_5 (by decide) ?_
  refine E_iushr fL_pick_7 ?_
  rw [en]
  refine E_iload_n fL_pick_8 rfl ?_
  refine E_irem fL_pick_9 (nI_ne0 hm0 hm) ?_
  rw [nI_mod hn hm]
  exact R_iret fL_pick_10 mL_pick rfl rfl
theorem WS.kw {M M1 : Mem} {n s t nw : Nat} (h : WS M n s t nw) (e : ∀ c s, c ≠ 381 → ¬ (395 ≤ c ∧ c < 405) → M1.1 c s = M.1 c s) : WS M1 n s t nw := by
  obtain ⟨h1, h2, h3, h4, h5, h6, h7, h8, h9, h10, h11⟩ := h
  refine ⟨⟨h1.1, (e _ _ (by omega) (by omega)).trans h1.2.1, fun i hi => (h1.2.2 i hi).cg fun s => e _ s (by have := h1.1; omega) (by have := h1.1; omega)⟩, ?_, h3.fr fun c s hc => e c s (by omega) (by omega), h4.eq (e _ _ (by omega) (by omega)), (e _ _ (by omega) (by omega)).trans h5, (e _ _ (by omega) (by omega)).trans h6, (e _ _ (by omega) (by omega)).trans h7, (e _ _ (by omega) (by omega)).trans h8, (e _ _ (by omega) (by omega)).trans h9, (e _ _ (by omega) (by omega)).trans h10, (e _ _ (by omega) (by omega)).trans h11⟩
  obtain ⟨g1, g2, g3, g4, g5, g6⟩ := h2
  exact ⟨g1, (e _ _ (by omega) (by omega)).trans g2, g3, (e _ _ (by omega) (by omega)).trans g4, fun i hi => by rw [e _ _ (by omega) (by omega)]; exact g5 i hi, fun i hi k hk hb => by rw [e _ _ (by omega) (by omega)] at hb; exact g6 i hi k hk hb⟩
-- takeOver
theorem DJ.cg {M M1 : Mem} {n s t : Nat} (h : DJ M n s t) (e : ∀ c s, 189 ≤ c → c < 377 → M1.1 c s = M.1 c s) : DJ M1 n s t := by
  obtain ⟨h1, h2, h3, h4, h5, h6, h7, h8, h9⟩ := h
  refine ⟨h1, (e _ _ (by omega) (by omega)).trans h2, fun i hi => ?_, h4, (e _ _ (by omega) (by omega)).trans h5, h6, (e _ _ (by omega) (by omega)).trans h7, fun i hi => ?_, fun i hi => ?_⟩
  · obtain ⟨r, z, hz, e2⟩ := h3 i hi
    exact ⟨r.cg fun s => e _ s (by omega) (by omega), z, hz, (e _ _ (by omega) (by omega)).trans e2⟩
  · rw [e _ _ (by omega) (by omega)]; exact h8 i hi
  · rw [e _ _ (by omega) (by omega), e _ _ (by omega) (by omega)]; exact h9 i hi
theorem takeOver_any (hA : All G) {s : Nat} (hW : WS M 0 0 0 0) (hD : DI M s) (b1 : M.1 395 1 = 1) (b3 : M.1 395 3 = 0) (b4 : M.1 395 4 = 0) : Any G (d + 5) 42 [.ref 0] M (fun M' => ∃ n s t, WS M' n s t 0 ∧ M'.1 395 1 = 1 ∧ M'.1 395 3 = 0 ∧ M'.1 395 4 = 0) := by
  have hG := hA.core
  have hP0 : ∃ n s t, WS M n s t 0 ∧ M.1 395 1 = 1 ∧ M.1 395 3 = 0 ∧ M.1 395 4 = 0 := ⟨0, 0, 0, hW, b1, b3, b4⟩
  obtain ⟨n, t, hJ⟩ := hD
  have z0 : M.1 1 0 = 0 := hW.1.2.1
  have z1 : M.1 1 1 = 0 := hW.2.1.2.1
  have hs12 : s ≤ 12 := hJ.2.2.2.1
  have hsn : M.1 189 1 = nI s := hJ.2.2.2.2.1
  refine Any_start (d := d + 4) (by decide) mX9_takeOver ?_
  show E _ _ _ (0, [some (.ref 0), none], [], M, 0) _
  refine E_aload_n fX9_takeOver_0 rfl (by decide) ?_
  refine E_getR (r' := 189) fX9_takeOver_1 (k0 hG) (by decide) (by decide) (by decide) rfl ?_
  refine E_callV (t := []) (stepMask_ok (d := d + 3) hG) fX9_takeOver_4 mX2_stepMask (rc_obj (k189 hG) (by decide) (by decide)) ⟨by decide, rfl⟩ rfl rfl (Nat.le_of_ble_eq_true rfl) ?_
  refine E_istore_n (L' := [some (.ref 0), some (.int ((1 <<< (M.1 189 1 &&& 31)) - 1))]) fX9_takeOver_7 rfl (Nat.le_of_ble_eq_true rfl) ?_
  refine E_aload_n fX9_takeOver_8 rfl (by decide) ?_
  refine E_getR (r' := 1) fX9_takeOver_9 (k0 hG) (by decide) (by decide) (by decide) rfl ?_
  refine E_getI fX9_takeOver_12 (k1 hG) (by decide) (by decide) (by decide) ?_
  refine E_ifne (tg := 22) fX9_takeOver_15 (by decide) (fun c => absurd z1 c) (fun c_15 => ?_)
  refine E_iload_n fX9_takeOver_18 rfl ?_
  refine E_iconst (v := 1) fX9_takeOver_19 (by decide) ?_
  refine E_ior fX9_takeOver_20 ?_
  refine E_istore_n (L' := [some (.ref 0), some (.int (((1 <<< (M.1 189 1 &&& 31)) - 1) ||| 1))]) fX9_takeOver_21 rfl (Nat.le_of_ble_eq_true rfl) ?_
  refine E_aload_n fX9_takeOver_22 rfl (by decide) ?_
  refine E_getR (r' := 377) fX9_takeOver_23 (k0 hG) (by decide) (by decide) (by decide) rfl ?_
  refine E_getI fX9_takeOver_26 (k377 hG) (by decide) (by decide) (by decide) ?_
  refine E_iload_n fX9_takeOver_29 rfl ?_
  refine E_iconst (v := (-1)) fX9_takeOver_30 (by decide) ?_
  refine E_ixor fX9_takeOver_31 ?_
  refine E_iand fX9_takeOver_32 ?_
  refine E_ifeq (tg := 44) fX9_takeOver_33 (by decide) (fun c_33 => ?_) (fun c_33 => ?_)
  · refine E_aload_n fX9_takeOver_44 rfl (by decide) ?_
    have hAK : AK M s := ak_of hs12 (by rw [hsn] at c_33; exact c_33)
    obtain ⟨v1, M1, hR1, rfl, F1⟩ := keepSeen_ok (d := d + 2) hG z0
    have e1 : ∀ c s, c ≠ 381 → (c ≠ 377 ∨ s ≠ 99) → M1.1 c s = M.1 c s := fun c s a b => F1.1 c s (by unfold kwB; simp only [Bool.or_eq_false_iff, Bool.and_eq_false_iff, beq_eq_false_iff_ne]; omega)
    have J1 : DJ M1 n s t := hJ.cg fun c s a b => e1 c s (by omega) (by omega)
    refine E_callV (t := []) hR1 fX9_takeOver_45 mX9_keepWhatWasSeen (rc_obj (k0 hG) (by decide) (by decide)) ⟨by decide, rfl⟩ rfl rfl (Nat.le_of_ble_eq_true rfl) ?_
    refine E_aload_n fX9_takeOver_48 rfl (by decide) ?_
    refine E_getR (r' := 1) fX9_takeOver_49 (k0 hG) (by decide) (by decide) (by decide) rfl ?_
    refine E_aload_n fX9_takeOver_52 rfl (by decide) ?_
    refine E_getR (r' := 189) fX9_takeOver_53 (k0 hG) (by decide) (by decide) (by decide) rfl ?_
    obtain ⟨v2, M2, hR2, rfl, F2, K2, C2⟩ := pgCopy_ok (d := d + 2) hG J1
    have e2 : ∀ c s, c ≠ 381 → (c ≠ 377 ∨ s ≠ 99) → ¬ (1 ≤ c ∧ c < 189) → M2.1 c s = M.1 c s := fun c s x y z => (F2.1 c s z).trans (e1 c s x y)
    refine E_callV (t := []) hR2 fX9_takeOver_56 mX2_copyFrom (rc_obj (k1 hG) (by decide) (by decide)) ⟨by decide, rfl⟩ rfl rfl (Nat.le_of_ble_eq_true rfl) ?_
    refine E_aload_n fX9_takeOver_59 rfl (by decide) ?_
    refine E_getR (r' := 395) fX9_takeOver_60 (k0 hG) (by decide) (by decide) (by decide) rfl ?_
    refine E_aload_n fX9_takeOver_63 rfl (by decide) ?_
    refine E_getR (r' := 377) fX9_takeOver_64 (k0 hG) (by decide) (by decide) (by decide) rfl ?_
    obtain ⟨v3, M3, hR3, rfl, M9, hC9, rfl⟩ := follow_yes (d := d + 1) (M := M2) hG hA ((e2 395 1 (by decide) (by decide) (by decide)).trans b1)
    have o9 : ∀ c s, ¬ (395 ≤ c ∧ c < 405) → (pI M9 395 2 1).1 c s = M2.1 c s := fun c s hc => (pI_ne (by omega)).trans (hC9.1 c s (by rintro ⟨off, a, b, -⟩; omega))
    have p9 : ∀ s, s ≠ 2 → (pI M9 395 2 1).1 395 s = M2.1 395 s := fun s hs => (pI_ne (Or.inr hs)).trans (hC9.1 395 s (by rintro ⟨off, a, b, -⟩; omega))
    refine E_callV (t := []) hR3 fX9_takeOver_67 mX4_follow (rc_obj (k395 hA) (by decide) (by decide)) ⟨by decide, rfl⟩ rfl rfl (Nat.le_of_ble_eq_true rfl) ?_
    refine E_aload_n fX9_takeOver_70 rfl (by decide) ?_
    refine E_getR (r' := 1) fX9_takeOver_71 (k0 hG) (by decide) (by decide) (by decide) rfl ?_
    refine E_getI fX9_takeOver_74 (k1 hG) (by decide) (by decide) (by decide) ?_
    refine R_iret fX9_takeOver_77 mX9_takeOver rfl (RA.ret ?_)
    obtain ⟨w1, w2, w3, w4, w5, w6, w7, w8, w9, w10, w11⟩ := hW
    have W2 : WS M2 n s t 0 := ⟨K2, C2, w3.fr fun c s hc => e2 c s (by omega) (by omega) (by omega), hAK.eq (e2 _ _ (by decide) (by decide) (by decide)), (e2 _ _ (by decide) (by decide) (by decide)).trans w5, (e2 _ _ (by decide) (by decide) (by decide)).trans w6, (e2 _ _ (by decide) (by decide) (by decide)).trans w7, (e2 _ _ (by decide) (by decide) (by decide)).trans w8, (e2 _ _ (by decide) (by decide) (by decide)).trans w9, (e2 _ _ (by decide) (by decide) (by decide)).trans w10, (e2 _ _ (by decide) (by decide) (by decide)).trans w11⟩
    exact ⟨n, s, t, W2.kw fun c s _ b => o9 c s b, (p9 1 (by decide)).trans ((e2 _ _ (by decide) (by decide) (by decide)).trans b1), (p9 3 (by decide)).trans ((e2 _ _ (by decide) (by decide) (by decide)).trans b3), (p9 4 (by decide)).trans ((e2 _ _ (by decide) (by decide) (by decide)).trans b4)⟩
  · exact E_new fX9_takeOver_36 (by decide) (RA.thr (by decide) hP0)
end SP22
