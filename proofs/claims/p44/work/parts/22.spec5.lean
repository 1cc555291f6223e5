section SP5
variable {G : MG} {d : Nat} {M : Mem}
theorem pI_2 {M : Mem} {r k c : Nat} {x : Int32} : (pI M r k x).2 c = M.2 c := rfl
theorem pL_1 {M : Mem} {r c s : Nat} {x : Int64} : (pL M r x).1 c s = M.1 c s := rfl
theorem pL_at {M : Mem} {r : Nat} {x : Int64} : (pL M r x).2 r = x := if_pos rfl
theorem pL_ne {M : Mem} {r c : Nat} {x : Int64} (h : c ≠ r) : (pL M r x).2 c = M.2 c := if_neg h
theorem pA_at {M : Mem} {r s : Nat} {f : Nat → Int32} : (pA M r f).1 r s = f s := if_pos rfl
theorem pA_ne {M : Mem} {r c s : Nat} {f : Nat → Int32} (h : c ≠ r) : (pA M r f).1 c s = M.1 c s := if_neg h
theorem pA_2 {M : Mem} {r c : Nat} {f : Nat → Int32} : (pA M r f).2 c = M.2 c := rfl
theorem cp0 {f g : Nat → Int32} {n k : Nat} (h : k < n) : va_cpy f g 0 0 n k = f k := by
  unfold va_cpy
  rw [if_pos ⟨Nat.zero_le _, by omega⟩]
  congr 1
  omega
theorem cp1 {f g : Nat → Int32} {n k : Nat} (h : ¬ k < n) : va_cpy f g 0 0 n k = g k := by
  unfold va_cpy
  rw [if_neg (by omega)]
theorem alClear_ok (hG : Core G) : ∃ v M', Ret G (d + 1) 0 [.ref 383] M v M' ∧ (v = none ∧ AFr M M' ∧ M'.1 383 0 = 0 ∧ M'.1 383 4 = 0 ∧ ∀ s, s < 8 → M'.1 384 s = 0) := by
  have loop : ∀ m i M1, i + m = 8 → AFr M M1 → M1.1 383 0 = 0 → (∀ s, s < i → M1.1 384 s = 0) → E G d 0 (12, [some (.ref 383), some (.int (nI i))], [], M1, 0) (fun r => ∃ v M', r = (.inl v, M', 0) ∧ (v = none ∧ AFr M M' ∧ M'.1 383 0 = 0 ∧ M'.1 383 4 = 0 ∧ ∀ s, s < 8 → M'.1 384 s = 0)) := by
    intro m
    induction m with
    | zero =>
      intro i M1 hi h1 h2 h3
      have e : i = 8 := by omega
      subst e
      refine E_iload_n fX0_clear_12 rfl ?_
      refine E_bipush (v := 8) fX0_clear_13 (by decide) ?_
      refine E_icge (tg := 31) fX0_clear_15 (by decide) (fun c_15 => ?_) (fun c => absurd (by decide) c)
      refine E_aload_n fX0_clear_31 rfl (by decide) ?_
      refine E_iconst (v := 0) fX0_clear_32 (by decide) ?_
      refine E_putI fX0_clear_33 (k383 hG) (by decide) rfl ?_
      exact R_vret fX0_clear_36 mX0_clear rfl ⟨none, _, rfl, rfl, h1.pI (by omega), (pI_ne (Or.inr (by decide))).trans h2, pI_at, fun s hs => (pI_ne (Or.inl (by decide))).trans (h3 s hs)⟩
    | succ m ih =>
      intro i M1 hi h1 h2 h3
      have hlt : i < 8 := by omega
      refine E_iload_n fX0_clear_12 rfl ?_
      refine E_bipush (v := 8) fX0_clear_13 (by decide) ?_
      refine E_icge (tg := 31) fX0_clear_15 (by decide) (fun c => absurd c (by rw [show (8 : Int32) = nI 8 from rfl]; exact nI_ge hlt (by omega))) (fun c_15 => ?_)
      refine E_aload_n fX0_clear_18 rfl (by decide) ?_
      refine E_getR (r' := 384) fX0_clear_19 (k383 hG) (by decide) (by decide) (by decide) rfl ?_
      refine E_iload_n fX0_clear_22 rfl ?_
      refine E_iconst (v := 0) fX0_clear_23 (by decide) ?_
      refine E_iast (n := i) (K := 20) fX0_clear_24 (k384 hG) ⟨by decide, by decide⟩ (by decide) rfl (by show i < 8; omega) ?_
      refine E_iinc (v := nI (i + 1)) (L' := [some (.ref 383), some (.int (nI (i + 1)))]) fX0_clear_25 rfl (inc1 _) rfl ?_
      refine E_goto (tg := 12) fX0_clear_28 (by decide) ?_
      exact ih (i + 1) _ (by omega) (h1.pI (by omega)) ((pI_ne (Or.inl (by decide))).trans h2) (fun s hs => by
        by_cases e : s = i
        · subst e; exact pI_at
        · exact (pI_ne (Or.inr e)).trans (h3 s (by omega)))
  refine X_start (by decide) mX0_clear ?_
  show E _ _ _ (0, [some (.ref 383), none], [], M, 0) _
  refine E_aload_n fX0_clear_0 rfl (by decide) ?_
  refine E_iconst (v := 0) fX0_clear_1 (by decide) ?_
  refine E_putI fX0_clear_2 (k383 hG) (by decide) rfl ?_
  refine E_aload_n fX0_clear_5 rfl (by decide) ?_
  refine E_iconst (v := 0) fX0_clear_6 (by decide) ?_
  refine E_putI fX0_clear_7 (k383 hG) (by decide) rfl ?_
  refine E_iconst (v := 0) fX0_clear_10 (by decide) ?_
  refine E_istore_n (L' := [some (.ref 383), some (.int 0)]) fX0_clear_11 rfl (Nat.le_of_ble_eq_true rfl) ?_
  exact loop 8 0 _ (by omega) ((AFr.rf.pI (by omega)).pI (by omega)) ((pI_ne (Or.inr (by decide))).trans pI_at) (fun s hs => absurd hs (Nat.not_lt_zero s))
/-- nothing but the outputs and their counts is changed -/
def PFr (M M' : Mem) : Prop := (∀ c s, c ≠ 406 → (c ≠ 405 ∨ s ≠ 1) → M'.1 c s = M.1 c s) ∧ ∀ c, M'.2 c = M.2 c
theorem giveAll_ok (hG : Core G) (w : Int32) : ∃ v M', Ret G (d + 2) 12 [.ref 405, .int w] M v M' ∧ (v = none ∧ PFr M M' ∧ M'.1 405 1 = w) := by
  have loop : ∀ m i M1, i + m = 8 → PFr M M1 → E G (d + 1) 12 (2, [some (.ref 405), some (.int w), some (.int (nI i))], [], M1, 0) (fun r => ∃ v M', r = (.inl v, M', 0) ∧ (v = none ∧ PFr M M' ∧ M'.1 405 1 = w)) := by
    intro m
    induction m with
    | zero =>
      intro i M1 hi h1
      have e : i = 8 := by omega
      subst e
      refine E_iload_n fX1_giveAll_2 rfl ?_
      refine E_bipush (v := 8) fX1_giveAll_3 (by decide) ?_
      refine E_icge (tg := 37) fX1_giveAll_5 (by decide) (fun c_5 => ?_) (fun c => absurd (by decide) c)
      refine E_aload_n fX1_giveAll_37 rfl (by decide) ?_
      refine E_iload_n fX1_giveAll_38 rfl ?_
      refine E_putI fX1_giveAll_39 (k405 hG) (by decide) rfl ?_
      exact R_vret fX1_giveAll_42 mX1_giveAll rfl ⟨none, _, rfl, rfl, ⟨fun c s a b => (pI_ne b).trans (h1.1 c s a b), h1.2⟩, pI_at⟩
    | succ m ih =>
      intro i M1 hi h1
      have hlt : i < 8 := by omega
      refine E_iload_n fX1_giveAll_2 rfl ?_
      refine E_bipush (v := 8) fX1_giveAll_3 (by decide) ?_
      refine E_icge (tg := 37) fX1_giveAll_5 (by decide) (fun c => absurd c (by rw [show (8 : Int32) = nI 8 from rfl]; exact nI_ge hlt (by omega))) (fun c_5 => ?_)
      refine E_aload_n fX1_giveAll_8 rfl (by decide) ?_
      refine E_getI fX1_giveAll_9 (k405 hG) (by decide) (by decide) (by decide) ?_
      refine E_iload_n fX1_giveAll_12 rfl ?_
      refine E_ixor fX1_giveAll_13 ?_
      refine E_iload_n fX1_giveAll_14 rfl ?_
      refine E_callS (t := []) (isSet_ok ((M1.1 405 1) ^^^ w) (nI i)) fX1_giveAll_15 (by decide) mX9_isSet ⟨rfl, rfl⟩ rfl rfl (by decide) ?_
      refine E_ifeq (tg := 31) fX1_giveAll_18 (by decide) (fun c_18 => ?_) (fun c_18 => ?_)
      · refine E_iinc (v := nI (i + 1)) (L' := [some (.ref 405), some (.int w), some (.int (nI (i + 1)))]) fX1_giveAll_31 rfl (inc1 _) rfl ?_
        refine E_goto (tg := 2) fX1_giveAll_34 (by decide) ?_
        exact ih (i + 1) _ (by omega) h1
      · refine E_aload_n fX1_giveAll_21 rfl (by decide) ?_
        refine E_getR (r' := 406) fX1_giveAll_22 (k405 hG) (by decide) (by decide) (by decide) rfl ?_
        refine E_iload_n fX1_giveAll_25 rfl ?_
        refine E_dup2 fX1_giveAll_26 rfl rfl ?_
        refine E_iald (n := i) (K := 20) fX1_giveAll_27 (k406 hG) ⟨by decide, by decide⟩ (by decide) rfl (by show i < 8; omega) ?_
        refine E_iconst (v := 1) fX1_giveAll_28 (by decide) ?_
        refine E_iadd fX1_giveAll_29 ?_
        refine E_iast (n := i) (K := 20) fX1_giveAll_30 (k406 hG) ⟨by decide, by decide⟩ (by decide) rfl (by show i < 8; omega) ?_
        refine E_iinc (v := nI (i + 1)) (L' := [some (.ref 405), some (.int w), some (.int (nI (i + 1)))]) fX1_giveAll_31 rfl (inc1 _) rfl ?_
        refine E_goto (tg := 2) fX1_giveAll_34 (by decide) ?_
        exact ih (i + 1) _ (by omega) ⟨fun c s a b => (pI_ne (Or.inl a)).trans (h1.1 c s a b), h1.2⟩
  refine X_start (d := d + 1) (by decide) mX1_giveAll ?_
  show E _ _ _ (0, [some (.ref 405), some (.int w), none], [], M, 0) _
  refine E_iconst (v := 0) fX1_giveAll_0 (by decide) ?_
  refine E_istore_n (L' := [some (.ref 405), some (.int w), some (.int 0)]) fX1_giveAll_1 rfl (Nat.le_of_ble_eq_true rfl) ?_
  exact loop 8 0 _ (by omega) ⟨fun _ _ _ _ => rfl, fun _ => rfl⟩
theorem localInputs_ok (hG : Core G) (b : Int32) : ∃ v M', Ret G (d + 1) 13 [.ref 405, .int b] M v M' ∧ (M' = M ∧ ∃ x, v = some (.int x)) := by
  refine X_start (d := d + 0) (by decide) mX1_localInputs ?_
  show E _ _ _ (0, [some (.ref 405), some (.int b)], [], M, 0) _
  refine E_iload_n fX1_localInputs_0 rfl ?_
  refine E_bipush (v := (-16)) fX1_localInputs_1 (by decide) ?_
  refine E_iand fX1_localInputs_3 ?_
  refine E_aload_n fX1_localInputs_4 rfl (by decide) ?_
  refine E_getI fX1_localInputs_5 (k405 hG) (by decide) (by decide) (by decide) ?_
  refine E_bipush (v := 15) fX1_localInputs_8 (by decide) ?_
  refine E_iand fX1_localInputs_10 ?_
  refine E_ior fX1_localInputs_11 ?_
  exact R_iret fX1_localInputs_12 mX1_localInputs rfl ⟨_, _, rfl, rfl, _, rfl⟩
theorem stationInputs_ok (hG : Core G) (b : Int32) : ∃ v M', Ret G (d + 1) 14 [.ref 405, .int b] M v M' ∧ ((∀ c s, (c ≠ 405 ∨ (s ≠ 3 ∧ s ≠ 4)) → M'.1 c s = M.1 c s) ∧ (∀ c, M'.2 c = M.2 c) ∧ ∃ x, v = some (.int x)) := by
  refine X_start (d := d + 0) (by decide) mX1_stationInputs ?_
  show E _ _ _ (0, [some (.ref 405), some (.int b)], [], M, 0) _
  refine E_aload_n fX1_stationInputs_0 rfl (by decide) ?_
  refine E_getI fX1_stationInputs_1 (k405 hG) (by decide) (by decide) (by decide) ?_
  refine E_ifne (tg := 27) fX1_stationInputs_4 (by decide) (fun c_4 => ?_) (fun c_4 => ?_)
  · refine E_aload_n fX1_stationInputs_27 rfl (by decide) ?_
    refine E_dup fX1_stationInputs_28 rfl ?_
    refine E_getI fX1_stationInputs_29 (k405 hG) (by decide) (by decide) (by decide) ?_
    refine E_iconst (v := 1) fX1_stationInputs_32 (by decide) ?_
    refine E_isub fX1_stationInputs_33 ?_
    refine E_putI fX1_stationInputs_34 (k405 hG) (by decide) rfl ?_
    refine E_aload_n fX1_stationInputs_37 rfl (by decide) ?_
    refine E_dup fX1_stationInputs_38 rfl ?_
    refine E_getI fX1_stationInputs_39 (k405 hG) (by decide) (by decide) (by decide) ?_
    refine E_iconst (v := 1) fX1_stationInputs_42 (by decide) ?_
    refine E_iadd fX1_stationInputs_43 ?_
    refine E_putI fX1_stationInputs_44 (k405 hG) (by decide) rfl ?_
    refine E_aload_n fX1_stationInputs_47 rfl (by decide) ?_
    refine E_getI fX1_stationInputs_48 (k405 hG) (by decide) (by decide) (by decide) ?_
    refine E_aload_n fX1_stationInputs_51 rfl (by decide) ?_
    refine E_getI fX1_stationInputs_52 (k405 hG) (by decide) (by decide) (by decide) ?_
    refine E_icgt (tg := 62) fX1_stationInputs_55 (by decide) (fun c_55 => ?_) (fun c_55 => ?_)
    · refine E_iload_n fX1_stationInputs_62 rfl ?_
      refine E_sipush (v := (-241)) fX1_stationInputs_63 (by decide) ?_
      refine E_iand fX1_stationInputs_66 ?_
      exact R_iret fX1_stationInputs_67 mX1_stationInputs rfl ⟨_, _, rfl, fun c s h => by rw [pI_ne (by omega), pI_ne (by omega)], fun _ => rfl, _, rfl⟩
    · refine E_iload_n fX1_stationInputs_58 rfl ?_
      refine E_goto (tg := 67) fX1_stationInputs_59 (by decide) ?_
      exact R_iret fX1_stationInputs_67 mX1_stationInputs rfl ⟨_, _, rfl, fun c s h => by rw [pI_ne (by omega), pI_ne (by omega)], fun _ => rfl, _, rfl⟩
  · refine E_aload_n fX1_stationInputs_7 rfl (by decide) ?_
    refine E_iconst (v := 0) fX1_stationInputs_8 (by decide) ?_
    refine E_putI fX1_stationInputs_9 (k405 hG) (by decide) rfl ?_
    refine E_iload_n fX1_stationInputs_12 rfl ?_
    refine E_sipush (v := (-241)) fX1_stationInputs_13 (by decide) ?_
    refine E_iand fX1_stationInputs_16 ?_
    refine E_aload_n fX1_stationInputs_17 rfl (by decide) ?_
    refine E_getI fX1_stationInputs_18 (k405 hG) (by decide) (by decide) (by decide) ?_
    refine E_sipush (v := 240) fX1_stationInputs_21 (by decide) ?_
    refine E_iand fX1_stationInputs_24 ?_
    refine E_ior fX1_stationInputs_25 ?_
    exact R_iret fX1_stationInputs_26 mX1_stationInputs rfl ⟨_, _, rfl, fun c s h => by rw [pI_ne (by omega)], fun _ => rfl, _, rfl⟩
theorem forgetLosses_ok (hG : Core G) : Ret G (d + 1) 15 [.ref 405] M (none) (pI (pI M 405 3 0) 405 4 0) := by
  refine R_start (d := d + 0) (by decide) mX1_forgetLosses ?_
  show E _ _ _ (0, [some (.ref 405)], [], M, 0) _
  refine E_aload_n fX1_forgetLosses_0 rfl (by decide) ?_
  refine E_iconst (v := 0) fX1_forgetLosses_1 (by decide) ?_
  refine E_putI fX1_forgetLosses_2 (k405 hG) (by decide) rfl ?_
  refine E_aload_n fX1_forgetLosses_5 rfl (by decide) ?_
  refine E_iconst (v := 0) fX1_forgetLosses_6 (by decide) ?_
  refine E_putI fX1_forgetLosses_7 (k405 hG) (by decide) rfl ?_
  exact R_vret fX1_forgetLosses_10 mX1_forgetLosses rfl rfl
theorem didHold_ok (hG : Core G) (r : Int32) : ∃ v M', Ret G (d + 1) 30 [.ref 377, .int r] M v M' ∧ (M' = M ∧ ∃ x, v = some (.int x) ∧ (x = 0 ∨ x = 1)) := by
  refine X_start (d := d + 0) (by decide) mX5_didHold ?_
  show E _ _ _ (0, [some (.ref 377), some (.int r)], [], M, 0) _
  refine E_aload_n fX5_didHold_0 rfl (by decide) ?_
  refine E_getL fX5_didHold_1 (k377 hG) (by decide) (by decide) (by decide) ?_
  refine E_iload_n fX5_didHold_4 rfl ?_
  refine E_lushr fX5_didHold_5 ?_
  refine E_lconst (v := 1) fX5_didHold_6 (by decide) ?_
  refine E_land fX5_didHold_7 ?_
  refine E_lconst (v := 1) fX5_didHold_8 (by decide) ?_
  refine E_lcmp fX5_didHold_9 ?_
  refine E_ifne (tg := 17) fX5_didHold_10 (by decide) (fun c_10 => ?_) (fun c_10 => ?_)
  · refine E_iconst (v := 0) fX5_didHold_17 (by decide) ?_
    exact R_iret fX5_didHold_18 mX5_didHold rfl ⟨_, _, rfl, rfl, _, rfl, Or.inl rfl⟩
  · refine E_iconst (v := 1) fX5_didHold_13 (by decide) ?_
    refine E_goto (tg := 18) fX5_didHold_14 (by decide) ?_
    exact R_iret fX5_didHold_18 mX5_didHold rfl ⟨_, _, rfl, rfl, _, rfl, Or.inr rfl⟩
theorem keepHolding_ok (hG : Core G) (r z : Int32) : ∃ v M', Ret G (d + 1) 31 [.ref 377, .int r, .int z] M v M' ∧ (v = none ∧ ∃ x, M' = pL M 377 x) := by
  refine X_start (d := d + 0) (by decide) mX5_keepHolding ?_
  show E _ _ _ (0, [some (.ref 377), some (.int r), some (.int z)], [], M, 0) _
  refine E_aload_n fX5_keepHolding_0 rfl (by decide) ?_
  refine E_iload_n fX5_keepHolding_1 rfl ?_
  refine E_ifeq (tg := 16) fX5_keepHolding_2 (by decide) (fun c_2 => ?_) (fun c_2 => ?_)
  · refine E_aload_n fX5_keepHolding_16 rfl (by decide) ?_
    refine E_getL fX5_keepHolding_17 (k377 hG) (by decide) (by decide) (by decide) ?_
    refine E_lconst (v := 1) fX5_keepHolding_20 (by decide) ?_
    refine E_iload_n fX5_keepHolding_21 rfl ?_
    refine E_lshl fX5_keepHolding_22 ?_
    refine E_ldc2 (v := (-1)) fX5_keepHolding_23 (by decide) ?_
    refine E_lxor fX5_keepHolding_26 ?_
    refine E_land fX5_keepHolding_27 ?_
    refine E_putL fX5_keepHolding_28 (k377 hG) (by decide) (by decide) ?_
    exact R_vret fX5_keepHolding_31 mX5_keepHolding rfl ⟨_, _, rfl, rfl, _, rfl⟩
  · refine E_aload_n fX5_keepHolding_5 rfl (by decide) ?_
    refine E_getL fX5_keepHolding_6 (k377 hG) (by decide) (by decide) (by decide) ?_
    refine E_lconst (v := 1) fX5_keepHolding_9 (by decide) ?_
    refine E_iload_n fX5_keepHolding_10 rfl ?_
    refine E_lshl fX5_keepHolding_11 ?_
    refine E_lor fX5_keepHolding_12 ?_
    refine E_goto (tg := 28) fX5_keepHolding_13 (by decide) ?_
    refine E_putL fX5_keepHolding_28 (k377 hG) (by decide) (by decide) ?_
    exact R_vret fX5_keepHolding_31 mX5_keepHolding rfl ⟨_, _, rfl, rfl, _, rfl⟩
theorem write_ok (hG : Core G) (w z : Int32) : ∃ v M', Ret G (d + 1) 32 [.ref 377, .int w, .int z] M v M' ∧ (v = none ∧ ∃ x, M' = pI M 377 0 x) := by
  refine X_start (d := d + 0) (by decide) mX5_write ?_
  show E _ _ _ (0, [some (.ref 377), some (.int w), some (.int z)], [], M, 0) _
  refine E_aload_n fX5_write_0 rfl (by decide) ?_
  refine E_iload_n fX5_write_1 rfl ?_
  refine E_ifeq (tg := 16) fX5_write_2 (by decide) (fun c_2 => ?_) (fun c_2 => ?_)
  · refine E_aload_n fX5_write_16 rfl (by decide) ?_
    refine E_getI fX5_write_17 (k377 hG) (by decide) (by decide) (by decide) ?_
    refine E_iconst (v := 1) fX5_write_20 (by decide) ?_
    refine E_iload_n fX5_write_21 rfl ?_
    refine E_ishl fX5_write_22 ?_
    refine E_iconst (v := (-1)) fX5_write_23 (by decide) ?_
    refine E_ixor fX5_write_24 ?_
    refine E_iand fX5_write_25 ?_
    refine E_putI fX5_write_26 (k377 hG) (by decide) rfl ?_
    exact R_vret fX5_write_29 mX5_write rfl ⟨_, _, rfl, rfl, _, rfl⟩
  · refine E_aload_n fX5_write_5 rfl (by decide) ?_
    refine E_getI fX5_write_6 (k377 hG) (by decide) (by decide) (by decide) ?_
    refine E_iconst (v := 1) fX5_write_9 (by decide) ?_
    refine E_iload_n fX5_write_10 rfl ?_
    refine E_ishl fX5_write_11 ?_
    refine E_ior fX5_write_12 ?_
    refine E_goto (tg := 26) fX5_write_13 (by decide) ?_
    refine E_putI fX5_write_26 (k377 hG) (by decide) rfl ?_
    exact R_vret fX5_write_29 mX5_write rfl ⟨_, _, rfl, rfl, _, rfl⟩
/-- the state's cells from S: which places of a cell are its own -/
def slotOk (off s : Nat) : Prop := (off = 0 ∧ s < 3) ∨ ((off = 1 ∨ off = 2 ∨ off = 7 ∨ off = 8) ∧ s < 8) ∨ (off = 3 ∧ s < 12) ∨ (off = 4 ∧ s < 40) ∨ (off = 5 ∧ s < 2) ∨ (off = 6 ∧ (s = 0 ∨ s = 1 ∨ s = 4))
/-- M' is M but for the state at S, which is that at X -/
def Cpd (S X : Nat) (M M' : Mem) : Prop := (∀ c s, ¬ (∃ off, off < 9 ∧ c = S + off ∧ slotOk off s) → M'.1 c s = M.1 c s) ∧ (∀ off s, off < 9 → slotOk off s → M'.1 (S + off) s = M.1 (X + off) s) ∧ (∀ c, c ≠ S → M'.2 c = M.2 c) ∧ M'.2 S = M.2 X
def slotA (off s : Nat) : Prop := ((off = 1 ∨ off = 2) ∧ s < 8) ∨ (off = 0 ∧ (s = 0 ∨ s = 1 ∨ s = 4))
def CpA (S X : Nat) (M M' : Mem) : Prop := (∀ c s, ¬ (∃ off, off < 3 ∧ c = S + off ∧ slotA off s) → M'.1 c s = M.1 c s) ∧ (∀ off s, off < 3 → slotA off s → M'.1 (S + off) s = M.1 (X + off) s) ∧ ∀ c, M'.2 c = M.2 c
theorem alCopy_402_383 (hG : Core G) (hA : All G) : ∃ v M', Ret G (d + 1) 1 [.ref 402, .ref 383] M v M' ∧ (v = none ∧ CpA 402 383 M M') := by
  refine X_start (by decide) mX0_copyFrom ?_
  show E _ _ _ (0, [some (.ref 402), some (.ref 383)], [], M, 0) _
  refine E_aload_n fX0_copyFrom_0 rfl (by decide) ?_
  refine E_aload_n fX0_copyFrom_1 rfl (by decide) ?_
  refine E_getI fX0_copyFrom_2 (k383 hG) (by decide) (by decide) (by decide) ?_
  refine E_putI fX0_copyFrom_5 (k402 hA) (by decide) rfl ?_
  refine E_aload_n fX0_copyFrom_8 rfl (by decide) ?_
  refine E_aload_n fX0_copyFrom_9 rfl (by decide) ?_
  refine E_getI fX0_copyFrom_10 (k383 hG) (by decide) (by decide) (by decide) ?_
  refine E_putI fX0_copyFrom_13 (k402 hA) (by decide) rfl ?_
  refine E_aload_n fX0_copyFrom_16 rfl (by decide) ?_
  refine E_getR (r' := 384) fX0_copyFrom_17 (k383 hG) (by decide) (by decide) (by decide) rfl ?_
  refine E_iconst (v := 0) fX0_copyFrom_20 (by decide) ?_
  refine E_aload_n fX0_copyFrom_21 rfl (by decide) ?_
  refine E_getR (r' := 403) fX0_copyFrom_22 (k402 hA) (by decide) (by decide) (by decide) rfl ?_
  refine E_iconst (v := 0) fX0_copyFrom_25 (by decide) ?_
  refine E_bipush (v := 8) fX0_copyFrom_26 (by decide) ?_
  refine E_cpy (N := 8) (K := 20) (K' := 20) fX0_copyFrom_28 (k384 hG) ⟨by decide, by decide, (by decide)⟩ (k403 hA) ⟨by decide, by decide, (by decide)⟩ rfl (by decide) (by decide) (by decide) ?_
  refine E_aload_n fX0_copyFrom_31 rfl (by decide) ?_
  refine E_getR (r' := 385) fX0_copyFrom_32 (k383 hG) (by decide) (by decide) (by decide) rfl ?_
  refine E_iconst (v := 0) fX0_copyFrom_35 (by decide) ?_
  refine E_aload_n fX0_copyFrom_36 rfl (by decide) ?_
  refine E_getR (r' := 404) fX0_copyFrom_37 (k402 hA) (by decide) (by decide) (by decide) rfl ?_
  refine E_iconst (v := 0) fX0_copyFrom_40 (by decide) ?_
  refine E_bipush (v := 8) fX0_copyFrom_41 (by decide) ?_
  refine E_cpy (N := 8) (K := 20) (K' := 20) fX0_copyFrom_43 (k385 hG) ⟨by decide, by decide, (by decide)⟩ (k404 hA) ⟨by decide, by decide, (by decide)⟩ rfl (by decide) (by decide) (by decide) ?_
  refine E_aload_n fX0_copyFrom_46 rfl (by decide) ?_
  refine E_aload_n fX0_copyFrom_47 rfl (by decide) ?_
  refine E_getI fX0_copyFrom_48 (k383 hG) (by decide) (by decide) (by decide) ?_
  refine E_putI fX0_copyFrom_51 (k402 hA) (by decide) rfl ?_
  refine R_vret fX0_copyFrom_54 mX0_copyFrom rfl ⟨_, _, rfl, rfl, ?_⟩
  refine ⟨fun c s h => ?_, fun off s ho h => ?_, fun _ => rfl⟩
  · have n1 : ∀ k, (k = 0 ∨ k = 1 ∨ k = 4) → c ≠ 402 ∨ s ≠ k := fun k hk => by
      by_cases e : c = 402
      · refine Or.inr fun z => h ⟨0, by omega, by omega, Or.inr ⟨rfl, by omega⟩⟩
      · exact Or.inl e
    have n2 : ∀ k, (k = 1 ∨ k = 2) → c = 402 + k → ¬ s < 8 := fun k hk e z => h ⟨k, by omega, e, Or.inl ⟨by omega, z⟩⟩
    rw [pI_ne (n1 4 (by omega))]
    by_cases e2 : c = 404
    · subst e2
      rw [pA_at, cp1 (n2 2 (by omega) rfl), pA_ne (by decide), pI_ne (Or.inl (by decide)), pI_ne (Or.inl (by decide))]
    · rw [pA_ne e2]
      by_cases e1 : c = 403
      · subst e1
        rw [pA_at, cp1 (n2 1 (by omega) rfl), pI_ne (Or.inl (by decide)), pI_ne (Or.inl (by decide))]
      · rw [pA_ne e1, pI_ne (n1 1 (by omega)), pI_ne (n1 0 (by omega))]
  · rcases h with ⟨rfl | rfl, hs⟩ | ⟨rfl, rfl | rfl | rfl⟩
    · show (pI _ _ _ _).1 403 s = M.1 384 s
      rw [pI_ne (Or.inl (by decide)), pA_ne (by decide), pA_at, cp0 hs, pI_ne (Or.inl (by decide)), pI_ne (Or.inl (by decide))]
    · show (pI _ _ _ _).1 404 s = M.1 385 s
      rw [pI_ne (Or.inl (by decide)), pA_at, cp0 hs, pA_ne (by decide), pI_ne (Or.inl (by decide)), pI_ne (Or.inl (by decide))]
    · show (pI _ _ _ _).1 402 0 = M.1 383 0
      rw [pI_ne (Or.inr (by decide)), pA_ne (by decide), pA_ne (by decide), pI_ne (Or.inr (by decide)), pI_at]
    · show (pI _ _ _ _).1 402 1 = M.1 383 1
      rw [pI_ne (Or.inr (by decide)), pA_ne (by decide), pA_ne (by decide), pI_at, pI_ne (Or.inl (by decide))]
    · show (pI _ _ _ _).1 402 4 = M.1 383 4
      rw [pI_at, pA_ne (by decide), pA_ne (by decide), pI_ne (Or.inl (by decide)), pI_ne (Or.inl (by decide))]
theorem alCopy_392_383 (hG : Core G) : ∃ v M', Ret G (d + 1) 1 [.ref 392, .ref 383] M v M' ∧ (v = none ∧ CpA 392 383 M M') := by
  refine X_start (by decide) mX0_copyFrom ?_
  show E _ _ _ (0, [some (.ref 392), some (.ref 383)], [], M, 0) _
  refine E_aload_n fX0_copyFrom_0 rfl (by decide) ?_
  refine E_aload_n fX0_copyFrom_1 rfl (by decide) ?_
  refine E_getI fX0_copyFrom_2 (k383 hG) (by decide) (by decide) (by decide) ?_
  refine E_putI fX0_copyFrom_5 (k392 hG) (by decide) rfl ?_
  refine E_aload_n fX0_copyFrom_8 rfl (by decide) ?_
  refine E_aload_n fX0_copyFrom_9 rfl (by decide) ?_
  refine E_getI fX0_copyFrom_10 (k383 hG) (by decide) (by decide) (by decide) ?_
  refine E_putI fX0_copyFrom_13 (k392 hG) (by decide) rfl ?_
  refine E_aload_n fX0_copyFrom_16 rfl (by decide) ?_
  refine E_getR (r' := 384) fX0_copyFrom_17 (k383 hG) (by decide) (by decide) (by decide) rfl ?_
  refine E_iconst (v := 0) fX0_copyFrom_20 (by decide) ?_
  refine E_aload_n fX0_copyFrom_21 rfl (by decide) ?_
  refine E_getR (r' := 393) fX0_copyFrom_22 (k392 hG) (by decide) (by decide) (by decide) rfl ?_
  refine E_iconst (v := 0) fX0_copyFrom_25 (by decide) ?_
  refine E_bipush (v := 8) fX0_copyFrom_26 (by decide) ?_
  refine E_cpy (N := 8) (K := 20) (K' := 20) fX0_copyFrom_28 (k384 hG) ⟨by decide, by decide, (by decide)⟩ (k393 hG) ⟨by decide, by decide, (by decide)⟩ rfl (by decide) (by decide) (by decide) ?_
  refine E_aload_n fX0_copyFrom_31 rfl (by decide) ?_
  refine E_getR (r' := 385) fX0_copyFrom_32 (k383 hG) (by decide) (by decide) (by decide) rfl ?_
  refine E_iconst (v := 0) fX0_copyFrom_35 (by decide) ?_
  refine E_aload_n fX0_copyFrom_36 rfl (by decide) ?_
  refine E_getR (r' := 394) fX0_copyFrom_37 (k392 hG) (by decide) (by decide) (by decide) rfl ?_
  refine E_iconst (v := 0) fX0_copyFrom_40 (by decide) ?_
  refine E_bipush (v := 8) fX0_copyFrom_41 (by decide) ?_
  refine E_cpy (N := 8) (K := 20) (K' := 20) fX0_copyFrom_43 (k385 hG) ⟨by decide, by decide, (by decide)⟩ (k394 hG) ⟨by decide, by decide, (by decide)⟩ rfl (by decide) (by decide) (by decide) ?_
  refine E_aload_n fX0_copyFrom_46 rfl (by decide) ?_
  refine E_aload_n fX0_copyFrom_47 rfl (by decide) ?_
  refine E_getI fX0_copyFrom_48 (k383 hG) (by decide) (by decide) (by decide) ?_
  refine E_putI fX0_copyFrom_51 (k392 hG) (by decide) rfl ?_
  refine R_vret fX0_copyFrom_54 mX0_copyFrom rfl ⟨_, _, rfl, rfl, ?_⟩
  refine ⟨fun c s h => ?_, fun off s ho h => ?_, fun _ => rfl⟩
  · have n1 : ∀ k, (k = 0 ∨ k = 1 ∨ k = 4) → c ≠ 392 ∨ s ≠ k := fun k hk => by
      by_cases e : c = 392
      · refine Or.inr fun z => h ⟨0, by omega, by omega, Or.inr ⟨rfl, by omega⟩⟩
      · exact Or.inl e
    have n2 : ∀ k, (k = 1 ∨ k = 2) → c = 392 + k → ¬ s < 8 := fun k hk e z => h ⟨k, by omega, e, Or.inl ⟨by omega, z⟩⟩
    rw [pI_ne (n1 4 (by omega))]
    by_cases e2 : c = 394
    · subst e2
      rw [pA_at, cp1 (n2 2 (by omega) rfl), pA_ne (by decide), pI_ne (Or.inl (by decide)), pI_ne (Or.inl (by decide))]
    · rw [pA_ne e2]
      by_cases e1 : c = 393
      · subst e1
        rw [pA_at, cp1 (n2 1 (by omega) rfl), pI_ne (Or.inl (by decide)), pI_ne (Or.inl (by decide))]
      · rw [pA_ne e1, pI_ne (n1 1 (by omega)), pI_ne (n1 0 (by omega))]
  · rcases h with ⟨rfl | rfl, hs⟩ | ⟨rfl, rfl | rfl | rfl⟩
    · show (pI _ _ _ _).1 393 s = M.1 384 s
      rw [pI_ne (Or.inl (by decide)), pA_ne (by decide), pA_at, cp0 hs, pI_ne (Or.inl (by decide)), pI_ne (Or.inl (by decide))]
    · show (pI _ _ _ _).1 394 s = M.1 385 s
      rw [pI_ne (Or.inl (by decide)), pA_at, cp0 hs, pA_ne (by decide), pI_ne (Or.inl (by decide)), pI_ne (Or.inl (by decide))]
    · show (pI _ _ _ _).1 392 0 = M.1 383 0
      rw [pI_ne (Or.inr (by decide)), pA_ne (by decide), pA_ne (by decide), pI_ne (Or.inr (by decide)), pI_at]
    · show (pI _ _ _ _).1 392 1 = M.1 383 1
      rw [pI_ne (Or.inr (by decide)), pA_ne (by decide), pA_ne (by decide), pI_at, pI_ne (Or.inl (by decide))]
    · show (pI _ _ _ _).1 392 4 = M.1 383 4
      rw [pI_at, pA_ne (by decide), pA_ne (by decide), pI_ne (Or.inl (by decide)), pI_ne (Or.inl (by decide))]
theorem alCopy_383_392 (hG : Core G) : ∃ v M', Ret G (d + 1) 1 [.ref 383, .ref 392] M v M' ∧ (v = none ∧ CpA 383 392 M M') := by
  refine X_start (by decide) mX0_copyFrom ?_
  show E _ _ _ (0, [some (.ref 383), some (.ref 392)], [], M, 0) _
  refine E_aload_n fX0_copyFrom_0 rfl (by decide) ?_
  refine E_aload_n fX0_copyFrom_1 rfl (by decide) ?_
  refine E_getI fX0_copyFrom_2 (k392 hG) (by decide) (by decide) (by decide) ?_
  refine E_putI fX0_copyFrom_5 (k383 hG) (by decide) rfl ?_
  refine E_aload_n fX0_copyFrom_8 rfl (by decide) ?_
  refine E_aload_n fX0_copyFrom_9 rfl (by decide) ?_
  refine E_getI fX0_copyFrom_10 (k392 hG) (by decide) (by decide) (by decide) ?_
  refine E_putI fX0_copyFrom_13 (k383 hG) (by decide) rfl ?_
  refine E_aload_n fX0_copyFrom_16 rfl (by decide) ?_
  refine E_getR (r' := 393) fX0_copyFrom_17 (k392 hG) (by decide) (by decide) (by decide) rfl ?_
  refine E_iconst (v := 0) fX0_copyFrom_20 (by decide) ?_
  refine E_aload_n fX0_copyFrom_21 rfl (by decide) ?_
  refine E_getR (r' := 384) fX0_copyFrom_22 (k383 hG) (by decide) (by decide) (by decide) rfl ?_
  refine E_iconst (v := 0) fX0_copyFrom_25 (by decide) ?_
  refine E_bipush (v := 8) fX0_copyFrom_26 (by decide) ?_
  refine E_cpy (N := 8) (K := 20) (K' := 20) fX0_copyFrom_28 (k393 hG) ⟨by decide, by decide, (by decide)⟩ (k384 hG) ⟨by decide, by decide, (by decide)⟩ rfl (by decide) (by decide) (by decide) ?_
  refine E_aload_n fX0_copyFrom_31 rfl (by decide) ?_
  refine E_getR (r' := 394) fX0_copyFrom_32 (k392 hG) (by decide) (by decide) (by decide) rfl ?_
  refine E_iconst (v := 0) fX0_copyFrom_35 (by decide) ?_
  refine E_aload_n fX0_copyFrom_36 rfl (by decide) ?_
  refine E_getR (r' := 385) fX0_copyFrom_37 (k383 hG) (by decide) (by decide) (by decide) rfl ?_
  refine E_iconst (v := 0) fX0_copyFrom_40 (by decide) ?_
  refine E_bipush (v := 8) fX0_copyFrom_41 (by decide) ?_
  refine E_cpy (N := 8) (K := 20) (K' := 20) fX0_copyFrom_43 (k394 hG) ⟨by decide, by decide, (by decide)⟩ (k385 hG) ⟨by decide, by decide, (by decide)⟩ rfl (by decide) (by decide) (by decide) ?_
  refine E_aload_n fX0_copyFrom_46 rfl (by decide) ?_
  refine E_aload_n fX0_copyFrom_47 rfl (by decide) ?_
  refine E_getI fX0_copyFrom_48 (k392 hG) (by decide) (by decide) (by decide) ?_
  refine E_putI fX0_copyFrom_51 (k383 hG) (by decide) rfl ?_
  refine R_vret fX0_copyFrom_54 mX0_copyFrom rfl ⟨_, _, rfl, rfl, ?_⟩
  refine ⟨fun c s h => ?_, fun off s ho h => ?_, fun _ => rfl⟩
  · have n1 : ∀ k, (k = 0 ∨ k = 1 ∨ k = 4) → c ≠ 383 ∨ s ≠ k := fun k hk => by
      by_cases e : c = 383
      · refine Or.inr fun z => h ⟨0, by omega, by omega, Or.inr ⟨rfl, by omega⟩⟩
      · exact Or.inl e
    have n2 : ∀ k, (k = 1 ∨ k = 2) → c = 383 + k → ¬ s < 8 := fun k hk e z => h ⟨k, by omega, e, Or.inl ⟨by omega, z⟩⟩
    rw [pI_ne (n1 4 (by omega))]
    by_cases e2 : c = 385
    · subst e2
      rw [pA_at, cp1 (n2 2 (by omega) rfl), pA_ne (by decide), pI_ne (Or.inl (by decide)), pI_ne (Or.inl (by decide))]
    · rw [pA_ne e2]
      by_cases e1 : c = 384
      · subst e1
        rw [pA_at, cp1 (n2 1 (by omega) rfl), pI_ne (Or.inl (by decide)), pI_ne (Or.inl (by decide))]
      · rw [pA_ne e1, pI_ne (n1 1 (by omega)), pI_ne (n1 0 (by omega))]
  · rcases h with ⟨rfl | rfl, hs⟩ | ⟨rfl, rfl | rfl | rfl⟩
    · show (pI _ _ _ _).1 384 s = M.1 393 s
      rw [pI_ne (Or.inl (by decide)), pA_ne (by decide), pA_at, cp0 hs, pI_ne (Or.inl (by decide)), pI_ne (Or.inl (by decide))]
    · show (pI _ _ _ _).1 385 s = M.1 394 s
      rw [pI_ne (Or.inl (by decide)), pA_at, cp0 hs, pA_ne (by decide), pI_ne (Or.inl (by decide)), pI_ne (Or.inl (by decide))]
    · show (pI _ _ _ _).1 383 0 = M.1 392 0
      rw [pI_ne (Or.inr (by decide)), pA_ne (by decide), pA_ne (by decide), pI_ne (Or.inr (by decide)), pI_at]
    · show (pI _ _ _ _).1 383 1 = M.1 392 1
      rw [pI_ne (Or.inr (by decide)), pA_ne (by decide), pA_ne (by decide), pI_at, pI_ne (Or.inl (by decide))]
    · show (pI _ _ _ _).1 383 4 = M.1 392 4
      rw [pI_at, pA_ne (by decide), pA_ne (by decide), pI_ne (Or.inl (by decide)), pI_ne (Or.inl (by decide))]
theorem alCopy_383_402 (hG : Core G) (hA : All G) : ∃ v M', Ret G (d + 1) 1 [.ref 383, .ref 402] M v M' ∧ (v = none ∧ CpA 383 402 M M') := by
  refine X_start (by decide) mX0_copyFrom ?_
  show E _ _ _ (0, [some (.ref 383), some (.ref 402)], [], M, 0) _
  refine E_aload_n fX0_copyFrom_0 rfl (by decide) ?_
  refine E_aload_n fX0_copyFrom_1 rfl (by decide) ?_
  refine E_getI fX0_copyFrom_2 (k402 hA) (by decide) (by decide) (by decide) ?_
  refine E_putI fX0_copyFrom_5 (k383 hG) (by decide) rfl ?_
  refine E_aload_n fX0_copyFrom_8 rfl (by decide) ?_
  refine E_aload_n fX0_copyFrom_9 rfl (by decide) ?_
  refine E_getI fX0_copyFrom_10 (k402 hA) (by decide) (by decide) (by decide) ?_
  refine E_putI fX0_copyFrom_13 (k383 hG) (by decide) rfl ?_
  refine E_aload_n fX0_copyFrom_16 rfl (by decide) ?_
  refine E_getR (r' := 403) fX0_copyFrom_17 (k402 hA) (by decide) (by decide) (by decide) rfl ?_
  refine E_iconst (v := 0) fX0_copyFrom_20 (by decide) ?_
  refine E_aload_n fX0_copyFrom_21 rfl (by decide) ?_
  refine E_getR (r' := 384) fX0_copyFrom_22 (k383 hG) (by decide) (by decide) (by decide) rfl ?_
  refine E_iconst (v := 0) fX0_copyFrom_25 (by decide) ?_
  refine E_bipush (v := 8) fX0_copyFrom_26 (by decide) ?_
  refine E_cpy (N := 8) (K := 20) (K' := 20) fX0_copyFrom_28 (k403 hA) ⟨by decide, by decide, (by decide)⟩ (k384 hG) ⟨by decide, by decide, (by decide)⟩ rfl (by decide) (by decide) (by decide) ?_
  refine E_aload_n fX0_copyFrom_31 rfl (by decide) ?_
  refine E_getR (r' := 404) fX0_copyFrom_32 (k402 hA) (by decide) (by decide) (by decide) rfl ?_
  refine E_iconst (v := 0) fX0_copyFrom_35 (by decide) ?_
  refine E_aload_n fX0_copyFrom_36 rfl (by decide) ?_
  refine E_getR (r' := 385) fX0_copyFrom_37 (k383 hG) (by decide) (by decide) (by decide) rfl ?_
  refine E_iconst (v := 0) fX0_copyFrom_40 (by decide) ?_
  refine E_bipush (v := 8) fX0_copyFrom_41 (by decide) ?_
  refine E_cpy (N := 8) (K := 20) (K' := 20) fX0_copyFrom_43 (k404 hA) ⟨by decide, by decide, (by decide)⟩ (k385 hG) ⟨by decide, by decide, (by decide)⟩ rfl (by decide) (by decide) (by decide) ?_
  refine E_aload_n fX0_copyFrom_46 rfl (by decide) ?_
  refine E_aload_n fX0_copyFrom_47 rfl (by decide) ?_
  refine E_getI fX0_copyFrom_48 (k402 hA) (by decide) (by decide) (by decide) ?_
  refine E_putI fX0_copyFrom_51 (k383 hG) (by decide) rfl ?_
  refine R_vret fX0_copyFrom_54 mX0_copyFrom rfl ⟨_, _, rfl, rfl, ?_⟩
  refine ⟨fun c s h => ?_, fun off s ho h => ?_, fun _ => rfl⟩
  · have n1 : ∀ k, (k = 0 ∨ k = 1 ∨ k = 4) → c ≠ 383 ∨ s ≠ k := fun k hk => by
      by_cases e : c = 383
      · refine Or.inr fun z => h ⟨0, by omega, by omega, Or.inr ⟨rfl, by omega⟩⟩
      · exact Or.inl e
    have n2 : ∀ k, (k = 1 ∨ k = 2) → c = 383 + k → ¬ s < 8 := fun k hk e z => h ⟨k, by omega, e, Or.inl ⟨by omega, z⟩⟩
    rw [pI_ne (n1 4 (by omega))]
    by_cases e2 : c = 385
    · subst e2
      rw [pA_at, cp1 (n2 2 (by omega) rfl), pA_ne (by decide), pI_ne (Or.inl (by decide)), pI_ne (Or.inl (by decide))]
    · rw [pA_ne e2]
      by_cases e1 : c = 384
      · subst e1
        rw [pA_at, cp1 (n2 1 (by omega) rfl), pI_ne (Or.inl (by decide)), pI_ne (Or.inl (by decide))]
      · rw [pA_ne e1, pI_ne (n1 1 (by omega)), pI_ne (n1 0 (by omega))]
  · rcases h with ⟨rfl | rfl, hs⟩ | ⟨rfl, rfl | rfl | rfl⟩
    · show (pI _ _ _ _).1 384 s = M.1 403 s
      rw [pI_ne (Or.inl (by decide)), pA_ne (by decide), pA_at, cp0 hs, pI_ne (Or.inl (by decide)), pI_ne (Or.inl (by decide))]
    · show (pI _ _ _ _).1 385 s = M.1 404 s
      rw [pI_ne (Or.inl (by decide)), pA_at, cp0 hs, pA_ne (by decide), pI_ne (Or.inl (by decide)), pI_ne (Or.inl (by decide))]
    · show (pI _ _ _ _).1 383 0 = M.1 402 0
      rw [pI_ne (Or.inr (by decide)), pA_ne (by decide), pA_ne (by decide), pI_ne (Or.inr (by decide)), pI_at]
    · show (pI _ _ _ _).1 383 1 = M.1 402 1
      rw [pI_ne (Or.inr (by decide)), pA_ne (by decide), pA_ne (by decide), pI_at, pI_ne (Or.inl (by decide))]
    · show (pI _ _ _ _).1 383 4 = M.1 402 4
      rw [pI_at, pA_ne (by decide), pA_ne (by decide), pI_ne (Or.inl (by decide)), pI_ne (Or.inl (by decide))]
end SP5
