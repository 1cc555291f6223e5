section SP20
variable {G : MG} {d : Nat} {M : Mem}
theorem rg_ {k m : Nat} {z : Int32} (hk : k < m) (hz : z = nI (m - 1)) (hm : m < 2 ^ 31) : 0 ≤ nI k ∧ nI k ≤ z := by
  rw [hz]
  exact ⟨nI_pos' (by omega), nI_le (by omega) (by omega)⟩
theorem bit_ok (hG : Core G) {k : Nat} (hk : k < 32) : ∃ v M', Ret G (d + 3) 56 [.ref 0, .int (nI k)] M v M' ∧ (M' = M ∧ ∃ x, v = some (.int x)) := by
  refine X_start (d := d + 2) (by decide) mX9_bit ?_
  show E _ _ _ (0, [some (.ref 0), some (.int (nI k))], [], M, 0) _
  refine E_iload_n fX9_bit_0 rfl ?_
  refine E_callS (t := []) (isBit_ok (d := d) (nI k)) fX9_bit_1 (by decide) mX9_isBit ⟨rfl, rfl⟩ rfl rfl (Nat.le_of_ble_eq_true rfl) ?_
  refine E_callS (t := []) (require_ok (d := d + 1) (bI_n0.mpr (rg_ hk rfl (by decide)))) fX9_bit_4 (by decide) mX9_require ⟨rfl, rfl⟩ rfl rfl (Nat.le_of_ble_eq_true rfl) ?_
  refine E_aload_n fX9_bit_7 rfl (by decide) ?_
  refine E_callV (t := []) (readBits_ok (d := d + 1) hG) fX9_bit_8 mX9_readBits (rc_obj (k0 hG) (by decide) (by decide)) ⟨by decide, rfl⟩ rfl rfl (Nat.le_of_ble_eq_true rfl) ?_
  refine E_iload_n fX9_bit_11 rfl ?_
  refine E_callS (t := []) (isSet_ok (d := d + 1) (rdB M) (nI k)) fX9_bit_12 (by decide) mX9_isSet ⟨rfl, rfl⟩ rfl rfl (Nat.le_of_ble_eq_true rfl) ?_
  refine E_ifeq (tg := 22) fX9_bit_15 (by decide) (fun c_15 => ?_) (fun c_15 => ?_)
  · refine E_iconst (v := 0) fX9_bit_22 (by decide) ?_
    exact R_iret fX9_bit_23 mX9_bit rfl ⟨_, _, rfl, rfl, _, rfl⟩
  · refine E_iconst (v := 1) fX9_bit_18 (by decide) ?_
    refine E_goto (tg := 23) fX9_bit_19 (by decide) ?_
    exact R_iret fX9_bit_23 mX9_bit rfl ⟨_, _, rfl, rfl, _, rfl⟩
theorem given_ok (hG : Core G) {k : Nat} (hk : k < 8) : Ret G (d + 3) 57 [.ref 0, .int (nI k)] M (some (.int (bI (isB1 (M.1 405 1) (nI k))))) M := by
  refine R_start (d := d + 2) (by decide) mX9_given ?_
  show E _ _ _ (0, [some (.ref 0), some (.int (nI k))], [], M, 0) _
  refine E_iload_n fX9_given_0 rfl ?_
  refine E_callS (t := []) (isOfEight_ok (d := d) (nI k)) fX9_given_1 (by decide) mX9_isOfEight ⟨rfl, rfl⟩ rfl rfl (Nat.le_of_ble_eq_true rfl) ?_
  refine E_callS (t := []) (require_ok (d := d + 1) (bI_n0.mpr (rg_ hk rfl (by decide)))) fX9_given_4 (by decide) mX9_require ⟨rfl, rfl⟩ rfl rfl (Nat.le_of_ble_eq_true rfl) ?_
  refine E_aload_n fX9_given_7 rfl (by decide) ?_
  refine E_getR (r' := 405) fX9_given_8 (k0 hG) (by decide) (by decide) (by decide) rfl ?_
  refine E_getI fX9_given_11 (k405 hG) (by decide) (by decide) (by decide) ?_
  refine E_iload_n fX9_given_14 rfl ?_
  refine E_callS (t := []) (isSet_ok (d := d + 1) (M.1 405 1) (nI k)) fX9_given_15 (by decide) mX9_isSet ⟨rfl, rfl⟩ rfl rfl (Nat.le_of_ble_eq_true rfl) ?_
  refine E_ifeq (tg := 25) fX9_given_18 (by decide) (fun c_18 => ?_) (fun c_18 => ?_)
  · refine E_iconst (v := 0) fX9_given_25 (by decide) ?_
    exact R_iret fX9_given_26 mX9_given rfl (by rw [bI_f (bI_0.mp c_18)])
  · refine E_iconst (v := 1) fX9_given_21 (by decide) ?_
    refine E_goto (tg := 26) fX9_given_22 (by decide) ?_
    exact R_iret fX9_given_26 mX9_given rfl (by rw [bI_t (bI_n0.mp c_18)])
theorem number_ok (hG : Core G) {k : Nat} (hk : k < 8) : Ret G (d + 3) 58 [.ref 0, .int (nI k)] M (some (.int (M.1 378 k))) M := by
  refine R_start (d := d + 2) (by decide) mX9_number ?_
  show E _ _ _ (0, [some (.ref 0), some (.int (nI k))], [], M, 0) _
  refine E_iload_n fX9_number_0 rfl ?_
  refine E_callS (t := []) (isOfEight_ok (d := d) (nI k)) fX9_number_1 (by decide) mX9_isOfEight ⟨rfl, rfl⟩ rfl rfl (Nat.le_of_ble_eq_true rfl) ?_
  refine E_callS (t := []) (require_ok (d := d + 1) (bI_n0.mpr (rg_ hk rfl (by decide)))) fX9_number_4 (by decide) mX9_require ⟨rfl, rfl⟩ rfl rfl (Nat.le_of_ble_eq_true rfl) ?_
  refine E_aload_n fX9_number_7 rfl (by decide) ?_
  refine E_getR (r' := 377) fX9_number_8 (k0 hG) (by decide) (by decide) (by decide) rfl ?_
  refine E_getR (r' := 378) fX9_number_11 (k377 hG) (by decide) (by decide) (by decide) rfl ?_
  refine E_iload_n fX9_number_14 rfl ?_
  refine E_iald (n := k) (K := 20) fX9_number_15 (k378 hG) ⟨by decide, by decide⟩ (by decide) rfl (by show k < 8; exact hk) ?_
  exact R_iret fX9_number_16 mX9_number rfl rfl
theorem timer_ok (hG : Core G) {k : Nat} (hk : k < 8) : Ret G (d + 3) 59 [.ref 0, .int (nI k)] M (some (.int (M.1 379 k))) M := by
  refine R_start (d := d + 2) (by decide) mX9_timer ?_
  show E _ _ _ (0, [some (.ref 0), some (.int (nI k))], [], M, 0) _
  refine E_iload_n fX9_timer_0 rfl ?_
  refine E_callS (t := []) (isOfEight_ok (d := d) (nI k)) fX9_timer_1 (by decide) mX9_isOfEight ⟨rfl, rfl⟩ rfl rfl (Nat.le_of_ble_eq_true rfl) ?_
  refine E_callS (t := []) (require_ok (d := d + 1) (bI_n0.mpr (rg_ hk rfl (by decide)))) fX9_timer_4 (by decide) mX9_require ⟨rfl, rfl⟩ rfl rfl (Nat.le_of_ble_eq_true rfl) ?_
  refine E_aload_n fX9_timer_7 rfl (by decide) ?_
  refine E_getR (r' := 377) fX9_timer_8 (k0 hG) (by decide) (by decide) (by decide) rfl ?_
  refine E_getR (r' := 379) fX9_timer_11 (k377 hG) (by decide) (by decide) (by decide) rfl ?_
  refine E_iload_n fX9_timer_14 rfl ?_
  refine E_iald (n := k) (K := 20) fX9_timer_15 (k379 hG) ⟨by decide, by decide⟩ (by decide) rfl (by show k < 8; exact hk) ?_
  exact R_iret fX9_timer_16 mX9_timer rfl rfl
theorem changes_ok (hG : Core G) {k : Nat} (hk : k < 8) : Ret G (d + 3) 71 [.ref 0, .int (nI k)] M (some (.int (M.1 406 k))) M := by
  refine R_start (d := d + 2) (by decide) mX9_changes ?_
  show E _ _ _ (0, [some (.ref 0), some (.int (nI k))], [], M, 0) _
  refine E_iload_n fX9_changes_0 rfl ?_
  refine E_callS (t := []) (isOfEight_ok (d := d) (nI k)) fX9_changes_1 (by decide) mX9_isOfEight ⟨rfl, rfl⟩ rfl rfl (Nat.le_of_ble_eq_true rfl) ?_
  refine E_callS (t := []) (require_ok (d := d + 1) (bI_n0.mpr (rg_ hk rfl (by decide)))) fX9_changes_4 (by decide) mX9_require ⟨rfl, rfl⟩ rfl rfl (Nat.le_of_ble_eq_true rfl) ?_
  refine E_aload_n fX9_changes_7 rfl (by decide) ?_
  refine E_getR (r' := 405) fX9_changes_8 (k0 hG) (by decide) (by decide) (by decide) rfl ?_
  refine E_getR (r' := 406) fX9_changes_11 (k405 hG) (by decide) (by decide) (by decide) rfl ?_
  refine E_iload_n fX9_changes_14 rfl ?_
  refine E_iald (n := k) (K := 20) fX9_changes_15 (k406 hG) ⟨by decide, by decide⟩ (by decide) rfl (by show k < 8; exact hk) ?_
  exact R_iret fX9_changes_16 mX9_changes rfl rfl
theorem isActive_ok (hG : Core G) {k : Nat} (hk : k < 12) : Ret G (d + 3) 60 [.ref 0, .int (nI k)] M (some (.int (bI (isB1 (M.1 377 1) (nI k))))) M := by
  refine R_start (d := d + 2) (by decide) mX9_isActive ?_
  show E _ _ _ (0, [some (.ref 0), some (.int (nI k))], [], M, 0) _
  refine E_iload_n fX9_isActive_0 rfl ?_
  refine E_callS (t := []) (isStep_ok (d := d) (nI k)) fX9_isActive_1 (by decide) mX9_isStep ⟨rfl, rfl⟩ rfl rfl (Nat.le_of_ble_eq_true rfl) ?_
  refine E_callS (t := []) (require_ok (d := d + 1) (bI_n0.mpr (rg_ hk rfl (by decide)))) fX9_isActive_4 (by decide) mX9_require ⟨rfl, rfl⟩ rfl rfl (Nat.le_of_ble_eq_true rfl) ?_
  refine E_aload_n fX9_isActive_7 rfl (by decide) ?_
  refine E_getR (r' := 377) fX9_isActive_8 (k0 hG) (by decide) (by decide) (by decide) rfl ?_
  refine E_getI fX9_isActive_11 (k377 hG) (by decide) (by decide) (by decide) ?_
  refine E_iload_n fX9_isActive_14 rfl ?_
  refine E_callS (t := []) (isSet_ok (d := d + 1) (M.1 377 1) (nI k)) fX9_isActive_15 (by decide) mX9_isSet ⟨rfl, rfl⟩ rfl rfl (Nat.le_of_ble_eq_true rfl) ?_
  exact R_iret fX9_isActive_18 mX9_isActive (ret2 (bI_01 _)) rfl
theorem stepTime_yes (hG : Core G) {k : Nat} (hk : k < 12) (hb : isB1 (M.1 377 1) (nI k)) : Ret G (d + 3) 61 [.ref 0, .int (nI k)] M (some (.int (M.1 380 k))) M := by
  refine R_start (d := d + 2) (by decide) mX9_stepTime ?_
  show E _ _ _ (0, [some (.ref 0), some (.int (nI k))], [], M, 0) _
  refine E_iload_n fX9_stepTime_0 rfl ?_
  refine E_callS (t := []) (isStep_ok (d := d) (nI k)) fX9_stepTime_1 (by decide) mX9_isStep ⟨rfl, rfl⟩ rfl rfl (Nat.le_of_ble_eq_true rfl) ?_
  refine E_callS (t := []) (require_ok (d := d + 1) (bI_n0.mpr (rg_ hk rfl (by decide)))) fX9_stepTime_4 (by decide) mX9_require ⟨rfl, rfl⟩ rfl rfl (Nat.le_of_ble_eq_true rfl) ?_
  refine E_aload_n fX9_stepTime_7 rfl (by decide) ?_
  refine E_getR (r' := 377) fX9_stepTime_8 (k0 hG) (by decide) (by decide) (by decide) rfl ?_
  refine E_getI fX9_stepTime_11 (k377 hG) (by decide) (by decide) (by decide) ?_
  refine E_iload_n fX9_stepTime_14 rfl ?_
  refine E_callS (t := []) (isSet_ok (d := d + 1) (M.1 377 1) (nI k)) fX9_stepTime_15 (by decide) mX9_isSet ⟨rfl, rfl⟩ rfl rfl (Nat.le_of_ble_eq_true rfl) ?_
  refine E_ifne (tg := 29) fX9_stepTime_18 (by decide) (fun c_18 => ?_) (fun c => absurd hb (bI_0.mp c))
  refine E_aload_n fX9_stepTime_29 rfl (by decide) ?_
  refine E_getR (r' := 377) fX9_stepTime_30 (k0 hG) (by decide) (by decide) (by decide) rfl ?_
  refine E_getR (r' := 380) fX9_stepTime_33 (k377 hG) (by decide) (by decide) (by decide) rfl ?_
  refine E_iload_n fX9_stepTime_36 rfl ?_
  refine E_iald (n := k) (K := 21) fX9_stepTime_37 (k380 hG) ⟨by decide, by decide⟩ (by decide) rfl (by show k < 12; exact hk) ?_
  exact R_iret fX9_stepTime_38 mX9_stepTime rfl rfl
theorem stepTime_no (hG : Core G) {k : Nat} (hk : k < 12) (hb : ¬ isB1 (M.1 377 1) (nI k)) : Thr G (d + 3) 61 [.ref 0, .int (nI k)] M 3 M := by
  refine T_start (d := d + 2) (by decide) mX9_stepTime ?_
  show E _ _ _ (0, [some (.ref 0), some (.int (nI k))], [], M, 0) _
  refine E_iload_n fX9_stepTime_0 rfl ?_
  refine E_callS (t := []) (isStep_ok (d := d) (nI k)) fX9_stepTime_1 (by decide) mX9_isStep ⟨rfl, rfl⟩ rfl rfl (Nat.le_of_ble_eq_true rfl) ?_
  refine E_callS (t := []) (require_ok (d := d + 1) (bI_n0.mpr (rg_ hk rfl (by decide)))) fX9_stepTime_4 (by decide) mX9_require ⟨rfl, rfl⟩ rfl rfl (Nat.le_of_ble_eq_true rfl) ?_
  refine E_aload_n fX9_stepTime_7 rfl (by decide) ?_
  refine E_getR (r' := 377) fX9_stepTime_8 (k0 hG) (by decide) (by decide) (by decide) rfl ?_
  refine E_getI fX9_stepTime_11 (k377 hG) (by decide) (by decide) (by decide) ?_
  refine E_iload_n fX9_stepTime_14 rfl ?_
  refine E_callS (t := []) (isSet_ok (d := d + 1) (M.1 377 1) (nI k)) fX9_stepTime_15 (by decide) mX9_isSet ⟨rfl, rfl⟩ rfl rfl (Nat.le_of_ble_eq_true rfl) ?_
  refine E_ifne (tg := 29) fX9_stepTime_18 (by decide) (fun c => absurd (bI_n0.mp c) hb) (fun c_18 => ?_)
  exact E_new fX9_stepTime_21 (by decide) rfl
theorem ltr_ok (M : Mem) (n k : Nat) : retOk 3 (ltr M n k) = true := by
  unfold ltr
  split
  · rfl
  · split
    · split <;> rfl
    · split <;> rfl
theorem alarm_ok (hG : Core G) {n k : Nat} (hk : k < 8) (hn : n ≤ 8) (hl : M.1 383 4 = nI n) : Ret G (d + 3) 62 [.ref 0, .int (nI k)] M (some (.int (ltr M n k))) M := by
  refine R_start (d := d + 2) (by decide) mX9_alarm ?_
  show E _ _ _ (0, [some (.ref 0), some (.int (nI k))], [], M, 0) _
  refine E_iload_n fX9_alarm_0 rfl ?_
  refine E_callS (t := []) (isOfEight_ok (d := d) (nI k)) fX9_alarm_1 (by decide) mX9_isOfEight ⟨rfl, rfl⟩ rfl rfl (Nat.le_of_ble_eq_true rfl) ?_
  refine E_callS (t := []) (require_ok (d := d + 1) (bI_n0.mpr (rg_ hk rfl (by decide)))) fX9_alarm_4 (by decide) mX9_require ⟨rfl, rfl⟩ rfl rfl (Nat.le_of_ble_eq_true rfl) ?_
  refine E_aload_n fX9_alarm_7 rfl (by decide) ?_
  refine E_getR (r' := 377) fX9_alarm_8 (k0 hG) (by decide) (by decide) (by decide) rfl ?_
  refine E_getR (r' := 383) fX9_alarm_11 (k377 hG) (by decide) (by decide) (by decide) rfl ?_
  refine E_iload_n fX9_alarm_14 rfl ?_
  refine E_callV (t := []) (letterOf_ok (d := d) hG hn hk hl) fX9_alarm_15 mX0_letterOf (rc_obj (k383 hG) (by decide) (by decide)) ⟨by decide, rfl⟩ rfl rfl (Nat.le_of_ble_eq_true rfl) ?_
  exact R_iret fX9_alarm_18 mX9_alarm (ltr_ok _ _ _) rfl
theorem alarms_ok (hG : Core G) : Ret G (d + 1) 63 [.ref 0] M (some (.int (M.1 383 4))) M := by
  refine R_start (d := d + 0) (by decide) mX9_alarms ?_
  show E _ _ _ (0, [some (.ref 0)], [], M, 0) _
  refine E_aload_n fX9_alarms_0 rfl (by decide) ?_
  refine E_getR (r' := 377) fX9_alarms_1 (k0 hG) (by decide) (by decide) (by decide) rfl ?_
  refine E_getR (r' := 383) fX9_alarms_4 (k377 hG) (by decide) (by decide) (by decide) rfl ?_
  refine E_getI fX9_alarms_7 (k383 hG) (by decide) (by decide) (by decide) ?_
  exact R_iret fX9_alarms_10 mX9_alarms rfl rfl
theorem alarmAt_yes (hG : Core G) {n k : Nat} (hk : k < n) (hn : n ≤ 8) (hl : M.1 383 4 = nI n) : Ret G (d + 1) 64 [.ref 0, .int (nI k)] M (some (.int (M.1 385 k))) M := by
  refine R_start (d := d + 0) (by decide) mX9_alarmAt ?_
  show E _ _ _ (0, [some (.ref 0), some (.int (nI k))], [], M, 0) _
  refine E_iload_n fX9_alarmAt_0 rfl ?_
  refine E_iflt (tg := 18) fX9_alarmAt_1 (by decide) (fun c => absurd c (nI_pos (by omega))) (fun c_1 => ?_)
  refine E_iload_n fX9_alarmAt_4 rfl ?_
  refine E_aload_n fX9_alarmAt_5 rfl (by decide) ?_
  refine E_getR (r' := 377) fX9_alarmAt_6 (k0 hG) (by decide) (by decide) (by decide) rfl ?_
  refine E_getR (r' := 383) fX9_alarmAt_9 (k377 hG) (by decide) (by decide) (by decide) rfl ?_
  refine E_getI fX9_alarmAt_12 (k383 hG) (by decide) (by decide) (by decide) ?_
  refine E_iclt (tg := 26) fX9_alarmAt_15 (by decide) (fun c_15 => ?_) (fun c => absurd (by rw [hl]; exact nI_lt hk (by omega)) c)
  refine E_aload_n fX9_alarmAt_26 rfl (by decide) ?_
  refine E_getR (r' := 377) fX9_alarmAt_27 (k0 hG) (by decide) (by decide) (by decide) rfl ?_
  refine E_getR (r' := 383) fX9_alarmAt_30 (k377 hG) (by decide) (by decide) (by decide) rfl ?_
  refine E_getR (r' := 385) fX9_alarmAt_33 (k383 hG) (by decide) (by decide) (by decide) rfl ?_
  refine E_iload_n fX9_alarmAt_36 rfl ?_
  refine E_iald (n := k) (K := 20) fX9_alarmAt_37 (k385 hG) ⟨by decide, by decide⟩ (by decide) rfl (by show k < 8; omega) ?_
  exact R_iret fX9_alarmAt_38 mX9_alarmAt rfl rfl
theorem alarmAt_no (hG : Core G) {n : Nat} (hn : n ≤ 8) (hl : M.1 383 4 = nI n) : Thr G (d + 1) 64 [.ref 0, .int (nI n)] M 0 M := by
  refine T_start (d := d + 0) (by decide) mX9_alarmAt ?_
  show E _ _ _ (0, [some (.ref 0), some (.int (nI n))], [], M, 0) _
  refine E_iload_n fX9_alarmAt_0 rfl ?_
  refine E_iflt (tg := 18) fX9_alarmAt_1 (by decide) (fun c => absurd c (nI_pos (by omega))) (fun c_1 => ?_)
  refine E_iload_n fX9_alarmAt_4 rfl ?_
  refine E_aload_n fX9_alarmAt_5 rfl (by decide) ?_
  refine E_getR (r' := 377) fX9_alarmAt_6 (k0 hG) (by decide) (by decide) (by decide) rfl ?_
  refine E_getR (r' := 383) fX9_alarmAt_9 (k377 hG) (by decide) (by decide) (by decide) rfl ?_
  refine E_getI fX9_alarmAt_12 (k383 hG) (by decide) (by decide) (by decide) ?_
  refine E_iclt (tg := 26) fX9_alarmAt_15 (by decide) (fun c => absurd c (by rw [hl]; exact Int32.lt_irrefl)) (fun c_15 => ?_)
  exact E_new fX9_alarmAt_18 (by decide) rfl
theorem missed0_ok (hG : Core G) : Ret G (d + 3) 67 [.ref 0, .int 0] M (some (.int (M.1 408 3))) M := by
  refine R_start (d := d + 2) (by decide) mX9_missed ?_
  show E _ _ _ (0, [some (.ref 0), some (.int 0)], [], M, 0) _
  refine E_iload_n fX9_missed_0 rfl ?_
  refine E_callS (t := []) (isTask_ok (d := d) 0) fX9_missed_1 (by decide) mX9_isTask ⟨rfl, rfl⟩ rfl rfl (Nat.le_of_ble_eq_true rfl) ?_
  refine E_callS (t := []) (require_ok (d := d + 1) (bI_n0.mpr ⟨by decide, by decide⟩)) fX9_missed_4 (by decide) mX9_require ⟨rfl, rfl⟩ rfl rfl (Nat.le_of_ble_eq_true rfl) ?_
  refine E_aload_n fX9_missed_7 rfl (by decide) ?_
  refine E_getR (r' := 407) fX9_missed_8 (k0 hG) (by decide) (by decide) (by decide) rfl ?_
  refine E_iload_n fX9_missed_11 rfl ?_
  refine E_aald (n := 0) (r' := 408) (K := 31) fX9_missed_12 (k407 hG) ⟨by decide, by decide⟩ (by decide) rfl (by decide) rfl ?_
  refine E_getI fX9_missed_13 (k408 hG) (by decide) (by decide) (by decide) ?_
  exact R_iret fX9_missed_16 mX9_missed rfl rfl
theorem isStopped_ok (hG : Core G) (hb : M.1 0 12 = 0 ∨ M.1 0 12 = 1) : Ret G (d + 1) 68 [.ref 0] M (some (.int (M.1 0 12))) M := by
  refine R_start (d := d + 0) (by decide) mX9_isStopped ?_
  show E _ _ _ (0, [some (.ref 0)], [], M, 0) _
  refine E_aload_n fX9_isStopped_0 rfl (by decide) ?_
  refine E_getI fX9_isStopped_1 (k0 hG) (by decide) (by decide) (by decide) ?_
  exact R_iret fX9_isStopped_4 mX9_isStopped (ret2 hb) rfl
theorem isInStep_ok (hA : All G) (hb : M.1 395 1 = 0 ∨ M.1 395 1 = 1) : Ret G (d + 1) 69 [.ref 0] M (some (.int (M.1 395 1))) M := by
  have hG := hA.core
  refine R_start (d := d + 0) (by decide) mX9_isInStep ?_
  show E _ _ _ (0, [some (.ref 0)], [], M, 0) _
  refine E_aload_n fX9_isInStep_0 rfl (by decide) ?_
  refine E_getR (r' := 395) fX9_isInStep_1 (k0 hG) (by decide) (by decide) (by decide) rfl ?_
  refine E_getI fX9_isInStep_4 (k395 hA) (by decide) (by decide) (by decide) ?_
  exact R_iret fX9_isInStep_7 mX9_isInStep (ret2 hb) rfl
theorem rungs_ok (hG : Core G) : Ret G (d + 1) 70 [.ref 0] M (some (.int (M.1 1 0))) M := by
  refine R_start (d := d + 0) (by decide) mX9_rungs ?_
  show E _ _ _ (0, [some (.ref 0)], [], M, 0) _
  refine E_aload_n fX9_rungs_0 rfl (by decide) ?_
  refine E_getR (r' := 1) fX9_rungs_1 (k0 hG) (by decide) (by decide) (by decide) rfl ?_
  refine E_getI fX9_rungs_4 (k1 hG) (by decide) (by decide) (by decide) ?_
  exact R_iret fX9_rungs_7 mX9_rungs rfl rfl
theorem time_ok (hG : Core G) : Ret G (d + 1) 65 [.ref 0] M (some (.int (M.1 0 7))) M := by
  refine R_start (d := d + 0) (by decide) mX9_time ?_
  show E _ _ _ (0, [some (.ref 0)], [], M, 0) _
  refine E_aload_n fX9_time_0 rfl (by decide) ?_
  refine E_getI fX9_time_1 (k0 hG) (by decide) (by decide) (by decide) ?_
  exact R_iret fX9_time_4 mX9_time rfl rfl
theorem done_ok (hG : Core G) : Ret G (d + 1) 72 [.ref 0] M (some (.long (M.2 0))) M := by
  refine R_start (d := d + 0) (by decide) mX9_done ?_
  show E _ _ _ (0, [some (.ref 0)], [], M, 0) _
  refine E_aload_n fX9_done_0 rfl (by decide) ?_
  refine E_getL fX9_done_1 (k0 hG) (by decide) (by decide) (by decide) ?_
  exact R_lret fX9_done_4 mX9_done rfl rfl
theorem isSound_ok (hG : Core G) {s t : Nat} (hC : CK M s t) (hA : AI M) (hK : AK M s) : Ret G (d + 3) 73 [.ref 0] M (some (.int 1)) M := by
  refine R_start (d := d + 2) (by decide) mX9_isSound ?_
  show E _ _ _ (0, [some (.ref 0), none], [], M, 0) _
  refine E_aload_n fX9_isSound_0 rfl (by decide) ?_
  refine E_getR (r' := 1) fX9_isSound_1 (k0 hG) (by decide) (by decide) (by decide) rfl ?_
  refine E_callV (t := []) (stepMask1_ok (d := d + 1) hG) fX9_isSound_4 mX2_stepMask (rc_obj (k1 hG) (by decide) (by decide)) ⟨by decide, rfl⟩ rfl rfl (Nat.le_of_ble_eq_true rfl) ?_
  refine E_iconst (v := 1) fX9_isSound_7 (by decide) ?_
  refine E_ior fX9_isSound_8 ?_
  refine E_istore_n (L' := [some (.ref 0), some (.int (((1 <<< (M.1 1 1 &&& 31)) - 1) ||| 1))]) fX9_isSound_9 rfl (Nat.le_of_ble_eq_true rfl) ?_
  refine E_aload_n fX9_isSound_10 rfl (by decide) ?_
  refine E_getR (r' := 377) fX9_isSound_11 (k0 hG) (by decide) (by decide) (by decide) rfl ?_
  refine E_getR (r' := 383) fX9_isSound_14 (k377 hG) (by decide) (by decide) (by decide) rfl ?_
  refine E_callV (t := []) (areSound_ok (d := d) hG hA) fX9_isSound_17 mX0_areSound (rc_obj (k383 hG) (by decide) (by decide)) ⟨by decide, rfl⟩ rfl rfl (Nat.le_of_ble_eq_true rfl) ?_
  refine E_ifeq (tg := 41) fX9_isSound_20 (by decide) (fun c => absurd c (by decide)) (fun c_20 => ?_)
  refine E_aload_n fX9_isSound_23 rfl (by decide) ?_
  refine E_getR (r' := 377) fX9_isSound_24 (k0 hG) (by decide) (by decide) (by decide) rfl ?_
  refine E_getI fX9_isSound_27 (k377 hG) (by decide) (by decide) (by decide) ?_
  refine E_iload_n fX9_isSound_30 rfl ?_
  refine E_iconst (v := (-1)) fX9_isSound_31 (by decide) ?_
  refine E_ixor fX9_isSound_32 ?_
  refine E_iand fX9_isSound_33 ?_
  refine E_ifne (tg := 41) fX9_isSound_34 (by decide) (fun c => absurd (by rw [hC.2.1]; exact ak_to hC.1 hK) c) (fun c_34 => ?_)
  refine E_iconst (v := 1) fX9_isSound_37 (by decide) ?_
  refine E_goto (tg := 42) fX9_isSound_38 (by decide) ?_
  exact R_iret fX9_isSound_42 mX9_isSound rfl rfl
def seB (c s : Nat) : Bool := (c == 405 && s != 1) || (c == 0 && (s == 8 || s == 9)) || ((c == 408 || c == 409) && s == 0) || c == 383 || c == 384 || c == 385
theorem seB_low {c s : Nat} (h : 0 < c ∧ c < 377) : seB c s = false := by
  unfold seB
  simp only [Bool.or_eq_false_iff, Bool.and_eq_false_iff, beq_eq_false_iff_ne]
  omega
theorem AFr.se {M M1 : Mem} (h : AFr M M1) : Fr seB M M1 := ⟨fun c s hc => h.1 c s (by rintro rfl; cases hc) (by rintro rfl; cases hc) (by rintro rfl; cases hc), fun c _ => h.2 c⟩
theorem WS.se {M M1 : Mem} {n s t nw : Nat} (h : WS M n s t nw) (hF : Fr seB M M1) (hA : AI M1) : WS M1 n s t nw := by
  obtain ⟨h1, h2, -, h4, h5, h6, h7, h8, h9, h10, h11⟩ := h
  exact ⟨h1.by hF fun c s a b => seB_low ⟨a, b⟩, h2.by hF fun c s a b => seB_low ⟨a, b⟩, hA, h4.by hF rfl, (hF.1 _ _ rfl).trans h5, (hF.1 _ _ rfl).trans h6, (hF.1 _ _ rfl).trans h7, (hF.1 _ _ rfl).trans h8, (hF.1 _ _ rfl).trans h9, (hF.1 _ _ rfl).trans h10, (hF.1 _ _ rfl).trans h11⟩
theorem WS.ai {M : Mem} {n s t nw : Nat} (h : WS M n s t nw) : AI M := h.2.2.1
theorem AI.pI {r k : Nat} {x : Int32} (h : AI M) (hr : r ≠ 383 ∧ r ≠ 384 ∧ r ≠ 385) : AI (pI M r k x) := h.fr fun c s hc => pI_ne (by omega)
theorem setInput_ok (hG : Core G) {n s t nw : Nat} (hW : WS M n s t nw) {k : Nat} (hk : k < 8) (z : Int32) : ∃ v M', Ret G (d + 3) 43 [.ref 0, .int (nI k), .int z] M v M' ∧ ((∃ x, v = some (.int x) ∧ (x = 0 ∨ x = 1)) ∧ WS M' n s t nw ∧ Fr seB M M') := by
  refine X_start (d := d + 2) (by decide) mX9_setInput ?_
  show E _ _ _ (0, [some (.ref 0), some (.int (nI k)), some (.int z), none], [], M, 0) _
  refine E_iload_n fX9_setInput_0 rfl ?_
  refine E_callS (t := []) (isOfEight_ok (d := d) (nI k)) fX9_setInput_1 (by decide) mX9_isOfEight ⟨rfl, rfl⟩ rfl rfl (Nat.le_of_ble_eq_true rfl) ?_
  refine E_callS (t := []) (require_ok (d := d + 1) (bI_n0.mpr (rg_ hk rfl (by decide)))) fX9_setInput_4 (by decide) mX9_require ⟨rfl, rfl⟩ rfl rfl (Nat.le_of_ble_eq_true rfl) ?_
  refine E_aload_n fX9_setInput_7 rfl (by decide) ?_
  refine E_getR (r' := 405) fX9_setInput_8 (k0 hG) (by decide) (by decide) (by decide) rfl ?_
  refine E_getI fX9_setInput_11 (k405 hG) (by decide) (by decide) (by decide) ?_
  refine E_iload_n fX9_setInput_14 rfl ?_
  refine E_callS (t := []) (isSet_ok (d := d + 1) (M.1 405 0) (nI k)) fX9_setInput_15 (by decide) mX9_isSet ⟨rfl, rfl⟩ rfl rfl (Nat.le_of_ble_eq_true rfl) ?_
  refine E_istore_n (L' := [some (.ref 0), some (.int (nI k)), some (.int z), some (.int (bI (isB1 (M.1 405 0) (nI k))))]) fX9_setInput_18 rfl (Nat.le_of_ble_eq_true rfl) ?_
  refine E_aload_n fX9_setInput_19 rfl (by decide) ?_
  refine E_getR (r' := 405) fX9_setInput_20 (k0 hG) (by decide) (by decide) (by decide) rfl ?_
  refine E_iload_n fX9_setInput_23 rfl ?_
  refine E_ifeq (tg := 42) fX9_setInput_24 (by decide) (fun c_24 => ?_) (fun c_24 => ?_)
  · refine E_aload_n fX9_setInput_42 rfl (by decide) ?_
    refine E_getR (r' := 405) fX9_setInput_43 (k0 hG) (by decide) (by decide) (by decide) rfl ?_
    refine E_getI fX9_setInput_46 (k405 hG) (by decide) (by decide) (by decide) ?_
    refine E_iload_n fX9_setInput_49 rfl ?_
    refine E_callS (t := [.int (M.1 405 0), .ref 405]) (maskOf_ok (d := d + 1) (nI k)) fX9_setInput_50 (by decide) mX9_maskOf ⟨rfl, rfl⟩ rfl rfl (Nat.le_of_ble_eq_true rfl) ?_
    refine E_iconst (v := (-1)) fX9_setInput_53 (by decide) ?_
    refine E_ixor fX9_setInput_54 ?_
    refine E_iand fX9_setInput_55 ?_
    refine E_putI fX9_setInput_56 (k405 hG) (by decide) rfl ?_
    refine E_iload_n fX9_setInput_59 rfl ?_
    exact R_iret fX9_setInput_60 mX9_setInput (ret2 (bI_01 _)) ⟨_, _, rfl, ⟨_, rfl, bI_01 _⟩, hW.se (Fr.rf.pI rfl) (hW.ai.pI (by omega)), Fr.rf.pI rfl⟩
  · refine E_aload_n fX9_setInput_27 rfl (by decide) ?_
    refine E_getR (r' := 405) fX9_setInput_28 (k0 hG) (by decide) (by decide) (by decide) rfl ?_
    refine E_getI fX9_setInput_31 (k405 hG) (by decide) (by decide) (by decide) ?_
    refine E_iload_n fX9_setInput_34 rfl ?_
    refine E_callS (t := [.int (M.1 405 0), .ref 405]) (maskOf_ok (d := d + 1) (nI k)) fX9_setInput_35 (by decide) mX9_maskOf ⟨rfl, rfl⟩ rfl rfl (Nat.le_of_ble_eq_true rfl) ?_
    refine E_ior fX9_setInput_38 ?_
    refine E_goto (tg := 56) fX9_setInput_39 (by decide) ?_
    refine E_putI fX9_setInput_56 (k405 hG) (by decide) rfl ?_
    refine E_iload_n fX9_setInput_59 rfl ?_
    exact R_iret fX9_setInput_60 mX9_setInput (ret2 (bI_01 _)) ⟨_, _, rfl, ⟨_, rfl, bI_01 _⟩, hW.se (Fr.rf.pI rfl) (hW.ai.pI (by omega)), Fr.rf.pI rfl⟩
theorem force_ok (hG : Core G) {n s t nw : Nat} (hW : WS M n s t nw) {k : Nat} (hk : k < 32) (z : Int32) (hz : -1 ≤ z ∧ z ≤ 1) : ∃ v M', Ret G (d + 3) 44 [.ref 0, .int (nI k), .int z] M v M' ∧ ((∃ x, v = some (.int x)) ∧ WS M' n s t nw ∧ Fr seB M M') := by
  refine X_start (d := d + 2) (by decide) mX9_force ?_
  show E _ _ _ (0, [some (.ref 0), some (.int (nI k)), some (.int z), none, none], [], M, 0) _
  refine E_iload_n fX9_force_0 rfl ?_
  refine E_callS (t := []) (isBit_ok (d := d) (nI k)) fX9_force_1 (by decide) mX9_isBit ⟨rfl, rfl⟩ rfl rfl (Nat.le_of_ble_eq_true rfl) ?_
  refine E_ifeq (tg := 20) fX9_force_4 (by decide) (fun c => absurd (rg_ hk rfl (by decide)) (bI_0.mp c)) (fun c_4 => ?_)
  refine E_iload_n fX9_force_7 rfl ?_
  refine E_iconst (v := (-1)) fX9_force_8 (by decide) ?_
  refine E_iconst (v := 1) fX9_force_9 (by decide) ?_
  refine E_callS (t := []) (isBetween_ok (d := d + 1) z (-1) 1) fX9_force_10 (by decide) mX9_isBetween ⟨rfl, rfl⟩ rfl rfl (Nat.le_of_ble_eq_true rfl) ?_
  refine E_ifeq (tg := 20) fX9_force_13 (by decide) (fun c => absurd hz (bI_0.mp c)) (fun c_13 => ?_)
  refine E_iconst (v := 1) fX9_force_16 (by decide) ?_
  refine E_goto (tg := 21) fX9_force_17 (by decide) ?_
  refine E_callS (t := []) (require_ok (d := d + 1) (z := 1) (by decide)) fX9_force_21 (by decide) mX9_require ⟨rfl, rfl⟩ rfl rfl (Nat.le_of_ble_eq_true rfl) ?_
  refine E_iload_n fX9_force_24 rfl ?_
  refine E_callS (t := []) (maskOf_ok (d := d + 1) (nI k)) fX9_force_25 (by decide) mX9_maskOf ⟨rfl, rfl⟩ rfl rfl (Nat.le_of_ble_eq_true rfl) ?_
  refine E_istore_n (L' := [some (.ref 0), some (.int (nI k)), some (.int z), some (.int (msk (nI k))), none]) fX9_force_28 rfl (Nat.le_of_ble_eq_true rfl) ?_
  refine E_iconst (v := (-1)) fX9_force_29 (by decide) ?_
  refine E_istore (L' := [some (.ref 0), some (.int (nI k)), some (.int z), some (.int (msk (nI k))), some (.int (-1))]) fX9_force_30 rfl (Nat.le_of_ble_eq_true rfl) ?_
  refine E_aload_n fX9_force_32 rfl (by decide) ?_
  refine E_getI fX9_force_33 (k0 hG) (by decide) (by decide) (by decide) ?_
  refine E_iload_n fX9_force_36 rfl ?_
  refine E_callS (t := []) (isSet_ok (d := d + 1) (M.1 0 8) (nI k)) fX9_force_37 (by decide) mX9_isSet ⟨rfl, rfl⟩ rfl rfl (Nat.le_of_ble_eq_true rfl) ?_
  refine E_ifeq (tg := 61) fX9_force_40 (by decide) (fun c_40 => ?_) (fun c_40 => ?_)
  · refine E_aload_n fX9_force_61 rfl (by decide) ?_
    refine E_iload_n fX9_force_62 rfl ?_
    refine E_iconst (v := (-1)) fX9_force_63 (by decide) ?_
    refine E_icne (tg := 78) fX9_force_64 (by decide) (fun c_64 => ?_) (fun c_64 => ?_)
    · refine E_aload_n fX9_force_78 rfl (by decide) ?_
      refine E_getI fX9_force_79 (k0 hG) (by decide) (by decide) (by decide) ?_
      refine E_iload_n fX9_force_82 rfl ?_
      refine E_ior fX9_force_83 ?_
      refine E_putI fX9_force_84 (k0 hG) (by decide) rfl ?_
      refine E_aload_n fX9_force_87 rfl (by decide) ?_
      refine E_iload_n fX9_force_88 rfl ?_
      refine E_iconst (v := 1) fX9_force_89 (by decide) ?_
      refine E_icne (tg := 102) fX9_force_90 (by decide) (fun c_90 => ?_) (fun c_90 => ?_)
      · refine E_aload_n fX9_force_102 rfl (by decide) ?_
        refine E_getI fX9_force_103 (k0 hG) (by decide) (by decide) (by decide) ?_
        refine E_iload_n fX9_force_106 rfl ?_
        refine E_iconst (v := (-1)) fX9_force_107 (by decide) ?_
        refine E_ixor fX9_force_108 ?_
        refine E_iand fX9_force_109 ?_
        refine E_putI fX9_force_110 (k0 hG) (by decide) rfl ?_
        refine E_iload fX9_force_113 rfl ?_
        exact R_iret fX9_force_115 mX9_force rfl ⟨_, _, rfl, ⟨_, rfl⟩, hW.se ((Fr.rf.pI rfl).pI rfl) ((hW.ai.pI (by omega)).pI (by omega)), (Fr.rf.pI rfl).pI rfl⟩
      · refine E_aload_n fX9_force_93 rfl (by decide) ?_
        refine E_getI fX9_force_94 (k0 hG) (by decide) (by decide) (by decide) ?_
        refine E_iload_n fX9_force_97 rfl ?_
        refine E_ior fX9_force_98 ?_
        refine E_goto (tg := 110) fX9_force_99 (by decide) ?_
        refine E_putI fX9_force_110 (k0 hG) (by decide) rfl ?_
        refine E_iload fX9_force_113 rfl ?_
        exact R_iret fX9_force_115 mX9_force rfl ⟨_, _, rfl, ⟨_, rfl⟩, hW.se ((Fr.rf.pI rfl).pI rfl) ((hW.ai.pI (by omega)).pI (by omega)), (Fr.rf.pI rfl).pI rfl⟩
    · refine E_aload_n fX9_force_67 rfl (by decide) ?_
      refine E_getI fX9_force_68 (k0 hG) (by decide) (by decide) (by decide) ?_
      refine E_iload_n fX9_force_71 rfl ?_
      refine E_iconst (v := (-1)) fX9_force_72 (by decide) ?_
      refine E_ixor fX9_force_73 ?_
      refine E_iand fX9_force_74 ?_
      refine E_goto (tg := 84) fX9_force_75 (by decide) ?_
      refine E_putI fX9_force_84 (k0 hG) (by decide) rfl ?_
      refine E_aload_n fX9_force_87 rfl (by decide) ?_
      refine E_iload_n fX9_force_88 rfl ?_
      refine E_iconst (v := 1) fX9_force_89 (by decide) ?_
      refine E_icne (tg := 102) fX9_force_90 (by decide) (fun c_90 => ?_) (fun c_90 => ?_)
      · refine E_aload_n fX9_force_102 rfl (by decide) ?_
        refine E_getI fX9_force_103 (k0 hG) (by decide) (by decide) (by decide) ?_
        refine E_iload_n fX9_force_106 rfl ?_
        refine E_iconst (v := (-1)) fX9_force_107 (by decide) ?_
        refine E_ixor fX9_force_108 ?_
        refine E_iand fX9_force_109 ?_
        refine E_putI fX9_force_110 (k0 hG) (by decide) rfl ?_
        refine E_iload fX9_force_113 rfl ?_
        exact R_iret fX9_force_115 mX9_force rfl ⟨_, _, rfl, ⟨_, rfl⟩, hW.se ((Fr.rf.pI rfl).pI rfl) ((hW.ai.pI (by omega)).pI (by omega)), (Fr.rf.pI rfl).pI rfl⟩
      · refine E_aload_n fX9_force_93 rfl (by decide) ?_
        refine E_getI fX9_force_94 (k0 hG) (by decide) (by decide) (by decide) ?_
        refine E_iload_n fX9_force_97 rfl ?_
        refine E_ior fX9_force_98 ?_
        refine E_goto (tg := 110) fX9_force_99 (by decide) ?_
        refine E_putI fX9_force_110 (k0 hG) (by decide) rfl ?_
        refine E_iload fX9_force_113 rfl ?_
        exact R_iret fX9_force_115 mX9_force rfl ⟨_, _, rfl, ⟨_, rfl⟩, hW.se ((Fr.rf.pI rfl).pI rfl) ((hW.ai.pI (by omega)).pI (by omega)), (Fr.rf.pI rfl).pI rfl⟩
  · refine E_aload_n fX9_force_43 rfl (by decide) ?_
    refine E_getI fX9_force_44 (k0 hG) (by decide) (by decide) (by decide) ?_
    refine E_iload_n fX9_force_47 rfl ?_
    refine E_callS (t := []) (isSet_ok (d := d + 1) (M.1 0 9) (nI k)) fX9_force_48 (by decide) mX9_isSet ⟨rfl, rfl⟩ rfl rfl (Nat.le_of_ble_eq_true rfl) ?_
    refine E_ifeq (tg := 58) fX9_force_51 (by decide) (fun c_51 => ?_) (fun c_51 => ?_)
    · refine E_iconst (v := 0) fX9_force_58 (by decide) ?_
      refine E_istore (L' := [some (.ref 0), some (.int (nI k)), some (.int z), some (.int (msk (nI k))), some (.int 0)]) fX9_force_59 rfl (Nat.le_of_ble_eq_true rfl) ?_
      refine E_aload_n fX9_force_61 rfl (by decide) ?_
      refine E_iload_n fX9_force_62 rfl ?_
      refine E_iconst (v := (-1)) fX9_force_63 (by decide) ?_
      refine E_icne (tg := 78) fX9_force_64 (by decide) (fun c_64 => ?_) (fun c_64 => ?_)
      · refine E_aload_n fX9_force_78 rfl (by decide) ?_
        refine E_getI fX9_force_79 (k0 hG) (by decide) (by decide) (by decide) ?_
        refine E_iload_n fX9_force_82 rfl ?_
        refine E_ior fX9_force_83 ?_
        refine E_putI fX9_force_84 (k0 hG) (by decide) rfl ?_
        refine E_aload_n fX9_force_87 rfl (by decide) ?_
        refine E_iload_n fX9_force_88 rfl ?_
        refine E_iconst (v := 1) fX9_force_89 (by decide) ?_
        refine E_icne (tg := 102) fX9_force_90 (by decide) (fun c_90 => ?_) (fun c_90 => ?_)
        · refine E_aload_n fX9_force_102 rfl (by decide) ?_
          refine E_getI fX9_force_103 (k0 hG) (by decide) (by decide) (by decide) ?_
          refine E_iload_n fX9_force_106 rfl ?_
          refine E_iconst (v := (-1)) fX9_force_107 (by decide) ?_
          refine E_ixor fX9_force_108 ?_
          refine E_iand fX9_force_109 ?_
          refine E_putI fX9_force_110 (k0 hG) (by decide) rfl ?_
          refine E_iload fX9_force_113 rfl ?_
          exact R_iret fX9_force_115 mX9_force rfl ⟨_, _, rfl, ⟨_, rfl⟩, hW.se ((Fr.rf.pI rfl).pI rfl) ((hW.ai.pI (by omega)).pI (by omega)), (Fr.rf.pI rfl).pI rfl⟩
        · refine E_aload_n fX9_force_93 rfl (by decide) ?_
          refine E_getI fX9_force_94 (k0 hG) (by decide) (by decide) (by decide) ?_
          refine E_iload_n fX9_force_97 rfl ?_
          refine E_ior fX9_force_98 ?_
          refine E_goto (tg := 110) fX9_force_99 (by decide) ?_
          refine E_putI fX9_force_110 (k0 hG) (by decide) rfl ?_
          refine E_iload fX9_force_113 rfl ?_
          exact R_iret fX9_force_115 mX9_force rfl ⟨_, _, rfl, ⟨_, rfl⟩, hW.se ((Fr.rf.pI rfl).pI rfl) ((hW.ai.pI (by omega)).pI (by omega)), (Fr.rf.pI rfl).pI rfl⟩
      · refine E_aload_n fX9_force_67 rfl (by decide) ?_
        refine E_getI fX9_force_68 (k0 hG) (by decide) (by decide) (by decide) ?_
        refine E_iload_n fX9_force_71 rfl ?_
        refine E_iconst (v := (-1)) fX9_force_72 (by decide) ?_
        refine E_ixor fX9_force_73 ?_
        refine E_iand fX9_force_74 ?_
        refine E_goto (tg := 84) fX9_force_75 (by decide) ?_
        refine E_putI fX9_force_84 (k0 hG) (by decide) rfl ?_
        refine E_aload_n fX9_force_87 rfl (by decide) ?_
        refine E_iload_n fX9_force_88 rfl ?_
        refine E_iconst (v := 1) fX9_force_89 (by decide) ?_
        refine E_icne (tg := 102) fX9_force_90 (by decide) (fun c_90 => ?_) (fun c_90 => ?_)
        · refine E_aload_n fX9_force_102 rfl (by decide) ?_
          refine E_getI fX9_force_103 (k0 hG) (by decide) (by decide) (by decide) ?_
          refine E_iload_n fX9_force_106 rfl ?_
          refine E_iconst (v := (-1)) fX9_force_107 (by decide) ?_
          refine E_ixor fX9_force_108 ?_
          refine E_iand fX9_force_109 ?_
          refine E_putI fX9_force_110 (k0 hG) (by decide) rfl ?_
          refine E_iload fX9_force_113 rfl ?_
          exact R_iret fX9_force_115 mX9_force rfl ⟨_, _, rfl, ⟨_, rfl⟩, hW.se ((Fr.rf.pI rfl).pI rfl) ((hW.ai.pI (by omega)).pI (by omega)), (Fr.rf.pI rfl).pI rfl⟩
        · refine E_aload_n fX9_force_93 rfl (by decide) ?_
          refine E_getI fX9_force_94 (k0 hG) (by decide) (by decide) (by decide) ?_
          refine E_iload_n fX9_force_97 rfl ?_
          refine E_ior fX9_force_98 ?_
          refine E_goto (tg := 110) fX9_force_99 (by decide) ?_
          refine E_putI fX9_force_110 (k0 hG) (by decide) rfl ?_
          refine E_iload fX9_force_113 rfl ?_
          exact R_iret fX9_force_115 mX9_force rfl ⟨_, _, rfl, ⟨_, rfl⟩, hW.se ((Fr.rf.pI rfl).pI rfl) ((hW.ai.pI (by omega)).pI (by omega)), (Fr.rf.pI rfl).pI rfl⟩
    · refine E_iconst (v := 1) fX9_force_54 (by decide) ?_
      refine E_goto (tg := 59) fX9_force_55 (by decide) ?_
      refine E_istore (L' := [some (.ref 0), some (.int (nI k)), some (.int z), some (.int (msk (nI k))), some (.int 1)]) fX9_force_59 rfl (Nat.le_of_ble_eq_true rfl) ?_
      refine E_aload_n fX9_force_61 rfl (by decide) ?_
      refine E_iload_n fX9_force_62 rfl ?_
      refine E_iconst (v := (-1)) fX9_force_63 (by decide) ?_
      refine E_icne (tg := 78) fX9_force_64 (by decide) (fun c_64 => ?_) (fun c_64 => ?_)
      · refine E_aload_n fX9_force_78 rfl (by decide) ?_
        refine E_getI fX9_force_79 (k0 hG) (by decide) (by decide) (by decide) ?_
        refine E_iload_n fX9_force_82 rfl ?_
        refine E_ior fX9_force_83 ?_
        refine E_putI fX9_force_84 (k0 hG) (by decide) rfl ?_
        refine E_aload_n fX9_force_87 rfl (by decide) ?_
        refine E_iload_n fX9_force_88 rfl ?_
        refine E_iconst (v := 1) fX9_force_89 (by decide) ?_
        refine E_icne (tg := 102) fX9_force_90 (by decide) (fun c_90 => ?_) (fun c_90 => ?_)
        · refine E_aload_n fX9_force_102 rfl (by decide) ?_
          refine E_getI fX9_force_103 (k0 hG) (by decide) (by decide) (by decide) ?_
          refine E_iload_n fX9_force_106 rfl ?_
          refine E_iconst (v := (-1)) fX9_force_107 (by decide) ?_
          refine E_ixor fX9_force_108 ?_
          refine E_iand fX9_force_109 ?_
          refine E_putI fX9_force_110 (k0 hG) (by decide) rfl ?_
          refine E_iload fX9_force_113 rfl ?_
          exact R_iret fX9_force_115 mX9_force rfl ⟨_, _, rfl, ⟨_, rfl⟩, hW.se ((Fr.rf.pI rfl).pI rfl) ((hW.ai.pI (by omega)).pI (by omega)), (Fr.rf.pI rfl).pI rfl⟩
        · refine E_aload_n fX9_force_93 rfl (by decide) ?_
          refine E_getI fX9_force_94 (k0 hG) (by decide) (by decide) (by decide) ?_
          refine E_iload_n fX9_force_97 rfl ?_
          refine E_ior fX9_force_98 ?_
          refine E_goto (tg := 110) fX9_force_99 (by decide) ?_
          refine E_putI fX9_force_110 (k0 hG) (by decide) rfl ?_
          refine E_iload fX9_force_113 rfl ?_
          exact R_iret fX9_force_115 mX9_force rfl ⟨_, _, rfl, ⟨_, rfl⟩, hW.se ((Fr.rf.pI rfl).pI rfl) ((hW.ai.pI (by omega)).pI (by omega)), (Fr.rf.pI rfl).pI rfl⟩
      · refine E_aload_n fX9_force_67 rfl (by decide) ?_
        refine E_getI fX9_force_68 (k0 hG) (by decide) (by decide) (by decide) ?_
        refine E_iload_n fX9_force_71 rfl ?_
        refine E_iconst (v := (-1)) fX9_force_72 (by decide) ?_
        refine E_ixor fX9_force_73 ?_
        refine E_iand fX9_force_74 ?_
        refine E_goto (tg := 84) fX9_force_75 (by decide) ?_
        refine E_putI fX9_force_84 (k0 hG) (by decide) rfl ?_
        refine E_aload_n fX9_force_87 rfl (by decide) ?_
        refine E_iload_n fX9_force_88 rfl ?_
        refine E_iconst (v := 1) fX9_force_89 (by decide) ?_
        refine E_icne (tg := 102) fX9_force_90 (by decide) (fun c_90 => ?_) (fun c_90 => ?_)
        · refine E_aload_n fX9_force_102 rfl (by decide) ?_
          refine E_getI fX9_force_103 (k0 hG) (by decide) (by decide) (by decide) ?_
          refine E_iload_n fX9_force_106 rfl ?_
          refine E_iconst (v := (-1)) fX9_force_107 (by decide) ?_
          refine E_ixor fX9_force_108 ?_
          refine E_iand fX9_force_109 ?_
          refine E_putI fX9_force_110 (k0 hG) (by decide) rfl ?_
          refine E_iload fX9_force_113 rfl ?_
          exact R_iret fX9_force_115 mX9_force rfl ⟨_, _, rfl, ⟨_, rfl⟩, hW.se ((Fr.rf.pI rfl).pI rfl) ((hW.ai.pI (by omega)).pI (by omega)), (Fr.rf.pI rfl).pI rfl⟩
        · refine E_aload_n fX9_force_93 rfl (by decide) ?_
          refine E_getI fX9_force_94 (k0 hG) (by decide) (by decide) (by decide) ?_
          refine E_iload_n fX9_force_97 rfl ?_
          refine E_ior fX9_force_98 ?_
          refine E_goto (tg := 110) fX9_force_99 (by decide) ?_
          refine E_putI fX9_force_110 (k0 hG) (by decide) rfl ?_
          refine E_iload fX9_force_113 rfl ?_
          exact R_iret fX9_force_115 mX9_force rfl ⟨_, _, rfl, ⟨_, rfl⟩, hW.se ((Fr.rf.pI rfl).pI rfl) ((hW.ai.pI (by omega)).pI (by omega)), (Fr.rf.pI rfl).pI rfl⟩
theorem setPeriod0_ok (hG : Core G) (p : Int32) (hp : 0 ≤ p ∧ p ≤ 100) : ∃ v M', Ret G (d + 3) 45 [.ref 0, .int 0, .int p] M v M' ∧ ((∃ x, v = some (.int x)) ∧ M' = pI M 408 0 p) := by
  refine X_start (d := d + 2) (by decide) mX9_setPeriod ?_
  show E _ _ _ (0, [some (.ref 0), some (.int 0), some (.int p), none], [], M, 0) _
  refine E_iload_n fX9_setPeriod_0 rfl ?_
  refine E_callS (t := []) (isTask_ok (d := d) 0) fX9_setPeriod_1 (by decide) mX9_isTask ⟨rfl, rfl⟩ rfl rfl (Nat.le_of_ble_eq_true rfl) ?_
  refine E_ifeq (tg := 21) fX9_setPeriod_4 (by decide) (fun c => absurd ⟨by decide, by decide⟩ (bI_0.mp c)) (fun c_4 => ?_)
  refine E_iload_n fX9_setPeriod_7 rfl ?_
  refine E_iconst (v := 0) fX9_setPeriod_8 (by decide) ?_
  refine E_bipush (v := 100) fX9_setPeriod_9 (by decide) ?_
  refine E_callS (t := []) (isBetween_ok (d := d + 1) p 0 100) fX9_setPeriod_11 (by decide) mX9_isBetween ⟨rfl, rfl⟩ rfl rfl (Nat.le_of_ble_eq_true rfl) ?_
  refine E_ifeq (tg := 21) fX9_setPeriod_14 (by decide) (fun c => absurd hp (bI_0.mp c)) (fun c_14 => ?_)
  refine E_iconst (v := 1) fX9_setPeriod_17 (by decide) ?_
  refine E_goto (tg := 22) fX9_setPeriod_18 (by decide) ?_
  refine E_callS (t := []) (require_ok (d := d + 1) (z := 1) (by decide)) fX9_setPeriod_22 (by decide) mX9_require ⟨rfl, rfl⟩ rfl rfl (Nat.le_of_ble_eq_true rfl) ?_
  refine E_aload_n fX9_setPeriod_25 rfl (by decide) ?_
  refine E_getR (r' := 407) fX9_setPeriod_26 (k0 hG) (by decide) (by decide) (by decide) rfl ?_
  refine E_iload_n fX9_setPeriod_29 rfl ?_
  refine E_aald (n := 0) (r' := 408) (K := 31) fX9_setPeriod_30 (k407 hG) ⟨by decide, by decide⟩ (by decide) rfl (by decide) rfl ?_
  refine E_getI fX9_setPeriod_31 (k408 hG) (by decide) (by decide) (by decide) ?_
  refine E_istore_n (L' := [some (.ref 0), some (.int 0), some (.int p), some (.int (M.1 408 0))]) fX9_setPeriod_34 rfl (Nat.le_of_ble_eq_true rfl) ?_
  refine E_aload_n fX9_setPeriod_35 rfl (by decide) ?_
  refine E_getR (r' := 407) fX9_setPeriod_36 (k0 hG) (by decide) (by decide) (by decide) rfl ?_
  refine E_iload_n fX9_setPeriod_39 rfl ?_
  refine E_aald (n := 0) (r' := 408) (K := 31) fX9_setPeriod_40 (k407 hG) ⟨by decide, by decide⟩ (by decide) rfl (by decide) rfl ?_
  refine E_iload_n fX9_setPeriod_41 rfl ?_
  refine E_putI fX9_setPeriod_42 (k408 hG) (by decide) rfl ?_
  refine E_iload_n fX9_setPeriod_45 rfl ?_
  exact R_iret fX9_setPeriod_46 mX9_setPeriod rfl ⟨_, _, rfl, ⟨_, rfl⟩, rfl⟩
theorem setPeriod1_ok (hG : Core G) (p : Int32) (hp : 0 ≤ p ∧ p ≤ 100) : ∃ v M', Ret G (d + 3) 45 [.ref 0, .int 1, .int p] M v M' ∧ ((∃ x, v = some (.int x)) ∧ M' = pI M 409 0 p) := by
  refine X_start (d := d + 2) (by decide) mX9_setPeriod ?_
  show E _ _ _ (0, [some (.ref 0), some (.int 1), some (.int p), none], [], M, 0) _
  refine E_iload_n fX9_setPeriod_0 rfl ?_
  refine E_callS (t := []) (isTask_ok (d := d) 1) fX9_setPeriod_1 (by decide) mX9_isTask ⟨rfl, rfl⟩ rfl rfl (Nat.le_of_ble_eq_true rfl) ?_
  refine E_ifeq (tg := 21) fX9_setPeriod_4 (by decide) (fun c => absurd ⟨by decide, by decide⟩ (bI_0.mp c)) (fun c_4 => ?_)
  refine E_iload_n fX9_setPeriod_7 rfl ?_
  refine E_iconst (v := 0) fX9_setPeriod_8 (by decide) ?_
  refine E_bipush (v := 100) fX9_setPeriod_9 (by decide) ?_
  refine E_callS (t := []) (isBetween_ok (d := d + 1) p 0 100) fX9_setPeriod_11 (by decide) mX9_isBetween ⟨rfl, rfl⟩ rfl rfl (Nat.le_of_ble_eq_true rfl) ?_
  refine E_ifeq (tg := 21) fX9_setPeriod_14 (by decide) (fun c => absurd hp (bI_0.mp c)) (fun c_14 => ?_)
  refine E_iconst (v := 1) fX9_setPeriod_17 (by decide) ?_
  refine E_goto (tg := 22) fX9_setPeriod_18 (by decide) ?_
  refine E_callS (t := []) (require_ok (d := d + 1) (z := 1) (by decide)) fX9_setPeriod_22 (by decide) mX9_require ⟨rfl, rfl⟩ rfl rfl (Nat.le_of_ble_eq_true rfl) ?_
  refine E_aload_n fX9_setPeriod_25 rfl (by decide) ?_
  refine E_getR (r' := 407) fX9_setPeriod_26 (k0 hG) (by decide) (by decide) (by decide) rfl ?_
  refine E_iload_n fX9_setPeriod_29 rfl ?_
  refine E_aald (n := 1) (r' := 409) (K := 31) fX9_setPeriod_30 (k407 hG) ⟨by decide, by decide⟩ (by decide) rfl (by decide) rfl ?_
  refine E_getI fX9_setPeriod_31 (k409 hG) (by decide) (by decide) (by decide) ?_
  refine E_istore_n (L' := [some (.ref 0), some (.int 1), some (.int p), some (.int (M.1 409 0))]) fX9_setPeriod_34 rfl (Nat.le_of_ble_eq_true rfl) ?_
  refine E_aload_n fX9_setPeriod_35 rfl (by decide) ?_
  refine E_getR (r' := 407) fX9_setPeriod_36 (k0 hG) (by decide) (by decide) (by decide) rfl ?_
  refine E_iload_n fX9_setPeriod_39 rfl ?_
  refine E_aald (n := 1) (r' := 409) (K := 31) fX9_setPeriod_40 (k407 hG) ⟨by decide, by decide⟩ (by decide) rfl (by decide) rfl ?_
  refine E_iload_n fX9_setPeriod_41 rfl ?_
  refine E_putI fX9_setPeriod_42 (k409 hG) (by decide) rfl ?_
  refine E_iload_n fX9_setPeriod_45 rfl ?_
  exact R_iret fX9_setPeriod_46 mX9_setPeriod rfl ⟨_, _, rfl, ⟨_, rfl⟩, rfl⟩
theorem setWatch1_ok (hG : Core G) : ∃ v M', Ret G (d + 3) 47 [.ref 0, .int 0, .int 1] M v M' ∧ ((∃ x, v = some (.int x)) ∧ M' = pI M 408 1 1) := by
  refine X_start (d := d + 2) (by decide) mX9_setWatch ?_
  show E _ _ _ (0, [some (.ref 0), some (.int 0), some (.int 1), none], [], M, 0) _
  refine E_iload_n fX9_setWatch_0 rfl ?_
  refine E_callS (t := []) (isTask_ok (d := d) 0) fX9_setWatch_1 (by decide) mX9_isTask ⟨rfl, rfl⟩ rfl rfl (Nat.le_of_ble_eq_true rfl) ?_
  refine E_ifeq (tg := 21) fX9_setWatch_4 (by decide) (fun c => absurd ⟨by decide, by decide⟩ (bI_0.mp c)) (fun c_4 => ?_)
  refine E_iload_n fX9_setWatch_7 rfl ?_
  refine E_iconst (v := 1) fX9_setWatch_8 (by decide) ?_
  refine E_bipush (v := 40) fX9_setWatch_9 (by decide) ?_
  refine E_callS (t := []) (isBetween_ok (d := d + 1) 1 1 40) fX9_setWatch_11 (by decide) mX9_isBetween ⟨rfl, rfl⟩ rfl rfl (Nat.le_of_ble_eq_true rfl) ?_
  refine E_ifeq (tg := 21) fX9_setWatch_14 (by decide) (fun c => absurd ⟨by decide, by decide⟩ (bI_0.mp c)) (fun c_14 => ?_)
  refine E_iconst (v := 1) fX9_setWatch_17 (by decide) ?_
  refine E_goto (tg := 22) fX9_setWatch_18 (by decide) ?_
  refine E_callS (t := []) (require_ok (d := d + 1) (z := 1) (by decide)) fX9_setWatch_22 (by decide) mX9_require ⟨rfl, rfl⟩ rfl rfl (Nat.le_of_ble_eq_true rfl) ?_
  refine E_aload_n fX9_setWatch_25 rfl (by decide) ?_
  refine E_getR (r' := 407) fX9_setWatch_26 (k0 hG) (by decide) (by decide) (by decide) rfl ?_
  refine E_iload_n fX9_setWatch_29 rfl ?_
  refine E_aald (n := 0) (r' := 408) (K := 31) fX9_setWatch_30 (k407 hG) ⟨by decide, by decide⟩ (by decide) rfl (by decide) rfl ?_
  refine E_getI fX9_setWatch_31 (k408 hG) (by decide) (by decide) (by decide) ?_
  refine E_istore_n (L' := [some (.ref 0), some (.int 0), some (.int 1), some (.int (M.1 408 1))]) fX9_setWatch_34 rfl (Nat.le_of_ble_eq_true rfl) ?_
  refine E_aload_n fX9_setWatch_35 rfl (by decide) ?_
  refine E_getR (r' := 407) fX9_setWatch_36 (k0 hG) (by decide) (by decide) (by decide) rfl ?_
  refine E_iload_n fX9_setWatch_39 rfl ?_
  refine E_aald (n := 0) (r' := 408) (K := 31) fX9_setWatch_40 (k407 hG) ⟨by decide, by decide⟩ (by decide) rfl (by decide) rfl ?_
  refine E_iload_n fX9_setWatch_41 rfl ?_
  refine E_putI fX9_setWatch_42 (k408 hG) (by decide) rfl ?_
  refine E_iload_n fX9_setWatch_45 rfl ?_
  exact R_iret fX9_setWatch_46 mX9_setWatch rfl ⟨_, _, rfl, ⟨_, rfl⟩, rfl⟩
theorem lose_ok (hG : Core G) {n s t nw : Nat} (hW : WS M n s t nw) (x : Int32) (hx : 1 ≤ x ∧ x ≤ 20) : ∃ v M', Ret G (d + 3) 48 [.ref 0, .int x] M v M' ∧ ((∃ x, v = some (.int x)) ∧ WS M' n s t nw ∧ Fr seB M M') := by
  refine X_start (d := d + 2) (by decide) mX9_lose ?_
  show E _ _ _ (0, [some (.ref 0), some (.int x), none], [], M, 0) _
  refine E_iload_n fX9_lose_0 rfl ?_
  refine E_iconst (v := 1) fX9_lose_1 (by decide) ?_
  refine E_bipush (v := 20) fX9_lose_2 (by decide) ?_
  refine E_callS (t := []) (isBetween_ok (d := d + 1) x 1 20) fX9_lose_4 (by decide) mX9_isBetween ⟨rfl, rfl⟩ rfl rfl (Nat.le_of_ble_eq_true rfl) ?_
  refine E_callS (t := []) (require_ok (d := d + 1) (bI_n0.mpr hx)) fX9_lose_7 (by decide) mX9_require ⟨rfl, rfl⟩ rfl rfl (Nat.le_of_ble_eq_true rfl) ?_
  refine E_aload_n fX9_lose_10 rfl (by decide) ?_
  refine E_getR (r' := 405) fX9_lose_11 (k0 hG) (by decide) (by decide) (by decide) rfl ?_
  refine E_getI fX9_lose_14 (k405 hG) (by decide) (by decide) (by decide) ?_
  refine E_istore_n (L' := [some (.ref 0), some (.int x), some (.int (M.1 405 3))]) fX9_lose_17 rfl (Nat.le_of_ble_eq_true rfl) ?_
  refine E_aload_n fX9_lose_18 rfl (by decide) ?_
  refine E_getR (r' := 405) fX9_lose_19 (k0 hG) (by decide) (by decide) (by decide) rfl ?_
  refine E_iload_n fX9_lose_22 rfl ?_
  refine E_putI fX9_lose_23 (k405 hG) (by decide) rfl ?_
  refine E_iload_n fX9_lose_26 rfl ?_
  exact R_iret fX9_lose_27 mX9_lose rfl ⟨_, _, rfl, ⟨_, rfl⟩, hW.se (Fr.rf.pI rfl) (hW.ai.pI (by omega)), Fr.rf.pI rfl⟩
theorem setHold_ok (hG : Core G) {n s t nw : Nat} (hW : WS M n s t nw) (x : Int32) (hx : 0 ≤ x ∧ x ≤ 9) : ∃ v M', Ret G (d + 3) 49 [.ref 0, .int x] M v M' ∧ ((∃ x, v = some (.int x)) ∧ WS M' n s t nw ∧ Fr seB M M') := by
  refine X_start (d := d + 2) (by decide) mX9_setHold ?_
  show E _ _ _ (0, [some (.ref 0), some (.int x), none], [], M, 0) _
  refine E_iload_n fX9_setHold_0 rfl ?_
  refine E_iconst (v := 0) fX9_setHold_1 (by decide) ?_
  refine E_bipush (v := 9) fX9_setHold_2 (by decide) ?_
  refine E_callS (t := []) (isBetween_ok (d := d + 1) x 0 9) fX9_setHold_4 (by decide) mX9_isBetween ⟨rfl, rfl⟩ rfl rfl (Nat.le_of_ble_eq_true rfl) ?_
  refine E_callS (t := []) (require_ok (d := d + 1) (bI_n0.mpr hx)) fX9_setHold_7 (by decide) mX9_require ⟨rfl, rfl⟩ rfl rfl (Nat.le_of_ble_eq_true rfl) ?_
  refine E_aload_n fX9_setHold_10 rfl (by decide) ?_
  refine E_getR (r' := 405) fX9_setHold_11 (k0 hG) (by decide) (by decide) (by decide) rfl ?_
  refine E_getI fX9_setHold_14 (k405 hG) (by decide) (by decide) (by decide) ?_
  refine E_istore_n (L' := [some (.ref 0), some (.int x), some (.int (M.1 405 5))]) fX9_setHold_17 rfl (Nat.le_of_ble_eq_true rfl) ?_
  refine E_aload_n fX9_setHold_18 rfl (by decide) ?_
  refine E_getR (r' := 405) fX9_setHold_19 (k0 hG) (by decide) (by decide) (by decide) rfl ?_
  refine E_iload_n fX9_setHold_22 rfl ?_
  refine E_putI fX9_setHold_23 (k405 hG) (by decide) rfl ?_
  refine E_iload_n fX9_setHold_26 rfl ?_
  exact R_iret fX9_setHold_27 mX9_setHold rfl ⟨_, _, rfl, ⟨_, rfl⟩, hW.se (Fr.rf.pI rfl) (hW.ai.pI (by omega)), Fr.rf.pI rfl⟩
theorem acknowledge_ok (hG : Core G) {n s t nw : Nat} (hW : WS M n s t nw) {k : Nat} (hk : k < 8) : ∃ v M', Ret G (d + 3) 51 [.ref 0, .int (nI k)] M v M' ∧ ((∃ x, v = some (.int x) ∧ (x = 0 ∨ x = 1)) ∧ WS M' n s t nw ∧ Fr seB M M') := by
  refine X_start (d := d + 2) (by decide) mX9_acknowledge ?_
  show E _ _ _ (0, [some (.ref 0), some (.int (nI k)), none], [], M, 0) _
  refine E_iload_n fX9_acknowledge_0 rfl ?_
  refine E_callS (t := []) (isOfEight_ok (d := d) (nI k)) fX9_acknowledge_1 (by decide) mX9_isOfEight ⟨rfl, rfl⟩ rfl rfl (Nat.le_of_ble_eq_true rfl) ?_
  refine E_callS (t := []) (require_ok (d := d + 1) (bI_n0.mpr (rg_ hk rfl (by decide)))) fX9_acknowledge_4 (by decide) mX9_require ⟨rfl, rfl⟩ rfl rfl (Nat.le_of_ble_eq_true rfl) ?_
  refine E_aload_n fX9_acknowledge_7 rfl (by decide) ?_
  refine E_getR (r' := 377) fX9_acknowledge_8 (k0 hG) (by decide) (by decide) (by decide) rfl ?_
  refine E_getR (r' := 383) fX9_acknowledge_11 (k377 hG) (by decide) (by decide) (by decide) rfl ?_
  refine E_iload_n fX9_acknowledge_14 rfl ?_
  obtain ⟨m, hm8, hml, -⟩ := hW.ai
  refine E_callV (t := []) (timesInRow_ok (d := d + 1) hG hm8 hml) fX9_acknowledge_15 mX0_timesInRow (rc_obj (k383 hG) (by decide) (by decide)) ⟨by decide, rfl⟩ rfl rfl (Nat.le_of_ble_eq_true rfl) ?_
  refine E_ifle (tg := 25) fX9_acknowledge_18 (by decide) (fun c_18 => ?_) (fun c_18 => ?_)
  · refine E_iconst (v := 0) fX9_acknowledge_25 (by decide) ?_
    refine E_istore_n (L' := [some (.ref 0), some (.int (nI k)), some (.int 0)]) fX9_acknowledge_26 rfl (Nat.le_of_ble_eq_true rfl) ?_
    refine E_iload_n fX9_acknowledge_27 rfl ?_
    refine E_ifeq (tg := 42) fX9_acknowledge_28 (by decide) (fun c_28 => ?_) (fun c => absurd c (by decide))
    refine E_iload_n fX9_acknowledge_42 rfl ?_
    exact R_iret fX9_acknowledge_43 mX9_acknowledge rfl ⟨_, _, rfl, ⟨_, rfl, Or.inl rfl⟩, hW, Fr.rf⟩
  · refine E_iconst (v := 1) fX9_acknowledge_21 (by decide) ?_
    refine E_goto (tg := 26) fX9_acknowledge_22 (by decide) ?_
    refine E_istore_n (L' := [some (.ref 0), some (.int (nI k)), some (.int 1)]) fX9_acknowledge_26 rfl (Nat.le_of_ble_eq_true rfl) ?_
    refine E_iload_n fX9_acknowledge_27 rfl ?_
    refine E_ifeq (tg := 42) fX9_acknowledge_28 (by decide) (fun c => absurd c (by decide)) (fun c_28 => ?_)
    refine E_aload_n fX9_acknowledge_31 rfl (by decide) ?_
    refine E_getR (r' := 377) fX9_acknowledge_32 (k0 hG) (by decide) (by decide) (by decide) rfl ?_
    refine E_getR (r' := 383) fX9_acknowledge_35 (k377 hG) (by decide) (by decide) (by decide) rfl ?_
    refine E_iload_n fX9_acknowledge_38 rfl ?_
    obtain ⟨v1, M1, hR, rfl, hA1, hF1⟩ := confirm_ok (d := d) hG hk hW.ai
    refine E_callV (t := []) hR fX9_acknowledge_39 mX0_confirm (rc_obj (k383 hG) (by decide) (by decide)) ⟨by decide, rfl⟩ rfl rfl (Nat.le_of_ble_eq_true rfl) ?_
    refine E_iload_n fX9_acknowledge_42 rfl ?_
    exact R_iret fX9_acknowledge_43 mX9_acknowledge rfl ⟨_, _, rfl, ⟨_, rfl, Or.inr rfl⟩, hW.se hF1.se hA1, hF1.se⟩
theorem shelve_ok (hG : Core G) {n s t nw : Nat} (hW : WS M n s t nw) {k u : Nat} (hk : k < 8) (hu : u < 1000) : ∃ v M', Ret G (d + 3) 52 [.ref 0, .int (nI k), .int (nI u)] M v M' ∧ ((∃ x, v = some (.int x)) ∧ WS M' n s t nw ∧ Fr seB M M') := by
  refine X_start (d := d + 2) (by decide) mX9_shelve ?_
  show E _ _ _ (0, [some (.ref 0), some (.int (nI k)), some (.int (nI u)), none], [], M, 0) _
  refine E_iload_n fX9_shelve_0 rfl ?_
  refine E_callS (t := []) (isOfEight_ok (d := d) (nI k)) fX9_shelve_1 (by decide) mX9_isOfEight ⟨rfl, rfl⟩ rfl rfl (Nat.le_of_ble_eq_true rfl) ?_
  refine E_ifeq (tg := 22) fX9_shelve_4 (by decide) (fun c => absurd (rg_ hk rfl (by decide)) (bI_0.mp c)) (fun c_4 => ?_)
  refine E_iload_n fX9_shelve_7 rfl ?_
  refine E_iconst (v := 0) fX9_shelve_8 (by decide) ?_
  refine E_sipush (v := 999) fX9_shelve_9 (by decide) ?_
  refine E_callS (t := []) (isBetween_ok (d := d + 1) (nI u) 0 999) fX9_shelve_12 (by decide) mX9_isBetween ⟨rfl, rfl⟩ rfl rfl (Nat.le_of_ble_eq_true rfl) ?_
  refine E_ifeq (tg := 22) fX9_shelve_15 (by decide) (fun c => absurd (rg_ (m := 1000) hu rfl (by decide)) (bI_0.mp c)) (fun c_15 => ?_)
  refine E_iconst (v := 1) fX9_shelve_18 (by decide) ?_
  refine E_goto (tg := 23) fX9_shelve_19 (by decide) ?_
  refine E_callS (t := []) (require_ok (d := d + 1) (z := 1) (by decide)) fX9_shelve_23 (by decide) mX9_require ⟨rfl, rfl⟩ rfl rfl (Nat.le_of_ble_eq_true rfl) ?_
  refine E_aload_n fX9_shelve_26 rfl (by decide) ?_
  refine E_getR (r' := 377) fX9_shelve_27 (k0 hG) (by decide) (by decide) (by decide) rfl ?_
  refine E_getR (r' := 383) fX9_shelve_30 (k377 hG) (by decide) (by decide) (by decide) rfl ?_
  refine E_getR (r' := 384) fX9_shelve_33 (k383 hG) (by decide) (by decide) (by decide) rfl ?_
  refine E_iload_n fX9_shelve_36 rfl ?_
  refine E_iald (n := k) (K := 20) fX9_shelve_37 (k384 hG) ⟨by decide, by decide⟩ (by decide) rfl (by show k < 8; exact hk) ?_
  refine E_istore_n (L' := [some (.ref 0), some (.int (nI k)), some (.int (nI u)), some (.int (M.1 384 k))]) fX9_shelve_38 rfl (Nat.le_of_ble_eq_true rfl) ?_
  refine E_aload_n fX9_shelve_39 rfl (by decide) ?_
  refine E_getR (r' := 377) fX9_shelve_40 (k0 hG) (by decide) (by decide) (by decide) rfl ?_
  refine E_getR (r' := 383) fX9_shelve_43 (k377 hG) (by decide) (by decide) (by decide) rfl ?_
  refine E_iload_n fX9_shelve_46 rfl ?_
  refine E_iload_n fX9_shelve_47 rfl ?_
  obtain ⟨v1, M1, hR, rfl, hA1, hF1⟩ := putAway_ok (d := d) (u := u) hG hk (by omega) hW.ai
  refine E_callV (t := []) hR fX9_shelve_48 mX0_putAway (rc_obj (k383 hG) (by decide) (by decide)) ⟨by decide, rfl⟩ rfl rfl (Nat.le_of_ble_eq_true rfl) ?_
  refine E_iload_n fX9_shelve_51 rfl ?_
  exact R_iret fX9_shelve_52 mX9_shelve rfl ⟨_, _, rfl, ⟨_, rfl⟩, hW.se hF1.se hA1, hF1.se⟩
end SP20
