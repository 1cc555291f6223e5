section SP17
variable {G : MG} {d : Nat} {M : Mem}
/-- a call's end: an int, or one of the five, caught later; P of the cells -/
def RA (P : Mem → Prop) (r : Res) : Prop := r.2.2 ≤ 1 ∧ ((∃ x, r.1 = .inl (some (.int x)) ∧ r.2.2 = 0) ∨ ∃ x, x < 5 ∧ r.1 = .inr x ∧ r.2.2 = 1) ∧ P r.2.1
def Any (G : MG) (d k : Nat) (As : List Value) (M : Mem) (P : Mem → Prop) : Prop := ∃ r, RunG G mdT cdT kD kP d k As M r ∧ RA P r
theorem Any_start {k : Nat} {As : List Value} {P : Mem → Prop} {md : MD} (hk : k ≠ 200) (hmd : mdT k = md) (h : E G d k (0, entL As md.2.2.1, [], M, 0) (RA P)) : Any G (d + 1) k As M P := Run_of hk (by rw [hmd]; exact h)
theorem RA.ret {P : Mem → Prop} {x : Int32} (h : P M) : RA P (.inl (some (.int x)), M, 0) := ⟨Nat.zero_le _, Or.inl ⟨x, rfl, rfl⟩, h⟩
theorem RA.thr {P : Mem → Prop} {x : Nat} (hx : x < 5) (h : P M) : RA P (.inr x, M, 0 + 1) := ⟨Nat.le_refl 1, Or.inr ⟨x, hx, rfl, rfl⟩, h⟩
def dfB (c _s : Nat) : Bool := 189 ≤ c && c < 377
theorem dfB_in {c s : Nat} (h : 189 ≤ c ∧ c < 377) : dfB c s = true := by
  unfold dfB
  simp only [Bool.and_eq_true, decide_eq_true_eq]
  exact h
/-- the draft: n rungs, s steps, t transitions -/
def DJ (M : Mem) (n s t : Nat) : Prop := n ≤ 40 ∧ M.1 189 0 = nI n ∧ (∀ i, i < n → RKc M (193 + 3 * i) ∧ ∃ z, z < 65536 ∧ M.1 (193 + 3 * i) 1 = nI z) ∧ s ≤ 12 ∧ M.1 189 1 = nI s ∧ t ≤ 16 ∧ M.1 189 2 = nI t ∧ (∀ i, i < s → ∃ n, n ≤ 3 ∧ M.1 (313 + 4 * i) 0 = nI n) ∧ ∀ i, i < t → (∀ k, k < 32 → bt (M.1 (361 + i) 1) k = true → k < s) ∧ (M.1 (361 + i) 3 = 0 ∨ M.1 (361 + i) 3 = 1)
def DI (M : Mem) (s : Nat) : Prop := ∃ n t, DJ M n s t
theorem isFirst_ok (k a : Int32) : ∃ v M', Ret G (d + 3) 81 [.int k, .int a] M v M' ∧ (M' = M ∧ ∃ z, v = some (.int z) ∧ (z = 0 ∨ z = 1) ∧ (¬ z = 0 → (k = 84 ∨ k = 82 ∨ k = 67 ∨ k = 90 ∨ k = 107 ∨ k = 43 ∨ k = 65) → 0 ≤ a ∧ a ≤ 7)) := by
  refine X_start (d := d + 2) (by decide) mX9_isFirstNumber ?_
  show E _ _ _ (0, [some (.int k), some (.int a)], [], M, 0) _
  refine E_iload_n fX9_isFirstNumber_0 rfl ?_
  by_cases e60_1 : k = 60
  · refine E_lsw (off := 51) (tg := 52) fX9_isFirstNumber_1 (by rw [e60_1]; rfl) (by decide) ?_
    refine E_iload_n fX9_isFirstNumber_52 rfl ?_
    refine E_callS (t := []) (isWritable_ok (d := d) a) fX9_isFirstNumber_53 (by decide) mX9_isWritable ⟨rfl, rfl⟩ rfl rfl (Nat.le_of_ble_eq_true rfl) ?_
    exact R_iret fX9_isFirstNumber_56 mX9_isFirstNumber (ret2 (bI_01 _)) ⟨_, _, rfl, rfl, _, rfl, bI_01 _, fun _ h => by first | (rcases h with h | h | h | h | h | h | h <;> exact absurd (e60_1.symm.trans h) (by decide)) | (rcases h with h | h | h | h | h | h | h <;> exact absurd (e61_1.symm.trans h) (by decide)) | (rcases h with h | h | h | h | h | h | h <;> exact absurd (e114_1.symm.trans h) (by decide)) | (rcases h with h | h | h | h | h | h | h <;> exact absurd (e115_1.symm.trans h) (by decide))⟩
  · by_cases e61_1 : k = 61
    · refine E_lsw (off := 51) (tg := 52) fX9_isFirstNumber_1 (by rw [e61_1]; rfl) (by decide) ?_
      refine E_iload_n fX9_isFirstNumber_52 rfl ?_
      refine E_callS (t := []) (isWritable_ok (d := d) a) fX9_isFirstNumber_53 (by decide) mX9_isWritable ⟨rfl, rfl⟩ rfl rfl (Nat.le_of_ble_eq_true rfl) ?_
      exact R_iret fX9_isFirstNumber_56 mX9_isFirstNumber (ret2 (bI_01 _)) ⟨_, _, rfl, rfl, _, rfl, bI_01 _, fun _ h => by first | (rcases h with h | h | h | h | h | h | h <;> exact absurd (e60_1.symm.trans h) (by decide)) | (rcases h with h | h | h | h | h | h | h <;> exact absurd (e61_1.symm.trans h) (by decide)) | (rcases h with h | h | h | h | h | h | h <;> exact absurd (e114_1.symm.trans h) (by decide)) | (rcases h with h | h | h | h | h | h | h <;> exact absurd (e115_1.symm.trans h) (by decide))⟩
    · by_cases e74_1 : k = 74
      · refine E_lsw (off := 56) (tg := 57) fX9_isFirstNumber_1 (by rw [e74_1]; rfl) (by decide) ?_
        refine E_iconst (v := 1) fX9_isFirstNumber_57 (by decide) ?_
        exact R_iret fX9_isFirstNumber_58 mX9_isFirstNumber rfl ⟨_, _, rfl, rfl, _, rfl, Or.inr rfl, fun _ h => by rcases h with h | h | h | h | h | h | h <;> exact absurd (e74_1.symm.trans h) (by decide)⟩
      · by_cases e114_1 : k = 114
        · refine E_lsw (off := 51) (tg := 52) fX9_isFirstNumber_1 (by rw [e114_1]; rfl) (by decide) ?_
          refine E_iload_n fX9_isFirstNumber_52 rfl ?_
          refine E_callS (t := []) (isWritable_ok (d := d) a) fX9_isFirstNumber_53 (by decide) mX9_isWritable ⟨rfl, rfl⟩ rfl rfl (Nat.le_of_ble_eq_true rfl) ?_
          exact R_iret fX9_isFirstNumber_56 mX9_isFirstNumber (ret2 (bI_01 _)) ⟨_, _, rfl, rfl, _, rfl, bI_01 _, fun _ h => by first | (rcases h with h | h | h | h | h | h | h <;> exact absurd (e60_1.symm.trans h) (by decide)) | (rcases h with h | h | h | h | h | h | h <;> exact absurd (e61_1.symm.trans h) (by decide)) | (rcases h with h | h | h | h | h | h | h <;> exact absurd (e114_1.symm.trans h) (by decide)) | (rcases h with h | h | h | h | h | h | h <;> exact absurd (e115_1.symm.trans h) (by decide))⟩
        · by_cases e115_1 : k = 115
          · refine E_lsw (off := 51) (tg := 52) fX9_isFirstNumber_1 (by rw [e115_1]; rfl) (by decide) ?_
            refine E_iload_n fX9_isFirstNumber_52 rfl ?_
            refine E_callS (t := []) (isWritable_ok (d := d) a) fX9_isFirstNumber_53 (by decide) mX9_isWritable ⟨rfl, rfl⟩ rfl rfl (Nat.le_of_ble_eq_true rfl) ?_
            exact R_iret fX9_isFirstNumber_56 mX9_isFirstNumber (ret2 (bI_01 _)) ⟨_, _, rfl, rfl, _, rfl, bI_01 _, fun _ h => by first | (rcases h with h | h | h | h | h | h | h <;> exact absurd (e60_1.symm.trans h) (by decide)) | (rcases h with h | h | h | h | h | h | h <;> exact absurd (e61_1.symm.trans h) (by decide)) | (rcases h with h | h | h | h | h | h | h <;> exact absurd (e114_1.symm.trans h) (by decide)) | (rcases h with h | h | h | h | h | h | h <;> exact absurd (e115_1.symm.trans h) (by decide))⟩
          · refine E_lsw (off := 58) (tg := 59) fX9_isFirstNumber_1 (by show Jvm.Op.lookupswitch.offset [(60, 51), (61, 51), (74, 56), (114, 51), (115, 51)] (58) _ = 58; rw [Jvm.Op.lookupswitch.offset_cons, if_neg (tI_ne (z := 60) e60_1 (by decide)), Jvm.Op.lookupswitch.offset_cons, if_neg (tI_ne (z := 61) e61_1 (by decide)), Jvm.Op.lookupswitch.offset_cons, if_neg (tI_ne (z := 74) e74_1 (by decide)), Jvm.Op.lookupswitch.offset_cons, if_neg (tI_ne (z := 114) e114_1 (by decide)), Jvm.Op.lookupswitch.offset_cons, if_neg (tI_ne (z := 115) e115_1 (by decide)), Jvm.Op.lookupswitch.offset_nil]) (by decide) ?_
            refine E_iload_n fX9_isFirstNumber_59 rfl ?_
            refine E_callS (t := []) (isOfEight_ok (d := d) a) fX9_isFirstNumber_60 (by decide) mX9_isOfEight ⟨rfl, rfl⟩ rfl rfl (Nat.le_of_ble_eq_true rfl) ?_
            exact R_iret fX9_isFirstNumber_63 mX9_isFirstNumber (ret2 (bI_01 _)) ⟨_, _, rfl, rfl, _, rfl, bI_01 _, fun h _ => bI_n0.mp h⟩
theorem isSecond_ok (k b : Int32) : ∃ v M', Ret G (d + 3) 82 [.int k, .int b] M v M' ∧ (M' = M ∧ ∃ z, v = some (.int z) ∧ (z = 0 ∨ z = 1) ∧ (¬ z = 0 → (k = 60 ∨ k = 43) → 0 ≤ b ∧ b ≤ 7)) := by
  refine X_start (d := d + 2) (by decide) mX9_isSecondNumber ?_
  show E _ _ _ (0, [some (.int k), some (.int b)], [], M, 0) _
  refine E_iload_n fX9_isSecondNumber_0 rfl ?_
  by_cases e43_1 : k = 43
  · refine E_lsw (off := 87) (tg := 88) fX9_isSecondNumber_1 (by rw [e43_1]; rfl) (by decide) ?_
    refine E_iload_n fX9_isSecondNumber_88 rfl ?_
    refine E_callS (t := []) (isOfEight_ok (d := d) b) fX9_isSecondNumber_89 (by decide) mX9_isOfEight ⟨rfl, rfl⟩ rfl rfl (Nat.le_of_ble_eq_true rfl) ?_
    exact R_iret fX9_isSecondNumber_92 mX9_isSecondNumber (ret2 (bI_01 _)) ⟨_, _, rfl, rfl, _, rfl, bI_01 _, fun h _ => bI_n0.mp h⟩
  · by_cases e60_1 : k = 60
    · refine E_lsw (off := 87) (tg := 88) fX9_isSecondNumber_1 (by rw [e60_1]; rfl) (by decide) ?_
      refine E_iload_n fX9_isSecondNumber_88 rfl ?_
      refine E_callS (t := []) (isOfEight_ok (d := d) b) fX9_isSecondNumber_89 (by decide) mX9_isOfEight ⟨rfl, rfl⟩ rfl rfl (Nat.le_of_ble_eq_true rfl) ?_
      exact R_iret fX9_isSecondNumber_92 mX9_isSecondNumber (ret2 (bI_01 _)) ⟨_, _, rfl, rfl, _, rfl, bI_01 _, fun h _ => bI_n0.mp h⟩
    · by_cases e67_1 : k = 67
      · refine E_lsw (off := 67) (tg := 68) fX9_isSecondNumber_1 (by rw [e67_1]; rfl) (by decide) ?_
        refine E_iload_n fX9_isSecondNumber_68 rfl ?_
        refine E_iconst (v := 1) fX9_isSecondNumber_69 (by decide) ?_
        refine E_sipush (v := 999) fX9_isSecondNumber_70 (by decide) ?_
        refine E_callS (t := []) (isBetween_ok (d := d + 1) b 1 999) fX9_isSecondNumber_73 (by decide) mX9_isBetween ⟨rfl, rfl⟩ rfl rfl (Nat.le_of_ble_eq_true rfl) ?_
        exact R_iret fX9_isSecondNumber_76 mX9_isSecondNumber (ret2 (bI_01 _)) ⟨_, _, rfl, rfl, _, rfl, bI_01 _, fun _ h => by rcases h with h | h <;> first | exact absurd (e67_1.symm.trans h) (by decide) | exact absurd (e74_1.symm.trans h) (by decide) | exact absurd (e82_1.symm.trans h) (by decide) | exact absurd (e84_1.symm.trans h) (by decide) | exact absurd (e107_1.symm.trans h) (by decide)⟩
      · by_cases e74_1 : k = 74
        · refine E_lsw (off := 92) (tg := 93) fX9_isSecondNumber_1 (by rw [e74_1]; rfl) (by decide) ?_
          refine E_iload_n fX9_isSecondNumber_93 rfl ?_
          refine E_iconst (v := 0) fX9_isSecondNumber_94 (by decide) ?_
          refine E_bipush (v := 39) fX9_isSecondNumber_95 (by decide) ?_
          refine E_callS (t := []) (isBetween_ok (d := d + 1) b 0 39) fX9_isSecondNumber_97 (by decide) mX9_isBetween ⟨rfl, rfl⟩ rfl rfl (Nat.le_of_ble_eq_true rfl) ?_
          exact R_iret fX9_isSecondNumber_100 mX9_isSecondNumber (ret2 (bI_01 _)) ⟨_, _, rfl, rfl, _, rfl, bI_01 _, fun _ h => by rcases h with h | h <;> first | exact absurd (e67_1.symm.trans h) (by decide) | exact absurd (e74_1.symm.trans h) (by decide) | exact absurd (e82_1.symm.trans h) (by decide) | exact absurd (e84_1.symm.trans h) (by decide) | exact absurd (e107_1.symm.trans h) (by decide)⟩
        · by_cases e82_1 : k = 82
          · refine E_lsw (off := 67) (tg := 68) fX9_isSecondNumber_1 (by rw [e82_1]; rfl) (by decide) ?_
            refine E_iload_n fX9_isSecondNumber_68 rfl ?_
            refine E_iconst (v := 1) fX9_isSecondNumber_69 (by decide) ?_
            refine E_sipush (v := 999) fX9_isSecondNumber_70 (by decide) ?_
            refine E_callS (t := []) (isBetween_ok (d := d + 1) b 1 999) fX9_isSecondNumber_73 (by decide) mX9_isBetween ⟨rfl, rfl⟩ rfl rfl (Nat.le_of_ble_eq_true rfl) ?_
            exact R_iret fX9_isSecondNumber_76 mX9_isSecondNumber (ret2 (bI_01 _)) ⟨_, _, rfl, rfl, _, rfl, bI_01 _, fun _ h => by rcases h with h | h <;> first | exact absurd (e67_1.symm.trans h) (by decide) | exact absurd (e74_1.symm.trans h) (by decide) | exact absurd (e82_1.symm.trans h) (by decide) | exact absurd (e84_1.symm.trans h) (by decide) | exact absurd (e107_1.symm.trans h) (by decide)⟩
          · by_cases e84_1 : k = 84
            · refine E_lsw (off := 67) (tg := 68) fX9_isSecondNumber_1 (by rw [e84_1]; rfl) (by decide) ?_
              refine E_iload_n fX9_isSecondNumber_68 rfl ?_
              refine E_iconst (v := 1) fX9_isSecondNumber_69 (by decide) ?_
              refine E_sipush (v := 999) fX9_isSecondNumber_70 (by decide) ?_
              refine E_callS (t := []) (isBetween_ok (d := d + 1) b 1 999) fX9_isSecondNumber_73 (by decide) mX9_isBetween ⟨rfl, rfl⟩ rfl rfl (Nat.le_of_ble_eq_true rfl) ?_
              exact R_iret fX9_isSecondNumber_76 mX9_isSecondNumber (ret2 (bI_01 _)) ⟨_, _, rfl, rfl, _, rfl, bI_01 _, fun _ h => by rcases h with h | h <;> first | exact absurd (e67_1.symm.trans h) (by decide) | exact absurd (e74_1.symm.trans h) (by decide) | exact absurd (e82_1.symm.trans h) (by decide) | exact absurd (e84_1.symm.trans h) (by decide) | exact absurd (e107_1.symm.trans h) (by decide)⟩
            · by_cases e107_1 : k = 107
              · refine E_lsw (off := 76) (tg := 77) fX9_isSecondNumber_1 (by rw [e107_1]; rfl) (by decide) ?_
                refine E_iload_n fX9_isSecondNumber_77 rfl ?_
                refine E_sipush (v := (-999)) fX9_isSecondNumber_78 (by decide) ?_
                refine E_sipush (v := 999) fX9_isSecondNumber_81 (by decide) ?_
                refine E_callS (t := []) (isBetween_ok (d := d + 1) b (-999) 999) fX9_isSecondNumber_84 (by decide) mX9_isBetween ⟨rfl, rfl⟩ rfl rfl (Nat.le_of_ble_eq_true rfl) ?_
                exact R_iret fX9_isSecondNumber_87 mX9_isSecondNumber (ret2 (bI_01 _)) ⟨_, _, rfl, rfl, _, rfl, bI_01 _, fun _ h => by rcases h with h | h <;> first | exact absurd (e67_1.symm.trans h) (by decide) | exact absurd (e74_1.symm.trans h) (by decide) | exact absurd (e82_1.symm.trans h) (by decide) | exact absurd (e84_1.symm.trans h) (by decide) | exact absurd (e107_1.symm.trans h) (by decide)⟩
              · refine E_lsw (off := 100) (tg := 101) fX9_isSecondNumber_1 (by show Jvm.Op.lookupswitch.offset [(43, 87), (60, 87), (67, 67), (74, 92), (82, 67), (84, 67), (107, 76)] (100) _ = 100; rw [Jvm.Op.lookupswitch.offset_cons, if_neg (tI_ne (z := 43) e43_1 (by decide)), Jvm.Op.lookupswitch.offset_cons, if_neg (tI_ne (z := 60) e60_1 (by decide)), Jvm.Op.lookupswitch.offset_cons, if_neg (tI_ne (z := 67) e67_1 (by decide)), Jvm.Op.lookupswitch.offset_cons, if_neg (tI_ne (z := 74) e74_1 (by decide)), Jvm.Op.lookupswitch.offset_cons, if_neg (tI_ne (z := 82) e82_1 (by decide)), Jvm.Op.lookupswitch.offset_cons, if_neg (tI_ne (z := 84) e84_1 (by decide)), Jvm.Op.lookupswitch.offset_cons, if_neg (tI_ne (z := 107) e107_1 (by decide)), Jvm.Op.lookupswitch.offset_nil]) (by decide) ?_
                refine E_iconst (v := 1) fX9_isSecondNumber_101 (by decide) ?_
                exact R_iret fX9_isSecondNumber_102 mX9_isSecondNumber rfl ⟨_, _, rfl, rfl, _, rfl, Or.inr rfl, fun _ h => by rcases h with h | h <;> contradiction⟩
theorem hasRung_ok (hG : Core G) {n : Nat} (hn40 : n < 2 ^ 31) (hn : M.1 189 0 = nI n) (x : Int32) : ∃ v M', Ret G (d + 1) 18 [.ref 189, .int x] M v M' ∧ (M' = M ∧ ∃ z, v = some (.int z) ∧ (z = 0 ∨ z = 1) ∧ (¬ z = 0 → ∃ i, i < n ∧ x = nI i)) := by
  refine X_start (d := d + 0) (by decide) mX2_hasRung ?_
  show E _ _ _ (0, [some (.ref 189), some (.int x)], [], M, 0) _
  refine E_iload_n fX2_hasRung_0 rfl ?_
  refine E_iflt (tg := 16) fX2_hasRung_1 (by decide) (fun c_1 => ?_) (fun c_1 => ?_)
  · refine E_iconst (v := 0) fX2_hasRung_16 (by decide) ?_
    exact R_iret fX2_hasRung_17 mX2_hasRung rfl ⟨_, _, rfl, rfl, _, rfl, Or.inl rfl, fun h => absurd rfl h⟩
  · refine E_iload_n fX2_hasRung_4 rfl ?_
    refine E_aload_n fX2_hasRung_5 rfl (by decide) ?_
    refine E_getI fX2_hasRung_6 (k189 hG) (by decide) (by decide) (by decide) ?_
    refine E_icge (tg := 16) fX2_hasRung_9 (by decide) (fun c_9 => ?_) (fun c_9 => ?_)
    · refine E_iconst (v := 0) fX2_hasRung_16 (by decide) ?_
      exact R_iret fX2_hasRung_17 mX2_hasRung rfl ⟨_, _, rfl, rfl, _, rfl, Or.inl rfl, fun h => absurd rfl h⟩
    · refine E_iconst (v := 1) fX2_hasRung_12 (by decide) ?_
      refine E_goto (tg := 17) fX2_hasRung_13 (by decide) ?_
      exact R_iret fX2_hasRung_17 mX2_hasRung rfl ⟨_, _, rfl, rfl, _, rfl, Or.inr rfl, fun _ => by
  obtain ⟨i, hi, e⟩ := nI_of c_1
  refine ⟨i, ?_, e⟩
  have h2 := Int32.not_le.mp c_9
  rw [hn, e] at h2
  exact (nI_ltI hi hn40).mp h2⟩
theorem hasStep_ok (hG : Core G) {n : Nat} (hn40 : n < 2 ^ 31) (hn : M.1 189 1 = nI n) (x : Int32) : ∃ v M', Ret G (d + 1) 19 [.ref 189, .int x] M v M' ∧ (M' = M ∧ ∃ z, v = some (.int z) ∧ (z = 0 ∨ z = 1) ∧ (¬ z = 0 → ∃ i, i < n ∧ x = nI i)) := by
  refine X_start (d := d + 0) (by decide) mX2_hasStep ?_
  show E _ _ _ (0, [some (.ref 189), some (.int x)], [], M, 0) _
  refine E_iload_n fX2_hasStep_0 rfl ?_
  refine E_iflt (tg := 16) fX2_hasStep_1 (by decide) (fun c_1 => ?_) (fun c_1 => ?_)
  · refine E_iconst (v := 0) fX2_hasStep_16 (by decide) ?_
    exact R_iret fX2_hasStep_17 mX2_hasStep rfl ⟨_, _, rfl, rfl, _, rfl, Or.inl rfl, fun h => absurd rfl h⟩
  · refine E_iload_n fX2_hasStep_4 rfl ?_
    refine E_aload_n fX2_hasStep_5 rfl (by decide) ?_
    refine E_getI fX2_hasStep_6 (k189 hG) (by decide) (by decide) (by decide) ?_
    refine E_icge (tg := 16) fX2_hasStep_9 (by decide) (fun c_9 => ?_) (fun c_9 => ?_)
    · refine E_iconst (v := 0) fX2_hasStep_16 (by decide) ?_
      exact R_iret fX2_hasStep_17 mX2_hasStep rfl ⟨_, _, rfl, rfl, _, rfl, Or.inl rfl, fun h => absurd rfl h⟩
    · refine E_iconst (v := 1) fX2_hasStep_12 (by decide) ?_
      refine E_goto (tg := 17) fX2_hasStep_13 (by decide) ?_
      exact R_iret fX2_hasStep_17 mX2_hasStep rfl ⟨_, _, rfl, rfl, _, rfl, Or.inr rfl, fun _ => by
  obtain ⟨i, hi, e⟩ := nI_of c_1
  refine ⟨i, ?_, e⟩
  have h2 := Int32.not_le.mp c_9
  rw [hn, e] at h2
  exact (nI_ltI hi hn40).mp h2⟩
theorem hasStepOrNone_ok (hG : Core G) {n : Nat} (hn40 : n < 2 ^ 31) (hn : M.1 189 1 = nI n) (x : Int32) : ∃ v M', Ret G (d + 2) 20 [.ref 189, .int x] M v M' ∧ (M' = M ∧ ∃ z, v = some (.int z) ∧ (z = 0 ∨ z = 1) ∧ (¬ z = 0 → x = -1 ∨ ∃ i, i < n ∧ x = nI i)) := by
  refine X_start (d := d + 1) (by decide) mX2_hasStepOrNone ?_
  show E _ _ _ (0, [some (.ref 189), some (.int x)], [], M, 0) _
  refine E_iload_n fX2_hasStepOrNone_0 rfl ?_
  refine E_iconst (v := (-1)) fX2_hasStepOrNone_1 (by decide) ?_
  refine E_iceq (tg := 13) fX2_hasStepOrNone_2 (by decide) (fun c_2 => ?_) (fun c_2 => ?_)
  · refine E_iconst (v := 1) fX2_hasStepOrNone_13 (by decide) ?_
    refine E_goto (tg := 18) fX2_hasStepOrNone_14 (by decide) ?_
    exact R_iret fX2_hasStepOrNone_18 mX2_hasStepOrNone rfl ⟨_, _, rfl, rfl, _, rfl, Or.inr rfl, fun _ => by first | exact Or.inl c_2 | exact Or.inr (hx1 c_10)⟩
  · refine E_aload_n fX2_hasStepOrNone_5 rfl (by decide) ?_
    refine E_iload_n fX2_hasStepOrNone_6 rfl ?_
    obtain ⟨v1, M1, hR1, hM1, z1, rfl, hz1, hx1⟩ := hasStep_ok (d := d) hG hn40 hn x
    rw [hM1] at hR1
    refine E_callV (t := []) hR1 fX2_hasStepOrNone_7 mX2_hasStep (rc_obj (k189 hG) (by decide) (by decide)) ⟨by decide, rfl⟩ rfl rfl (Nat.le_of_ble_eq_true rfl) ?_
    refine E_ifeq (tg := 17) fX2_hasStepOrNone_10 (by decide) (fun c_10 => ?_) (fun c_10 => ?_)
    · refine E_iconst (v := 0) fX2_hasStepOrNone_17 (by decide) ?_
      exact R_iret fX2_hasStepOrNone_18 mX2_hasStepOrNone rfl ⟨_, _, rfl, rfl, _, rfl, Or.inl rfl, fun h => absurd rfl h⟩
    · refine E_iconst (v := 1) fX2_hasStepOrNone_13 (by decide) ?_
      refine E_goto (tg := 18) fX2_hasStepOrNone_14 (by decide) ?_
      exact R_iret fX2_hasStepOrNone_18 mX2_hasStepOrNone rfl ⟨_, _, rfl, rfl, _, rfl, Or.inr rfl, fun _ => by first | exact Or.inl c_2 | exact Or.inr (hx1 c_10)⟩
theorem rng8 {x : Int32} (h : 0 ≤ x ∧ x ≤ 7) : ∃ a, a < 8 ∧ x = nI a := by
  obtain ⟨j, hj, e⟩ := nI_of2 (n := 7) (M := 7) (by decide) (Int32.not_lt.mpr h.1) h.2
  exact ⟨j, by omega, e⟩
theorem rung_any (hG : Core G) {s ch : Nat} (hch : ch < 65536) (hD : DI M s) (tk a b : Int32) : Any G (d + 6) 36 [.ref 0, .int tk, .int (nI ch), .int a, .int b] M (fun M' => DI M' s ∧ Fr dfB M M') := by
  obtain ⟨n, t, h1, h2, h3, h4, h5, h6, h7, h8, h9⟩ := hD
  have hP0 : DI M s ∧ Fr dfB M M := ⟨⟨n, t, h1, h2, h3, h4, h5, h6, h7, h8, h9⟩, Fr.rf⟩
  refine Any_start (d := d + 5) (by decide) mX9_rung ?_
  show E _ _ _ (0, [some (.ref 0), some (.int tk), some (.int (nI ch)), some (.int a), some (.int b), none], [], M, 0) _
  refine E_iload_n fX9_rung_0 rfl ?_
  refine E_callS (t := []) (isTask_ok (d := d + 3) tk) fX9_rung_1 (by decide) mX9_isTask ⟨rfl, rfl⟩ rfl rfl (Nat.le_of_ble_eq_true rfl) ?_
  refine E_ifeq (tg := 20) fX9_rung_4 (by decide) (fun c_4 => ?_) (fun c_4 => ?_)
  · refine E_iconst (v := 0) fX9_rung_20 (by decide) ?_
    exact E_thrS (t := []) (require_no (d := d + 4)) fX9_rung_21 (by decide) mX9_require ⟨rfl, rfl⟩ rfl rfl (Nat.le_of_ble_eq_true rfl) (RA.thr (by decide) hP0)
  · refine E_ldcS fX9_rung_7 (by decide) ?_
    refine E_iload_n fX9_rung_9 rfl ?_
    obtain ⟨vx, Mx, hRx, hMx, xx, rfl⟩ := indexOf_0 (d := d + 1) (M := M) (nI ch)
    rw [hMx] at hRx
    refine E_callV (t := []) hRx fX9_rung_10 mJ0_indexOf_0f7a4 (rc_str ⟨by decide, by decide⟩) ⟨by decide, rfl⟩ rfl rfl (Nat.le_of_ble_eq_true rfl) ?_
    refine E_iflt (tg := 20) fX9_rung_13 (by decide) (fun c_13 => ?_) (fun c_13 => ?_)
    · refine E_iconst (v := 0) fX9_rung_20 (by decide) ?_
      exact E_thrS (t := []) (require_no (d := d + 4)) fX9_rung_21 (by decide) mX9_require ⟨rfl, rfl⟩ rfl rfl (Nat.le_of_ble_eq_true rfl) (RA.thr (by decide) hP0)
    · refine E_iconst (v := 1) fX9_rung_16 (by decide) ?_
      refine E_goto (tg := 21) fX9_rung_17 (by decide) ?_
      refine E_callS (t := []) (require_ok (d := d + 4) (z := 1) (by decide)) fX9_rung_21 (by decide) mX9_require ⟨rfl, rfl⟩ rfl rfl (Nat.le_of_ble_eq_true rfl) ?_
      refine E_iload_n fX9_rung_24 rfl ?_
      refine E_iload_n fX9_rung_25 rfl ?_
      obtain ⟨vz1, Mz1, hRz1, hMz1, z1, rfl, hz1, xz1⟩ := isFirst_ok (d := d + 2) (M := M) (nI ch) a
      rw [hMz1] at hRz1
      refine E_callS (t := []) hRz1 fX9_rung_26 (by decide) mX9_isFirstNumber ⟨rfl, rfl⟩ rfl rfl (Nat.le_of_ble_eq_true rfl) ?_
      refine E_ifeq (tg := 45) fX9_rung_29 (by decide) (fun c_29 => ?_) (fun c_29 => ?_)
      · refine E_iconst (v := 0) fX9_rung_45 (by decide) ?_
        exact E_thrS (t := []) (require_no (d := d + 4)) fX9_rung_46 (by decide) mX9_require ⟨rfl, rfl⟩ rfl rfl (Nat.le_of_ble_eq_true rfl) (RA.thr (by decide) hP0)
      · refine E_iload_n fX9_rung_32 rfl ?_
        refine E_iload fX9_rung_33 rfl ?_
        obtain ⟨vz2, Mz2, hRz2, hMz2, z2, rfl, hz2, xz2⟩ := isSecond_ok (d := d + 2) (M := M) (nI ch) b
        rw [hMz2] at hRz2
        refine E_callS (t := []) hRz2 fX9_rung_35 (by decide) mX9_isSecondNumber ⟨rfl, rfl⟩ rfl rfl (Nat.le_of_ble_eq_true rfl) ?_
        refine E_ifeq (tg := 45) fX9_rung_38 (by decide) (fun c_38 => ?_) (fun c_38 => ?_)
        · refine E_iconst (v := 0) fX9_rung_45 (by decide) ?_
          exact E_thrS (t := []) (require_no (d := d + 4)) fX9_rung_46 (by decide) mX9_require ⟨rfl, rfl⟩ rfl rfl (Nat.le_of_ble_eq_true rfl) (RA.thr (by decide) hP0)
        · refine E_iconst (v := 1) fX9_rung_41 (by decide) ?_
          refine E_goto (tg := 46) fX9_rung_42 (by decide) ?_
          refine E_callS (t := []) (require_ok (d := d + 4) (z := 1) (by decide)) fX9_rung_46 (by decide) mX9_require ⟨rfl, rfl⟩ rfl rfl (Nat.le_of_ble_eq_true rfl) ?_
          refine E_aload_n fX9_rung_49 rfl (by decide) ?_
          refine E_getR (r' := 189) fX9_rung_50 (k0 hG) (by decide) (by decide) (by decide) rfl ?_
          refine E_getI fX9_rung_53 (k189 hG) (by decide) (by decide) (by decide) ?_
          refine E_bipush (v := 40) fX9_rung_56 (by decide) ?_
          refine E_iclt (tg := 69) fX9_rung_58 (by decide) (fun c_58 => ?_) (fun c_58 => ?_)
          · have hi_n : n < 40 := by
              have := c_58
              rw [h2] at this
              exact (nI_ltI (b := 40) (by omega) (by decide)).mp this
            refine E_aload_n fX9_rung_69 rfl (by decide) ?_
            refine E_getR (r' := 189) fX9_rung_70 (k0 hG) (by decide) (by decide) (by decide) rfl ?_
            refine E_getR (r' := 190) fX9_rung_73 (k189 hG) (by decide) (by decide) (by decide) rfl ?_
            refine E_aload_n fX9_rung_76 rfl (by decide) ?_
            refine E_getR (r' := 189) fX9_rung_77 (k0 hG) (by decide) (by decide) (by decide) rfl ?_
            refine E_getI fX9_rung_80 (k189 hG) (by decide) (by decide) (by decide) ?_
            refine E_aald (n := n) (r' := 193 + 3 * n) (K := 28) fX9_rung_83 (k190 hG) ⟨by decide, by decide⟩ (by decide) h2 (by show n < 40; exact hi_n) (by show 190 + (3 + 3 * n) = 193 + 3 * n; omega) ?_
            refine E_astore (L' := [some (.ref 0), some (.int tk), some (.int (nI ch)), some (.int a), some (.int b), some (.ref (193 + 3 * n))]) fX9_rung_84 rfl (Nat.le_of_ble_eq_true rfl) (by have := (kdr0_lt hi_n); omega) ?_
            refine E_aload fX9_rung_86 rfl (by have := (kdr0_lt hi_n); omega) ?_
            refine E_iload_n fX9_rung_88 rfl ?_
            refine E_putI fX9_rung_89 (kdr0 hG hi_n) (kdr0_lt hi_n) rfl ?_
            refine E_aload fX9_rung_92 rfl (by have := (kdr0_lt hi_n); omega) ?_
            refine E_iload_n fX9_rung_94 rfl ?_
            refine E_putI fX9_rung_95 (kdr0 hG hi_n) (kdr0_lt hi_n) (fit2 hch) ?_
            refine E_aload fX9_rung_98 rfl (by have := (kdr0_lt hi_n); omega) ?_
            refine E_iload_n fX9_rung_100 rfl ?_
            refine E_putI fX9_rung_101 (kdr0 hG hi_n) (kdr0_lt hi_n) rfl ?_
            refine E_aload fX9_rung_104 rfl (by have := (kdr0_lt hi_n); omega) ?_
            refine E_iload fX9_rung_106 rfl ?_
            refine E_putI fX9_rung_108 (kdr0 hG hi_n) (kdr0_lt hi_n) rfl ?_
            refine E_aload fX9_rung_111 rfl (by have := (kdr0_lt hi_n); omega) ?_
            refine E_iconst (v := 0) fX9_rung_113 (by decide) ?_
            refine E_putI fX9_rung_114 (kdr0 hG hi_n) (kdr0_lt hi_n) rfl ?_
            generalize hM2 : (pI (pI (pI (pI (pI M (193 + 3 * n) 0 tk) (193 + 3 * n) 1 (nI ch)) (193 + 3 * n) 2 a) (193 + 3 * n) 3 b) (193 + 3 * n) 4 0) = M2
            have o2 : ∀ c s, c ≠ 193 + 3 * n → M2.1 c s = M.1 c s := fun c s hc => by rw [← hM2, pI_ne (Or.inl hc), pI_ne (Or.inl hc), pI_ne (Or.inl hc), pI_ne (Or.inl hc), pI_ne (Or.inl hc)]
            have l2 : ∀ c, M2.2 c = M.2 c := fun c => by rw [← hM2]; rfl
            have v4 : M2.1 (193 + 3 * n) 4 = 0 := by rw [← hM2]; exact pI_at
            have v3 : M2.1 (193 + 3 * n) 3 = b := by rw [← hM2, pI_ne (Or.inr (by decide)), pI_at]
            have v2 : M2.1 (193 + 3 * n) 2 = a := by rw [← hM2, pI_ne (Or.inr (by decide)), pI_ne (Or.inr (by decide)), pI_at]
            have v1 : M2.1 (193 + 3 * n) 1 = nI ch := by rw [← hM2, pI_ne (Or.inr (by decide)), pI_ne (Or.inr (by decide)), pI_ne (Or.inr (by decide)), pI_at]
            refine E_aload_n fX9_rung_117 rfl (by decide) ?_
            refine E_getR (r' := 189) fX9_rung_118 (k0 hG) (by decide) (by decide) (by decide) rfl ?_
            refine E_dup fX9_rung_121 rfl ?_
            refine E_getI fX9_rung_122 (k189 hG) (by decide) (by decide) (by decide) ?_
            refine E_iconst (v := 1) fX9_rung_125 (by decide) ?_
            refine E_iadd fX9_rung_126 ?_
            refine E_putI fX9_rung_127 (k189 hG) (by decide) rfl ?_
            refine E_aload_n fX9_rung_130 rfl (by decide) ?_
            refine E_getR (r' := 189) fX9_rung_131 (k0 hG) (by decide) (by decide) (by decide) rfl ?_
            refine E_getI fX9_rung_134 (k189 hG) (by decide) (by decide) (by decide) ?_
            refine E_iconst (v := 1) fX9_rung_137 (by decide) ?_
            refine E_isub fX9_rung_138 ?_
            refine R_iret fX9_rung_139 mX9_rung rfl (RA.ret ?_)
            have e0 : M2.1 189 0 + 1 = nI (n + 1) := by rw [o2 _ _ (by omega), h2, nI_1]
            rw [e0]
            have w : ∀ c s, c ≠ 193 + 3 * n → (c ≠ 189 ∨ s ≠ 0) → (pI M2 189 0 (nI (n + 1))).1 c s = M.1 c s := fun c s x y => (pI_ne y).trans (o2 c s x)
            have w2 : ∀ s, (pI M2 189 0 (nI (n + 1))).1 (193 + 3 * n) s = M2.1 (193 + 3 * n) s := fun s => pI_ne (by omega)
            refine ⟨⟨n + 1, t, by omega, pI_at, fun i hi => ?_, h4, (w _ _ (by omega) (by omega)).trans h5, h6, (w _ _ (by omega) (by omega)).trans h7, fun i hi => by rw [w _ _ (by omega) (by omega)]; exact h8 i hi, fun i hi => by rw [w _ _ (by omega) (by omega), w _ _ (by omega) (by omega)]; exact h9 i hi⟩, ?_⟩
            · by_cases e : i = n
              · subst e
                refine ⟨⟨fun hk => ?_, fun hk => ?_, 0, by omega, (w2 4).trans v4⟩, ch, hch, (w2 1).trans v1⟩
                · rw [w2, v1] at hk
                  rw [w2, v3]
                  exact rng8 (xz2 c_38 hk)
                · rw [w2, v1] at hk
                  rw [w2, v2]
                  exact rng8 (xz1 c_29 hk)
              · obtain ⟨r1, z, hz, r2⟩ := h3 i (by omega)
                exact ⟨r1.cg fun s => w _ _ (by omega) (by omega), z, hz, (w _ _ (by omega) (by omega)).trans r2⟩
            · refine Fr.pI ?_ rfl
              rw [← hM2]
              exact ((((Fr.rf.pI (dfB_in (by omega))).pI (dfB_in (by omega))).pI (dfB_in (by omega))).pI (dfB_in (by omega))).pI (dfB_in (by omega))
          · exact E_new fX9_rung_61 (by decide) (RA.thr (by decide) hP0)
end SP17
