section SP14
variable {G : MG} {d : Nat} {M : Mem}
/-- with a watch of one rung, each unit a scan of task 0 alone -/
def WD (M : Mem) (n s t nw : Nat) : Prop := RK M n ∧ CK M s t ∧ AI M ∧ AK M s ∧ M.1 0 10 = -1 ∧ M.1 408 1 = 1 ∧ M.1 408 0 = 1 ∧ M.1 409 0 = 0 ∧ M.1 0 7 = nI nw ∧ M.1 395 1 = 1 ∧ M.1 395 3 = 0 ∧ M.1 395 4 = 0
def Same (M M1 : Mem) : Prop := (∀ k, k < 8 → M1.1 378 k = M.1 378 k ∧ M1.1 379 k = M.1 379 k) ∧ M1.2 0 = M.2 0
theorem Same.tr {A B C : Mem} (h : Same A B) (h2 : Same B C) : Same A C := ⟨fun k hk => ⟨(h2.1 k hk).1.trans (h.1 k hk).1, (h2.1 k hk).2.trans (h.1 k hk).2⟩, h2.2.trans h.2⟩
theorem AI.fr8 {M M1 : Mem} (h : AI M) (e0 : M1.1 383 0 = M.1 383 0) (e4 : M1.1 383 4 = M.1 383 4) (e : ∀ s, s < 8 → M1.1 384 s = M.1 384 s ∧ M1.1 385 s = M.1 385 s) : AI M1 := by
  obtain ⟨n, h1, h2, h3, h4, h5, h6, h7⟩ := h
  have er : ∀ k, inR M1 n k ↔ inR M n k := fun k => ⟨fun ⟨j, a, b⟩ => ⟨j, a, (e j (by omega)).2.symm.trans b⟩, fun ⟨j, a, b⟩ => ⟨j, a, (e j (by omega)).2.trans b⟩⟩
  refine ⟨n, h1, e4.trans h2, fun j hj => ?_, fun i j a b => ?_, fun k hk => ?_, fun k hk a => ?_, fun k hk a b => ?_⟩
  · rw [(e j (by omega)).2]; exact h3 j hj
  · rw [(e i (by omega)).2, (e j (by omega)).2]; exact h4 i j a b
  · rw [(e k hk).1]; exact h5 k hk
  · rw [er]; exact h6 k hk (by rw [← (e k hk).1]; exact a)
  · rw [er]; exact h7 k hk (by rw [← e0]; exact a) (by rw [← (e k hk).1]; exact b)
/-- the frame of a scan that may be dropped: state, saved, plant, counts; the standby's copy and what it has -/
def sdB (c s : Nat) : Bool := (377 ≤ c && c < 395) || (396 ≤ c && c < 405) || (c == 395 && s == 2) || c == 405 || c == 406 || ((c == 408 || c == 409) && (s == 2 || s == 3)) || (c == 0 && (s == 99 || s == 12))
theorem sdB_low {c s : Nat} (h : 0 < c ∧ c < 377) : sdB c s = false := by
  unfold sdB
  simp only [Bool.or_eq_false_iff, Bool.and_eq_false_iff, beq_eq_false_iff_ne, decide_eq_false_iff_not]
  omega
theorem sdB_of (p : Nat → Nat → Bool) (c s : Nat) (h : sdB c s = false) (hp : p c s = true → sdB c s = true) : p c s = false := by
  by_cases e : p c s = true
  · rw [hp e] at h; cases h
  · exact Bool.not_eq_true _ ▸ e
theorem sd_sc (c s : Nat) (h : sdB c s = false) : p1B c s = false ∧ rgB c s = false ∧ chB c s = false ∧ plB c s = false := by
  have h2 : c ≠ 405 ∧ c ≠ 406 ∧ ¬ (377 ≤ c ∧ c < 395) := by
    unfold sdB at h
    simp only [Bool.or_eq_false_iff, Bool.and_eq_false_iff, beq_eq_false_iff_ne, decide_eq_false_iff_not] at h
    omega
  unfold p1B rgB rwB chB plB
  simp only [Bool.or_eq_false_iff, Bool.and_eq_false_iff, beq_eq_false_iff_ne]
  omega
theorem Cpd.sd {S X : Nat} {M M1 : Mem} (h : Cpd S X M M1) (hS : S = 377 ∨ S = 386 ∨ S = 396) : Fr sdB M M1 := ⟨fun c s hc => h.1 c s (by
    rintro ⟨off, a, rfl, -⟩
    unfold sdB at hc
    simp only [Bool.or_eq_false_iff, Bool.and_eq_false_iff, beq_eq_false_iff_ne, decide_eq_false_iff_not] at hc
    omega), fun c hc => h.2.2.1 c (by
    rintro rfl
    rcases hS with rfl | rfl | rfl <;> cases hc)⟩
def SV (M : Mem) : Prop := (∀ off s, off < 9 → slotOk off s → M.1 (386 + off) s = M.1 (377 + off) s) ∧ M.2 386 = M.2 377
theorem WD.sd {M M1 : Mem} {n s t nw : Nat} (h : WD M n s t nw) (hF : Fr sdB M M1) (hA : AI M1) (hK : AK M1 s) : WD M1 n s t nw := by
  obtain ⟨h1, h2, -, -, h5, h6, h7, h8, h9, h10, h11, h12⟩ := h
  exact ⟨h1.by hF fun c s a b => sdB_low ⟨a, b⟩, h2.by hF fun c s a b => sdB_low ⟨a, b⟩, hA, hK, (hF.1 _ _ rfl).trans h5, (hF.1 _ _ rfl).trans h6, (hF.1 _ _ rfl).trans h7, (hF.1 _ _ rfl).trans h8, (hF.1 _ _ rfl).trans h9, (hF.1 _ _ rfl).trans h10, (hF.1 _ _ rfl).trans h11, (hF.1 _ _ rfl).trans h12⟩
theorem countMissed_ok (hG : Core G) : ∃ v M', Ret G (d + 4) 92 [.ref 0, .int 0] M v M' ∧ (v = none ∧ ((3 ≤ M.1 377 2 + 1 ∧ ∃ M2, PFr (pI (pI M 408 3 (M.1 408 3 + 1)) 377 2 (M.1 377 2 + 1)) M2 ∧ M2.1 405 1 = 0 ∧ M' = pI M2 0 12 1) ∨ (¬ 3 ≤ M.1 377 2 + 1 ∧ M' = (pI (pI M 408 3 (M.1 408 3 + 1)) 377 2 (M.1 377 2 + 1))))) := by
  refine X_start (d := d + 3) (by decide) mX9_countMissed ?_
  show E _ _ _ (0, [some (.ref 0), some (.int 0)], [], M, 0) _
  refine E_aload_n fX9_countMissed_0 rfl (by decide) ?_
  refine E_getR (r' := 407) fX9_countMissed_1 (k0 hG) (by decide) (by decide) (by decide) rfl ?_
  refine E_iload_n fX9_countMissed_4 rfl ?_
  refine E_aald (n := 0) (r' := 408) (K := 31) fX9_countMissed_5 (k407 hG) ⟨by decide, by decide⟩ (by decide) rfl (by decide) rfl ?_
  refine E_dup fX9_countMissed_6 rfl ?_
  refine E_getI fX9_countMissed_7 (k408 hG) (by decide) (by decide) (by decide) ?_
  refine E_iconst (v := 1) fX9_countMissed_10 (by decide) ?_
  refine E_iadd fX9_countMissed_11 ?_
  refine E_putI fX9_countMissed_12 (k408 hG) (by decide) rfl ?_
  refine E_iload_n fX9_countMissed_15 rfl ?_
  refine E_ifne (tg := 47) fX9_countMissed_16 (by decide) (fun c => absurd c (by decide)) (fun c_16 => ?_)
  refine E_aload_n fX9_countMissed_19 rfl (by decide) ?_
  refine E_getR (r' := 377) fX9_countMissed_20 (k0 hG) (by decide) (by decide) (by decide) rfl ?_
  refine E_dup fX9_countMissed_23 rfl ?_
  refine E_getI fX9_countMissed_24 (k377 hG) (by decide) (by decide) (by decide) ?_
  refine E_iconst (v := 1) fX9_countMissed_27 (by decide) ?_
  refine E_iadd fX9_countMissed_28 ?_
  refine E_putI fX9_countMissed_29 (k377 hG) (by decide) rfl ?_
  refine E_aload_n fX9_countMissed_32 rfl (by decide) ?_
  refine E_getR (r' := 377) fX9_countMissed_33 (k0 hG) (by decide) (by decide) (by decide) rfl ?_
  refine E_getI fX9_countMissed_36 (k377 hG) (by decide) (by decide) (by decide) ?_
  refine E_iconst (v := 3) fX9_countMissed_39 (by decide) ?_
  refine E_iclt (tg := 47) fX9_countMissed_40 (by decide) (fun c_40 => ?_) (fun c_40 => ?_)
  · exact R_vret fX9_countMissed_47 mX9_countMissed rfl ⟨none, _, rfl, rfl, Or.inr ⟨fun z => absurd c_40 (Int32.not_lt.mpr z), rfl⟩⟩
  · refine E_aload_n fX9_countMissed_43 rfl (by decide) ?_
    obtain ⟨v1, M1, hR1, rfl, M2, hP, h0, rfl⟩ := stopAll_ok (d := d) (M := (pI (pI M 408 3 ((M.1 408 3) + 1)) 377 2 (((pI M 408 3 ((M.1 408 3) + 1)).1 377 2) + 1))) hG
    refine E_callV (t := []) hR1 fX9_countMissed_44 mX9_stopAll (rc_obj (k0 hG) (by decide) (by decide)) ⟨by decide, rfl⟩ rfl rfl (Nat.le_of_ble_eq_true rfl) ?_
    exact R_vret fX9_countMissed_47 mX9_countMissed rfl ⟨none, _, rfl, rfl, Or.inl ⟨Int32.not_lt.mp c_40, M2, hP, h0, rfl⟩⟩
theorem scanD_ok (hA : All G) {n s tr nw : Nat} (hW : WD M n s tr nw) (h12 : M.1 0 12 = 0) : ∃ v M', Ret G (d + 5) 91 [.ref 0, .int 0] M v M' ∧ (v = none ∧ Fr sdB M M' ∧ ((WD M' n s tr nw ∧ M'.1 0 12 = 0 ∧ M'.1 408 3 = M.1 408 3 ∧ M'.1 377 2 = 0) ∨ (Same M M' ∧ M'.1 408 3 = M.1 408 3 + 1 ∧ M'.1 377 2 = M.1 377 2 + 1 ∧ ((3 ≤ M.1 377 2 + 1 ∧ M'.1 0 12 = 1 ∧ M'.1 405 1 = 0) ∨ (¬ 3 ≤ M.1 377 2 + 1 ∧ WD M' n s tr nw ∧ M'.1 0 12 = 0))))) := by
  have hG := hA.core
  have rest : ∀ N, Fr sdB M N → WD N n s tr nw → Same M N → N.1 377 2 = M.1 377 2 → N.1 408 3 = M.1 408 3 → N.1 0 12 = 0 → (n ≤ 1 ∨ SV N) → E G (d + 4) 91 (76, [some (.ref 0), some (.int 0), none, none], [], N, 0) (fun r => ∃ v M', r = (.inl v, M', 0) ∧ (v = none ∧ Fr sdB M M' ∧ ((WD M' n s tr nw ∧ M'.1 0 12 = 0 ∧ M'.1 408 3 = M.1 408 3 ∧ M'.1 377 2 = 0) ∨ (Same M M' ∧ M'.1 408 3 = M.1 408 3 + 1 ∧ M'.1 377 2 = M.1 377 2 + 1 ∧ ((3 ≤ M.1 377 2 + 1 ∧ M'.1 0 12 = 1 ∧ M'.1 405 1 = 0) ∨ (¬ 3 ≤ M.1 377 2 + 1 ∧ WD M' n s tr nw ∧ M'.1 0 12 = 0)))))) := by
    intro N F0 W0 E0 e2 e3 e12 hsv
    obtain ⟨w1, w2, w3, w4, w5, w6, w7, w8, w9, w10, w11, w12⟩ := W0
    refine E_aload_n fX9_scanTask_76 rfl (by decide) ?_
    refine E_getI fX9_scanTask_77 (k0 hG) (by decide) (by decide) (by decide) ?_
    refine E_aload_n fX9_scanTask_80 rfl (by decide) ?_
    refine E_getR (r' := 377) fX9_scanTask_81 (k0 hG) (by decide) (by decide) (by decide) rfl ?_
    refine E_getR (r' := 382) fX9_scanTask_84 (k377 hG) (by decide) (by decide) (by decide) rfl ?_
    refine E_iload_n fX9_scanTask_87 rfl ?_
    refine E_iald (n := 0) (K := 23) fX9_scanTask_88 (k382 hG) ⟨by decide, by decide⟩ (by decide) rfl (by decide) ?_
    refine E_isub fX9_scanTask_89 ?_
    refine E_istore_n (L' := [some (.ref 0), some (.int 0), some (.int ((N.1 0 7) - (N.1 382 0))), none]) fX9_scanTask_90 rfl (Nat.le_of_ble_eq_true rfl) ?_
    refine E_aload_n fX9_scanTask_91 rfl (by decide) ?_
    refine E_iload_n fX9_scanTask_92 rfl ?_
    refine E_iload_n fX9_scanTask_93 rfl ?_
    obtain ⟨v4, M4, hD, q, hq, rfl, A4, G4⟩ := doRungs_ok (d := d) (M := N) hG w1 (t := 0) (by omega) w3 (N.1 0 7 - N.1 382 0)
    have F4 : Fr sdB M M4 := F0.tr (G4.mono fun c s h => (sd_sc c s h).2.1)
    have AK4 : AK M4 s := w4.by G4 rfl
    refine E_callV (t := []) hD fX9_scanTask_94 mX9_doRungs (rc_obj (k0 hG) (by decide) (by decide)) ⟨by decide, rfl⟩ rfl rfl (Nat.le_of_ble_eq_true rfl) ?_
    refine E_istore_n (L' := [some (.ref 0), some (.int 0), some (.int ((N.1 0 7) - (N.1 382 0))), some (.int (nI q))]) fX9_scanTask_97 rfl (Nat.le_of_ble_eq_true rfl) ?_
    refine E_iload_n fX9_scanTask_98 rfl ?_
    refine E_aload_n fX9_scanTask_99 rfl (by decide) ?_
    refine E_getR (r' := 407) fX9_scanTask_100 (k0 hG) (by decide) (by decide) (by decide) rfl ?_
    refine E_iload_n fX9_scanTask_103 rfl ?_
    refine E_aald (n := 0) (r' := 408) (K := 31) fX9_scanTask_104 (k407 hG) ⟨by decide, by decide⟩ (by decide) rfl (by decide) rfl ?_
    refine E_getI fX9_scanTask_105 (k408 hG) (by decide) (by decide) (by decide) ?_
    refine E_icle (tg := 128) fX9_scanTask_108 (by decide) (fun c_108 => ?_) (fun c_108 => ?_)
    · refine E_iload_n fX9_scanTask_128 rfl ?_
      refine E_ifne (tg := 137) fX9_scanTask_129 (by decide) (fun c => absurd c (by decide)) (fun c_129 => ?_)
      refine E_aload_n fX9_scanTask_132 rfl (by decide) ?_
      refine E_iload_n fX9_scanTask_133 rfl ?_
      obtain ⟨v5, M5, hCh, rfl, AK5, G5⟩ := runChart_ok (d := d + 1) (M := M4) hG (w2.by G4 fun c s a b => by unfold rgB rwB; simp only [Bool.or_eq_false_iff, Bool.and_eq_false_iff, beq_eq_false_iff_ne]; omega) AK4 (N.1 0 7 - N.1 382 0)
      have A5 : AI M5 := A4.by G5 fun c s hc => by rcases hc with rfl | rfl | rfl <;> rfl
      have F5 : Fr sdB M M5 := F4.tr (G5.mono fun c s h => (sd_sc c s h).2.2.1)
      refine E_callV (t := []) hCh fX9_scanTask_134 mX9_runChart (rc_obj (k0 hG) (by decide) (by decide)) ⟨by decide, rfl⟩ rfl rfl (Nat.le_of_ble_eq_true rfl) ?_
      refine E_aload_n fX9_scanTask_137 rfl (by decide) ?_
      refine E_getR (r' := 405) fX9_scanTask_138 (k0 hG) (by decide) (by decide) (by decide) rfl ?_
      refine E_aload_n fX9_scanTask_141 rfl (by decide) ?_
      refine E_callV (t := [.ref 405]) (readBits_ok (d := d + 3) hG) fX9_scanTask_142 mX9_readBits (rc_obj (k0 hG) (by decide) (by decide)) ⟨by decide, rfl⟩ rfl rfl (Nat.le_of_ble_eq_true rfl) ?_
      refine E_callS (t := [.ref 405]) (outputsOf_ok (d := d + 3) (rdB M5)) fX9_scanTask_145 (by decide) mX9_outputsOf ⟨rfl, rfl⟩ rfl rfl (Nat.le_of_ble_eq_true rfl) ?_
      obtain ⟨v6, M6, hGi, rfl, P6, -⟩ := giveAll_ok (d := d + 2) (M := M5) hG (outB (rdB M5))
      have G6 := P6.pl
      have F6 : Fr sdB M M6 := F5.tr (G6.mono fun c s h => (sd_sc c s h).2.2.2)
      have A6 : AI M6 := A5.by G6 fun c s hc => by rcases hc with rfl | rfl | rfl <;> rfl
      have AK6 := AK5.by G6 rfl
      have q12 : M6.1 0 12 = 0 := (G6.1 _ _ rfl).trans ((G5.1 _ _ rfl).trans ((G4.1 _ _ rfl).trans e12))
      have q3 : M6.1 408 3 = M.1 408 3 := (G6.1 _ _ rfl).trans ((G5.1 _ _ rfl).trans ((G4.1 _ _ rfl).trans e3))
      refine E_callV (t := []) hGi fX9_scanTask_148 mX1_giveAll (rc_obj (k405 hG) (by decide) (by decide)) ⟨by decide, rfl⟩ rfl rfl (Nat.le_of_ble_eq_true rfl) ?_
      refine E_aload_n fX9_scanTask_151 rfl (by decide) ?_
      refine E_getR (r' := 377) fX9_scanTask_152 (k0 hG) (by decide) (by decide) (by decide) rfl ?_
      refine E_getR (r' := 382) fX9_scanTask_155 (k377 hG) (by decide) (by decide) (by decide) rfl ?_
      refine E_iload_n fX9_scanTask_158 rfl ?_
      refine E_aload_n fX9_scanTask_159 rfl (by decide) ?_
      refine E_getI fX9_scanTask_160 (k0 hG) (by decide) (by decide) (by decide) ?_
      refine E_iast (n := 0) (K := 23) fX9_scanTask_163 (k382 hG) ⟨by decide, by decide⟩ (by decide) rfl (by decide) ?_
      refine E_aload_n fX9_scanTask_164 rfl (by decide) ?_
      refine E_getR (r' := 407) fX9_scanTask_165 (k0 hG) (by decide) (by decide) (by decide) rfl ?_
      refine E_iload_n fX9_scanTask_168 rfl ?_
      refine E_aald (n := 0) (r' := 408) (K := 31) fX9_scanTask_169 (k407 hG) ⟨by decide, by decide⟩ (by decide) rfl (by decide) rfl ?_
      refine E_dup fX9_scanTask_170 rfl ?_
      refine E_getI fX9_scanTask_171 (k408 hG) (by decide) (by decide) (by decide) ?_
      refine E_iconst (v := 1) fX9_scanTask_174 (by decide) ?_
      refine E_iadd fX9_scanTask_175 ?_
      refine E_putI fX9_scanTask_176 (k408 hG) (by decide) rfl ?_
      refine E_aload_n fX9_scanTask_179 rfl (by decide) ?_
      refine E_dup fX9_scanTask_180 rfl ?_
      refine E_getL fX9_scanTask_181 (k0 hG) (by decide) (by decide) (by decide) ?_
      refine E_iload_n fX9_scanTask_184 rfl ?_
      refine E_i2l fX9_scanTask_185 ?_
      refine E_ladd fX9_scanTask_186 ?_
      refine E_putL fX9_scanTask_187 (k0 hG) (by decide) (by decide) ?_
      refine E_iload_n fX9_scanTask_190 rfl ?_
      refine E_ifne (tg := 220) fX9_scanTask_191 (by decide) (fun c => absurd c (by decide)) (fun c_191 => ?_)
      refine E_aload_n fX9_scanTask_194 rfl (by decide) ?_
      refine E_getR (r' := 377) fX9_scanTask_195 (k0 hG) (by decide) (by decide) (by decide) rfl ?_
      refine E_iconst (v := 0) fX9_scanTask_198 (by decide) ?_
      refine E_putI fX9_scanTask_199 (k377 hG) (by decide) rfl ?_
      generalize hM7 : (pI (pL (pI (pI M6 382 0 (M6.1 0 7)) 408 2 (((pI M6 382 0 (M6.1 0 7)).1 408 2) + 1)) 0 (((pI (pI M6 382 0 (M6.1 0 7)) 408 2 (((pI M6 382 0 (M6.1 0 7)).1 408 2) + 1)).2 0) + (Int32.toInt64 (nI q)))) 377 2 0) = M7
      have F7 : Fr p2B M6 M7 := by
        rw [← hM7]
        repeat first | exact Fr.rf | refine Fr.pI ?_ rfl | refine Fr.pL ?_ rfl
      have q2 : M7.1 377 2 = 0 := by rw [← hM7]; exact pI_at
      have F8 : Fr sdB M M7 := F6.tr (F7.mono fun c s h => by
        unfold sdB at h
        unfold p2B
        simp only [Bool.or_eq_false_iff, Bool.and_eq_false_iff, beq_eq_false_iff_ne, decide_eq_false_iff_not] at h ⊢
        omega)
      have c3 : M7.1 395 3 = 0 := (F8.1 _ _ rfl).trans hW.2.2.2.2.2.2.2.2.2.2.1
      have c1 : M7.1 395 1 = 1 := (F8.1 _ _ rfl).trans hW.2.2.2.2.2.2.2.2.2.1
      refine E_aload_n fX9_scanTask_202 rfl (by decide) ?_
      refine E_getR (r' := 395) fX9_scanTask_203 (k0 hG) (by decide) (by decide) (by decide) rfl ?_
      refine E_callV (t := []) (endComing_no (d := d + 3) hA c3) fX9_scanTask_206 mX4_endComing (rc_obj (k395 hA) (by decide) (by decide)) ⟨by decide, rfl⟩ rfl rfl (Nat.le_of_ble_eq_true rfl) ?_
      refine E_aload_n fX9_scanTask_209 rfl (by decide) ?_
      refine E_getR (r' := 395) fX9_scanTask_210 (k0 hG) (by decide) (by decide) (by decide) rfl ?_
      refine E_aload_n fX9_scanTask_213 rfl (by decide) ?_
      refine E_getR (r' := 377) fX9_scanTask_214 (k0 hG) (by decide) (by decide) (by decide) rfl ?_
      obtain ⟨v8, M8, hFo, rfl, M9, hC, rfl⟩ := follow_yes (d := d + 1) (M := M7) hG hA c1
      have F9 : Fr sdB M (pI M9 395 2 1) := (F8.tr (hC.sd (by omega))).pI rfl
      have K9 : ∀ c s, ¬ (395 ≤ c ∧ c < 405) → (pI M9 395 2 1).1 c s = M7.1 c s := fun c s hc => (pI_ne (by omega)).trans (hC.1 c s (by rintro ⟨off, a, b, -⟩; omega))
      refine E_callV (t := []) hFo fX9_scanTask_217 mX4_follow (rc_obj (k395 hA) (by decide) (by decide)) ⟨by decide, rfl⟩ rfl rfl (Nat.le_of_ble_eq_true rfl) ?_
      refine R_vret fX9_scanTask_220 mX9_scanTask rfl ?_
      refine ⟨none, _, rfl, rfl, F9, Or.inl ⟨hW.sd F9 (A6.fr fun c s hc => ?_) ((AK6.by F7 rfl).eq (K9 _ _ (by decide))), ?_, ?_, (K9 _ _ (by decide)).trans q2⟩⟩
      · exact (K9 c s (by omega)).trans (F7.1 c s (by rcases hc with rfl | rfl | rfl <;> rfl))
      · exact (K9 _ _ (by decide)).trans ((F7.1 _ _ rfl).trans q12)
      · exact (K9 _ _ (by decide)).trans ((F7.1 _ _ rfl).trans q3)
    · refine E_aload_n fX9_scanTask_111 rfl (by decide) ?_
      refine E_getR (r' := 377) fX9_scanTask_112 (k0 hG) (by decide) (by decide) (by decide) rfl ?_
      refine E_aload_n fX9_scanTask_115 rfl (by decide) ?_
      refine E_getR (r' := 386) fX9_scanTask_116 (k0 hG) (by decide) (by decide) (by decide) rfl ?_
      obtain ⟨v5, M5, hCp, rfl, hC⟩ := stCopy_377_386 (d := d + 2) (M := M4) hG
      have hsv : SV N := by
        rcases hsv with z | z
        · exact absurd (show nI q ≤ M4.1 408 1 by rw [G4.1 408 1 rfl, w6]; exact nI_le (b := 1) (by omega) (by decide)) c_108
        · exact z
      have S5 : ∀ off s, off < 9 → slotOk off s → M5.1 (377 + off) s = N.1 (377 + off) s := fun off s a b => by
        rw [hC.2.1 off s a b, G4.1 _ _ (rgB_of (by omega)), hsv.1 off s a b]
      have S5l : M5.2 0 = N.2 0 := (hC.2.2.1 0 (by decide)).trans (G4.2 0 rfl)
      have S5o : ∀ c s, ¬ (377 ≤ c ∧ c < 386) → M5.1 c s = M4.1 c s := fun c s hc => hC.1 c s (by rintro ⟨off, a, b, -⟩; omega)
      have F5 : Fr sdB M M5 := F4.tr (hC.sd (by omega))
      have A5 : AI M5 := w3.fr8 (S5 6 0 (by decide) (by unfold slotOk; omega)) (S5 6 4 (by decide) (by unfold slotOk; omega)) fun s hs => ⟨S5 7 s (by decide) (by unfold slotOk; omega), S5 8 s (by decide) (by unfold slotOk; omega)⟩
      have AK5 : AK M5 s := w4.eq (S5 0 1 (by decide) (by unfold slotOk; omega))
      have E5 : Same M M5 := E0.tr ⟨fun k hk => ⟨S5 1 k (by decide) (by unfold slotOk; omega), S5 2 k (by decide) (by unfold slotOk; omega)⟩, S5l⟩
      have q2 : M5.1 377 2 = M.1 377 2 := (S5 0 2 (by decide) (by unfold slotOk; omega)).trans e2
      have q3 : M5.1 408 3 = M.1 408 3 := (S5o _ _ (by decide)).trans ((G4.1 _ _ rfl).trans e3)
      have q12 : M5.1 0 12 = 0 := (S5o _ _ (by decide)).trans ((G4.1 _ _ rfl).trans e12)
      refine E_callV (t := []) hCp fX9_scanTask_119 mX5_copyFrom (rc_obj (k377 hG) (by decide) (by decide)) ⟨by decide, rfl⟩ rfl rfl (Nat.le_of_ble_eq_true rfl) ?_
      refine E_aload_n fX9_scanTask_122 rfl (by decide) ?_
      refine E_iload_n fX9_scanTask_123 rfl ?_
      obtain ⟨v6, M6, hCm, rfl, hO⟩ := countMissed_ok (d := d) (M := M5) hG
      rw [q2, q3] at hO
      refine E_callV (t := []) hCm fX9_scanTask_124 mX9_countMissed (rc_obj (k0 hG) (by decide) (by decide)) ⟨by decide, rfl⟩ rfl rfl (Nat.le_of_ble_eq_true rfl) ?_
      refine R_vret fX9_scanTask_127 mX9_scanTask rfl ?_
      obtain ⟨MM, hMM⟩ : ∃ MM, MM = pI (pI M5 408 3 (M.1 408 3 + 1)) 377 2 (M.1 377 2 + 1) := ⟨_, rfl⟩
      have FM : Fr sdB M MM := by rw [hMM]; exact (F5.pI rfl).pI rfl
      have oM : ∀ c s, (c ≠ 377 ∨ s ≠ 2) → (c ≠ 408 ∨ s ≠ 3) → MM.1 c s = M5.1 c s := fun c s a b => by rw [hMM, pI_ne a, pI_ne b]
      have lM : ∀ c, MM.2 c = M5.2 c := fun c => by rw [hMM]; rfl
      have m2 : MM.1 377 2 = M.1 377 2 + 1 := by rw [hMM]; exact pI_at
      have m3 : MM.1 408 3 = M.1 408 3 + 1 := by rw [hMM, pI_ne (Or.inl (by decide))]; exact pI_at
      have sM : Same M MM := E5.tr ⟨fun k hk => ⟨oM _ _ (Or.inl (by decide)) (Or.inl (by decide)), oM _ _ (Or.inl (by decide)) (Or.inl (by decide))⟩, lM 0⟩
      rw [← hMM] at hO
      rcases hO with ⟨g3, M2, hP, h0, rfl⟩ | ⟨g3, rfl⟩
      · have PP := hP.pl
        have FF : Fr sdB M (pI M2 0 12 1) := (FM.tr (PP.mono fun c s h => (sd_sc c s h).2.2.2)).pI rfl
        refine ⟨none, _, rfl, rfl, FF, Or.inr ⟨sM.tr ⟨fun k hk => ⟨?_, ?_⟩, ?_⟩, ?_, ?_, Or.inl ⟨g3, pI_at, (pI_ne (Or.inl (by decide))).trans h0⟩⟩⟩
        · exact (pI_ne (Or.inl (by decide))).trans (PP.1 _ _ rfl)
        · exact (pI_ne (Or.inl (by decide))).trans (PP.1 _ _ rfl)
        · exact PP.2 0 rfl
        · exact (pI_ne (Or.inl (by decide))).trans ((PP.1 _ _ rfl).trans m3)
        · exact (pI_ne (Or.inl (by decide))).trans ((PP.1 _ _ rfl).trans m2)
      · refine ⟨none, _, rfl, rfl, FM, Or.inr ⟨sM, m3, m2, Or.inr ⟨g3, hW.sd FM (A5.fr fun c s hc => oM c s (by omega) (by omega)) (AK5.eq (oM _ _ (by decide) (by decide))), (oM _ _ (by decide) (by decide)).trans q12⟩⟩⟩
  refine X_start (d := d + 4) (by decide) mX9_scanTask ?_
  show E _ _ _ (0, [some (.ref 0), some (.int 0), none, none], [], M, 0) _
  refine E_aload_n fX9_scanTask_0 rfl (by decide) ?_
  refine E_getR (r' := 377) fX9_scanTask_1 (k0 hG) (by decide) (by decide) (by decide) rfl ?_
  refine E_aload_n fX9_scanTask_4 rfl (by decide) ?_
  refine E_getR (r' := 405) fX9_scanTask_5 (k0 hG) (by decide) (by decide) (by decide) rfl ?_
  refine E_aload_n fX9_scanTask_8 rfl (by decide) ?_
  refine E_getR (r' := 377) fX9_scanTask_9 (k0 hG) (by decide) (by decide) (by decide) rfl ?_
  refine E_getI fX9_scanTask_12 (k377 hG) (by decide) (by decide) (by decide) ?_
  obtain ⟨v1, N1, hL, hN1, x1, rfl⟩ := localInputs_ok (d := d + 3) (M := M) hG (M.1 377 0)
  rw [hN1] at hL
  refine E_callV (t := [.ref 377]) hL fX9_scanTask_15 mX1_localInputs (rc_obj (k405 hG) (by decide) (by decide)) ⟨by decide, rfl⟩ rfl rfl (Nat.le_of_ble_eq_true rfl) ?_
  refine E_putI fX9_scanTask_18 (k377 hG) (by decide) rfl ?_
  refine E_iload_n fX9_scanTask_21 rfl ?_
  refine E_ifne (tg := 46) fX9_scanTask_22 (by decide) (fun c => absurd c (by decide)) (fun c_22 => ?_)
  refine E_aload_n fX9_scanTask_25 rfl (by decide) ?_
  refine E_getR (r' := 377) fX9_scanTask_26 (k0 hG) (by decide) (by decide) (by decide) rfl ?_
  refine E_aload_n fX9_scanTask_29 rfl (by decide) ?_
  refine E_getR (r' := 405) fX9_scanTask_30 (k0 hG) (by decide) (by decide) (by decide) rfl ?_
  refine E_aload_n fX9_scanTask_33 rfl (by decide) ?_
  refine E_getR (r' := 377) fX9_scanTask_34 (k0 hG) (by decide) (by decide) (by decide) rfl ?_
  refine E_getI fX9_scanTask_37 (k377 hG) (by decide) (by decide) (by decide) ?_
  obtain ⟨v2, M2, hS, q1, q2, x2, rfl⟩ := stationInputs_ok (d := d + 3) (M := (pI M 377 0 x1)) hG ((pI M 377 0 x1).1 377 0)
  refine E_callV (t := [.ref 377]) hS fX9_scanTask_40 mX1_stationInputs (rc_obj (k405 hG) (by decide) (by decide)) ⟨by decide, rfl⟩ rfl rfl (Nat.le_of_ble_eq_true rfl) ?_
  refine E_putI fX9_scanTask_43 (k377 hG) (by decide) rfl ?_
  generalize hM3 : (pI M2 377 0 x2) = M3
  have G3 : Fr p1B M M3 := by
    rw [← hM3]
    refine Fr.pI ?_ rfl
    refine ⟨fun c s e => ?_, fun c _ => q2 c⟩
    unfold p1B at e
    simp only [Bool.or_eq_false_iff, Bool.and_eq_false_iff, beq_eq_false_iff_ne] at e
    rw [q1 c s (by omega), pI_ne (by omega)]
  have F3 : Fr sdB M M3 := G3.mono fun c s h => (sd_sc c s h).1
  have A3 : AI M3 := hW.2.2.1.by G3 fun c s hc => by rcases hc with rfl | rfl | rfl <;> rfl
  have AK3 : AK M3 s := hW.2.2.2.1.by G3 rfl
  have W3 := hW.sd F3 A3 AK3
  have E3 : Same M M3 := ⟨fun k hk => ⟨G3.1 _ _ rfl, G3.1 _ _ rfl⟩, G3.2 0 rfl⟩
  refine E_aload_n fX9_scanTask_46 rfl (by decide) ?_
  refine E_getR (r' := 1) fX9_scanTask_47 (k0 hG) (by decide) (by decide) (by decide) rfl ?_
  refine E_getI fX9_scanTask_50 (k1 hG) (by decide) (by decide) (by decide) ?_
  refine E_aload_n fX9_scanTask_53 rfl (by decide) ?_
  refine E_getR (r' := 407) fX9_scanTask_54 (k0 hG) (by decide) (by decide) (by decide) rfl ?_
  refine E_iload_n fX9_scanTask_57 rfl ?_
  refine E_aald (n := 0) (r' := 408) (K := 31) fX9_scanTask_58 (k407 hG) ⟨by decide, by decide⟩ (by decide) rfl (by decide) rfl ?_
  refine E_getI fX9_scanTask_59 (k408 hG) (by decide) (by decide) (by decide) ?_
  refine E_icle (tg := 76) fX9_scanTask_62 (by decide) (fun c_62 => ?_) (fun c_62 => ?_)
  · refine rest M3 F3 W3 E3 (G3.1 _ _ rfl) (G3.1 _ _ rfl) ((G3.1 _ _ rfl).trans h12) (Or.inl ?_)
    have hn : nI n ≤ nI 1 := by
      have := c_62
      rw [W3.1.2.1, W3.2.2.2.2.2.1] at this
      exact this
    exact (nI_leI (by have := W3.1.1; omega) (by decide)).mp hn
  · refine E_aload_n fX9_scanTask_65 rfl (by decide) ?_
    refine E_getR (r' := 386) fX9_scanTask_66 (k0 hG) (by decide) (by decide) (by decide) rfl ?_
    refine E_aload_n fX9_scanTask_69 rfl (by decide) ?_
    refine E_getR (r' := 377) fX9_scanTask_70 (k0 hG) (by decide) (by decide) (by decide) rfl ?_
    obtain ⟨v5, M5, hCp, rfl, hC⟩ := stCopy_386_377 (d := d + 2) (M := M3) hG
    have o5 : ∀ c s, ¬ (386 ≤ c ∧ c < 395) → M5.1 c s = M3.1 c s := fun c s hc => hC.1 c s (by rintro ⟨off, a, b, -⟩; omega)
    have F5 : Fr sdB M M5 := F3.tr (hC.sd (by omega))
    refine E_callV (t := []) hCp fX9_scanTask_73 mX5_copyFrom (rc_obj (k386 hG) (by decide) (by decide)) ⟨by decide, rfl⟩ rfl rfl (Nat.le_of_ble_eq_true rfl) ?_
    exact rest M5 F5 (hW.sd F5 (A3.fr fun c s hc => o5 c s (by omega)) (AK3.eq (o5 _ _ (by decide)))) (E3.tr ⟨fun k hk => ⟨o5 _ _ (by omega), o5 _ _ (by omega)⟩, hC.2.2.1 0 (by decide)⟩) ((o5 _ _ (by decide)).trans (G3.1 _ _ rfl)) ((o5 _ _ (by decide)).trans (G3.1 _ _ rfl)) ((o5 _ _ (by decide)).trans ((G3.1 _ _ rfl).trans h12)) (Or.inr ⟨fun off s a b => (hC.2.1 off s a b).trans (o5 _ _ (by omega)).symm, hC.2.2.2.trans (hC.2.2.1 _ (by decide)).symm⟩)
end SP14
