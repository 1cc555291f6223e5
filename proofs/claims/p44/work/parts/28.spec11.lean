section SP11
variable {G : MG} {d : Nat} {M : Mem}
/-- what a scan changes -/
def scB (c s : Nat) : Bool := (377 ≤ c && c < 386) || c == 405 || c == 406 || ((c == 408 || c == 409) && s == 2) || (c == 0 && s == 99)
def p1B (c s : Nat) : Bool := (c == 377 && s == 0) || (c == 405 && (s == 3 || s == 4))
def plB (c s : Nat) : Bool := c == 406 || (c == 405 && s == 1)
def p2B (c s : Nat) : Bool := c == 382 || ((c == 408 || c == 409) && s == 2) || (c == 0 && s == 99) || (c == 377 && s == 2)
theorem scB_low {c s : Nat} (h : 0 < c ∧ c < 377) : scB c s = false := by
  unfold scB
  simp only [Bool.or_eq_false_iff, Bool.and_eq_false_iff, beq_eq_false_iff_ne, decide_eq_false_iff_not]
  omega
theorem scB_p1 (c s : Nat) (h : scB c s = false) : p1B c s = false := by
  unfold scB at h
  unfold p1B
  simp only [Bool.or_eq_false_iff, Bool.and_eq_false_iff, beq_eq_false_iff_ne, decide_eq_false_iff_not] at h ⊢
  omega
theorem scB_pl (c s : Nat) (h : scB c s = false) : plB c s = false := by
  unfold scB at h
  unfold plB
  simp only [Bool.or_eq_false_iff, Bool.and_eq_false_iff, beq_eq_false_iff_ne, decide_eq_false_iff_not] at h ⊢
  omega
theorem scB_p2 (c s : Nat) (h : scB c s = false) : p2B c s = false := by
  unfold scB at h
  unfold p2B
  simp only [Bool.or_eq_false_iff, Bool.and_eq_false_iff, beq_eq_false_iff_ne, decide_eq_false_iff_not] at h ⊢
  omega
theorem scB_rg (c s : Nat) (h : scB c s = false) : rgB c s = false := by
  unfold scB at h
  unfold rgB rwB
  simp only [Bool.or_eq_false_iff, Bool.and_eq_false_iff, beq_eq_false_iff_ne, decide_eq_false_iff_not] at h ⊢
  omega
theorem scB_ch (c s : Nat) (h : scB c s = false) : chB c s = false := by
  unfold scB at h
  unfold chB
  simp only [Bool.or_eq_false_iff, Bool.and_eq_false_iff, beq_eq_false_iff_ne, decide_eq_false_iff_not] at h ⊢
  omega
theorem PFr.pl {M M1 : Mem} (h : PFr M M1) : Fr plB M M1 := ⟨fun c s e => by
  unfold plB at e
  simp only [Bool.or_eq_false_iff, Bool.and_eq_false_iff, beq_eq_false_iff_ne] at e
  exact h.1 c s e.1 e.2, fun c _ => h.2 c⟩
theorem AI.by {p : Nat → Nat → Bool} {M M1 : Mem} (h : AI M) (hF : Fr p M M1) (h3 : ∀ c s, c = 383 ∨ c = 384 ∨ c = 385 → p c s = false) : AI M1 := h.fr fun c s hc => hF.1 c s (h3 c s hc)
theorem AK.by {p : Nat → Nat → Bool} {M M1 : Mem} {s : Nat} (h : AK M s) (hF : Fr p M M1) (h3 : p 377 1 = false) : AK M1 s := h.eq (hF.1 _ _ h3)
theorem RK.by {p : Nat → Nat → Bool} {M M1 : Mem} {n : Nat} (h : RK M n) (hF : Fr p M M1) (hp : ∀ c s, 0 < c → c < 377 → p c s = false) : RK M1 n := ⟨h.1, (hF.1 1 0 (hp _ _ (by omega) (by omega))).trans h.2.1, fun i hi => (h.2.2 i hi).cg fun s => hF.1 _ s (hp _ _ (by omega) (by have := h.1; omega))⟩
theorem CK.by {p : Nat → Nat → Bool} {M M1 : Mem} {s t : Nat} (h : CK M s t) (hF : Fr p M M1) (hp : ∀ c s, 0 < c → c < 377 → p c s = false) : CK M1 s t := by
  obtain ⟨h1, h2, h3, h4, h5, h6⟩ := h
  exact ⟨h1, (hF.1 _ _ (hp _ _ (by omega) (by omega))).trans h2, h3, (hF.1 _ _ (hp _ _ (by omega) (by omega))).trans h4, fun i hi => by rw [hF.1 _ _ (hp _ _ (by omega) (by omega))]; exact h5 i hi, fun i hi k hk hb => by rw [hF.1 _ _ (hp _ _ (by omega) (by omega))] at hb; exact h6 i hi k hk hb⟩
/-- the controller between two calls: rungs, steps, transitions, units -/
def WS (M : Mem) (n s t nw : Nat) : Prop := RK M n ∧ CK M s t ∧ AI M ∧ AK M s ∧ M.1 0 10 = -1 ∧ M.1 0 12 = 0 ∧ M.1 408 1 = 40 ∧ M.1 409 1 = 40 ∧ M.1 377 2 = 0 ∧ M.1 408 3 = 0 ∧ M.1 0 7 = nI nw
theorem WS.sc {M M1 : Mem} {n s t nw : Nat} (h : WS M n s t nw) (hF : Fr scB M M1) (hA : AI M1) (hK : AK M1 s) (hm : M1.1 377 2 = 0) : WS M1 n s t nw := by
  obtain ⟨h1, h2, -, -, h5, h6, h7, h8, -, h10, h11⟩ := h
  exact ⟨h1.by hF fun c s a b => scB_low ⟨a, b⟩, h2.by hF fun c s a b => scB_low ⟨a, b⟩, hA, hK, (hF.1 _ _ rfl).trans h5, (hF.1 _ _ rfl).trans h6, (hF.1 _ _ rfl).trans h7, (hF.1 _ _ rfl).trans h8, hm, (hF.1 _ _ rfl).trans h10, (hF.1 _ _ rfl).trans h11⟩
/-- the copy at 396 in U is the state of M -/
def CpS (M U : Mem) : Prop := (∀ off s, off < 9 → slotOk off s → U.1 (396 + off) s = M.1 (377 + off) s) ∧ U.2 396 = M.2 377
theorem le40 {n : Nat} (h : n ≤ 40) : nI n ≤ 40 := by
  have := nI_ge (a := n) (b := 41) (by omega) (by decide)
  rw [show (40 : Int32) = nI 40 from rfl]
  by_cases e : n = 40
  · rw [e]; exact Int32.le_refl _
  · exact Int32.le_of_lt (Int32.not_le.mp (nI_ge (by omega) (by omega)))
theorem noComing {U : Mem} (h : U.1 395 3 = 0) (hA : All G) : Ret G (d + 1) 27 [.ref 395] (mx M U) none (mx M U) := endComing_no hA ((mx_in (by omega)).trans h)
theorem follow_mx (hA : All G) {U : Mem} (h0 : U.1 395 1 = 0 ∨ U.1 395 1 = 1) : ∃ U', (∀ s, s ≠ 2 → U'.1 395 s = U.1 395 s) ∧ (U.1 395 1 = 1 → U'.1 395 2 = 1 ∧ CpS M U') ∧ Ret G (d + 3) 26 [.ref 395, .ref 377] (mx M U) none (mx M U') := by
  rcases h0 with h0 | h0
  · exact ⟨U, fun _ _ => rfl, fun e => absurd (h0.symm.trans e) (by decide), follow_no (d := d + 2) hA ((mx_in (by omega)).trans h0)⟩
  · obtain ⟨v, M', hR, rfl, M1, hC, rfl⟩ := follow_yes (d := d) (M := mx M U) hA.core hA ((mx_in (by omega)).trans h0)
    obtain ⟨c1, c2, c3, c4⟩ := hC
    have hl : ∀ c s, ¬ (395 ≤ c ∧ c < 405) → M1.1 c s = M.1 c s := fun c s hc => (c1 c s (by rintro ⟨off, a, b, -⟩; omega)).trans (mx_out hc)
    have e : mx M (pI M1 395 2 1) = pI M1 395 2 1 := by
      refine (mx_ext (fun c s hc => ?_) (fun c hc => ?_) (fun _ _ _ => rfl) (fun _ _ => rfl)).symm
      · rw [pI_ne (by omega)]; exact hl c s hc
      · exact (c3 c (by omega)).trans (mx_outL hc)
    refine ⟨pI M1 395 2 1, fun s hs => ?_, fun _ => ⟨pI_at, fun off s ho hs => ?_, ?_⟩, by rw [e]; exact hR⟩
    · rw [pI_ne (Or.inr hs), c1 _ _ (by rintro ⟨off, a, b, -⟩; omega)]
      exact mx_in (by omega)
    · rw [pI_ne (by omega), c2 off s ho hs, mx_out (by omega)]
    · exact c4.trans (mx_outL (by omega))
theorem scan0_ok (hA : All G) {n s tr nw : Nat} (hW : WS M n s tr nw) : ∃ Mc, WS Mc n s tr nw ∧ Fr scB M Mc ∧ ∀ U, U.1 395 3 = 0 → (U.1 395 1 = 0 ∨ U.1 395 1 = 1) → ∃ U', (∀ s, s ≠ 2 → U'.1 395 s = U.1 395 s) ∧ (U.1 395 1 = 1 → U'.1 395 2 = 1 ∧ CpS Mc U') ∧ Ret G (d + 5) 91 [.ref 0, .int 0] (mx M U) none (mx Mc U') := by
  have hG := hA.core
  have hC := gc_core hA.core
  obtain ⟨w1, w2, w3, w4, w5, w6, w7, w8, w9, w10, w11⟩ := hW
  obtain ⟨v1, N1, hL, hN1, x1, rfl⟩ := localInputs_ok (d := d + 3) (M := M) hC (M.1 377 0)
  rw [hN1] at hL
  have G1 : Fr p1B M (pI M 377 0 x1) := Fr.rf.pI rfl
  obtain ⟨M1, hM1⟩ : ∃ M1, M1 = pI M 377 0 x1 := ⟨_, rfl⟩
  rw [← hM1] at G1
  obtain ⟨v2, M2, hS, q1, q2, x2, rfl⟩ := stationInputs_ok (d := d + 3) (M := M1) hC (M1.1 377 0)
  have G2 : Fr p1B M1 M2 := ⟨fun c s e => q1 c s (by unfold p1B at e; simp only [Bool.or_eq_false_iff, Bool.and_eq_false_iff, beq_eq_false_iff_ne] at e; omega), fun c _ => q2 c⟩
  obtain ⟨M3, hM3⟩ : ∃ M3, M3 = pI M2 377 0 x2 := ⟨_, rfl⟩
  have G3 : Fr p1B M M3 := by rw [hM3]; exact (G1.tr G2).pI rfl
  have K3 := w1.by (G3.mono scB_p1) fun c s a b => scB_low ⟨a, b⟩
  obtain ⟨v4, M4, hD, q, hq, rfl, A4, G4⟩ := doRungs_ok (d := d) (M := M3) hC K3 (t := 0) (by omega) (w3.by G3 fun c s hc => by rcases hc with rfl | rfl | rfl <;> rfl) (M3.1 0 7 - M3.1 382 0)
  have S4 : Fr scB M M4 := (G3.mono scB_p1).tr (G4.mono scB_rg)
  have AK4 : AK M4 s := (w4.by G3 rfl).by G4 rfl
  have C4 := w2.by S4 fun c s a b => scB_low ⟨a, b⟩
  have Z4 : M4.1 377 2 = 0 := (G4.1 _ _ rfl).trans ((G3.1 _ _ rfl).trans w9)
  obtain ⟨v5, M5, hCh, rfl, AK5, G5⟩ := runChart_ok (d := d + 1) (M := M4) hC C4 AK4 (M3.1 0 7 - M3.1 382 0)
  have A5 : AI M5 := A4.by G5 fun c s hc => by rcases hc with rfl | rfl | rfl <;> rfl
  have S5 := S4.tr (G5.mono scB_ch)
  have Z5 : M5.1 377 2 = 0 := (G5.1 _ _ rfl).trans Z4
  obtain ⟨v6, M6, hGi, rfl, P6, -⟩ := giveAll_ok (d := d + 2) (M := M5) hC (outB (rdB M5))
  have G6 := P6.pl
  have S6 := S5.tr (G6.mono scB_pl)
  have A6 : AI M6 := A5.by G6 fun c s hc => by rcases hc with rfl | rfl | rfl <;> rfl
  have AK6 := AK5.by G6 rfl
  have Z6 : M6.1 377 2 = 0 := (G6.1 _ _ rfl).trans Z5
  have S7 : Fr scB M (pI (pL (pI (pI M6 382 0 (M6.1 0 7)) 408 2 (((pI M6 382 0 (M6.1 0 7)).1 408 2) + 1)) 0 (((pI (pI M6 382 0 (M6.1 0 7)) 408 2 (((pI M6 382 0 (M6.1 0 7)).1 408 2) + 1)).2 0) + (Int32.toInt64 (nI q)))) 377 2 0) := by
    repeat first | exact S6 | refine Fr.pI ?_ rfl | refine Fr.pL ?_ rfl
  have G7 : Fr p2B M6 (pI (pL (pI (pI M6 382 0 (M6.1 0 7)) 408 2 (((pI M6 382 0 (M6.1 0 7)).1 408 2) + 1)) 0 (((pI (pI M6 382 0 (M6.1 0 7)) 408 2 (((pI M6 382 0 (M6.1 0 7)).1 408 2) + 1)).2 0) + (Int32.toInt64 (nI q)))) 377 2 0) := by
    repeat first | exact Fr.rf | refine Fr.pI ?_ rfl | refine Fr.pL ?_ rfl
  refine ⟨(pI (pL (pI (pI M6 382 0 (M6.1 0 7)) 408 2 (((pI M6 382 0 (M6.1 0 7)).1 408 2) + 1)) 0 (((pI (pI M6 382 0 (M6.1 0 7)) 408 2 (((pI M6 382 0 (M6.1 0 7)).1 408 2) + 1)).2 0) + (Int32.toInt64 (nI q)))) 377 2 0), WS.sc ⟨w1, w2, w3, w4, w5, w6, w7, w8, w9, w10, w11⟩ S7 (A6.by G7 fun c s hc => by rcases hc with rfl | rfl | rfl <;> rfl) (AK6.by G7 rfl) pI_at, S7, fun U hU3 hU1 => ?_⟩
  obtain ⟨U', u1, u2, hFo⟩ := follow_mx (d := d + 1) (M := (pI (pL (pI (pI M6 382 0 (M6.1 0 7)) 408 2 (((pI M6 382 0 (M6.1 0 7)).1 408 2) + 1)) 0 (((pI (pI M6 382 0 (M6.1 0 7)) 408 2 (((pI M6 382 0 (M6.1 0 7)).1 408 2) + 1)).2 0) + (Int32.toInt64 (nI q)))) 377 2 0)) hA hU1
  refine ⟨U', u1, u2, ?_⟩
  refine R_start (d := d + 4) (by decide) mX9_scanTask ?_
  show E _ _ _ (0, [some (.ref 0), some (.int 0), none, none], [], mx M U, 0) _
  refine E_aload_n fX9_scanTask_0 rfl (by decide) ?_
  refine E_getR (r' := 377) fX9_scanTask_1 (k0 hG) (by decide) (by decide) (by decide) rfl ?_
  refine E_aload_n fX9_scanTask_4 rfl (by decide) ?_
  refine E_getR (r' := 405) fX9_scanTask_5 (k0 hG) (by decide) (by decide) (by decide) rfl ?_
  refine E_aload_n fX9_scanTask_8 rfl (by decide) ?_
  refine E_getR (r' := 377) fX9_scanTask_9 (k0 hG) (by decide) (by decide) (by decide) rfl ?_
  refine E_getI fX9_scanTask_12 (k377 hG) (by decide) (by decide) (by decide) ?_
  refine E_callV (t := [.ref 377]) (hL.mx U) fX9_scanTask_15 mX1_localInputs (rc_obj (k405 hG) (by decide) (by decide)) ⟨by decide, rfl⟩ rfl rfl (Nat.le_of_ble_eq_true rfl) ?_
  refine E_putI fX9_scanTask_18 (k377 hG) (by decide) rfl ?_
  rw [mx_pI (r := 377) (by decide)]
  rw [← hM1]
  refine E_iload_n fX9_scanTask_21 rfl ?_
  refine E_ifne (tg := 46) fX9_scanTask_22 (by decide) (fun c => absurd c (by decide)) (fun c_22 => ?_)
  refine E_aload_n fX9_scanTask_25 rfl (by decide) ?_
  refine E_getR (r' := 377) fX9_scanTask_26 (k0 hG) (by decide) (by decide) (by decide) rfl ?_
  refine E_aload_n fX9_scanTask_29 rfl (by decide) ?_
  refine E_getR (r' := 405) fX9_scanTask_30 (k0 hG) (by decide) (by decide) (by decide) rfl ?_
  refine E_aload_n fX9_scanTask_33 rfl (by decide) ?_
  refine E_getR (r' := 377) fX9_scanTask_34 (k0 hG) (by decide) (by decide) (by decide) rfl ?_
  refine E_getI fX9_scanTask_37 (k377 hG) (by decide) (by decide) (by decide) ?_
  refine E_callV (t := [.ref 377]) (hS.mx U) fX9_scanTask_40 mX1_stationInputs (rc_obj (k405 hG) (by decide) (by decide)) ⟨by decide, rfl⟩ rfl rfl (Nat.le_of_ble_eq_true rfl) ?_
  refine E_putI fX9_scanTask_43 (k377 hG) (by decide) rfl ?_
  rw [mx_pI (r := 377) (by decide)]
  rw [← hM3]
  refine E_aload_n fX9_scanTask_46 rfl (by decide) ?_
  refine E_getR (r' := 1) fX9_scanTask_47 (k0 hG) (by decide) (by decide) (by decide) rfl ?_
  refine E_getI fX9_scanTask_50 (k1 hG) (by decide) (by decide) (by decide) ?_
  refine E_aload_n fX9_scanTask_53 rfl (by decide) ?_
  refine E_getR (r' := 407) fX9_scanTask_54 (k0 hG) (by decide) (by decide) (by decide) rfl ?_
  refine E_iload_n fX9_scanTask_57 rfl ?_
  refine E_aald (n := 0) (r' := 408) (K := 31) fX9_scanTask_58 (k407 hG) ⟨by decide, by decide⟩ (by decide) rfl (by decide) rfl ?_
  refine E_getI fX9_scanTask_59 (k408 hG) (by decide) (by decide) (by decide) ?_
  refine E_icle (tg := 76) fX9_scanTask_62 (by decide) (fun c_62 => ?_) (fun c => absurd (by show M3.1 1 0 ≤ M3.1 408 1; rw [K3.2.1, G3.1 408 1 rfl, w7]; exact le40 K3.1) c)
  refine E_aload_n fX9_scanTask_76 rfl (by decide) ?_
  refine E_getI fX9_scanTask_77 (k0 hG) (by decide) (by decide) (by decide) ?_
  refine E_aload_n fX9_scanTask_80 rfl (by decide) ?_
  refine E_getR (r' := 377) fX9_scanTask_81 (k0 hG) (by decide) (by decide) (by decide) rfl ?_
  refine E_getR (r' := 382) fX9_scanTask_84 (k377 hG) (by decide) (by decide) (by decide) rfl ?_
  refine E_iload_n fX9_scanTask_87 rfl ?_
  refine E_iald (n := 0) (K := 23) fX9_scanTask_88 (k382 hG) ⟨by decide, by decide⟩ (by decide) rfl (by decide) ?_
  refine E_isub fX9_scanTask_89 ?_
  refine E_istore_n (L' := [some (.ref 0), some (.int 0), some (.int ((M3.1 0 7) - (M3.1 382 0))), none]) fX9_scanTask_90 rfl (Nat.le_of_ble_eq_true rfl) ?_
  refine E_aload_n fX9_scanTask_91 rfl (by decide) ?_
  refine E_iload_n fX9_scanTask_92 rfl ?_
  refine E_iload_n fX9_scanTask_93 rfl ?_
  refine E_callV (t := []) (hD.mx U) fX9_scanTask_94 mX9_doRungs (rc_obj (k0 hG) (by decide) (by decide)) ⟨by decide, rfl⟩ rfl rfl (Nat.le_of_ble_eq_true rfl) ?_
  refine E_istore_n (L' := [some (.ref 0), some (.int 0), some (.int ((M3.1 0 7) - (M3.1 382 0))), some (.int (nI q))]) fX9_scanTask_97 rfl (Nat.le_of_ble_eq_true rfl) ?_
  refine E_iload_n fX9_scanTask_98 rfl ?_
  refine E_aload_n fX9_scanTask_99 rfl (by decide) ?_
  refine E_getR (r' := 407) fX9_scanTask_100 (k0 hG) (by decide) (by decide) (by decide) rfl ?_
  refine E_iload_n fX9_scanTask_103 rfl ?_
  refine E_aald (n := 0) (r' := 408) (K := 31) fX9_scanTask_104 (k407 hG) ⟨by decide, by decide⟩ (by decide) rfl (by decide) rfl ?_
  refine E_getI fX9_scanTask_105 (k408 hG) (by decide) (by decide) (by decide) ?_
  refine E_icle (tg := 128) fX9_scanTask_108 (by decide) (fun c_108 => ?_) (fun c => absurd (by show nI q ≤ M4.1 408 1; rw [S4.1 408 1 rfl, w7]; exact le40 (by have := K3.1; omega)) c)
  refine E_iload_n fX9_scanTask_128 rfl ?_
  refine E_ifne (tg := 137) fX9_scanTask_129 (by decide) (fun c => absurd c (by decide)) (fun c_129 => ?_)
  refine E_aload_n fX9_scanTask_132 rfl (by decide) ?_
  refine E_iload_n fX9_scanTask_133 rfl ?_
  refine E_callV (t := []) (hCh.mx U) fX9_scanTask_134 mX9_runChart (rc_obj (k0 hG) (by decide) (by decide)) ⟨by decide, rfl⟩ rfl rfl (Nat.le_of_ble_eq_true rfl) ?_
  refine E_aload_n fX9_scanTask_137 rfl (by decide) ?_
  refine E_getR (r' := 405) fX9_scanTask_138 (k0 hG) (by decide) (by decide) (by decide) rfl ?_
  refine E_aload_n fX9_scanTask_141 rfl (by decide) ?_
  refine E_callV (t := [.ref 405]) (readBits_ok (d := d + 3) hA.core) fX9_scanTask_142 mX9_readBits (rc_obj (k0 hG) (by decide) (by decide)) ⟨by decide, rfl⟩ rfl rfl (Nat.le_of_ble_eq_true rfl) ?_
  refine E_callS (t := [.ref 405]) (outputsOf_ok (d := d + 3) (rdB M5)) fX9_scanTask_145 (by decide) mX9_outputsOf ⟨rfl, rfl⟩ rfl rfl (Nat.le_of_ble_eq_true rfl) ?_
  refine E_callV (t := []) (hGi.mx U) fX9_scanTask_148 mX1_giveAll (rc_obj (k405 hG) (by decide) (by decide)) ⟨by decide, rfl⟩ rfl rfl (Nat.le_of_ble_eq_true rfl) ?_
  refine E_aload_n fX9_scanTask_151 rfl (by decide) ?_
  refine E_getR (r' := 377) fX9_scanTask_152 (k0 hG) (by decide) (by decide) (by decide) rfl ?_
  refine E_getR (r' := 382) fX9_scanTask_155 (k377 hG) (by decide) (by decide) (by decide) rfl ?_
  refine E_iload_n fX9_scanTask_158 rfl ?_
  refine E_aload_n fX9_scanTask_159 rfl (by decide) ?_
  refine E_getI fX9_scanTask_160 (k0 hG) (by decide) (by decide) (by decide) ?_
  refine E_iast (n := 0) (K := 23) fX9_scanTask_163 (k382 hG) ⟨by decide, by decide⟩ (by decide) rfl (by decide) ?_
  rw [mx_pI (r := 382) (by decide)]
  refine E_aload_n fX9_scanTask_164 rfl (by decide) ?_
  refine E_getR (r' := 407) fX9_scanTask_165 (k0 hG) (by decide) (by decide) (by decide) rfl ?_
  refine E_iload_n fX9_scanTask_168 rfl ?_
  refine E_aald (n := 0) (r' := 408) (K := 31) fX9_scanTask_169 (k407 hG) ⟨by decide, by decide⟩ (by decide) rfl (by decide) rfl ?_
  refine E_dup fX9_scanTask_170 rfl ?_
  refine E_getI fX9_scanTask_171 (k408 hG) (by decide) (by decide) (by decide) ?_
  refine E_iconst (v := 1) fX9_scanTask_174 (by decide) ?_
  refine E_iadd fX9_scanTask_175 ?_
  refine E_putI fX9_scanTask_176 (k408 hG) (by decide) rfl ?_
  rw [mx_pI (r := 408) (by decide)]
  refine E_aload_n fX9_scanTask_179 rfl (by decide) ?_
  refine E_dup fX9_scanTask_180 rfl ?_
  refine E_getL fX9_scanTask_181 (k0 hG) (by decide) (by decide) (by decide) ?_
  refine E_iload_n fX9_scanTask_184 rfl ?_
  refine E_i2l fX9_scanTask_185 ?_
  refine E_ladd fX9_scanTask_186 ?_
  refine E_putL fX9_scanTask_187 (k0 hG) (by decide) (by decide) ?_
  rw [mx_pL (r := 0) (by decide)]
  refine E_iload_n fX9_scanTask_190 rfl ?_
  refine E_ifne (tg := 220) fX9_scanTask_191 (by decide) (fun c => absurd c (by decide)) (fun c_191 => ?_)
  refine E_aload_n fX9_scanTask_194 rfl (by decide) ?_
  refine E_getR (r' := 377) fX9_scanTask_195 (k0 hG) (by decide) (by decide) (by decide) rfl ?_
  refine E_iconst (v := 0) fX9_scanTask_198 (by decide) ?_
  refine E_putI fX9_scanTask_199 (k377 hG) (by decide) rfl ?_
  rw [mx_pI (r := 377) (by decide)]
  refine E_aload_n fX9_scanTask_202 rfl (by decide) ?_
  refine E_getR (r' := 395) fX9_scanTask_203 (k0 hG) (by decide) (by decide) (by decide) rfl ?_
  refine E_callV (t := []) (noComing (d := d + 3) hU3 hA) fX9_scanTask_206 mX4_endComing (rc_obj (k395 hA) (by decide) (by decide)) ⟨by decide, rfl⟩ rfl rfl (Nat.le_of_ble_eq_true rfl) ?_
  refine E_aload_n fX9_scanTask_209 rfl (by decide) ?_
  refine E_getR (r' := 395) fX9_scanTask_210 (k0 hG) (by decide) (by decide) (by decide) rfl ?_
  refine E_aload_n fX9_scanTask_213 rfl (by decide) ?_
  refine E_getR (r' := 377) fX9_scanTask_214 (k0 hG) (by decide) (by decide) (by decide) rfl ?_
  refine E_callV (t := []) hFo fX9_scanTask_217 mX4_follow (rc_obj (k395 hA) (by decide) (by decide)) ⟨by decide, rfl⟩ rfl rfl (Nat.le_of_ble_eq_true rfl) ?_
  exact R_vret fX9_scanTask_220 mX9_scanTask rfl rfl
theorem scan1_ok (hA : All G) {n s tr nw : Nat} (hW : WS M n s tr nw) : ∃ Mc, WS Mc n s tr nw ∧ Fr scB M Mc ∧ ∀ U, U.1 395 3 = 0 → (U.1 395 1 = 0 ∨ U.1 395 1 = 1) → ∃ U', (∀ s, s ≠ 2 → U'.1 395 s = U.1 395 s) ∧ Ret G (d + 5) 91 [.ref 0, .int 1] (mx M U) none (mx Mc U') := by
  have hG := hA.core
  have hC := gc_core hA.core
  obtain ⟨w1, w2, w3, w4, w5, w6, w7, w8, w9, w10, w11⟩ := hW
  obtain ⟨v1, N1, hL, hN1, x1, rfl⟩ := localInputs_ok (d := d + 3) (M := M) hC (M.1 377 0)
  rw [hN1] at hL
  have G1 : Fr p1B M (pI M 377 0 x1) := Fr.rf.pI rfl
  obtain ⟨M1, hM1⟩ : ∃ M1, M1 = pI M 377 0 x1 := ⟨_, rfl⟩
  rw [← hM1] at G1
  obtain ⟨M3, hM3⟩ : ∃ M3, M3 = M1 := ⟨_, rfl⟩
  have G3 : Fr p1B M M3 := by rw [hM3]; exact G1
  have K3 := w1.by (G3.mono scB_p1) fun c s a b => scB_low ⟨a, b⟩
  obtain ⟨v4, M4, hD, q, hq, rfl, A4, G4⟩ := doRungs_ok (d := d) (M := M3) hC K3 (t := 1) (by omega) (w3.by G3 fun c s hc => by rcases hc with rfl | rfl | rfl <;> rfl) (M3.1 0 7 - M3.1 382 1)
  have S4 : Fr scB M M4 := (G3.mono scB_p1).tr (G4.mono scB_rg)
  have AK4 : AK M4 s := (w4.by G3 rfl).by G4 rfl
  have C4 := w2.by S4 fun c s a b => scB_low ⟨a, b⟩
  have Z4 : M4.1 377 2 = 0 := (G4.1 _ _ rfl).trans ((G3.1 _ _ rfl).trans w9)
  obtain ⟨M5, hM5⟩ : ∃ M5, M5 = M4 := ⟨_, rfl⟩
  have S5 : Fr scB M M5 := by rw [hM5]; exact S4
  have A5 : AI M5 := by rw [hM5]; exact A4
  have AK5 : AK M5 s := by rw [hM5]; exact AK4
  have Z5 : M5.1 377 2 = 0 := by rw [hM5]; exact Z4
  obtain ⟨v6, M6, hGi, rfl, P6, -⟩ := giveAll_ok (d := d + 2) (M := M5) hC (outB (rdB M5))
  have G6 := P6.pl
  have S6 := S5.tr (G6.mono scB_pl)
  have A6 : AI M6 := A5.by G6 fun c s hc => by rcases hc with rfl | rfl | rfl <;> rfl
  have AK6 := AK5.by G6 rfl
  have Z6 : M6.1 377 2 = 0 := (G6.1 _ _ rfl).trans Z5
  have S7 : Fr scB M (pL (pI (pI M6 382 1 (M6.1 0 7)) 409 2 (((pI M6 382 1 (M6.1 0 7)).1 409 2) + 1)) 0 (((pI (pI M6 382 1 (M6.1 0 7)) 409 2 (((pI M6 382 1 (M6.1 0 7)).1 409 2) + 1)).2 0) + (Int32.toInt64 (nI q)))) := by
    repeat first | exact S6 | refine Fr.pI ?_ rfl | refine Fr.pL ?_ rfl
  have G7 : Fr p2B M6 (pL (pI (pI M6 382 1 (M6.1 0 7)) 409 2 (((pI M6 382 1 (M6.1 0 7)).1 409 2) + 1)) 0 (((pI (pI M6 382 1 (M6.1 0 7)) 409 2 (((pI M6 382 1 (M6.1 0 7)).1 409 2) + 1)).2 0) + (Int32.toInt64 (nI q)))) := by
    repeat first | exact Fr.rf | refine Fr.pI ?_ rfl | refine Fr.pL ?_ rfl
  refine ⟨(pL (pI (pI M6 382 1 (M6.1 0 7)) 409 2 (((pI M6 382 1 (M6.1 0 7)).1 409 2) + 1)) 0 (((pI (pI M6 382 1 (M6.1 0 7)) 409 2 (((pI M6 382 1 (M6.1 0 7)).1 409 2) + 1)).2 0) + (Int32.toInt64 (nI q)))), WS.sc ⟨w1, w2, w3, w4, w5, w6, w7, w8, w9, w10, w11⟩ S7 (A6.by G7 fun c s hc => by rcases hc with rfl | rfl | rfl <;> rfl) (AK6.by G7 rfl) (by show M6.1 377 2 = 0; exact Z6), S7, fun U hU3 hU1 => ?_⟩
  refine ⟨U, fun _ _ => rfl, ?_⟩
  refine R_start (d := d + 4) (by decide) mX9_scanTask ?_
  show E _ _ _ (0, [some (.ref 0), some (.int 1), none, none], [], mx M U, 0) _
  refine E_aload_n fX9_scanTask_0 rfl (by decide) ?_
  refine E_getR (r' := 377) fX9_scanTask_1 (k0 hG) (by decide) (by decide) (by decide) rfl ?_
  refine E_aload_n fX9_scanTask_4 rfl (by decide) ?_
  refine E_getR (r' := 405) fX9_scanTask_5 (k0 hG) (by decide) (by decide) (by decide) rfl ?_
  refine E_aload_n fX9_scanTask_8 rfl (by decide) ?_
  refine E_getR (r' := 377) fX9_scanTask_9 (k0 hG) (by decide) (by decide) (by decide) rfl ?_
  refine E_getI fX9_scanTask_12 (k377 hG) (by decide) (by decide) (by decide) ?_
  refine E_callV (t := [.ref 377]) (hL.mx U) fX9_scanTask_15 mX1_localInputs (rc_obj (k405 hG) (by decide) (by decide)) ⟨by decide, rfl⟩ rfl rfl (Nat.le_of_ble_eq_true rfl) ?_
  refine E_putI fX9_scanTask_18 (k377 hG) (by decide) rfl ?_
  rw [mx_pI (r := 377) (by decide)]
  rw [← hM1, ← hM3]
  refine E_iload_n fX9_scanTask_21 rfl ?_
  refine E_ifne (tg := 46) fX9_scanTask_22 (by decide) (fun c_22 => ?_) (fun c => absurd c (by decide))
  refine E_aload_n fX9_scanTask_46 rfl (by decide) ?_
  refine E_getR (r' := 1) fX9_scanTask_47 (k0 hG) (by decide) (by decide) (by decide) rfl ?_
  refine E_getI fX9_scanTask_50 (k1 hG) (by decide) (by decide) (by decide) ?_
  refine E_aload_n fX9_scanTask_53 rfl (by decide) ?_
  refine E_getR (r' := 407) fX9_scanTask_54 (k0 hG) (by decide) (by decide) (by decide) rfl ?_
  refine E_iload_n fX9_scanTask_57 rfl ?_
  refine E_aald (n := 1) (r' := 409) (K := 31) fX9_scanTask_58 (k407 hG) ⟨by decide, by decide⟩ (by decide) rfl (by decide) rfl ?_
  refine E_getI fX9_scanTask_59 (k409 hG) (by decide) (by decide) (by decide) ?_
  refine E_icle (tg := 76) fX9_scanTask_62 (by decide) (fun c_62 => ?_) (fun c => absurd (by show M3.1 1 0 ≤ M3.1 409 1; rw [K3.2.1, G3.1 409 1 rfl, w8]; exact le40 K3.1) c)
  refine E_aload_n fX9_scanTask_76 rfl (by decide) ?_
  refine E_getI fX9_scanTask_77 (k0 hG) (by decide) (by decide) (by decide) ?_
  refine E_aload_n fX9_scanTask_80 rfl (by decide) ?_
  refine E_getR (r' := 377) fX9_scanTask_81 (k0 hG) (by decide) (by decide) (by decide) rfl ?_
  refine E_getR (r' := 382) fX9_scanTask_84 (k377 hG) (by decide) (by decide) (by decide) rfl ?_
  refine E_iload_n fX9_scanTask_87 rfl ?_
  refine E_iald (n := 1) (K := 23) fX9_scanTask_88 (k382 hG) ⟨by decide, by decide⟩ (by decide) rfl (by decide) ?_
  refine E_isub fX9_scanTask_89 ?_
  refine E_istore_n (L' := [some (.ref 0), some (.int 1), some (.int ((M3.1 0 7) - (M3.1 382 1))), none]) fX9_scanTask_90 rfl (Nat.le_of_ble_eq_true rfl) ?_
  refine E_aload_n fX9_scanTask_91 rfl (by decide) ?_
  refine E_iload_n fX9_scanTask_92 rfl ?_
  refine E_iload_n fX9_scanTask_93 rfl ?_
  refine E_callV (t := []) (hD.mx U) fX9_scanTask_94 mX9_doRungs (rc_obj (k0 hG) (by decide) (by decide)) ⟨by decide, rfl⟩ rfl rfl (Nat.le_of_ble_eq_true rfl) ?_
  refine E_istore_n (L' := [some (.ref 0), some (.int 1), some (.int ((M3.1 0 7) - (M3.1 382 1))), some (.int (nI q))]) fX9_scanTask_97 rfl (Nat.le_of_ble_eq_true rfl) ?_
  refine E_iload_n fX9_scanTask_98 rfl ?_
  refine E_aload_n fX9_scanTask_99 rfl (by decide) ?_
  refine E_getR (r' := 407) fX9_scanTask_100 (k0 hG) (by decide) (by decide) (by decide) rfl ?_
  refine E_iload_n fX9_scanTask_103 rfl ?_
  refine E_aald (n := 1) (r' := 409) (K := 31) fX9_scanTask_104 (k407 hG) ⟨by decide, by decide⟩ (by decide) rfl (by decide) rfl ?_
  refine E_getI fX9_scanTask_105 (k409 hG) (by decide) (by decide) (by decide) ?_
  refine E_icle (tg := 128) fX9_scanTask_108 (by decide) (fun c_108 => ?_) (fun c => absurd (by show nI q ≤ M4.1 409 1; rw [S4.1 409 1 rfl, w8]; exact le40 (by have := K3.1; omega)) c)
  refine E_iload_n fX9_scanTask_128 rfl ?_
  refine E_ifne (tg := 137) fX9_scanTask_129 (by decide) (fun c_129 => ?_) (fun c => absurd c (by decide))
  rw [← hM5]
  refine E_aload_n fX9_scanTask_137 rfl (by decide) ?_
  refine E_getR (r' := 405) fX9_scanTask_138 (k0 hG) (by decide) (by decide) (by decide) rfl ?_
  refine E_aload_n fX9_scanTask_141 rfl (by decide) ?_
  refine E_callV (t := [.ref 405]) (readBits_ok (d := d + 3) hA.core) fX9_scanTask_142 mX9_readBits (rc_obj (k0 hG) (by decide) (by decide)) ⟨by decide, rfl⟩ rfl rfl (Nat.le_of_ble_eq_true rfl) ?_
  refine E_callS (t := [.ref 405]) (outputsOf_ok (d := d + 3) (rdB M5)) fX9_scanTask_145 (by decide) mX9_outputsOf ⟨rfl, rfl⟩ rfl rfl (Nat.le_of_ble_eq_true rfl) ?_
  refine E_callV (t := []) (hGi.mx U) fX9_scanTask_148 mX1_giveAll (rc_obj (k405 hG) (by decide) (by decide)) ⟨by decide, rfl⟩ rfl rfl (Nat.le_of_ble_eq_true rfl) ?_
  refine E_aload_n fX9_scanTask_151 rfl (by decide) ?_
  refine E_getR (r' := 377) fX9_scanTask_152 (k0 hG) (by decide) (by decide) (by decide) rfl ?_
  refine E_getR (r' := 382) fX9_scanTask_155 (k377 hG) (by decide) (by decide) (by decide) rfl ?_
  refine E_iload_n fX9_scanTask_158 rfl ?_
  refine E_aload_n fX9_scanTask_159 rfl (by decide) ?_
  refine E_getI fX9_scanTask_160 (k0 hG) (by decide) (by decide) (by decide) ?_
  refine E_iast (n := 1) (K := 23) fX9_scanTask_163 (k382 hG) ⟨by decide, by decide⟩ (by decide) rfl (by decide) ?_
  rw [mx_pI (r := 382) (by decide)]
  refine E_aload_n fX9_scanTask_164 rfl (by decide) ?_
  refine E_getR (r' := 407) fX9_scanTask_165 (k0 hG) (by decide) (by decide) (by decide) rfl ?_
  refine E_iload_n fX9_scanTask_168 rfl ?_
  refine E_aald (n := 1) (r' := 409) (K := 31) fX9_scanTask_169 (k407 hG) ⟨by decide, by decide⟩ (by decide) rfl (by decide) rfl ?_
  refine E_dup fX9_scanTask_170 rfl ?_
  refine E_getI fX9_scanTask_171 (k409 hG) (by decide) (by decide) (by decide) ?_
  refine E_iconst (v := 1) fX9_scanTask_174 (by decide) ?_
  refine E_iadd fX9_scanTask_175 ?_
  refine E_putI fX9_scanTask_176 (k409 hG) (by decide) rfl ?_
  rw [mx_pI (r := 409) (by decide)]
  refine E_aload_n fX9_scanTask_179 rfl (by decide) ?_
  refine E_dup fX9_scanTask_180 rfl ?_
  refine E_getL fX9_scanTask_181 (k0 hG) (by decide) (by decide) (by decide) ?_
  refine E_iload_n fX9_scanTask_184 rfl ?_
  refine E_i2l fX9_scanTask_185 ?_
  refine E_ladd fX9_scanTask_186 ?_
  refine E_putL fX9_scanTask_187 (k0 hG) (by decide) (by decide) ?_
  rw [mx_pL (r := 0) (by decide)]
  refine E_iload_n fX9_scanTask_190 rfl ?_
  refine E_ifne (tg := 220) fX9_scanTask_191 (by decide) (fun c_191 => ?_) (fun c => absurd c (by decide))
  exact R_vret fX9_scanTask_220 mX9_scanTask rfl rfl
end SP11
