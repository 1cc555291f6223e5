section SP12
variable {G : MG} {d : Nat} {M : Mem}
theorem lookAtStart_ok (hG : Core G) (h : M.1 0 10 = -1) : Ret G (d + 1) 90 [.ref 0] M (some (.int 0)) (pI M 0 11 0) := by
  refine R_start (d := d + 0) (by decide) mX9_lookAtStart ?_
  show E _ _ _ (0, [some (.ref 0), none, none], [], M, 0) _
  refine E_iconst (v := 0) fX9_lookAtStart_0 (by decide) ?_
  refine E_istore_n (L' := [some (.ref 0), some (.int 0), none]) fX9_lookAtStart_1 rfl (Nat.le_of_ble_eq_true rfl) ?_
  refine E_aload_n fX9_lookAtStart_2 rfl (by decide) ?_
  refine E_getI fX9_lookAtStart_3 (k0 hG) (by decide) (by decide) (by decide) ?_
  refine E_iconst (v := (-1)) fX9_lookAtStart_6 (by decide) ?_
  refine E_iceq (tg := 65) fX9_lookAtStart_7 (by decide) (fun c_7 => ?_) (fun c => absurd h c)
  refine E_iload_n fX9_lookAtStart_65 rfl ?_
  refine E_ifeq (tg := 80) fX9_lookAtStart_66 (by decide) (fun c_66 => ?_) (fun c => absurd c (by decide))
  refine E_iconst (v := 0) fX9_lookAtStart_80 (by decide) ?_
  refine E_istore_n (L' := [some (.ref 0), some (.int 0), some (.int 0)]) fX9_lookAtStart_81 rfl (Nat.le_of_ble_eq_true rfl) ?_
  refine E_aload_n fX9_lookAtStart_82 rfl (by decide) ?_
  refine E_iload_n fX9_lookAtStart_83 rfl ?_
  refine E_putI fX9_lookAtStart_84 (k0 hG) (by decide) rfl ?_
  refine E_iload_n fX9_lookAtStart_87 rfl ?_
  exact R_iret fX9_lookAtStart_88 mX9_lookAtStart rfl rfl
/-- what a unit changes -/
def uB (c s : Nat) : Bool := scB c s || (c == 0 && (s == 7 || s == 11))
theorem uB_sc (c s : Nat) (h : uB c s = false) : scB c s = false := by
  unfold uB at h
  exact (Bool.or_eq_false_iff.mp h).1
theorem AFr.u {M M1 : Mem} (h : AFr M M1) : Fr uB M M1 := ⟨fun c s hc => h.1 c s (by rintro rfl; cases hc) (by rintro rfl; cases hc) (by rintro rfl; cases hc), fun c _ => h.2 c⟩
theorem WS.unit {M M1 M2 : Mem} {n s tr nw : Nat} (h : WS M n s tr nw) (h1 : M1 = pI M 0 7 (M.1 0 7 + 1)) (hA : AI M2) (hF : AFr M1 M2) : WS (pI M2 0 11 0) n s tr (nw + 1) := by
  obtain ⟨w1, w2, w3, w4, w5, w6, w7, w8, w9, w10, w11⟩ := h
  have F : ∀ c s, c ≠ 383 → c ≠ 384 → c ≠ 385 → (c ≠ 0 ∨ (s ≠ 7 ∧ s ≠ 11)) → (pI M2 0 11 0).1 c s = M.1 c s := fun c s a b e g => by
    rw [pI_ne (by omega), hF.1 c s a b e, h1, pI_ne (by omega)]
  refine ⟨⟨w1.1, (F 1 0 (by omega) (by omega) (by omega) (by omega)).trans w1.2.1, fun i hi => (w1.2.2 i hi).cg fun s => F _ s (by have := w1.1; omega) (by have := w1.1; omega) (by have := w1.1; omega) (by omega)⟩, ?_, hA.fr fun c s hc => pI_ne (by omega), w4.eq (F 377 1 (by omega) (by omega) (by omega) (by omega)), (F 0 10 (by omega) (by omega) (by omega) (by omega)).trans w5, (F 0 12 (by omega) (by omega) (by omega) (by omega)).trans w6, (F 408 1 (by omega) (by omega) (by omega) (by omega)).trans w7, (F 409 1 (by omega) (by omega) (by omega) (by omega)).trans w8, (F 377 2 (by omega) (by omega) (by omega) (by omega)).trans w9, (F 408 3 (by omega) (by omega) (by omega) (by omega)).trans w10, ?_⟩
  · obtain ⟨h1, h2, h3, h4, h5, h6⟩ := w2
    exact ⟨h1, (F _ _ (by omega) (by omega) (by omega) (by omega)).trans h2, h3, (F _ _ (by omega) (by omega) (by omega) (by omega)).trans h4, fun i hi => by rw [F _ _ (by omega) (by omega) (by omega) (by omega)]; exact h5 i hi, fun i hi k hk hb => by rw [F _ _ (by omega) (by omega) (by omega) (by omega)] at hb; exact h6 i hi k hk hb⟩
  · rw [pI_ne (by omega), hF.1 _ _ (by omega) (by omega) (by omega), h1, pI_at, w11, nI_1]
/-- the standby beside M, between two units -/
def sbk (M U : Mem) : Prop := U.1 395 3 = 0 ∧ (U.1 395 1 = 0 ∨ U.1 395 1 = 1) ∧ (U.1 395 4 = 0 ∨ (U.1 395 4 = 1 ∧ M.1 408 0 = 1))
def got (M U : Mem) : Prop := U.1 395 2 = 1 ∧ CpS M U
theorem dueI_1 (t : Int32) : dueI 1 t = 1 := (if_pos (by decide)).trans (if_pos (due_1 t).2)
theorem unit_ok (hA : All G) {n s tr nw : Nat} (hW : WS M n s tr nw) : ∃ Mc, WS Mc n s tr (nw + 1) ∧ Fr uB M Mc ∧ ∀ U, sbk M U → ∃ U', (U'.1 395 1 = U.1 395 1 ∧ U'.1 395 3 = 0 ∧ U'.1 395 4 = 0) ∧ (M.1 408 0 = 1 → U.1 395 1 = 1 → got Mc U') ∧ Ret G (d + 6) 89 [.ref 0] (mx M U) none (mx Mc U') := by
  have hG := hA.core
  have hC := gc_core hG
  have hWM := hW
  obtain ⟨M1, hM1⟩ : ∃ M1, M1 = pI M 0 7 (M.1 0 7 + 1) := ⟨_, rfl⟩
  have A1 : AI M1 := hW.2.2.1.fr fun c s hc => by rw [hM1]; exact pI_ne (by omega)
  obtain ⟨v2, M2, hS, rfl, A2, F2⟩ := shortenShelving_ok (d := d + 3) (M := M1) hC A1
  have W3 : WS (pI M2 0 11 0) n s tr (nw + 1) := hW.unit hM1 A2 F2
  have S3 : Fr uB M (pI M2 0 11 0) := by
    refine Fr.pI (Fr.tr ?_ F2.u) rfl
    rw [hM1]
    exact Fr.rf.pI rfl
  have hst2 : M2.1 0 10 = -1 := (pI_ne (M := M2) (r := 0) (k := 11) (x := 0) (Or.inr (by decide))).symm.trans W3.2.2.2.2.1
  have hLA := lookAtStart_ok (G := Gc G) (d := d + 4) (M := M2) hC hst2
  obtain ⟨M3, hM3⟩ : ∃ M3, M3 = pI M2 0 11 0 := ⟨_, rfl⟩
  rw [← hM3] at W3 S3 hLA
  by_cases hd1 : dueI (M3.1 409 0) (M3.1 0 7) = 0
  · have W4 := W3
    have S4 := S3
    by_cases hd0 : dueI (M3.1 408 0) (M3.1 0 7) = 0
    · skip
      refine ⟨M3, W4, (S4), fun U hU => ?_⟩
      obtain ⟨b3, b1, b4⟩ := hU
      have w408 : M3.1 408 0 = M.1 408 0 := S4.1 _ _ rfl
      have htk : ¬ U.1 395 4 = 0 → M.1 408 0 = 1 := fun z => by
        rcases b4 with b4 | b4
        · exact absurd b4 z
        · exact b4.2
      have c3 : (pI U 395 4 0).1 395 3 = 0 := (pI_ne (Or.inr (by decide))).trans b3
      have c1 : (pI U 395 4 0).1 395 1 = U.1 395 1 := pI_ne (Or.inr (by decide))
      have c4 : (pI U 395 4 0).1 395 4 = 0 := pI_at
      have e3 := c3
      have e1 := c1
      have e4 := c4
      refine ⟨(pI U 395 4 0), ⟨e1, e3, e4⟩, fun z => absurd hd0 (by rw [w408, z]; exact fun y => absurd ((dueI_1 _).symm.trans y) (by decide)), ?_⟩
      refine R_start (d := d + 5) (by decide) mX9_passOneUnit ?_
      show E _ _ _ (0, [some (.ref 0), none, none], [], mx M U, 0) _
      refine E_aload_n fX9_passOneUnit_0 rfl (by decide) ?_
      refine E_dup fX9_passOneUnit_1 rfl ?_
      refine E_getI fX9_passOneUnit_2 (k0 hG) (by decide) (by decide) (by decide) ?_
      refine E_iconst (v := 1) fX9_passOneUnit_5 (by decide) ?_
      refine E_iadd fX9_passOneUnit_6 ?_
      refine E_putI fX9_passOneUnit_7 (k0 hG) (by decide) rfl ?_
      rw [mx_pI (r := 0) (by decide)]
      refine E_aload_n fX9_passOneUnit_10 rfl (by decide) ?_
      refine E_getR (r' := 377) fX9_passOneUnit_11 (k0 hG) (by decide) (by decide) (by decide) rfl ?_
      refine E_getR (r' := 383) fX9_passOneUnit_14 (k377 hG) (by decide) (by decide) (by decide) rfl ?_
      rw [← (show M1 = pI M 0 7 ((mx M U).1 0 7 + 1) from hM1)]
      refine E_callV (t := []) (hS.mx U) fX9_passOneUnit_17 mX0_shortenShelving (rc_obj (k383 hG) (by decide) (by decide)) ⟨by decide, rfl⟩ rfl rfl (Nat.le_of_ble_eq_true rfl) ?_
      refine E_aload_n fX9_passOneUnit_20 rfl (by decide) ?_
      refine E_getR (r' := 395) fX9_passOneUnit_21 (k0 hG) (by decide) (by decide) (by decide) rfl ?_
      refine E_getI fX9_passOneUnit_24 (k395 hA) (by decide) (by decide) (by decide) ?_
      refine E_istore_n (L' := [some (.ref 0), some (.int (U.1 395 4)), none]) fX9_passOneUnit_27 rfl (Nat.le_of_ble_eq_true rfl) ?_
      refine E_aload_n fX9_passOneUnit_28 rfl (by decide) ?_
      refine E_getR (r' := 395) fX9_passOneUnit_29 (k0 hG) (by decide) (by decide) (by decide) rfl ?_
      refine E_iconst (v := 0) fX9_passOneUnit_32 (by decide) ?_
      refine E_putI fX9_passOneUnit_33 (k395 hA) (by decide) rfl ?_
      rw [mx_pI2 (r := 395) (by decide)]
      refine E_aload_n fX9_passOneUnit_36 rfl (by decide) ?_
      refine E_callV (t := []) (hLA.mx (pI U 395 4 0)) fX9_passOneUnit_37 mX9_lookAtStart (rc_obj (k0 hG) (by decide) (by decide)) ⟨by decide, rfl⟩ rfl rfl (Nat.le_of_ble_eq_true rfl) ?_
      refine E_istore_n (L' := [some (.ref 0), some (.int (U.1 395 4)), some (.int 0)]) fX9_passOneUnit_40 rfl (Nat.le_of_ble_eq_true rfl) ?_
      refine E_aload_n fX9_passOneUnit_41 rfl (by decide) ?_
      refine E_getI fX9_passOneUnit_42 (k0 hG) (by decide) (by decide) (by decide) ?_
      refine E_ifne (tg := 73) fX9_passOneUnit_45 (by decide) (fun c => absurd W3.2.2.2.2.2.1 c) (fun c_45 => ?_)
      refine E_iload_n fX9_passOneUnit_48 rfl ?_
      refine E_ifne (tg := 68) fX9_passOneUnit_49 (by decide) (fun c => absurd c (by decide)) (fun c_49 => ?_)
      refine E_aload_n fX9_passOneUnit_52 rfl (by decide) ?_
      refine E_getR (r' := 407) fX9_passOneUnit_53 (k0 hG) (by decide) (by decide) (by decide) rfl ?_
      refine E_iconst (v := 1) fX9_passOneUnit_56 (by decide) ?_
      refine E_aald (n := 1) (r' := 409) (K := 31) fX9_passOneUnit_57 (k407 hG) ⟨by decide, by decide⟩ (by decide) rfl (by decide) rfl ?_
      refine E_aload_n fX9_passOneUnit_58 rfl (by decide) ?_
      refine E_getI fX9_passOneUnit_59 (k0 hG) (by decide) (by decide) (by decide) ?_
      refine E_callV (t := []) (show Ret G (d + 5) 34 [.ref 409, .int (M3.1 0 7)] (mx M3 (pI U 395 4 0)) (some (.int (dueI (M3.1 409 0) (M3.1 0 7)))) _ from isDueAt_1 (d := d + 4) hG (M3.1 0 7)) fX9_passOneUnit_62 mX7_isDueAt (rc_obj (k409 hG) (by decide) (by decide)) ⟨by decide, rfl⟩ rfl rfl (Nat.le_of_ble_eq_true rfl) ?_
      refine E_ifeq (tg := 73) fX9_passOneUnit_65 (by decide) (fun c_65 => ?_) (fun c => absurd hd1 c)
      refine E_aload_n fX9_passOneUnit_73 rfl (by decide) ?_
      refine E_getI fX9_passOneUnit_74 (k0 hG) (by decide) (by decide) (by decide) ?_
      refine E_ifne (tg := 105) fX9_passOneUnit_77 (by decide) (fun c => absurd W4.2.2.2.2.2.1 c) (fun c_77 => ?_)
      refine E_iload_n fX9_passOneUnit_80 rfl ?_
      refine E_ifne (tg := 100) fX9_passOneUnit_81 (by decide) (fun c => absurd hd0 (by rw [w408, htk c]; exact fun z => absurd ((dueI_1 _).symm.trans z) (by decide))) (fun c_81 => ?_)
      refine E_aload_n fX9_passOneUnit_84 rfl (by decide) ?_
      refine E_getR (r' := 407) fX9_passOneUnit_85 (k0 hG) (by decide) (by decide) (by decide) rfl ?_
      refine E_iconst (v := 0) fX9_passOneUnit_88 (by decide) ?_
      refine E_aald (n := 0) (r' := 408) (K := 31) fX9_passOneUnit_89 (k407 hG) ⟨by decide, by decide⟩ (by decide) rfl (by decide) rfl ?_
      refine E_aload_n fX9_passOneUnit_90 rfl (by decide) ?_
      refine E_getI fX9_passOneUnit_91 (k0 hG) (by decide) (by decide) (by decide) ?_
      refine E_callV (t := []) (show Ret G (d + 5) 34 [.ref 408, .int (M3.1 0 7)] (mx M3 (pI U 395 4 0)) (some (.int (dueI (M3.1 408 0) (M3.1 0 7)))) _ from isDueAt_0 (d := d + 4) hG (M3.1 0 7)) fX9_passOneUnit_94 mX7_isDueAt (rc_obj (k408 hG) (by decide) (by decide)) ⟨by decide, rfl⟩ rfl rfl (Nat.le_of_ble_eq_true rfl) ?_
      refine E_ifeq (tg := 105) fX9_passOneUnit_97 (by decide) (fun c_97 => ?_) (fun c => absurd hd0 c)
      exact R_vret fX9_passOneUnit_105 mX9_passOneUnit rfl rfl
    · skip
      obtain ⟨M5, W5, S5, hs0⟩ := scan0_ok (d := d) hA W4
      refine ⟨M5, W5, (S4.tr (S5.mono uB_sc)), fun U hU => ?_⟩
      obtain ⟨b3, b1, b4⟩ := hU
      have w408 : M3.1 408 0 = M.1 408 0 := S4.1 _ _ rfl
      have htk : ¬ U.1 395 4 = 0 → M.1 408 0 = 1 := fun z => by
        rcases b4 with b4 | b4
        · exact absurd b4 z
        · exact b4.2
      have c3 : (pI U 395 4 0).1 395 3 = 0 := (pI_ne (Or.inr (by decide))).trans b3
      have c1 : (pI U 395 4 0).1 395 1 = U.1 395 1 := pI_ne (Or.inr (by decide))
      have c4 : (pI U 395 4 0).1 395 4 = 0 := pI_at
      have e3 := c3
      have e1 := c1
      have e4 := c4
      obtain ⟨U3, u3, g3, R3⟩ := hs0 (pI U 395 4 0) e3 (by rw [e1]; exact b1)
      refine ⟨U3, ⟨(u3 1 (by decide)).trans e1, (u3 3 (by decide)).trans e3, (u3 4 (by decide)).trans e4⟩, fun _ z => g3 (e1.trans z), ?_⟩
      refine R_start (d := d + 5) (by decide) mX9_passOneUnit ?_
      show E _ _ _ (0, [some (.ref 0), none, none], [], mx M U, 0) _
      refine E_aload_n fX9_passOneUnit_0 rfl (by decide) ?_
      refine E_dup fX9_passOneUnit_1 rfl ?_
      refine E_getI fX9_passOneUnit_2 (k0 hG) (by decide) (by decide) (by decide) ?_
      refine E_iconst (v := 1) fX9_passOneUnit_5 (by decide) ?_
      refine E_iadd fX9_passOneUnit_6 ?_
      refine E_putI fX9_passOneUnit_7 (k0 hG) (by decide) rfl ?_
      rw [mx_pI (r := 0) (by decide)]
      refine E_aload_n fX9_passOneUnit_10 rfl (by decide) ?_
      refine E_getR (r' := 377) fX9_passOneUnit_11 (k0 hG) (by decide) (by decide) (by decide) rfl ?_
      refine E_getR (r' := 383) fX9_passOneUnit_14 (k377 hG) (by decide) (by decide) (by decide) rfl ?_
      rw [← (show M1 = pI M 0 7 ((mx M U).1 0 7 + 1) from hM1)]
      refine E_callV (t := []) (hS.mx U) fX9_passOneUnit_17 mX0_shortenShelving (rc_obj (k383 hG) (by decide) (by decide)) ⟨by decide, rfl⟩ rfl rfl (Nat.le_of_ble_eq_true rfl) ?_
      refine E_aload_n fX9_passOneUnit_20 rfl (by decide) ?_
      refine E_getR (r' := 395) fX9_passOneUnit_21 (k0 hG) (by decide) (by decide) (by decide) rfl ?_
      refine E_getI fX9_passOneUnit_24 (k395 hA) (by decide) (by decide) (by decide) ?_
      refine E_istore_n (L' := [some (.ref 0), some (.int (U.1 395 4)), none]) fX9_passOneUnit_27 rfl (Nat.le_of_ble_eq_true rfl) ?_
      refine E_aload_n fX9_passOneUnit_28 rfl (by decide) ?_
      refine E_getR (r' := 395) fX9_passOneUnit_29 (k0 hG) (by decide) (by decide) (by decide) rfl ?_
      refine E_iconst (v := 0) fX9_passOneUnit_32 (by decide) ?_
      refine E_putI fX9_passOneUnit_33 (k395 hA) (by decide) rfl ?_
      rw [mx_pI2 (r := 395) (by decide)]
      refine E_aload_n fX9_passOneUnit_36 rfl (by decide) ?_
      refine E_callV (t := []) (hLA.mx (pI U 395 4 0)) fX9_passOneUnit_37 mX9_lookAtStart (rc_obj (k0 hG) (by decide) (by decide)) ⟨by decide, rfl⟩ rfl rfl (Nat.le_of_ble_eq_true rfl) ?_
      refine E_istore_n (L' := [some (.ref 0), some (.int (U.1 395 4)), some (.int 0)]) fX9_passOneUnit_40 rfl (Nat.le_of_ble_eq_true rfl) ?_
      refine E_aload_n fX9_passOneUnit_41 rfl (by decide) ?_
      refine E_getI fX9_passOneUnit_42 (k0 hG) (by decide) (by decide) (by decide) ?_
      refine E_ifne (tg := 73) fX9_passOneUnit_45 (by decide) (fun c => absurd W3.2.2.2.2.2.1 c) (fun c_45 => ?_)
      refine E_iload_n fX9_passOneUnit_48 rfl ?_
      refine E_ifne (tg := 68) fX9_passOneUnit_49 (by decide) (fun c => absurd c (by decide)) (fun c_49 => ?_)
      refine E_aload_n fX9_passOneUnit_52 rfl (by decide) ?_
      refine E_getR (r' := 407) fX9_passOneUnit_53 (k0 hG) (by decide) (by decide) (by decide) rfl ?_
      refine E_iconst (v := 1) fX9_passOneUnit_56 (by decide) ?_
      refine E_aald (n := 1) (r' := 409) (K := 31) fX9_passOneUnit_57 (k407 hG) ⟨by decide, by decide⟩ (by decide) rfl (by decide) rfl ?_
      refine E_aload_n fX9_passOneUnit_58 rfl (by decide) ?_
      refine E_getI fX9_passOneUnit_59 (k0 hG) (by decide) (by decide) (by decide) ?_
      refine E_callV (t := []) (show Ret G (d + 5) 34 [.ref 409, .int (M3.1 0 7)] (mx M3 (pI U 395 4 0)) (some (.int (dueI (M3.1 409 0) (M3.1 0 7)))) _ from isDueAt_1 (d := d + 4) hG (M3.1 0 7)) fX9_passOneUnit_62 mX7_isDueAt (rc_obj (k409 hG) (by decide) (by decide)) ⟨by decide, rfl⟩ rfl rfl (Nat.le_of_ble_eq_true rfl) ?_
      refine E_ifeq (tg := 73) fX9_passOneUnit_65 (by decide) (fun c_65 => ?_) (fun c => absurd hd1 c)
      refine E_aload_n fX9_passOneUnit_73 rfl (by decide) ?_
      refine E_getI fX9_passOneUnit_74 (k0 hG) (by decide) (by decide) (by decide) ?_
      refine E_ifne (tg := 105) fX9_passOneUnit_77 (by decide) (fun c => absurd W4.2.2.2.2.2.1 c) (fun c_77 => ?_)
      refine E_iload_n fX9_passOneUnit_80 rfl ?_
      refine E_ifne (tg := 100) fX9_passOneUnit_81 (by decide) (fun c_81 => ?_) (fun c_81 => ?_)
      · refine E_aload_n fX9_passOneUnit_100 rfl (by decide) ?_
        refine E_iconst (v := 0) fX9_passOneUnit_101 (by decide) ?_
        refine E_callV (t := []) R3 fX9_passOneUnit_102 mX9_scanTask (rc_obj (k0 hG) (by decide) (by decide)) ⟨by decide, rfl⟩ rfl rfl (Nat.le_of_ble_eq_true rfl) ?_
        exact R_vret fX9_passOneUnit_105 mX9_passOneUnit rfl rfl
      · refine E_aload_n fX9_passOneUnit_84 rfl (by decide) ?_
        refine E_getR (r' := 407) fX9_passOneUnit_85 (k0 hG) (by decide) (by decide) (by decide) rfl ?_
        refine E_iconst (v := 0) fX9_passOneUnit_88 (by decide) ?_
        refine E_aald (n := 0) (r' := 408) (K := 31) fX9_passOneUnit_89 (k407 hG) ⟨by decide, by decide⟩ (by decide) rfl (by decide) rfl ?_
        refine E_aload_n fX9_passOneUnit_90 rfl (by decide) ?_
        refine E_getI fX9_passOneUnit_91 (k0 hG) (by decide) (by decide) (by decide) ?_
        refine E_callV (t := []) (show Ret G (d + 5) 34 [.ref 408, .int (M3.1 0 7)] (mx M3 (pI U 395 4 0)) (some (.int (dueI (M3.1 408 0) (M3.1 0 7)))) _ from isDueAt_0 (d := d + 4) hG (M3.1 0 7)) fX9_passOneUnit_94 mX7_isDueAt (rc_obj (k408 hG) (by decide) (by decide)) ⟨by decide, rfl⟩ rfl rfl (Nat.le_of_ble_eq_true rfl) ?_
        refine E_ifeq (tg := 105) fX9_passOneUnit_97 (by decide) (fun c => absurd c hd0) (fun c_97 => ?_)
        refine E_aload_n fX9_passOneUnit_100 rfl (by decide) ?_
        refine E_iconst (v := 0) fX9_passOneUnit_101 (by decide) ?_
        refine E_callV (t := []) R3 fX9_passOneUnit_102 mX9_scanTask (rc_obj (k0 hG) (by decide) (by decide)) ⟨by decide, rfl⟩ rfl rfl (Nat.le_of_ble_eq_true rfl) ?_
        exact R_vret fX9_passOneUnit_105 mX9_passOneUnit rfl rfl
  · obtain ⟨M4, W4, S4', hs1⟩ := scan1_ok (d := d) hA W3
    have S4 := S3.tr (S4'.mono uB_sc)
    by_cases hd0 : dueI (M4.1 408 0) (M4.1 0 7) = 0
    · skip
      refine ⟨M4, W4, (S4), fun U hU => ?_⟩
      obtain ⟨b3, b1, b4⟩ := hU
      have w408 : M4.1 408 0 = M.1 408 0 := S4.1 _ _ rfl
      have htk : ¬ U.1 395 4 = 0 → M.1 408 0 = 1 := fun z => by
        rcases b4 with b4 | b4
        · exact absurd b4 z
        · exact b4.2
      have c3 : (pI U 395 4 0).1 395 3 = 0 := (pI_ne (Or.inr (by decide))).trans b3
      have c1 : (pI U 395 4 0).1 395 1 = U.1 395 1 := pI_ne (Or.inr (by decide))
      have c4 : (pI U 395 4 0).1 395 4 = 0 := pI_at
      obtain ⟨U2, u2, R2⟩ := hs1 (pI U 395 4 0) c3 (by rw [c1]; exact b1)
      have e3 : U2.1 395 3 = 0 := (u2 3 (by decide)).trans c3
      have e1 : U2.1 395 1 = U.1 395 1 := (u2 1 (by decide)).trans c1
      have e4 : U2.1 395 4 = 0 := (u2 4 (by decide)).trans c4
      refine ⟨U2, ⟨e1, e3, e4⟩, fun z => absurd hd0 (by rw [w408, z]; exact fun y => absurd ((dueI_1 _).symm.trans y) (by decide)), ?_⟩
      refine R_start (d := d + 5) (by decide) mX9_passOneUnit ?_
      show E _ _ _ (0, [some (.ref 0), none, none], [], mx M U, 0) _
      refine E_aload_n fX9_passOneUnit_0 rfl (by decide) ?_
      refine E_dup fX9_passOneUnit_1 rfl ?_
      refine E_getI fX9_passOneUnit_2 (k0 hG) (by decide) (by decide) (by decide) ?_
      refine E_iconst (v := 1) fX9_passOneUnit_5 (by decide) ?_
      refine E_iadd fX9_passOneUnit_6 ?_
      refine E_putI fX9_passOneUnit_7 (k0 hG) (by decide) rfl ?_
      rw [mx_pI (r := 0) (by decide)]
      refine E_aload_n fX9_passOneUnit_10 rfl (by decide) ?_
      refine E_getR (r' := 377) fX9_passOneUnit_11 (k0 hG) (by decide) (by decide) (by decide) rfl ?_
      refine E_getR (r' := 383) fX9_passOneUnit_14 (k377 hG) (by decide) (by decide) (by decide) rfl ?_
      rw [← (show M1 = pI M 0 7 ((mx M U).1 0 7 + 1) from hM1)]
      refine E_callV (t := []) (hS.mx U) fX9_passOneUnit_17 mX0_shortenShelving (rc_obj (k383 hG) (by decide) (by decide)) ⟨by decide, rfl⟩ rfl rfl (Nat.le_of_ble_eq_true rfl) ?_
      refine E_aload_n fX9_passOneUnit_20 rfl (by decide) ?_
      refine E_getR (r' := 395) fX9_passOneUnit_21 (k0 hG) (by decide) (by decide) (by decide) rfl ?_
      refine E_getI fX9_passOneUnit_24 (k395 hA) (by decide) (by decide) (by decide) ?_
      refine E_istore_n (L' := [some (.ref 0), some (.int (U.1 395 4)), none]) fX9_passOneUnit_27 rfl (Nat.le_of_ble_eq_true rfl) ?_
      refine E_aload_n fX9_passOneUnit_28 rfl (by decide) ?_
      refine E_getR (r' := 395) fX9_passOneUnit_29 (k0 hG) (by decide) (by decide) (by decide) rfl ?_
      refine E_iconst (v := 0) fX9_passOneUnit_32 (by decide) ?_
      refine E_putI fX9_passOneUnit_33 (k395 hA) (by decide) rfl ?_
      rw [mx_pI2 (r := 395) (by decide)]
      refine E_aload_n fX9_passOneUnit_36 rfl (by decide) ?_
      refine E_callV (t := []) (hLA.mx (pI U 395 4 0)) fX9_passOneUnit_37 mX9_lookAtStart (rc_obj (k0 hG) (by decide) (by decide)) ⟨by decide, rfl⟩ rfl rfl (Nat.le_of_ble_eq_true rfl) ?_
      refine E_istore_n (L' := [some (.ref 0), some (.int (U.1 395 4)), some (.int 0)]) fX9_passOneUnit_40 rfl (Nat.le_of_ble_eq_true rfl) ?_
      refine E_aload_n fX9_passOneUnit_41 rfl (by decide) ?_
      refine E_getI fX9_passOneUnit_42 (k0 hG) (by decide) (by decide) (by decide) ?_
      refine E_ifne (tg := 73) fX9_passOneUnit_45 (by decide) (fun c => absurd W3.2.2.2.2.2.1 c) (fun c_45 => ?_)
      refine E_iload_n fX9_passOneUnit_48 rfl ?_
      refine E_ifne (tg := 68) fX9_passOneUnit_49 (by decide) (fun c => absurd c (by decide)) (fun c_49 => ?_)
      refine E_aload_n fX9_passOneUnit_52 rfl (by decide) ?_
      refine E_getR (r' := 407) fX9_passOneUnit_53 (k0 hG) (by decide) (by decide) (by decide) rfl ?_
      refine E_iconst (v := 1) fX9_passOneUnit_56 (by decide) ?_
      refine E_aald (n := 1) (r' := 409) (K := 31) fX9_passOneUnit_57 (k407 hG) ⟨by decide, by decide⟩ (by decide) rfl (by decide) rfl ?_
      refine E_aload_n fX9_passOneUnit_58 rfl (by decide) ?_
      refine E_getI fX9_passOneUnit_59 (k0 hG) (by decide) (by decide) (by decide) ?_
      refine E_callV (t := []) (show Ret G (d + 5) 34 [.ref 409, .int (M3.1 0 7)] (mx M3 (pI U 395 4 0)) (some (.int (dueI (M3.1 409 0) (M3.1 0 7)))) _ from isDueAt_1 (d := d + 4) hG (M3.1 0 7)) fX9_passOneUnit_62 mX7_isDueAt (rc_obj (k409 hG) (by decide) (by decide)) ⟨by decide, rfl⟩ rfl rfl (Nat.le_of_ble_eq_true rfl) ?_
      refine E_ifeq (tg := 73) fX9_passOneUnit_65 (by decide) (fun c => absurd c hd1) (fun c_65 => ?_)
      refine E_aload_n fX9_passOneUnit_68 rfl (by decide) ?_
      refine E_iconst (v := 1) fX9_passOneUnit_69 (by decide) ?_
      refine E_callV (t := []) R2 fX9_passOneUnit_70 mX9_scanTask (rc_obj (k0 hG) (by decide) (by decide)) ⟨by decide, rfl⟩ rfl rfl (Nat.le_of_ble_eq_true rfl) ?_
      refine E_aload_n fX9_passOneUnit_73 rfl (by decide) ?_
      refine E_getI fX9_passOneUnit_74 (k0 hG) (by decide) (by decide) (by decide) ?_
      refine E_ifne (tg := 105) fX9_passOneUnit_77 (by decide) (fun c => absurd W4.2.2.2.2.2.1 c) (fun c_77 => ?_)
      refine E_iload_n fX9_passOneUnit_80 rfl ?_
      refine E_ifne (tg := 100) fX9_passOneUnit_81 (by decide) (fun c => absurd hd0 (by rw [w408, htk c]; exact fun z => absurd ((dueI_1 _).symm.trans z) (by decide))) (fun c_81 => ?_)
      refine E_aload_n fX9_passOneUnit_84 rfl (by decide) ?_
      refine E_getR (r' := 407) fX9_passOneUnit_85 (k0 hG) (by decide) (by decide) (by decide) rfl ?_
      refine E_iconst (v := 0) fX9_passOneUnit_88 (by decide) ?_
      refine E_aald (n := 0) (r' := 408) (K := 31) fX9_passOneUnit_89 (k407 hG) ⟨by decide, by decide⟩ (by decide) rfl (by decide) rfl ?_
      refine E_aload_n fX9_passOneUnit_90 rfl (by decide) ?_
      refine E_getI fX9_passOneUnit_91 (k0 hG) (by decide) (by decide) (by decide) ?_
      refine E_callV (t := []) (show Ret G (d + 5) 34 [.ref 408, .int (M4.1 0 7)] (mx M4 U2) (some (.int (dueI (M4.1 408 0) (M4.1 0 7)))) _ from isDueAt_0 (d := d + 4) hG (M4.1 0 7)) fX9_passOneUnit_94 mX7_isDueAt (rc_obj (k408 hG) (by decide) (by decide)) ⟨by decide, rfl⟩ rfl rfl (Nat.le_of_ble_eq_true rfl) ?_
      refine E_ifeq (tg := 105) fX9_passOneUnit_97 (by decide) (fun c_97 => ?_) (fun c => absurd hd0 c)
      exact R_vret fX9_passOneUnit_105 mX9_passOneUnit rfl rfl
    · skip
      obtain ⟨M5, W5, S5, hs0⟩ := scan0_ok (d := d) hA W4
      refine ⟨M5, W5, (S4.tr (S5.mono uB_sc)), fun U hU => ?_⟩
      obtain ⟨b3, b1, b4⟩ := hU
      have w408 : M4.1 408 0 = M.1 408 0 := S4.1 _ _ rfl
      have htk : ¬ U.1 395 4 = 0 → M.1 408 0 = 1 := fun z => by
        rcases b4 with b4 | b4
        · exact absurd b4 z
        · exact b4.2
      have c3 : (pI U 395 4 0).1 395 3 = 0 := (pI_ne (Or.inr (by decide))).trans b3
      have c1 : (pI U 395 4 0).1 395 1 = U.1 395 1 := pI_ne (Or.inr (by decide))
      have c4 : (pI U 395 4 0).1 395 4 = 0 := pI_at
      obtain ⟨U2, u2, R2⟩ := hs1 (pI U 395 4 0) c3 (by rw [c1]; exact b1)
      have e3 : U2.1 395 3 = 0 := (u2 3 (by decide)).trans c3
      have e1 : U2.1 395 1 = U.1 395 1 := (u2 1 (by decide)).trans c1
      have e4 : U2.1 395 4 = 0 := (u2 4 (by decide)).trans c4
      obtain ⟨U3, u3, g3, R3⟩ := hs0 U2 e3 (by rw [e1]; exact b1)
      refine ⟨U3, ⟨(u3 1 (by decide)).trans e1, (u3 3 (by decide)).trans e3, (u3 4 (by decide)).trans e4⟩, fun _ z => g3 (e1.trans z), ?_⟩
      refine R_start (d := d + 5) (by decide) mX9_passOneUnit ?_
      show E _ _ _ (0, [some (.ref 0), none, none], [], mx M U, 0) _
      refine E_aload_n fX9_passOneUnit_0 rfl (by decide) ?_
      refine E_dup fX9_passOneUnit_1 rfl ?_
      refine E_getI fX9_passOneUnit_2 (k0 hG) (by decide) (by decide) (by decide) ?_
      refine E_iconst (v := 1) fX9_passOneUnit_5 (by decide) ?_
      refine E_iadd fX9_passOneUnit_6 ?_
      refine E_putI fX9_passOneUnit_7 (k0 hG) (by decide) rfl ?_
      rw [mx_pI (r := 0) (by decide)]
      refine E_aload_n fX9_passOneUnit_10 rfl (by decide) ?_
      refine E_getR (r' := 377) fX9_passOneUnit_11 (k0 hG) (by decide) (by decide) (by decide) rfl ?_
      refine E_getR (r' := 383) fX9_passOneUnit_14 (k377 hG) (by decide) (by decide) (by decide) rfl ?_
      rw [← (show M1 = pI M 0 7 ((mx M U).1 0 7 + 1) from hM1)]
      refine E_callV (t := []) (hS.mx U) fX9_passOneUnit_17 mX0_shortenShelving (rc_obj (k383 hG) (by decide) (by decide)) ⟨by decide, rfl⟩ rfl rfl (Nat.le_of_ble_eq_true rfl) ?_
      refine E_aload_n fX9_passOneUnit_20 rfl (by decide) ?_
      refine E_getR (r' := 395) fX9_passOneUnit_21 (k0 hG) (by decide) (by decide) (by decide) rfl ?_
      refine E_getI fX9_passOneUnit_24 (k395 hA) (by decide) (by decide) (by decide) ?_
      refine E_istore_n (L' := [some (.ref 0), some (.int (U.1 395 4)), none]) fX9_passOneUnit_27 rfl (Nat.le_of_ble_eq_true rfl) ?_
      refine E_aload_n fX9_passOneUnit_28 rfl (by decide) ?_
      refine E_getR (r' := 395) fX9_passOneUnit_29 (k0 hG) (by decide) (by decide) (by decide) rfl ?_
      refine E_iconst (v := 0) fX9_passOneUnit_32 (by decide) ?_
      refine E_putI fX9_passOneUnit_33 (k395 hA) (by decide) rfl ?_
      rw [mx_pI2 (r := 395) (by decide)]
      refine E_aload_n fX9_passOneUnit_36 rfl (by decide) ?_
      refine E_callV (t := []) (hLA.mx (pI U 395 4 0)) fX9_passOneUnit_37 mX9_lookAtStart (rc_obj (k0 hG) (by decide) (by decide)) ⟨by decide, rfl⟩ rfl rfl (Nat.le_of_ble_eq_true rfl) ?_
      refine E_istore_n (L' := [some (.ref 0), some (.int (U.1 395 4)), some (.int 0)]) fX9_passOneUnit_40 rfl (Nat.le_of_ble_eq_true rfl) ?_
      refine E_aload_n fX9_passOneUnit_41 rfl (by decide) ?_
      refine E_getI fX9_passOneUnit_42 (k0 hG) (by decide) (by decide) (by decide) ?_
      refine E_ifne (tg := 73) fX9_passOneUnit_45 (by decide) (fun c => absurd W3.2.2.2.2.2.1 c) (fun c_45 => ?_)
      refine E_iload_n fX9_passOneUnit_48 rfl ?_
      refine E_ifne (tg := 68) fX9_passOneUnit_49 (by decide) (fun c => absurd c (by decide)) (fun c_49 => ?_)
      refine E_aload_n fX9_passOneUnit_52 rfl (by decide) ?_
      refine E_getR (r' := 407) fX9_passOneUnit_53 (k0 hG) (by decide) (by decide) (by decide) rfl ?_
      refine E_iconst (v := 1) fX9_passOneUnit_56 (by decide) ?_
      refine E_aald (n := 1) (r' := 409) (K := 31) fX9_passOneUnit_57 (k407 hG) ⟨by decide, by decide⟩ (by decide) rfl (by decide) rfl ?_
      refine E_aload_n fX9_passOneUnit_58 rfl (by decide) ?_
      refine E_getI fX9_passOneUnit_59 (k0 hG) (by decide) (by decide) (by decide) ?_
      refine E_callV (t := []) (show Ret G (d + 5) 34 [.ref 409, .int (M3.1 0 7)] (mx M3 (pI U 395 4 0)) (some (.int (dueI (M3.1 409 0) (M3.1 0 7)))) _ from isDueAt_1 (d := d + 4) hG (M3.1 0 7)) fX9_passOneUnit_62 mX7_isDueAt (rc_obj (k409 hG) (by decide) (by decide)) ⟨by decide, rfl⟩ rfl rfl (Nat.le_of_ble_eq_true rfl) ?_
      refine E_ifeq (tg := 73) fX9_passOneUnit_65 (by decide) (fun c => absurd c hd1) (fun c_65 => ?_)
      refine E_aload_n fX9_passOneUnit_68 rfl (by decide) ?_
      refine E_iconst (v := 1) fX9_passOneUnit_69 (by decide) ?_
      refine E_callV (t := []) R2 fX9_passOneUnit_70 mX9_scanTask (rc_obj (k0 hG) (by decide) (by decide)) ⟨by decide, rfl⟩ rfl rfl (Nat.le_of_ble_eq_true rfl) ?_
      refine E_aload_n fX9_passOneUnit_73 rfl (by decide) ?_
      refine E_getI fX9_passOneUnit_74 (k0 hG) (by decide) (by decide) (by decide) ?_
      refine E_ifne (tg := 105) fX9_passOneUnit_77 (by decide) (fun c => absurd W4.2.2.2.2.2.1 c) (fun c_77 => ?_)
      refine E_iload_n fX9_passOneUnit_80 rfl ?_
      refine E_ifne (tg := 100) fX9_passOneUnit_81 (by decide) (fun c_81 => ?_) (fun c_81 => ?_)
      · refine E_aload_n fX9_passOneUnit_100 rfl (by decide) ?_
        refine E_iconst (v := 0) fX9_passOneUnit_101 (by decide) ?_
        refine E_callV (t := []) R3 fX9_passOneUnit_102 mX9_scanTask (rc_obj (k0 hG) (by decide) (by decide)) ⟨by decide, rfl⟩ rfl rfl (Nat.le_of_ble_eq_true rfl) ?_
        exact R_vret fX9_passOneUnit_105 mX9_passOneUnit rfl rfl
      · refine E_aload_n fX9_passOneUnit_84 rfl (by decide) ?_
        refine E_getR (r' := 407) fX9_passOneUnit_85 (k0 hG) (by decide) (by decide) (by decide) rfl ?_
        refine E_iconst (v := 0) fX9_passOneUnit_88 (by decide) ?_
        refine E_aald (n := 0) (r' := 408) (K := 31) fX9_passOneUnit_89 (k407 hG) ⟨by decide, by decide⟩ (by decide) rfl (by decide) rfl ?_
        refine E_aload_n fX9_passOneUnit_90 rfl (by decide) ?_
        refine E_getI fX9_passOneUnit_91 (k0 hG) (by decide) (by decide) (by decide) ?_
        refine E_callV (t := []) (show Ret G (d + 5) 34 [.ref 408, .int (M4.1 0 7)] (mx M4 U2) (some (.int (dueI (M4.1 408 0) (M4.1 0 7)))) _ from isDueAt_0 (d := d + 4) hG (M4.1 0 7)) fX9_passOneUnit_94 mX7_isDueAt (rc_obj (k408 hG) (by decide) (by decide)) ⟨by decide, rfl⟩ rfl rfl (Nat.le_of_ble_eq_true rfl) ?_
        refine E_ifeq (tg := 105) fX9_passOneUnit_97 (by decide) (fun c => absurd c hd0) (fun c_97 => ?_)
        refine E_aload_n fX9_passOneUnit_100 rfl (by decide) ?_
        refine E_iconst (v := 0) fX9_passOneUnit_101 (by decide) ?_
        refine E_callV (t := []) R3 fX9_passOneUnit_102 mX9_scanTask (rc_obj (k0 hG) (by decide) (by decide)) ⟨by decide, rfl⟩ rfl rfl (Nat.le_of_ble_eq_true rfl) ?_
        exact R_vret fX9_passOneUnit_105 mX9_passOneUnit rfl rfl
theorem pass_steps (hA : All G) {n s tr u : Nat} (hu : u ≤ 200) : ∀ m i M nw, i + m = u → WS M n s tr nw → ∃ Mc, WS Mc n s tr (nw + m) ∧ Fr uB M Mc ∧ ∀ U, sbk M U → ∃ U', sbk Mc U' ∧ U'.1 395 1 = U.1 395 1 ∧ (0 < m ∨ U.1 395 4 = 0 → U'.1 395 4 = 0) ∧ (M.1 408 0 = 1 → U.1 395 1 = 1 → (0 < m ∨ got M U) → got Mc U') ∧ ∀ Q, E G (d + 6) 50 (32, [some (.ref 0), some (.int (nI u)), some (.int (nI u))], [], mx Mc U', 0) Q → E G (d + 6) 50 (32, [some (.ref 0), some (.int (nI u)), some (.int (nI i))], [], mx M U, 0) Q := by
  intro m
  induction m with
  | zero =>
    intro i M nw hi hW
    have e : i = u := by omega
    subst e
    exact ⟨M, hW, Fr.rf, fun U hU => ⟨U, hU, rfl, fun h => h.resolve_left (Nat.lt_irrefl _), fun _ _ h => h.resolve_left (Nat.lt_irrefl _), fun Q h => h⟩⟩
  | succ m ih =>
    intro i M nw hi hW
    obtain ⟨M1, W1, S1, h1⟩ := unit_ok (d := d) hA hW
    obtain ⟨Mc, Wc, Sc, h2⟩ := ih (i + 1) M1 (nw + 1) (by omega) W1
    refine ⟨Mc, by rw [show nw + (m + 1) = nw + 1 + m by omega]; exact Wc, S1.tr Sc, fun U hU => ?_⟩
    obtain ⟨U1, ⟨a1, a3, a4⟩, g1, R1⟩ := h1 U hU
    have hU1 : sbk M1 U1 := ⟨a3, by rw [a1]; exact hU.2.1, Or.inl a4⟩
    obtain ⟨U2, b0, b1, b4, g2, R2⟩ := h2 U1 hU1
    have w408 : M1.1 408 0 = M.1 408 0 := S1.1 _ _ rfl
    refine ⟨U2, b0, b1.trans a1, fun _ => b4 (Or.inr a4), fun z1 z2 _ => g2 (w408.trans z1) (a1.trans z2) (Or.inr (g1 z1 z2)), fun Q hQ => ?_⟩
    · have hlt : i < u := by omega
      have hG := hA.core
      refine E_iload_n fX9_pass_32 rfl ?_
      refine E_iload_n fX9_pass_33 rfl ?_
      refine E_icge (tg := 47) fX9_pass_34 (by decide) (fun c => absurd c (nI_ge hlt (by omega))) (fun c_34 => ?_)
      refine E_aload_n fX9_pass_37 rfl (by decide) ?_
      refine E_callV (t := []) R1 fX9_pass_38 mX9_passOneUnit (rc_obj (k0 hG) (by decide) (by decide)) ⟨by decide, rfl⟩ rfl rfl (Nat.le_of_ble_eq_true rfl) ?_
      refine E_iinc (v := nI (i + 1)) (L' := [some (.ref 0), some (.int (nI u)), some (.int (nI (i + 1)))]) fX9_pass_41 rfl (inc1 _) rfl ?_
      refine E_goto (tg := 32) fX9_pass_44 (by decide) ?_
      exact R2 Q hQ
theorem pass_ok (hA : All G) {n s tr u nw : Nat} (hu0 : 0 < u) (hu : u ≤ 200) (hn : nw + u ≤ 99999) (hW : WS M n s tr nw) : ∃ Mc, WS Mc n s tr (nw + u) ∧ Fr uB M Mc ∧ ∀ U, sbk M U → ∃ U', sbk Mc U' ∧ U'.1 395 1 = U.1 395 1 ∧ U'.1 395 4 = 0 ∧ (M.1 408 0 = 1 → U.1 395 1 = 1 → got Mc U') ∧ Ret G (d + 7) 50 [.ref 0, .int (nI u)] (mx M U) (some (.int (nI (nw + u)))) (mx Mc U') := by
  have hG := hA.core
  obtain ⟨Mc, Wc, Sc, h⟩ := pass_steps (d := d) (tr := tr) (s := s) (n := n) hA hu u 0 M nw (by omega) hW
  refine ⟨Mc, Wc, Sc, fun U hU => ?_⟩
  obtain ⟨U', b0, b1, b4, g, R⟩ := h U hU
  have hnw : M.1 0 7 = nI nw := hW.2.2.2.2.2.2.2.2.2.2
  have hnc : Mc.1 0 7 = nI (nw + u) := Wc.2.2.2.2.2.2.2.2.2.2
  refine ⟨U', b0, b1, b4 (Or.inl hu0), fun z1 z2 => g z1 z2 (Or.inl hu0), ?_⟩
  refine R_start (d := d + 6) (by decide) mX9_pass ?_
  show E _ _ _ (0, [some (.ref 0), some (.int (nI u)), none], [], mx M U, 0) _
  refine E_iload_n fX9_pass_0 rfl ?_
  refine E_iconst (v := 1) fX9_pass_1 (by decide) ?_
  refine E_sipush (v := 200) fX9_pass_2 (by decide) ?_
  refine E_callS (t := []) (isBetween_ok (d := d + 5) (nI u) 1 200) fX9_pass_5 (by decide) mX9_isBetween ⟨rfl, rfl⟩ rfl rfl (Nat.le_of_ble_eq_true rfl) ?_
  refine E_callS (t := []) (require_ok (d := d + 5) (bI_n0.mpr ⟨nI_le (a := 1) hu0 (by omega), nI_le (b := 200) hu (by decide)⟩)) fX9_pass_8 (by decide) mX9_require ⟨rfl, rfl⟩ rfl rfl (Nat.le_of_ble_eq_true rfl) ?_
  refine E_aload_n fX9_pass_11 rfl (by decide) ?_
  refine E_getI fX9_pass_12 (k0 hG) (by decide) (by decide) (by decide) ?_
  refine E_iload_n fX9_pass_15 rfl ?_
  refine E_iadd fX9_pass_16 ?_
  refine E_ldcI (v := 99999) fX9_pass_17 (by decide) ?_
  refine E_icle (tg := 30) fX9_pass_19 (by decide) (fun c_19 => ?_) (fun c => absurd (by show M.1 0 7 + nI u ≤ 99999; rw [hnw, nI_add]; exact nI_le (b := 99999) hn (by decide)) c)
  refine E_iconst (v := 0) fX9_pass_30 (by decide) ?_
  refine E_istore_n (L' := [some (.ref 0), some (.int (nI u)), some (.int 0)]) fX9_pass_31 rfl (Nat.le_of_ble_eq_true rfl) ?_
  refine R _ ?_
  refine E_iload_n fX9_pass_32 rfl ?_
  refine E_iload_n fX9_pass_33 rfl ?_
  refine E_icge (tg := 47) fX9_pass_34 (by decide) (fun c_34 => ?_) (fun c => absurd (Int32.le_refl _) c)
  refine E_aload_n fX9_pass_47 rfl (by decide) ?_
  refine E_getI fX9_pass_48 (k0 hG) (by decide) (by decide) (by decide) ?_
  exact R_iret fX9_pass_51 mX9_pass rfl (by rw [← hnc]; rfl)
end SP12
