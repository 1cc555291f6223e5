section SP15
variable {G : MG} {d : Nat} {M : Mem}
def udB (c s : Nat) : Bool := (c == 0 && (s == 7 || s == 11)) || c == 383 || c == 384 || c == 385 || (c == 395 && s == 4)
theorem AFr.ud {M M1 : Mem} (h : AFr M M1) : Fr udB M M1 := ⟨fun c s hc => h.1 c s (by rintro rfl; cases hc) (by rintro rfl; cases hc) (by rintro rfl; cases hc), fun c _ => h.2 c⟩
theorem udB_low {c s : Nat} (h : 0 < c ∧ c < 377) : udB c s = false := by
  unfold udB
  simp only [Bool.or_eq_false_iff, Bool.and_eq_false_iff, beq_eq_false_iff_ne]
  omega
theorem dueI_0 (t : Int32) : dueI 0 t = 0 := if_neg (by decide)
theorem WD.ud {M M1 : Mem} {n s t nw nw2 : Nat} (h : WD M n s t nw) (hF : Fr udB M M1) (hA : AI M1) (h7 : M1.1 0 7 = nI nw2) (h4 : M1.1 395 4 = 0) : WD M1 n s t nw2 := by
  obtain ⟨h1, h2, -, k4, h5, h6, h7', h8, h9, h10, h11, h12⟩ := h
  exact ⟨h1.by hF fun c s a b => udB_low ⟨a, b⟩, h2.by hF fun c s a b => udB_low ⟨a, b⟩, hA, k4.by hF rfl, (hF.1 _ _ rfl).trans h5, (hF.1 _ _ rfl).trans h6, (hF.1 _ _ rfl).trans h7', (hF.1 _ _ rfl).trans h8, h7, (hF.1 _ _ rfl).trans h10, (hF.1 _ _ rfl).trans h11, h4⟩
theorem unitD_ok (hA : All G) {n s tr nw : Nat} (hW : WD M n s tr nw) (h12 : M.1 0 12 = 0) : ∃ v M', Ret G (d + 6) 89 [.ref 0] M v M' ∧ (v = none ∧ M'.1 1 0 = M.1 1 0 ∧ ((WD M' n s tr (nw + 1) ∧ M'.1 0 12 = 0 ∧ M'.1 408 3 = M.1 408 3 ∧ M'.1 377 2 = 0) ∨ (Same M M' ∧ M'.1 408 3 = M.1 408 3 + 1 ∧ M'.1 377 2 = M.1 377 2 + 1 ∧ ((3 ≤ M.1 377 2 + 1 ∧ M'.1 0 12 = 1 ∧ M'.1 405 1 = 0) ∨ (¬ 3 ≤ M.1 377 2 + 1 ∧ WD M' n s tr (nw + 1) ∧ M'.1 0 12 = 0))))) := by
  have hG := hA.core
  refine X_start (d := d + 5) (by decide) mX9_passOneUnit ?_
  show E _ _ _ (0, [some (.ref 0), none, none], [], M, 0) _
  refine E_aload_n fX9_passOneUnit_0 rfl (by decide) ?_
  refine E_dup fX9_passOneUnit_1 rfl ?_
  refine E_getI fX9_passOneUnit_2 (k0 hG) (by decide) (by decide) (by decide) ?_
  refine E_iconst (v := 1) fX9_passOneUnit_5 (by decide) ?_
  refine E_iadd fX9_passOneUnit_6 ?_
  refine E_putI fX9_passOneUnit_7 (k0 hG) (by decide) rfl ?_
  refine E_aload_n fX9_passOneUnit_10 rfl (by decide) ?_
  refine E_getR (r' := 377) fX9_passOneUnit_11 (k0 hG) (by decide) (by decide) (by decide) rfl ?_
  refine E_getR (r' := 383) fX9_passOneUnit_14 (k377 hG) (by decide) (by decide) (by decide) rfl ?_
  obtain ⟨v2, M2, hS, rfl, A2, F2⟩ := shortenShelving_ok (d := d + 3) (M := (pI M 0 7 ((M.1 0 7) + 1))) hG (hW.2.2.1.fr fun c s hc => pI_ne (by omega))
  refine E_callV (t := []) hS fX9_passOneUnit_17 mX0_shortenShelving (rc_obj (k383 hG) (by decide) (by decide)) ⟨by decide, rfl⟩ rfl rfl (Nat.le_of_ble_eq_true rfl) ?_
  refine E_aload_n fX9_passOneUnit_20 rfl (by decide) ?_
  refine E_getR (r' := 395) fX9_passOneUnit_21 (k0 hG) (by decide) (by decide) (by decide) rfl ?_
  refine E_getI fX9_passOneUnit_24 (k395 hA) (by decide) (by decide) (by decide) ?_
  refine E_istore_n (L' := [some (.ref 0), some (.int (M2.1 395 4)), none]) fX9_passOneUnit_27 rfl (Nat.le_of_ble_eq_true rfl) ?_
  refine E_aload_n fX9_passOneUnit_28 rfl (by decide) ?_
  refine E_getR (r' := 395) fX9_passOneUnit_29 (k0 hG) (by decide) (by decide) (by decide) rfl ?_
  refine E_iconst (v := 0) fX9_passOneUnit_32 (by decide) ?_
  refine E_putI fX9_passOneUnit_33 (k395 hA) (by decide) rfl ?_
  generalize hM4 : (pI M2 395 4 0) = M4
  have F4 : Fr udB M M4 := by
    rw [← hM4]
    exact Fr.pI (Fr.tr (Fr.rf.pI rfl) F2.ud) rfl
  have A4 : AI M4 := by
    rw [← hM4]
    exact A2.fr fun c s hc => pI_ne (by omega)
  have n4 : M4.1 0 7 = nI (nw + 1) := by
    rw [← hM4, pI_ne (Or.inl (by decide)), F2.1 _ _ (by decide) (by decide) (by decide), pI_at, hW.2.2.2.2.2.2.2.2.1, nI_1]
  have t4 : M4.1 395 4 = 0 := by rw [← hM4]; exact pI_at
  have W4 := hW.ud F4 A4 n4 t4
  refine E_aload_n fX9_passOneUnit_36 rfl (by decide) ?_
  refine E_callV (t := []) (lookAtStart_ok (d := d + 4) hG W4.2.2.2.2.1) fX9_passOneUnit_37 mX9_lookAtStart (rc_obj (k0 hG) (by decide) (by decide)) ⟨by decide, rfl⟩ rfl rfl (Nat.le_of_ble_eq_true rfl) ?_
  generalize hM5 : (pI M4 0 11 0) = M5
  have F5 : Fr udB M M5 := by rw [← hM5]; exact F4.pI rfl
  have W5 : WD M5 n s tr (nw + 1) := by
    have a7 : M5.1 0 7 = nI (nw + 1) := by rw [← hM5, pI_ne (Or.inr (by decide))]; exact n4
    have a4 : M5.1 395 4 = 0 := by rw [← hM5, pI_ne (Or.inl (by decide))]; exact t4
    refine hW.ud F5 (A4.fr fun c s hc => ?_) a7 a4
    rw [← hM5]
    exact pI_ne (by omega)
  have s5 : M5.1 0 12 = 0 := (F5.1 _ _ rfl).trans h12
  refine E_istore_n (L' := [some (.ref 0), some (.int (M2.1 395 4)), some (.int 0)]) fX9_passOneUnit_40 rfl (Nat.le_of_ble_eq_true rfl) ?_
  refine E_aload_n fX9_passOneUnit_41 rfl (by decide) ?_
  refine E_getI fX9_passOneUnit_42 (k0 hG) (by decide) (by decide) (by decide) ?_
  refine E_ifne (tg := 73) fX9_passOneUnit_45 (by decide) (fun c => absurd s5 c) (fun c_45 => ?_)
  refine E_iload_n fX9_passOneUnit_48 rfl ?_
  refine E_ifne (tg := 68) fX9_passOneUnit_49 (by decide) (fun c => absurd c (by decide)) (fun c_49 => ?_)
  refine E_aload_n fX9_passOneUnit_52 rfl (by decide) ?_
  refine E_getR (r' := 407) fX9_passOneUnit_53 (k0 hG) (by decide) (by decide) (by decide) rfl ?_
  refine E_iconst (v := 1) fX9_passOneUnit_56 (by decide) ?_
  refine E_aald (n := 1) (r' := 409) (K := 31) fX9_passOneUnit_57 (k407 hG) ⟨by decide, by decide⟩ (by decide) rfl (by decide) rfl ?_
  refine E_aload_n fX9_passOneUnit_58 rfl (by decide) ?_
  refine E_getI fX9_passOneUnit_59 (k0 hG) (by decide) (by decide) (by decide) ?_
  refine E_callV (t := []) (isDueAt_1 (d := d + 4) hG (M5.1 0 7)) fX9_passOneUnit_62 mX7_isDueAt (rc_obj (k409 hG) (by decide) (by decide)) ⟨by decide, rfl⟩ rfl rfl (Nat.le_of_ble_eq_true rfl) ?_
  refine E_ifeq (tg := 73) fX9_passOneUnit_65 (by decide) (fun c_65 => ?_) (fun c => absurd (by rw [W5.2.2.2.2.2.2.2.1]; exact dueI_0 _) c)
  refine E_aload_n fX9_passOneUnit_73 rfl (by decide) ?_
  refine E_getI fX9_passOneUnit_74 (k0 hG) (by decide) (by decide) (by decide) ?_
  refine E_ifne (tg := 105) fX9_passOneUnit_77 (by decide) (fun c => absurd s5 c) (fun c_77 => ?_)
  refine E_iload_n fX9_passOneUnit_80 rfl ?_
  refine E_ifne (tg := 100) fX9_passOneUnit_81 (by decide) (fun c => absurd (by have := hW.2.2.2.2.2.2.2.2.2.2.2; first | exact this | (rw [F2.1 _ _ (by decide) (by decide) (by decide), pI_ne (Or.inl (by decide))]; exact this)) c) (fun c_81 => ?_)
  refine E_aload_n fX9_passOneUnit_84 rfl (by decide) ?_
  refine E_getR (r' := 407) fX9_passOneUnit_85 (k0 hG) (by decide) (by decide) (by decide) rfl ?_
  refine E_iconst (v := 0) fX9_passOneUnit_88 (by decide) ?_
  refine E_aald (n := 0) (r' := 408) (K := 31) fX9_passOneUnit_89 (k407 hG) ⟨by decide, by decide⟩ (by decide) rfl (by decide) rfl ?_
  refine E_aload_n fX9_passOneUnit_90 rfl (by decide) ?_
  refine E_getI fX9_passOneUnit_91 (k0 hG) (by decide) (by decide) (by decide) ?_
  refine E_callV (t := []) (isDueAt_0 (d := d + 4) hG (M5.1 0 7)) fX9_passOneUnit_94 mX7_isDueAt (rc_obj (k408 hG) (by decide) (by decide)) ⟨by decide, rfl⟩ rfl rfl (Nat.le_of_ble_eq_true rfl) ?_
  refine E_ifeq (tg := 105) fX9_passOneUnit_97 (by decide) (fun c => absurd c (by rw [W5.2.2.2.2.2.2.1, dueI_1]; decide)) (fun c_97 => ?_)
  refine E_aload_n fX9_passOneUnit_100 rfl (by decide) ?_
  refine E_iconst (v := 0) fX9_passOneUnit_101 (by decide) ?_
  obtain ⟨v6, M6, hR, rfl, F6, hO⟩ := scanD_ok (d := d) hA W5 s5
  refine E_callV (t := []) hR fX9_passOneUnit_102 mX9_scanTask (rc_obj (k0 hG) (by decide) (by decide)) ⟨by decide, rfl⟩ rfl rfl (Nat.le_of_ble_eq_true rfl) ?_
  exact R_vret fX9_passOneUnit_105 mX9_passOneUnit rfl ⟨none, _, rfl, rfl, (F6.1 _ _ rfl).trans (F5.1 _ _ rfl), by
  have e2 : M5.1 377 2 = M.1 377 2 := F5.1 _ _ rfl
  have e3 : M5.1 408 3 = M.1 408 3 := F5.1 _ _ rfl
  have E5 : Same M M5 := ⟨fun k hk => ⟨F5.1 _ _ rfl, F5.1 _ _ rfl⟩, F5.2 0 rfl⟩
  rw [e2, e3] at hO
  rcases hO with h | ⟨h1, h2⟩
  · exact Or.inl h
  · exact Or.inr ⟨E5.tr h1, h2⟩⟩
/-- i units have gone by since M0 -/
def UN (M0 : Mem) (n s tr nw i : Nat) (M : Mem) : Prop := ∃ j, j ≤ i ∧ M.1 408 3 = M0.1 408 3 + nI j ∧ M.1 1 0 = M0.1 1 0 ∧ (j = 3 → M.1 0 12 = 1 ∧ M.1 405 1 = 0 ∧ Same M0 M) ∧ (j < 3 → WD M n s tr (nw + i) ∧ M.1 0 12 = 0 ∧ ∃ r, r ≤ j ∧ M.1 377 2 = nI r ∧ (j = i → r = i ∧ Same M0 M))
theorem UN.step (hA : All G) {M0 : Mem} {n s tr nw i : Nat} (h : UN M0 n s tr nw i M) (hi : i < 3) : ∃ M', Ret G (d + 6) 89 [.ref 0] M none M' ∧ UN M0 n s tr nw (i + 1) M' := by
  obtain ⟨j, hj, h3, h1, -, hx⟩ := h
  obtain ⟨W, s0, r, hr, h2, hs⟩ := hx (by omega)
  obtain ⟨v, M', hR, rfl, g1, hO⟩ := unitD_ok (d := d) hA W s0
  refine ⟨M', hR, ?_⟩
  rcases hO with ⟨W', s', a3, a2⟩ | ⟨a1, a3, a2, hO⟩
  · exact ⟨j, by omega, a3.trans h3, g1.trans h1, fun z => absurd z (by omega), fun _ => ⟨W', s', 0, Nat.zero_le _, a2, fun z => absurd z (by omega)⟩⟩
  · have e3 : M'.1 408 3 = M0.1 408 3 + nI (j + 1) := by rw [a3, h3, ← nI_1, Int32.add_assoc]
    have e2 : M'.1 377 2 = nI (r + 1) := by rw [a2, h2, nI_1]
    rw [h2, nI_1] at hO
    rcases hO with ⟨c3, b1, b2⟩ | ⟨c3, b1, b2⟩
    · have r2 : 3 ≤ r + 1 := (nI_leI (a := 3) (by decide) (by omega)).mp c3
      have hji : j = i := by omega
      exact ⟨j + 1, by omega, e3, g1.trans h1, fun _ => ⟨b1, b2, (hs hji).2.tr a1⟩, fun z => absurd z (by omega)⟩
    · have r2 : ¬ 3 ≤ r + 1 := fun z => c3 (nI_le (a := 3) z (by omega))
      have hj3 : j + 1 < 3 := by
        by_cases z : j = 2
        · have := (hs (by omega)).1
          omega
        · omega
      exact ⟨j + 1, by omega, e3, g1.trans h1, fun z => absurd z (by omega), fun _ => ⟨b1, b2, r + 1, by omega, e2, fun z => ⟨by have := (hs (by omega)).1; omega, (hs (by omega)).2.tr a1⟩⟩⟩
theorem pass3_ok (hA : All G) {n s tr nw : Nat} (hW : WD M n s tr nw) (h12 : M.1 0 12 = 0) (h2 : M.1 377 2 = 0) (hn : nw + 3 ≤ 99999) : ∃ v M', Ret G (d + 7) 50 [.ref 0, .int 3] M v M' ∧ ((∃ x, v = some (.int x)) ∧ UN M n s tr nw 3 M') := by
  have hG := hA.core
  have hU0 : UN M n s tr nw 0 M := ⟨0, Nat.le_refl _, by rw [show nI 0 = 0 from rfl, Int32.add_zero], rfl, fun z => absurd z (by decide), fun _ => ⟨hW, h12, 0, Nat.le_refl _, h2, fun _ => ⟨rfl, fun k hk => ⟨rfl, rfl⟩, rfl⟩⟩⟩
  refine X_start (d := d + 6) (by decide) mX9_pass ?_
  show E _ _ _ (0, [some (.ref 0), some (.int 3), none], [], M, 0) _
  refine E_iload_n fX9_pass_0 rfl ?_
  refine E_iconst (v := 1) fX9_pass_1 (by decide) ?_
  refine E_sipush (v := 200) fX9_pass_2 (by decide) ?_
  refine E_callS (t := []) (isBetween_ok (d := d + 5) 3 1 200) fX9_pass_5 (by decide) mX9_isBetween ⟨rfl, rfl⟩ rfl rfl (Nat.le_of_ble_eq_true rfl) ?_
  refine E_callS (t := []) (require_ok (d := d + 5) (bI_n0.mpr ⟨by decide, by decide⟩)) fX9_pass_8 (by decide) mX9_require ⟨rfl, rfl⟩ rfl rfl (Nat.le_of_ble_eq_true rfl) ?_
  refine E_aload_n fX9_pass_11 rfl (by decide) ?_
  refine E_getI fX9_pass_12 (k0 hG) (by decide) (by decide) (by decide) ?_
  refine E_iload_n fX9_pass_15 rfl ?_
  refine E_iadd fX9_pass_16 ?_
  refine E_ldcI (v := 99999) fX9_pass_17 (by decide) ?_
  refine E_icle (tg := 30) fX9_pass_19 (by decide) (fun c_19 => ?_) (fun c => absurd (by rw [hW.2.2.2.2.2.2.2.2.1, show (3 : Int32) = nI 3 from rfl, nI_add]; exact nI_le (b := 99999) hn (by decide)) c)
  refine E_iconst (v := 0) fX9_pass_30 (by decide) ?_
  refine E_istore_n (L' := [some (.ref 0), some (.int 3), some (.int 0)]) fX9_pass_31 rfl (Nat.le_of_ble_eq_true rfl) ?_
  refine E_iload_n fX9_pass_32 rfl ?_
  refine E_iload_n fX9_pass_33 rfl ?_
  refine E_icge (tg := 47) fX9_pass_34 (by decide) (fun c => absurd c (by decide)) (fun c_34 => ?_)
  refine E_aload_n fX9_pass_37 rfl (by decide) ?_
  obtain ⟨M1, hR1, hU1⟩ := UN.step (d := d) hA hU0 (by decide)
  refine E_callV (t := []) hR1 fX9_pass_38 mX9_passOneUnit (rc_obj (k0 hG) (by decide) (by decide)) ⟨by decide, rfl⟩ rfl rfl (Nat.le_of_ble_eq_true rfl) ?_
  refine E_iinc (v := 1) (L' := [some (.ref 0), some (.int 3), some (.int 1)]) fX9_pass_41 rfl rfl rfl ?_
  refine E_goto (tg := 32) fX9_pass_44 (by decide) ?_
  refine E_iload_n fX9_pass_32 rfl ?_
  refine E_iload_n fX9_pass_33 rfl ?_
  refine E_icge (tg := 47) fX9_pass_34 (by decide) (fun c => absurd c (by decide)) (fun c_34 => ?_)
  refine E_aload_n fX9_pass_37 rfl (by decide) ?_
  obtain ⟨M2, hR2, hU2⟩ := UN.step (d := d) hA hU1 (by decide)
  refine E_callV (t := []) hR2 fX9_pass_38 mX9_passOneUnit (rc_obj (k0 hG) (by decide) (by decide)) ⟨by decide, rfl⟩ rfl rfl (Nat.le_of_ble_eq_true rfl) ?_
  refine E_iinc (v := 2) (L' := [some (.ref 0), some (.int 3), some (.int 2)]) fX9_pass_41 rfl rfl rfl ?_
  refine E_goto (tg := 32) fX9_pass_44 (by decide) ?_
  refine E_iload_n fX9_pass_32 rfl ?_
  refine E_iload_n fX9_pass_33 rfl ?_
  refine E_icge (tg := 47) fX9_pass_34 (by decide) (fun c => absurd c (by decide)) (fun c_34 => ?_)
  refine E_aload_n fX9_pass_37 rfl (by decide) ?_
  obtain ⟨M3, hR3, hU3⟩ := UN.step (d := d) hA hU2 (by decide)
  refine E_callV (t := []) hR3 fX9_pass_38 mX9_passOneUnit (rc_obj (k0 hG) (by decide) (by decide)) ⟨by decide, rfl⟩ rfl rfl (Nat.le_of_ble_eq_true rfl) ?_
  refine E_iinc (v := 3) (L' := [some (.ref 0), some (.int 3), some (.int 3)]) fX9_pass_41 rfl rfl rfl ?_
  refine E_goto (tg := 32) fX9_pass_44 (by decide) ?_
  refine E_iload_n fX9_pass_32 rfl ?_
  refine E_iload_n fX9_pass_33 rfl ?_
  refine E_icge (tg := 47) fX9_pass_34 (by decide) (fun c_34 => ?_) (fun c => absurd c (by decide))
  refine E_aload_n fX9_pass_47 rfl (by decide) ?_
  refine E_getI fX9_pass_48 (k0 hG) (by decide) (by decide) (by decide) ?_
  exact R_iret fX9_pass_51 mX9_pass rfl ⟨_, _, rfl, ⟨_, rfl⟩, hU3⟩
end SP15
