section SP8
variable {G : MG} {d : Nat} {M : Mem}
/-- the rungs of the code are as they should be -/
def RK (M : Mem) (n : Nat) : Prop := n ≤ 40 ∧ M.1 1 0 = nI n ∧ ∀ i, i < n → RKc M (5 + 3 * i)
theorem rgB_low {c s : Nat} (h : c < 377) : rgB c s = false := rgB_of (by omega)
theorem RK.rg {M M1 : Mem} {n : Nat} (h : RK M n) (hF : Fr rgB M M1) : RK M1 n := ⟨h.1, (hF.1 1 0 rfl).trans h.2.1, fun i hi => (h.2.2 i hi).cg fun s => hF.1 _ s (rgB_low (by have := h.1; omega))⟩
theorem doRungs_ok (hG : Core G) {n t : Nat} (hK : RK M n) (ht : t < 2) (hA : AI M) (el : Int32) : ∃ v M', Ret G (d + 4) 94 [.ref 0, .int (nI t), .int el] M v M' ∧ (∃ q, q ≤ n ∧ v = some (.int (nI q)) ∧ AI M' ∧ Fr rgB M M') := by
  have loop : ∀ m i q g o6 o7 M1, i + m = n → q ≤ i → AI M1 → Fr rgB M M1 → E G (d + 3) 94 (8, [some (.ref 0), some (.int (nI t)), some (.int el), some (.int (nI q)), some (.int g), some (.int (nI i)), o6, o7], [], M1, 0) (fun r => ∃ v M', r = (.inl v, M', 0) ∧ (∃ q, q ≤ n ∧ v = some (.int (nI q)) ∧ AI M' ∧ Fr rgB M M')) := by
    intro m
    induction m with
    | zero =>
      intro i q g o6 o7 M1 hi hq hA1 hF
      have hK1 := hK.rg hF
      have e : i = n := by omega
      subst e
      refine E_iload fX9_doRungs_8 rfl ?_
      refine E_aload_n fX9_doRungs_10 rfl (by decide) ?_
      refine E_getR (r' := 1) fX9_doRungs_11 (k0 hG) (by decide) (by decide) (by decide) rfl ?_
      refine E_getI fX9_doRungs_14 (k1 hG) (by decide) (by decide) (by decide) ?_
      refine E_icge (tg := 115) fX9_doRungs_17 (by decide) (fun c_17 => ?_) (fun c => absurd (by rw [hK1.2.1]; exact Int32.le_refl _) c)
      refine E_iload_n fX9_doRungs_115 rfl ?_
      exact R_iret fX9_doRungs_116 mX9_doRungs rfl ⟨_, _, rfl, q, hq, rfl, hA1, hF⟩
    | succ m ih =>
      intro i q g o6 o7 M1 hi hq hA1 hF
      have hK1 := hK.rg hF
      have hlt : i < n := by omega
      have h40 : i < 40 := by have := hK.1; omega
      have hKi := hK1.2.2 i hlt
      refine E_iload fX9_doRungs_8 rfl ?_
      refine E_aload_n fX9_doRungs_10 rfl (by decide) ?_
      refine E_getR (r' := 1) fX9_doRungs_11 (k0 hG) (by decide) (by decide) (by decide) rfl ?_
      refine E_getI fX9_doRungs_14 (k1 hG) (by decide) (by decide) (by decide) ?_
      refine E_icge (tg := 115) fX9_doRungs_17 (by decide) (fun c => absurd c (by rw [hK1.2.1]; exact nI_ge hlt (by have := hK.1; omega))) (fun c_17 => ?_)
      refine E_aload_n fX9_doRungs_20 rfl (by decide) ?_
      refine E_getR (r' := 1) fX9_doRungs_21 (k0 hG) (by decide) (by decide) (by decide) rfl ?_
      refine E_getR (r' := 2) fX9_doRungs_24 (k1 hG) (by decide) (by decide) (by decide) rfl ?_
      refine E_iload fX9_doRungs_27 rfl ?_
      refine E_aald (n := i) (r' := 5 + 3 * i) (K := 28) fX9_doRungs_29 (k2 hG) ⟨by decide, by decide⟩ (by decide) rfl (by show i < 40; omega) (by show 2 + (3 + 3 * i) = 5 + 3 * i; omega) ?_
      refine E_astore (L' := [some (.ref 0), some (.int (nI t)), some (.int el), some (.int (nI q)), some (.int g), some (.int (nI i)), some (.ref (5 + 3 * i)), o7]) fX9_doRungs_30 rfl (Nat.le_of_ble_eq_true rfl) (by have := (kr0_lt h40); omega) ?_
      refine E_aload fX9_doRungs_32 rfl (by have := (kr0_lt h40); omega) ?_
      refine E_getI fX9_doRungs_34 (kr0 hG h40) (kr0_lt h40) (by decide) (by decide) ?_
      refine E_iload_n fX9_doRungs_37 rfl ?_
      refine E_icne (tg := 109) fX9_doRungs_38 (by decide) (fun c_38 => ?_) (fun c_38 => ?_)
      · refine E_iinc (v := nI (i + 1)) (L' := [some (.ref 0), some (.int (nI t)), some (.int el), some (.int (nI q)), some (.int g), some (.int (nI (i + 1))), some (.ref (5 + 3 * i)), o7]) fX9_doRungs_109 rfl (inc1 _) rfl ?_
        refine E_goto (tg := 8) fX9_doRungs_112 (by decide) ?_
        exact ih (i + 1) q _ _ _ M1 (by omega) (by omega) hA1 hF
      · refine E_iload fX9_doRungs_41 rfl ?_
        refine E_iload fX9_doRungs_43 rfl ?_
        refine E_iclt (tg := 109) fX9_doRungs_45 (by decide) (fun c_45 => ?_) (fun c_45 => ?_)
        · refine E_iinc (v := nI (i + 1)) (L' := [some (.ref 0), some (.int (nI t)), some (.int el), some (.int (nI q)), some (.int g), some (.int (nI (i + 1))), some (.ref (5 + 3 * i)), o7]) fX9_doRungs_109 rfl (inc1 _) rfl ?_
          refine E_goto (tg := 8) fX9_doRungs_112 (by decide) ?_
          exact ih (i + 1) q _ _ _ M1 (by omega) (by omega) hA1 hF
        · refine E_iinc (v := nI (q + 1)) (L' := [some (.ref 0), some (.int (nI t)), some (.int el), some (.int (nI (q + 1))), some (.int g), some (.int (nI i)), some (.ref (5 + 3 * i)), o7]) fX9_doRungs_48 rfl (inc1 _) rfl ?_
          refine E_iload_n fX9_doRungs_51 rfl ?_
          refine E_aload_n fX9_doRungs_52 rfl (by decide) ?_
          refine E_getR (r' := 407) fX9_doRungs_53 (k0 hG) (by decide) (by decide) (by decide) rfl ?_
          refine E_iload_n fX9_doRungs_56 rfl ?_
          refine E_aald (n := t) (r' := 408 + t) (K := 31) fX9_doRungs_57 (k407 hG) ⟨by decide, by decide⟩ (by decide) rfl (by show t < 2; omega) (by show 407 + (1 + t) = 408 + t; omega) ?_
          refine E_getI fX9_doRungs_58 (kk0 hG ht) (kk0_lt ht) (by decide) (by decide) ?_
          refine E_icle (tg := 66) fX9_doRungs_61 (by decide) (fun c_61 => ?_) (fun c_61 => ?_)
          · refine E_aload_n fX9_doRungs_66 rfl (by decide) ?_
            refine E_iload fX9_doRungs_67 rfl ?_
            refine E_aload fX9_doRungs_69 rfl (by have := (kr0_lt h40); omega) ?_
            obtain ⟨v1, M2, hR1, ⟨z, rfl, hz⟩, x, rfl⟩ := lookAtContacts_ok (d := d + 1) (M := M1) hG h40 h40 hKi
            have hF2 : Fr rgB M1 (pI M1 381 i x) := Fr.rf.pI rfl
            have hA2 : AI (pI M1 381 i x) := AI.rw hA1 (Fr.rf.pI rfl)
            have hK2 : RKc (pI M1 381 i x) (5 + 3 * i) := hKi.cg fun s => hF2.1 _ s (rgB_low (by omega))
            generalize (pI M1 381 i x) = M2 at hR1 hF2 hA2 hK2
            refine E_callV (t := []) hR1 fX9_doRungs_71 mX9_lookAtContacts (rc_obj (k0 hG) (by decide) (by decide)) ⟨by decide, rfl⟩ rfl rfl (by decide) ?_
            refine E_istore (L' := [some (.ref 0), some (.int (nI t)), some (.int el), some (.int (nI (q + 1))), some (.int g), some (.int (nI i)), some (.ref (5 + 3 * i)), some (.int z)]) fX9_doRungs_74 rfl (Nat.le_of_ble_eq_true rfl) ?_
            refine E_aload_n fX9_doRungs_76 rfl (by decide) ?_
            refine E_iload fX9_doRungs_77 rfl ?_
            refine E_aload fX9_doRungs_79 rfl (by have := (kr0_lt h40); omega) ?_
            refine E_iload fX9_doRungs_81 rfl ?_
            refine E_iload_n fX9_doRungs_83 rfl ?_
            obtain ⟨v3, M3, hR3, rfl, hA3, hF3⟩ := doRung_ok (d := d) (M := M2) hG h40 hK2 hA2 (nI i) z el
            refine E_callV (t := []) hR3 fX9_doRungs_84 mX9_doRung (rc_obj (k0 hG) (by decide) (by decide)) ⟨by decide, rfl⟩ rfl rfl (by decide) ?_
            refine E_aload fX9_doRungs_87 rfl (by have := (kr0_lt h40); omega) ?_
            refine E_getI fX9_doRungs_89 (kr0 hG h40) (kr0_lt h40) (by decide) (by decide) ?_
            refine E_bipush (v := 74) fX9_doRungs_92 (by decide) ?_
            refine E_icne (tg := 109) fX9_doRungs_94 (by decide) (fun c_94 => ?_) (fun c_94 => ?_)
            · refine E_iinc (v := nI (i + 1)) (L' := [some (.ref 0), some (.int (nI t)), some (.int el), some (.int (nI (q + 1))), some (.int g), some (.int (nI (i + 1))), some (.ref (5 + 3 * i)), some (.int z)]) fX9_doRungs_109 rfl (inc1 _) rfl ?_
              refine E_goto (tg := 8) fX9_doRungs_112 (by decide) ?_
              exact ih (i + 1) (q + 1) _ _ _ M3 (by omega) (by omega) hA3 ((hF.tr hF2).tr hF3)
            · refine E_iload fX9_doRungs_97 rfl ?_
              refine E_ifeq (tg := 109) fX9_doRungs_99 (by decide) (fun c_99 => ?_) (fun c_99 => ?_)
              · refine E_iinc (v := nI (i + 1)) (L' := [some (.ref 0), some (.int (nI t)), some (.int el), some (.int (nI (q + 1))), some (.int g), some (.int (nI (i + 1))), some (.ref (5 + 3 * i)), some (.int z)]) fX9_doRungs_109 rfl (inc1 _) rfl ?_
                refine E_goto (tg := 8) fX9_doRungs_112 (by decide) ?_
                exact ih (i + 1) (q + 1) _ _ _ M3 (by omega) (by omega) hA3 ((hF.tr hF2).tr hF3)
              · refine E_aload fX9_doRungs_102 rfl (by have := (kr0_lt h40); omega) ?_
                refine E_getI fX9_doRungs_104 (kr0 hG h40) (kr0_lt h40) (by decide) (by decide) ?_
                refine E_istore (L' := [some (.ref 0), some (.int (nI t)), some (.int el), some (.int (nI (q + 1))), some (.int (M3.1 (5 + 3 * i) 3)), some (.int (nI i)), some (.ref (5 + 3 * i)), some (.int z)]) fX9_doRungs_107 rfl (Nat.le_of_ble_eq_true rfl) ?_
                refine E_iinc (v := nI (i + 1)) (L' := [some (.ref 0), some (.int (nI t)), some (.int el), some (.int (nI (q + 1))), some (.int (M3.1 (5 + 3 * i) 3)), some (.int (nI (i + 1))), some (.ref (5 + 3 * i)), some (.int z)]) fX9_doRungs_109 rfl (inc1 _) rfl ?_
                refine E_goto (tg := 8) fX9_doRungs_112 (by decide) ?_
                exact ih (i + 1) (q + 1) _ _ _ M3 (by omega) (by omega) hA3 ((hF.tr hF2).tr hF3)
          · refine E_iload_n fX9_doRungs_64 rfl ?_
            exact R_iret fX9_doRungs_65 mX9_doRungs rfl ⟨_, _, rfl, q + 1, by omega, rfl, hA1, hF⟩
  refine X_start (d := d + 3) (by decide) mX9_doRungs ?_
  show E _ _ _ (0, [some (.ref 0), some (.int (nI t)), some (.int el), none, none, none, none, none], [], M, 0) _
  refine E_iconst (v := 0) fX9_doRungs_0 (by decide) ?_
  refine E_istore_n (L' := [some (.ref 0), some (.int (nI t)), some (.int el), some (.int 0), none, none, none, none]) fX9_doRungs_1 rfl (Nat.le_of_ble_eq_true rfl) ?_
  refine E_iconst (v := 0) fX9_doRungs_2 (by decide) ?_
  refine E_istore (L' := [some (.ref 0), some (.int (nI t)), some (.int el), some (.int 0), some (.int 0), none, none, none]) fX9_doRungs_3 rfl (Nat.le_of_ble_eq_true rfl) ?_
  refine E_iconst (v := 0) fX9_doRungs_5 (by decide) ?_
  refine E_istore (L' := [some (.ref 0), some (.int (nI t)), some (.int el), some (.int 0), some (.int 0), some (.int 0), none, none]) fX9_doRungs_6 rfl (Nat.le_of_ble_eq_true rfl) ?_
  exact loop n 0 0 0 _ _ M (by omega) (by omega) hA Fr.rf
end SP8
