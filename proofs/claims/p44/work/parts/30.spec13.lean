section SP13
variable {G : MG} {d : Nat} {M : Mem}
def stB (c s : Nat) : Bool := 377 ≤ c && c < 386
theorem AFr.st {M M1 : Mem} (h : AFr M M1) : Fr stB M M1 := ⟨fun c s hc => h.1 c s (by rintro rfl; cases hc) (by rintro rfl; cases hc) (by rintro rfl; cases hc), fun c _ => h.2 c⟩
/-- the state is as at the start -/
def Z0 (M : Mem) : Prop := M.1 377 1 = 1 ∧ (∀ k, k < 8 → M.1 378 k = 0 ∧ M.1 379 k = 0) ∧ (∀ k, k < 12 → M.1 380 k = 0) ∧ M.1 383 0 = 0 ∧ M.1 383 4 = 0 ∧ ∀ k, k < 8 → M.1 384 k = 0
theorem stClear_ok (hG : Core G) (tm : Int32) : ∃ v M', Ret G (d + 2) 28 [.ref 377, .int tm] M v M' ∧ (v = none ∧ Fr stB M M' ∧ Z0 M') := by
  have loop4 : ∀ m i M1, i + m = 2 → Fr stB M M1 → M1.1 377 1 = 1 → (∀ k, k < 8 → M1.1 378 k = 0 ∧ M1.1 379 k = 0) → (∀ k, k < 12 → M1.1 380 k = 0) → E G (d + 1) 28 (92, [some (.ref 377), some (.int tm), some (.int (nI i))], [], M1, 0) (fun r => ∃ v M', r = (.inl v, M', 0) ∧ (v = none ∧ Fr stB M M' ∧ Z0 M')) := by
    intro m
    induction m with
    | zero =>
      intro i M1 hi g1 g2 g3 g4
      have e : i = 2 := by omega
      refine E_iload_n fX5_clear_92 rfl ?_
      refine E_iconst (v := 2) fX5_clear_93 (by decide) ?_
      refine E_icge (tg := 110) fX5_clear_94 (by decide) (fun c_94 => ?_) (fun c => absurd (by rw [e]; exact Int32.le_refl _) c)
      refine E_aload_n fX5_clear_110 rfl (by decide) ?_
      refine E_getR (r' := 383) fX5_clear_111 (k377 hG) (by decide) (by decide) (by decide) rfl ?_
      obtain ⟨v2, M2, hR2, rfl, hF2, y0, y4, ys⟩ := alClear_ok (d := d) (M := M1) hG
      refine E_callV (t := []) hR2 fX5_clear_114 mX0_clear (rc_obj (k383 hG) (by decide) (by decide)) ⟨by decide, rfl⟩ rfl rfl (Nat.le_of_ble_eq_true rfl) ?_
      exact R_vret fX5_clear_117 mX5_clear rfl ⟨_, _, rfl, rfl, g1.tr hF2.st, (hF2.1 377 1 (by decide) (by decide) (by decide)).trans g2, fun k hk => ⟨(hF2.1 378 k (by decide) (by decide) (by decide)).trans (g3 k hk).1, (hF2.1 379 k (by decide) (by decide) (by decide)).trans (g3 k hk).2⟩, fun k hk => (hF2.1 380 k (by decide) (by decide) (by decide)).trans (g4 k hk), y0, y4, ys⟩
    | succ m ih =>
      intro i M1 hi g1 g2 g3 g4
      have hlt : i < 2 := by omega
      refine E_iload_n fX5_clear_92 rfl ?_
      refine E_iconst (v := 2) fX5_clear_93 (by decide) ?_
      refine E_icge (tg := 110) fX5_clear_94 (by decide) (fun c => absurd c (by rw [show (2 : Int32) = nI 2 from rfl]; exact nI_ge hlt (by omega))) (fun c_94 => ?_)
      refine E_aload_n fX5_clear_97 rfl (by decide) ?_
      refine E_getR (r' := 382) fX5_clear_98 (k377 hG) (by decide) (by decide) (by decide) rfl ?_
      refine E_iload_n fX5_clear_101 rfl ?_
      refine E_iload_n fX5_clear_102 rfl ?_
      refine E_iast (n := i) (K := 23) fX5_clear_103 (k382 hG) ⟨by decide, by decide⟩ (by decide) rfl (by show i < 2; omega) ?_
      refine E_iinc (v := nI (i + 1)) (L' := [some (.ref 377), some (.int tm), some (.int (nI (i + 1)))]) fX5_clear_104 rfl (inc1 _) rfl ?_
      refine E_goto (tg := 92) fX5_clear_107 (by decide) ?_
      exact ih (i + 1) _ (by omega) (g1.pI rfl) ((pI_ne (Or.inl (by decide))).trans g2) (fun k hk => ⟨(pI_ne (Or.inl (by decide))).trans (g3 k hk).1, (pI_ne (Or.inl (by decide))).trans (g3 k hk).2⟩) (fun k hk => (pI_ne (Or.inl (by decide))).trans (g4 k hk))
  have loop3 : ∀ m i M1, i + m = 40 → Fr stB M M1 → M1.1 377 1 = 1 → (∀ k, k < 8 → M1.1 378 k = 0 ∧ M1.1 379 k = 0) → (∀ k, k < 12 → M1.1 380 k = 0) → E G (d + 1) 28 (71, [some (.ref 377), some (.int tm), some (.int (nI i))], [], M1, 0) (fun r => ∃ v M', r = (.inl v, M', 0) ∧ (v = none ∧ Fr stB M M' ∧ Z0 M')) := by
    intro m
    induction m with
    | zero =>
      intro i M1 hi g1 g2 g3 g4
      have e : i = 40 := by omega
      refine E_iload_n fX5_clear_71 rfl ?_
      refine E_bipush (v := 40) fX5_clear_72 (by decide) ?_
      refine E_icge (tg := 90) fX5_clear_74 (by decide) (fun c_74 => ?_) (fun c => absurd (by rw [e]; exact Int32.le_refl _) c)
      refine E_iconst (v := 0) fX5_clear_90 (by decide) ?_
      refine E_istore_n (L' := [some (.ref 377), some (.int tm), some (.int 0)]) fX5_clear_91 rfl (Nat.le_of_ble_eq_true rfl) ?_
      exact loop4 2 0 M1 (by omega) g1 g2 g3 g4
    | succ m ih =>
      intro i M1 hi g1 g2 g3 g4
      have hlt : i < 40 := by omega
      refine E_iload_n fX5_clear_71 rfl ?_
      refine E_bipush (v := 40) fX5_clear_72 (by decide) ?_
      refine E_icge (tg := 90) fX5_clear_74 (by decide) (fun c => absurd c (by rw [show (40 : Int32) = nI 40 from rfl]; exact nI_ge hlt (by omega))) (fun c_74 => ?_)
      refine E_aload_n fX5_clear_77 rfl (by decide) ?_
      refine E_getR (r' := 381) fX5_clear_78 (k377 hG) (by decide) (by decide) (by decide) rfl ?_
      refine E_iload_n fX5_clear_81 rfl ?_
      refine E_iconst (v := 0) fX5_clear_82 (by decide) ?_
      refine E_iast (n := i) (K := 22) fX5_clear_83 (k381 hG) ⟨by decide, by decide⟩ (by decide) rfl (by show i < 40; omega) ?_
      refine E_iinc (v := nI (i + 1)) (L' := [some (.ref 377), some (.int tm), some (.int (nI (i + 1)))]) fX5_clear_84 rfl (inc1 _) rfl ?_
      refine E_goto (tg := 71) fX5_clear_87 (by decide) ?_
      exact ih (i + 1) _ (by omega) (g1.pI rfl) ((pI_ne (Or.inl (by decide))).trans g2) (fun k hk => ⟨(pI_ne (Or.inl (by decide))).trans (g3 k hk).1, (pI_ne (Or.inl (by decide))).trans (g3 k hk).2⟩) (fun k hk => (pI_ne (Or.inl (by decide))).trans (g4 k hk))
  have loop2 : ∀ m i M1, i + m = 12 → Fr stB M M1 → M1.1 377 1 = 1 → (∀ k, k < 8 → M1.1 378 k = 0 ∧ M1.1 379 k = 0) → (∀ k, k < i → M1.1 380 k = 0) → E G (d + 1) 28 (50, [some (.ref 377), some (.int tm), some (.int (nI i))], [], M1, 0) (fun r => ∃ v M', r = (.inl v, M', 0) ∧ (v = none ∧ Fr stB M M' ∧ Z0 M')) := by
    intro m
    induction m with
    | zero =>
      intro i M1 hi g1 g2 g3 g4
      have e : i = 12 := by omega
      refine E_iload_n fX5_clear_50 rfl ?_
      refine E_bipush (v := 12) fX5_clear_51 (by decide) ?_
      refine E_icge (tg := 69) fX5_clear_53 (by decide) (fun c_53 => ?_) (fun c => absurd (by rw [e]; exact Int32.le_refl _) c)
      refine E_iconst (v := 0) fX5_clear_69 (by decide) ?_
      refine E_istore_n (L' := [some (.ref 377), some (.int tm), some (.int 0)]) fX5_clear_70 rfl (Nat.le_of_ble_eq_true rfl) ?_
      exact loop3 40 0 M1 (by omega) g1 g2 g3 (e ▸ g4)
    | succ m ih =>
      intro i M1 hi g1 g2 g3 g4
      have hlt : i < 12 := by omega
      refine E_iload_n fX5_clear_50 rfl ?_
      refine E_bipush (v := 12) fX5_clear_51 (by decide) ?_
      refine E_icge (tg := 69) fX5_clear_53 (by decide) (fun c => absurd c (by rw [show (12 : Int32) = nI 12 from rfl]; exact nI_ge hlt (by omega))) (fun c_53 => ?_)
      refine E_aload_n fX5_clear_56 rfl (by decide) ?_
      refine E_getR (r' := 380) fX5_clear_57 (k377 hG) (by decide) (by decide) (by decide) rfl ?_
      refine E_iload_n fX5_clear_60 rfl ?_
      refine E_iconst (v := 0) fX5_clear_61 (by decide) ?_
      refine E_iast (n := i) (K := 21) fX5_clear_62 (k380 hG) ⟨by decide, by decide⟩ (by decide) rfl (by show i < 12; omega) ?_
      refine E_iinc (v := nI (i + 1)) (L' := [some (.ref 377), some (.int tm), some (.int (nI (i + 1)))]) fX5_clear_63 rfl (inc1 _) rfl ?_
      refine E_goto (tg := 50) fX5_clear_66 (by decide) ?_
      exact ih (i + 1) _ (by omega) (g1.pI rfl) ((pI_ne (Or.inl (by decide))).trans g2) (fun k hk => ⟨(pI_ne (Or.inl (by decide))).trans (g3 k hk).1, (pI_ne (Or.inl (by decide))).trans (g3 k hk).2⟩) (fun k hk => by
        by_cases z : k = i
        · subst z; exact pI_at
        · exact (pI_ne (Or.inr z)).trans (g4 k (by omega)))
  have loop1 : ∀ m i M1, i + m = 8 → Fr stB M M1 → M1.1 377 1 = 1 → (∀ k, k < i → M1.1 378 k = 0 ∧ M1.1 379 k = 0) → E G (d + 1) 28 (22, [some (.ref 377), some (.int tm), some (.int (nI i))], [], M1, 0) (fun r => ∃ v M', r = (.inl v, M', 0) ∧ (v = none ∧ Fr stB M M' ∧ Z0 M')) := by
    intro m
    induction m with
    | zero =>
      intro i M1 hi g1 g2 g3
      have e : i = 8 := by omega
      refine E_iload_n fX5_clear_22 rfl ?_
      refine E_bipush (v := 8) fX5_clear_23 (by decide) ?_
      refine E_icge (tg := 48) fX5_clear_25 (by decide) (fun c_25 => ?_) (fun c => absurd (by rw [e]; exact Int32.le_refl _) c)
      refine E_iconst (v := 0) fX5_clear_48 (by decide) ?_
      refine E_istore_n (L' := [some (.ref 377), some (.int tm), some (.int 0)]) fX5_clear_49 rfl (Nat.le_of_ble_eq_true rfl) ?_
      exact loop2 12 0 M1 (by omega) g1 g2 (e ▸ g3) (fun k hk => absurd hk (Nat.not_lt_zero k))
    | succ m ih =>
      intro i M1 hi g1 g2 g3
      have hlt : i < 8 := by omega
      refine E_iload_n fX5_clear_22 rfl ?_
      refine E_bipush (v := 8) fX5_clear_23 (by decide) ?_
      refine E_icge (tg := 48) fX5_clear_25 (by decide) (fun c => absurd c (by rw [show (8 : Int32) = nI 8 from rfl]; exact nI_ge hlt (by omega))) (fun c_25 => ?_)
      refine E_aload_n fX5_clear_28 rfl (by decide) ?_
      refine E_getR (r' := 378) fX5_clear_29 (k377 hG) (by decide) (by decide) (by decide) rfl ?_
      refine E_iload_n fX5_clear_32 rfl ?_
      refine E_iconst (v := 0) fX5_clear_33 (by decide) ?_
      refine E_iast (n := i) (K := 20) fX5_clear_34 (k378 hG) ⟨by decide, by decide⟩ (by decide) rfl (by show i < 8; omega) ?_
      refine E_aload_n fX5_clear_35 rfl (by decide) ?_
      refine E_getR (r' := 379) fX5_clear_36 (k377 hG) (by decide) (by decide) (by decide) rfl ?_
      refine E_iload_n fX5_clear_39 rfl ?_
      refine E_iconst (v := 0) fX5_clear_40 (by decide) ?_
      refine E_iast (n := i) (K := 20) fX5_clear_41 (k379 hG) ⟨by decide, by decide⟩ (by decide) rfl (by show i < 8; omega) ?_
      refine E_iinc (v := nI (i + 1)) (L' := [some (.ref 377), some (.int tm), some (.int (nI (i + 1)))]) fX5_clear_42 rfl (inc1 _) rfl ?_
      refine E_goto (tg := 22) fX5_clear_45 (by decide) ?_
      exact ih (i + 1) _ (by omega) ((g1.pI rfl).pI rfl) ((pI_ne (Or.inl (by decide))).trans ((pI_ne (Or.inl (by decide))).trans g2)) (fun k hk => by
        by_cases z : k = i
        · subst z; exact ⟨(pI_ne (Or.inl (by decide))).trans pI_at, pI_at⟩
        · exact ⟨(pI_ne (Or.inl (by decide))).trans ((pI_ne (Or.inr z)).trans (g3 k (by omega)).1), (pI_ne (Or.inr z)).trans ((pI_ne (Or.inl (by decide))).trans (g3 k (by omega)).2)⟩)
  refine X_start (d := d + 1) (by decide) mX5_clear ?_
  show E _ _ _ (0, [some (.ref 377), some (.int tm), none], [], M, 0) _
  refine E_aload_n fX5_clear_0 rfl (by decide) ?_
  refine E_iconst (v := 0) fX5_clear_1 (by decide) ?_
  refine E_putI fX5_clear_2 (k377 hG) (by decide) rfl ?_
  refine E_aload_n fX5_clear_5 rfl (by decide) ?_
  refine E_iconst (v := 1) fX5_clear_6 (by decide) ?_
  refine E_putI fX5_clear_7 (k377 hG) (by decide) rfl ?_
  refine E_aload_n fX5_clear_10 rfl (by decide) ?_
  refine E_iconst (v := 0) fX5_clear_11 (by decide) ?_
  refine E_putI fX5_clear_12 (k377 hG) (by decide) rfl ?_
  refine E_aload_n fX5_clear_15 rfl (by decide) ?_
  refine E_lconst (v := 0) fX5_clear_16 (by decide) ?_
  refine E_putL fX5_clear_17 (k377 hG) (by decide) (by decide) ?_
  refine E_iconst (v := 0) fX5_clear_20 (by decide) ?_
  refine E_istore_n (L' := [some (.ref 377), some (.int tm), some (.int 0)]) fX5_clear_21 rfl (Nat.le_of_ble_eq_true rfl) ?_
  exact loop1 8 0 _ (by omega) (Fr.pL (Fr.pI (Fr.pI (Fr.pI Fr.rf rfl) rfl) rfl) rfl) (by show (pI (pI (pI M 377 0 0) 377 1 1) 377 2 0).1 377 1 = 1; rw [pI_ne (Or.inr (by decide)), pI_at]) (fun k hk => absurd hk (Nat.not_lt_zero k))
theorem stopAll_ok (hG : Core G) : ∃ v M', Ret G (d + 3) 93 [.ref 0] M v M' ∧ (v = none ∧ ∃ M1, PFr M M1 ∧ M1.1 405 1 = 0 ∧ M' = pI M1 0 12 1) := by
  refine X_start (d := d + 2) (by decide) mX9_stopAll ?_
  show E _ _ _ (0, [some (.ref 0)], [], M, 0) _
  refine E_aload_n fX9_stopAll_0 rfl (by decide) ?_
  refine E_getR (r' := 405) fX9_stopAll_1 (k0 hG) (by decide) (by decide) (by decide) rfl ?_
  refine E_iconst (v := 0) fX9_stopAll_4 (by decide) ?_
  obtain ⟨v1, M1, hR1, rfl, hP, h0⟩ := giveAll_ok (d := d) (M := M) hG 0
  refine E_callV (t := []) hR1 fX9_stopAll_5 mX1_giveAll (rc_obj (k405 hG) (by decide) (by decide)) ⟨by decide, rfl⟩ rfl rfl (Nat.le_of_ble_eq_true rfl) ?_
  refine E_aload_n fX9_stopAll_8 rfl (by decide) ?_
  refine E_iconst (v := 1) fX9_stopAll_9 (by decide) ?_
  refine E_putI fX9_stopAll_10 (k0 hG) (by decide) rfl ?_
  exact R_vret fX9_stopAll_13 mX9_stopAll rfl ⟨_, _, rfl, rfl, M1, hP, h0, rfl⟩
theorem fail_no (hA : All G) (h1 : M.1 395 1 = 1) (h2 : M.1 395 2 = 0) : ∃ v M', Ret G (d + 4) 53 [.ref 0] M v M' ∧ (v = some (.int 0) ∧ M'.1 0 12 = 1 ∧ M'.1 405 1 = 0 ∧ ∀ c s, c ≠ 395 → c ≠ 405 → c ≠ 406 → (c ≠ 0 ∨ s ≠ 12) → M'.1 c s = M.1 c s) := by
  have hG := hA.core
  refine X_start (d := d + 3) (by decide) mX9_fail ?_
  show E _ _ _ (0, [some (.ref 0), none], [], M, 0) _
  refine E_aload_n fX9_fail_0 rfl (by decide) ?_
  refine E_getR (r' := 395) fX9_fail_1 (k0 hG) (by decide) (by decide) (by decide) rfl ?_
  refine E_getI fX9_fail_4 (k395 hA) (by decide) (by decide) (by decide) ?_
  refine E_ifeq (tg := 24) fX9_fail_7 (by decide) (fun c => absurd (h1.symm.trans c) (by decide)) (fun c_7 => ?_)
  refine E_aload_n fX9_fail_10 rfl (by decide) ?_
  refine E_getR (r' := 395) fX9_fail_11 (k0 hG) (by decide) (by decide) (by decide) rfl ?_
  refine E_getI fX9_fail_14 (k395 hA) (by decide) (by decide) (by decide) ?_
  refine E_ifeq (tg := 24) fX9_fail_17 (by decide) (fun c_17 => ?_) (fun c => absurd h2 c)
  refine E_iconst (v := 0) fX9_fail_24 (by decide) ?_
  refine E_istore_n (L' := [some (.ref 0), some (.int 0)]) fX9_fail_25 rfl (Nat.le_of_ble_eq_true rfl) ?_
  refine E_iload_n fX9_fail_26 rfl ?_
  refine E_ifeq (tg := 55) fX9_fail_27 (by decide) (fun c_27 => ?_) (fun c => absurd c (by decide))
  refine E_aload_n fX9_fail_55 rfl (by decide) ?_
  obtain ⟨v1, M1, hR1, rfl, M2, hP, h0, rfl⟩ := stopAll_ok (d := d) (M := M) hG
  refine E_callV (t := []) hR1 fX9_fail_56 mX9_stopAll (rc_obj (k0 hG) (by decide) (by decide)) ⟨by decide, rfl⟩ rfl rfl (Nat.le_of_ble_eq_true rfl) ?_
  refine E_aload_n fX9_fail_59 rfl (by decide) ?_
  refine E_getR (r' := 395) fX9_fail_60 (k0 hG) (by decide) (by decide) (by decide) rfl ?_
  refine E_iconst (v := 0) fX9_fail_63 (by decide) ?_
  refine E_putI fX9_fail_64 (k395 hA) (by decide) rfl ?_
  refine E_aload_n fX9_fail_67 rfl (by decide) ?_
  refine E_getR (r' := 395) fX9_fail_68 (k0 hG) (by decide) (by decide) (by decide) rfl ?_
  refine E_iconst (v := 0) fX9_fail_71 (by decide) ?_
  refine E_putI fX9_fail_72 (k395 hA) (by decide) rfl ?_
  refine E_iload_n fX9_fail_75 rfl ?_
  exact R_iret fX9_fail_76 mX9_fail rfl ⟨_, _, rfl, rfl, (by rw [pI_ne (Or.inl (by decide)), pI_ne (Or.inl (by decide)), pI_at]), (by rw [pI_ne (Or.inl (by decide)), pI_ne (Or.inl (by decide)), pI_ne (Or.inl (by decide)), h0]), fun c s a1 a2 a3 a4 => by rw [pI_ne (Or.inl a1), pI_ne (Or.inl a1), pI_ne a4, hP.1 c s a3 (Or.inl a2)]⟩
theorem got_same {U : Mem} {N1 : Mem} (hg : got M U) (hC : Cpd 377 396 (mx M U) N1) : N1 = mx M U := by
  obtain ⟨c1, c2, c3, c4⟩ := hC
  obtain ⟨-, g1, g2⟩ := hg
  refine Prod.ext ?_ ?_
  · funext c s
    by_cases h : ∃ off, off < 9 ∧ c = 377 + off ∧ slotOk off s
    · obtain ⟨off, ho, rfl, hs⟩ := h
      rw [c2 off s ho hs, mx_in (by omega), mx_out (by omega)]
      exact g1 off s ho hs
    · exact c1 c s h
  · funext c
    by_cases h : c = 377
    · subst h
      rw [c4, mx_inL (by omega), mx_outL (by omega)]
      exact g2
    · exact c3 c h
theorem fail_yes (hA : All G) {U : Mem} (h1 : U.1 395 1 = 1) (hg : got M U) : Ret G (d + 3) 53 [.ref 0] (mx M U) (some (.int 1)) (mx M (pI (pI (pI U 395 4 1) 395 1 0) 395 3 0)) := by
  have hG := hA.core
  obtain ⟨v1, N1, hR1, rfl, hC⟩ := stCopy_377_396 (d := d) (M := mx M U) hG hA
  have e := got_same hg hC
  rw [e] at hR1
  refine R_start (d := d + 2) (by decide) mX9_fail ?_
  show E _ _ _ (0, [some (.ref 0), none], [], mx M U, 0) _
  refine E_aload_n fX9_fail_0 rfl (by decide) ?_
  refine E_getR (r' := 395) fX9_fail_1 (k0 hG) (by decide) (by decide) (by decide) rfl ?_
  refine E_getI fX9_fail_4 (k395 hA) (by decide) (by decide) (by decide) ?_
  refine E_ifeq (tg := 24) fX9_fail_7 (by decide) (fun c => absurd ((h1.symm.trans (mx_in (M := M) (by omega)).symm).trans c) (by decide)) (fun c_7 => ?_)
  refine E_aload_n fX9_fail_10 rfl (by decide) ?_
  refine E_getR (r' := 395) fX9_fail_11 (k0 hG) (by decide) (by decide) (by decide) rfl ?_
  refine E_getI fX9_fail_14 (k395 hA) (by decide) (by decide) (by decide) ?_
  refine E_ifeq (tg := 24) fX9_fail_17 (by decide) (fun c => absurd ((hg.1.symm.trans (mx_in (M := M) (by omega)).symm).trans c) (by decide)) (fun c_17 => ?_)
  refine E_iconst (v := 1) fX9_fail_20 (by decide) ?_
  refine E_goto (tg := 25) fX9_fail_21 (by decide) ?_
  refine E_istore_n (L' := [some (.ref 0), some (.int 1)]) fX9_fail_25 rfl (Nat.le_of_ble_eq_true rfl) ?_
  refine E_iload_n fX9_fail_26 rfl ?_
  refine E_ifeq (tg := 55) fX9_fail_27 (by decide) (fun c => absurd c (by decide)) (fun c_27 => ?_)
  refine E_aload_n fX9_fail_30 rfl (by decide) ?_
  refine E_getR (r' := 377) fX9_fail_31 (k0 hG) (by decide) (by decide) (by decide) rfl ?_
  refine E_aload_n fX9_fail_34 rfl (by decide) ?_
  refine E_getR (r' := 395) fX9_fail_35 (k0 hG) (by decide) (by decide) (by decide) rfl ?_
  refine E_getR (r' := 396) fX9_fail_38 (k395 hA) (by decide) (by decide) (by decide) rfl ?_
  refine E_callV (t := []) hR1 fX9_fail_41 mX5_copyFrom (rc_obj (k377 hG) (by decide) (by decide)) ⟨by decide, rfl⟩ rfl rfl (Nat.le_of_ble_eq_true rfl) ?_
  refine E_aload_n fX9_fail_44 rfl (by decide) ?_
  refine E_getR (r' := 395) fX9_fail_45 (k0 hG) (by decide) (by decide) (by decide) rfl ?_
  refine E_iconst (v := 1) fX9_fail_48 (by decide) ?_
  refine E_putI fX9_fail_49 (k395 hA) (by decide) rfl ?_
  rw [mx_pI2 (r := 395) (by decide)]
  refine E_goto (tg := 59) fX9_fail_52 (by decide) ?_
  refine E_aload_n fX9_fail_59 rfl (by decide) ?_
  refine E_getR (r' := 395) fX9_fail_60 (k0 hG) (by decide) (by decide) (by decide) rfl ?_
  refine E_iconst (v := 0) fX9_fail_63 (by decide) ?_
  refine E_putI fX9_fail_64 (k395 hA) (by decide) rfl ?_
  rw [mx_pI2 (r := 395) (by decide)]
  refine E_aload_n fX9_fail_67 rfl (by decide) ?_
  refine E_getR (r' := 395) fX9_fail_68 (k0 hG) (by decide) (by decide) (by decide) rfl ?_
  refine E_iconst (v := 0) fX9_fail_71 (by decide) ?_
  refine E_putI fX9_fail_72 (k395 hA) (by decide) rfl ?_
  rw [mx_pI2 (r := 395) (by decide)]
  refine E_iload_n fX9_fail_75 rfl ?_
  exact R_iret fX9_fail_76 mX9_fail rfl rfl
theorem come_yes (hA : All G) (h1 : M.1 395 1 = 0) (h3 : M.1 395 3 = 0) : Ret G (d + 1) 54 [.ref 0] M (some (.int 1)) (pI M 395 3 1) := by
  have hG := hA.core
  refine R_start (d := d + 0) (by decide) mX9_come ?_
  show E _ _ _ (0, [some (.ref 0)], [], M, 0) _
  refine E_aload_n fX9_come_0 rfl (by decide) ?_
  refine E_getR (r' := 395) fX9_come_1 (k0 hG) (by decide) (by decide) (by decide) rfl ?_
  refine E_getI fX9_come_4 (k395 hA) (by decide) (by decide) (by decide) ?_
  refine E_ifne (tg := 20) fX9_come_7 (by decide) (fun c => absurd h1 c) (fun c_7 => ?_)
  refine E_aload_n fX9_come_10 rfl (by decide) ?_
  refine E_getR (r' := 395) fX9_come_11 (k0 hG) (by decide) (by decide) (by decide) rfl ?_
  refine E_getI fX9_come_14 (k395 hA) (by decide) (by decide) (by decide) ?_
  refine E_ifeq (tg := 22) fX9_come_17 (by decide) (fun c_17 => ?_) (fun c => absurd h3 c)
  refine E_aload_n fX9_come_22 rfl (by decide) ?_
  refine E_getR (r' := 395) fX9_come_23 (k0 hG) (by decide) (by decide) (by decide) rfl ?_
  refine E_iconst (v := 1) fX9_come_26 (by decide) ?_
  refine E_putI fX9_come_27 (k395 hA) (by decide) rfl ?_
  refine E_iconst (v := 1) fX9_come_30 (by decide) ?_
  exact R_iret fX9_come_31 mX9_come rfl rfl
theorem come_no1 (hA : All G) (h1 : M.1 395 1 = 1) : Ret G (d + 1) 54 [.ref 0] M (some (.int 0)) M := by
  have hG := hA.core
  refine R_start (d := d + 0) (by decide) mX9_come ?_
  show E _ _ _ (0, [some (.ref 0)], [], M, 0) _
  refine E_aload_n fX9_come_0 rfl (by decide) ?_
  refine E_getR (r' := 395) fX9_come_1 (k0 hG) (by decide) (by decide) (by decide) rfl ?_
  refine E_getI fX9_come_4 (k395 hA) (by decide) (by decide) (by decide) ?_
  refine E_ifne (tg := 20) fX9_come_7 (by decide) (fun c_7 => ?_) (fun c => absurd (h1.symm.trans c) (by decide))
  refine E_iconst (v := 0) fX9_come_20 (by decide) ?_
  exact R_iret fX9_come_21 mX9_come rfl rfl
theorem come_no3 (hA : All G) (h1 : M.1 395 1 = 0) (h3 : M.1 395 3 = 1) : Ret G (d + 1) 54 [.ref 0] M (some (.int 0)) M := by
  have hG := hA.core
  refine R_start (d := d + 0) (by decide) mX9_come ?_
  show E _ _ _ (0, [some (.ref 0)], [], M, 0) _
  refine E_aload_n fX9_come_0 rfl (by decide) ?_
  refine E_getR (r' := 395) fX9_come_1 (k0 hG) (by decide) (by decide) (by decide) rfl ?_
  refine E_getI fX9_come_4 (k395 hA) (by decide) (by decide) (by decide) ?_
  refine E_ifne (tg := 20) fX9_come_7 (by decide) (fun c => absurd h1 c) (fun c_7 => ?_)
  refine E_aload_n fX9_come_10 rfl (by decide) ?_
  refine E_getR (r' := 395) fX9_come_11 (k0 hG) (by decide) (by decide) (by decide) rfl ?_
  refine E_getI fX9_come_14 (k395 hA) (by decide) (by decide) (by decide) ?_
  refine E_ifeq (tg := 22) fX9_come_17 (by decide) (fun c => absurd (h3.symm.trans c) (by decide)) (fun c_17 => ?_)
  refine E_iconst (v := 0) fX9_come_20 (by decide) ?_
  exact R_iret fX9_come_21 mX9_come rfl rfl
theorem reset_ok (hA : All G) : ∃ v M', Ret G (d + 3) 55 [.ref 0] M v M' ∧ (v = some (.int (M.1 0 7)) ∧ Z0 M' ∧ M'.1 0 12 = 0 ∧ M'.1 395 1 = 1 ∧ M'.1 395 2 = 0 ∧ M'.1 0 7 = M.1 0 7 ∧ ∀ c s, 0 < c → c < 377 → M'.1 c s = M.1 c s) := by
  have hG := hA.core
  refine X_start (d := d + 2) (by decide) mX9_reset ?_
  show E _ _ _ (0, [some (.ref 0)], [], M, 0) _
  refine E_aload_n fX9_reset_0 rfl (by decide) ?_
  refine E_getR (r' := 377) fX9_reset_1 (k0 hG) (by decide) (by decide) (by decide) rfl ?_
  refine E_aload_n fX9_reset_4 rfl (by decide) ?_
  refine E_getI fX9_reset_5 (k0 hG) (by decide) (by decide) (by decide) ?_
  obtain ⟨v1, M1, hR1, rfl, hF1, z1, z2, z3, z4, z5, z6⟩ := stClear_ok (d := d) (M := M) hG (M.1 0 7)
  refine E_callV (t := []) hR1 fX9_reset_8 mX5_clear (rc_obj (k377 hG) (by decide) (by decide)) ⟨by decide, rfl⟩ rfl rfl (Nat.le_of_ble_eq_true rfl) ?_
  refine E_aload_n fX9_reset_11 rfl (by decide) ?_
  refine E_getR (r' := 395) fX9_reset_12 (k0 hG) (by decide) (by decide) (by decide) rfl ?_
  refine E_callV (t := []) (sbClear_ok (d := d + 1) (M := M1) hA) fX9_reset_15 mX4_clear (rc_obj (k395 hA) (by decide) (by decide)) ⟨by decide, rfl⟩ rfl rfl (Nat.le_of_ble_eq_true rfl) ?_
  refine E_aload_n fX9_reset_18 rfl (by decide) ?_
  refine E_iconst (v := 0) fX9_reset_19 (by decide) ?_
  refine E_putI fX9_reset_20 (k0 hG) (by decide) rfl ?_
  refine E_aload_n fX9_reset_23 rfl (by decide) ?_
  refine E_getR (r' := 405) fX9_reset_24 (k0 hG) (by decide) (by decide) (by decide) rfl ?_
  refine E_callV (t := []) (forgetLosses_ok (d := d + 1) (M := (pI (pI (pI (pI (pI M1 395 1 1) 395 2 0) 395 3 0) 395 4 0) 0 12 0)) hG) fX9_reset_27 mX1_forgetLosses (rc_obj (k405 hG) (by decide) (by decide)) ⟨by decide, rfl⟩ rfl rfl (Nat.le_of_ble_eq_true rfl) ?_
  refine E_aload_n fX9_reset_30 rfl (by decide) ?_
  refine E_getR (r' := 405) fX9_reset_31 (k0 hG) (by decide) (by decide) (by decide) rfl ?_
  generalize hM2 : (pI (pI (pI (pI (pI (pI (pI M1 395 1 1) 395 2 0) 395 3 0) 395 4 0) 0 12 0) 405 3 0) 405 4 0) = M2
  have F2 : ∀ c s, c ≠ 395 → c ≠ 405 → (c ≠ 0 ∨ s ≠ 12) → M2.1 c s = M1.1 c s := fun c s a1 a2 a3 => by rw [← hM2, pI_ne (Or.inl a2), pI_ne (Or.inl a2), pI_ne a3, pI_ne (Or.inl a1), pI_ne (Or.inl a1), pI_ne (Or.inl a1), pI_ne (Or.inl a1)]
  have F3 : M2.1 0 12 = 0 ∧ M2.1 395 1 = 1 ∧ M2.1 395 2 = 0 := by
    rw [← hM2]
    refine ⟨?_, ?_, ?_⟩
    · rw [pI_ne (Or.inl (by decide)), pI_ne (Or.inl (by decide)), pI_at]
    · rw [pI_ne (Or.inl (by decide)), pI_ne (Or.inl (by decide)), pI_ne (Or.inl (by decide)), pI_ne (Or.inr (by decide)), pI_ne (Or.inr (by decide)), pI_ne (Or.inr (by decide)), pI_at]
    · rw [pI_ne (Or.inl (by decide)), pI_ne (Or.inl (by decide)), pI_ne (Or.inl (by decide)), pI_ne (Or.inr (by decide)), pI_ne (Or.inr (by decide)), pI_at]
  refine E_aload_n fX9_reset_34 rfl (by decide) ?_
  refine E_getI fX9_reset_35 (k0 hG) (by decide) (by decide) (by decide) ?_
  refine E_callS (t := [.ref 405]) (outputsOf_ok (d := d + 1) (M2.1 0 9)) fX9_reset_38 (by decide) mX9_outputsOf ⟨rfl, rfl⟩ rfl rfl (Nat.le_of_ble_eq_true rfl) ?_
  obtain ⟨v3, M3, hR3, rfl, hP, -⟩ := giveAll_ok (d := d) (M := M2) hG (outB (M2.1 0 9))
  refine E_callV (t := []) hR3 fX9_reset_41 mX1_giveAll (rc_obj (k405 hG) (by decide) (by decide)) ⟨by decide, rfl⟩ rfl rfl (Nat.le_of_ble_eq_true rfl) ?_
  refine E_aload_n fX9_reset_44 rfl (by decide) ?_
  refine E_getI fX9_reset_45 (k0 hG) (by decide) (by decide) (by decide) ?_
  refine R_iret fX9_reset_48 mX9_reset rfl ?_
  have W : ∀ c s, c ≠ 395 → c ≠ 405 → c ≠ 406 → (c ≠ 0 ∨ s ≠ 12) → M3.1 c s = M1.1 c s := fun c s a1 a2 a3 a4 => (hP.1 c s a3 (Or.inl a2)).trans (F2 c s a1 a2 a4)
  have e7 : M3.1 0 7 = M.1 0 7 := (W 0 7 (by decide) (by decide) (by decide) (Or.inr (by decide))).trans (hF1.1 0 7 rfl)
  refine ⟨_, _, rfl, by rw [e7], ⟨(W _ _ (by decide) (by decide) (by decide) (Or.inl (by decide))).trans z1, fun k hk => ⟨(W _ _ (by decide) (by decide) (by decide) (Or.inl (by decide))).trans (z2 k hk).1, (W _ _ (by decide) (by decide) (by decide) (Or.inl (by decide))).trans (z2 k hk).2⟩, fun k hk => (W _ _ (by decide) (by decide) (by decide) (Or.inl (by decide))).trans (z3 k hk), (W _ _ (by decide) (by decide) (by decide) (Or.inl (by decide))).trans z4, (W _ _ (by decide) (by decide) (by decide) (Or.inl (by decide))).trans z5, fun k hk => (W _ _ (by decide) (by decide) (by decide) (Or.inl (by decide))).trans (z6 k hk)⟩, (hP.1 _ _ (by decide) (Or.inl (by decide))).trans F3.1, (hP.1 _ _ (by decide) (Or.inl (by decide))).trans F3.2.1, (hP.1 _ _ (by decide) (Or.inl (by decide))).trans F3.2.2, e7, fun c s a b => (W c s (by omega) (by omega) (by omega) (by omega)).trans (hF1.1 c s ?_)⟩
  unfold stB
  simp only [Bool.and_eq_false_iff, decide_eq_false_iff_not]
  omega
end SP13
